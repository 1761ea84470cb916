theorem dJ7_fill_53178_0 : decode cJ7_fill_53178 0 = .ok (.iconst 0, 1) := by decide +kernel
theorem dJ7_fill_53178_1 : decode cJ7_fill_53178 1 = .ok (.istore_n 2, 1) := by decide +kernel
theorem dJ7_fill_53178_2 : decode cJ7_fill_53178 2 = .ok (.aload_n 0, 1) := by decide +kernel
theorem dJ7_fill_53178_3 : decode cJ7_fill_53178 3 = .ok (.arraylength, 1) := by decide +kernel
theorem dJ7_fill_53178_4 : decode cJ7_fill_53178 4 = .ok (.istore_n 3, 1) := by decide +kernel
theorem dJ7_fill_53178_5 : decode cJ7_fill_53178 5 = .ok (.iload_n 2, 1) := by decide +kernel
theorem dJ7_fill_53178_6 : decode cJ7_fill_53178 6 = .ok (.iload_n 3, 1) := by decide +kernel
theorem dJ7_fill_53178_7 : decode cJ7_fill_53178 7 = .ok (.if_icmp .ge 13, 3) := by decide +kernel
theorem dJ7_fill_53178_10 : decode cJ7_fill_53178 10 = .ok (.aload_n 0, 1) := by decide +kernel
theorem dJ7_fill_53178_11 : decode cJ7_fill_53178 11 = .ok (.iload_n 2, 1) := by decide +kernel
theorem dJ7_fill_53178_12 : decode cJ7_fill_53178 12 = .ok (.iload_n 1, 1) := by decide +kernel
theorem dJ7_fill_53178_13 : decode cJ7_fill_53178 13 = .ok (.iastore, 1) := by decide +kernel
theorem dJ7_fill_53178_14 : decode cJ7_fill_53178 14 = .ok (.iinc 2 1, 3) := by decide +kernel
theorem dJ7_fill_53178_17 : decode cJ7_fill_53178 17 = .ok (.goto (-12), 3) := by decide +kernel
theorem dJ7_fill_53178_20 : decode cJ7_fill_53178 20 = .ok (.return_, 1) := by decide +kernel
theorem dJ9_floorMod_7cf53_0 : decode cJ9_floorMod_7cf53 0 = .ok (.iload_n 0, 1) := by decide +kernel
theorem dJ9_floorMod_7cf53_1 : decode cJ9_floorMod_7cf53 1 = .ok (.iload_n 1, 1) := by decide +kernel
theorem dJ9_floorMod_7cf53_2 : decode cJ9_floorMod_7cf53 2 = .ok (.irem, 1) := by decide +kernel
theorem dJ9_floorMod_7cf53_3 : decode cJ9_floorMod_7cf53 3 = .ok (.istore_n 2, 1) := by decide +kernel
theorem dJ9_floorMod_7cf53_4 : decode cJ9_floorMod_7cf53 4 = .ok (.iload_n 0, 1) := by decide +kernel
theorem dJ9_floorMod_7cf53_5 : decode cJ9_floorMod_7cf53 5 = .ok (.iload_n 1, 1) := by decide +kernel
theorem dJ9_floorMod_7cf53_6 : decode cJ9_floorMod_7cf53 6 = .ok (.ixor, 1) := by decide +kernel
theorem dJ9_floorMod_7cf53_7 : decode cJ9_floorMod_7cf53 7 = .ok (.ifCond .ge 11, 3) := by decide +kernel
theorem dJ9_floorMod_7cf53_18 : decode cJ9_floorMod_7cf53 18 = .ok (.iload_n 2, 1) := by decide +kernel
theorem dJ9_floorMod_7cf53_19 : decode cJ9_floorMod_7cf53 19 = .ok (.ireturn, 1) := by decide +kernel
theorem dL_addCall_0 : decode cL_addCall 0 = .ok (.aload 4, 2) := by decide +kernel
theorem dL_addCall_2 : decode cL_addCall 2 = .ok (.iconst 0, 1) := by decide +kernel
theorem dL_addCall_3 : decode cL_addCall 3 = .ok (.aload_n 0, 1) := by decide +kernel
theorem dL_addCall_4 : decode cL_addCall 4 = .ok (.iload_n 1, 1) := by decide +kernel
theorem dL_addCall_5 : decode cL_addCall 5 = .ok (.iload_n 2, 1) := by decide +kernel
theorem dL_addCall_6 : decode cL_addCall 6 = .ok (.iload_n 3, 1) := by decide +kernel
theorem dL_addCall_7 : decode cL_addCall 7 = .ok (.invokevirtual 23, 3) := by decide +kernel
theorem dL_addCall_10 : decode cL_addCall 10 = .ok (.i2l, 1) := by decide +kernel
theorem dL_addCall_11 : decode cL_addCall 11 = .ok (.lastore, 1) := by decide +kernel
theorem dL_addCall_12 : decode cL_addCall 12 = .ok (.goto 15, 3) := by decide +kernel
theorem dL_addCall_15 : decode cL_addCall 15 = .ok (.astore 5, 2) := by decide +kernel
theorem dL_addCall_17 : decode cL_addCall 17 = .ok (.iconst 1, 1) := by decide +kernel
theorem dL_addCall_18 : decode cL_addCall 18 = .ok (.ireturn, 1) := by decide +kernel
theorem dL_addCall_19 : decode cL_addCall 19 = .ok (.astore 5, 2) := by decide +kernel
theorem dL_addCall_21 : decode cL_addCall 21 = .ok (.iconst 2, 1) := by decide +kernel
theorem dL_addCall_22 : decode cL_addCall 22 = .ok (.ireturn, 1) := by decide +kernel
theorem dL_addCall_27 : decode cL_addCall 27 = .ok (.iconst 0, 1) := by decide +kernel
theorem dL_addCall_28 : decode cL_addCall 28 = .ok (.ireturn, 1) := by decide +kernel
theorem dL_addClip_0 : decode cL_addClip 0 = .ok (.aload 6, 2) := by decide +kernel
theorem dL_addClip_2 : decode cL_addClip 2 = .ok (.iconst 0, 1) := by decide +kernel
theorem dL_addClip_3 : decode cL_addClip 3 = .ok (.aload_n 0, 1) := by decide +kernel
theorem dL_addClip_4 : decode cL_addClip 4 = .ok (.iload_n 1, 1) := by decide +kernel
theorem dL_addClip_5 : decode cL_addClip 5 = .ok (.iload_n 2, 1) := by decide +kernel
theorem dL_addClip_6 : decode cL_addClip 6 = .ok (.iload_n 3, 1) := by decide +kernel
theorem dL_addClip_7 : decode cL_addClip 7 = .ok (.iload 4, 2) := by decide +kernel
theorem dL_addClip_9 : decode cL_addClip 9 = .ok (.iload 5, 2) := by decide +kernel
theorem dL_addClip_11 : decode cL_addClip 11 = .ok (.invokevirtual 41, 3) := by decide +kernel
theorem dL_addClip_14 : decode cL_addClip 14 = .ok (.i2l, 1) := by decide +kernel
theorem dL_addClip_15 : decode cL_addClip 15 = .ok (.lastore, 1) := by decide +kernel
theorem dL_addClip_16 : decode cL_addClip 16 = .ok (.goto 11, 3) := by decide +kernel
theorem dL_addClip_19 : decode cL_addClip 19 = .ok (.astore 7, 2) := by decide +kernel
theorem dL_addClip_21 : decode cL_addClip 21 = .ok (.iconst 1, 1) := by decide +kernel
theorem dL_addClip_22 : decode cL_addClip 22 = .ok (.ireturn, 1) := by decide +kernel
theorem dL_addClip_27 : decode cL_addClip 27 = .ok (.iconst 0, 1) := by decide +kernel
theorem dL_addClip_28 : decode cL_addClip 28 = .ok (.ireturn, 1) := by decide +kernel
theorem dL_addNote_0 : decode cL_addNote 0 = .ok (.aload 5, 2) := by decide +kernel
theorem dL_addNote_2 : decode cL_addNote 2 = .ok (.iconst 0, 1) := by decide +kernel
theorem dL_addNote_3 : decode cL_addNote 3 = .ok (.aload_n 0, 1) := by decide +kernel
theorem dL_addNote_4 : decode cL_addNote 4 = .ok (.iload_n 1, 1) := by decide +kernel
theorem dL_addNote_5 : decode cL_addNote 5 = .ok (.iload_n 2, 1) := by decide +kernel
theorem dL_addNote_6 : decode cL_addNote 6 = .ok (.iload_n 3, 1) := by decide +kernel
theorem dL_addNote_7 : decode cL_addNote 7 = .ok (.iload 4, 2) := by decide +kernel
theorem dL_addNote_9 : decode cL_addNote 9 = .ok (.invokevirtual 7, 3) := by decide +kernel
theorem dL_addNote_12 : decode cL_addNote 12 = .ok (.i2l, 1) := by decide +kernel
theorem dL_addNote_13 : decode cL_addNote 13 = .ok (.lastore, 1) := by decide +kernel
theorem dL_addNote_14 : decode cL_addNote 14 = .ok (.goto 15, 3) := by decide +kernel
theorem dL_addNote_17 : decode cL_addNote 17 = .ok (.astore 6, 2) := by decide +kernel
theorem dL_addNote_19 : decode cL_addNote 19 = .ok (.iconst 1, 1) := by decide +kernel
theorem dL_addNote_20 : decode cL_addNote 20 = .ok (.ireturn, 1) := by decide +kernel
theorem dL_addNote_21 : decode cL_addNote 21 = .ok (.astore 6, 2) := by decide +kernel
theorem dL_addNote_23 : decode cL_addNote 23 = .ok (.iconst 2, 1) := by decide +kernel
theorem dL_addNote_24 : decode cL_addNote 24 = .ok (.ireturn, 1) := by decide +kernel
theorem dL_addNote_29 : decode cL_addNote 29 = .ok (.iconst 0, 1) := by decide +kernel
theorem dL_addNote_30 : decode cL_addNote 30 = .ok (.ireturn, 1) := by decide +kernel
theorem dL_addRest_0 : decode cL_addRest 0 = .ok (.aload_n 3, 1) := by decide +kernel
theorem dL_addRest_1 : decode cL_addRest 1 = .ok (.iconst 0, 1) := by decide +kernel
theorem dL_addRest_2 : decode cL_addRest 2 = .ok (.aload_n 0, 1) := by decide +kernel
theorem dL_addRest_3 : decode cL_addRest 3 = .ok (.iload_n 1, 1) := by decide +kernel
theorem dL_addRest_4 : decode cL_addRest 4 = .ok (.iload_n 2, 1) := by decide +kernel
theorem dL_addRest_5 : decode cL_addRest 5 = .ok (.invokevirtual 19, 3) := by decide +kernel
theorem dL_addRest_8 : decode cL_addRest 8 = .ok (.i2l, 1) := by decide +kernel
theorem dL_addRest_9 : decode cL_addRest 9 = .ok (.lastore, 1) := by decide +kernel
theorem dL_addRest_10 : decode cL_addRest 10 = .ok (.goto 15, 3) := by decide +kernel
theorem dL_addRest_13 : decode cL_addRest 13 = .ok (.astore 4, 2) := by decide +kernel
theorem dL_addRest_15 : decode cL_addRest 15 = .ok (.iconst 1, 1) := by decide +kernel
theorem dL_addRest_16 : decode cL_addRest 16 = .ok (.ireturn, 1) := by decide +kernel
theorem dL_addRest_17 : decode cL_addRest 17 = .ok (.astore 4, 2) := by decide +kernel
theorem dL_addRest_19 : decode cL_addRest 19 = .ok (.iconst 2, 1) := by decide +kernel
theorem dL_addRest_20 : decode cL_addRest 20 = .ok (.ireturn, 1) := by decide +kernel
theorem dL_addRest_25 : decode cL_addRest 25 = .ok (.iconst 0, 1) := by decide +kernel
theorem dL_addRest_26 : decode cL_addRest 26 = .ok (.ireturn, 1) := by decide +kernel
theorem dL_append_0 : decode cL_append 0 = .ok (.aload_n 2, 1) := by decide +kernel
theorem dL_append_1 : decode cL_append 1 = .ok (.iconst 0, 1) := by decide +kernel
theorem dL_append_2 : decode cL_append 2 = .ok (.aload_n 0, 1) := by decide +kernel
theorem dL_append_3 : decode cL_append 3 = .ok (.iload_n 1, 1) := by decide +kernel
theorem dL_append_4 : decode cL_append 4 = .ok (.invokevirtual 132, 3) := by decide +kernel
theorem dL_append_7 : decode cL_append 7 = .ok (.i2l, 1) := by decide +kernel
theorem dL_append_8 : decode cL_append 8 = .ok (.lastore, 1) := by decide +kernel
theorem dL_append_9 : decode cL_append 9 = .ok (.goto 9, 3) := by decide +kernel
theorem dL_append_12 : decode cL_append 12 = .ok (.astore_n 3, 1) := by decide +kernel
theorem dL_append_13 : decode cL_append 13 = .ok (.iconst 1, 1) := by decide +kernel
theorem dL_append_14 : decode cL_append 14 = .ok (.ireturn, 1) := by decide +kernel
theorem dL_append_18 : decode cL_append 18 = .ok (.iconst 0, 1) := by decide +kernel
theorem dL_append_19 : decode cL_append 19 = .ok (.ireturn, 1) := by decide +kernel
theorem dL_busy_0 : decode cL_busy 0 = .ok (.aload_n 2, 1) := by decide +kernel
theorem dL_busy_1 : decode cL_busy 1 = .ok (.iconst 0, 1) := by decide +kernel
theorem dL_busy_2 : decode cL_busy 2 = .ok (.aload_n 0, 1) := by decide +kernel
theorem dL_busy_3 : decode cL_busy 3 = .ok (.iload_n 1, 1) := by decide +kernel
theorem dL_busy_4 : decode cL_busy 4 = .ok (.invokevirtual 117, 3) := by decide +kernel
theorem dL_busy_7 : decode cL_busy 7 = .ok (.i2l, 1) := by decide +kernel
theorem dL_busy_8 : decode cL_busy 8 = .ok (.lastore, 1) := by decide +kernel
theorem dL_busy_9 : decode cL_busy 9 = .ok (.goto 6, 3) := by decide +kernel
theorem dL_busy_12 : decode cL_busy 12 = .ok (.astore_n 3, 1) := by decide +kernel
theorem dL_busy_13 : decode cL_busy 13 = .ok (.iconst 1, 1) := by decide +kernel
theorem dL_busy_14 : decode cL_busy 14 = .ok (.ireturn, 1) := by decide +kernel
theorem dL_busy_15 : decode cL_busy 15 = .ok (.iconst 0, 1) := by decide +kernel
theorem dL_busy_16 : decode cL_busy 16 = .ok (.ireturn, 1) := by decide +kernel
theorem dL_clip_0 : decode cL_clip 0 = .ok (.aload_n 3, 1) := by decide +kernel
theorem dL_clip_1 : decode cL_clip 1 = .ok (.iconst 0, 1) := by decide +kernel
theorem dL_clip_2 : decode cL_clip 2 = .ok (.aload_n 0, 1) := by decide +kernel
theorem dL_clip_3 : decode cL_clip 3 = .ok (.iload_n 1, 1) := by decide +kernel
theorem dL_clip_4 : decode cL_clip 4 = .ok (.iload_n 2, 1) := by decide +kernel
theorem dL_clip_5 : decode cL_clip 5 = .ok (.invokevirtual 52, 3) := by decide +kernel
theorem dL_clip_13 : decode cL_clip 13 = .ok (.astore 4, 2) := by decide +kernel
theorem dL_clip_15 : decode cL_clip 15 = .ok (.iconst 1, 1) := by decide +kernel
theorem dL_clip_16 : decode cL_clip 16 = .ok (.ireturn, 1) := by decide +kernel
theorem dL_count_0 : decode cL_count 0 = .ok (.aload_n 2, 1) := by decide +kernel
theorem dL_count_1 : decode cL_count 1 = .ok (.iconst 0, 1) := by decide +kernel
theorem dL_count_2 : decode cL_count 2 = .ok (.aload_n 0, 1) := by decide +kernel
theorem dL_count_3 : decode cL_count 3 = .ok (.iload_n 1, 1) := by decide +kernel
theorem dL_count_4 : decode cL_count 4 = .ok (.invokevirtual 55, 3) := by decide +kernel
theorem dL_count_7 : decode cL_count 7 = .ok (.i2l, 1) := by decide +kernel
theorem dL_count_8 : decode cL_count 8 = .ok (.lastore, 1) := by decide +kernel
theorem dL_count_9 : decode cL_count 9 = .ok (.goto 6, 3) := by decide +kernel
theorem dL_count_12 : decode cL_count 12 = .ok (.astore_n 3, 1) := by decide +kernel
theorem dL_count_13 : decode cL_count 13 = .ok (.iconst 1, 1) := by decide +kernel
theorem dL_count_14 : decode cL_count 14 = .ok (.ireturn, 1) := by decide +kernel
theorem dL_count_15 : decode cL_count 15 = .ok (.iconst 0, 1) := by decide +kernel
theorem dL_count_16 : decode cL_count 16 = .ok (.ireturn, 1) := by decide +kernel
theorem dL_cutBy_0 : decode cL_cutBy 0 = .ok (.aload_n 2, 1) := by decide +kernel
theorem dL_cutBy_1 : decode cL_cutBy 1 = .ok (.iconst 0, 1) := by decide +kernel
theorem dL_cutBy_2 : decode cL_cutBy 2 = .ok (.aload_n 0, 1) := by decide +kernel
theorem dL_cutBy_3 : decode cL_cutBy 3 = .ok (.iload_n 1, 1) := by decide +kernel
theorem dL_cutBy_4 : decode cL_cutBy 4 = .ok (.invokevirtual 65, 3) := by decide +kernel
theorem dL_cutBy_12 : decode cL_cutBy 12 = .ok (.astore_n 3, 1) := by decide +kernel
theorem dL_cutBy_13 : decode cL_cutBy 13 = .ok (.iconst 1, 1) := by decide +kernel
theorem dL_cutBy_14 : decode cL_cutBy 14 = .ok (.ireturn, 1) := by decide +kernel
theorem dL_describe_0 : decode cL_describe 0 = .ok (.aload_n 3, 1) := by decide +kernel
theorem dL_describe_1 : decode cL_describe 1 = .ok (.iconst 0, 1) := by decide +kernel
theorem dL_describe_2 : decode cL_describe 2 = .ok (.aload_n 0, 1) := by decide +kernel
theorem dL_describe_3 : decode cL_describe 3 = .ok (.iload_n 1, 1) := by decide +kernel
theorem dL_describe_4 : decode cL_describe 4 = .ok (.iload_n 2, 1) := by decide +kernel
theorem dL_describe_5 : decode cL_describe 5 = .ok (.invokevirtual 143, 3) := by decide +kernel
theorem dL_describe_8 : decode cL_describe 8 = .ok (.i2l, 1) := by decide +kernel
theorem dL_describe_9 : decode cL_describe 9 = .ok (.lastore, 1) := by decide +kernel
theorem dL_describe_10 : decode cL_describe 10 = .ok (.goto 11, 3) := by decide +kernel
theorem dL_describe_13 : decode cL_describe 13 = .ok (.astore 4, 2) := by decide +kernel
theorem dL_describe_15 : decode cL_describe 15 = .ok (.iconst 1, 1) := by decide +kernel
theorem dL_describe_16 : decode cL_describe 16 = .ok (.ireturn, 1) := by decide +kernel
theorem dL_describe_17 : decode cL_describe 17 = .ok (.astore 4, 2) := by decide +kernel
theorem dL_describe_19 : decode cL_describe 19 = .ok (.iconst 2, 1) := by decide +kernel
theorem dL_describe_20 : decode cL_describe 20 = .ok (.ireturn, 1) := by decide +kernel
theorem dL_describe_21 : decode cL_describe 21 = .ok (.iconst 0, 1) := by decide +kernel
theorem dL_describe_22 : decode cL_describe 22 = .ok (.ireturn, 1) := by decide +kernel
theorem dL_errorPosition_0 : decode cL_errorPosition 0 = .ok (.aload_n 1, 1) := by decide +kernel
theorem dL_errorPosition_1 : decode cL_errorPosition 1 = .ok (.iconst 0, 1) := by decide +kernel
theorem dL_errorPosition_2 : decode cL_errorPosition 2 = .ok (.aload_n 0, 1) := by decide +kernel
theorem dL_errorPosition_3 : decode cL_errorPosition 3 = .ok (.invokevirtual 139, 3) := by decide +kernel
theorem dL_errorPosition_11 : decode cL_errorPosition 11 = .ok (.astore_n 2, 1) := by decide +kernel
theorem dL_errorPosition_12 : decode cL_errorPosition 12 = .ok (.iconst 1, 1) := by decide +kernel
theorem dL_errorPosition_13 : decode cL_errorPosition 13 = .ok (.ireturn, 1) := by decide +kernel
theorem dL_event_0 : decode cL_event 0 = .ok (.aload_n 3, 1) := by decide +kernel
theorem dL_event_1 : decode cL_event 1 = .ok (.iconst 0, 1) := by decide +kernel
theorem dL_event_2 : decode cL_event 2 = .ok (.aload_n 0, 1) := by decide +kernel
theorem dL_event_3 : decode cL_event 3 = .ok (.iload_n 1, 1) := by decide +kernel
theorem dL_event_4 : decode cL_event 4 = .ok (.iload_n 2, 1) := by decide +kernel
theorem dL_event_5 : decode cL_event 5 = .ok (.invokevirtual 126, 3) := by decide +kernel
theorem dL_event_13 : decode cL_event 13 = .ok (.astore 4, 2) := by decide +kernel
theorem dL_event_15 : decode cL_event 15 = .ok (.iconst 1, 1) := by decide +kernel
theorem dL_event_16 : decode cL_event 16 = .ok (.ireturn, 1) := by decide +kernel
theorem dL_eventFrom_0 : decode cL_eventFrom 0 = .ok (.aload_n 2, 1) := by decide +kernel
theorem dL_eventFrom_1 : decode cL_eventFrom 1 = .ok (.iconst 0, 1) := by decide +kernel
theorem dL_eventFrom_2 : decode cL_eventFrom 2 = .ok (.aload_n 0, 1) := by decide +kernel
theorem dL_eventFrom_3 : decode cL_eventFrom 3 = .ok (.iload_n 1, 1) := by decide +kernel
theorem dL_eventFrom_4 : decode cL_eventFrom 4 = .ok (.invokevirtual 129, 3) := by decide +kernel
theorem dL_eventFrom_12 : decode cL_eventFrom 12 = .ok (.astore_n 3, 1) := by decide +kernel
theorem dL_eventFrom_13 : decode cL_eventFrom 13 = .ok (.iconst 1, 1) := by decide +kernel
theorem dL_eventFrom_14 : decode cL_eventFrom 14 = .ok (.ireturn, 1) := by decide +kernel
theorem dL_eventFrom_15 : decode cL_eventFrom 15 = .ok (.astore_n 3, 1) := by decide +kernel
theorem dL_eventFrom_16 : decode cL_eventFrom 16 = .ok (.iconst 2, 1) := by decide +kernel
theorem dL_eventFrom_17 : decode cL_eventFrom 17 = .ok (.ireturn, 1) := by decide +kernel
theorem dL_instrument_0 : decode cL_instrument 0 = .ok (.aload_n 3, 1) := by decide +kernel
theorem dL_instrument_1 : decode cL_instrument 1 = .ok (.iconst 0, 1) := by decide +kernel
theorem dL_instrument_2 : decode cL_instrument 2 = .ok (.aload_n 0, 1) := by decide +kernel
theorem dL_instrument_3 : decode cL_instrument 3 = .ok (.iload_n 1, 1) := by decide +kernel
theorem dL_instrument_4 : decode cL_instrument 4 = .ok (.iload_n 2, 1) := by decide +kernel
theorem dL_instrument_5 : decode cL_instrument 5 = .ok (.invokevirtual 96, 3) := by decide +kernel
theorem dL_instrument_8 : decode cL_instrument 8 = .ok (.i2l, 1) := by decide +kernel
theorem dL_instrument_9 : decode cL_instrument 9 = .ok (.lastore, 1) := by decide +kernel
theorem dL_instrument_10 : decode cL_instrument 10 = .ok (.goto 11, 3) := by decide +kernel
theorem dL_instrument_13 : decode cL_instrument 13 = .ok (.astore 4, 2) := by decide +kernel
theorem dL_instrument_15 : decode cL_instrument 15 = .ok (.iconst 1, 1) := by decide +kernel
theorem dL_instrument_16 : decode cL_instrument 16 = .ok (.ireturn, 1) := by decide +kernel
theorem dL_instrument_17 : decode cL_instrument 17 = .ok (.astore 4, 2) := by decide +kernel
theorem dL_instrument_19 : decode cL_instrument 19 = .ok (.iconst 2, 1) := by decide +kernel
theorem dL_instrument_20 : decode cL_instrument 20 = .ok (.ireturn, 1) := by decide +kernel
theorem dL_instrument_21 : decode cL_instrument 21 = .ok (.iconst 0, 1) := by decide +kernel
theorem dL_instrument_22 : decode cL_instrument 22 = .ok (.ireturn, 1) := by decide +kernel
theorem dL_isCut_0 : decode cL_isCut 0 = .ok (.aload_n 2, 1) := by decide +kernel
theorem dL_isCut_1 : decode cL_isCut 1 = .ok (.iconst 0, 1) := by decide +kernel
theorem dL_isCut_2 : decode cL_isCut 2 = .ok (.aload_n 0, 1) := by decide +kernel
theorem dL_isCut_3 : decode cL_isCut 3 = .ok (.iload_n 1, 1) := by decide +kernel
theorem dL_isCut_4 : decode cL_isCut 4 = .ok (.invokevirtual 61, 3) := by decide +kernel
theorem dL_isCut_19 : decode cL_isCut 19 = .ok (.astore_n 3, 1) := by decide +kernel
theorem dL_isCut_20 : decode cL_isCut 20 = .ok (.iconst 1, 1) := by decide +kernel
theorem dL_isCut_21 : decode cL_isCut 21 = .ok (.ireturn, 1) := by decide +kernel
theorem dL_item_0 : decode cL_item 0 = .ok (.aload 4, 2) := by decide +kernel
theorem dL_item_2 : decode cL_item 2 = .ok (.iconst 0, 1) := by decide +kernel
theorem dL_item_3 : decode cL_item 3 = .ok (.aload_n 0, 1) := by decide +kernel
theorem dL_item_4 : decode cL_item 4 = .ok (.iload_n 1, 1) := by decide +kernel
theorem dL_item_5 : decode cL_item 5 = .ok (.iload_n 2, 1) := by decide +kernel
theorem dL_item_6 : decode cL_item 6 = .ok (.iload_n 3, 1) := by decide +kernel
theorem dL_item_7 : decode cL_item 7 = .ok (.invokevirtual 33, 3) := by decide +kernel
theorem dL_item_15 : decode cL_item 15 = .ok (.astore 5, 2) := by decide +kernel
theorem dL_item_17 : decode cL_item 17 = .ok (.iconst 1, 1) := by decide +kernel
theorem dL_item_18 : decode cL_item 18 = .ok (.ireturn, 1) := by decide +kernel
theorem dL_law_0 : decode cL_law 0 = .ok (.new 8, 3) := by decide +kernel
theorem dL_law_3 : decode cL_law 3 = .ok (.dup, 1) := by decide +kernel
theorem dL_law_4 : decode cL_law 4 = .ok (.invokespecial 152, 3) := by decide +kernel
theorem dL_law_7 : decode cL_law 7 = .ok (.astore_n 1, 1) := by decide +kernel
theorem dL_law_8 : decode cL_law 8 = .ok (.new 153, 3) := by decide +kernel
theorem dL_law_11 : decode cL_law 11 = .ok (.dup, 1) := by decide +kernel
theorem dL_law_12 : decode cL_law 12 = .ok (.invokespecial 155, 3) := by decide +kernel
theorem dL_law_15 : decode cL_law 15 = .ok (.astore_n 2, 1) := by decide +kernel
theorem dL_law_16 : decode cL_law 16 = .ok (.iconst 1, 1) := by decide +kernel
theorem dL_law_17 : decode cL_law 17 = .ok (.newarray .long, 2) := by decide +kernel
theorem dL_law_19 : decode cL_law 19 = .ok (.astore_n 3, 1) := by decide +kernel
theorem dL_law_20 : decode cL_law 20 = .ok (.iconst 1, 1) := by decide +kernel
theorem dL_law_21 : decode cL_law 21 = .ok (.newarray .double, 2) := by decide +kernel
theorem dL_law_23 : decode cL_law 23 = .ok (.astore 4, 2) := by decide +kernel
theorem dL_law_25 : decode cL_law 25 = .ok (.iconst 0, 1) := by decide +kernel
theorem dL_law_26 : decode cL_law 26 = .ok (.istore 5, 2) := by decide +kernel
theorem dL_law_28 : decode cL_law 28 = .ok (.iload 5, 2) := by decide +kernel
theorem dL_law_30 : decode cL_law 30 = .ok (.aload_n 0, 1) := by decide +kernel
theorem dL_law_31 : decode cL_law 31 = .ok (.arraylength, 1) := by decide +kernel
theorem dL_law_32 : decode cL_law 32 = .ok (.bipush 6, 2) := by decide +kernel
theorem dL_law_34 : decode cL_law 34 = .ok (.isub, 1) := by decide +kernel
theorem dL_law_35 : decode cL_law 35 = .ok (.if_icmp .gt 2929, 3) := by decide +kernel
theorem dL_law_38 : decode cL_law 38 = .ok (.aload_n 0, 1) := by decide +kernel
theorem dL_law_39 : decode cL_law 39 = .ok (.iload 5, 2) := by decide +kernel
theorem dL_law_41 : decode cL_law 41 = .ok (.iaload, 1) := by decide +kernel
theorem dL_law_42 : decode cL_law 42 = .ok (.bipush 63, 2) := by decide +kernel
theorem dL_law_44 : decode cL_law 44 = .ok (.iand, 1) := by decide +kernel
theorem dL_law_45 : decode cL_law 45 = .ok (.tableswitch 2913 0 44 #[195, 208, 300, 368, 448, 516, 584, 664, 744, 848, 904, 972, 1040, 1096, 1164, 1227, 1283, 1351, 1407, 1463, 1519, 1575, 1659, 1715, 1819, 1887, 1955, 2011, 2067, 2135, 2191, 2247, 2315, 2328, 2384, 2449, 2462, 2530, 2586, 2644, 2700, 2744, 2812, 2856, 2869], 195) := by decide +kernel
theorem dL_law_240 : decode cL_law 240 = .ok (.aload_n 1, 1) := by decide +kernel
theorem dL_law_241 : decode cL_law 241 = .ok (.invokevirtual 156, 3) := by decide +kernel
theorem dL_law_244 : decode cL_law 244 = .ok (.aload_n 2, 1) := by decide +kernel
theorem dL_law_245 : decode cL_law 245 = .ok (.invokevirtual 159, 3) := by decide +kernel
theorem dL_law_248 : decode cL_law 248 = .ok (.if_icmp .eq 2710, 3) := by decide +kernel
theorem dL_law_253 : decode cL_law 253 = .ok (.aload_n 1, 1) := by decide +kernel
theorem dL_law_254 : decode cL_law 254 = .ok (.aload_n 0, 1) := by decide +kernel
theorem dL_law_255 : decode cL_law 255 = .ok (.iload 5, 2) := by decide +kernel
theorem dL_law_257 : decode cL_law 257 = .ok (.iconst 1, 1) := by decide +kernel
theorem dL_law_258 : decode cL_law 258 = .ok (.iadd, 1) := by decide +kernel
theorem dL_law_259 : decode cL_law 259 = .ok (.iaload, 1) := by decide +kernel
theorem dL_law_260 : decode cL_law 260 = .ok (.aload_n 0, 1) := by decide +kernel
theorem dL_law_261 : decode cL_law 261 = .ok (.iload 5, 2) := by decide +kernel
theorem dL_law_263 : decode cL_law 263 = .ok (.iconst 2, 1) := by decide +kernel
theorem dL_law_264 : decode cL_law 264 = .ok (.iadd, 1) := by decide +kernel
theorem dL_law_265 : decode cL_law 265 = .ok (.iaload, 1) := by decide +kernel
theorem dL_law_266 : decode cL_law 266 = .ok (.aload_n 0, 1) := by decide +kernel
theorem dL_law_267 : decode cL_law 267 = .ok (.iload 5, 2) := by decide +kernel
theorem dL_law_269 : decode cL_law 269 = .ok (.iconst 3, 1) := by decide +kernel
theorem dL_law_270 : decode cL_law 270 = .ok (.iadd, 1) := by decide +kernel
theorem dL_law_271 : decode cL_law 271 = .ok (.iaload, 1) := by decide +kernel
theorem dL_law_272 : decode cL_law 272 = .ok (.aload_n 0, 1) := by decide +kernel
theorem dL_law_273 : decode cL_law 273 = .ok (.iload 5, 2) := by decide +kernel
theorem dL_law_275 : decode cL_law 275 = .ok (.iconst 4, 1) := by decide +kernel
theorem dL_law_276 : decode cL_law 276 = .ok (.iadd, 1) := by decide +kernel
theorem dL_law_277 : decode cL_law 277 = .ok (.iaload, 1) := by decide +kernel
theorem dL_law_278 : decode cL_law 278 = .ok (.aload_n 3, 1) := by decide +kernel
theorem dL_law_279 : decode cL_law 279 = .ok (.invokestatic 160, 3) := by decide +kernel
theorem dL_law_282 : decode cL_law 282 = .ok (.istore 6, 2) := by decide +kernel
theorem dL_law_284 : decode cL_law 284 = .ok (.aload_n 2, 1) := by decide +kernel
theorem dL_law_285 : decode cL_law 285 = .ok (.aload_n 0, 1) := by decide +kernel
theorem dL_law_286 : decode cL_law 286 = .ok (.iload 5, 2) := by decide +kernel
theorem dL_law_288 : decode cL_law 288 = .ok (.iconst 1, 1) := by decide +kernel
theorem dL_law_289 : decode cL_law 289 = .ok (.iadd, 1) := by decide +kernel
theorem dL_law_290 : decode cL_law 290 = .ok (.iaload, 1) := by decide +kernel
theorem dL_law_291 : decode cL_law 291 = .ok (.aload_n 0, 1) := by decide +kernel
theorem dL_law_292 : decode cL_law 292 = .ok (.iload 5, 2) := by decide +kernel
theorem dL_law_294 : decode cL_law 294 = .ok (.iconst 2, 1) := by decide +kernel
theorem dL_law_295 : decode cL_law 295 = .ok (.iadd, 1) := by decide +kernel
theorem dL_law_296 : decode cL_law 296 = .ok (.iaload, 1) := by decide +kernel
theorem dL_law_297 : decode cL_law 297 = .ok (.aload_n 0, 1) := by decide +kernel
theorem dL_law_298 : decode cL_law 298 = .ok (.iload 5, 2) := by decide +kernel
theorem dL_law_300 : decode cL_law 300 = .ok (.iconst 3, 1) := by decide +kernel
theorem dL_law_301 : decode cL_law 301 = .ok (.iadd, 1) := by decide +kernel
theorem dL_law_302 : decode cL_law 302 = .ok (.iaload, 1) := by decide +kernel
theorem dL_law_303 : decode cL_law 303 = .ok (.aload_n 0, 1) := by decide +kernel
theorem dL_law_304 : decode cL_law 304 = .ok (.iload 5, 2) := by decide +kernel
theorem dL_law_306 : decode cL_law 306 = .ok (.iconst 4, 1) := by decide +kernel
theorem dL_law_307 : decode cL_law 307 = .ok (.iadd, 1) := by decide +kernel
theorem dL_law_308 : decode cL_law 308 = .ok (.iaload, 1) := by decide +kernel
theorem dL_law_309 : decode cL_law 309 = .ok (.invokevirtual 165, 3) := by decide +kernel
theorem dL_law_312 : decode cL_law 312 = .ok (.istore 7, 2) := by decide +kernel
theorem dL_law_314 : decode cL_law 314 = .ok (.aload_n 2, 1) := by decide +kernel
theorem dL_law_315 : decode cL_law 315 = .ok (.invokevirtual 166, 3) := by decide +kernel
theorem dL_law_318 : decode cL_law 318 = .ok (.iload 6, 2) := by decide +kernel
theorem dL_law_320 : decode cL_law 320 = .ok (.if_icmp .eq 5, 3) := by decide +kernel
theorem dL_law_325 : decode cL_law 325 = .ok (.iload 6, 2) := by decide +kernel
theorem dL_law_327 : decode cL_law 327 = .ok (.ifCond .ne 15, 3) := by decide +kernel
theorem dL_law_330 : decode cL_law 330 = .ok (.aload_n 3, 1) := by decide +kernel
theorem dL_law_331 : decode cL_law 331 = .ok (.iconst 0, 1) := by decide +kernel
theorem dL_law_332 : decode cL_law 332 = .ok (.laload, 1) := by decide +kernel
theorem dL_law_333 : decode cL_law 333 = .ok (.iload 7, 2) := by decide +kernel
theorem dL_law_335 : decode cL_law 335 = .ok (.i2l, 1) := by decide +kernel
theorem dL_law_336 : decode cL_law 336 = .ok (.lcmp, 1) := by decide +kernel
theorem dL_law_337 : decode cL_law 337 = .ok (.ifCond .eq 5, 3) := by decide +kernel
theorem dL_law_342 : decode cL_law 342 = .ok (.goto 2616, 3) := by decide +kernel
theorem dL_law_345 : decode cL_law 345 = .ok (.aload_n 1, 1) := by decide +kernel
theorem dL_law_346 : decode cL_law 346 = .ok (.aload_n 0, 1) := by decide +kernel
theorem dL_law_347 : decode cL_law 347 = .ok (.iload 5, 2) := by decide +kernel
theorem dL_law_349 : decode cL_law 349 = .ok (.iconst 1, 1) := by decide +kernel
theorem dL_law_350 : decode cL_law 350 = .ok (.iadd, 1) := by decide +kernel
theorem dL_law_351 : decode cL_law 351 = .ok (.iaload, 1) := by decide +kernel
theorem dL_law_352 : decode cL_law 352 = .ok (.aload_n 0, 1) := by decide +kernel
theorem dL_law_353 : decode cL_law 353 = .ok (.iload 5, 2) := by decide +kernel
theorem dL_law_355 : decode cL_law 355 = .ok (.iconst 2, 1) := by decide +kernel
theorem dL_law_356 : decode cL_law 356 = .ok (.iadd, 1) := by decide +kernel
theorem dL_law_357 : decode cL_law 357 = .ok (.iaload, 1) := by decide +kernel
theorem dL_law_358 : decode cL_law 358 = .ok (.aload_n 3, 1) := by decide +kernel
theorem dL_law_359 : decode cL_law 359 = .ok (.invokestatic 169, 3) := by decide +kernel
theorem dL_law_362 : decode cL_law 362 = .ok (.istore 6, 2) := by decide +kernel
theorem dL_law_364 : decode cL_law 364 = .ok (.aload_n 2, 1) := by decide +kernel
theorem dL_law_365 : decode cL_law 365 = .ok (.aload_n 0, 1) := by decide +kernel
theorem dL_law_366 : decode cL_law 366 = .ok (.iload 5, 2) := by decide +kernel
theorem dL_law_368 : decode cL_law 368 = .ok (.iconst 1, 1) := by decide +kernel
theorem dL_law_369 : decode cL_law 369 = .ok (.iadd, 1) := by decide +kernel
theorem dL_law_370 : decode cL_law 370 = .ok (.iaload, 1) := by decide +kernel
theorem dL_law_371 : decode cL_law 371 = .ok (.aload_n 0, 1) := by decide +kernel
theorem dL_law_372 : decode cL_law 372 = .ok (.iload 5, 2) := by decide +kernel
theorem dL_law_374 : decode cL_law 374 = .ok (.iconst 2, 1) := by decide +kernel
theorem dL_law_375 : decode cL_law 375 = .ok (.iadd, 1) := by decide +kernel
theorem dL_law_376 : decode cL_law 376 = .ok (.iaload, 1) := by decide +kernel
theorem dL_law_377 : decode cL_law 377 = .ok (.invokevirtual 172, 3) := by decide +kernel
theorem dL_law_380 : decode cL_law 380 = .ok (.istore 7, 2) := by decide +kernel
theorem dL_law_382 : decode cL_law 382 = .ok (.aload_n 2, 1) := by decide +kernel
theorem dL_law_383 : decode cL_law 383 = .ok (.invokevirtual 166, 3) := by decide +kernel
theorem dL_law_386 : decode cL_law 386 = .ok (.iload 6, 2) := by decide +kernel
theorem dL_law_388 : decode cL_law 388 = .ok (.if_icmp .eq 5, 3) := by decide +kernel
theorem dL_law_393 : decode cL_law 393 = .ok (.iload 6, 2) := by decide +kernel
theorem dL_law_395 : decode cL_law 395 = .ok (.ifCond .ne 15, 3) := by decide +kernel
theorem dL_law_398 : decode cL_law 398 = .ok (.aload_n 3, 1) := by decide +kernel
theorem dL_law_399 : decode cL_law 399 = .ok (.iconst 0, 1) := by decide +kernel
theorem dL_law_400 : decode cL_law 400 = .ok (.laload, 1) := by decide +kernel
theorem dL_law_401 : decode cL_law 401 = .ok (.iload 7, 2) := by decide +kernel
theorem dL_law_403 : decode cL_law 403 = .ok (.i2l, 1) := by decide +kernel
theorem dL_law_404 : decode cL_law 404 = .ok (.lcmp, 1) := by decide +kernel
theorem dL_law_405 : decode cL_law 405 = .ok (.ifCond .eq 5, 3) := by decide +kernel
theorem dL_law_410 : decode cL_law 410 = .ok (.goto 2548, 3) := by decide +kernel
theorem dL_law_413 : decode cL_law 413 = .ok (.aload_n 1, 1) := by decide +kernel
theorem dL_law_414 : decode cL_law 414 = .ok (.aload_n 0, 1) := by decide +kernel
theorem dL_law_415 : decode cL_law 415 = .ok (.iload 5, 2) := by decide +kernel
theorem dL_law_417 : decode cL_law 417 = .ok (.iconst 1, 1) := by decide +kernel
theorem dL_law_418 : decode cL_law 418 = .ok (.iadd, 1) := by decide +kernel
theorem dL_law_419 : decode cL_law 419 = .ok (.iaload, 1) := by decide +kernel
theorem dL_law_420 : decode cL_law 420 = .ok (.aload_n 0, 1) := by decide +kernel
theorem dL_law_421 : decode cL_law 421 = .ok (.iload 5, 2) := by decide +kernel
theorem dL_law_423 : decode cL_law 423 = .ok (.iconst 2, 1) := by decide +kernel
theorem dL_law_424 : decode cL_law 424 = .ok (.iadd, 1) := by decide +kernel
theorem dL_law_425 : decode cL_law 425 = .ok (.iaload, 1) := by decide +kernel
theorem dL_law_426 : decode cL_law 426 = .ok (.aload_n 0, 1) := by decide +kernel
theorem dL_law_427 : decode cL_law 427 = .ok (.iload 5, 2) := by decide +kernel
theorem dL_law_429 : decode cL_law 429 = .ok (.iconst 3, 1) := by decide +kernel
theorem dL_law_430 : decode cL_law 430 = .ok (.iadd, 1) := by decide +kernel
theorem dL_law_431 : decode cL_law 431 = .ok (.iaload, 1) := by decide +kernel
theorem dL_law_432 : decode cL_law 432 = .ok (.aload_n 3, 1) := by decide +kernel
theorem dL_law_433 : decode cL_law 433 = .ok (.invokestatic 173, 3) := by decide +kernel
theorem dL_law_436 : decode cL_law 436 = .ok (.istore 6, 2) := by decide +kernel
theorem dL_law_438 : decode cL_law 438 = .ok (.aload_n 2, 1) := by decide +kernel
theorem dL_law_439 : decode cL_law 439 = .ok (.aload_n 0, 1) := by decide +kernel
theorem dL_law_440 : decode cL_law 440 = .ok (.iload 5, 2) := by decide +kernel
theorem dL_law_442 : decode cL_law 442 = .ok (.iconst 1, 1) := by decide +kernel
theorem dL_law_443 : decode cL_law 443 = .ok (.iadd, 1) := by decide +kernel
theorem dL_law_444 : decode cL_law 444 = .ok (.iaload, 1) := by decide +kernel
theorem dL_law_445 : decode cL_law 445 = .ok (.aload_n 0, 1) := by decide +kernel
theorem dL_law_446 : decode cL_law 446 = .ok (.iload 5, 2) := by decide +kernel
theorem dL_law_448 : decode cL_law 448 = .ok (.iconst 2, 1) := by decide +kernel
theorem dL_law_449 : decode cL_law 449 = .ok (.iadd, 1) := by decide +kernel
theorem dL_law_450 : decode cL_law 450 = .ok (.iaload, 1) := by decide +kernel
theorem dL_law_451 : decode cL_law 451 = .ok (.aload_n 0, 1) := by decide +kernel
theorem dL_law_452 : decode cL_law 452 = .ok (.iload 5, 2) := by decide +kernel
theorem dL_law_454 : decode cL_law 454 = .ok (.iconst 3, 1) := by decide +kernel
theorem dL_law_455 : decode cL_law 455 = .ok (.iadd, 1) := by decide +kernel
theorem dL_law_456 : decode cL_law 456 = .ok (.iaload, 1) := by decide +kernel
theorem dL_law_457 : decode cL_law 457 = .ok (.invokevirtual 176, 3) := by decide +kernel
theorem dL_law_460 : decode cL_law 460 = .ok (.istore 7, 2) := by decide +kernel
theorem dL_law_462 : decode cL_law 462 = .ok (.aload_n 2, 1) := by decide +kernel
theorem dL_law_463 : decode cL_law 463 = .ok (.invokevirtual 166, 3) := by decide +kernel
theorem dL_law_466 : decode cL_law 466 = .ok (.iload 6, 2) := by decide +kernel
theorem dL_law_468 : decode cL_law 468 = .ok (.if_icmp .eq 5, 3) := by decide +kernel
theorem dL_law_473 : decode cL_law 473 = .ok (.iload 6, 2) := by decide +kernel
theorem dL_law_475 : decode cL_law 475 = .ok (.ifCond .ne 15, 3) := by decide +kernel
theorem dL_law_478 : decode cL_law 478 = .ok (.aload_n 3, 1) := by decide +kernel
theorem dL_law_479 : decode cL_law 479 = .ok (.iconst 0, 1) := by decide +kernel
theorem dL_law_480 : decode cL_law 480 = .ok (.laload, 1) := by decide +kernel
theorem dL_law_481 : decode cL_law 481 = .ok (.iload 7, 2) := by decide +kernel
theorem dL_law_483 : decode cL_law 483 = .ok (.i2l, 1) := by decide +kernel
theorem dL_law_484 : decode cL_law 484 = .ok (.lcmp, 1) := by decide +kernel
theorem dL_law_485 : decode cL_law 485 = .ok (.ifCond .eq 5, 3) := by decide +kernel
theorem dL_law_490 : decode cL_law 490 = .ok (.goto 2468, 3) := by decide +kernel
theorem dL_law_493 : decode cL_law 493 = .ok (.aload_n 1, 1) := by decide +kernel
theorem dL_law_494 : decode cL_law 494 = .ok (.aload_n 0, 1) := by decide +kernel
theorem dL_law_495 : decode cL_law 495 = .ok (.iload 5, 2) := by decide +kernel
theorem dL_law_497 : decode cL_law 497 = .ok (.iconst 1, 1) := by decide +kernel
theorem dL_law_498 : decode cL_law 498 = .ok (.iadd, 1) := by decide +kernel
theorem dL_law_499 : decode cL_law 499 = .ok (.iaload, 1) := by decide +kernel
theorem dL_law_500 : decode cL_law 500 = .ok (.aload_n 0, 1) := by decide +kernel
theorem dL_law_501 : decode cL_law 501 = .ok (.iload 5, 2) := by decide +kernel
theorem dL_law_503 : decode cL_law 503 = .ok (.iconst 2, 1) := by decide +kernel
theorem dL_law_504 : decode cL_law 504 = .ok (.iadd, 1) := by decide +kernel
theorem dL_law_505 : decode cL_law 505 = .ok (.iaload, 1) := by decide +kernel
theorem dL_law_506 : decode cL_law 506 = .ok (.aload_n 3, 1) := by decide +kernel
theorem dL_law_507 : decode cL_law 507 = .ok (.invokestatic 177, 3) := by decide +kernel
theorem dL_law_510 : decode cL_law 510 = .ok (.istore 6, 2) := by decide +kernel
theorem dL_law_512 : decode cL_law 512 = .ok (.aload_n 2, 1) := by decide +kernel
theorem dL_law_513 : decode cL_law 513 = .ok (.aload_n 0, 1) := by decide +kernel
theorem dL_law_514 : decode cL_law 514 = .ok (.iload 5, 2) := by decide +kernel
theorem dL_law_516 : decode cL_law 516 = .ok (.iconst 1, 1) := by decide +kernel
theorem dL_law_517 : decode cL_law 517 = .ok (.iadd, 1) := by decide +kernel
theorem dL_law_518 : decode cL_law 518 = .ok (.iaload, 1) := by decide +kernel
theorem dL_law_519 : decode cL_law 519 = .ok (.aload_n 0, 1) := by decide +kernel
theorem dL_law_520 : decode cL_law 520 = .ok (.iload 5, 2) := by decide +kernel
theorem dL_law_522 : decode cL_law 522 = .ok (.iconst 2, 1) := by decide +kernel
theorem dL_law_523 : decode cL_law 523 = .ok (.iadd, 1) := by decide +kernel
theorem dL_law_524 : decode cL_law 524 = .ok (.iaload, 1) := by decide +kernel
theorem dL_law_525 : decode cL_law 525 = .ok (.invokevirtual 179, 3) := by decide +kernel
theorem dL_law_528 : decode cL_law 528 = .ok (.istore 7, 2) := by decide +kernel
theorem dL_law_530 : decode cL_law 530 = .ok (.aload_n 2, 1) := by decide +kernel
theorem dL_law_531 : decode cL_law 531 = .ok (.invokevirtual 166, 3) := by decide +kernel
theorem dL_law_534 : decode cL_law 534 = .ok (.iload 6, 2) := by decide +kernel
theorem dL_law_536 : decode cL_law 536 = .ok (.if_icmp .eq 5, 3) := by decide +kernel
theorem dL_law_541 : decode cL_law 541 = .ok (.iload 6, 2) := by decide +kernel
theorem dL_law_543 : decode cL_law 543 = .ok (.ifCond .ne 15, 3) := by decide +kernel
theorem dL_law_558 : decode cL_law 558 = .ok (.goto 2400, 3) := by decide +kernel
theorem dL_law_561 : decode cL_law 561 = .ok (.aload_n 1, 1) := by decide +kernel
theorem dL_law_562 : decode cL_law 562 = .ok (.aload_n 0, 1) := by decide +kernel
theorem dL_law_563 : decode cL_law 563 = .ok (.iload 5, 2) := by decide +kernel
theorem dL_law_565 : decode cL_law 565 = .ok (.iconst 1, 1) := by decide +kernel
theorem dL_law_566 : decode cL_law 566 = .ok (.iadd, 1) := by decide +kernel
theorem dL_law_567 : decode cL_law 567 = .ok (.iaload, 1) := by decide +kernel
theorem dL_law_568 : decode cL_law 568 = .ok (.aload_n 0, 1) := by decide +kernel
theorem dL_law_569 : decode cL_law 569 = .ok (.iload 5, 2) := by decide +kernel
theorem dL_law_571 : decode cL_law 571 = .ok (.iconst 2, 1) := by decide +kernel
theorem dL_law_572 : decode cL_law 572 = .ok (.iadd, 1) := by decide +kernel
theorem dL_law_573 : decode cL_law 573 = .ok (.iaload, 1) := by decide +kernel
theorem dL_law_574 : decode cL_law 574 = .ok (.aload_n 3, 1) := by decide +kernel
theorem dL_law_575 : decode cL_law 575 = .ok (.invokestatic 180, 3) := by decide +kernel
theorem dL_law_578 : decode cL_law 578 = .ok (.istore 6, 2) := by decide +kernel
theorem dL_law_580 : decode cL_law 580 = .ok (.aload_n 2, 1) := by decide +kernel
theorem dL_law_581 : decode cL_law 581 = .ok (.aload_n 0, 1) := by decide +kernel
theorem dL_law_582 : decode cL_law 582 = .ok (.iload 5, 2) := by decide +kernel
theorem dL_law_584 : decode cL_law 584 = .ok (.iconst 1, 1) := by decide +kernel
theorem dL_law_585 : decode cL_law 585 = .ok (.iadd, 1) := by decide +kernel
theorem dL_law_586 : decode cL_law 586 = .ok (.iaload, 1) := by decide +kernel
theorem dL_law_587 : decode cL_law 587 = .ok (.aload_n 0, 1) := by decide +kernel
theorem dL_law_588 : decode cL_law 588 = .ok (.iload 5, 2) := by decide +kernel
theorem dL_law_590 : decode cL_law 590 = .ok (.iconst 2, 1) := by decide +kernel
theorem dL_law_591 : decode cL_law 591 = .ok (.iadd, 1) := by decide +kernel
theorem dL_law_592 : decode cL_law 592 = .ok (.iaload, 1) := by decide +kernel
theorem dL_law_593 : decode cL_law 593 = .ok (.invokevirtual 182, 3) := by decide +kernel
theorem dL_law_596 : decode cL_law 596 = .ok (.istore 7, 2) := by decide +kernel
theorem dL_law_598 : decode cL_law 598 = .ok (.aload_n 2, 1) := by decide +kernel
theorem dL_law_599 : decode cL_law 599 = .ok (.invokevirtual 166, 3) := by decide +kernel
theorem dL_law_602 : decode cL_law 602 = .ok (.iload 6, 2) := by decide +kernel
theorem dL_law_604 : decode cL_law 604 = .ok (.if_icmp .eq 5, 3) := by decide +kernel
theorem dL_law_609 : decode cL_law 609 = .ok (.iload 6, 2) := by decide +kernel
theorem dL_law_611 : decode cL_law 611 = .ok (.ifCond .ne 15, 3) := by decide +kernel
theorem dL_law_614 : decode cL_law 614 = .ok (.aload_n 3, 1) := by decide +kernel
theorem dL_law_615 : decode cL_law 615 = .ok (.iconst 0, 1) := by decide +kernel
theorem dL_law_616 : decode cL_law 616 = .ok (.laload, 1) := by decide +kernel
theorem dL_law_617 : decode cL_law 617 = .ok (.iload 7, 2) := by decide +kernel
theorem dL_law_619 : decode cL_law 619 = .ok (.i2l, 1) := by decide +kernel
theorem dL_law_620 : decode cL_law 620 = .ok (.lcmp, 1) := by decide +kernel
theorem dL_law_621 : decode cL_law 621 = .ok (.ifCond .eq 5, 3) := by decide +kernel
theorem dL_law_626 : decode cL_law 626 = .ok (.goto 2332, 3) := by decide +kernel
theorem dL_law_629 : decode cL_law 629 = .ok (.aload_n 1, 1) := by decide +kernel
theorem dL_law_630 : decode cL_law 630 = .ok (.aload_n 0, 1) := by decide +kernel
theorem dL_law_631 : decode cL_law 631 = .ok (.iload 5, 2) := by decide +kernel
theorem dL_law_633 : decode cL_law 633 = .ok (.iconst 1, 1) := by decide +kernel
theorem dL_law_634 : decode cL_law 634 = .ok (.iadd, 1) := by decide +kernel
theorem dL_law_635 : decode cL_law 635 = .ok (.iaload, 1) := by decide +kernel
theorem dL_law_636 : decode cL_law 636 = .ok (.aload_n 0, 1) := by decide +kernel
theorem dL_law_637 : decode cL_law 637 = .ok (.iload 5, 2) := by decide +kernel
theorem dL_law_639 : decode cL_law 639 = .ok (.iconst 2, 1) := by decide +kernel
theorem dL_law_640 : decode cL_law 640 = .ok (.iadd, 1) := by decide +kernel
theorem dL_law_641 : decode cL_law 641 = .ok (.iaload, 1) := by decide +kernel
theorem dL_law_642 : decode cL_law 642 = .ok (.aload_n 0, 1) := by decide +kernel
theorem dL_law_643 : decode cL_law 643 = .ok (.iload 5, 2) := by decide +kernel
theorem dL_law_645 : decode cL_law 645 = .ok (.iconst 3, 1) := by decide +kernel
theorem dL_law_646 : decode cL_law 646 = .ok (.iadd, 1) := by decide +kernel
theorem dL_law_647 : decode cL_law 647 = .ok (.iaload, 1) := by decide +kernel
theorem dL_law_648 : decode cL_law 648 = .ok (.aload_n 3, 1) := by decide +kernel
theorem dL_law_649 : decode cL_law 649 = .ok (.invokestatic 183, 3) := by decide +kernel
theorem dL_law_652 : decode cL_law 652 = .ok (.istore 6, 2) := by decide +kernel
theorem dL_law_654 : decode cL_law 654 = .ok (.aload_n 2, 1) := by decide +kernel
theorem dL_law_655 : decode cL_law 655 = .ok (.aload_n 0, 1) := by decide +kernel
theorem dL_law_656 : decode cL_law 656 = .ok (.iload 5, 2) := by decide +kernel
theorem dL_law_658 : decode cL_law 658 = .ok (.iconst 1, 1) := by decide +kernel
theorem dL_law_659 : decode cL_law 659 = .ok (.iadd, 1) := by decide +kernel
theorem dL_law_660 : decode cL_law 660 = .ok (.iaload, 1) := by decide +kernel
theorem dL_law_661 : decode cL_law 661 = .ok (.aload_n 0, 1) := by decide +kernel
theorem dL_law_662 : decode cL_law 662 = .ok (.iload 5, 2) := by decide +kernel
theorem dL_law_664 : decode cL_law 664 = .ok (.iconst 2, 1) := by decide +kernel
theorem dL_law_665 : decode cL_law 665 = .ok (.iadd, 1) := by decide +kernel
theorem dL_law_666 : decode cL_law 666 = .ok (.iaload, 1) := by decide +kernel
theorem dL_law_667 : decode cL_law 667 = .ok (.aload_n 0, 1) := by decide +kernel
theorem dL_law_668 : decode cL_law 668 = .ok (.iload 5, 2) := by decide +kernel
theorem dL_law_670 : decode cL_law 670 = .ok (.iconst 3, 1) := by decide +kernel
theorem dL_law_671 : decode cL_law 671 = .ok (.iadd, 1) := by decide +kernel
theorem dL_law_672 : decode cL_law 672 = .ok (.iaload, 1) := by decide +kernel
theorem dL_law_673 : decode cL_law 673 = .ok (.invokevirtual 185, 3) := by decide +kernel
theorem dL_law_676 : decode cL_law 676 = .ok (.istore 7, 2) := by decide +kernel
theorem dL_law_678 : decode cL_law 678 = .ok (.aload_n 2, 1) := by decide +kernel
theorem dL_law_679 : decode cL_law 679 = .ok (.invokevirtual 166, 3) := by decide +kernel
theorem dL_law_682 : decode cL_law 682 = .ok (.iload 6, 2) := by decide +kernel
theorem dL_law_684 : decode cL_law 684 = .ok (.if_icmp .eq 5, 3) := by decide +kernel
theorem dL_law_689 : decode cL_law 689 = .ok (.iload 6, 2) := by decide +kernel
theorem dL_law_691 : decode cL_law 691 = .ok (.ifCond .ne 15, 3) := by decide +kernel
theorem dL_law_706 : decode cL_law 706 = .ok (.goto 2252, 3) := by decide +kernel
theorem dL_law_709 : decode cL_law 709 = .ok (.aload_n 1, 1) := by decide +kernel
theorem dL_law_710 : decode cL_law 710 = .ok (.aload_n 0, 1) := by decide +kernel
theorem dL_law_711 : decode cL_law 711 = .ok (.iload 5, 2) := by decide +kernel
theorem dL_law_713 : decode cL_law 713 = .ok (.iconst 1, 1) := by decide +kernel
theorem dL_law_714 : decode cL_law 714 = .ok (.iadd, 1) := by decide +kernel
theorem dL_law_715 : decode cL_law 715 = .ok (.iaload, 1) := by decide +kernel
theorem dL_law_716 : decode cL_law 716 = .ok (.aload_n 0, 1) := by decide +kernel
theorem dL_law_717 : decode cL_law 717 = .ok (.iload 5, 2) := by decide +kernel
theorem dL_law_719 : decode cL_law 719 = .ok (.iconst 2, 1) := by decide +kernel
theorem dL_law_720 : decode cL_law 720 = .ok (.iadd, 1) := by decide +kernel
theorem dL_law_721 : decode cL_law 721 = .ok (.iaload, 1) := by decide +kernel
theorem dL_law_722 : decode cL_law 722 = .ok (.aload_n 0, 1) := by decide +kernel
theorem dL_law_723 : decode cL_law 723 = .ok (.iload 5, 2) := by decide +kernel
theorem dL_law_725 : decode cL_law 725 = .ok (.iconst 3, 1) := by decide +kernel
theorem dL_law_726 : decode cL_law 726 = .ok (.iadd, 1) := by decide +kernel
theorem dL_law_727 : decode cL_law 727 = .ok (.iaload, 1) := by decide +kernel
theorem dL_law_728 : decode cL_law 728 = .ok (.aload_n 3, 1) := by decide +kernel
theorem dL_law_729 : decode cL_law 729 = .ok (.invokestatic 186, 3) := by decide +kernel
theorem dL_law_732 : decode cL_law 732 = .ok (.istore 6, 2) := by decide +kernel
theorem dL_law_734 : decode cL_law 734 = .ok (.aload_n 2, 1) := by decide +kernel
theorem dL_law_735 : decode cL_law 735 = .ok (.aload_n 0, 1) := by decide +kernel
theorem dL_law_736 : decode cL_law 736 = .ok (.iload 5, 2) := by decide +kernel
theorem dL_law_738 : decode cL_law 738 = .ok (.iconst 1, 1) := by decide +kernel
theorem dL_law_739 : decode cL_law 739 = .ok (.iadd, 1) := by decide +kernel
theorem dL_law_740 : decode cL_law 740 = .ok (.iaload, 1) := by decide +kernel
theorem dL_law_741 : decode cL_law 741 = .ok (.aload_n 0, 1) := by decide +kernel
theorem dL_law_742 : decode cL_law 742 = .ok (.iload 5, 2) := by decide +kernel
theorem dL_law_744 : decode cL_law 744 = .ok (.iconst 2, 1) := by decide +kernel
theorem dL_law_745 : decode cL_law 745 = .ok (.iadd, 1) := by decide +kernel
theorem dL_law_746 : decode cL_law 746 = .ok (.iaload, 1) := by decide +kernel
theorem dL_law_747 : decode cL_law 747 = .ok (.aload_n 0, 1) := by decide +kernel
theorem dL_law_748 : decode cL_law 748 = .ok (.iload 5, 2) := by decide +kernel
theorem dL_law_750 : decode cL_law 750 = .ok (.iconst 3, 1) := by decide +kernel
theorem dL_law_751 : decode cL_law 751 = .ok (.iadd, 1) := by decide +kernel
theorem dL_law_752 : decode cL_law 752 = .ok (.iaload, 1) := by decide +kernel
theorem dL_law_753 : decode cL_law 753 = .ok (.invokevirtual 188, 3) := by decide +kernel
theorem dL_law_756 : decode cL_law 756 = .ok (.istore 7, 2) := by decide +kernel
theorem dL_law_758 : decode cL_law 758 = .ok (.aload_n 2, 1) := by decide +kernel
theorem dL_law_759 : decode cL_law 759 = .ok (.invokevirtual 166, 3) := by decide +kernel
theorem dL_law_762 : decode cL_law 762 = .ok (.iload 6, 2) := by decide +kernel
theorem dL_law_764 : decode cL_law 764 = .ok (.if_icmp .eq 5, 3) := by decide +kernel
theorem dL_law_769 : decode cL_law 769 = .ok (.iload 6, 2) := by decide +kernel
theorem dL_law_771 : decode cL_law 771 = .ok (.ifCond .ne 15, 3) := by decide +kernel
theorem dL_law_786 : decode cL_law 786 = .ok (.goto 2172, 3) := by decide +kernel
theorem dL_law_789 : decode cL_law 789 = .ok (.aload_n 1, 1) := by decide +kernel
theorem dL_law_790 : decode cL_law 790 = .ok (.aload_n 0, 1) := by decide +kernel
theorem dL_law_791 : decode cL_law 791 = .ok (.iload 5, 2) := by decide +kernel
theorem dL_law_793 : decode cL_law 793 = .ok (.iconst 1, 1) := by decide +kernel
theorem dL_law_794 : decode cL_law 794 = .ok (.iadd, 1) := by decide +kernel
theorem dL_law_795 : decode cL_law 795 = .ok (.iaload, 1) := by decide +kernel
theorem dL_law_796 : decode cL_law 796 = .ok (.aload_n 0, 1) := by decide +kernel
theorem dL_law_797 : decode cL_law 797 = .ok (.iload 5, 2) := by decide +kernel
theorem dL_law_799 : decode cL_law 799 = .ok (.iconst 2, 1) := by decide +kernel
theorem dL_law_800 : decode cL_law 800 = .ok (.iadd, 1) := by decide +kernel
theorem dL_law_801 : decode cL_law 801 = .ok (.iaload, 1) := by decide +kernel
theorem dL_law_802 : decode cL_law 802 = .ok (.aload_n 0, 1) := by decide +kernel
theorem dL_law_803 : decode cL_law 803 = .ok (.iload 5, 2) := by decide +kernel
theorem dL_law_805 : decode cL_law 805 = .ok (.iconst 3, 1) := by decide +kernel
theorem dL_law_806 : decode cL_law 806 = .ok (.iadd, 1) := by decide +kernel
theorem dL_law_807 : decode cL_law 807 = .ok (.iaload, 1) := by decide +kernel
theorem dL_law_808 : decode cL_law 808 = .ok (.aload_n 0, 1) := by decide +kernel
theorem dL_law_809 : decode cL_law 809 = .ok (.iload 5, 2) := by decide +kernel
theorem dL_law_811 : decode cL_law 811 = .ok (.iconst 4, 1) := by decide +kernel
theorem dL_law_812 : decode cL_law 812 = .ok (.iadd, 1) := by decide +kernel
theorem dL_law_813 : decode cL_law 813 = .ok (.iaload, 1) := by decide +kernel
theorem dL_law_814 : decode cL_law 814 = .ok (.aload_n 0, 1) := by decide +kernel
theorem dL_law_815 : decode cL_law 815 = .ok (.iload 5, 2) := by decide +kernel
theorem dL_law_817 : decode cL_law 817 = .ok (.iconst 5, 1) := by decide +kernel
theorem dL_law_818 : decode cL_law 818 = .ok (.iadd, 1) := by decide +kernel
theorem dL_law_819 : decode cL_law 819 = .ok (.iaload, 1) := by decide +kernel
theorem dL_law_820 : decode cL_law 820 = .ok (.aload_n 3, 1) := by decide +kernel
theorem dL_law_821 : decode cL_law 821 = .ok (.invokestatic 189, 3) := by decide +kernel
theorem dL_law_824 : decode cL_law 824 = .ok (.istore 6, 2) := by decide +kernel
theorem dL_law_826 : decode cL_law 826 = .ok (.aload_n 2, 1) := by decide +kernel
theorem dL_law_827 : decode cL_law 827 = .ok (.aload_n 0, 1) := by decide +kernel
theorem dL_law_828 : decode cL_law 828 = .ok (.iload 5, 2) := by decide +kernel
theorem dL_law_830 : decode cL_law 830 = .ok (.iconst 1, 1) := by decide +kernel
theorem dL_law_831 : decode cL_law 831 = .ok (.iadd, 1) := by decide +kernel
theorem dL_law_832 : decode cL_law 832 = .ok (.iaload, 1) := by decide +kernel
theorem dL_law_833 : decode cL_law 833 = .ok (.aload_n 0, 1) := by decide +kernel
theorem dL_law_834 : decode cL_law 834 = .ok (.iload 5, 2) := by decide +kernel
theorem dL_law_836 : decode cL_law 836 = .ok (.iconst 2, 1) := by decide +kernel
theorem dL_law_837 : decode cL_law 837 = .ok (.iadd, 1) := by decide +kernel
theorem dL_law_838 : decode cL_law 838 = .ok (.iaload, 1) := by decide +kernel
theorem dL_law_839 : decode cL_law 839 = .ok (.aload_n 0, 1) := by decide +kernel
theorem dL_law_840 : decode cL_law 840 = .ok (.iload 5, 2) := by decide +kernel
theorem dL_law_842 : decode cL_law 842 = .ok (.iconst 3, 1) := by decide +kernel
theorem dL_law_843 : decode cL_law 843 = .ok (.iadd, 1) := by decide +kernel
theorem dL_law_844 : decode cL_law 844 = .ok (.iaload, 1) := by decide +kernel
theorem dL_law_845 : decode cL_law 845 = .ok (.aload_n 0, 1) := by decide +kernel
theorem dL_law_846 : decode cL_law 846 = .ok (.iload 5, 2) := by decide +kernel
theorem dL_law_848 : decode cL_law 848 = .ok (.iconst 4, 1) := by decide +kernel
theorem dL_law_849 : decode cL_law 849 = .ok (.iadd, 1) := by decide +kernel
theorem dL_law_850 : decode cL_law 850 = .ok (.iaload, 1) := by decide +kernel
theorem dL_law_851 : decode cL_law 851 = .ok (.aload_n 0, 1) := by decide +kernel
theorem dL_law_852 : decode cL_law 852 = .ok (.iload 5, 2) := by decide +kernel
theorem dL_law_854 : decode cL_law 854 = .ok (.iconst 5, 1) := by decide +kernel
theorem dL_law_855 : decode cL_law 855 = .ok (.iadd, 1) := by decide +kernel
theorem dL_law_856 : decode cL_law 856 = .ok (.iaload, 1) := by decide +kernel
theorem dL_law_857 : decode cL_law 857 = .ok (.invokevirtual 192, 3) := by decide +kernel
theorem dL_law_860 : decode cL_law 860 = .ok (.istore 7, 2) := by decide +kernel
theorem dL_law_862 : decode cL_law 862 = .ok (.aload_n 2, 1) := by decide +kernel
theorem dL_law_863 : decode cL_law 863 = .ok (.invokevirtual 166, 3) := by decide +kernel
theorem dL_law_866 : decode cL_law 866 = .ok (.iload 6, 2) := by decide +kernel
theorem dL_law_868 : decode cL_law 868 = .ok (.if_icmp .eq 5, 3) := by decide +kernel
theorem dL_law_873 : decode cL_law 873 = .ok (.iload 6, 2) := by decide +kernel
theorem dL_law_875 : decode cL_law 875 = .ok (.ifCond .ne 15, 3) := by decide +kernel
theorem dL_law_878 : decode cL_law 878 = .ok (.aload_n 3, 1) := by decide +kernel
theorem dL_law_879 : decode cL_law 879 = .ok (.iconst 0, 1) := by decide +kernel
theorem dL_law_880 : decode cL_law 880 = .ok (.laload, 1) := by decide +kernel
theorem dL_law_881 : decode cL_law 881 = .ok (.iload 7, 2) := by decide +kernel
theorem dL_law_883 : decode cL_law 883 = .ok (.i2l, 1) := by decide +kernel
theorem dL_law_884 : decode cL_law 884 = .ok (.lcmp, 1) := by decide +kernel
theorem dL_law_885 : decode cL_law 885 = .ok (.ifCond .eq 5, 3) := by decide +kernel
theorem dL_law_890 : decode cL_law 890 = .ok (.goto 2068, 3) := by decide +kernel
theorem dL_law_893 : decode cL_law 893 = .ok (.aload_n 1, 1) := by decide +kernel
theorem dL_law_894 : decode cL_law 894 = .ok (.aload_n 0, 1) := by decide +kernel
theorem dL_law_895 : decode cL_law 895 = .ok (.iload 5, 2) := by decide +kernel
theorem dL_law_897 : decode cL_law 897 = .ok (.iconst 1, 1) := by decide +kernel
theorem dL_law_898 : decode cL_law 898 = .ok (.iadd, 1) := by decide +kernel
theorem dL_law_899 : decode cL_law 899 = .ok (.iaload, 1) := by decide +kernel
theorem dL_law_900 : decode cL_law 900 = .ok (.aload_n 3, 1) := by decide +kernel
theorem dL_law_901 : decode cL_law 901 = .ok (.invokestatic 193, 3) := by decide +kernel
theorem dL_law_904 : decode cL_law 904 = .ok (.istore 6, 2) := by decide +kernel
theorem dL_law_906 : decode cL_law 906 = .ok (.aload_n 2, 1) := by decide +kernel
theorem dL_law_907 : decode cL_law 907 = .ok (.aload_n 0, 1) := by decide +kernel
theorem dL_law_908 : decode cL_law 908 = .ok (.iload 5, 2) := by decide +kernel
theorem dL_law_910 : decode cL_law 910 = .ok (.iconst 1, 1) := by decide +kernel
theorem dL_law_911 : decode cL_law 911 = .ok (.iadd, 1) := by decide +kernel
theorem dL_law_912 : decode cL_law 912 = .ok (.iaload, 1) := by decide +kernel
theorem dL_law_913 : decode cL_law 913 = .ok (.invokevirtual 196, 3) := by decide +kernel
theorem dL_law_916 : decode cL_law 916 = .ok (.istore 7, 2) := by decide +kernel
theorem dL_law_918 : decode cL_law 918 = .ok (.aload_n 2, 1) := by decide +kernel
theorem dL_law_919 : decode cL_law 919 = .ok (.invokevirtual 166, 3) := by decide +kernel
theorem dL_law_922 : decode cL_law 922 = .ok (.iload 6, 2) := by decide +kernel
theorem dL_law_924 : decode cL_law 924 = .ok (.if_icmp .eq 5, 3) := by decide +kernel
theorem dL_law_929 : decode cL_law 929 = .ok (.iload 6, 2) := by decide +kernel
theorem dL_law_931 : decode cL_law 931 = .ok (.ifCond .ne 15, 3) := by decide +kernel
theorem dL_law_946 : decode cL_law 946 = .ok (.goto 2012, 3) := by decide +kernel
theorem dL_law_949 : decode cL_law 949 = .ok (.aload_n 1, 1) := by decide +kernel
theorem dL_law_950 : decode cL_law 950 = .ok (.aload_n 0, 1) := by decide +kernel
theorem dL_law_951 : decode cL_law 951 = .ok (.iload 5, 2) := by decide +kernel
theorem dL_law_953 : decode cL_law 953 = .ok (.iconst 1, 1) := by decide +kernel
theorem dL_law_954 : decode cL_law 954 = .ok (.iadd, 1) := by decide +kernel
theorem dL_law_955 : decode cL_law 955 = .ok (.iaload, 1) := by decide +kernel
theorem dL_law_956 : decode cL_law 956 = .ok (.aload_n 0, 1) := by decide +kernel
theorem dL_law_957 : decode cL_law 957 = .ok (.iload 5, 2) := by decide +kernel
theorem dL_law_959 : decode cL_law 959 = .ok (.iconst 2, 1) := by decide +kernel
theorem dL_law_960 : decode cL_law 960 = .ok (.iadd, 1) := by decide +kernel
theorem dL_law_961 : decode cL_law 961 = .ok (.iaload, 1) := by decide +kernel
theorem dL_law_962 : decode cL_law 962 = .ok (.aload_n 3, 1) := by decide +kernel
theorem dL_law_963 : decode cL_law 963 = .ok (.invokestatic 197, 3) := by decide +kernel
theorem dL_law_966 : decode cL_law 966 = .ok (.istore 6, 2) := by decide +kernel
theorem dL_law_968 : decode cL_law 968 = .ok (.aload_n 2, 1) := by decide +kernel
theorem dL_law_969 : decode cL_law 969 = .ok (.aload_n 0, 1) := by decide +kernel
theorem dL_law_970 : decode cL_law 970 = .ok (.iload 5, 2) := by decide +kernel
theorem dL_law_972 : decode cL_law 972 = .ok (.iconst 1, 1) := by decide +kernel
theorem dL_law_973 : decode cL_law 973 = .ok (.iadd, 1) := by decide +kernel
theorem dL_law_974 : decode cL_law 974 = .ok (.iaload, 1) := by decide +kernel
theorem dL_law_975 : decode cL_law 975 = .ok (.aload_n 0, 1) := by decide +kernel
theorem dL_law_976 : decode cL_law 976 = .ok (.iload 5, 2) := by decide +kernel
theorem dL_law_978 : decode cL_law 978 = .ok (.iconst 2, 1) := by decide +kernel
theorem dL_law_979 : decode cL_law 979 = .ok (.iadd, 1) := by decide +kernel
theorem dL_law_980 : decode cL_law 980 = .ok (.iaload, 1) := by decide +kernel
theorem dL_law_981 : decode cL_law 981 = .ok (.invokevirtual 199, 3) := by decide +kernel
theorem dL_law_984 : decode cL_law 984 = .ok (.istore 7, 2) := by decide +kernel
theorem dL_law_986 : decode cL_law 986 = .ok (.aload_n 2, 1) := by decide +kernel
theorem dL_law_987 : decode cL_law 987 = .ok (.invokevirtual 166, 3) := by decide +kernel
theorem dL_law_990 : decode cL_law 990 = .ok (.iload 6, 2) := by decide +kernel
theorem dL_law_992 : decode cL_law 992 = .ok (.if_icmp .eq 5, 3) := by decide +kernel
theorem dL_law_997 : decode cL_law 997 = .ok (.iload 6, 2) := by decide +kernel
theorem dL_law_999 : decode cL_law 999 = .ok (.ifCond .ne 15, 3) := by decide +kernel
theorem dL_law_1014 : decode cL_law 1014 = .ok (.goto 1944, 3) := by decide +kernel
theorem dL_law_1017 : decode cL_law 1017 = .ok (.aload_n 1, 1) := by decide +kernel
theorem dL_law_1018 : decode cL_law 1018 = .ok (.aload_n 0, 1) := by decide +kernel
theorem dL_law_1019 : decode cL_law 1019 = .ok (.iload 5, 2) := by decide +kernel
theorem dL_law_1021 : decode cL_law 1021 = .ok (.iconst 1, 1) := by decide +kernel
theorem dL_law_1022 : decode cL_law 1022 = .ok (.iadd, 1) := by decide +kernel
theorem dL_law_1023 : decode cL_law 1023 = .ok (.iaload, 1) := by decide +kernel
theorem dL_law_1024 : decode cL_law 1024 = .ok (.aload_n 0, 1) := by decide +kernel
theorem dL_law_1025 : decode cL_law 1025 = .ok (.iload 5, 2) := by decide +kernel
theorem dL_law_1027 : decode cL_law 1027 = .ok (.iconst 2, 1) := by decide +kernel
theorem dL_law_1028 : decode cL_law 1028 = .ok (.iadd, 1) := by decide +kernel
theorem dL_law_1029 : decode cL_law 1029 = .ok (.iaload, 1) := by decide +kernel
theorem dL_law_1030 : decode cL_law 1030 = .ok (.aload_n 3, 1) := by decide +kernel
theorem dL_law_1031 : decode cL_law 1031 = .ok (.invokestatic 200, 3) := by decide +kernel
theorem dL_law_1034 : decode cL_law 1034 = .ok (.istore 6, 2) := by decide +kernel
theorem dL_law_1036 : decode cL_law 1036 = .ok (.aload_n 2, 1) := by decide +kernel
theorem dL_law_1037 : decode cL_law 1037 = .ok (.aload_n 0, 1) := by decide +kernel
theorem dL_law_1038 : decode cL_law 1038 = .ok (.iload 5, 2) := by decide +kernel
theorem dL_law_1040 : decode cL_law 1040 = .ok (.iconst 1, 1) := by decide +kernel
theorem dL_law_1041 : decode cL_law 1041 = .ok (.iadd, 1) := by decide +kernel
theorem dL_law_1042 : decode cL_law 1042 = .ok (.iaload, 1) := by decide +kernel
theorem dL_law_1043 : decode cL_law 1043 = .ok (.aload_n 0, 1) := by decide +kernel
theorem dL_law_1044 : decode cL_law 1044 = .ok (.iload 5, 2) := by decide +kernel
theorem dL_law_1046 : decode cL_law 1046 = .ok (.iconst 2, 1) := by decide +kernel
theorem dL_law_1047 : decode cL_law 1047 = .ok (.iadd, 1) := by decide +kernel
theorem dL_law_1048 : decode cL_law 1048 = .ok (.iaload, 1) := by decide +kernel
theorem dL_law_1049 : decode cL_law 1049 = .ok (.invokevirtual 202, 3) := by decide +kernel
theorem dL_law_1052 : decode cL_law 1052 = .ok (.istore 7, 2) := by decide +kernel
theorem dL_law_1054 : decode cL_law 1054 = .ok (.aload_n 2, 1) := by decide +kernel
theorem dL_law_1055 : decode cL_law 1055 = .ok (.invokevirtual 166, 3) := by decide +kernel
theorem dL_law_1058 : decode cL_law 1058 = .ok (.iload 6, 2) := by decide +kernel
theorem dL_law_1060 : decode cL_law 1060 = .ok (.if_icmp .eq 5, 3) := by decide +kernel
theorem dL_law_1065 : decode cL_law 1065 = .ok (.iload 6, 2) := by decide +kernel
theorem dL_law_1067 : decode cL_law 1067 = .ok (.ifCond .ne 15, 3) := by decide +kernel
theorem dL_law_1082 : decode cL_law 1082 = .ok (.goto 1876, 3) := by decide +kernel
theorem dL_law_1085 : decode cL_law 1085 = .ok (.aload_n 1, 1) := by decide +kernel
theorem dL_law_1086 : decode cL_law 1086 = .ok (.aload_n 0, 1) := by decide +kernel
theorem dL_law_1087 : decode cL_law 1087 = .ok (.iload 5, 2) := by decide +kernel
theorem dL_law_1089 : decode cL_law 1089 = .ok (.iconst 1, 1) := by decide +kernel
theorem dL_law_1090 : decode cL_law 1090 = .ok (.iadd, 1) := by decide +kernel
theorem dL_law_1091 : decode cL_law 1091 = .ok (.iaload, 1) := by decide +kernel
theorem dL_law_1092 : decode cL_law 1092 = .ok (.aload_n 3, 1) := by decide +kernel
theorem dL_law_1093 : decode cL_law 1093 = .ok (.invokestatic 203, 3) := by decide +kernel
theorem dL_law_1096 : decode cL_law 1096 = .ok (.istore 6, 2) := by decide +kernel
theorem dL_law_1098 : decode cL_law 1098 = .ok (.aload_n 2, 1) := by decide +kernel
theorem dL_law_1099 : decode cL_law 1099 = .ok (.aload_n 0, 1) := by decide +kernel
theorem dL_law_1100 : decode cL_law 1100 = .ok (.iload 5, 2) := by decide +kernel
theorem dL_law_1102 : decode cL_law 1102 = .ok (.iconst 1, 1) := by decide +kernel
theorem dL_law_1103 : decode cL_law 1103 = .ok (.iadd, 1) := by decide +kernel
theorem dL_law_1104 : decode cL_law 1104 = .ok (.iaload, 1) := by decide +kernel
theorem dL_law_1105 : decode cL_law 1105 = .ok (.invokevirtual 205, 3) := by decide +kernel
theorem dL_law_1108 : decode cL_law 1108 = .ok (.istore 7, 2) := by decide +kernel
theorem dL_law_1110 : decode cL_law 1110 = .ok (.aload_n 2, 1) := by decide +kernel
theorem dL_law_1111 : decode cL_law 1111 = .ok (.invokevirtual 166, 3) := by decide +kernel
theorem dL_law_1114 : decode cL_law 1114 = .ok (.iload 6, 2) := by decide +kernel
theorem dL_law_1116 : decode cL_law 1116 = .ok (.if_icmp .eq 5, 3) := by decide +kernel
theorem dL_law_1121 : decode cL_law 1121 = .ok (.iload 6, 2) := by decide +kernel
theorem dL_law_1123 : decode cL_law 1123 = .ok (.ifCond .ne 15, 3) := by decide +kernel
theorem dL_law_1126 : decode cL_law 1126 = .ok (.aload_n 3, 1) := by decide +kernel
theorem dL_law_1127 : decode cL_law 1127 = .ok (.iconst 0, 1) := by decide +kernel
theorem dL_law_1128 : decode cL_law 1128 = .ok (.laload, 1) := by decide +kernel
theorem dL_law_1129 : decode cL_law 1129 = .ok (.iload 7, 2) := by decide +kernel
theorem dL_law_1131 : decode cL_law 1131 = .ok (.i2l, 1) := by decide +kernel
theorem dL_law_1132 : decode cL_law 1132 = .ok (.lcmp, 1) := by decide +kernel
theorem dL_law_1133 : decode cL_law 1133 = .ok (.ifCond .eq 5, 3) := by decide +kernel
theorem dL_law_1138 : decode cL_law 1138 = .ok (.goto 1820, 3) := by decide +kernel
theorem dL_law_1141 : decode cL_law 1141 = .ok (.aload_n 1, 1) := by decide +kernel
theorem dL_law_1142 : decode cL_law 1142 = .ok (.aload_n 0, 1) := by decide +kernel
theorem dL_law_1143 : decode cL_law 1143 = .ok (.iload 5, 2) := by decide +kernel
theorem dL_law_1145 : decode cL_law 1145 = .ok (.iconst 1, 1) := by decide +kernel
theorem dL_law_1146 : decode cL_law 1146 = .ok (.iadd, 1) := by decide +kernel
theorem dL_law_1147 : decode cL_law 1147 = .ok (.iaload, 1) := by decide +kernel
theorem dL_law_1148 : decode cL_law 1148 = .ok (.aload_n 0, 1) := by decide +kernel
theorem dL_law_1149 : decode cL_law 1149 = .ok (.iload 5, 2) := by decide +kernel
theorem dL_law_1151 : decode cL_law 1151 = .ok (.iconst 2, 1) := by decide +kernel
theorem dL_law_1152 : decode cL_law 1152 = .ok (.iadd, 1) := by decide +kernel
theorem dL_law_1153 : decode cL_law 1153 = .ok (.iaload, 1) := by decide +kernel
theorem dL_law_1154 : decode cL_law 1154 = .ok (.aload_n 3, 1) := by decide +kernel
theorem dL_law_1155 : decode cL_law 1155 = .ok (.invokestatic 206, 3) := by decide +kernel
theorem dL_law_1158 : decode cL_law 1158 = .ok (.istore 6, 2) := by decide +kernel
theorem dL_law_1160 : decode cL_law 1160 = .ok (.aload_n 2, 1) := by decide +kernel
theorem dL_law_1161 : decode cL_law 1161 = .ok (.aload_n 0, 1) := by decide +kernel
theorem dL_law_1162 : decode cL_law 1162 = .ok (.iload 5, 2) := by decide +kernel
theorem dL_law_1164 : decode cL_law 1164 = .ok (.iconst 1, 1) := by decide +kernel
theorem dL_law_1165 : decode cL_law 1165 = .ok (.iadd, 1) := by decide +kernel
theorem dL_law_1166 : decode cL_law 1166 = .ok (.iaload, 1) := by decide +kernel
theorem dL_law_1167 : decode cL_law 1167 = .ok (.aload_n 0, 1) := by decide +kernel
theorem dL_law_1168 : decode cL_law 1168 = .ok (.iload 5, 2) := by decide +kernel
theorem dL_law_1170 : decode cL_law 1170 = .ok (.iconst 2, 1) := by decide +kernel
theorem dL_law_1171 : decode cL_law 1171 = .ok (.iadd, 1) := by decide +kernel
theorem dL_law_1172 : decode cL_law 1172 = .ok (.iaload, 1) := by decide +kernel
theorem dL_law_1173 : decode cL_law 1173 = .ok (.invokevirtual 208, 3) := by decide +kernel
theorem dL_law_1176 : decode cL_law 1176 = .ok (.istore 7, 2) := by decide +kernel
theorem dL_law_1178 : decode cL_law 1178 = .ok (.aload_n 2, 1) := by decide +kernel
theorem dL_law_1179 : decode cL_law 1179 = .ok (.invokevirtual 166, 3) := by decide +kernel
theorem dL_law_1182 : decode cL_law 1182 = .ok (.iload 6, 2) := by decide +kernel
theorem dL_law_1184 : decode cL_law 1184 = .ok (.if_icmp .eq 5, 3) := by decide +kernel
theorem dL_law_1189 : decode cL_law 1189 = .ok (.iload 6, 2) := by decide +kernel
theorem dL_law_1191 : decode cL_law 1191 = .ok (.ifCond .ne 15, 3) := by decide +kernel
theorem dL_law_1206 : decode cL_law 1206 = .ok (.goto 1752, 3) := by decide +kernel
theorem dL_law_1209 : decode cL_law 1209 = .ok (.aload_n 1, 1) := by decide +kernel
theorem dL_law_1210 : decode cL_law 1210 = .ok (.aload_n 0, 1) := by decide +kernel
theorem dL_law_1211 : decode cL_law 1211 = .ok (.iload 5, 2) := by decide +kernel
theorem dL_law_1213 : decode cL_law 1213 = .ok (.iconst 1, 1) := by decide +kernel
theorem dL_law_1214 : decode cL_law 1214 = .ok (.iadd, 1) := by decide +kernel
theorem dL_law_1215 : decode cL_law 1215 = .ok (.iaload, 1) := by decide +kernel
theorem dL_law_1216 : decode cL_law 1216 = .ok (.aload_n 3, 1) := by decide +kernel
theorem dL_law_1217 : decode cL_law 1217 = .ok (.invokestatic 209, 3) := by decide +kernel
theorem dL_law_1220 : decode cL_law 1220 = .ok (.istore 6, 2) := by decide +kernel
theorem dL_law_1222 : decode cL_law 1222 = .ok (.aload_n 2, 1) := by decide +kernel
theorem dL_law_1223 : decode cL_law 1223 = .ok (.aload_n 0, 1) := by decide +kernel
theorem dL_law_1224 : decode cL_law 1224 = .ok (.iload 5, 2) := by decide +kernel
theorem dL_law_1226 : decode cL_law 1226 = .ok (.iconst 1, 1) := by decide +kernel
theorem dL_law_1227 : decode cL_law 1227 = .ok (.iadd, 1) := by decide +kernel
theorem dL_law_1228 : decode cL_law 1228 = .ok (.iaload, 1) := by decide +kernel
theorem dL_law_1229 : decode cL_law 1229 = .ok (.invokevirtual 211, 3) := by decide +kernel
theorem dL_law_1232 : decode cL_law 1232 = .ok (.istore 7, 2) := by decide +kernel
theorem dL_law_1234 : decode cL_law 1234 = .ok (.aload_n 2, 1) := by decide +kernel
theorem dL_law_1235 : decode cL_law 1235 = .ok (.invokevirtual 166, 3) := by decide +kernel
theorem dL_law_1238 : decode cL_law 1238 = .ok (.iload 6, 2) := by decide +kernel
theorem dL_law_1240 : decode cL_law 1240 = .ok (.if_icmp .eq 5, 3) := by decide +kernel
theorem dL_law_1245 : decode cL_law 1245 = .ok (.iload 6, 2) := by decide +kernel
theorem dL_law_1247 : decode cL_law 1247 = .ok (.ifCond .ne 22, 3) := by decide +kernel
theorem dL_law_1269 : decode cL_law 1269 = .ok (.goto 1689, 3) := by decide +kernel
theorem dL_law_1272 : decode cL_law 1272 = .ok (.aload_n 1, 1) := by decide +kernel
theorem dL_law_1273 : decode cL_law 1273 = .ok (.aload_n 0, 1) := by decide +kernel
theorem dL_law_1274 : decode cL_law 1274 = .ok (.iload 5, 2) := by decide +kernel
theorem dL_law_1276 : decode cL_law 1276 = .ok (.iconst 1, 1) := by decide +kernel
theorem dL_law_1277 : decode cL_law 1277 = .ok (.iadd, 1) := by decide +kernel
theorem dL_law_1278 : decode cL_law 1278 = .ok (.iaload, 1) := by decide +kernel
theorem dL_law_1279 : decode cL_law 1279 = .ok (.aload_n 3, 1) := by decide +kernel
theorem dL_law_1280 : decode cL_law 1280 = .ok (.invokestatic 212, 3) := by decide +kernel
theorem dL_law_1283 : decode cL_law 1283 = .ok (.istore 6, 2) := by decide +kernel
theorem dL_law_1285 : decode cL_law 1285 = .ok (.aload_n 2, 1) := by decide +kernel
theorem dL_law_1286 : decode cL_law 1286 = .ok (.aload_n 0, 1) := by decide +kernel
theorem dL_law_1287 : decode cL_law 1287 = .ok (.iload 5, 2) := by decide +kernel
theorem dL_law_1289 : decode cL_law 1289 = .ok (.iconst 1, 1) := by decide +kernel
theorem dL_law_1290 : decode cL_law 1290 = .ok (.iadd, 1) := by decide +kernel
theorem dL_law_1291 : decode cL_law 1291 = .ok (.iaload, 1) := by decide +kernel
theorem dL_law_1292 : decode cL_law 1292 = .ok (.invokevirtual 214, 3) := by decide +kernel
theorem dL_law_1295 : decode cL_law 1295 = .ok (.istore 7, 2) := by decide +kernel
theorem dL_law_1297 : decode cL_law 1297 = .ok (.aload_n 2, 1) := by decide +kernel
theorem dL_law_1298 : decode cL_law 1298 = .ok (.invokevirtual 166, 3) := by decide +kernel
theorem dL_law_1301 : decode cL_law 1301 = .ok (.iload 6, 2) := by decide +kernel
theorem dL_law_1303 : decode cL_law 1303 = .ok (.if_icmp .eq 5, 3) := by decide +kernel
theorem dL_law_1308 : decode cL_law 1308 = .ok (.iload 6, 2) := by decide +kernel
theorem dL_law_1310 : decode cL_law 1310 = .ok (.ifCond .ne 15, 3) := by decide +kernel
theorem dL_law_1325 : decode cL_law 1325 = .ok (.goto 1633, 3) := by decide +kernel
theorem dL_law_1328 : decode cL_law 1328 = .ok (.aload_n 1, 1) := by decide +kernel
theorem dL_law_1329 : decode cL_law 1329 = .ok (.aload_n 0, 1) := by decide +kernel
theorem dL_law_1330 : decode cL_law 1330 = .ok (.iload 5, 2) := by decide +kernel
theorem dL_law_1332 : decode cL_law 1332 = .ok (.iconst 1, 1) := by decide +kernel
theorem dL_law_1333 : decode cL_law 1333 = .ok (.iadd, 1) := by decide +kernel
theorem dL_law_1334 : decode cL_law 1334 = .ok (.iaload, 1) := by decide +kernel
theorem dL_law_1335 : decode cL_law 1335 = .ok (.aload_n 0, 1) := by decide +kernel
theorem dL_law_1336 : decode cL_law 1336 = .ok (.iload 5, 2) := by decide +kernel
theorem dL_law_1338 : decode cL_law 1338 = .ok (.iconst 2, 1) := by decide +kernel
theorem dL_law_1339 : decode cL_law 1339 = .ok (.iadd, 1) := by decide +kernel
theorem dL_law_1340 : decode cL_law 1340 = .ok (.iaload, 1) := by decide +kernel
theorem dL_law_1341 : decode cL_law 1341 = .ok (.aload_n 3, 1) := by decide +kernel
theorem dL_law_1342 : decode cL_law 1342 = .ok (.invokestatic 215, 3) := by decide +kernel
theorem dL_law_1345 : decode cL_law 1345 = .ok (.istore 6, 2) := by decide +kernel
theorem dL_law_1347 : decode cL_law 1347 = .ok (.aload_n 2, 1) := by decide +kernel
theorem dL_law_1348 : decode cL_law 1348 = .ok (.aload_n 0, 1) := by decide +kernel
theorem dL_law_1349 : decode cL_law 1349 = .ok (.iload 5, 2) := by decide +kernel
theorem dL_law_1351 : decode cL_law 1351 = .ok (.iconst 1, 1) := by decide +kernel
theorem dL_law_1352 : decode cL_law 1352 = .ok (.iadd, 1) := by decide +kernel
theorem dL_law_1353 : decode cL_law 1353 = .ok (.iaload, 1) := by decide +kernel
theorem dL_law_1354 : decode cL_law 1354 = .ok (.aload_n 0, 1) := by decide +kernel
theorem dL_law_1355 : decode cL_law 1355 = .ok (.iload 5, 2) := by decide +kernel
theorem dL_law_1357 : decode cL_law 1357 = .ok (.iconst 2, 1) := by decide +kernel
theorem dL_law_1358 : decode cL_law 1358 = .ok (.iadd, 1) := by decide +kernel
theorem dL_law_1359 : decode cL_law 1359 = .ok (.iaload, 1) := by decide +kernel
theorem dL_law_1360 : decode cL_law 1360 = .ok (.invokevirtual 217, 3) := by decide +kernel
theorem dL_law_1363 : decode cL_law 1363 = .ok (.istore 7, 2) := by decide +kernel
theorem dL_law_1365 : decode cL_law 1365 = .ok (.aload_n 2, 1) := by decide +kernel
theorem dL_law_1366 : decode cL_law 1366 = .ok (.invokevirtual 166, 3) := by decide +kernel
theorem dL_law_1369 : decode cL_law 1369 = .ok (.iload 6, 2) := by decide +kernel
theorem dL_law_1371 : decode cL_law 1371 = .ok (.if_icmp .eq 5, 3) := by decide +kernel
theorem dL_law_1376 : decode cL_law 1376 = .ok (.iload 6, 2) := by decide +kernel
theorem dL_law_1378 : decode cL_law 1378 = .ok (.ifCond .ne 15, 3) := by decide +kernel
theorem dL_law_1381 : decode cL_law 1381 = .ok (.aload_n 3, 1) := by decide +kernel
theorem dL_law_1382 : decode cL_law 1382 = .ok (.iconst 0, 1) := by decide +kernel
theorem dL_law_1383 : decode cL_law 1383 = .ok (.laload, 1) := by decide +kernel
theorem dL_law_1384 : decode cL_law 1384 = .ok (.iload 7, 2) := by decide +kernel
theorem dL_law_1386 : decode cL_law 1386 = .ok (.i2l, 1) := by decide +kernel
theorem dL_law_1387 : decode cL_law 1387 = .ok (.lcmp, 1) := by decide +kernel
theorem dL_law_1388 : decode cL_law 1388 = .ok (.ifCond .eq 5, 3) := by decide +kernel
theorem dL_law_1393 : decode cL_law 1393 = .ok (.goto 1565, 3) := by decide +kernel
theorem dL_law_1396 : decode cL_law 1396 = .ok (.aload_n 1, 1) := by decide +kernel
theorem dL_law_1397 : decode cL_law 1397 = .ok (.aload_n 0, 1) := by decide +kernel
theorem dL_law_1398 : decode cL_law 1398 = .ok (.iload 5, 2) := by decide +kernel
theorem dL_law_1400 : decode cL_law 1400 = .ok (.iconst 1, 1) := by decide +kernel
theorem dL_law_1401 : decode cL_law 1401 = .ok (.iadd, 1) := by decide +kernel
theorem dL_law_1402 : decode cL_law 1402 = .ok (.iaload, 1) := by decide +kernel
theorem dL_law_1403 : decode cL_law 1403 = .ok (.aload_n 3, 1) := by decide +kernel
theorem dL_law_1404 : decode cL_law 1404 = .ok (.invokestatic 218, 3) := by decide +kernel
theorem dL_law_1407 : decode cL_law 1407 = .ok (.istore 6, 2) := by decide +kernel
theorem dL_law_1409 : decode cL_law 1409 = .ok (.aload_n 2, 1) := by decide +kernel
theorem dL_law_1410 : decode cL_law 1410 = .ok (.aload_n 0, 1) := by decide +kernel
theorem dL_law_1411 : decode cL_law 1411 = .ok (.iload 5, 2) := by decide +kernel
theorem dL_law_1413 : decode cL_law 1413 = .ok (.iconst 1, 1) := by decide +kernel
theorem dL_law_1414 : decode cL_law 1414 = .ok (.iadd, 1) := by decide +kernel
theorem dL_law_1415 : decode cL_law 1415 = .ok (.iaload, 1) := by decide +kernel
theorem dL_law_1416 : decode cL_law 1416 = .ok (.invokevirtual 220, 3) := by decide +kernel
theorem dL_law_1419 : decode cL_law 1419 = .ok (.istore 7, 2) := by decide +kernel
theorem dL_law_1421 : decode cL_law 1421 = .ok (.aload_n 2, 1) := by decide +kernel
theorem dL_law_1422 : decode cL_law 1422 = .ok (.invokevirtual 166, 3) := by decide +kernel
theorem dL_law_1425 : decode cL_law 1425 = .ok (.iload 6, 2) := by decide +kernel
theorem dL_law_1427 : decode cL_law 1427 = .ok (.if_icmp .eq 5, 3) := by decide +kernel
theorem dL_law_1432 : decode cL_law 1432 = .ok (.iload 6, 2) := by decide +kernel
theorem dL_law_1434 : decode cL_law 1434 = .ok (.ifCond .ne 15, 3) := by decide +kernel
theorem dL_law_1449 : decode cL_law 1449 = .ok (.goto 1509, 3) := by decide +kernel
theorem dL_law_1452 : decode cL_law 1452 = .ok (.aload_n 1, 1) := by decide +kernel
theorem dL_law_1453 : decode cL_law 1453 = .ok (.aload_n 0, 1) := by decide +kernel
theorem dL_law_1454 : decode cL_law 1454 = .ok (.iload 5, 2) := by decide +kernel
theorem dL_law_1456 : decode cL_law 1456 = .ok (.iconst 1, 1) := by decide +kernel
theorem dL_law_1457 : decode cL_law 1457 = .ok (.iadd, 1) := by decide +kernel
theorem dL_law_1458 : decode cL_law 1458 = .ok (.iaload, 1) := by decide +kernel
theorem dL_law_1459 : decode cL_law 1459 = .ok (.aload_n 3, 1) := by decide +kernel
theorem dL_law_1460 : decode cL_law 1460 = .ok (.invokestatic 221, 3) := by decide +kernel
theorem dL_law_1463 : decode cL_law 1463 = .ok (.istore 6, 2) := by decide +kernel
theorem dL_law_1465 : decode cL_law 1465 = .ok (.aload_n 2, 1) := by decide +kernel
theorem dL_law_1466 : decode cL_law 1466 = .ok (.aload_n 0, 1) := by decide +kernel
theorem dL_law_1467 : decode cL_law 1467 = .ok (.iload 5, 2) := by decide +kernel
theorem dL_law_1469 : decode cL_law 1469 = .ok (.iconst 1, 1) := by decide +kernel
theorem dL_law_1470 : decode cL_law 1470 = .ok (.iadd, 1) := by decide +kernel
theorem dL_law_1471 : decode cL_law 1471 = .ok (.iaload, 1) := by decide +kernel
theorem dL_law_1472 : decode cL_law 1472 = .ok (.invokevirtual 223, 3) := by decide +kernel
theorem dL_law_1475 : decode cL_law 1475 = .ok (.istore 7, 2) := by decide +kernel
theorem dL_law_1477 : decode cL_law 1477 = .ok (.aload_n 2, 1) := by decide +kernel
theorem dL_law_1478 : decode cL_law 1478 = .ok (.invokevirtual 166, 3) := by decide +kernel
theorem dL_law_1481 : decode cL_law 1481 = .ok (.iload 6, 2) := by decide +kernel
theorem dL_law_1483 : decode cL_law 1483 = .ok (.if_icmp .eq 5, 3) := by decide +kernel
theorem dL_law_1488 : decode cL_law 1488 = .ok (.iload 6, 2) := by decide +kernel
theorem dL_law_1490 : decode cL_law 1490 = .ok (.ifCond .ne 15, 3) := by decide +kernel
theorem dL_law_1493 : decode cL_law 1493 = .ok (.aload_n 3, 1) := by decide +kernel
theorem dL_law_1494 : decode cL_law 1494 = .ok (.iconst 0, 1) := by decide +kernel
theorem dL_law_1495 : decode cL_law 1495 = .ok (.laload, 1) := by decide +kernel
theorem dL_law_1496 : decode cL_law 1496 = .ok (.iload 7, 2) := by decide +kernel
theorem dL_law_1498 : decode cL_law 1498 = .ok (.i2l, 1) := by decide +kernel
theorem dL_law_1499 : decode cL_law 1499 = .ok (.lcmp, 1) := by decide +kernel
theorem dL_law_1500 : decode cL_law 1500 = .ok (.ifCond .eq 5, 3) := by decide +kernel
theorem dL_law_1505 : decode cL_law 1505 = .ok (.goto 1453, 3) := by decide +kernel
theorem dL_law_1508 : decode cL_law 1508 = .ok (.aload_n 1, 1) := by decide +kernel
theorem dL_law_1509 : decode cL_law 1509 = .ok (.aload_n 0, 1) := by decide +kernel
theorem dL_law_1510 : decode cL_law 1510 = .ok (.iload 5, 2) := by decide +kernel
theorem dL_law_1512 : decode cL_law 1512 = .ok (.iconst 1, 1) := by decide +kernel
theorem dL_law_1513 : decode cL_law 1513 = .ok (.iadd, 1) := by decide +kernel
theorem dL_law_1514 : decode cL_law 1514 = .ok (.iaload, 1) := by decide +kernel
theorem dL_law_1515 : decode cL_law 1515 = .ok (.aload_n 3, 1) := by decide +kernel
theorem dL_law_1516 : decode cL_law 1516 = .ok (.invokestatic 224, 3) := by decide +kernel
theorem dL_law_1519 : decode cL_law 1519 = .ok (.istore 6, 2) := by decide +kernel
theorem dL_law_1521 : decode cL_law 1521 = .ok (.aload_n 2, 1) := by decide +kernel
theorem dL_law_1522 : decode cL_law 1522 = .ok (.aload_n 0, 1) := by decide +kernel
theorem dL_law_1523 : decode cL_law 1523 = .ok (.iload 5, 2) := by decide +kernel
theorem dL_law_1525 : decode cL_law 1525 = .ok (.iconst 1, 1) := by decide +kernel
theorem dL_law_1526 : decode cL_law 1526 = .ok (.iadd, 1) := by decide +kernel
theorem dL_law_1527 : decode cL_law 1527 = .ok (.iaload, 1) := by decide +kernel
theorem dL_law_1528 : decode cL_law 1528 = .ok (.invokevirtual 226, 3) := by decide +kernel
theorem dL_law_1531 : decode cL_law 1531 = .ok (.istore 7, 2) := by decide +kernel
theorem dL_law_1533 : decode cL_law 1533 = .ok (.aload_n 2, 1) := by decide +kernel
theorem dL_law_1534 : decode cL_law 1534 = .ok (.invokevirtual 166, 3) := by decide +kernel
theorem dL_law_1537 : decode cL_law 1537 = .ok (.iload 6, 2) := by decide +kernel
theorem dL_law_1539 : decode cL_law 1539 = .ok (.if_icmp .eq 5, 3) := by decide +kernel
theorem dL_law_1544 : decode cL_law 1544 = .ok (.iload 6, 2) := by decide +kernel
theorem dL_law_1546 : decode cL_law 1546 = .ok (.ifCond .ne 15, 3) := by decide +kernel
theorem dL_law_1549 : decode cL_law 1549 = .ok (.aload_n 3, 1) := by decide +kernel
theorem dL_law_1550 : decode cL_law 1550 = .ok (.iconst 0, 1) := by decide +kernel
theorem dL_law_1551 : decode cL_law 1551 = .ok (.laload, 1) := by decide +kernel
theorem dL_law_1552 : decode cL_law 1552 = .ok (.iload 7, 2) := by decide +kernel
theorem dL_law_1554 : decode cL_law 1554 = .ok (.i2l, 1) := by decide +kernel
theorem dL_law_1555 : decode cL_law 1555 = .ok (.lcmp, 1) := by decide +kernel
theorem dL_law_1556 : decode cL_law 1556 = .ok (.ifCond .eq 5, 3) := by decide +kernel
theorem dL_law_1561 : decode cL_law 1561 = .ok (.goto 1397, 3) := by decide +kernel
theorem dL_law_1564 : decode cL_law 1564 = .ok (.aload_n 1, 1) := by decide +kernel
theorem dL_law_1565 : decode cL_law 1565 = .ok (.aload_n 0, 1) := by decide +kernel
theorem dL_law_1566 : decode cL_law 1566 = .ok (.iload 5, 2) := by decide +kernel
theorem dL_law_1568 : decode cL_law 1568 = .ok (.iconst 1, 1) := by decide +kernel
theorem dL_law_1569 : decode cL_law 1569 = .ok (.iadd, 1) := by decide +kernel
theorem dL_law_1570 : decode cL_law 1570 = .ok (.iaload, 1) := by decide +kernel
theorem dL_law_1571 : decode cL_law 1571 = .ok (.aload_n 3, 1) := by decide +kernel
theorem dL_law_1572 : decode cL_law 1572 = .ok (.invokestatic 227, 3) := by decide +kernel
theorem dL_law_1575 : decode cL_law 1575 = .ok (.istore 6, 2) := by decide +kernel
theorem dL_law_1577 : decode cL_law 1577 = .ok (.aload_n 2, 1) := by decide +kernel
theorem dL_law_1578 : decode cL_law 1578 = .ok (.aload_n 0, 1) := by decide +kernel
theorem dL_law_1579 : decode cL_law 1579 = .ok (.iload 5, 2) := by decide +kernel
theorem dL_law_1581 : decode cL_law 1581 = .ok (.iconst 1, 1) := by decide +kernel
theorem dL_law_1582 : decode cL_law 1582 = .ok (.iadd, 1) := by decide +kernel
theorem dL_law_1583 : decode cL_law 1583 = .ok (.iaload, 1) := by decide +kernel
theorem dL_law_1584 : decode cL_law 1584 = .ok (.invokevirtual 229, 3) := by decide +kernel
theorem dL_law_1587 : decode cL_law 1587 = .ok (.istore 7, 2) := by decide +kernel
theorem dL_law_1589 : decode cL_law 1589 = .ok (.aload_n 2, 1) := by decide +kernel
theorem dL_law_1590 : decode cL_law 1590 = .ok (.invokevirtual 166, 3) := by decide +kernel
theorem dL_law_1593 : decode cL_law 1593 = .ok (.iload 6, 2) := by decide +kernel
theorem dL_law_1595 : decode cL_law 1595 = .ok (.if_icmp .eq 5, 3) := by decide +kernel
theorem dL_law_1600 : decode cL_law 1600 = .ok (.iload 6, 2) := by decide +kernel
theorem dL_law_1602 : decode cL_law 1602 = .ok (.ifCond .ne 15, 3) := by decide +kernel
theorem dL_law_1605 : decode cL_law 1605 = .ok (.aload_n 3, 1) := by decide +kernel
theorem dL_law_1606 : decode cL_law 1606 = .ok (.iconst 0, 1) := by decide +kernel
theorem dL_law_1607 : decode cL_law 1607 = .ok (.laload, 1) := by decide +kernel
theorem dL_law_1608 : decode cL_law 1608 = .ok (.iload 7, 2) := by decide +kernel
theorem dL_law_1610 : decode cL_law 1610 = .ok (.i2l, 1) := by decide +kernel
theorem dL_law_1611 : decode cL_law 1611 = .ok (.lcmp, 1) := by decide +kernel
theorem dL_law_1612 : decode cL_law 1612 = .ok (.ifCond .eq 5, 3) := by decide +kernel
theorem dL_law_1617 : decode cL_law 1617 = .ok (.goto 1341, 3) := by decide +kernel
theorem dL_law_1620 : decode cL_law 1620 = .ok (.aload_n 1, 1) := by decide +kernel
theorem dL_law_1621 : decode cL_law 1621 = .ok (.aload_n 0, 1) := by decide +kernel
theorem dL_law_1622 : decode cL_law 1622 = .ok (.iload 5, 2) := by decide +kernel
theorem dL_law_1624 : decode cL_law 1624 = .ok (.iconst 1, 1) := by decide +kernel
theorem dL_law_1625 : decode cL_law 1625 = .ok (.iadd, 1) := by decide +kernel
theorem dL_law_1626 : decode cL_law 1626 = .ok (.iaload, 1) := by decide +kernel
theorem dL_law_1627 : decode cL_law 1627 = .ok (.aload_n 0, 1) := by decide +kernel
theorem dL_law_1628 : decode cL_law 1628 = .ok (.iload 5, 2) := by decide +kernel
theorem dL_law_1630 : decode cL_law 1630 = .ok (.iconst 2, 1) := by decide +kernel
theorem dL_law_1631 : decode cL_law 1631 = .ok (.iadd, 1) := by decide +kernel
theorem dL_law_1632 : decode cL_law 1632 = .ok (.iaload, 1) := by decide +kernel
theorem dL_law_1633 : decode cL_law 1633 = .ok (.ifCond .eq 7, 3) := by decide +kernel
theorem dL_law_1636 : decode cL_law 1636 = .ok (.iconst 1, 1) := by decide +kernel
theorem dL_law_1637 : decode cL_law 1637 = .ok (.goto 4, 3) := by decide +kernel
theorem dL_law_1640 : decode cL_law 1640 = .ok (.iconst 0, 1) := by decide +kernel
theorem dL_law_1641 : decode cL_law 1641 = .ok (.aload_n 3, 1) := by decide +kernel
theorem dL_law_1642 : decode cL_law 1642 = .ok (.invokestatic 230, 3) := by decide +kernel
theorem dL_law_1645 : decode cL_law 1645 = .ok (.istore 6, 2) := by decide +kernel
theorem dL_law_1647 : decode cL_law 1647 = .ok (.aload_n 2, 1) := by decide +kernel
theorem dL_law_1648 : decode cL_law 1648 = .ok (.aload_n 0, 1) := by decide +kernel
theorem dL_law_1649 : decode cL_law 1649 = .ok (.iload 5, 2) := by decide +kernel
theorem dL_law_1651 : decode cL_law 1651 = .ok (.iconst 1, 1) := by decide +kernel
theorem dL_law_1652 : decode cL_law 1652 = .ok (.iadd, 1) := by decide +kernel
theorem dL_law_1653 : decode cL_law 1653 = .ok (.iaload, 1) := by decide +kernel
theorem dL_law_1654 : decode cL_law 1654 = .ok (.aload_n 0, 1) := by decide +kernel
theorem dL_law_1655 : decode cL_law 1655 = .ok (.iload 5, 2) := by decide +kernel
theorem dL_law_1657 : decode cL_law 1657 = .ok (.iconst 2, 1) := by decide +kernel
theorem dL_law_1658 : decode cL_law 1658 = .ok (.iadd, 1) := by decide +kernel
theorem dL_law_1659 : decode cL_law 1659 = .ok (.iaload, 1) := by decide +kernel
theorem dL_law_1660 : decode cL_law 1660 = .ok (.ifCond .eq 7, 3) := by decide +kernel
theorem dL_law_1663 : decode cL_law 1663 = .ok (.iconst 1, 1) := by decide +kernel
theorem dL_law_1664 : decode cL_law 1664 = .ok (.goto 4, 3) := by decide +kernel
theorem dL_law_1667 : decode cL_law 1667 = .ok (.iconst 0, 1) := by decide +kernel
theorem dL_law_1668 : decode cL_law 1668 = .ok (.invokevirtual 233, 3) := by decide +kernel
theorem dL_law_1671 : decode cL_law 1671 = .ok (.istore 7, 2) := by decide +kernel
theorem dL_law_1673 : decode cL_law 1673 = .ok (.aload_n 2, 1) := by decide +kernel
theorem dL_law_1674 : decode cL_law 1674 = .ok (.invokevirtual 166, 3) := by decide +kernel
theorem dL_law_1677 : decode cL_law 1677 = .ok (.iload 6, 2) := by decide +kernel
theorem dL_law_1679 : decode cL_law 1679 = .ok (.if_icmp .eq 5, 3) := by decide +kernel
theorem dL_law_1684 : decode cL_law 1684 = .ok (.iload 6, 2) := by decide +kernel
theorem dL_law_1686 : decode cL_law 1686 = .ok (.ifCond .ne 15, 3) := by decide +kernel
theorem dL_law_1689 : decode cL_law 1689 = .ok (.aload_n 3, 1) := by decide +kernel
theorem dL_law_1690 : decode cL_law 1690 = .ok (.iconst 0, 1) := by decide +kernel
theorem dL_law_1691 : decode cL_law 1691 = .ok (.laload, 1) := by decide +kernel
theorem dL_law_1692 : decode cL_law 1692 = .ok (.iload 7, 2) := by decide +kernel
theorem dL_law_1694 : decode cL_law 1694 = .ok (.i2l, 1) := by decide +kernel
theorem dL_law_1695 : decode cL_law 1695 = .ok (.lcmp, 1) := by decide +kernel
theorem dL_law_1696 : decode cL_law 1696 = .ok (.ifCond .eq 5, 3) := by decide +kernel
theorem dL_law_1701 : decode cL_law 1701 = .ok (.goto 1257, 3) := by decide +kernel
theorem dL_law_1704 : decode cL_law 1704 = .ok (.aload_n 1, 1) := by decide +kernel
theorem dL_law_1705 : decode cL_law 1705 = .ok (.aload_n 0, 1) := by decide +kernel
theorem dL_law_1706 : decode cL_law 1706 = .ok (.iload 5, 2) := by decide +kernel
theorem dL_law_1708 : decode cL_law 1708 = .ok (.iconst 1, 1) := by decide +kernel
theorem dL_law_1709 : decode cL_law 1709 = .ok (.iadd, 1) := by decide +kernel
theorem dL_law_1710 : decode cL_law 1710 = .ok (.iaload, 1) := by decide +kernel
theorem dL_law_1711 : decode cL_law 1711 = .ok (.aload_n 3, 1) := by decide +kernel
theorem dL_law_1712 : decode cL_law 1712 = .ok (.invokestatic 234, 3) := by decide +kernel
theorem dL_law_1715 : decode cL_law 1715 = .ok (.istore 6, 2) := by decide +kernel
theorem dL_law_1717 : decode cL_law 1717 = .ok (.aload_n 2, 1) := by decide +kernel
theorem dL_law_1718 : decode cL_law 1718 = .ok (.aload_n 0, 1) := by decide +kernel
theorem dL_law_1719 : decode cL_law 1719 = .ok (.iload 5, 2) := by decide +kernel
theorem dL_law_1721 : decode cL_law 1721 = .ok (.iconst 1, 1) := by decide +kernel
theorem dL_law_1722 : decode cL_law 1722 = .ok (.iadd, 1) := by decide +kernel
theorem dL_law_1723 : decode cL_law 1723 = .ok (.iaload, 1) := by decide +kernel
theorem dL_law_1724 : decode cL_law 1724 = .ok (.invokevirtual 236, 3) := by decide +kernel
theorem dL_law_1727 : decode cL_law 1727 = .ok (.istore 7, 2) := by decide +kernel
theorem dL_law_1729 : decode cL_law 1729 = .ok (.aload_n 2, 1) := by decide +kernel
theorem dL_law_1730 : decode cL_law 1730 = .ok (.invokevirtual 166, 3) := by decide +kernel
theorem dL_law_1733 : decode cL_law 1733 = .ok (.iload 6, 2) := by decide +kernel
theorem dL_law_1735 : decode cL_law 1735 = .ok (.if_icmp .eq 5, 3) := by decide +kernel
theorem dL_law_1740 : decode cL_law 1740 = .ok (.iload 6, 2) := by decide +kernel
theorem dL_law_1742 : decode cL_law 1742 = .ok (.ifCond .ne 15, 3) := by decide +kernel
theorem dL_law_1745 : decode cL_law 1745 = .ok (.aload_n 3, 1) := by decide +kernel
theorem dL_law_1746 : decode cL_law 1746 = .ok (.iconst 0, 1) := by decide +kernel
theorem dL_law_1747 : decode cL_law 1747 = .ok (.laload, 1) := by decide +kernel
theorem dL_law_1748 : decode cL_law 1748 = .ok (.iload 7, 2) := by decide +kernel
theorem dL_law_1750 : decode cL_law 1750 = .ok (.i2l, 1) := by decide +kernel
theorem dL_law_1751 : decode cL_law 1751 = .ok (.lcmp, 1) := by decide +kernel
theorem dL_law_1752 : decode cL_law 1752 = .ok (.ifCond .eq 5, 3) := by decide +kernel
theorem dL_law_1757 : decode cL_law 1757 = .ok (.goto 1201, 3) := by decide +kernel
theorem dL_law_1760 : decode cL_law 1760 = .ok (.aload_n 1, 1) := by decide +kernel
theorem dL_law_1761 : decode cL_law 1761 = .ok (.aload_n 0, 1) := by decide +kernel
theorem dL_law_1762 : decode cL_law 1762 = .ok (.iload 5, 2) := by decide +kernel
theorem dL_law_1764 : decode cL_law 1764 = .ok (.iconst 1, 1) := by decide +kernel
theorem dL_law_1765 : decode cL_law 1765 = .ok (.iadd, 1) := by decide +kernel
theorem dL_law_1766 : decode cL_law 1766 = .ok (.iaload, 1) := by decide +kernel
theorem dL_law_1767 : decode cL_law 1767 = .ok (.aload_n 0, 1) := by decide +kernel
theorem dL_law_1768 : decode cL_law 1768 = .ok (.iload 5, 2) := by decide +kernel
theorem dL_law_1770 : decode cL_law 1770 = .ok (.iconst 2, 1) := by decide +kernel
theorem dL_law_1771 : decode cL_law 1771 = .ok (.iadd, 1) := by decide +kernel
theorem dL_law_1772 : decode cL_law 1772 = .ok (.iaload, 1) := by decide +kernel
theorem dL_law_1773 : decode cL_law 1773 = .ok (.aload_n 0, 1) := by decide +kernel
theorem dL_law_1774 : decode cL_law 1774 = .ok (.iload 5, 2) := by decide +kernel
theorem dL_law_1776 : decode cL_law 1776 = .ok (.iconst 3, 1) := by decide +kernel
theorem dL_law_1777 : decode cL_law 1777 = .ok (.iadd, 1) := by decide +kernel
theorem dL_law_1778 : decode cL_law 1778 = .ok (.iaload, 1) := by decide +kernel
theorem dL_law_1779 : decode cL_law 1779 = .ok (.aload_n 0, 1) := by decide +kernel
theorem dL_law_1780 : decode cL_law 1780 = .ok (.iload 5, 2) := by decide +kernel
theorem dL_law_1782 : decode cL_law 1782 = .ok (.iconst 4, 1) := by decide +kernel
theorem dL_law_1783 : decode cL_law 1783 = .ok (.iadd, 1) := by decide +kernel
theorem dL_law_1784 : decode cL_law 1784 = .ok (.iaload, 1) := by decide +kernel
theorem dL_law_1785 : decode cL_law 1785 = .ok (.aload_n 0, 1) := by decide +kernel
theorem dL_law_1786 : decode cL_law 1786 = .ok (.iload 5, 2) := by decide +kernel
theorem dL_law_1788 : decode cL_law 1788 = .ok (.iconst 5, 1) := by decide +kernel
theorem dL_law_1789 : decode cL_law 1789 = .ok (.iadd, 1) := by decide +kernel
theorem dL_law_1790 : decode cL_law 1790 = .ok (.iaload, 1) := by decide +kernel
theorem dL_law_1791 : decode cL_law 1791 = .ok (.aload_n 3, 1) := by decide +kernel
theorem dL_law_1792 : decode cL_law 1792 = .ok (.invokestatic 237, 3) := by decide +kernel
theorem dL_law_1795 : decode cL_law 1795 = .ok (.istore 6, 2) := by decide +kernel
theorem dL_law_1797 : decode cL_law 1797 = .ok (.aload_n 2, 1) := by decide +kernel
theorem dL_law_1798 : decode cL_law 1798 = .ok (.aload_n 0, 1) := by decide +kernel
theorem dL_law_1799 : decode cL_law 1799 = .ok (.iload 5, 2) := by decide +kernel
theorem dL_law_1801 : decode cL_law 1801 = .ok (.iconst 1, 1) := by decide +kernel
theorem dL_law_1802 : decode cL_law 1802 = .ok (.iadd, 1) := by decide +kernel
theorem dL_law_1803 : decode cL_law 1803 = .ok (.iaload, 1) := by decide +kernel
theorem dL_law_1804 : decode cL_law 1804 = .ok (.aload_n 0, 1) := by decide +kernel
theorem dL_law_1805 : decode cL_law 1805 = .ok (.iload 5, 2) := by decide +kernel
theorem dL_law_1807 : decode cL_law 1807 = .ok (.iconst 2, 1) := by decide +kernel
theorem dL_law_1808 : decode cL_law 1808 = .ok (.iadd, 1) := by decide +kernel
theorem dL_law_1809 : decode cL_law 1809 = .ok (.iaload, 1) := by decide +kernel
theorem dL_law_1810 : decode cL_law 1810 = .ok (.aload_n 0, 1) := by decide +kernel
theorem dL_law_1811 : decode cL_law 1811 = .ok (.iload 5, 2) := by decide +kernel
theorem dL_law_1813 : decode cL_law 1813 = .ok (.iconst 3, 1) := by decide +kernel
theorem dL_law_1814 : decode cL_law 1814 = .ok (.iadd, 1) := by decide +kernel
theorem dL_law_1815 : decode cL_law 1815 = .ok (.iaload, 1) := by decide +kernel
theorem dL_law_1816 : decode cL_law 1816 = .ok (.aload_n 0, 1) := by decide +kernel
theorem dL_law_1817 : decode cL_law 1817 = .ok (.iload 5, 2) := by decide +kernel
theorem dL_law_1819 : decode cL_law 1819 = .ok (.iconst 4, 1) := by decide +kernel
theorem dL_law_1820 : decode cL_law 1820 = .ok (.iadd, 1) := by decide +kernel
theorem dL_law_1821 : decode cL_law 1821 = .ok (.iaload, 1) := by decide +kernel
theorem dL_law_1822 : decode cL_law 1822 = .ok (.aload_n 0, 1) := by decide +kernel
theorem dL_law_1823 : decode cL_law 1823 = .ok (.iload 5, 2) := by decide +kernel
theorem dL_law_1825 : decode cL_law 1825 = .ok (.iconst 5, 1) := by decide +kernel
theorem dL_law_1826 : decode cL_law 1826 = .ok (.iadd, 1) := by decide +kernel
theorem dL_law_1827 : decode cL_law 1827 = .ok (.iaload, 1) := by decide +kernel
theorem dL_law_1828 : decode cL_law 1828 = .ok (.invokevirtual 239, 3) := by decide +kernel
theorem dL_law_1831 : decode cL_law 1831 = .ok (.istore 7, 2) := by decide +kernel
theorem dL_law_1833 : decode cL_law 1833 = .ok (.aload_n 2, 1) := by decide +kernel
theorem dL_law_1834 : decode cL_law 1834 = .ok (.invokevirtual 166, 3) := by decide +kernel
theorem dL_law_1837 : decode cL_law 1837 = .ok (.iload 6, 2) := by decide +kernel
theorem dL_law_1839 : decode cL_law 1839 = .ok (.if_icmp .eq 5, 3) := by decide +kernel
theorem dL_law_1844 : decode cL_law 1844 = .ok (.iload 6, 2) := by decide +kernel
theorem dL_law_1846 : decode cL_law 1846 = .ok (.ifCond .ne 15, 3) := by decide +kernel
theorem dL_law_1849 : decode cL_law 1849 = .ok (.aload_n 3, 1) := by decide +kernel
theorem dL_law_1850 : decode cL_law 1850 = .ok (.iconst 0, 1) := by decide +kernel
theorem dL_law_1851 : decode cL_law 1851 = .ok (.laload, 1) := by decide +kernel
theorem dL_law_1852 : decode cL_law 1852 = .ok (.iload 7, 2) := by decide +kernel
theorem dL_law_1854 : decode cL_law 1854 = .ok (.i2l, 1) := by decide +kernel
theorem dL_law_1855 : decode cL_law 1855 = .ok (.lcmp, 1) := by decide +kernel
theorem dL_law_1856 : decode cL_law 1856 = .ok (.ifCond .eq 5, 3) := by decide +kernel
theorem dL_law_1861 : decode cL_law 1861 = .ok (.goto 1097, 3) := by decide +kernel
theorem dL_law_1864 : decode cL_law 1864 = .ok (.aload_n 1, 1) := by decide +kernel
theorem dL_law_1865 : decode cL_law 1865 = .ok (.aload_n 0, 1) := by decide +kernel
theorem dL_law_1866 : decode cL_law 1866 = .ok (.iload 5, 2) := by decide +kernel
theorem dL_law_1868 : decode cL_law 1868 = .ok (.iconst 1, 1) := by decide +kernel
theorem dL_law_1869 : decode cL_law 1869 = .ok (.iadd, 1) := by decide +kernel
theorem dL_law_1870 : decode cL_law 1870 = .ok (.iaload, 1) := by decide +kernel
theorem dL_law_1871 : decode cL_law 1871 = .ok (.aload_n 0, 1) := by decide +kernel
theorem dL_law_1872 : decode cL_law 1872 = .ok (.iload 5, 2) := by decide +kernel
theorem dL_law_1874 : decode cL_law 1874 = .ok (.iconst 2, 1) := by decide +kernel
theorem dL_law_1875 : decode cL_law 1875 = .ok (.iadd, 1) := by decide +kernel
theorem dL_law_1876 : decode cL_law 1876 = .ok (.iaload, 1) := by decide +kernel
theorem dL_law_1877 : decode cL_law 1877 = .ok (.aload_n 3, 1) := by decide +kernel
theorem dL_law_1878 : decode cL_law 1878 = .ok (.invokestatic 240, 3) := by decide +kernel
theorem dL_law_1881 : decode cL_law 1881 = .ok (.istore 6, 2) := by decide +kernel
theorem dL_law_1883 : decode cL_law 1883 = .ok (.aload_n 2, 1) := by decide +kernel
theorem dL_law_1884 : decode cL_law 1884 = .ok (.aload_n 0, 1) := by decide +kernel
theorem dL_law_1885 : decode cL_law 1885 = .ok (.iload 5, 2) := by decide +kernel
theorem dL_law_1887 : decode cL_law 1887 = .ok (.iconst 1, 1) := by decide +kernel
theorem dL_law_1888 : decode cL_law 1888 = .ok (.iadd, 1) := by decide +kernel
theorem dL_law_1889 : decode cL_law 1889 = .ok (.iaload, 1) := by decide +kernel
theorem dL_law_1890 : decode cL_law 1890 = .ok (.aload_n 0, 1) := by decide +kernel
theorem dL_law_1891 : decode cL_law 1891 = .ok (.iload 5, 2) := by decide +kernel
theorem dL_law_1893 : decode cL_law 1893 = .ok (.iconst 2, 1) := by decide +kernel
theorem dL_law_1894 : decode cL_law 1894 = .ok (.iadd, 1) := by decide +kernel
theorem dL_law_1895 : decode cL_law 1895 = .ok (.iaload, 1) := by decide +kernel
theorem dL_law_1896 : decode cL_law 1896 = .ok (.invokevirtual 242, 3) := by decide +kernel
theorem dL_law_1899 : decode cL_law 1899 = .ok (.istore 7, 2) := by decide +kernel
theorem dL_law_1901 : decode cL_law 1901 = .ok (.aload_n 2, 1) := by decide +kernel
theorem dL_law_1902 : decode cL_law 1902 = .ok (.invokevirtual 166, 3) := by decide +kernel
theorem dL_law_1905 : decode cL_law 1905 = .ok (.iload 6, 2) := by decide +kernel
theorem dL_law_1907 : decode cL_law 1907 = .ok (.if_icmp .eq 5, 3) := by decide +kernel
theorem dL_law_1912 : decode cL_law 1912 = .ok (.iload 6, 2) := by decide +kernel
theorem dL_law_1914 : decode cL_law 1914 = .ok (.ifCond .ne 15, 3) := by decide +kernel
theorem dL_law_1917 : decode cL_law 1917 = .ok (.aload_n 3, 1) := by decide +kernel
theorem dL_law_1918 : decode cL_law 1918 = .ok (.iconst 0, 1) := by decide +kernel
theorem dL_law_1919 : decode cL_law 1919 = .ok (.laload, 1) := by decide +kernel
theorem dL_law_1920 : decode cL_law 1920 = .ok (.iload 7, 2) := by decide +kernel
theorem dL_law_1922 : decode cL_law 1922 = .ok (.i2l, 1) := by decide +kernel
theorem dL_law_1923 : decode cL_law 1923 = .ok (.lcmp, 1) := by decide +kernel
theorem dL_law_1924 : decode cL_law 1924 = .ok (.ifCond .eq 5, 3) := by decide +kernel
theorem dL_law_1929 : decode cL_law 1929 = .ok (.goto 1029, 3) := by decide +kernel
theorem dL_law_1932 : decode cL_law 1932 = .ok (.aload_n 1, 1) := by decide +kernel
theorem dL_law_1933 : decode cL_law 1933 = .ok (.aload_n 0, 1) := by decide +kernel
theorem dL_law_1934 : decode cL_law 1934 = .ok (.iload 5, 2) := by decide +kernel
theorem dL_law_1936 : decode cL_law 1936 = .ok (.iconst 1, 1) := by decide +kernel
theorem dL_law_1937 : decode cL_law 1937 = .ok (.iadd, 1) := by decide +kernel
theorem dL_law_1938 : decode cL_law 1938 = .ok (.iaload, 1) := by decide +kernel
theorem dL_law_1939 : decode cL_law 1939 = .ok (.aload_n 0, 1) := by decide +kernel
theorem dL_law_1940 : decode cL_law 1940 = .ok (.iload 5, 2) := by decide +kernel
theorem dL_law_1942 : decode cL_law 1942 = .ok (.iconst 2, 1) := by decide +kernel
theorem dL_law_1943 : decode cL_law 1943 = .ok (.iadd, 1) := by decide +kernel
theorem dL_law_1944 : decode cL_law 1944 = .ok (.iaload, 1) := by decide +kernel
theorem dL_law_1945 : decode cL_law 1945 = .ok (.aload_n 3, 1) := by decide +kernel
theorem dL_law_1946 : decode cL_law 1946 = .ok (.invokestatic 243, 3) := by decide +kernel
theorem dL_law_1949 : decode cL_law 1949 = .ok (.istore 6, 2) := by decide +kernel
theorem dL_law_1951 : decode cL_law 1951 = .ok (.aload_n 2, 1) := by decide +kernel
theorem dL_law_1952 : decode cL_law 1952 = .ok (.aload_n 0, 1) := by decide +kernel
theorem dL_law_1953 : decode cL_law 1953 = .ok (.iload 5, 2) := by decide +kernel
theorem dL_law_1955 : decode cL_law 1955 = .ok (.iconst 1, 1) := by decide +kernel
theorem dL_law_1956 : decode cL_law 1956 = .ok (.iadd, 1) := by decide +kernel
theorem dL_law_1957 : decode cL_law 1957 = .ok (.iaload, 1) := by decide +kernel
theorem dL_law_1958 : decode cL_law 1958 = .ok (.aload_n 0, 1) := by decide +kernel
theorem dL_law_1959 : decode cL_law 1959 = .ok (.iload 5, 2) := by decide +kernel
theorem dL_law_1961 : decode cL_law 1961 = .ok (.iconst 2, 1) := by decide +kernel
theorem dL_law_1962 : decode cL_law 1962 = .ok (.iadd, 1) := by decide +kernel
theorem dL_law_1963 : decode cL_law 1963 = .ok (.iaload, 1) := by decide +kernel
theorem dL_law_1964 : decode cL_law 1964 = .ok (.invokevirtual 245, 3) := by decide +kernel
theorem dL_law_1967 : decode cL_law 1967 = .ok (.istore 7, 2) := by decide +kernel
theorem dL_law_1969 : decode cL_law 1969 = .ok (.aload_n 2, 1) := by decide +kernel
theorem dL_law_1970 : decode cL_law 1970 = .ok (.invokevirtual 166, 3) := by decide +kernel
theorem dL_law_1973 : decode cL_law 1973 = .ok (.iload 6, 2) := by decide +kernel
theorem dL_law_1975 : decode cL_law 1975 = .ok (.if_icmp .eq 5, 3) := by decide +kernel
theorem dL_law_1980 : decode cL_law 1980 = .ok (.iload 6, 2) := by decide +kernel
theorem dL_law_1982 : decode cL_law 1982 = .ok (.ifCond .ne 15, 3) := by decide +kernel
theorem dL_law_1985 : decode cL_law 1985 = .ok (.aload_n 3, 1) := by decide +kernel
theorem dL_law_1986 : decode cL_law 1986 = .ok (.iconst 0, 1) := by decide +kernel
theorem dL_law_1987 : decode cL_law 1987 = .ok (.laload, 1) := by decide +kernel
theorem dL_law_1988 : decode cL_law 1988 = .ok (.iload 7, 2) := by decide +kernel
theorem dL_law_1990 : decode cL_law 1990 = .ok (.i2l, 1) := by decide +kernel
theorem dL_law_1991 : decode cL_law 1991 = .ok (.lcmp, 1) := by decide +kernel
theorem dL_law_1992 : decode cL_law 1992 = .ok (.ifCond .eq 5, 3) := by decide +kernel
theorem dL_law_1997 : decode cL_law 1997 = .ok (.goto 961, 3) := by decide +kernel
theorem dL_law_2000 : decode cL_law 2000 = .ok (.aload_n 1, 1) := by decide +kernel
theorem dL_law_2001 : decode cL_law 2001 = .ok (.aload_n 0, 1) := by decide +kernel
theorem dL_law_2002 : decode cL_law 2002 = .ok (.iload 5, 2) := by decide +kernel
theorem dL_law_2004 : decode cL_law 2004 = .ok (.iconst 1, 1) := by decide +kernel
theorem dL_law_2005 : decode cL_law 2005 = .ok (.iadd, 1) := by decide +kernel
theorem dL_law_2006 : decode cL_law 2006 = .ok (.iaload, 1) := by decide +kernel
theorem dL_law_2007 : decode cL_law 2007 = .ok (.aload_n 3, 1) := by decide +kernel
theorem dL_law_2008 : decode cL_law 2008 = .ok (.invokestatic 246, 3) := by decide +kernel
theorem dL_law_2011 : decode cL_law 2011 = .ok (.istore 6, 2) := by decide +kernel
theorem dL_law_2013 : decode cL_law 2013 = .ok (.aload_n 2, 1) := by decide +kernel
theorem dL_law_2014 : decode cL_law 2014 = .ok (.aload_n 0, 1) := by decide +kernel
theorem dL_law_2015 : decode cL_law 2015 = .ok (.iload 5, 2) := by decide +kernel
theorem dL_law_2017 : decode cL_law 2017 = .ok (.iconst 1, 1) := by decide +kernel
theorem dL_law_2018 : decode cL_law 2018 = .ok (.iadd, 1) := by decide +kernel
theorem dL_law_2019 : decode cL_law 2019 = .ok (.iaload, 1) := by decide +kernel
theorem dL_law_2020 : decode cL_law 2020 = .ok (.invokevirtual 248, 3) := by decide +kernel
theorem dL_law_2023 : decode cL_law 2023 = .ok (.istore 7, 2) := by decide +kernel
theorem dL_law_2025 : decode cL_law 2025 = .ok (.aload_n 2, 1) := by decide +kernel
theorem dL_law_2026 : decode cL_law 2026 = .ok (.invokevirtual 166, 3) := by decide +kernel
theorem dL_law_2029 : decode cL_law 2029 = .ok (.iload 6, 2) := by decide +kernel
theorem dL_law_2031 : decode cL_law 2031 = .ok (.if_icmp .eq 5, 3) := by decide +kernel
theorem dL_law_2036 : decode cL_law 2036 = .ok (.iload 6, 2) := by decide +kernel
theorem dL_law_2038 : decode cL_law 2038 = .ok (.ifCond .ne 15, 3) := by decide +kernel
theorem dL_law_2041 : decode cL_law 2041 = .ok (.aload_n 3, 1) := by decide +kernel
theorem dL_law_2042 : decode cL_law 2042 = .ok (.iconst 0, 1) := by decide +kernel
theorem dL_law_2043 : decode cL_law 2043 = .ok (.laload, 1) := by decide +kernel
theorem dL_law_2044 : decode cL_law 2044 = .ok (.iload 7, 2) := by decide +kernel
theorem dL_law_2046 : decode cL_law 2046 = .ok (.i2l, 1) := by decide +kernel
theorem dL_law_2047 : decode cL_law 2047 = .ok (.lcmp, 1) := by decide +kernel
theorem dL_law_2048 : decode cL_law 2048 = .ok (.ifCond .eq 5, 3) := by decide +kernel
theorem dL_law_2053 : decode cL_law 2053 = .ok (.goto 905, 3) := by decide +kernel
theorem dL_law_2056 : decode cL_law 2056 = .ok (.aload_n 1, 1) := by decide +kernel
theorem dL_law_2057 : decode cL_law 2057 = .ok (.aload_n 0, 1) := by decide +kernel
theorem dL_law_2058 : decode cL_law 2058 = .ok (.iload 5, 2) := by decide +kernel
theorem dL_law_2060 : decode cL_law 2060 = .ok (.iconst 1, 1) := by decide +kernel
theorem dL_law_2061 : decode cL_law 2061 = .ok (.iadd, 1) := by decide +kernel
theorem dL_law_2062 : decode cL_law 2062 = .ok (.iaload, 1) := by decide +kernel
theorem dL_law_2063 : decode cL_law 2063 = .ok (.aload_n 3, 1) := by decide +kernel
theorem dL_law_2064 : decode cL_law 2064 = .ok (.invokestatic 249, 3) := by decide +kernel
theorem dL_law_2067 : decode cL_law 2067 = .ok (.istore 6, 2) := by decide +kernel
theorem dL_law_2069 : decode cL_law 2069 = .ok (.aload_n 2, 1) := by decide +kernel
theorem dL_law_2070 : decode cL_law 2070 = .ok (.aload_n 0, 1) := by decide +kernel
theorem dL_law_2071 : decode cL_law 2071 = .ok (.iload 5, 2) := by decide +kernel
theorem dL_law_2073 : decode cL_law 2073 = .ok (.iconst 1, 1) := by decide +kernel
theorem dL_law_2074 : decode cL_law 2074 = .ok (.iadd, 1) := by decide +kernel
theorem dL_law_2075 : decode cL_law 2075 = .ok (.iaload, 1) := by decide +kernel
theorem dL_law_2076 : decode cL_law 2076 = .ok (.invokevirtual 251, 3) := by decide +kernel
theorem dL_law_2079 : decode cL_law 2079 = .ok (.istore 7, 2) := by decide +kernel
theorem dL_law_2081 : decode cL_law 2081 = .ok (.aload_n 2, 1) := by decide +kernel
theorem dL_law_2082 : decode cL_law 2082 = .ok (.invokevirtual 166, 3) := by decide +kernel
theorem dL_law_2085 : decode cL_law 2085 = .ok (.iload 6, 2) := by decide +kernel
theorem dL_law_2087 : decode cL_law 2087 = .ok (.if_icmp .eq 5, 3) := by decide +kernel
theorem dL_law_2092 : decode cL_law 2092 = .ok (.iload 6, 2) := by decide +kernel
theorem dL_law_2094 : decode cL_law 2094 = .ok (.ifCond .ne 15, 3) := by decide +kernel
theorem dL_law_2097 : decode cL_law 2097 = .ok (.aload_n 3, 1) := by decide +kernel
theorem dL_law_2098 : decode cL_law 2098 = .ok (.iconst 0, 1) := by decide +kernel
theorem dL_law_2099 : decode cL_law 2099 = .ok (.laload, 1) := by decide +kernel
theorem dL_law_2100 : decode cL_law 2100 = .ok (.iload 7, 2) := by decide +kernel
theorem dL_law_2102 : decode cL_law 2102 = .ok (.i2l, 1) := by decide +kernel
theorem dL_law_2103 : decode cL_law 2103 = .ok (.lcmp, 1) := by decide +kernel
theorem dL_law_2104 : decode cL_law 2104 = .ok (.ifCond .eq 5, 3) := by decide +kernel
theorem dL_law_2109 : decode cL_law 2109 = .ok (.goto 849, 3) := by decide +kernel
theorem dL_law_2112 : decode cL_law 2112 = .ok (.aload_n 1, 1) := by decide +kernel
theorem dL_law_2113 : decode cL_law 2113 = .ok (.aload_n 0, 1) := by decide +kernel
theorem dL_law_2114 : decode cL_law 2114 = .ok (.iload 5, 2) := by decide +kernel
theorem dL_law_2116 : decode cL_law 2116 = .ok (.iconst 1, 1) := by decide +kernel
theorem dL_law_2117 : decode cL_law 2117 = .ok (.iadd, 1) := by decide +kernel
theorem dL_law_2118 : decode cL_law 2118 = .ok (.iaload, 1) := by decide +kernel
theorem dL_law_2119 : decode cL_law 2119 = .ok (.aload_n 0, 1) := by decide +kernel
theorem dL_law_2120 : decode cL_law 2120 = .ok (.iload 5, 2) := by decide +kernel
theorem dL_law_2122 : decode cL_law 2122 = .ok (.iconst 2, 1) := by decide +kernel
theorem dL_law_2123 : decode cL_law 2123 = .ok (.iadd, 1) := by decide +kernel
theorem dL_law_2124 : decode cL_law 2124 = .ok (.iaload, 1) := by decide +kernel
theorem dL_law_2125 : decode cL_law 2125 = .ok (.aload_n 3, 1) := by decide +kernel
theorem dL_law_2126 : decode cL_law 2126 = .ok (.invokestatic 252, 3) := by decide +kernel
theorem dL_law_2129 : decode cL_law 2129 = .ok (.istore 6, 2) := by decide +kernel
theorem dL_law_2131 : decode cL_law 2131 = .ok (.aload_n 2, 1) := by decide +kernel
theorem dL_law_2132 : decode cL_law 2132 = .ok (.aload_n 0, 1) := by decide +kernel
theorem dL_law_2133 : decode cL_law 2133 = .ok (.iload 5, 2) := by decide +kernel
theorem dL_law_2135 : decode cL_law 2135 = .ok (.iconst 1, 1) := by decide +kernel
theorem dL_law_2136 : decode cL_law 2136 = .ok (.iadd, 1) := by decide +kernel
theorem dL_law_2137 : decode cL_law 2137 = .ok (.iaload, 1) := by decide +kernel
theorem dL_law_2138 : decode cL_law 2138 = .ok (.aload_n 0, 1) := by decide +kernel
theorem dL_law_2139 : decode cL_law 2139 = .ok (.iload 5, 2) := by decide +kernel
theorem dL_law_2141 : decode cL_law 2141 = .ok (.iconst 2, 1) := by decide +kernel
theorem dL_law_2142 : decode cL_law 2142 = .ok (.iadd, 1) := by decide +kernel
theorem dL_law_2143 : decode cL_law 2143 = .ok (.iaload, 1) := by decide +kernel
theorem dL_law_2144 : decode cL_law 2144 = .ok (.invokevirtual 254, 3) := by decide +kernel
theorem dL_law_2147 : decode cL_law 2147 = .ok (.istore 7, 2) := by decide +kernel
theorem dL_law_2149 : decode cL_law 2149 = .ok (.aload_n 2, 1) := by decide +kernel
theorem dL_law_2150 : decode cL_law 2150 = .ok (.invokevirtual 166, 3) := by decide +kernel
theorem dL_law_2153 : decode cL_law 2153 = .ok (.iload 6, 2) := by decide +kernel
theorem dL_law_2155 : decode cL_law 2155 = .ok (.if_icmp .eq 5, 3) := by decide +kernel
theorem dL_law_2160 : decode cL_law 2160 = .ok (.iload 6, 2) := by decide +kernel
theorem dL_law_2162 : decode cL_law 2162 = .ok (.ifCond .ne 15, 3) := by decide +kernel
theorem dL_law_2177 : decode cL_law 2177 = .ok (.goto 781, 3) := by decide +kernel
theorem dL_law_2180 : decode cL_law 2180 = .ok (.aload_n 1, 1) := by decide +kernel
theorem dL_law_2181 : decode cL_law 2181 = .ok (.aload_n 0, 1) := by decide +kernel
theorem dL_law_2182 : decode cL_law 2182 = .ok (.iload 5, 2) := by decide +kernel
theorem dL_law_2184 : decode cL_law 2184 = .ok (.iconst 1, 1) := by decide +kernel
theorem dL_law_2185 : decode cL_law 2185 = .ok (.iadd, 1) := by decide +kernel
theorem dL_law_2186 : decode cL_law 2186 = .ok (.iaload, 1) := by decide +kernel
theorem dL_law_2187 : decode cL_law 2187 = .ok (.aload_n 3, 1) := by decide +kernel
theorem dL_law_2188 : decode cL_law 2188 = .ok (.invokestatic 255, 3) := by decide +kernel
theorem dL_law_2191 : decode cL_law 2191 = .ok (.istore 6, 2) := by decide +kernel
theorem dL_law_2193 : decode cL_law 2193 = .ok (.aload_n 2, 1) := by decide +kernel
theorem dL_law_2194 : decode cL_law 2194 = .ok (.aload_n 0, 1) := by decide +kernel
theorem dL_law_2195 : decode cL_law 2195 = .ok (.iload 5, 2) := by decide +kernel
theorem dL_law_2197 : decode cL_law 2197 = .ok (.iconst 1, 1) := by decide +kernel
theorem dL_law_2198 : decode cL_law 2198 = .ok (.iadd, 1) := by decide +kernel
theorem dL_law_2199 : decode cL_law 2199 = .ok (.iaload, 1) := by decide +kernel
theorem dL_law_2200 : decode cL_law 2200 = .ok (.invokevirtual 257, 3) := by decide +kernel
theorem dL_law_2203 : decode cL_law 2203 = .ok (.istore 7, 2) := by decide +kernel
theorem dL_law_2205 : decode cL_law 2205 = .ok (.aload_n 2, 1) := by decide +kernel
theorem dL_law_2206 : decode cL_law 2206 = .ok (.invokevirtual 166, 3) := by decide +kernel
theorem dL_law_2209 : decode cL_law 2209 = .ok (.iload 6, 2) := by decide +kernel
theorem dL_law_2211 : decode cL_law 2211 = .ok (.if_icmp .eq 5, 3) := by decide +kernel
theorem dL_law_2216 : decode cL_law 2216 = .ok (.iload 6, 2) := by decide +kernel
theorem dL_law_2218 : decode cL_law 2218 = .ok (.ifCond .ne 15, 3) := by decide +kernel
theorem dL_law_2221 : decode cL_law 2221 = .ok (.aload_n 3, 1) := by decide +kernel
theorem dL_law_2222 : decode cL_law 2222 = .ok (.iconst 0, 1) := by decide +kernel
theorem dL_law_2223 : decode cL_law 2223 = .ok (.laload, 1) := by decide +kernel
theorem dL_law_2224 : decode cL_law 2224 = .ok (.iload 7, 2) := by decide +kernel
theorem dL_law_2226 : decode cL_law 2226 = .ok (.i2l, 1) := by decide +kernel
theorem dL_law_2227 : decode cL_law 2227 = .ok (.lcmp, 1) := by decide +kernel
theorem dL_law_2228 : decode cL_law 2228 = .ok (.ifCond .eq 5, 3) := by decide +kernel
theorem dL_law_2233 : decode cL_law 2233 = .ok (.goto 725, 3) := by decide +kernel
theorem dL_law_2236 : decode cL_law 2236 = .ok (.aload_n 1, 1) := by decide +kernel
theorem dL_law_2237 : decode cL_law 2237 = .ok (.aload_n 0, 1) := by decide +kernel
theorem dL_law_2238 : decode cL_law 2238 = .ok (.iload 5, 2) := by decide +kernel
theorem dL_law_2240 : decode cL_law 2240 = .ok (.iconst 1, 1) := by decide +kernel
theorem dL_law_2241 : decode cL_law 2241 = .ok (.iadd, 1) := by decide +kernel
theorem dL_law_2242 : decode cL_law 2242 = .ok (.iaload, 1) := by decide +kernel
theorem dL_law_2243 : decode cL_law 2243 = .ok (.aload_n 3, 1) := by decide +kernel
theorem dL_law_2244 : decode cL_law 2244 = .ok (.invokestatic 258, 3) := by decide +kernel
theorem dL_law_2247 : decode cL_law 2247 = .ok (.istore 6, 2) := by decide +kernel
theorem dL_law_2249 : decode cL_law 2249 = .ok (.aload_n 2, 1) := by decide +kernel
theorem dL_law_2250 : decode cL_law 2250 = .ok (.aload_n 0, 1) := by decide +kernel
theorem dL_law_2251 : decode cL_law 2251 = .ok (.iload 5, 2) := by decide +kernel
theorem dL_law_2253 : decode cL_law 2253 = .ok (.iconst 1, 1) := by decide +kernel
theorem dL_law_2254 : decode cL_law 2254 = .ok (.iadd, 1) := by decide +kernel
theorem dL_law_2255 : decode cL_law 2255 = .ok (.iaload, 1) := by decide +kernel
theorem dL_law_2256 : decode cL_law 2256 = .ok (.invokevirtual 260, 3) := by decide +kernel
theorem dL_law_2259 : decode cL_law 2259 = .ok (.istore 7, 2) := by decide +kernel
theorem dL_law_2261 : decode cL_law 2261 = .ok (.aload_n 2, 1) := by decide +kernel
theorem dL_law_2262 : decode cL_law 2262 = .ok (.invokevirtual 166, 3) := by decide +kernel
theorem dL_law_2265 : decode cL_law 2265 = .ok (.iload 6, 2) := by decide +kernel
theorem dL_law_2267 : decode cL_law 2267 = .ok (.if_icmp .eq 5, 3) := by decide +kernel
theorem dL_law_2272 : decode cL_law 2272 = .ok (.iload 6, 2) := by decide +kernel
theorem dL_law_2274 : decode cL_law 2274 = .ok (.ifCond .ne 15, 3) := by decide +kernel
theorem dL_law_2277 : decode cL_law 2277 = .ok (.aload_n 3, 1) := by decide +kernel
theorem dL_law_2278 : decode cL_law 2278 = .ok (.iconst 0, 1) := by decide +kernel
theorem dL_law_2279 : decode cL_law 2279 = .ok (.laload, 1) := by decide +kernel
theorem dL_law_2280 : decode cL_law 2280 = .ok (.iload 7, 2) := by decide +kernel
theorem dL_law_2282 : decode cL_law 2282 = .ok (.i2l, 1) := by decide +kernel
theorem dL_law_2283 : decode cL_law 2283 = .ok (.lcmp, 1) := by decide +kernel
theorem dL_law_2284 : decode cL_law 2284 = .ok (.ifCond .eq 5, 3) := by decide +kernel
theorem dL_law_2289 : decode cL_law 2289 = .ok (.goto 669, 3) := by decide +kernel
theorem dL_law_2292 : decode cL_law 2292 = .ok (.aload_n 1, 1) := by decide +kernel
theorem dL_law_2293 : decode cL_law 2293 = .ok (.aload_n 0, 1) := by decide +kernel
theorem dL_law_2294 : decode cL_law 2294 = .ok (.iload 5, 2) := by decide +kernel
theorem dL_law_2296 : decode cL_law 2296 = .ok (.iconst 1, 1) := by decide +kernel
theorem dL_law_2297 : decode cL_law 2297 = .ok (.iadd, 1) := by decide +kernel
theorem dL_law_2298 : decode cL_law 2298 = .ok (.iaload, 1) := by decide +kernel
theorem dL_law_2299 : decode cL_law 2299 = .ok (.aload_n 0, 1) := by decide +kernel
theorem dL_law_2300 : decode cL_law 2300 = .ok (.iload 5, 2) := by decide +kernel
theorem dL_law_2302 : decode cL_law 2302 = .ok (.iconst 2, 1) := by decide +kernel
theorem dL_law_2303 : decode cL_law 2303 = .ok (.iadd, 1) := by decide +kernel
theorem dL_law_2304 : decode cL_law 2304 = .ok (.iaload, 1) := by decide +kernel
theorem dL_law_2305 : decode cL_law 2305 = .ok (.aload_n 3, 1) := by decide +kernel
theorem dL_law_2306 : decode cL_law 2306 = .ok (.invokestatic 261, 3) := by decide +kernel
theorem dL_law_2309 : decode cL_law 2309 = .ok (.istore 6, 2) := by decide +kernel
theorem dL_law_2311 : decode cL_law 2311 = .ok (.aload_n 2, 1) := by decide +kernel
theorem dL_law_2312 : decode cL_law 2312 = .ok (.aload_n 0, 1) := by decide +kernel
theorem dL_law_2313 : decode cL_law 2313 = .ok (.iload 5, 2) := by decide +kernel
theorem dL_law_2315 : decode cL_law 2315 = .ok (.iconst 1, 1) := by decide +kernel
theorem dL_law_2316 : decode cL_law 2316 = .ok (.iadd, 1) := by decide +kernel
theorem dL_law_2317 : decode cL_law 2317 = .ok (.iaload, 1) := by decide +kernel
theorem dL_law_2318 : decode cL_law 2318 = .ok (.aload_n 0, 1) := by decide +kernel
theorem dL_law_2319 : decode cL_law 2319 = .ok (.iload 5, 2) := by decide +kernel
theorem dL_law_2321 : decode cL_law 2321 = .ok (.iconst 2, 1) := by decide +kernel
theorem dL_law_2322 : decode cL_law 2322 = .ok (.iadd, 1) := by decide +kernel
theorem dL_law_2323 : decode cL_law 2323 = .ok (.iaload, 1) := by decide +kernel
theorem dL_law_2324 : decode cL_law 2324 = .ok (.invokevirtual 263, 3) := by decide +kernel
theorem dL_law_2327 : decode cL_law 2327 = .ok (.istore 7, 2) := by decide +kernel
theorem dL_law_2329 : decode cL_law 2329 = .ok (.aload_n 2, 1) := by decide +kernel
theorem dL_law_2330 : decode cL_law 2330 = .ok (.invokevirtual 166, 3) := by decide +kernel
theorem dL_law_2333 : decode cL_law 2333 = .ok (.iload 6, 2) := by decide +kernel
theorem dL_law_2335 : decode cL_law 2335 = .ok (.if_icmp .eq 5, 3) := by decide +kernel
theorem dL_law_2340 : decode cL_law 2340 = .ok (.iload 6, 2) := by decide +kernel
theorem dL_law_2342 : decode cL_law 2342 = .ok (.ifCond .ne 15, 3) := by decide +kernel
theorem dL_law_2357 : decode cL_law 2357 = .ok (.goto 601, 3) := by decide +kernel
theorem dL_law_2360 : decode cL_law 2360 = .ok (.aload_n 1, 1) := by decide +kernel
theorem dL_law_2361 : decode cL_law 2361 = .ok (.invokevirtual 264, 3) := by decide +kernel
theorem dL_law_2364 : decode cL_law 2364 = .ok (.aload_n 2, 1) := by decide +kernel
theorem dL_law_2365 : decode cL_law 2365 = .ok (.invokevirtual 267, 3) := by decide +kernel
theorem dL_law_2368 : decode cL_law 2368 = .ok (.if_icmp .eq 590, 3) := by decide +kernel
theorem dL_law_2373 : decode cL_law 2373 = .ok (.aload_n 1, 1) := by decide +kernel
theorem dL_law_2374 : decode cL_law 2374 = .ok (.aload_n 0, 1) := by decide +kernel
theorem dL_law_2375 : decode cL_law 2375 = .ok (.iload 5, 2) := by decide +kernel
theorem dL_law_2377 : decode cL_law 2377 = .ok (.iconst 1, 1) := by decide +kernel
theorem dL_law_2378 : decode cL_law 2378 = .ok (.iadd, 1) := by decide +kernel
theorem dL_law_2379 : decode cL_law 2379 = .ok (.iaload, 1) := by decide +kernel
theorem dL_law_2380 : decode cL_law 2380 = .ok (.aload_n 3, 1) := by decide +kernel
theorem dL_law_2381 : decode cL_law 2381 = .ok (.invokestatic 268, 3) := by decide +kernel
theorem dL_law_2384 : decode cL_law 2384 = .ok (.istore 6, 2) := by decide +kernel
theorem dL_law_2386 : decode cL_law 2386 = .ok (.aload_n 2, 1) := by decide +kernel
theorem dL_law_2387 : decode cL_law 2387 = .ok (.aload_n 0, 1) := by decide +kernel
theorem dL_law_2388 : decode cL_law 2388 = .ok (.iload 5, 2) := by decide +kernel
theorem dL_law_2390 : decode cL_law 2390 = .ok (.iconst 1, 1) := by decide +kernel
theorem dL_law_2391 : decode cL_law 2391 = .ok (.iadd, 1) := by decide +kernel
theorem dL_law_2392 : decode cL_law 2392 = .ok (.iaload, 1) := by decide +kernel
theorem dL_law_2393 : decode cL_law 2393 = .ok (.invokevirtual 270, 3) := by decide +kernel
theorem dL_law_2396 : decode cL_law 2396 = .ok (.istore 7, 2) := by decide +kernel
theorem dL_law_2398 : decode cL_law 2398 = .ok (.aload_n 2, 1) := by decide +kernel
theorem dL_law_2399 : decode cL_law 2399 = .ok (.invokevirtual 166, 3) := by decide +kernel
theorem dL_law_2402 : decode cL_law 2402 = .ok (.iload 6, 2) := by decide +kernel
theorem dL_law_2404 : decode cL_law 2404 = .ok (.if_icmp .eq 5, 3) := by decide +kernel
theorem dL_law_2409 : decode cL_law 2409 = .ok (.iload 6, 2) := by decide +kernel
theorem dL_law_2411 : decode cL_law 2411 = .ok (.ifCond .ne 15, 3) := by decide +kernel
theorem dL_law_2414 : decode cL_law 2414 = .ok (.aload_n 3, 1) := by decide +kernel
theorem dL_law_2415 : decode cL_law 2415 = .ok (.iconst 0, 1) := by decide +kernel
theorem dL_law_2416 : decode cL_law 2416 = .ok (.laload, 1) := by decide +kernel
theorem dL_law_2417 : decode cL_law 2417 = .ok (.iload 7, 2) := by decide +kernel
theorem dL_law_2419 : decode cL_law 2419 = .ok (.i2l, 1) := by decide +kernel
theorem dL_law_2420 : decode cL_law 2420 = .ok (.lcmp, 1) := by decide +kernel
theorem dL_law_2421 : decode cL_law 2421 = .ok (.ifCond .eq 5, 3) := by decide +kernel
theorem dL_law_2426 : decode cL_law 2426 = .ok (.goto 532, 3) := by decide +kernel
theorem dL_law_2429 : decode cL_law 2429 = .ok (.aload_n 1, 1) := by decide +kernel
theorem dL_law_2430 : decode cL_law 2430 = .ok (.aload 4, 2) := by decide +kernel
theorem dL_law_2432 : decode cL_law 2432 = .ok (.invokestatic 271, 3) := by decide +kernel
theorem dL_law_2435 : decode cL_law 2435 = .ok (.istore 6, 2) := by decide +kernel
theorem dL_law_2437 : decode cL_law 2437 = .ok (.aload_n 2, 1) := by decide +kernel
theorem dL_law_2438 : decode cL_law 2438 = .ok (.invokevirtual 274, 3) := by decide +kernel
theorem dL_law_2441 : decode cL_law 2441 = .ok (.dstore 7, 2) := by decide +kernel
theorem dL_law_2443 : decode cL_law 2443 = .ok (.aload_n 2, 1) := by decide +kernel
theorem dL_law_2444 : decode cL_law 2444 = .ok (.invokevirtual 166, 3) := by decide +kernel
theorem dL_law_2447 : decode cL_law 2447 = .ok (.iload 6, 2) := by decide +kernel
theorem dL_law_2449 : decode cL_law 2449 = .ok (.if_icmp .eq 5, 3) := by decide +kernel
theorem dL_law_2454 : decode cL_law 2454 = .ok (.iload 6, 2) := by decide +kernel
theorem dL_law_2456 : decode cL_law 2456 = .ok (.ifCond .ne 35, 3) := by decide +kernel
theorem dL_law_2491 : decode cL_law 2491 = .ok (.goto 467, 3) := by decide +kernel
theorem dL_law_2494 : decode cL_law 2494 = .ok (.aload_n 1, 1) := by decide +kernel
theorem dL_law_2495 : decode cL_law 2495 = .ok (.invokevirtual 275, 3) := by decide +kernel
theorem dL_law_2498 : decode cL_law 2498 = .ok (.aload_n 2, 1) := by decide +kernel
theorem dL_law_2499 : decode cL_law 2499 = .ok (.invokevirtual 278, 3) := by decide +kernel
theorem dL_law_2502 : decode cL_law 2502 = .ok (.if_icmp .eq 456, 3) := by decide +kernel
theorem dL_law_2507 : decode cL_law 2507 = .ok (.aload_n 1, 1) := by decide +kernel
theorem dL_law_2508 : decode cL_law 2508 = .ok (.aload_n 0, 1) := by decide +kernel
theorem dL_law_2509 : decode cL_law 2509 = .ok (.iload 5, 2) := by decide +kernel
theorem dL_law_2511 : decode cL_law 2511 = .ok (.iconst 1, 1) := by decide +kernel
theorem dL_law_2512 : decode cL_law 2512 = .ok (.iadd, 1) := by decide +kernel
theorem dL_law_2513 : decode cL_law 2513 = .ok (.iaload, 1) := by decide +kernel
theorem dL_law_2514 : decode cL_law 2514 = .ok (.aload_n 0, 1) := by decide +kernel
theorem dL_law_2515 : decode cL_law 2515 = .ok (.iload 5, 2) := by decide +kernel
theorem dL_law_2517 : decode cL_law 2517 = .ok (.iconst 2, 1) := by decide +kernel
theorem dL_law_2518 : decode cL_law 2518 = .ok (.iadd, 1) := by decide +kernel
theorem dL_law_2519 : decode cL_law 2519 = .ok (.iaload, 1) := by decide +kernel
theorem dL_law_2520 : decode cL_law 2520 = .ok (.aload_n 3, 1) := by decide +kernel
theorem dL_law_2521 : decode cL_law 2521 = .ok (.invokestatic 279, 3) := by decide +kernel
theorem dL_law_2524 : decode cL_law 2524 = .ok (.istore 6, 2) := by decide +kernel
theorem dL_law_2526 : decode cL_law 2526 = .ok (.aload_n 2, 1) := by decide +kernel
theorem dL_law_2527 : decode cL_law 2527 = .ok (.aload_n 0, 1) := by decide +kernel
theorem dL_law_2528 : decode cL_law 2528 = .ok (.iload 5, 2) := by decide +kernel
theorem dL_law_2530 : decode cL_law 2530 = .ok (.iconst 1, 1) := by decide +kernel
theorem dL_law_2531 : decode cL_law 2531 = .ok (.iadd, 1) := by decide +kernel
theorem dL_law_2532 : decode cL_law 2532 = .ok (.iaload, 1) := by decide +kernel
theorem dL_law_2533 : decode cL_law 2533 = .ok (.aload_n 0, 1) := by decide +kernel
theorem dL_law_2534 : decode cL_law 2534 = .ok (.iload 5, 2) := by decide +kernel
theorem dL_law_2536 : decode cL_law 2536 = .ok (.iconst 2, 1) := by decide +kernel
theorem dL_law_2537 : decode cL_law 2537 = .ok (.iadd, 1) := by decide +kernel
theorem dL_law_2538 : decode cL_law 2538 = .ok (.iaload, 1) := by decide +kernel
theorem dL_law_2539 : decode cL_law 2539 = .ok (.invokevirtual 281, 3) := by decide +kernel
theorem dL_law_2542 : decode cL_law 2542 = .ok (.istore 7, 2) := by decide +kernel
theorem dL_law_2544 : decode cL_law 2544 = .ok (.aload_n 2, 1) := by decide +kernel
theorem dL_law_2545 : decode cL_law 2545 = .ok (.invokevirtual 166, 3) := by decide +kernel
theorem dL_law_2548 : decode cL_law 2548 = .ok (.iload 6, 2) := by decide +kernel
theorem dL_law_2550 : decode cL_law 2550 = .ok (.if_icmp .eq 5, 3) := by decide +kernel
theorem dL_law_2555 : decode cL_law 2555 = .ok (.iload 6, 2) := by decide +kernel
theorem dL_law_2557 : decode cL_law 2557 = .ok (.ifCond .ne 15, 3) := by decide +kernel
theorem dL_law_2572 : decode cL_law 2572 = .ok (.goto 386, 3) := by decide +kernel
theorem dL_law_2575 : decode cL_law 2575 = .ok (.aload_n 1, 1) := by decide +kernel
theorem dL_law_2576 : decode cL_law 2576 = .ok (.aload_n 0, 1) := by decide +kernel
theorem dL_law_2577 : decode cL_law 2577 = .ok (.iload 5, 2) := by decide +kernel
theorem dL_law_2579 : decode cL_law 2579 = .ok (.iconst 1, 1) := by decide +kernel
theorem dL_law_2580 : decode cL_law 2580 = .ok (.iadd, 1) := by decide +kernel
theorem dL_law_2581 : decode cL_law 2581 = .ok (.iaload, 1) := by decide +kernel
theorem dL_law_2582 : decode cL_law 2582 = .ok (.aload_n 3, 1) := by decide +kernel
theorem dL_law_2583 : decode cL_law 2583 = .ok (.invokestatic 282, 3) := by decide +kernel
theorem dL_law_2586 : decode cL_law 2586 = .ok (.istore 6, 2) := by decide +kernel
theorem dL_law_2588 : decode cL_law 2588 = .ok (.aload_n 2, 1) := by decide +kernel
theorem dL_law_2589 : decode cL_law 2589 = .ok (.aload_n 0, 1) := by decide +kernel
theorem dL_law_2590 : decode cL_law 2590 = .ok (.iload 5, 2) := by decide +kernel
theorem dL_law_2592 : decode cL_law 2592 = .ok (.iconst 1, 1) := by decide +kernel
theorem dL_law_2593 : decode cL_law 2593 = .ok (.iadd, 1) := by decide +kernel
theorem dL_law_2594 : decode cL_law 2594 = .ok (.iaload, 1) := by decide +kernel
theorem dL_law_2595 : decode cL_law 2595 = .ok (.invokevirtual 284, 3) := by decide +kernel
theorem dL_law_2598 : decode cL_law 2598 = .ok (.istore 7, 2) := by decide +kernel
theorem dL_law_2600 : decode cL_law 2600 = .ok (.aload_n 2, 1) := by decide +kernel
theorem dL_law_2601 : decode cL_law 2601 = .ok (.invokevirtual 166, 3) := by decide +kernel
theorem dL_law_2604 : decode cL_law 2604 = .ok (.iload 6, 2) := by decide +kernel
theorem dL_law_2606 : decode cL_law 2606 = .ok (.if_icmp .eq 5, 3) := by decide +kernel
theorem dL_law_2611 : decode cL_law 2611 = .ok (.iload 6, 2) := by decide +kernel
theorem dL_law_2613 : decode cL_law 2613 = .ok (.ifCond .ne 15, 3) := by decide +kernel
theorem dL_law_2628 : decode cL_law 2628 = .ok (.goto 330, 3) := by decide +kernel
theorem dL_law_2631 : decode cL_law 2631 = .ok (.aload_n 1, 1) := by decide +kernel
theorem dL_law_2632 : decode cL_law 2632 = .ok (.aload_n 0, 1) := by decide +kernel
theorem dL_law_2633 : decode cL_law 2633 = .ok (.iload 5, 2) := by decide +kernel
theorem dL_law_2635 : decode cL_law 2635 = .ok (.iconst 1, 1) := by decide +kernel
theorem dL_law_2636 : decode cL_law 2636 = .ok (.iadd, 1) := by decide +kernel
theorem dL_law_2637 : decode cL_law 2637 = .ok (.iaload, 1) := by decide +kernel
theorem dL_law_2638 : decode cL_law 2638 = .ok (.i2c, 1) := by decide +kernel
theorem dL_law_2639 : decode cL_law 2639 = .ok (.aload_n 3, 1) := by decide +kernel
theorem dL_law_2640 : decode cL_law 2640 = .ok (.invokestatic 285, 3) := by decide +kernel
theorem dL_law_2643 : decode cL_law 2643 = .ok (.istore 6, 2) := by decide +kernel
theorem dL_law_2645 : decode cL_law 2645 = .ok (.aload_n 2, 1) := by decide +kernel
theorem dL_law_2646 : decode cL_law 2646 = .ok (.aload_n 0, 1) := by decide +kernel
theorem dL_law_2647 : decode cL_law 2647 = .ok (.iload 5, 2) := by decide +kernel
theorem dL_law_2649 : decode cL_law 2649 = .ok (.iconst 1, 1) := by decide +kernel
theorem dL_law_2650 : decode cL_law 2650 = .ok (.iadd, 1) := by decide +kernel
theorem dL_law_2651 : decode cL_law 2651 = .ok (.iaload, 1) := by decide +kernel
theorem dL_law_2652 : decode cL_law 2652 = .ok (.i2c, 1) := by decide +kernel
theorem dL_law_2653 : decode cL_law 2653 = .ok (.invokevirtual 288, 3) := by decide +kernel
theorem dL_law_2656 : decode cL_law 2656 = .ok (.istore 7, 2) := by decide +kernel
theorem dL_law_2658 : decode cL_law 2658 = .ok (.aload_n 2, 1) := by decide +kernel
theorem dL_law_2659 : decode cL_law 2659 = .ok (.invokevirtual 166, 3) := by decide +kernel
theorem dL_law_2662 : decode cL_law 2662 = .ok (.iload 6, 2) := by decide +kernel
theorem dL_law_2664 : decode cL_law 2664 = .ok (.if_icmp .eq 5, 3) := by decide +kernel
theorem dL_law_2669 : decode cL_law 2669 = .ok (.iload 6, 2) := by decide +kernel
theorem dL_law_2671 : decode cL_law 2671 = .ok (.ifCond .ne 15, 3) := by decide +kernel
theorem dL_law_2674 : decode cL_law 2674 = .ok (.aload_n 3, 1) := by decide +kernel
theorem dL_law_2675 : decode cL_law 2675 = .ok (.iconst 0, 1) := by decide +kernel
theorem dL_law_2676 : decode cL_law 2676 = .ok (.laload, 1) := by decide +kernel
theorem dL_law_2677 : decode cL_law 2677 = .ok (.iload 7, 2) := by decide +kernel
theorem dL_law_2679 : decode cL_law 2679 = .ok (.i2l, 1) := by decide +kernel
theorem dL_law_2680 : decode cL_law 2680 = .ok (.lcmp, 1) := by decide +kernel
theorem dL_law_2681 : decode cL_law 2681 = .ok (.ifCond .eq 5, 3) := by decide +kernel
theorem dL_law_2686 : decode cL_law 2686 = .ok (.goto 272, 3) := by decide +kernel
theorem dL_law_2689 : decode cL_law 2689 = .ok (.aload_n 1, 1) := by decide +kernel
theorem dL_law_2690 : decode cL_law 2690 = .ok (.aload_n 0, 1) := by decide +kernel
theorem dL_law_2691 : decode cL_law 2691 = .ok (.iload 5, 2) := by decide +kernel
theorem dL_law_2693 : decode cL_law 2693 = .ok (.iconst 1, 1) := by decide +kernel
theorem dL_law_2694 : decode cL_law 2694 = .ok (.iadd, 1) := by decide +kernel
theorem dL_law_2695 : decode cL_law 2695 = .ok (.iaload, 1) := by decide +kernel
theorem dL_law_2696 : decode cL_law 2696 = .ok (.aload_n 3, 1) := by decide +kernel
theorem dL_law_2697 : decode cL_law 2697 = .ok (.invokestatic 289, 3) := by decide +kernel
theorem dL_law_2700 : decode cL_law 2700 = .ok (.istore 6, 2) := by decide +kernel
theorem dL_law_2702 : decode cL_law 2702 = .ok (.aload_n 2, 1) := by decide +kernel
theorem dL_law_2703 : decode cL_law 2703 = .ok (.aload_n 0, 1) := by decide +kernel
theorem dL_law_2704 : decode cL_law 2704 = .ok (.iload 5, 2) := by decide +kernel
theorem dL_law_2706 : decode cL_law 2706 = .ok (.iconst 1, 1) := by decide +kernel
theorem dL_law_2707 : decode cL_law 2707 = .ok (.iadd, 1) := by decide +kernel
theorem dL_law_2708 : decode cL_law 2708 = .ok (.iaload, 1) := by decide +kernel
theorem dL_law_2709 : decode cL_law 2709 = .ok (.invokevirtual 291, 3) := by decide +kernel
theorem dL_law_2712 : decode cL_law 2712 = .ok (.istore 7, 2) := by decide +kernel
theorem dL_law_2714 : decode cL_law 2714 = .ok (.aload_n 2, 1) := by decide +kernel
theorem dL_law_2715 : decode cL_law 2715 = .ok (.invokevirtual 166, 3) := by decide +kernel
theorem dL_law_2718 : decode cL_law 2718 = .ok (.iload 6, 2) := by decide +kernel
theorem dL_law_2720 : decode cL_law 2720 = .ok (.if_icmp .eq 5, 3) := by decide +kernel
theorem dL_law_2725 : decode cL_law 2725 = .ok (.iload 6, 2) := by decide +kernel
theorem dL_law_2727 : decode cL_law 2727 = .ok (.ifCond .ne 15, 3) := by decide +kernel
theorem dL_law_2742 : decode cL_law 2742 = .ok (.goto 216, 3) := by decide +kernel
theorem dL_law_2745 : decode cL_law 2745 = .ok (.aload_n 1, 1) := by decide +kernel
theorem dL_law_2746 : decode cL_law 2746 = .ok (.aload_n 3, 1) := by decide +kernel
theorem dL_law_2747 : decode cL_law 2747 = .ok (.invokestatic 292, 3) := by decide +kernel
theorem dL_law_2750 : decode cL_law 2750 = .ok (.istore 6, 2) := by decide +kernel
theorem dL_law_2752 : decode cL_law 2752 = .ok (.aload_n 2, 1) := by decide +kernel
theorem dL_law_2753 : decode cL_law 2753 = .ok (.invokevirtual 295, 3) := by decide +kernel
theorem dL_law_2756 : decode cL_law 2756 = .ok (.istore 7, 2) := by decide +kernel
theorem dL_law_2758 : decode cL_law 2758 = .ok (.aload_n 2, 1) := by decide +kernel
theorem dL_law_2759 : decode cL_law 2759 = .ok (.invokevirtual 166, 3) := by decide +kernel
theorem dL_law_2762 : decode cL_law 2762 = .ok (.iload 6, 2) := by decide +kernel
theorem dL_law_2764 : decode cL_law 2764 = .ok (.if_icmp .eq 5, 3) := by decide +kernel
theorem dL_law_2769 : decode cL_law 2769 = .ok (.iload 6, 2) := by decide +kernel
theorem dL_law_2771 : decode cL_law 2771 = .ok (.ifCond .ne 15, 3) := by decide +kernel
theorem dL_law_2786 : decode cL_law 2786 = .ok (.goto 172, 3) := by decide +kernel
theorem dL_law_2789 : decode cL_law 2789 = .ok (.aload_n 1, 1) := by decide +kernel
theorem dL_law_2790 : decode cL_law 2790 = .ok (.aload_n 0, 1) := by decide +kernel
theorem dL_law_2791 : decode cL_law 2791 = .ok (.iload 5, 2) := by decide +kernel
theorem dL_law_2793 : decode cL_law 2793 = .ok (.iconst 1, 1) := by decide +kernel
theorem dL_law_2794 : decode cL_law 2794 = .ok (.iadd, 1) := by decide +kernel
theorem dL_law_2795 : decode cL_law 2795 = .ok (.iaload, 1) := by decide +kernel
theorem dL_law_2796 : decode cL_law 2796 = .ok (.aload_n 0, 1) := by decide +kernel
theorem dL_law_2797 : decode cL_law 2797 = .ok (.iload 5, 2) := by decide +kernel
theorem dL_law_2799 : decode cL_law 2799 = .ok (.iconst 2, 1) := by decide +kernel
theorem dL_law_2800 : decode cL_law 2800 = .ok (.iadd, 1) := by decide +kernel
theorem dL_law_2801 : decode cL_law 2801 = .ok (.iaload, 1) := by decide +kernel
theorem dL_law_2802 : decode cL_law 2802 = .ok (.aload_n 3, 1) := by decide +kernel
theorem dL_law_2803 : decode cL_law 2803 = .ok (.invokestatic 296, 3) := by decide +kernel
theorem dL_law_2806 : decode cL_law 2806 = .ok (.istore 6, 2) := by decide +kernel
theorem dL_law_2808 : decode cL_law 2808 = .ok (.aload_n 2, 1) := by decide +kernel
theorem dL_law_2809 : decode cL_law 2809 = .ok (.aload_n 0, 1) := by decide +kernel
theorem dL_law_2810 : decode cL_law 2810 = .ok (.iload 5, 2) := by decide +kernel
theorem dL_law_2812 : decode cL_law 2812 = .ok (.iconst 1, 1) := by decide +kernel
theorem dL_law_2813 : decode cL_law 2813 = .ok (.iadd, 1) := by decide +kernel
theorem dL_law_2814 : decode cL_law 2814 = .ok (.iaload, 1) := by decide +kernel
theorem dL_law_2815 : decode cL_law 2815 = .ok (.aload_n 0, 1) := by decide +kernel
theorem dL_law_2816 : decode cL_law 2816 = .ok (.iload 5, 2) := by decide +kernel
theorem dL_law_2818 : decode cL_law 2818 = .ok (.iconst 2, 1) := by decide +kernel
theorem dL_law_2819 : decode cL_law 2819 = .ok (.iadd, 1) := by decide +kernel
theorem dL_law_2820 : decode cL_law 2820 = .ok (.iaload, 1) := by decide +kernel
theorem dL_law_2821 : decode cL_law 2821 = .ok (.invokevirtual 298, 3) := by decide +kernel
theorem dL_law_2824 : decode cL_law 2824 = .ok (.istore 7, 2) := by decide +kernel
theorem dL_law_2826 : decode cL_law 2826 = .ok (.aload_n 2, 1) := by decide +kernel
theorem dL_law_2827 : decode cL_law 2827 = .ok (.invokevirtual 166, 3) := by decide +kernel
theorem dL_law_2830 : decode cL_law 2830 = .ok (.iload 6, 2) := by decide +kernel
theorem dL_law_2832 : decode cL_law 2832 = .ok (.if_icmp .eq 5, 3) := by decide +kernel
theorem dL_law_2837 : decode cL_law 2837 = .ok (.iload 6, 2) := by decide +kernel
theorem dL_law_2839 : decode cL_law 2839 = .ok (.ifCond .ne 15, 3) := by decide +kernel
theorem dL_law_2842 : decode cL_law 2842 = .ok (.aload_n 3, 1) := by decide +kernel
theorem dL_law_2843 : decode cL_law 2843 = .ok (.iconst 0, 1) := by decide +kernel
theorem dL_law_2844 : decode cL_law 2844 = .ok (.laload, 1) := by decide +kernel
theorem dL_law_2845 : decode cL_law 2845 = .ok (.iload 7, 2) := by decide +kernel
theorem dL_law_2847 : decode cL_law 2847 = .ok (.i2l, 1) := by decide +kernel
theorem dL_law_2848 : decode cL_law 2848 = .ok (.lcmp, 1) := by decide +kernel
theorem dL_law_2849 : decode cL_law 2849 = .ok (.ifCond .eq 5, 3) := by decide +kernel
theorem dL_law_2854 : decode cL_law 2854 = .ok (.goto 104, 3) := by decide +kernel
theorem dL_law_2857 : decode cL_law 2857 = .ok (.aload_n 1, 1) := by decide +kernel
theorem dL_law_2858 : decode cL_law 2858 = .ok (.aload_n 3, 1) := by decide +kernel
theorem dL_law_2859 : decode cL_law 2859 = .ok (.invokestatic 299, 3) := by decide +kernel
theorem dL_law_2862 : decode cL_law 2862 = .ok (.istore 6, 2) := by decide +kernel
theorem dL_law_2864 : decode cL_law 2864 = .ok (.aload_n 2, 1) := by decide +kernel
theorem dL_law_2865 : decode cL_law 2865 = .ok (.invokevirtual 301, 3) := by decide +kernel
theorem dL_law_2868 : decode cL_law 2868 = .ok (.istore 7, 2) := by decide +kernel
theorem dL_law_2870 : decode cL_law 2870 = .ok (.aload_n 2, 1) := by decide +kernel
theorem dL_law_2871 : decode cL_law 2871 = .ok (.invokevirtual 166, 3) := by decide +kernel
theorem dL_law_2874 : decode cL_law 2874 = .ok (.iload 6, 2) := by decide +kernel
theorem dL_law_2876 : decode cL_law 2876 = .ok (.if_icmp .eq 5, 3) := by decide +kernel
theorem dL_law_2881 : decode cL_law 2881 = .ok (.iload 6, 2) := by decide +kernel
theorem dL_law_2883 : decode cL_law 2883 = .ok (.ifCond .ne 15, 3) := by decide +kernel
theorem dL_law_2898 : decode cL_law 2898 = .ok (.goto 60, 3) := by decide +kernel
theorem dL_law_2901 : decode cL_law 2901 = .ok (.aload_n 1, 1) := by decide +kernel
theorem dL_law_2902 : decode cL_law 2902 = .ok (.invokevirtual 302, 3) := by decide +kernel
theorem dL_law_2905 : decode cL_law 2905 = .ok (.aload_n 2, 1) := by decide +kernel
theorem dL_law_2906 : decode cL_law 2906 = .ok (.invokevirtual 305, 3) := by decide +kernel
theorem dL_law_2909 : decode cL_law 2909 = .ok (.if_icmp .eq 49, 3) := by decide +kernel
theorem dL_law_2914 : decode cL_law 2914 = .ok (.aload_n 1, 1) := by decide +kernel
theorem dL_law_2915 : decode cL_law 2915 = .ok (.aload_n 3, 1) := by decide +kernel
theorem dL_law_2916 : decode cL_law 2916 = .ok (.invokestatic 306, 3) := by decide +kernel
theorem dL_law_2919 : decode cL_law 2919 = .ok (.istore 6, 2) := by decide +kernel
theorem dL_law_2921 : decode cL_law 2921 = .ok (.aload_n 2, 1) := by decide +kernel
theorem dL_law_2922 : decode cL_law 2922 = .ok (.invokevirtual 308, 3) := by decide +kernel
theorem dL_law_2925 : decode cL_law 2925 = .ok (.istore 7, 2) := by decide +kernel
theorem dL_law_2927 : decode cL_law 2927 = .ok (.aload_n 2, 1) := by decide +kernel
theorem dL_law_2928 : decode cL_law 2928 = .ok (.invokevirtual 166, 3) := by decide +kernel
theorem dL_law_2931 : decode cL_law 2931 = .ok (.iload 6, 2) := by decide +kernel
theorem dL_law_2933 : decode cL_law 2933 = .ok (.if_icmp .eq 5, 3) := by decide +kernel
theorem dL_law_2938 : decode cL_law 2938 = .ok (.iload 6, 2) := by decide +kernel
theorem dL_law_2940 : decode cL_law 2940 = .ok (.ifCond .ne 15, 3) := by decide +kernel
theorem dL_law_2955 : decode cL_law 2955 = .ok (.goto 3, 3) := by decide +kernel
theorem dL_law_2958 : decode cL_law 2958 = .ok (.iinc 5 6, 3) := by decide +kernel
theorem dL_law_2961 : decode cL_law 2961 = .ok (.goto (-2933), 3) := by decide +kernel
theorem dL_law_2964 : decode cL_law 2964 = .ok (.iconst 1, 1) := by decide +kernel
theorem dL_law_2965 : decode cL_law 2965 = .ok (.ireturn, 1) := by decide +kernel
theorem dL_level_0 : decode cL_level 0 = .ok (.aload_n 3, 1) := by decide +kernel
theorem dL_level_1 : decode cL_level 1 = .ok (.iconst 0, 1) := by decide +kernel
theorem dL_level_2 : decode cL_level 2 = .ok (.aload_n 0, 1) := by decide +kernel
theorem dL_level_3 : decode cL_level 3 = .ok (.iload_n 1, 1) := by decide +kernel
theorem dL_level_4 : decode cL_level 4 = .ok (.iload_n 2, 1) := by decide +kernel
theorem dL_level_5 : decode cL_level 5 = .ok (.invokevirtual 105, 3) := by decide +kernel
theorem dL_level_13 : decode cL_level 13 = .ok (.astore 4, 2) := by decide +kernel
theorem dL_level_15 : decode cL_level 15 = .ok (.iconst 1, 1) := by decide +kernel
theorem dL_level_16 : decode cL_level 16 = .ok (.ireturn, 1) := by decide +kernel
theorem dL_lostShare_0 : decode cL_lostShare 0 = .ok (.aload_n 1, 1) := by decide +kernel
theorem dL_lostShare_1 : decode cL_lostShare 1 = .ok (.iconst 0, 1) := by decide +kernel
theorem dL_lostShare_2 : decode cL_lostShare 2 = .ok (.aload_n 0, 1) := by decide +kernel
theorem dL_lostShare_3 : decode cL_lostShare 3 = .ok (.invokevirtual 120, 3) := by decide +kernel
theorem dL_lostShare_10 : decode cL_lostShare 10 = .ok (.astore_n 2, 1) := by decide +kernel
theorem dL_lostShare_11 : decode cL_lostShare 11 = .ok (.iconst 1, 1) := by decide +kernel
theorem dL_lostShare_12 : decode cL_lostShare 12 = .ok (.ireturn, 1) := by decide +kernel
theorem dL_mix_0 : decode cL_mix 0 = .ok (.aload_n 2, 1) := by decide +kernel
theorem dL_mix_1 : decode cL_mix 1 = .ok (.iconst 0, 1) := by decide +kernel
theorem dL_mix_2 : decode cL_mix 2 = .ok (.aload_n 0, 1) := by decide +kernel
theorem dL_mix_3 : decode cL_mix 3 = .ok (.iload_n 1, 1) := by decide +kernel
theorem dL_mix_4 : decode cL_mix 4 = .ok (.invokevirtual 108, 3) := by decide +kernel
theorem dL_mix_7 : decode cL_mix 7 = .ok (.i2l, 1) := by decide +kernel
theorem dL_mix_8 : decode cL_mix 8 = .ok (.lastore, 1) := by decide +kernel
theorem dL_mix_9 : decode cL_mix 9 = .ok (.goto 6, 3) := by decide +kernel
theorem dL_mix_12 : decode cL_mix 12 = .ok (.astore_n 3, 1) := by decide +kernel
theorem dL_mix_13 : decode cL_mix 13 = .ok (.iconst 1, 1) := by decide +kernel
theorem dL_mix_14 : decode cL_mix 14 = .ok (.ireturn, 1) := by decide +kernel
theorem dL_mix_15 : decode cL_mix 15 = .ok (.iconst 0, 1) := by decide +kernel
theorem dL_mix_16 : decode cL_mix 16 = .ok (.ireturn, 1) := by decide +kernel
theorem dL_moveClip_0 : decode cL_moveClip 0 = .ok (.aload_n 3, 1) := by decide +kernel
theorem dL_moveClip_1 : decode cL_moveClip 1 = .ok (.iconst 0, 1) := by decide +kernel
theorem dL_moveClip_2 : decode cL_moveClip 2 = .ok (.aload_n 0, 1) := by decide +kernel
theorem dL_moveClip_3 : decode cL_moveClip 3 = .ok (.iload_n 1, 1) := by decide +kernel
theorem dL_moveClip_4 : decode cL_moveClip 4 = .ok (.iload_n 2, 1) := by decide +kernel
theorem dL_moveClip_5 : decode cL_moveClip 5 = .ok (.invokevirtual 49, 3) := by decide +kernel
theorem dL_moveClip_13 : decode cL_moveClip 13 = .ok (.astore 4, 2) := by decide +kernel
theorem dL_moveClip_15 : decode cL_moveClip 15 = .ok (.iconst 1, 1) := by decide +kernel
theorem dL_moveClip_16 : decode cL_moveClip 16 = .ok (.ireturn, 1) := by decide +kernel
theorem dL_note_0 : decode cL_note 0 = .ok (.aload_n 3, 1) := by decide +kernel
theorem dL_note_1 : decode cL_note 1 = .ok (.iconst 0, 1) := by decide +kernel
theorem dL_note_2 : decode cL_note 2 = .ok (.aload_n 0, 1) := by decide +kernel
theorem dL_note_3 : decode cL_note 3 = .ok (.iload_n 1, 1) := by decide +kernel
theorem dL_note_4 : decode cL_note 4 = .ok (.iload_n 2, 1) := by decide +kernel
theorem dL_note_5 : decode cL_note 5 = .ok (.invokevirtual 58, 3) := by decide +kernel
theorem dL_note_13 : decode cL_note 13 = .ok (.astore 4, 2) := by decide +kernel
theorem dL_note_15 : decode cL_note 15 = .ok (.iconst 1, 1) := by decide +kernel
theorem dL_note_16 : decode cL_note 16 = .ok (.ireturn, 1) := by decide +kernel
theorem dL_noteOn_0 : decode cL_noteOn 0 = .ok (.aload_n 3, 1) := by decide +kernel
theorem dL_noteOn_1 : decode cL_noteOn 1 = .ok (.iconst 0, 1) := by decide +kernel
theorem dL_noteOn_2 : decode cL_noteOn 2 = .ok (.aload_n 0, 1) := by decide +kernel
theorem dL_noteOn_3 : decode cL_noteOn 3 = .ok (.iload_n 1, 1) := by decide +kernel
theorem dL_noteOn_4 : decode cL_noteOn 4 = .ok (.iload_n 2, 1) := by decide +kernel
theorem dL_noteOn_5 : decode cL_noteOn 5 = .ok (.invokevirtual 114, 3) := by decide +kernel
theorem dL_noteOn_13 : decode cL_noteOn 13 = .ok (.astore 4, 2) := by decide +kernel
theorem dL_noteOn_15 : decode cL_noteOn 15 = .ok (.iconst 1, 1) := by decide +kernel
theorem dL_noteOn_16 : decode cL_noteOn 16 = .ok (.ireturn, 1) := by decide +kernel
theorem dL_noteOn_17 : decode cL_noteOn 17 = .ok (.astore 4, 2) := by decide +kernel
theorem dL_noteOn_19 : decode cL_noteOn 19 = .ok (.iconst 2, 1) := by decide +kernel
theorem dL_noteOn_20 : decode cL_noteOn 20 = .ok (.ireturn, 1) := by decide +kernel
theorem dL_noteOn_21 : decode cL_noteOn 21 = .ok (.astore 4, 2) := by decide +kernel
theorem dL_noteOn_23 : decode cL_noteOn 23 = .ok (.iconst 3, 1) := by decide +kernel
theorem dL_noteOn_24 : decode cL_noteOn 24 = .ok (.ireturn, 1) := by decide +kernel
theorem dL_pattern_0 : decode cL_pattern 0 = .ok (.aload_n 3, 1) := by decide +kernel
theorem dL_pattern_1 : decode cL_pattern 1 = .ok (.iconst 0, 1) := by decide +kernel
theorem dL_pattern_2 : decode cL_pattern 2 = .ok (.aload_n 0, 1) := by decide +kernel
theorem dL_pattern_3 : decode cL_pattern 3 = .ok (.iload_n 1, 1) := by decide +kernel
theorem dL_pattern_4 : decode cL_pattern 4 = .ok (.iload_n 2, 1) := by decide +kernel
theorem dL_pattern_5 : decode cL_pattern 5 = .ok (.invokevirtual 30, 3) := by decide +kernel
theorem dL_pattern_8 : decode cL_pattern 8 = .ok (.i2l, 1) := by decide +kernel
theorem dL_pattern_9 : decode cL_pattern 9 = .ok (.lastore, 1) := by decide +kernel
theorem dL_pattern_10 : decode cL_pattern 10 = .ok (.goto 11, 3) := by decide +kernel
theorem dL_pattern_13 : decode cL_pattern 13 = .ok (.astore 4, 2) := by decide +kernel
theorem dL_pattern_15 : decode cL_pattern 15 = .ok (.iconst 1, 1) := by decide +kernel
theorem dL_pattern_16 : decode cL_pattern 16 = .ok (.ireturn, 1) := by decide +kernel
theorem dL_pattern_17 : decode cL_pattern 17 = .ok (.astore 4, 2) := by decide +kernel
theorem dL_pattern_19 : decode cL_pattern 19 = .ok (.iconst 2, 1) := by decide +kernel
theorem dL_pattern_20 : decode cL_pattern 20 = .ok (.ireturn, 1) := by decide +kernel
theorem dL_pattern_21 : decode cL_pattern 21 = .ok (.iconst 0, 1) := by decide +kernel
theorem dL_pattern_22 : decode cL_pattern 22 = .ok (.ireturn, 1) := by decide +kernel
theorem dL_place_0 : decode cL_place 0 = .ok (.aload_n 2, 1) := by decide +kernel
theorem dL_place_1 : decode cL_place 1 = .ok (.iconst 0, 1) := by decide +kernel
theorem dL_place_2 : decode cL_place 2 = .ok (.aload_n 0, 1) := by decide +kernel
theorem dL_place_3 : decode cL_place 3 = .ok (.iload_n 1, 1) := by decide +kernel
theorem dL_place_4 : decode cL_place 4 = .ok (.invokevirtual 77, 3) := by decide +kernel
theorem dL_place_7 : decode cL_place 7 = .ok (.i2l, 1) := by decide +kernel
theorem dL_place_8 : decode cL_place 8 = .ok (.lastore, 1) := by decide +kernel
theorem dL_place_9 : decode cL_place 9 = .ok (.goto 6, 3) := by decide +kernel
theorem dL_place_12 : decode cL_place 12 = .ok (.astore_n 3, 1) := by decide +kernel
theorem dL_place_13 : decode cL_place 13 = .ok (.iconst 1, 1) := by decide +kernel
theorem dL_place_14 : decode cL_place 14 = .ok (.ireturn, 1) := by decide +kernel
theorem dL_place_15 : decode cL_place 15 = .ok (.iconst 0, 1) := by decide +kernel
theorem dL_place_16 : decode cL_place 16 = .ok (.ireturn, 1) := by decide +kernel
theorem dL_played_0 : decode cL_played 0 = .ok (.aload 4, 2) := by decide +kernel
theorem dL_played_2 : decode cL_played 2 = .ok (.iconst 0, 1) := by decide +kernel
theorem dL_played_3 : decode cL_played 3 = .ok (.aload_n 0, 1) := by decide +kernel
theorem dL_played_4 : decode cL_played 4 = .ok (.iload_n 1, 1) := by decide +kernel
theorem dL_played_5 : decode cL_played 5 = .ok (.iload_n 2, 1) := by decide +kernel
theorem dL_played_6 : decode cL_played 6 = .ok (.iload_n 3, 1) := by decide +kernel
theorem dL_played_7 : decode cL_played 7 = .ok (.invokevirtual 36, 3) := by decide +kernel
theorem dL_played_15 : decode cL_played 15 = .ok (.astore 5, 2) := by decide +kernel
theorem dL_played_17 : decode cL_played 17 = .ok (.iconst 1, 1) := by decide +kernel
theorem dL_played_18 : decode cL_played 18 = .ok (.ireturn, 1) := by decide +kernel
theorem dL_played_19 : decode cL_played 19 = .ok (.astore 5, 2) := by decide +kernel
theorem dL_played_21 : decode cL_played 21 = .ok (.iconst 2, 1) := by decide +kernel
theorem dL_played_22 : decode cL_played 22 = .ok (.ireturn, 1) := by decide +kernel
theorem dL_played_23 : decode cL_played 23 = .ok (.astore 5, 2) := by decide +kernel
theorem dL_played_25 : decode cL_played 25 = .ok (.iconst 3, 1) := by decide +kernel
theorem dL_played_26 : decode cL_played 26 = .ok (.ireturn, 1) := by decide +kernel
theorem dL_read_0 : decode cL_read 0 = .ok (.aload_n 2, 1) := by decide +kernel
theorem dL_read_1 : decode cL_read 1 = .ok (.iconst 0, 1) := by decide +kernel
theorem dL_read_2 : decode cL_read 2 = .ok (.aload_n 0, 1) := by decide +kernel
theorem dL_read_3 : decode cL_read 3 = .ok (.iload_n 1, 1) := by decide +kernel
theorem dL_read_4 : decode cL_read 4 = .ok (.invokevirtual 136, 3) := by decide +kernel
theorem dL_read_12 : decode cL_read 12 = .ok (.astore_n 3, 1) := by decide +kernel
theorem dL_read_13 : decode cL_read 13 = .ok (.iconst 1, 1) := by decide +kernel
theorem dL_read_14 : decode cL_read 14 = .ok (.ireturn, 1) := by decide +kernel
theorem dL_read_15 : decode cL_read 15 = .ok (.astore_n 3, 1) := by decide +kernel
theorem dL_read_16 : decode cL_read 16 = .ok (.iconst 2, 1) := by decide +kernel
theorem dL_read_17 : decode cL_read 17 = .ok (.ireturn, 1) := by decide +kernel
theorem dL_removeClip_0 : decode cL_removeClip 0 = .ok (.aload_n 2, 1) := by decide +kernel
theorem dL_removeClip_1 : decode cL_removeClip 1 = .ok (.iconst 0, 1) := by decide +kernel
theorem dL_removeClip_2 : decode cL_removeClip 2 = .ok (.aload_n 0, 1) := by decide +kernel
theorem dL_removeClip_3 : decode cL_removeClip 3 = .ok (.iload_n 1, 1) := by decide +kernel
theorem dL_removeClip_4 : decode cL_removeClip 4 = .ok (.invokevirtual 45, 3) := by decide +kernel
theorem dL_removeClip_12 : decode cL_removeClip 12 = .ok (.astore_n 3, 1) := by decide +kernel
theorem dL_removeClip_13 : decode cL_removeClip 13 = .ok (.iconst 1, 1) := by decide +kernel
theorem dL_removeClip_14 : decode cL_removeClip 14 = .ok (.ireturn, 1) := by decide +kernel
theorem dL_removeItem_0 : decode cL_removeItem 0 = .ok (.aload_n 3, 1) := by decide +kernel
theorem dL_removeItem_1 : decode cL_removeItem 1 = .ok (.iconst 0, 1) := by decide +kernel
theorem dL_removeItem_2 : decode cL_removeItem 2 = .ok (.aload_n 0, 1) := by decide +kernel
theorem dL_removeItem_3 : decode cL_removeItem 3 = .ok (.iload_n 1, 1) := by decide +kernel
theorem dL_removeItem_4 : decode cL_removeItem 4 = .ok (.iload_n 2, 1) := by decide +kernel
theorem dL_removeItem_5 : decode cL_removeItem 5 = .ok (.invokevirtual 27, 3) := by decide +kernel
theorem dL_removeItem_13 : decode cL_removeItem 13 = .ok (.astore 4, 2) := by decide +kernel
theorem dL_removeItem_15 : decode cL_removeItem 15 = .ok (.iconst 1, 1) := by decide +kernel
theorem dL_removeItem_16 : decode cL_removeItem 16 = .ok (.ireturn, 1) := by decide +kernel
theorem dL_removeTempo_0 : decode cL_removeTempo 0 = .ok (.aload_n 2, 1) := by decide +kernel
theorem dL_removeTempo_1 : decode cL_removeTempo 1 = .ok (.iconst 0, 1) := by decide +kernel
theorem dL_removeTempo_2 : decode cL_removeTempo 2 = .ok (.aload_n 0, 1) := by decide +kernel
theorem dL_removeTempo_3 : decode cL_removeTempo 3 = .ok (.iload_n 1, 1) := by decide +kernel
theorem dL_removeTempo_4 : decode cL_removeTempo 4 = .ok (.invokevirtual 71, 3) := by decide +kernel
theorem dL_removeTempo_12 : decode cL_removeTempo 12 = .ok (.astore_n 3, 1) := by decide +kernel
theorem dL_removeTempo_13 : decode cL_removeTempo 13 = .ok (.iconst 1, 1) := by decide +kernel
theorem dL_removeTempo_14 : decode cL_removeTempo 14 = .ok (.ireturn, 1) := by decide +kernel
theorem dL_removeTempo_15 : decode cL_removeTempo 15 = .ok (.astore_n 3, 1) := by decide +kernel
theorem dL_removeTempo_16 : decode cL_removeTempo 16 = .ok (.iconst 2, 1) := by decide +kernel
theorem dL_removeTempo_17 : decode cL_removeTempo 17 = .ok (.ireturn, 1) := by decide +kernel
theorem dL_restore_0 : decode cL_restore 0 = .ok (.aload_n 1, 1) := by decide +kernel
theorem dL_restore_1 : decode cL_restore 1 = .ok (.iconst 0, 1) := by decide +kernel
theorem dL_restore_2 : decode cL_restore 2 = .ok (.aload_n 0, 1) := by decide +kernel
theorem dL_restore_3 : decode cL_restore 3 = .ok (.invokevirtual 149, 3) := by decide +kernel
theorem dL_restore_11 : decode cL_restore 11 = .ok (.astore_n 2, 1) := by decide +kernel
theorem dL_restore_12 : decode cL_restore 12 = .ok (.iconst 1, 1) := by decide +kernel
theorem dL_restore_13 : decode cL_restore 13 = .ok (.ireturn, 1) := by decide +kernel
theorem dL_setEnvelope_0 : decode cL_setEnvelope 0 = .ok (.aload 6, 2) := by decide +kernel
theorem dL_setEnvelope_2 : decode cL_setEnvelope 2 = .ok (.iconst 0, 1) := by decide +kernel
theorem dL_setEnvelope_3 : decode cL_setEnvelope 3 = .ok (.aload_n 0, 1) := by decide +kernel
theorem dL_setEnvelope_4 : decode cL_setEnvelope 4 = .ok (.iload_n 1, 1) := by decide +kernel
theorem dL_setEnvelope_5 : decode cL_setEnvelope 5 = .ok (.iload_n 2, 1) := by decide +kernel
theorem dL_setEnvelope_6 : decode cL_setEnvelope 6 = .ok (.iload_n 3, 1) := by decide +kernel
theorem dL_setEnvelope_7 : decode cL_setEnvelope 7 = .ok (.iload 4, 2) := by decide +kernel
theorem dL_setEnvelope_9 : decode cL_setEnvelope 9 = .ok (.iload 5, 2) := by decide +kernel
theorem dL_setEnvelope_11 : decode cL_setEnvelope 11 = .ok (.invokevirtual 90, 3) := by decide +kernel
theorem dL_setEnvelope_14 : decode cL_setEnvelope 14 = .ok (.i2l, 1) := by decide +kernel
theorem dL_setEnvelope_15 : decode cL_setEnvelope 15 = .ok (.lastore, 1) := by decide +kernel
theorem dL_setEnvelope_16 : decode cL_setEnvelope 16 = .ok (.goto 11, 3) := by decide +kernel
theorem dL_setEnvelope_19 : decode cL_setEnvelope 19 = .ok (.astore 7, 2) := by decide +kernel
theorem dL_setEnvelope_21 : decode cL_setEnvelope 21 = .ok (.iconst 1, 1) := by decide +kernel
theorem dL_setEnvelope_22 : decode cL_setEnvelope 22 = .ok (.ireturn, 1) := by decide +kernel
theorem dL_setEnvelope_23 : decode cL_setEnvelope 23 = .ok (.astore 7, 2) := by decide +kernel
theorem dL_setEnvelope_25 : decode cL_setEnvelope 25 = .ok (.iconst 2, 1) := by decide +kernel
theorem dL_setEnvelope_26 : decode cL_setEnvelope 26 = .ok (.ireturn, 1) := by decide +kernel
theorem dL_setEnvelope_27 : decode cL_setEnvelope 27 = .ok (.iconst 0, 1) := by decide +kernel
theorem dL_setEnvelope_28 : decode cL_setEnvelope 28 = .ok (.ireturn, 1) := by decide +kernel
theorem dL_setPriority_0 : decode cL_setPriority 0 = .ok (.aload_n 3, 1) := by decide +kernel
theorem dL_setPriority_1 : decode cL_setPriority 1 = .ok (.iconst 0, 1) := by decide +kernel
theorem dL_setPriority_2 : decode cL_setPriority 2 = .ok (.aload_n 0, 1) := by decide +kernel
theorem dL_setPriority_3 : decode cL_setPriority 3 = .ok (.iload_n 1, 1) := by decide +kernel
theorem dL_setPriority_4 : decode cL_setPriority 4 = .ok (.iload_n 2, 1) := by decide +kernel
theorem dL_setPriority_5 : decode cL_setPriority 5 = .ok (.invokevirtual 93, 3) := by decide +kernel
theorem dL_setPriority_8 : decode cL_setPriority 8 = .ok (.i2l, 1) := by decide +kernel
theorem dL_setPriority_9 : decode cL_setPriority 9 = .ok (.lastore, 1) := by decide +kernel
theorem dL_setPriority_10 : decode cL_setPriority 10 = .ok (.goto 11, 3) := by decide +kernel
theorem dL_setPriority_13 : decode cL_setPriority 13 = .ok (.astore 4, 2) := by decide +kernel
theorem dL_setPriority_15 : decode cL_setPriority 15 = .ok (.iconst 1, 1) := by decide +kernel
theorem dL_setPriority_16 : decode cL_setPriority 16 = .ok (.ireturn, 1) := by decide +kernel
theorem dL_setPriority_17 : decode cL_setPriority 17 = .ok (.astore 4, 2) := by decide +kernel
theorem dL_setPriority_19 : decode cL_setPriority 19 = .ok (.iconst 2, 1) := by decide +kernel
theorem dL_setPriority_20 : decode cL_setPriority 20 = .ok (.ireturn, 1) := by decide +kernel
theorem dL_setPriority_21 : decode cL_setPriority 21 = .ok (.iconst 0, 1) := by decide +kernel
theorem dL_setPriority_22 : decode cL_setPriority 22 = .ok (.ireturn, 1) := by decide +kernel
theorem dL_setRule_0 : decode cL_setRule 0 = .ok (.aload_n 2, 1) := by decide +kernel
theorem dL_setRule_1 : decode cL_setRule 1 = .ok (.iconst 0, 1) := by decide +kernel
theorem dL_setRule_2 : decode cL_setRule 2 = .ok (.aload_n 0, 1) := by decide +kernel
theorem dL_setRule_3 : decode cL_setRule 3 = .ok (.iload_n 1, 1) := by decide +kernel
theorem dL_setRule_4 : decode cL_setRule 4 = .ok (.invokevirtual 102, 3) := by decide +kernel
theorem dL_setRule_7 : decode cL_setRule 7 = .ok (.i2l, 1) := by decide +kernel
theorem dL_setRule_8 : decode cL_setRule 8 = .ok (.lastore, 1) := by decide +kernel
theorem dL_setRule_9 : decode cL_setRule 9 = .ok (.goto 6, 3) := by decide +kernel
theorem dL_setRule_12 : decode cL_setRule 12 = .ok (.astore_n 3, 1) := by decide +kernel
theorem dL_setRule_13 : decode cL_setRule 13 = .ok (.iconst 1, 1) := by decide +kernel
theorem dL_setRule_14 : decode cL_setRule 14 = .ok (.ireturn, 1) := by decide +kernel
theorem dL_setRule_15 : decode cL_setRule 15 = .ok (.iconst 0, 1) := by decide +kernel
theorem dL_setRule_16 : decode cL_setRule 16 = .ok (.ireturn, 1) := by decide +kernel
theorem dL_setSwing_0 : decode cL_setSwing 0 = .ok (.aload_n 2, 1) := by decide +kernel
theorem dL_setSwing_1 : decode cL_setSwing 1 = .ok (.iconst 0, 1) := by decide +kernel
theorem dL_setSwing_2 : decode cL_setSwing 2 = .ok (.aload_n 0, 1) := by decide +kernel
theorem dL_setSwing_3 : decode cL_setSwing 3 = .ok (.iload_n 1, 1) := by decide +kernel
theorem dL_setSwing_4 : decode cL_setSwing 4 = .ok (.invokevirtual 80, 3) := by decide +kernel
theorem dL_setSwing_7 : decode cL_setSwing 7 = .ok (.i2l, 1) := by decide +kernel
theorem dL_setSwing_8 : decode cL_setSwing 8 = .ok (.lastore, 1) := by decide +kernel
theorem dL_setSwing_9 : decode cL_setSwing 9 = .ok (.goto 6, 3) := by decide +kernel
theorem dL_setSwing_12 : decode cL_setSwing 12 = .ok (.astore_n 3, 1) := by decide +kernel
theorem dL_setSwing_13 : decode cL_setSwing 13 = .ok (.iconst 1, 1) := by decide +kernel
theorem dL_setSwing_14 : decode cL_setSwing 14 = .ok (.ireturn, 1) := by decide +kernel
theorem dL_setSwing_15 : decode cL_setSwing 15 = .ok (.iconst 0, 1) := by decide +kernel
theorem dL_setSwing_16 : decode cL_setSwing 16 = .ok (.ireturn, 1) := by decide +kernel
theorem dL_setTempo_0 : decode cL_setTempo 0 = .ok (.aload_n 3, 1) := by decide +kernel
theorem dL_setTempo_1 : decode cL_setTempo 1 = .ok (.iconst 0, 1) := by decide +kernel
theorem dL_setTempo_2 : decode cL_setTempo 2 = .ok (.aload_n 0, 1) := by decide +kernel
theorem dL_setTempo_3 : decode cL_setTempo 3 = .ok (.iload_n 1, 1) := by decide +kernel
theorem dL_setTempo_4 : decode cL_setTempo 4 = .ok (.iload_n 2, 1) := by decide +kernel
theorem dL_setTempo_5 : decode cL_setTempo 5 = .ok (.invokevirtual 68, 3) := by decide +kernel
theorem dL_setTempo_8 : decode cL_setTempo 8 = .ok (.i2l, 1) := by decide +kernel
theorem dL_setTempo_9 : decode cL_setTempo 9 = .ok (.lastore, 1) := by decide +kernel
theorem dL_setTempo_10 : decode cL_setTempo 10 = .ok (.goto 11, 3) := by decide +kernel
theorem dL_setTempo_13 : decode cL_setTempo 13 = .ok (.astore 4, 2) := by decide +kernel
theorem dL_setTempo_15 : decode cL_setTempo 15 = .ok (.iconst 1, 1) := by decide +kernel
theorem dL_setTempo_16 : decode cL_setTempo 16 = .ok (.ireturn, 1) := by decide +kernel
theorem dL_setTempo_21 : decode cL_setTempo 21 = .ok (.iconst 0, 1) := by decide +kernel
theorem dL_setTempo_22 : decode cL_setTempo 22 = .ok (.ireturn, 1) := by decide +kernel
theorem dL_setVoices_0 : decode cL_setVoices 0 = .ok (.aload_n 2, 1) := by decide +kernel
theorem dL_setVoices_1 : decode cL_setVoices 1 = .ok (.iconst 0, 1) := by decide +kernel
theorem dL_setVoices_2 : decode cL_setVoices 2 = .ok (.aload_n 0, 1) := by decide +kernel
theorem dL_setVoices_3 : decode cL_setVoices 3 = .ok (.iload_n 1, 1) := by decide +kernel
theorem dL_setVoices_4 : decode cL_setVoices 4 = .ok (.invokevirtual 99, 3) := by decide +kernel
theorem dL_setVoices_7 : decode cL_setVoices 7 = .ok (.i2l, 1) := by decide +kernel
theorem dL_setVoices_8 : decode cL_setVoices 8 = .ok (.lastore, 1) := by decide +kernel
theorem dL_setVoices_9 : decode cL_setVoices 9 = .ok (.goto 6, 3) := by decide +kernel
theorem dL_setVoices_12 : decode cL_setVoices 12 = .ok (.astore_n 3, 1) := by decide +kernel
theorem dL_setVoices_13 : decode cL_setVoices 13 = .ok (.iconst 1, 1) := by decide +kernel
theorem dL_setVoices_14 : decode cL_setVoices 14 = .ok (.ireturn, 1) := by decide +kernel
theorem dL_setVoices_15 : decode cL_setVoices 15 = .ok (.iconst 0, 1) := by decide +kernel
theorem dL_setVoices_16 : decode cL_setVoices 16 = .ok (.ireturn, 1) := by decide +kernel
theorem dL_sounding_0 : decode cL_sounding 0 = .ok (.aload_n 2, 1) := by decide +kernel
theorem dL_sounding_1 : decode cL_sounding 1 = .ok (.iconst 0, 1) := by decide +kernel
theorem dL_sounding_2 : decode cL_sounding 2 = .ok (.aload_n 0, 1) := by decide +kernel
theorem dL_sounding_3 : decode cL_sounding 3 = .ok (.iload_n 1, 1) := by decide +kernel
theorem dL_sounding_4 : decode cL_sounding 4 = .ok (.invokevirtual 111, 3) := by decide +kernel
theorem dL_sounding_7 : decode cL_sounding 7 = .ok (.i2l, 1) := by decide +kernel
theorem dL_sounding_8 : decode cL_sounding 8 = .ok (.lastore, 1) := by decide +kernel
theorem dL_sounding_9 : decode cL_sounding 9 = .ok (.goto 6, 3) := by decide +kernel
theorem dL_sounding_12 : decode cL_sounding 12 = .ok (.astore_n 3, 1) := by decide +kernel
theorem dL_sounding_13 : decode cL_sounding 13 = .ok (.iconst 1, 1) := by decide +kernel
theorem dL_sounding_14 : decode cL_sounding 14 = .ok (.ireturn, 1) := by decide +kernel
theorem dL_sounding_15 : decode cL_sounding 15 = .ok (.iconst 0, 1) := by decide +kernel
theorem dL_sounding_16 : decode cL_sounding 16 = .ok (.ireturn, 1) := by decide +kernel
theorem dL_tempo_0 : decode cL_tempo 0 = .ok (.aload_n 2, 1) := by decide +kernel
theorem dL_tempo_1 : decode cL_tempo 1 = .ok (.iconst 0, 1) := by decide +kernel
theorem dL_tempo_2 : decode cL_tempo 2 = .ok (.aload_n 0, 1) := by decide +kernel
theorem dL_tempo_3 : decode cL_tempo 3 = .ok (.iload_n 1, 1) := by decide +kernel
theorem dL_tempo_4 : decode cL_tempo 4 = .ok (.invokevirtual 74, 3) := by decide +kernel
theorem dL_tempo_7 : decode cL_tempo 7 = .ok (.i2l, 1) := by decide +kernel
theorem dL_tempo_8 : decode cL_tempo 8 = .ok (.lastore, 1) := by decide +kernel
theorem dL_tempo_9 : decode cL_tempo 9 = .ok (.goto 6, 3) := by decide +kernel
theorem dL_tempo_12 : decode cL_tempo 12 = .ok (.astore_n 3, 1) := by decide +kernel
theorem dL_tempo_13 : decode cL_tempo 13 = .ok (.iconst 1, 1) := by decide +kernel
theorem dL_tempo_14 : decode cL_tempo 14 = .ok (.ireturn, 1) := by decide +kernel
theorem dL_tempo_15 : decode cL_tempo 15 = .ok (.iconst 0, 1) := by decide +kernel
theorem dL_tempo_16 : decode cL_tempo 16 = .ok (.ireturn, 1) := by decide +kernel
theorem dL_tickAt_0 : decode cL_tickAt 0 = .ok (.aload_n 2, 1) := by decide +kernel
theorem dL_tickAt_1 : decode cL_tickAt 1 = .ok (.iconst 0, 1) := by decide +kernel
theorem dL_tickAt_2 : decode cL_tickAt 2 = .ok (.aload_n 0, 1) := by decide +kernel
theorem dL_tickAt_3 : decode cL_tickAt 3 = .ok (.iload_n 1, 1) := by decide +kernel
theorem dL_tickAt_4 : decode cL_tickAt 4 = .ok (.invokevirtual 87, 3) := by decide +kernel
theorem dL_tickAt_7 : decode cL_tickAt 7 = .ok (.i2l, 1) := by decide +kernel
theorem dL_tickAt_8 : decode cL_tickAt 8 = .ok (.lastore, 1) := by decide +kernel
theorem dL_tickAt_9 : decode cL_tickAt 9 = .ok (.goto 6, 3) := by decide +kernel
theorem dL_tickAt_12 : decode cL_tickAt 12 = .ok (.astore_n 3, 1) := by decide +kernel
theorem dL_tickAt_13 : decode cL_tickAt 13 = .ok (.iconst 1, 1) := by decide +kernel
theorem dL_tickAt_14 : decode cL_tickAt 14 = .ok (.ireturn, 1) := by decide +kernel
theorem dL_tickAt_15 : decode cL_tickAt 15 = .ok (.iconst 0, 1) := by decide +kernel
theorem dL_tickAt_16 : decode cL_tickAt 16 = .ok (.ireturn, 1) := by decide +kernel
theorem dL_timeOf_0 : decode cL_timeOf 0 = .ok (.aload_n 3, 1) := by decide +kernel
theorem dL_timeOf_1 : decode cL_timeOf 1 = .ok (.iconst 0, 1) := by decide +kernel
theorem dL_timeOf_2 : decode cL_timeOf 2 = .ok (.aload_n 0, 1) := by decide +kernel
theorem dL_timeOf_3 : decode cL_timeOf 3 = .ok (.iload_n 1, 1) := by decide +kernel
theorem dL_timeOf_4 : decode cL_timeOf 4 = .ok (.iload_n 2, 1) := by decide +kernel
theorem dL_timeOf_5 : decode cL_timeOf 5 = .ok (.invokevirtual 83, 3) := by decide +kernel
theorem dL_timeOf_8 : decode cL_timeOf 8 = .ok (.i2l, 1) := by decide +kernel
theorem dL_timeOf_9 : decode cL_timeOf 9 = .ok (.lastore, 1) := by decide +kernel
theorem dL_timeOf_10 : decode cL_timeOf 10 = .ok (.goto 7, 3) := by decide +kernel
theorem dL_timeOf_13 : decode cL_timeOf 13 = .ok (.astore 4, 2) := by decide +kernel
theorem dL_timeOf_15 : decode cL_timeOf 15 = .ok (.iconst 1, 1) := by decide +kernel
theorem dL_timeOf_16 : decode cL_timeOf 16 = .ok (.ireturn, 1) := by decide +kernel
theorem dL_timeOf_17 : decode cL_timeOf 17 = .ok (.iconst 0, 1) := by decide +kernel
theorem dL_timeOf_18 : decode cL_timeOf 18 = .ok (.ireturn, 1) := by decide +kernel
theorem dL_undo_0 : decode cL_undo 0 = .ok (.aload_n 1, 1) := by decide +kernel
theorem dL_undo_1 : decode cL_undo 1 = .ok (.iconst 0, 1) := by decide +kernel
theorem dL_undo_2 : decode cL_undo 2 = .ok (.aload_n 0, 1) := by decide +kernel
theorem dL_undo_3 : decode cL_undo 3 = .ok (.invokevirtual 146, 3) := by decide +kernel
theorem dL_undo_11 : decode cL_undo 11 = .ok (.astore_n 2, 1) := by decide +kernel
theorem dL_undo_12 : decode cL_undo 12 = .ok (.iconst 1, 1) := by decide +kernel
theorem dL_undo_13 : decode cL_undo 13 = .ok (.ireturn, 1) := by decide +kernel
theorem dX0_firstFrom_0 : decode cX0_firstFrom 0 = .ok (.iconst 0, 1) := by decide +kernel
theorem dX0_firstFrom_1 : decode cX0_firstFrom 1 = .ok (.istore_n 2, 1) := by decide +kernel
theorem dX0_firstFrom_2 : decode cX0_firstFrom 2 = .ok (.iload_n 2, 1) := by decide +kernel
theorem dX0_firstFrom_3 : decode cX0_firstFrom 3 = .ok (.aload_n 0, 1) := by decide +kernel
theorem dX0_firstFrom_4 : decode cX0_firstFrom 4 = .ok (.getfield 24, 3) := by decide +kernel
theorem dX0_firstFrom_7 : decode cX0_firstFrom 7 = .ok (.if_icmp .ge 20, 3) := by decide +kernel
theorem dX0_firstFrom_27 : decode cX0_firstFrom 27 = .ok (.iconst (-1), 1) := by decide +kernel
theorem dX0_firstFrom_28 : decode cX0_firstFrom 28 = .ok (.ireturn, 1) := by decide +kernel
theorem dX0_greatestNumberAtOnce_0 : decode cX0_greatestNumberAtOnce 0 = .ok (.iconst 0, 1) := by decide +kernel
theorem dX0_greatestNumberAtOnce_1 : decode cX0_greatestNumberAtOnce 1 = .ok (.istore_n 1, 1) := by decide +kernel
theorem dX0_greatestNumberAtOnce_2 : decode cX0_greatestNumberAtOnce 2 = .ok (.iconst 0, 1) := by decide +kernel
theorem dX0_greatestNumberAtOnce_3 : decode cX0_greatestNumberAtOnce 3 = .ok (.istore_n 2, 1) := by decide +kernel
theorem dX0_greatestNumberAtOnce_4 : decode cX0_greatestNumberAtOnce 4 = .ok (.iconst 0, 1) := by decide +kernel
theorem dX0_greatestNumberAtOnce_5 : decode cX0_greatestNumberAtOnce 5 = .ok (.istore_n 3, 1) := by decide +kernel
theorem dX0_greatestNumberAtOnce_6 : decode cX0_greatestNumberAtOnce 6 = .ok (.iload_n 3, 1) := by decide +kernel
theorem dX0_greatestNumberAtOnce_7 : decode cX0_greatestNumberAtOnce 7 = .ok (.aload_n 0, 1) := by decide +kernel
theorem dX0_greatestNumberAtOnce_8 : decode cX0_greatestNumberAtOnce 8 = .ok (.getfield 24, 3) := by decide +kernel
theorem dX0_greatestNumberAtOnce_11 : decode cX0_greatestNumberAtOnce 11 = .ok (.if_icmp .ge 32, 3) := by decide +kernel
theorem dX0_greatestNumberAtOnce_43 : decode cX0_greatestNumberAtOnce 43 = .ok (.iload_n 2, 1) := by decide +kernel
theorem dX0_greatestNumberAtOnce_44 : decode cX0_greatestNumberAtOnce 44 = .ok (.ireturn, 1) := by decide +kernel
theorem dX0_init_0 : decode cX0_init 0 = .ok (.aload_n 0, 1) := by decide +kernel
theorem dX0_init_1 : decode cX0_init 1 = .ok (.invokespecial 3, 3) := by decide +kernel
theorem dX0_init_4 : decode cX0_init 4 = .ok (.aload_n 0, 1) := by decide +kernel
theorem dX0_init_5 : decode cX0_init 5 = .ok (.sipush 600, 3) := by decide +kernel
theorem dX0_init_8 : decode cX0_init 8 = .ok (.newarray .long, 2) := by decide +kernel
theorem dX0_init_10 : decode cX0_init 10 = .ok (.putfield 9, 3) := by decide +kernel
theorem dX0_init_13 : decode cX0_init 13 = .ok (.aload_n 0, 1) := by decide +kernel
theorem dX0_init_14 : decode cX0_init 14 = .ok (.new 15, 3) := by decide +kernel
theorem dX0_init_17 : decode cX0_init 17 = .ok (.dup, 1) := by decide +kernel
theorem dX0_init_18 : decode cX0_init 18 = .ok (.sipush 600, 3) := by decide +kernel
theorem dX0_init_21 : decode cX0_init 21 = .ok (.invokespecial 17, 3) := by decide +kernel
theorem dX0_init_24 : decode cX0_init 24 = .ok (.putfield 20, 3) := by decide +kernel
theorem dX0_init_27 : decode cX0_init 27 = .ok (.return_, 1) := by decide +kernel
theorem dX0_list_0 : decode cX0_list 0 = .ok (.aload_n 0, 1) := by decide +kernel
theorem dX0_list_1 : decode cX0_list 1 = .ok (.iconst 0, 1) := by decide +kernel
theorem dX0_list_2 : decode cX0_list 2 = .ok (.putfield 24, 3) := by decide +kernel
theorem dX0_list_5 : decode cX0_list 5 = .ok (.iconst 0, 1) := by decide +kernel
theorem dX0_list_6 : decode cX0_list 6 = .ok (.istore_n 2, 1) := by decide +kernel
theorem dX0_list_7 : decode cX0_list 7 = .ok (.iload_n 2, 1) := by decide +kernel
theorem dX0_list_8 : decode cX0_list 8 = .ok (.aload_n 1, 1) := by decide +kernel
theorem dX0_list_9 : decode cX0_list 9 = .ok (.invokevirtual 28, 3) := by decide +kernel
theorem dX0_list_12 : decode cX0_list 12 = .ok (.if_icmp .ge 45, 3) := by decide +kernel
theorem dX0_list_57 : decode cX0_list 57 = .ok (.aload_n 0, 1) := by decide +kernel
theorem dX0_list_58 : decode cX0_list 58 = .ok (.getfield 20, 3) := by decide +kernel
theorem dX0_list_61 : decode cX0_list 61 = .ok (.aload_n 0, 1) := by decide +kernel
theorem dX0_list_62 : decode cX0_list 62 = .ok (.getfield 9, 3) := by decide +kernel
theorem dX0_list_65 : decode cX0_list 65 = .ok (.aload_n 0, 1) := by decide +kernel
theorem dX0_list_66 : decode cX0_list 66 = .ok (.getfield 24, 3) := by decide +kernel
theorem dX0_list_69 : decode cX0_list 69 = .ok (.invokevirtual 42, 3) := by decide +kernel
theorem dX0_list_72 : decode cX0_list 72 = .ok (.return_, 1) := by decide +kernel
theorem dX0_size_0 : decode cX0_size 0 = .ok (.aload_n 0, 1) := by decide +kernel
theorem dX0_size_1 : decode cX0_size 1 = .ok (.getfield 24, 3) := by decide +kernel
theorem dX0_size_4 : decode cX0_size 4 = .ok (.ireturn, 1) := by decide +kernel
theorem dX10_addCall_0 : decode cX10_addCall 0 = .ok (.aload_n 0, 1) := by decide +kernel
theorem dX10_addCall_1 : decode cX10_addCall 1 = .ok (.iload_n 1, 1) := by decide +kernel
theorem dX10_addCall_2 : decode cX10_addCall 2 = .ok (.iconst 2, 1) := by decide +kernel
theorem dX10_addCall_3 : decode cX10_addCall 3 = .ok (.iload_n 2, 1) := by decide +kernel
theorem dX10_addCall_4 : decode cX10_addCall 4 = .ok (.iload_n 3, 1) := by decide +kernel
theorem dX10_addCall_5 : decode cX10_addCall 5 = .ok (.iconst (-1), 1) := by decide +kernel
theorem dX10_addCall_6 : decode cX10_addCall 6 = .ok (.invokevirtual 147, 3) := by decide +kernel
theorem dX10_addCall_9 : decode cX10_addCall 9 = .ok (.ireturn, 1) := by decide +kernel
theorem dX10_addClip_0 : decode cX10_addClip 0 = .ok (.aload_n 0, 1) := by decide +kernel
theorem dX10_addClip_1 : decode cX10_addClip 1 = .ok (.iconst 0, 1) := by decide +kernel
theorem dX10_addClip_2 : decode cX10_addClip 2 = .ok (.putfield 86, 3) := by decide +kernel
theorem dX10_addClip_5 : decode cX10_addClip 5 = .ok (.iload_n 1, 1) := by decide +kernel
theorem dX10_addClip_6 : decode cX10_addClip 6 = .ok (.iconst 0, 1) := by decide +kernel
theorem dX10_addClip_7 : decode cX10_addClip 7 = .ok (.sipush 9999, 3) := by decide +kernel
theorem dX10_addClip_10 : decode cX10_addClip 10 = .ok (.invokestatic 98, 3) := by decide +kernel
theorem dX10_addClip_13 : decode cX10_addClip 13 = .ok (.ifCond .eq 46, 3) := by decide +kernel
theorem dX10_addClip_16 : decode cX10_addClip 16 = .ok (.iload_n 2, 1) := by decide +kernel
theorem dX10_addClip_17 : decode cX10_addClip 17 = .ok (.invokestatic 130, 3) := by decide +kernel
theorem dX10_addClip_20 : decode cX10_addClip 20 = .ok (.ifCond .eq 39, 3) := by decide +kernel
theorem dX10_addClip_23 : decode cX10_addClip 23 = .ok (.iload_n 3, 1) := by decide +kernel
theorem dX10_addClip_24 : decode cX10_addClip 24 = .ok (.iconst 1, 1) := by decide +kernel
theorem dX10_addClip_25 : decode cX10_addClip 25 = .ok (.bipush 9, 2) := by decide +kernel
theorem dX10_addClip_27 : decode cX10_addClip 27 = .ok (.invokestatic 98, 3) := by decide +kernel
theorem dX10_addClip_30 : decode cX10_addClip 30 = .ok (.ifCond .eq 29, 3) := by decide +kernel
theorem dX10_addClip_33 : decode cX10_addClip 33 = .ok (.iload 4, 2) := by decide +kernel
theorem dX10_addClip_35 : decode cX10_addClip 35 = .ok (.bipush (-50), 2) := by decide +kernel
theorem dX10_addClip_37 : decode cX10_addClip 37 = .ok (.bipush 50, 2) := by decide +kernel
theorem dX10_addClip_39 : decode cX10_addClip 39 = .ok (.invokestatic 98, 3) := by decide +kernel
theorem dX10_addClip_42 : decode cX10_addClip 42 = .ok (.ifCond .eq 17, 3) := by decide +kernel
theorem dX10_addClip_45 : decode cX10_addClip 45 = .ok (.iload 5, 2) := by decide +kernel
theorem dX10_addClip_47 : decode cX10_addClip 47 = .ok (.iconst 0, 1) := by decide +kernel
theorem dX10_addClip_48 : decode cX10_addClip 48 = .ok (.iconst 3, 1) := by decide +kernel
theorem dX10_addClip_49 : decode cX10_addClip 49 = .ok (.invokestatic 98, 3) := by decide +kernel
theorem dX10_addClip_52 : decode cX10_addClip 52 = .ok (.ifCond .eq 7, 3) := by decide +kernel
theorem dX10_addClip_55 : decode cX10_addClip 55 = .ok (.iconst 1, 1) := by decide +kernel
theorem dX10_addClip_56 : decode cX10_addClip 56 = .ok (.goto 4, 3) := by decide +kernel
theorem dX10_addClip_59 : decode cX10_addClip 59 = .ok (.iconst 0, 1) := by decide +kernel
theorem dX10_addClip_60 : decode cX10_addClip 60 = .ok (.istore 6, 2) := by decide +kernel
theorem dX10_addClip_62 : decode cX10_addClip 62 = .ok (.iload 6, 2) := by decide +kernel
theorem dX10_addClip_64 : decode cX10_addClip 64 = .ok (.ifCond .ne 9, 3) := by decide +kernel
theorem dX10_addClip_67 : decode cX10_addClip 67 = .ok (.aload_n 0, 1) := by decide +kernel
theorem dX10_addClip_68 : decode cX10_addClip 68 = .ok (.iconst 1, 1) := by decide +kernel
theorem dX10_addClip_69 : decode cX10_addClip 69 = .ok (.invokevirtual 144, 3) := by decide +kernel
theorem dX10_addClip_72 : decode cX10_addClip 72 = .ok (.ireturn, 1) := by decide +kernel
theorem dX10_addClip_73 : decode cX10_addClip 73 = .ok (.aload_n 0, 1) := by decide +kernel
theorem dX10_addClip_74 : decode cX10_addClip 74 = .ok (.getfield 9, 3) := by decide +kernel
theorem dX10_addClip_77 : decode cX10_addClip 77 = .ok (.sipush 392, 3) := by decide +kernel
theorem dX10_addClip_80 : decode cX10_addClip 80 = .ok (.iaload, 1) := by decide +kernel
theorem dX10_addClip_81 : decode cX10_addClip 81 = .ok (.bipush 12, 2) := by decide +kernel
theorem dX10_addClip_83 : decode cX10_addClip 83 = .ok (.if_icmp .ne 9, 3) := by decide +kernel
theorem dX10_addClip_92 : decode cX10_addClip 92 = .ok (.aload_n 0, 1) := by decide +kernel
theorem dX10_addClip_93 : decode cX10_addClip 93 = .ok (.invokevirtual 92, 3) := by decide +kernel
theorem dX10_addClip_96 : decode cX10_addClip 96 = .ok (.sipush 393, 3) := by decide +kernel
theorem dX10_addClip_99 : decode cX10_addClip 99 = .ok (.iconst 5, 1) := by decide +kernel
theorem dX10_addClip_100 : decode cX10_addClip 100 = .ok (.aload_n 0, 1) := by decide +kernel
theorem dX10_addClip_101 : decode cX10_addClip 101 = .ok (.getfield 9, 3) := by decide +kernel
theorem dX10_addClip_104 : decode cX10_addClip 104 = .ok (.sipush 392, 3) := by decide +kernel
theorem dX10_addClip_107 : decode cX10_addClip 107 = .ok (.iaload, 1) := by decide +kernel
theorem dX10_addClip_108 : decode cX10_addClip 108 = .ok (.imul, 1) := by decide +kernel
theorem dX10_addClip_109 : decode cX10_addClip 109 = .ok (.iadd, 1) := by decide +kernel
theorem dX10_addClip_110 : decode cX10_addClip 110 = .ok (.istore 7, 2) := by decide +kernel
theorem dX10_addClip_112 : decode cX10_addClip 112 = .ok (.aload_n 0, 1) := by decide +kernel
theorem dX10_addClip_113 : decode cX10_addClip 113 = .ok (.getfield 9, 3) := by decide +kernel
theorem dX10_addClip_116 : decode cX10_addClip 116 = .ok (.iload 7, 2) := by decide +kernel
theorem dX10_addClip_118 : decode cX10_addClip 118 = .ok (.iload_n 1, 1) := by decide +kernel
theorem dX10_addClip_119 : decode cX10_addClip 119 = .ok (.iastore, 1) := by decide +kernel
theorem dX10_addClip_120 : decode cX10_addClip 120 = .ok (.aload_n 0, 1) := by decide +kernel
theorem dX10_addClip_121 : decode cX10_addClip 121 = .ok (.getfield 9, 3) := by decide +kernel
theorem dX10_addClip_124 : decode cX10_addClip 124 = .ok (.iload 7, 2) := by decide +kernel
theorem dX10_addClip_126 : decode cX10_addClip 126 = .ok (.iconst 1, 1) := by decide +kernel
theorem dX10_addClip_127 : decode cX10_addClip 127 = .ok (.iadd, 1) := by decide +kernel
theorem dX10_addClip_128 : decode cX10_addClip 128 = .ok (.iload_n 2, 1) := by decide +kernel
theorem dX10_addClip_129 : decode cX10_addClip 129 = .ok (.iastore, 1) := by decide +kernel
theorem dX10_addClip_130 : decode cX10_addClip 130 = .ok (.aload_n 0, 1) := by decide +kernel
theorem dX10_addClip_131 : decode cX10_addClip 131 = .ok (.getfield 9, 3) := by decide +kernel
theorem dX10_addClip_134 : decode cX10_addClip 134 = .ok (.iload 7, 2) := by decide +kernel
theorem dX10_addClip_136 : decode cX10_addClip 136 = .ok (.iconst 2, 1) := by decide +kernel
theorem dX10_addClip_137 : decode cX10_addClip 137 = .ok (.iadd, 1) := by decide +kernel
theorem dX10_addClip_138 : decode cX10_addClip 138 = .ok (.iload_n 3, 1) := by decide +kernel
theorem dX10_addClip_139 : decode cX10_addClip 139 = .ok (.iastore, 1) := by decide +kernel
theorem dX10_addClip_140 : decode cX10_addClip 140 = .ok (.aload_n 0, 1) := by decide +kernel
theorem dX10_addClip_141 : decode cX10_addClip 141 = .ok (.getfield 9, 3) := by decide +kernel
theorem dX10_addClip_144 : decode cX10_addClip 144 = .ok (.iload 7, 2) := by decide +kernel
theorem dX10_addClip_146 : decode cX10_addClip 146 = .ok (.iconst 3, 1) := by decide +kernel
theorem dX10_addClip_147 : decode cX10_addClip 147 = .ok (.iadd, 1) := by decide +kernel
theorem dX10_addClip_148 : decode cX10_addClip 148 = .ok (.iload 4, 2) := by decide +kernel
theorem dX10_addClip_150 : decode cX10_addClip 150 = .ok (.iastore, 1) := by decide +kernel
theorem dX10_addClip_151 : decode cX10_addClip 151 = .ok (.aload_n 0, 1) := by decide +kernel
theorem dX10_addClip_152 : decode cX10_addClip 152 = .ok (.getfield 9, 3) := by decide +kernel
theorem dX10_addClip_155 : decode cX10_addClip 155 = .ok (.iload 7, 2) := by decide +kernel
theorem dX10_addClip_157 : decode cX10_addClip 157 = .ok (.iconst 4, 1) := by decide +kernel
theorem dX10_addClip_158 : decode cX10_addClip 158 = .ok (.iadd, 1) := by decide +kernel
theorem dX10_addClip_159 : decode cX10_addClip 159 = .ok (.iload 5, 2) := by decide +kernel
theorem dX10_addClip_161 : decode cX10_addClip 161 = .ok (.iastore, 1) := by decide +kernel
theorem dX10_addClip_162 : decode cX10_addClip 162 = .ok (.aload_n 0, 1) := by decide +kernel
theorem dX10_addClip_163 : decode cX10_addClip 163 = .ok (.getfield 9, 3) := by decide +kernel
theorem dX10_addClip_166 : decode cX10_addClip 166 = .ok (.sipush 392, 3) := by decide +kernel
theorem dX10_addClip_169 : decode cX10_addClip 169 = .ok (.dup2, 1) := by decide +kernel
theorem dX10_addClip_170 : decode cX10_addClip 170 = .ok (.iaload, 1) := by decide +kernel
theorem dX10_addClip_171 : decode cX10_addClip 171 = .ok (.iconst 1, 1) := by decide +kernel
theorem dX10_addClip_172 : decode cX10_addClip 172 = .ok (.iadd, 1) := by decide +kernel
theorem dX10_addClip_173 : decode cX10_addClip 173 = .ok (.iastore, 1) := by decide +kernel
theorem dX10_addClip_174 : decode cX10_addClip 174 = .ok (.aload_n 0, 1) := by decide +kernel
theorem dX10_addClip_175 : decode cX10_addClip 175 = .ok (.invokevirtual 126, 3) := by decide +kernel
theorem dX10_addClip_178 : decode cX10_addClip 178 = .ok (.ifCond .eq 13, 3) := by decide +kernel
theorem dX10_addClip_191 : decode cX10_addClip 191 = .ok (.aload_n 0, 1) := by decide +kernel
theorem dX10_addClip_192 : decode cX10_addClip 192 = .ok (.invokevirtual 95, 3) := by decide +kernel
theorem dX10_addClip_195 : decode cX10_addClip 195 = .ok (.aload_n 0, 1) := by decide +kernel
theorem dX10_addClip_196 : decode cX10_addClip 196 = .ok (.getfield 9, 3) := by decide +kernel
theorem dX10_addClip_199 : decode cX10_addClip 199 = .ok (.sipush 392, 3) := by decide +kernel
theorem dX10_addClip_202 : decode cX10_addClip 202 = .ok (.iaload, 1) := by decide +kernel
theorem dX10_addClip_203 : decode cX10_addClip 203 = .ok (.iconst 1, 1) := by decide +kernel
theorem dX10_addClip_204 : decode cX10_addClip 204 = .ok (.isub, 1) := by decide +kernel
theorem dX10_addClip_205 : decode cX10_addClip 205 = .ok (.ireturn, 1) := by decide +kernel
theorem dX10_addNote_0 : decode cX10_addNote 0 = .ok (.aload_n 0, 1) := by decide +kernel
theorem dX10_addNote_1 : decode cX10_addNote 1 = .ok (.iload_n 1, 1) := by decide +kernel
theorem dX10_addNote_2 : decode cX10_addNote 2 = .ok (.iconst 0, 1) := by decide +kernel
theorem dX10_addNote_3 : decode cX10_addNote 3 = .ok (.iload_n 2, 1) := by decide +kernel
theorem dX10_addNote_4 : decode cX10_addNote 4 = .ok (.iload_n 3, 1) := by decide +kernel
theorem dX10_addNote_5 : decode cX10_addNote 5 = .ok (.iload 4, 2) := by decide +kernel
theorem dX10_addNote_7 : decode cX10_addNote 7 = .ok (.invokevirtual 147, 3) := by decide +kernel
theorem dX10_addNote_10 : decode cX10_addNote 10 = .ok (.ireturn, 1) := by decide +kernel
theorem dX10_addRest_0 : decode cX10_addRest 0 = .ok (.aload_n 0, 1) := by decide +kernel
theorem dX10_addRest_1 : decode cX10_addRest 1 = .ok (.iload_n 1, 1) := by decide +kernel
theorem dX10_addRest_2 : decode cX10_addRest 2 = .ok (.iconst 1, 1) := by decide +kernel
theorem dX10_addRest_3 : decode cX10_addRest 3 = .ok (.iconst (-1), 1) := by decide +kernel
theorem dX10_addRest_4 : decode cX10_addRest 4 = .ok (.iload_n 2, 1) := by decide +kernel
theorem dX10_addRest_5 : decode cX10_addRest 5 = .ok (.iconst (-1), 1) := by decide +kernel
theorem dX10_addRest_6 : decode cX10_addRest 6 = .ok (.invokevirtual 147, 3) := by decide +kernel
theorem dX10_addRest_9 : decode cX10_addRest 9 = .ok (.ireturn, 1) := by decide +kernel
theorem dX10_added_0 : decode cX10_added 0 = .ok (.aload_n 0, 1) := by decide +kernel
theorem dX10_added_1 : decode cX10_added 1 = .ok (.iload_n 1, 1) := by decide +kernel
theorem dX10_added_2 : decode cX10_added 2 = .ok (.invokestatic 130, 3) := by decide +kernel
theorem dX10_added_5 : decode cX10_added 5 = .ok (.ifCond .ne 7, 3) := by decide +kernel
theorem dX10_added_8 : decode cX10_added 8 = .ok (.iconst 1, 1) := by decide +kernel
theorem dX10_added_9 : decode cX10_added 9 = .ok (.goto 21, 3) := by decide +kernel
theorem dX10_added_12 : decode cX10_added 12 = .ok (.iload_n 1, 1) := by decide +kernel
theorem dX10_added_13 : decode cX10_added 13 = .ok (.iload_n 2, 1) := by decide +kernel
theorem dX10_added_14 : decode cX10_added 14 = .ok (.iload_n 3, 1) := by decide +kernel
theorem dX10_added_15 : decode cX10_added 15 = .ok (.iload 4, 2) := by decide +kernel
theorem dX10_added_17 : decode cX10_added 17 = .ok (.iload 5, 2) := by decide +kernel
theorem dX10_added_19 : decode cX10_added 19 = .ok (.invokestatic 134, 3) := by decide +kernel
theorem dX10_added_22 : decode cX10_added 22 = .ok (.ifCond .ne 7, 3) := by decide +kernel
theorem dX10_added_25 : decode cX10_added 25 = .ok (.iconst 2, 1) := by decide +kernel
theorem dX10_added_26 : decode cX10_added 26 = .ok (.goto 4, 3) := by decide +kernel
theorem dX10_added_29 : decode cX10_added 29 = .ok (.iconst 0, 1) := by decide +kernel
theorem dX10_added_30 : decode cX10_added 30 = .ok (.putfield 86, 3) := by decide +kernel
theorem dX10_added_33 : decode cX10_added 33 = .ok (.aload_n 0, 1) := by decide +kernel
theorem dX10_added_34 : decode cX10_added 34 = .ok (.getfield 86, 3) := by decide +kernel
theorem dX10_added_37 : decode cX10_added 37 = .ok (.ifCond .le 5, 3) := by decide +kernel
theorem dX10_added_40 : decode cX10_added 40 = .ok (.iconst 0, 1) := by decide +kernel
theorem dX10_added_41 : decode cX10_added 41 = .ok (.ireturn, 1) := by decide +kernel
theorem dX10_added_42 : decode cX10_added 42 = .ok (.aload_n 0, 1) := by decide +kernel
theorem dX10_added_43 : decode cX10_added 43 = .ok (.invokevirtual 92, 3) := by decide +kernel
theorem dX10_added_46 : decode cX10_added 46 = .ok (.aload_n 0, 1) := by decide +kernel
theorem dX10_added_47 : decode cX10_added 47 = .ok (.iload_n 1, 1) := by decide +kernel
theorem dX10_added_48 : decode cX10_added 48 = .ok (.iload_n 2, 1) := by decide +kernel
theorem dX10_added_49 : decode cX10_added 49 = .ok (.iload_n 3, 1) := by decide +kernel
theorem dX10_added_50 : decode cX10_added 50 = .ok (.iload 4, 2) := by decide +kernel
theorem dX10_added_52 : decode cX10_added 52 = .ok (.iload 5, 2) := by decide +kernel
theorem dX10_added_54 : decode cX10_added 54 = .ok (.invokevirtual 138, 3) := by decide +kernel
theorem dX10_added_57 : decode cX10_added 57 = .ok (.ifCond .ne 13, 3) := by decide +kernel
theorem dX10_added_70 : decode cX10_added 70 = .ok (.aload_n 0, 1) := by decide +kernel
theorem dX10_added_71 : decode cX10_added 71 = .ok (.invokevirtual 95, 3) := by decide +kernel
theorem dX10_added_74 : decode cX10_added 74 = .ok (.aload_n 0, 1) := by decide +kernel
theorem dX10_added_75 : decode cX10_added 75 = .ok (.iload_n 1, 1) := by decide +kernel
theorem dX10_added_76 : decode cX10_added 76 = .ok (.invokevirtual 106, 3) := by decide +kernel
theorem dX10_added_79 : decode cX10_added 79 = .ok (.ireturn, 1) := by decide +kernel
theorem dX10_adds_0 : decode cX10_adds 0 = .ok (.iload_n 1, 1) := by decide +kernel
theorem dX10_adds_1 : decode cX10_adds 1 = .ok (.invokestatic 102, 3) := by decide +kernel
theorem dX10_adds_4 : decode cX10_adds 4 = .ok (.istore 6, 2) := by decide +kernel
theorem dX10_adds_6 : decode cX10_adds 6 = .ok (.aload_n 0, 1) := by decide +kernel
theorem dX10_adds_7 : decode cX10_adds 7 = .ok (.getfield 9, 3) := by decide +kernel
theorem dX10_adds_10 : decode cX10_adds 10 = .ok (.iload 6, 2) := by decide +kernel
theorem dX10_adds_12 : decode cX10_adds 12 = .ok (.iaload, 1) := by decide +kernel
theorem dX10_adds_13 : decode cX10_adds 13 = .ok (.bipush 12, 2) := by decide +kernel
theorem dX10_adds_15 : decode cX10_adds 15 = .ok (.if_icmp .ne 5, 3) := by decide +kernel
theorem dX10_adds_20 : decode cX10_adds 20 = .ok (.iload 6, 2) := by decide +kernel
theorem dX10_adds_22 : decode cX10_adds 22 = .ok (.iconst 1, 1) := by decide +kernel
theorem dX10_adds_23 : decode cX10_adds 23 = .ok (.iadd, 1) := by decide +kernel
theorem dX10_adds_24 : decode cX10_adds 24 = .ok (.iconst 4, 1) := by decide +kernel
theorem dX10_adds_25 : decode cX10_adds 25 = .ok (.aload_n 0, 1) := by decide +kernel
theorem dX10_adds_26 : decode cX10_adds 26 = .ok (.getfield 9, 3) := by decide +kernel
theorem dX10_adds_29 : decode cX10_adds 29 = .ok (.iload 6, 2) := by decide +kernel
theorem dX10_adds_31 : decode cX10_adds 31 = .ok (.iaload, 1) := by decide +kernel
theorem dX10_adds_32 : decode cX10_adds 32 = .ok (.imul, 1) := by decide +kernel
theorem dX10_adds_33 : decode cX10_adds 33 = .ok (.iadd, 1) := by decide +kernel
theorem dX10_adds_34 : decode cX10_adds 34 = .ok (.istore 7, 2) := by decide +kernel
theorem dX10_adds_36 : decode cX10_adds 36 = .ok (.aload_n 0, 1) := by decide +kernel
theorem dX10_adds_37 : decode cX10_adds 37 = .ok (.getfield 9, 3) := by decide +kernel
theorem dX10_adds_40 : decode cX10_adds 40 = .ok (.iload 7, 2) := by decide +kernel
theorem dX10_adds_42 : decode cX10_adds 42 = .ok (.iload_n 2, 1) := by decide +kernel
theorem dX10_adds_43 : decode cX10_adds 43 = .ok (.iastore, 1) := by decide +kernel
theorem dX10_adds_44 : decode cX10_adds 44 = .ok (.aload_n 0, 1) := by decide +kernel
theorem dX10_adds_45 : decode cX10_adds 45 = .ok (.getfield 9, 3) := by decide +kernel
theorem dX10_adds_48 : decode cX10_adds 48 = .ok (.iload 7, 2) := by decide +kernel
theorem dX10_adds_50 : decode cX10_adds 50 = .ok (.iconst 1, 1) := by decide +kernel
theorem dX10_adds_51 : decode cX10_adds 51 = .ok (.iadd, 1) := by decide +kernel
theorem dX10_adds_52 : decode cX10_adds 52 = .ok (.iload_n 3, 1) := by decide +kernel
theorem dX10_adds_53 : decode cX10_adds 53 = .ok (.iastore, 1) := by decide +kernel
theorem dX10_adds_54 : decode cX10_adds 54 = .ok (.aload_n 0, 1) := by decide +kernel
theorem dX10_adds_55 : decode cX10_adds 55 = .ok (.getfield 9, 3) := by decide +kernel
theorem dX10_adds_58 : decode cX10_adds 58 = .ok (.iload 7, 2) := by decide +kernel
theorem dX10_adds_60 : decode cX10_adds 60 = .ok (.iconst 2, 1) := by decide +kernel
theorem dX10_adds_61 : decode cX10_adds 61 = .ok (.iadd, 1) := by decide +kernel
theorem dX10_adds_62 : decode cX10_adds 62 = .ok (.iload 4, 2) := by decide +kernel
theorem dX10_adds_64 : decode cX10_adds 64 = .ok (.iastore, 1) := by decide +kernel
theorem dX10_adds_65 : decode cX10_adds 65 = .ok (.aload_n 0, 1) := by decide +kernel
theorem dX10_adds_66 : decode cX10_adds 66 = .ok (.getfield 9, 3) := by decide +kernel
theorem dX10_adds_69 : decode cX10_adds 69 = .ok (.iload 7, 2) := by decide +kernel
theorem dX10_adds_71 : decode cX10_adds 71 = .ok (.iconst 3, 1) := by decide +kernel
theorem dX10_adds_72 : decode cX10_adds 72 = .ok (.iadd, 1) := by decide +kernel
theorem dX10_adds_73 : decode cX10_adds 73 = .ok (.iload 5, 2) := by decide +kernel
theorem dX10_adds_75 : decode cX10_adds 75 = .ok (.iastore, 1) := by decide +kernel
theorem dX10_adds_76 : decode cX10_adds 76 = .ok (.aload_n 0, 1) := by decide +kernel
theorem dX10_adds_77 : decode cX10_adds 77 = .ok (.getfield 9, 3) := by decide +kernel
theorem dX10_adds_80 : decode cX10_adds 80 = .ok (.iload 6, 2) := by decide +kernel
theorem dX10_adds_82 : decode cX10_adds 82 = .ok (.dup2, 1) := by decide +kernel
theorem dX10_adds_83 : decode cX10_adds 83 = .ok (.iaload, 1) := by decide +kernel
theorem dX10_adds_84 : decode cX10_adds 84 = .ok (.iconst 1, 1) := by decide +kernel
theorem dX10_adds_85 : decode cX10_adds 85 = .ok (.iadd, 1) := by decide +kernel
theorem dX10_adds_86 : decode cX10_adds 86 = .ok (.iastore, 1) := by decide +kernel
theorem dX10_adds_87 : decode cX10_adds 87 = .ok (.aload_n 0, 1) := by decide +kernel
theorem dX10_adds_88 : decode cX10_adds 88 = .ok (.invokevirtual 126, 3) := by decide +kernel
theorem dX10_adds_91 : decode cX10_adds 91 = .ok (.ifCond .ne 7, 3) := by decide +kernel
theorem dX10_adds_94 : decode cX10_adds 94 = .ok (.iconst 1, 1) := by decide +kernel
theorem dX10_adds_95 : decode cX10_adds 95 = .ok (.goto 4, 3) := by decide +kernel
theorem dX10_adds_99 : decode cX10_adds 99 = .ok (.ireturn, 1) := by decide +kernel
theorem dX10_append_0 : decode cX10_append 0 = .ok (.aload_n 0, 1) := by decide +kernel
theorem dX10_append_1 : decode cX10_append 1 = .ok (.iload_n 1, 1) := by decide +kernel
theorem dX10_append_2 : decode cX10_append 2 = .ok (.bipush 32, 2) := by decide +kernel
theorem dX10_append_4 : decode cX10_append 4 = .ok (.bipush 126, 2) := by decide +kernel
theorem dX10_append_6 : decode cX10_append 6 = .ok (.invokestatic 98, 3) := by decide +kernel
theorem dX10_append_9 : decode cX10_append 9 = .ok (.ifCond .ne 7, 3) := by decide +kernel
theorem dX10_append_12 : decode cX10_append 12 = .ok (.iconst 1, 1) := by decide +kernel
theorem dX10_append_13 : decode cX10_append 13 = .ok (.goto 17, 3) := by decide +kernel
theorem dX10_append_16 : decode cX10_append 16 = .ok (.aload_n 0, 1) := by decide +kernel
theorem dX10_append_17 : decode cX10_append 17 = .ok (.getfield 248, 3) := by decide +kernel
theorem dX10_append_20 : decode cX10_append 20 = .ok (.bipush 60, 2) := by decide +kernel
theorem dX10_append_22 : decode cX10_append 22 = .ok (.if_icmp .ne 7, 3) := by decide +kernel
theorem dX10_append_29 : decode cX10_append 29 = .ok (.iconst 0, 1) := by decide +kernel
theorem dX10_append_30 : decode cX10_append 30 = .ok (.putfield 86, 3) := by decide +kernel
theorem dX10_append_33 : decode cX10_append 33 = .ok (.aload_n 0, 1) := by decide +kernel
theorem dX10_append_34 : decode cX10_append 34 = .ok (.getfield 86, 3) := by decide +kernel
theorem dX10_append_37 : decode cX10_append 37 = .ok (.ifCond .le 5, 3) := by decide +kernel
theorem dX10_append_40 : decode cX10_append 40 = .ok (.iconst 0, 1) := by decide +kernel
theorem dX10_append_41 : decode cX10_append 41 = .ok (.ireturn, 1) := by decide +kernel
theorem dX10_append_42 : decode cX10_append 42 = .ok (.aload_n 0, 1) := by decide +kernel
theorem dX10_append_43 : decode cX10_append 43 = .ok (.getfield 70, 3) := by decide +kernel
theorem dX10_append_46 : decode cX10_append 46 = .ok (.aload_n 0, 1) := by decide +kernel
theorem dX10_append_47 : decode cX10_append 47 = .ok (.getfield 248, 3) := by decide +kernel
theorem dX10_append_50 : decode cX10_append 50 = .ok (.iload_n 1, 1) := by decide +kernel
theorem dX10_append_51 : decode cX10_append 51 = .ok (.iastore, 1) := by decide +kernel
theorem dX10_append_52 : decode cX10_append 52 = .ok (.aload_n 0, 1) := by decide +kernel
theorem dX10_append_53 : decode cX10_append 53 = .ok (.dup, 1) := by decide +kernel
theorem dX10_append_54 : decode cX10_append 54 = .ok (.getfield 248, 3) := by decide +kernel
theorem dX10_append_57 : decode cX10_append 57 = .ok (.iconst 1, 1) := by decide +kernel
theorem dX10_append_58 : decode cX10_append 58 = .ok (.iadd, 1) := by decide +kernel
theorem dX10_append_59 : decode cX10_append 59 = .ok (.putfield 248, 3) := by decide +kernel
theorem dX10_append_62 : decode cX10_append 62 = .ok (.aload_n 0, 1) := by decide +kernel
theorem dX10_append_63 : decode cX10_append 63 = .ok (.getfield 248, 3) := by decide +kernel
theorem dX10_append_66 : decode cX10_append 66 = .ok (.ireturn, 1) := by decide +kernel
theorem dX10_begin_0 : decode cX10_begin 0 = .ok (.iconst 0, 1) := by decide +kernel
theorem dX10_begin_1 : decode cX10_begin 1 = .ok (.istore_n 1, 1) := by decide +kernel
theorem dX10_begin_2 : decode cX10_begin 2 = .ok (.iload_n 1, 1) := by decide +kernel
theorem dX10_begin_3 : decode cX10_begin 3 = .ok (.sipush 497, 3) := by decide +kernel
theorem dX10_begin_6 : decode cX10_begin 6 = .ok (.if_icmp .ge 16, 3) := by decide +kernel
theorem dX10_begin_9 : decode cX10_begin 9 = .ok (.aload_n 0, 1) := by decide +kernel
theorem dX10_begin_10 : decode cX10_begin 10 = .ok (.getfield 9, 3) := by decide +kernel
theorem dX10_begin_13 : decode cX10_begin 13 = .ok (.iload_n 1, 1) := by decide +kernel
theorem dX10_begin_14 : decode cX10_begin 14 = .ok (.iconst 0, 1) := by decide +kernel
theorem dX10_begin_15 : decode cX10_begin 15 = .ok (.iastore, 1) := by decide +kernel
theorem dX10_begin_16 : decode cX10_begin 16 = .ok (.iinc 1 1, 3) := by decide +kernel
theorem dX10_begin_19 : decode cX10_begin 19 = .ok (.goto (-17), 3) := by decide +kernel
theorem dX10_begin_22 : decode cX10_begin 22 = .ok (.aload_n 0, 1) := by decide +kernel
theorem dX10_begin_23 : decode cX10_begin 23 = .ok (.getfield 9, 3) := by decide +kernel
theorem dX10_begin_26 : decode cX10_begin 26 = .ok (.sipush 453, 3) := by decide +kernel
theorem dX10_begin_29 : decode cX10_begin 29 = .ok (.iconst 1, 1) := by decide +kernel
theorem dX10_begin_30 : decode cX10_begin 30 = .ok (.iastore, 1) := by decide +kernel
theorem dX10_begin_31 : decode cX10_begin 31 = .ok (.aload_n 0, 1) := by decide +kernel
theorem dX10_begin_32 : decode cX10_begin 32 = .ok (.getfield 9, 3) := by decide +kernel
theorem dX10_begin_35 : decode cX10_begin 35 = .ok (.sipush 455, 3) := by decide +kernel
theorem dX10_begin_38 : decode cX10_begin 38 = .ok (.bipush 100, 2) := by decide +kernel
theorem dX10_begin_40 : decode cX10_begin 40 = .ok (.iastore, 1) := by decide +kernel
theorem dX10_begin_41 : decode cX10_begin 41 = .ok (.iconst 0, 1) := by decide +kernel
theorem dX10_begin_42 : decode cX10_begin 42 = .ok (.istore_n 1, 1) := by decide +kernel
theorem dX10_begin_43 : decode cX10_begin 43 = .ok (.iload_n 1, 1) := by decide +kernel
theorem dX10_begin_44 : decode cX10_begin 44 = .ok (.iconst 4, 1) := by decide +kernel
theorem dX10_begin_45 : decode cX10_begin 45 = .ok (.if_icmp .ge 40, 3) := by decide +kernel
theorem dX10_begin_48 : decode cX10_begin 48 = .ok (.aload_n 0, 1) := by decide +kernel
theorem dX10_begin_49 : decode cX10_begin 49 = .ok (.getfield 9, 3) := by decide +kernel
theorem dX10_begin_52 : decode cX10_begin 52 = .ok (.sipush 474, 3) := by decide +kernel
theorem dX10_begin_55 : decode cX10_begin 55 = .ok (.iconst 5, 1) := by decide +kernel
theorem dX10_begin_56 : decode cX10_begin 56 = .ok (.iload_n 1, 1) := by decide +kernel
theorem dX10_begin_57 : decode cX10_begin 57 = .ok (.imul, 1) := by decide +kernel
theorem dX10_begin_58 : decode cX10_begin 58 = .ok (.iadd, 1) := by decide +kernel
theorem dX10_begin_59 : decode cX10_begin 59 = .ok (.iconst 2, 1) := by decide +kernel
theorem dX10_begin_60 : decode cX10_begin 60 = .ok (.iadd, 1) := by decide +kernel
theorem dX10_begin_61 : decode cX10_begin 61 = .ok (.bipush 100, 2) := by decide +kernel
theorem dX10_begin_63 : decode cX10_begin 63 = .ok (.iastore, 1) := by decide +kernel
theorem dX10_begin_64 : decode cX10_begin 64 = .ok (.aload_n 0, 1) := by decide +kernel
theorem dX10_begin_65 : decode cX10_begin 65 = .ok (.getfield 9, 3) := by decide +kernel
theorem dX10_begin_68 : decode cX10_begin 68 = .ok (.sipush 474, 3) := by decide +kernel
theorem dX10_begin_71 : decode cX10_begin 71 = .ok (.iconst 5, 1) := by decide +kernel
theorem dX10_begin_72 : decode cX10_begin 72 = .ok (.iload_n 1, 1) := by decide +kernel
theorem dX10_begin_73 : decode cX10_begin 73 = .ok (.imul, 1) := by decide +kernel
theorem dX10_begin_74 : decode cX10_begin 74 = .ok (.iadd, 1) := by decide +kernel
theorem dX10_begin_75 : decode cX10_begin 75 = .ok (.iconst 4, 1) := by decide +kernel
theorem dX10_begin_76 : decode cX10_begin 76 = .ok (.iadd, 1) := by decide +kernel
theorem dX10_begin_77 : decode cX10_begin 77 = .ok (.iconst 5, 1) := by decide +kernel
theorem dX10_begin_78 : decode cX10_begin 78 = .ok (.iastore, 1) := by decide +kernel
theorem dX10_begin_79 : decode cX10_begin 79 = .ok (.iinc 1 1, 3) := by decide +kernel
theorem dX10_begin_82 : decode cX10_begin 82 = .ok (.goto (-39), 3) := by decide +kernel
theorem dX10_begin_85 : decode cX10_begin 85 = .ok (.aload_n 0, 1) := by decide +kernel
theorem dX10_begin_86 : decode cX10_begin 86 = .ok (.getfield 9, 3) := by decide +kernel
theorem dX10_begin_89 : decode cX10_begin 89 = .ok (.sipush 495, 3) := by decide +kernel
theorem dX10_begin_92 : decode cX10_begin 92 = .ok (.iconst 4, 1) := by decide +kernel
theorem dX10_begin_93 : decode cX10_begin 93 = .ok (.iastore, 1) := by decide +kernel
theorem dX10_begin_94 : decode cX10_begin 94 = .ok (.return_, 1) := by decide +kernel
theorem dX10_busy_0 : decode cX10_busy 0 = .ok (.aload_n 0, 1) := by decide +kernel
theorem dX10_busy_1 : decode cX10_busy 1 = .ok (.aload_n 0, 1) := by decide +kernel
theorem dX10_busy_2 : decode cX10_busy 2 = .ok (.iload_n 1, 1) := by decide +kernel
theorem dX10_busy_3 : decode cX10_busy 3 = .ok (.invokevirtual 233, 3) := by decide +kernel
theorem dX10_busy_6 : decode cX10_busy 6 = .ok (.ifCond .eq 7, 3) := by decide +kernel
theorem dX10_busy_9 : decode cX10_busy 9 = .ok (.iconst 0, 1) := by decide +kernel
theorem dX10_busy_10 : decode cX10_busy 10 = .ok (.goto 4, 3) := by decide +kernel
theorem dX10_busy_13 : decode cX10_busy 13 = .ok (.iconst 1, 1) := by decide +kernel
theorem dX10_busy_14 : decode cX10_busy 14 = .ok (.putfield 86, 3) := by decide +kernel
theorem dX10_busy_17 : decode cX10_busy 17 = .ok (.aload_n 0, 1) := by decide +kernel
theorem dX10_busy_18 : decode cX10_busy 18 = .ok (.invokevirtual 217, 3) := by decide +kernel
theorem dX10_busy_21 : decode cX10_busy 21 = .ok (.iconst 0, 1) := by decide +kernel
theorem dX10_busy_22 : decode cX10_busy 22 = .ok (.istore_n 2, 1) := by decide +kernel
theorem dX10_busy_23 : decode cX10_busy 23 = .ok (.iconst 0, 1) := by decide +kernel
theorem dX10_busy_24 : decode cX10_busy 24 = .ok (.istore_n 3, 1) := by decide +kernel
theorem dX10_busy_25 : decode cX10_busy 25 = .ok (.iload_n 3, 1) := by decide +kernel
theorem dX10_busy_26 : decode cX10_busy 26 = .ok (.aload_n 0, 1) := by decide +kernel
theorem dX10_busy_27 : decode cX10_busy 27 = .ok (.getfield 176, 3) := by decide +kernel
theorem dX10_busy_30 : decode cX10_busy 30 = .ok (.if_icmp .ge 46, 3) := by decide +kernel
theorem dX10_busy_76 : decode cX10_busy 76 = .ok (.iload_n 2, 1) := by decide +kernel
theorem dX10_busy_77 : decode cX10_busy 77 = .ok (.ireturn, 1) := by decide +kernel
theorem dX10_clear_0 : decode cX10_clear 0 = .ok (.aload_n 0, 1) := by decide +kernel
theorem dX10_clear_1 : decode cX10_clear 1 = .ok (.iconst 0, 1) := by decide +kernel
theorem dX10_clear_2 : decode cX10_clear 2 = .ok (.putfield 86, 3) := by decide +kernel
theorem dX10_clear_5 : decode cX10_clear 5 = .ok (.aload_n 0, 1) := by decide +kernel
theorem dX10_clear_6 : decode cX10_clear 6 = .ok (.getfield 9, 3) := by decide +kernel
theorem dX10_clear_9 : decode cX10_clear 9 = .ok (.sipush 392, 3) := by decide +kernel
theorem dX10_clear_12 : decode cX10_clear 12 = .ok (.iaload, 1) := by decide +kernel
theorem dX10_clear_13 : decode cX10_clear 13 = .ok (.istore_n 1, 1) := by decide +kernel
theorem dX10_clear_14 : decode cX10_clear 14 = .ok (.aload_n 0, 1) := by decide +kernel
theorem dX10_clear_15 : decode cX10_clear 15 = .ok (.invokevirtual 83, 3) := by decide +kernel
theorem dX10_clear_18 : decode cX10_clear 18 = .ok (.aload_n 0, 1) := by decide +kernel
theorem dX10_clear_19 : decode cX10_clear 19 = .ok (.iconst 0, 1) := by decide +kernel
theorem dX10_clear_20 : decode cX10_clear 20 = .ok (.putfield 89, 3) := by decide +kernel
theorem dX10_clear_23 : decode cX10_clear 23 = .ok (.iload_n 1, 1) := by decide +kernel
theorem dX10_clear_24 : decode cX10_clear 24 = .ok (.ireturn, 1) := by decide +kernel
theorem dX10_clip_0 : decode cX10_clip 0 = .ok (.aload_n 0, 1) := by decide +kernel
theorem dX10_clip_1 : decode cX10_clip 1 = .ok (.aload_n 0, 1) := by decide +kernel
theorem dX10_clip_2 : decode cX10_clip 2 = .ok (.iload_n 1, 1) := by decide +kernel
theorem dX10_clip_3 : decode cX10_clip 3 = .ok (.invokevirtual 173, 3) := by decide +kernel
theorem dX10_clip_6 : decode cX10_clip 6 = .ok (.ifCond .ne 7, 3) := by decide +kernel
theorem dX10_clip_9 : decode cX10_clip 9 = .ok (.iconst 1, 1) := by decide +kernel
theorem dX10_clip_10 : decode cX10_clip 10 = .ok (.goto 18, 3) := by decide +kernel
theorem dX10_clip_28 : decode cX10_clip 28 = .ok (.putfield 86, 3) := by decide +kernel
theorem dX10_clip_31 : decode cX10_clip 31 = .ok (.aload_n 0, 1) := by decide +kernel
theorem dX10_clip_32 : decode cX10_clip 32 = .ok (.getfield 86, 3) := by decide +kernel
theorem dX10_clip_35 : decode cX10_clip 35 = .ok (.ifCond .le 5, 3) := by decide +kernel
theorem dX10_clip_38 : decode cX10_clip 38 = .ok (.iconst 0, 1) := by decide +kernel
theorem dX10_clip_39 : decode cX10_clip 39 = .ok (.ireturn, 1) := by decide +kernel
theorem dX10_count_0 : decode cX10_count 0 = .ok (.aload_n 0, 1) := by decide +kernel
theorem dX10_count_1 : decode cX10_count 1 = .ok (.iconst 0, 1) := by decide +kernel
theorem dX10_count_2 : decode cX10_count 2 = .ok (.putfield 86, 3) := by decide +kernel
theorem dX10_count_5 : decode cX10_count 5 = .ok (.iload_n 1, 1) := by decide +kernel
theorem dX10_count_6 : decode cX10_count 6 = .ok (.iconst 0, 1) := by decide +kernel
theorem dX10_count_7 : decode cX10_count 7 = .ok (.bipush 8, 2) := by decide +kernel
theorem dX10_count_9 : decode cX10_count 9 = .ok (.invokestatic 98, 3) := by decide +kernel
theorem dX10_count_12 : decode cX10_count 12 = .ok (.ifCond .ne 9, 3) := by decide +kernel
theorem dX10_count_15 : decode cX10_count 15 = .ok (.aload_n 0, 1) := by decide +kernel
theorem dX10_count_16 : decode cX10_count 16 = .ok (.iconst 1, 1) := by decide +kernel
theorem dX10_count_17 : decode cX10_count 17 = .ok (.invokevirtual 144, 3) := by decide +kernel
theorem dX10_count_20 : decode cX10_count 20 = .ok (.ireturn, 1) := by decide +kernel
theorem dX10_count_21 : decode cX10_count 21 = .ok (.aload_n 0, 1) := by decide +kernel
theorem dX10_count_22 : decode cX10_count 22 = .ok (.invokevirtual 217, 3) := by decide +kernel
theorem dX10_count_25 : decode cX10_count 25 = .ok (.iconst 0, 1) := by decide +kernel
theorem dX10_count_26 : decode cX10_count 26 = .ok (.istore_n 2, 1) := by decide +kernel
theorem dX10_count_27 : decode cX10_count 27 = .ok (.iconst 0, 1) := by decide +kernel
theorem dX10_count_28 : decode cX10_count 28 = .ok (.istore_n 3, 1) := by decide +kernel
theorem dX10_count_29 : decode cX10_count 29 = .ok (.iconst 0, 1) := by decide +kernel
theorem dX10_count_30 : decode cX10_count 30 = .ok (.istore 4, 2) := by decide +kernel
theorem dX10_count_32 : decode cX10_count 32 = .ok (.iconst 0, 1) := by decide +kernel
theorem dX10_count_33 : decode cX10_count 33 = .ok (.istore 5, 2) := by decide +kernel
theorem dX10_count_35 : decode cX10_count 35 = .ok (.iload 5, 2) := by decide +kernel
theorem dX10_count_37 : decode cX10_count 37 = .ok (.aload_n 0, 1) := by decide +kernel
theorem dX10_count_38 : decode cX10_count 38 = .ok (.getfield 176, 3) := by decide +kernel
theorem dX10_count_41 : decode cX10_count 41 = .ok (.if_icmp .ge 59, 3) := by decide +kernel
theorem dX10_count_100 : decode cX10_count 100 = .ok (.iload_n 1, 1) := by decide +kernel
theorem dX10_count_101 : decode cX10_count 101 = .ok (.tableswitch 101 0 7 #[47, 56, 61, 63, 65, 74, 83, 92], 47) := by decide +kernel
theorem dX10_count_148 : decode cX10_count 148 = .ok (.aload_n 0, 1) := by decide +kernel
theorem dX10_count_149 : decode cX10_count 149 = .ok (.getfield 9, 3) := by decide +kernel
theorem dX10_count_152 : decode cX10_count 152 = .ok (.sipush 392, 3) := by decide +kernel
theorem dX10_count_155 : decode cX10_count 155 = .ok (.iaload, 1) := by decide +kernel
theorem dX10_count_156 : decode cX10_count 156 = .ok (.ireturn, 1) := by decide +kernel
theorem dX10_count_157 : decode cX10_count 157 = .ok (.aload_n 0, 1) := by decide +kernel
theorem dX10_count_158 : decode cX10_count 158 = .ok (.getfield 176, 3) := by decide +kernel
theorem dX10_count_161 : decode cX10_count 161 = .ok (.ireturn, 1) := by decide +kernel
theorem dX10_count_162 : decode cX10_count 162 = .ok (.iload_n 2, 1) := by decide +kernel
theorem dX10_count_163 : decode cX10_count 163 = .ok (.ireturn, 1) := by decide +kernel
theorem dX10_count_164 : decode cX10_count 164 = .ok (.iload_n 3, 1) := by decide +kernel
theorem dX10_count_165 : decode cX10_count 165 = .ok (.ireturn, 1) := by decide +kernel
theorem dX10_count_166 : decode cX10_count 166 = .ok (.aload_n 0, 1) := by decide +kernel
theorem dX10_count_167 : decode cX10_count 167 = .ok (.getfield 9, 3) := by decide +kernel
theorem dX10_count_170 : decode cX10_count 170 = .ok (.sipush 495, 3) := by decide +kernel
theorem dX10_count_173 : decode cX10_count 173 = .ok (.iaload, 1) := by decide +kernel
theorem dX10_count_174 : decode cX10_count 174 = .ok (.ireturn, 1) := by decide +kernel
theorem dX10_count_175 : decode cX10_count 175 = .ok (.aload_n 0, 1) := by decide +kernel
theorem dX10_count_176 : decode cX10_count 176 = .ok (.getfield 9, 3) := by decide +kernel
theorem dX10_count_179 : decode cX10_count 179 = .ok (.sipush 453, 3) := by decide +kernel
theorem dX10_count_182 : decode cX10_count 182 = .ok (.iaload, 1) := by decide +kernel
theorem dX10_count_183 : decode cX10_count 183 = .ok (.ireturn, 1) := by decide +kernel
theorem dX10_count_184 : decode cX10_count 184 = .ok (.aload_n 0, 1) := by decide +kernel
theorem dX10_count_185 : decode cX10_count 185 = .ok (.getfield 9, 3) := by decide +kernel
theorem dX10_count_188 : decode cX10_count 188 = .ok (.sipush 494, 3) := by decide +kernel
theorem dX10_count_191 : decode cX10_count 191 = .ok (.iaload, 1) := by decide +kernel
theorem dX10_count_192 : decode cX10_count 192 = .ok (.ireturn, 1) := by decide +kernel
theorem dX10_count_193 : decode cX10_count 193 = .ok (.aload_n 0, 1) := by decide +kernel
theorem dX10_count_194 : decode cX10_count 194 = .ok (.getfield 9, 3) := by decide +kernel
theorem dX10_count_197 : decode cX10_count 197 = .ok (.sipush 496, 3) := by decide +kernel
theorem dX10_count_200 : decode cX10_count 200 = .ok (.iaload, 1) := by decide +kernel
theorem dX10_count_201 : decode cX10_count 201 = .ok (.ireturn, 1) := by decide +kernel
theorem dX10_count_202 : decode cX10_count 202 = .ok (.iload 4, 2) := by decide +kernel
theorem dX10_count_204 : decode cX10_count 204 = .ok (.ireturn, 1) := by decide +kernel
theorem dX10_cutBy_0 : decode cX10_cutBy 0 = .ok (.aload_n 0, 1) := by decide +kernel
theorem dX10_cutBy_1 : decode cX10_cutBy 1 = .ok (.aload_n 0, 1) := by decide +kernel
theorem dX10_cutBy_2 : decode cX10_cutBy 2 = .ok (.iload_n 1, 1) := by decide +kernel
theorem dX10_cutBy_3 : decode cX10_cutBy 3 = .ok (.invokevirtual 220, 3) := by decide +kernel
theorem dX10_cutBy_6 : decode cX10_cutBy 6 = .ok (.ifCond .ne 7, 3) := by decide +kernel
theorem dX10_cutBy_9 : decode cX10_cutBy 9 = .ok (.iconst 1, 1) := by decide +kernel
theorem dX10_cutBy_10 : decode cX10_cutBy 10 = .ok (.goto 17, 3) := by decide +kernel
theorem dX10_cutBy_27 : decode cX10_cutBy 27 = .ok (.putfield 86, 3) := by decide +kernel
theorem dX10_cutBy_30 : decode cX10_cutBy 30 = .ok (.aload_n 0, 1) := by decide +kernel
theorem dX10_cutBy_31 : decode cX10_cutBy 31 = .ok (.getfield 86, 3) := by decide +kernel
theorem dX10_cutBy_34 : decode cX10_cutBy 34 = .ok (.ifCond .le 7, 3) := by decide +kernel
theorem dX10_cutBy_37 : decode cX10_cutBy 37 = .ok (.iconst 0, 1) := by decide +kernel
theorem dX10_cutBy_38 : decode cX10_cutBy 38 = .ok (.goto 9, 3) := by decide +kernel
theorem dX10_cutBy_47 : decode cX10_cutBy 47 = .ok (.ireturn, 1) := by decide +kernel
theorem dX10_describe_0 : decode cX10_describe 0 = .ok (.aload_n 0, 1) := by decide +kernel
theorem dX10_describe_1 : decode cX10_describe 1 = .ok (.iload_n 1, 1) := by decide +kernel
theorem dX10_describe_2 : decode cX10_describe 2 = .ok (.invokestatic 130, 3) := by decide +kernel
theorem dX10_describe_5 : decode cX10_describe 5 = .ok (.ifCond .eq 7, 3) := by decide +kernel
theorem dX10_describe_8 : decode cX10_describe 8 = .ok (.iconst 0, 1) := by decide +kernel
theorem dX10_describe_9 : decode cX10_describe 9 = .ok (.goto 4, 3) := by decide +kernel
theorem dX10_describe_12 : decode cX10_describe 12 = .ok (.iconst 1, 1) := by decide +kernel
theorem dX10_describe_13 : decode cX10_describe 13 = .ok (.putfield 86, 3) := by decide +kernel
theorem dX10_describe_16 : decode cX10_describe 16 = .ok (.aload_n 0, 1) := by decide +kernel
theorem dX10_describe_17 : decode cX10_describe 17 = .ok (.getfield 86, 3) := by decide +kernel
theorem dX10_describe_20 : decode cX10_describe 20 = .ok (.ifCond .le 5, 3) := by decide +kernel
theorem dX10_describe_23 : decode cX10_describe 23 = .ok (.iconst 0, 1) := by decide +kernel
theorem dX10_describe_24 : decode cX10_describe 24 = .ok (.ireturn, 1) := by decide +kernel
theorem dX10_describe_25 : decode cX10_describe 25 = .ok (.aload_n 0, 1) := by decide +kernel
theorem dX10_describe_26 : decode cX10_describe 26 = .ok (.iconst 0, 1) := by decide +kernel
theorem dX10_describe_27 : decode cX10_describe 27 = .ok (.putfield 277, 3) := by decide +kernel
theorem dX10_describe_30 : decode cX10_describe 30 = .ok (.iconst 0, 1) := by decide +kernel
theorem dX10_describe_31 : decode cX10_describe 31 = .ok (.istore_n 3, 1) := by decide +kernel
theorem dX10_describe_32 : decode cX10_describe 32 = .ok (.iload_n 3, 1) := by decide +kernel
theorem dX10_describe_33 : decode cX10_describe 33 = .ok (.aload_n 0, 1) := by decide +kernel
theorem dX10_describe_34 : decode cX10_describe 34 = .ok (.iload_n 1, 1) := by decide +kernel
theorem dX10_describe_35 : decode cX10_describe 35 = .ok (.invokevirtual 106, 3) := by decide +kernel
theorem dX10_describe_38 : decode cX10_describe 38 = .ok (.if_icmp .ge 25, 3) := by decide +kernel
theorem dX10_describe_63 : decode cX10_describe 63 = .ok (.iload_n 2, 1) := by decide +kernel
theorem dX10_describe_64 : decode cX10_describe 64 = .ok (.iconst (-1), 1) := by decide +kernel
theorem dX10_describe_65 : decode cX10_describe 65 = .ok (.if_icmp .ne 10, 3) := by decide +kernel
theorem dX10_describe_68 : decode cX10_describe 68 = .ok (.aload_n 0, 1) := by decide +kernel
theorem dX10_describe_69 : decode cX10_describe 69 = .ok (.getfield 277, 3) := by decide +kernel
theorem dX10_describe_72 : decode cX10_describe 72 = .ok (.goto 31, 3) := by decide +kernel
theorem dX10_describe_75 : decode cX10_describe 75 = .ok (.iload_n 2, 1) := by decide +kernel
theorem dX10_describe_76 : decode cX10_describe 76 = .ok (.iconst 0, 1) := by decide +kernel
theorem dX10_describe_77 : decode cX10_describe 77 = .ok (.aload_n 0, 1) := by decide +kernel
theorem dX10_describe_78 : decode cX10_describe 78 = .ok (.getfield 277, 3) := by decide +kernel
theorem dX10_describe_81 : decode cX10_describe 81 = .ok (.iconst 1, 1) := by decide +kernel
theorem dX10_describe_82 : decode cX10_describe 82 = .ok (.isub, 1) := by decide +kernel
theorem dX10_describe_83 : decode cX10_describe 83 = .ok (.invokestatic 98, 3) := by decide +kernel
theorem dX10_describe_86 : decode cX10_describe 86 = .ok (.ifCond .eq 12, 3) := by decide +kernel
theorem dX10_describe_98 : decode cX10_describe 98 = .ok (.aload_n 0, 1) := by decide +kernel
theorem dX10_describe_99 : decode cX10_describe 99 = .ok (.iconst 2, 1) := by decide +kernel
theorem dX10_describe_100 : decode cX10_describe 100 = .ok (.invokevirtual 144, 3) := by decide +kernel
theorem dX10_describe_103 : decode cX10_describe 103 = .ok (.ireturn, 1) := by decide +kernel
theorem dX10_errorPosition_0 : decode cX10_errorPosition 0 = .ok (.aload_n 0, 1) := by decide +kernel
theorem dX10_errorPosition_1 : decode cX10_errorPosition 1 = .ok (.aload_n 0, 1) := by decide +kernel
theorem dX10_errorPosition_2 : decode cX10_errorPosition 2 = .ok (.getfield 73, 3) := by decide +kernel
theorem dX10_errorPosition_5 : decode cX10_errorPosition 5 = .ok (.ifCond .ge 7, 3) := by decide +kernel
theorem dX10_errorPosition_8 : decode cX10_errorPosition 8 = .ok (.iconst 1, 1) := by decide +kernel
theorem dX10_errorPosition_9 : decode cX10_errorPosition 9 = .ok (.goto 4, 3) := by decide +kernel
theorem dX10_errorPosition_13 : decode cX10_errorPosition 13 = .ok (.putfield 86, 3) := by decide +kernel
theorem dX10_errorPosition_16 : decode cX10_errorPosition 16 = .ok (.aload_n 0, 1) := by decide +kernel
theorem dX10_errorPosition_17 : decode cX10_errorPosition 17 = .ok (.getfield 86, 3) := by decide +kernel
theorem dX10_errorPosition_20 : decode cX10_errorPosition 20 = .ok (.ifCond .le 7, 3) := by decide +kernel
theorem dX10_errorPosition_23 : decode cX10_errorPosition 23 = .ok (.iconst 0, 1) := by decide +kernel
theorem dX10_errorPosition_24 : decode cX10_errorPosition 24 = .ok (.goto 7, 3) := by decide +kernel
theorem dX10_errorPosition_31 : decode cX10_errorPosition 31 = .ok (.ireturn, 1) := by decide +kernel
theorem dX10_event_0 : decode cX10_event 0 = .ok (.aload_n 0, 1) := by decide +kernel
theorem dX10_event_1 : decode cX10_event 1 = .ok (.invokevirtual 245, 3) := by decide +kernel
theorem dX10_event_4 : decode cX10_event 4 = .ok (.aload_n 0, 1) := by decide +kernel
theorem dX10_event_5 : decode cX10_event 5 = .ok (.iload_n 1, 1) := by decide +kernel
theorem dX10_event_6 : decode cX10_event 6 = .ok (.iconst 0, 1) := by decide +kernel
theorem dX10_event_7 : decode cX10_event 7 = .ok (.aload_n 0, 1) := by decide +kernel
theorem dX10_event_8 : decode cX10_event 8 = .ok (.getfield 239, 3) := by decide +kernel
theorem dX10_event_11 : decode cX10_event 11 = .ok (.iconst 1, 1) := by decide +kernel
theorem dX10_event_12 : decode cX10_event 12 = .ok (.isub, 1) := by decide +kernel
theorem dX10_event_13 : decode cX10_event 13 = .ok (.invokestatic 98, 3) := by decide +kernel
theorem dX10_event_16 : decode cX10_event 16 = .ok (.ifCond .ne 7, 3) := by decide +kernel
theorem dX10_event_19 : decode cX10_event 19 = .ok (.iconst 1, 1) := by decide +kernel
theorem dX10_event_20 : decode cX10_event 20 = .ok (.goto 17, 3) := by decide +kernel
theorem dX10_event_37 : decode cX10_event 37 = .ok (.putfield 86, 3) := by decide +kernel
theorem dX10_event_40 : decode cX10_event 40 = .ok (.aload_n 0, 1) := by decide +kernel
theorem dX10_event_41 : decode cX10_event 41 = .ok (.getfield 86, 3) := by decide +kernel
theorem dX10_event_44 : decode cX10_event 44 = .ok (.ifCond .le 5, 3) := by decide +kernel
theorem dX10_event_47 : decode cX10_event 47 = .ok (.iconst 0, 1) := by decide +kernel
theorem dX10_event_48 : decode cX10_event 48 = .ok (.ireturn, 1) := by decide +kernel
theorem dX10_eventCount_0 : decode cX10_eventCount 0 = .ok (.aload_n 0, 1) := by decide +kernel
theorem dX10_eventCount_1 : decode cX10_eventCount 1 = .ok (.iconst 0, 1) := by decide +kernel
theorem dX10_eventCount_2 : decode cX10_eventCount 2 = .ok (.putfield 86, 3) := by decide +kernel
theorem dX10_eventCount_5 : decode cX10_eventCount 5 = .ok (.aload_n 0, 1) := by decide +kernel
theorem dX10_eventCount_6 : decode cX10_eventCount 6 = .ok (.invokevirtual 245, 3) := by decide +kernel
theorem dX10_eventCount_9 : decode cX10_eventCount 9 = .ok (.aload_n 0, 1) := by decide +kernel
theorem dX10_eventCount_10 : decode cX10_eventCount 10 = .ok (.getfield 239, 3) := by decide +kernel
theorem dX10_eventCount_13 : decode cX10_eventCount 13 = .ok (.ireturn, 1) := by decide +kernel
theorem dX10_eventFrom_0 : decode cX10_eventFrom 0 = .ok (.aload_n 0, 1) := by decide +kernel
theorem dX10_eventFrom_1 : decode cX10_eventFrom 1 = .ok (.iload_n 1, 1) := by decide +kernel
theorem dX10_eventFrom_2 : decode cX10_eventFrom 2 = .ok (.iconst 0, 1) := by decide +kernel
theorem dX10_eventFrom_3 : decode cX10_eventFrom 3 = .ok (.ldc 226, 2) := by decide +kernel
theorem dX10_eventFrom_5 : decode cX10_eventFrom 5 = .ok (.invokestatic 98, 3) := by decide +kernel
theorem dX10_eventFrom_8 : decode cX10_eventFrom 8 = .ok (.ifCond .eq 7, 3) := by decide +kernel
theorem dX10_eventFrom_11 : decode cX10_eventFrom 11 = .ok (.iconst 0, 1) := by decide +kernel
theorem dX10_eventFrom_12 : decode cX10_eventFrom 12 = .ok (.goto 4, 3) := by decide +kernel
theorem dX10_eventFrom_15 : decode cX10_eventFrom 15 = .ok (.iconst 1, 1) := by decide +kernel
theorem dX10_eventFrom_16 : decode cX10_eventFrom 16 = .ok (.putfield 86, 3) := by decide +kernel
theorem dX10_eventFrom_19 : decode cX10_eventFrom 19 = .ok (.aload_n 0, 1) := by decide +kernel
theorem dX10_eventFrom_20 : decode cX10_eventFrom 20 = .ok (.getfield 86, 3) := by decide +kernel
theorem dX10_eventFrom_23 : decode cX10_eventFrom 23 = .ok (.ifCond .le 5, 3) := by decide +kernel
theorem dX10_eventFrom_26 : decode cX10_eventFrom 26 = .ok (.iconst 0, 1) := by decide +kernel
theorem dX10_eventFrom_27 : decode cX10_eventFrom 27 = .ok (.ireturn, 1) := by decide +kernel
theorem dX10_eventFrom_28 : decode cX10_eventFrom 28 = .ok (.aload_n 0, 1) := by decide +kernel
theorem dX10_eventFrom_29 : decode cX10_eventFrom 29 = .ok (.invokevirtual 245, 3) := by decide +kernel
theorem dX10_eventFrom_32 : decode cX10_eventFrom 32 = .ok (.iconst 0, 1) := by decide +kernel
theorem dX10_eventFrom_33 : decode cX10_eventFrom 33 = .ok (.istore_n 2, 1) := by decide +kernel
theorem dX10_eventFrom_34 : decode cX10_eventFrom 34 = .ok (.iload_n 2, 1) := by decide +kernel
theorem dX10_eventFrom_35 : decode cX10_eventFrom 35 = .ok (.aload_n 0, 1) := by decide +kernel
theorem dX10_eventFrom_36 : decode cX10_eventFrom 36 = .ok (.getfield 239, 3) := by decide +kernel
theorem dX10_eventFrom_39 : decode cX10_eventFrom 39 = .ok (.if_icmp .ge 25, 3) := by decide +kernel
theorem dX10_eventFrom_64 : decode cX10_eventFrom 64 = .ok (.aload_n 0, 1) := by decide +kernel
theorem dX10_eventFrom_65 : decode cX10_eventFrom 65 = .ok (.iconst 2, 1) := by decide +kernel
theorem dX10_eventFrom_66 : decode cX10_eventFrom 66 = .ok (.invokevirtual 144, 3) := by decide +kernel
theorem dX10_eventFrom_69 : decode cX10_eventFrom 69 = .ok (.ireturn, 1) := by decide +kernel
theorem dX10_giveVoices_0 : decode cX10_giveVoices 0 = .ok (.iconst 0, 1) := by decide +kernel
theorem dX10_giveVoices_1 : decode cX10_giveVoices 1 = .ok (.istore_n 1, 1) := by decide +kernel
theorem dX10_giveVoices_2 : decode cX10_giveVoices 2 = .ok (.iload_n 1, 1) := by decide +kernel
theorem dX10_giveVoices_3 : decode cX10_giveVoices 3 = .ok (.bipush 8, 2) := by decide +kernel
theorem dX10_giveVoices_5 : decode cX10_giveVoices 5 = .ok (.if_icmp .ge 16, 3) := by decide +kernel
theorem dX10_giveVoices_8 : decode cX10_giveVoices 8 = .ok (.aload_n 0, 1) := by decide +kernel
theorem dX10_giveVoices_9 : decode cX10_giveVoices 9 = .ok (.getfield 64, 3) := by decide +kernel
theorem dX10_giveVoices_12 : decode cX10_giveVoices 12 = .ok (.iload_n 1, 1) := by decide +kernel
theorem dX10_giveVoices_13 : decode cX10_giveVoices 13 = .ok (.iconst (-1), 1) := by decide +kernel
theorem dX10_giveVoices_14 : decode cX10_giveVoices 14 = .ok (.iastore, 1) := by decide +kernel
theorem dX10_giveVoices_15 : decode cX10_giveVoices 15 = .ok (.iinc 1 1, 3) := by decide +kernel
theorem dX10_giveVoices_18 : decode cX10_giveVoices 18 = .ok (.goto (-16), 3) := by decide +kernel
theorem dX10_giveVoices_21 : decode cX10_giveVoices 21 = .ok (.iconst 0, 1) := by decide +kernel
theorem dX10_giveVoices_22 : decode cX10_giveVoices 22 = .ok (.istore_n 1, 1) := by decide +kernel
theorem dX10_giveVoices_23 : decode cX10_giveVoices 23 = .ok (.iload_n 1, 1) := by decide +kernel
theorem dX10_giveVoices_24 : decode cX10_giveVoices 24 = .ok (.aload_n 0, 1) := by decide +kernel
theorem dX10_giveVoices_25 : decode cX10_giveVoices 25 = .ok (.getfield 176, 3) := by decide +kernel
theorem dX10_giveVoices_28 : decode cX10_giveVoices 28 = .ok (.if_icmp .ge 31, 3) := by decide +kernel
theorem dX10_giveVoices_59 : decode cX10_giveVoices 59 = .ok (.iconst 0, 1) := by decide +kernel
theorem dX10_giveVoices_60 : decode cX10_giveVoices 60 = .ok (.istore_n 1, 1) := by decide +kernel
theorem dX10_giveVoices_61 : decode cX10_giveVoices 61 = .ok (.iload_n 1, 1) := by decide +kernel
theorem dX10_giveVoices_62 : decode cX10_giveVoices 62 = .ok (.aload_n 0, 1) := by decide +kernel
theorem dX10_giveVoices_63 : decode cX10_giveVoices 63 = .ok (.getfield 176, 3) := by decide +kernel
theorem dX10_giveVoices_66 : decode cX10_giveVoices 66 = .ok (.if_icmp .ge 25, 3) := by decide +kernel
theorem dX10_giveVoices_91 : decode cX10_giveVoices 91 = .ok (.return_, 1) := by decide +kernel
theorem dX10_here_0 : decode cX10_here 0 = .ok (.aload_n 0, 1) := by decide +kernel
theorem dX10_here_1 : decode cX10_here 1 = .ok (.getfield 251, 3) := by decide +kernel
theorem dX10_here_4 : decode cX10_here 4 = .ok (.aload_n 0, 1) := by decide +kernel
theorem dX10_here_5 : decode cX10_here 5 = .ok (.getfield 248, 3) := by decide +kernel
theorem dX10_here_8 : decode cX10_here 8 = .ok (.if_icmp .ge 15, 3) := by decide +kernel
theorem dX10_here_23 : decode cX10_here 23 = .ok (.iconst (-1), 1) := by decide +kernel
theorem dX10_here_24 : decode cX10_here 24 = .ok (.ireturn, 1) := by decide +kernel
theorem dX10_in_0 : decode cX10_in 0 = .ok (.iload_n 0, 1) := by decide +kernel
theorem dX10_in_1 : decode cX10_in 1 = .ok (.iload_n 1, 1) := by decide +kernel
theorem dX10_in_2 : decode cX10_in 2 = .ok (.if_icmp .lt 12, 3) := by decide +kernel
theorem dX10_in_5 : decode cX10_in 5 = .ok (.iload_n 0, 1) := by decide +kernel
theorem dX10_in_6 : decode cX10_in 6 = .ok (.iload_n 2, 1) := by decide +kernel
theorem dX10_in_7 : decode cX10_in 7 = .ok (.if_icmp .gt 7, 3) := by decide +kernel
theorem dX10_in_10 : decode cX10_in 10 = .ok (.iconst 1, 1) := by decide +kernel
theorem dX10_in_11 : decode cX10_in 11 = .ok (.goto 4, 3) := by decide +kernel
theorem dX10_in_14 : decode cX10_in 14 = .ok (.iconst 0, 1) := by decide +kernel
theorem dX10_in_15 : decode cX10_in 15 = .ok (.ireturn, 1) := by decide +kernel
theorem dX10_init_0 : decode cX10_init 0 = .ok (.aload_n 0, 1) := by decide +kernel
theorem dX10_init_1 : decode cX10_init 1 = .ok (.invokespecial 1, 3) := by decide +kernel
theorem dX10_init_4 : decode cX10_init 4 = .ok (.aload_n 0, 1) := by decide +kernel
theorem dX10_init_5 : decode cX10_init 5 = .ok (.sipush 497, 3) := by decide +kernel
theorem dX10_init_8 : decode cX10_init 8 = .ok (.newarray .int, 2) := by decide +kernel
theorem dX10_init_10 : decode cX10_init 10 = .ok (.putfield 9, 3) := by decide +kernel
theorem dX10_init_13 : decode cX10_init 13 = .ok (.aload_n 0, 1) := by decide +kernel
theorem dX10_init_14 : decode cX10_init 14 = .ok (.sipush 497, 3) := by decide +kernel
theorem dX10_init_17 : decode cX10_init 17 = .ok (.newarray .int, 2) := by decide +kernel
theorem dX10_init_19 : decode cX10_init 19 = .ok (.putfield 13, 3) := by decide +kernel
theorem dX10_init_22 : decode cX10_init 22 = .ok (.aload_n 0, 1) := by decide +kernel
theorem dX10_init_23 : decode cX10_init 23 = .ok (.sipush 497, 3) := by decide +kernel
theorem dX10_init_26 : decode cX10_init 26 = .ok (.newarray .int, 2) := by decide +kernel
theorem dX10_init_28 : decode cX10_init 28 = .ok (.putfield 16, 3) := by decide +kernel
theorem dX10_init_31 : decode cX10_init 31 = .ok (.aload_n 0, 1) := by decide +kernel
theorem dX10_init_32 : decode cX10_init 32 = .ok (.sipush 3976, 3) := by decide +kernel
theorem dX10_init_35 : decode cX10_init 35 = .ok (.newarray .int, 2) := by decide +kernel
theorem dX10_init_37 : decode cX10_init 37 = .ok (.putfield 19, 3) := by decide +kernel
theorem dX10_init_40 : decode cX10_init 40 = .ok (.aload_n 0, 1) := by decide +kernel
theorem dX10_init_41 : decode cX10_init 41 = .ok (.bipush 8, 2) := by decide +kernel
theorem dX10_init_43 : decode cX10_init 43 = .ok (.newarray .int, 2) := by decide +kernel
theorem dX10_init_45 : decode cX10_init 45 = .ok (.putfield 22, 3) := by decide +kernel
theorem dX10_init_48 : decode cX10_init 48 = .ok (.aload_n 0, 1) := by decide +kernel
theorem dX10_init_49 : decode cX10_init 49 = .ok (.bipush 8, 2) := by decide +kernel
theorem dX10_init_51 : decode cX10_init 51 = .ok (.newarray .int, 2) := by decide +kernel
theorem dX10_init_53 : decode cX10_init 53 = .ok (.putfield 25, 3) := by decide +kernel
theorem dX10_init_56 : decode cX10_init 56 = .ok (.aload_n 0, 1) := by decide +kernel
theorem dX10_init_57 : decode cX10_init 57 = .ok (.bipush 8, 2) := by decide +kernel
theorem dX10_init_59 : decode cX10_init 59 = .ok (.newarray .int, 2) := by decide +kernel
theorem dX10_init_61 : decode cX10_init 61 = .ok (.putfield 28, 3) := by decide +kernel
theorem dX10_init_64 : decode cX10_init 64 = .ok (.aload_n 0, 1) := by decide +kernel
theorem dX10_init_65 : decode cX10_init 65 = .ok (.bipush 8, 2) := by decide +kernel
theorem dX10_init_67 : decode cX10_init 67 = .ok (.newarray .int, 2) := by decide +kernel
theorem dX10_init_69 : decode cX10_init 69 = .ok (.putfield 31, 3) := by decide +kernel
theorem dX10_init_72 : decode cX10_init 72 = .ok (.aload_n 0, 1) := by decide +kernel
theorem dX10_init_73 : decode cX10_init 73 = .ok (.sipush 300, 3) := by decide +kernel
theorem dX10_init_76 : decode cX10_init 76 = .ok (.newarray .int, 2) := by decide +kernel
theorem dX10_init_78 : decode cX10_init 78 = .ok (.putfield 34, 3) := by decide +kernel
theorem dX10_init_81 : decode cX10_init 81 = .ok (.aload_n 0, 1) := by decide +kernel
theorem dX10_init_82 : decode cX10_init 82 = .ok (.sipush 300, 3) := by decide +kernel
theorem dX10_init_85 : decode cX10_init 85 = .ok (.newarray .int, 2) := by decide +kernel
theorem dX10_init_87 : decode cX10_init 87 = .ok (.putfield 37, 3) := by decide +kernel
theorem dX10_init_90 : decode cX10_init 90 = .ok (.aload_n 0, 1) := by decide +kernel
theorem dX10_init_91 : decode cX10_init 91 = .ok (.sipush 300, 3) := by decide +kernel
theorem dX10_init_94 : decode cX10_init 94 = .ok (.newarray .int, 2) := by decide +kernel
theorem dX10_init_96 : decode cX10_init 96 = .ok (.putfield 40, 3) := by decide +kernel
theorem dX10_init_99 : decode cX10_init 99 = .ok (.aload_n 0, 1) := by decide +kernel
theorem dX10_init_100 : decode cX10_init 100 = .ok (.sipush 300, 3) := by decide +kernel
theorem dX10_init_103 : decode cX10_init 103 = .ok (.newarray .int, 2) := by decide +kernel
theorem dX10_init_105 : decode cX10_init 105 = .ok (.putfield 43, 3) := by decide +kernel
theorem dX10_init_108 : decode cX10_init 108 = .ok (.aload_n 0, 1) := by decide +kernel
theorem dX10_init_109 : decode cX10_init 109 = .ok (.sipush 300, 3) := by decide +kernel
theorem dX10_init_112 : decode cX10_init 112 = .ok (.newarray .int, 2) := by decide +kernel
theorem dX10_init_114 : decode cX10_init 114 = .ok (.putfield 46, 3) := by decide +kernel
theorem dX10_init_117 : decode cX10_init 117 = .ok (.aload_n 0, 1) := by decide +kernel
theorem dX10_init_118 : decode cX10_init 118 = .ok (.sipush 300, 3) := by decide +kernel
theorem dX10_init_121 : decode cX10_init 121 = .ok (.newarray .int, 2) := by decide +kernel
theorem dX10_init_123 : decode cX10_init 123 = .ok (.putfield 49, 3) := by decide +kernel
theorem dX10_init_126 : decode cX10_init 126 = .ok (.aload_n 0, 1) := by decide +kernel
theorem dX10_init_127 : decode cX10_init 127 = .ok (.sipush 300, 3) := by decide +kernel
theorem dX10_init_130 : decode cX10_init 130 = .ok (.newarray .int, 2) := by decide +kernel
theorem dX10_init_132 : decode cX10_init 132 = .ok (.putfield 52, 3) := by decide +kernel
theorem dX10_init_135 : decode cX10_init 135 = .ok (.aload_n 0, 1) := by decide +kernel
theorem dX10_init_136 : decode cX10_init 136 = .ok (.sipush 300, 3) := by decide +kernel
theorem dX10_init_139 : decode cX10_init 139 = .ok (.newarray .int, 2) := by decide +kernel
theorem dX10_init_141 : decode cX10_init 141 = .ok (.putfield 55, 3) := by decide +kernel
theorem dX10_init_144 : decode cX10_init 144 = .ok (.aload_n 0, 1) := by decide +kernel
theorem dX10_init_145 : decode cX10_init 145 = .ok (.sipush 300, 3) := by decide +kernel
theorem dX10_init_148 : decode cX10_init 148 = .ok (.newarray .int, 2) := by decide +kernel
theorem dX10_init_150 : decode cX10_init 150 = .ok (.putfield 58, 3) := by decide +kernel
theorem dX10_init_153 : decode cX10_init 153 = .ok (.aload_n 0, 1) := by decide +kernel
theorem dX10_init_154 : decode cX10_init 154 = .ok (.sipush 300, 3) := by decide +kernel
theorem dX10_init_157 : decode cX10_init 157 = .ok (.newarray .int, 2) := by decide +kernel
theorem dX10_init_159 : decode cX10_init 159 = .ok (.putfield 61, 3) := by decide +kernel
theorem dX10_init_162 : decode cX10_init 162 = .ok (.aload_n 0, 1) := by decide +kernel
theorem dX10_init_163 : decode cX10_init 163 = .ok (.bipush 8, 2) := by decide +kernel
theorem dX10_init_165 : decode cX10_init 165 = .ok (.newarray .int, 2) := by decide +kernel
theorem dX10_init_167 : decode cX10_init 167 = .ok (.putfield 64, 3) := by decide +kernel
theorem dX10_init_170 : decode cX10_init 170 = .ok (.aload_n 0, 1) := by decide +kernel
theorem dX10_init_171 : decode cX10_init 171 = .ok (.sipush 600, 3) := by decide +kernel
theorem dX10_init_174 : decode cX10_init 174 = .ok (.newarray .int, 2) := by decide +kernel
theorem dX10_init_176 : decode cX10_init 176 = .ok (.putfield 67, 3) := by decide +kernel
theorem dX10_init_179 : decode cX10_init 179 = .ok (.aload_n 0, 1) := by decide +kernel
theorem dX10_init_180 : decode cX10_init 180 = .ok (.bipush 60, 2) := by decide +kernel
theorem dX10_init_182 : decode cX10_init 182 = .ok (.newarray .int, 2) := by decide +kernel
theorem dX10_init_184 : decode cX10_init 184 = .ok (.putfield 70, 3) := by decide +kernel
theorem dX10_init_187 : decode cX10_init 187 = .ok (.aload_n 0, 1) := by decide +kernel
theorem dX10_init_188 : decode cX10_init 188 = .ok (.iconst (-1), 1) := by decide +kernel
theorem dX10_init_189 : decode cX10_init 189 = .ok (.putfield 73, 3) := by decide +kernel
theorem dX10_init_192 : decode cX10_init 192 = .ok (.aload_n 0, 1) := by decide +kernel
theorem dX10_init_193 : decode cX10_init 193 = .ok (.sipush 240, 3) := by decide +kernel
theorem dX10_init_196 : decode cX10_init 196 = .ok (.newarray .int, 2) := by decide +kernel
theorem dX10_init_198 : decode cX10_init 198 = .ok (.putfield 77, 3) := by decide +kernel
theorem dX10_init_201 : decode cX10_init 201 = .ok (.aload_n 0, 1) := by decide +kernel
theorem dX10_init_202 : decode cX10_init 202 = .ok (.bipush 120, 2) := by decide +kernel
theorem dX10_init_204 : decode cX10_init 204 = .ok (.newarray .int, 2) := by decide +kernel
theorem dX10_init_206 : decode cX10_init 206 = .ok (.putfield 80, 3) := by decide +kernel
theorem dX10_init_209 : decode cX10_init 209 = .ok (.aload_n 0, 1) := by decide +kernel
theorem dX10_init_210 : decode cX10_init 210 = .ok (.invokevirtual 83, 3) := by decide +kernel
theorem dX10_init_213 : decode cX10_init 213 = .ok (.return_, 1) := by decide +kernel
theorem dX10_instrument_0 : decode cX10_instrument 0 = .ok (.aload_n 0, 1) := by decide +kernel
theorem dX10_instrument_1 : decode cX10_instrument 1 = .ok (.iload_n 1, 1) := by decide +kernel
theorem dX10_instrument_2 : decode cX10_instrument 2 = .ok (.invokestatic 227, 3) := by decide +kernel
theorem dX10_instrument_5 : decode cX10_instrument 5 = .ok (.ifCond .ne 7, 3) := by decide +kernel
theorem dX10_instrument_8 : decode cX10_instrument 8 = .ok (.iconst 1, 1) := by decide +kernel
theorem dX10_instrument_9 : decode cX10_instrument 9 = .ok (.goto 17, 3) := by decide +kernel
theorem dX10_instrument_12 : decode cX10_instrument 12 = .ok (.iload_n 2, 1) := by decide +kernel
theorem dX10_instrument_13 : decode cX10_instrument 13 = .ok (.iconst 0, 1) := by decide +kernel
theorem dX10_instrument_14 : decode cX10_instrument 14 = .ok (.iconst 5, 1) := by decide +kernel
theorem dX10_instrument_15 : decode cX10_instrument 15 = .ok (.invokestatic 98, 3) := by decide +kernel
theorem dX10_instrument_18 : decode cX10_instrument 18 = .ok (.ifCond .ne 7, 3) := by decide +kernel
theorem dX10_instrument_21 : decode cX10_instrument 21 = .ok (.iconst 2, 1) := by decide +kernel
theorem dX10_instrument_22 : decode cX10_instrument 22 = .ok (.goto 4, 3) := by decide +kernel
theorem dX10_instrument_25 : decode cX10_instrument 25 = .ok (.iconst 0, 1) := by decide +kernel
theorem dX10_instrument_26 : decode cX10_instrument 26 = .ok (.putfield 86, 3) := by decide +kernel
theorem dX10_instrument_29 : decode cX10_instrument 29 = .ok (.aload_n 0, 1) := by decide +kernel
theorem dX10_instrument_30 : decode cX10_instrument 30 = .ok (.getfield 86, 3) := by decide +kernel
theorem dX10_instrument_33 : decode cX10_instrument 33 = .ok (.ifCond .le 5, 3) := by decide +kernel
theorem dX10_instrument_36 : decode cX10_instrument 36 = .ok (.iconst 0, 1) := by decide +kernel
theorem dX10_instrument_37 : decode cX10_instrument 37 = .ok (.ireturn, 1) := by decide +kernel
theorem dX10_instrument_38 : decode cX10_instrument 38 = .ok (.iconst 0, 1) := by decide +kernel
theorem dX10_instrument_39 : decode cX10_instrument 39 = .ok (.istore_n 3, 1) := by decide +kernel
theorem dX10_instrument_40 : decode cX10_instrument 40 = .ok (.iconst 0, 1) := by decide +kernel
theorem dX10_instrument_41 : decode cX10_instrument 41 = .ok (.istore 4, 2) := by decide +kernel
theorem dX10_instrument_43 : decode cX10_instrument 43 = .ok (.iload 4, 2) := by decide +kernel
theorem dX10_instrument_45 : decode cX10_instrument 45 = .ok (.aload_n 0, 1) := by decide +kernel
theorem dX10_instrument_46 : decode cX10_instrument 46 = .ok (.getfield 9, 3) := by decide +kernel
theorem dX10_instrument_49 : decode cX10_instrument 49 = .ok (.sipush 392, 3) := by decide +kernel
theorem dX10_instrument_52 : decode cX10_instrument 52 = .ok (.iaload, 1) := by decide +kernel
theorem dX10_instrument_53 : decode cX10_instrument 53 = .ok (.if_icmp .ge 28, 3) := by decide +kernel
theorem dX10_instrument_81 : decode cX10_instrument 81 = .ok (.iload_n 2, 1) := by decide +kernel
theorem dX10_instrument_82 : decode cX10_instrument 82 = .ok (.iconst 5, 1) := by decide +kernel
theorem dX10_instrument_83 : decode cX10_instrument 83 = .ok (.if_icmp .ne 7, 3) := by decide +kernel
theorem dX10_instrument_86 : decode cX10_instrument 86 = .ok (.iload_n 3, 1) := by decide +kernel
theorem dX10_instrument_87 : decode cX10_instrument 87 = .ok (.goto 17, 3) := by decide +kernel
theorem dX10_instrument_90 : decode cX10_instrument 90 = .ok (.aload_n 0, 1) := by decide +kernel
theorem dX10_instrument_91 : decode cX10_instrument 91 = .ok (.getfield 9, 3) := by decide +kernel
theorem dX10_instrument_94 : decode cX10_instrument 94 = .ok (.sipush 474, 3) := by decide +kernel
theorem dX10_instrument_97 : decode cX10_instrument 97 = .ok (.iconst 5, 1) := by decide +kernel
theorem dX10_instrument_98 : decode cX10_instrument 98 = .ok (.iload_n 1, 1) := by decide +kernel
theorem dX10_instrument_99 : decode cX10_instrument 99 = .ok (.imul, 1) := by decide +kernel
theorem dX10_instrument_100 : decode cX10_instrument 100 = .ok (.iadd, 1) := by decide +kernel
theorem dX10_instrument_101 : decode cX10_instrument 101 = .ok (.iload_n 2, 1) := by decide +kernel
theorem dX10_instrument_102 : decode cX10_instrument 102 = .ok (.iadd, 1) := by decide +kernel
theorem dX10_instrument_103 : decode cX10_instrument 103 = .ok (.iaload, 1) := by decide +kernel
theorem dX10_instrument_104 : decode cX10_instrument 104 = .ok (.ireturn, 1) := by decide +kernel
theorem dX10_isClip_0 : decode cX10_isClip 0 = .ok (.iload_n 1, 1) := by decide +kernel
theorem dX10_isClip_1 : decode cX10_isClip 1 = .ok (.iconst 0, 1) := by decide +kernel
theorem dX10_isClip_2 : decode cX10_isClip 2 = .ok (.aload_n 0, 1) := by decide +kernel
theorem dX10_isClip_3 : decode cX10_isClip 3 = .ok (.getfield 9, 3) := by decide +kernel
theorem dX10_isClip_6 : decode cX10_isClip 6 = .ok (.sipush 392, 3) := by decide +kernel
theorem dX10_isClip_9 : decode cX10_isClip 9 = .ok (.iaload, 1) := by decide +kernel
theorem dX10_isClip_10 : decode cX10_isClip 10 = .ok (.iconst 1, 1) := by decide +kernel
theorem dX10_isClip_11 : decode cX10_isClip 11 = .ok (.isub, 1) := by decide +kernel
theorem dX10_isClip_12 : decode cX10_isClip 12 = .ok (.invokestatic 98, 3) := by decide +kernel
theorem dX10_isClip_15 : decode cX10_isClip 15 = .ok (.ireturn, 1) := by decide +kernel
theorem dX10_isCut_0 : decode cX10_isCut 0 = .ok (.aload_n 0, 1) := by decide +kernel
theorem dX10_isCut_1 : decode cX10_isCut 1 = .ok (.aload_n 0, 1) := by decide +kernel
theorem dX10_isCut_2 : decode cX10_isCut 2 = .ok (.iload_n 1, 1) := by decide +kernel
theorem dX10_isCut_3 : decode cX10_isCut 3 = .ok (.invokevirtual 220, 3) := by decide +kernel
theorem dX10_isCut_6 : decode cX10_isCut 6 = .ok (.ifCond .eq 7, 3) := by decide +kernel
theorem dX10_isCut_13 : decode cX10_isCut 13 = .ok (.iconst 1, 1) := by decide +kernel
theorem dX10_isCut_14 : decode cX10_isCut 14 = .ok (.putfield 86, 3) := by decide +kernel
theorem dX10_isCut_17 : decode cX10_isCut 17 = .ok (.aload_n 0, 1) := by decide +kernel
theorem dX10_isCut_18 : decode cX10_isCut 18 = .ok (.getfield 86, 3) := by decide +kernel
theorem dX10_isCut_21 : decode cX10_isCut 21 = .ok (.ifCond .ne 16, 3) := by decide +kernel
theorem dX10_isCut_37 : decode cX10_isCut 37 = .ok (.iconst 0, 1) := by decide +kernel
theorem dX10_isCut_38 : decode cX10_isCut 38 = .ok (.ireturn, 1) := by decide +kernel
theorem dX10_isInstrument_0 : decode cX10_isInstrument 0 = .ok (.iload_n 0, 1) := by decide +kernel
theorem dX10_isInstrument_1 : decode cX10_isInstrument 1 = .ok (.iconst 0, 1) := by decide +kernel
theorem dX10_isInstrument_2 : decode cX10_isInstrument 2 = .ok (.iconst 3, 1) := by decide +kernel
theorem dX10_isInstrument_3 : decode cX10_isInstrument 3 = .ok (.invokestatic 98, 3) := by decide +kernel
theorem dX10_isInstrument_6 : decode cX10_isInstrument 6 = .ok (.ireturn, 1) := by decide +kernel
theorem dX10_isNote_0 : decode cX10_isNote 0 = .ok (.aload_n 0, 1) := by decide +kernel
theorem dX10_isNote_1 : decode cX10_isNote 1 = .ok (.invokevirtual 217, 3) := by decide +kernel
theorem dX10_isNote_4 : decode cX10_isNote 4 = .ok (.iload_n 1, 1) := by decide +kernel
theorem dX10_isNote_5 : decode cX10_isNote 5 = .ok (.iconst 0, 1) := by decide +kernel
theorem dX10_isNote_6 : decode cX10_isNote 6 = .ok (.aload_n 0, 1) := by decide +kernel
theorem dX10_isNote_7 : decode cX10_isNote 7 = .ok (.getfield 176, 3) := by decide +kernel
theorem dX10_isNote_10 : decode cX10_isNote 10 = .ok (.iconst 1, 1) := by decide +kernel
theorem dX10_isNote_11 : decode cX10_isNote 11 = .ok (.isub, 1) := by decide +kernel
theorem dX10_isNote_12 : decode cX10_isNote 12 = .ok (.invokestatic 98, 3) := by decide +kernel
theorem dX10_isNote_15 : decode cX10_isNote 15 = .ok (.ireturn, 1) := by decide +kernel
theorem dX10_isPattern_0 : decode cX10_isPattern 0 = .ok (.iload_n 0, 1) := by decide +kernel
theorem dX10_isPattern_1 : decode cX10_isPattern 1 = .ok (.iconst 0, 1) := by decide +kernel
theorem dX10_isPattern_2 : decode cX10_isPattern 2 = .ok (.bipush 7, 2) := by decide +kernel
theorem dX10_isPattern_4 : decode cX10_isPattern 4 = .ok (.invokestatic 98, 3) := by decide +kernel
theorem dX10_isPattern_7 : decode cX10_isPattern 7 = .ok (.ireturn, 1) := by decide +kernel
theorem dX10_isRanged_0 : decode cX10_isRanged 0 = .ok (.iload_n 1, 1) := by decide +kernel
theorem dX10_isRanged_1 : decode cX10_isRanged 1 = .ok (.ifCond .ne 42, 3) := by decide +kernel
theorem dX10_isRanged_4 : decode cX10_isRanged 4 = .ok (.iload_n 2, 1) := by decide +kernel
theorem dX10_isRanged_5 : decode cX10_isRanged 5 = .ok (.iconst 0, 1) := by decide +kernel
theorem dX10_isRanged_6 : decode cX10_isRanged 6 = .ok (.bipush 99, 2) := by decide +kernel
theorem dX10_isRanged_8 : decode cX10_isRanged 8 = .ok (.invokestatic 98, 3) := by decide +kernel
theorem dX10_isRanged_11 : decode cX10_isRanged 11 = .ok (.ifCond .eq 28, 3) := by decide +kernel
theorem dX10_isRanged_14 : decode cX10_isRanged 14 = .ok (.iload_n 3, 1) := by decide +kernel
theorem dX10_isRanged_15 : decode cX10_isRanged 15 = .ok (.iconst 1, 1) := by decide +kernel
theorem dX10_isRanged_16 : decode cX10_isRanged 16 = .ok (.bipush 16, 2) := by decide +kernel
theorem dX10_isRanged_18 : decode cX10_isRanged 18 = .ok (.invokestatic 98, 3) := by decide +kernel
theorem dX10_isRanged_21 : decode cX10_isRanged 21 = .ok (.ifCond .eq 18, 3) := by decide +kernel
theorem dX10_isRanged_24 : decode cX10_isRanged 24 = .ok (.iload 4, 2) := by decide +kernel
theorem dX10_isRanged_26 : decode cX10_isRanged 26 = .ok (.iconst 1, 1) := by decide +kernel
theorem dX10_isRanged_27 : decode cX10_isRanged 27 = .ok (.bipush 9, 2) := by decide +kernel
theorem dX10_isRanged_29 : decode cX10_isRanged 29 = .ok (.invokestatic 98, 3) := by decide +kernel
theorem dX10_isRanged_32 : decode cX10_isRanged 32 = .ok (.ifCond .eq 7, 3) := by decide +kernel
theorem dX10_isRanged_35 : decode cX10_isRanged 35 = .ok (.iconst 1, 1) := by decide +kernel
theorem dX10_isRanged_36 : decode cX10_isRanged 36 = .ok (.goto 48, 3) := by decide +kernel
theorem dX10_isRanged_39 : decode cX10_isRanged 39 = .ok (.iconst 0, 1) := by decide +kernel
theorem dX10_isRanged_40 : decode cX10_isRanged 40 = .ok (.goto 44, 3) := by decide +kernel
theorem dX10_isRanged_43 : decode cX10_isRanged 43 = .ok (.iload_n 1, 1) := by decide +kernel
theorem dX10_isRanged_44 : decode cX10_isRanged 44 = .ok (.iconst 1, 1) := by decide +kernel
theorem dX10_isRanged_45 : decode cX10_isRanged 45 = .ok (.if_icmp .ne 13, 3) := by decide +kernel
theorem dX10_isRanged_48 : decode cX10_isRanged 48 = .ok (.iload_n 3, 1) := by decide +kernel
theorem dX10_isRanged_49 : decode cX10_isRanged 49 = .ok (.iconst 1, 1) := by decide +kernel
theorem dX10_isRanged_50 : decode cX10_isRanged 50 = .ok (.bipush 16, 2) := by decide +kernel
theorem dX10_isRanged_52 : decode cX10_isRanged 52 = .ok (.invokestatic 98, 3) := by decide +kernel
theorem dX10_isRanged_55 : decode cX10_isRanged 55 = .ok (.goto 29, 3) := by decide +kernel
theorem dX10_isRanged_58 : decode cX10_isRanged 58 = .ok (.iload_n 2, 1) := by decide +kernel
theorem dX10_isRanged_59 : decode cX10_isRanged 59 = .ok (.iconst 0, 1) := by decide +kernel
theorem dX10_isRanged_60 : decode cX10_isRanged 60 = .ok (.iload_n 0, 1) := by decide +kernel
theorem dX10_isRanged_61 : decode cX10_isRanged 61 = .ok (.iconst 1, 1) := by decide +kernel
theorem dX10_isRanged_62 : decode cX10_isRanged 62 = .ok (.isub, 1) := by decide +kernel
theorem dX10_isRanged_63 : decode cX10_isRanged 63 = .ok (.invokestatic 98, 3) := by decide +kernel
theorem dX10_isRanged_66 : decode cX10_isRanged 66 = .ok (.ifCond .eq 17, 3) := by decide +kernel
theorem dX10_isRanged_69 : decode cX10_isRanged 69 = .ok (.iload_n 3, 1) := by decide +kernel
theorem dX10_isRanged_70 : decode cX10_isRanged 70 = .ok (.iconst 1, 1) := by decide +kernel
theorem dX10_isRanged_71 : decode cX10_isRanged 71 = .ok (.bipush 9, 2) := by decide +kernel
theorem dX10_isRanged_73 : decode cX10_isRanged 73 = .ok (.invokestatic 98, 3) := by decide +kernel
theorem dX10_isRanged_76 : decode cX10_isRanged 76 = .ok (.ifCond .eq 7, 3) := by decide +kernel
theorem dX10_isRanged_79 : decode cX10_isRanged 79 = .ok (.iconst 1, 1) := by decide +kernel
theorem dX10_isRanged_80 : decode cX10_isRanged 80 = .ok (.goto 4, 3) := by decide +kernel
theorem dX10_isRanged_83 : decode cX10_isRanged 83 = .ok (.iconst 0, 1) := by decide +kernel
theorem dX10_isRanged_84 : decode cX10_isRanged 84 = .ok (.ireturn, 1) := by decide +kernel
theorem dX10_isText_0 : decode cX10_isText 0 = .ok (.aload_n 0, 1) := by decide +kernel
theorem dX10_isText_1 : decode cX10_isText 1 = .ok (.iconst 0, 1) := by decide +kernel
theorem dX10_isText_2 : decode cX10_isText 2 = .ok (.putfield 251, 3) := by decide +kernel
theorem dX10_isText_5 : decode cX10_isText 5 = .ok (.aload_n 0, 1) := by decide +kernel
theorem dX10_isText_6 : decode cX10_isText 6 = .ok (.iconst 0, 1) := by decide +kernel
theorem dX10_isText_7 : decode cX10_isText 7 = .ok (.putfield 257, 3) := by decide +kernel
theorem dX10_isText_10 : decode cX10_isText 10 = .ok (.aload_n 0, 1) := by decide +kernel
theorem dX10_isText_11 : decode cX10_isText 11 = .ok (.iconst 0, 1) := by decide +kernel
theorem dX10_isText_12 : decode cX10_isText 12 = .ok (.putfield 261, 3) := by decide +kernel
theorem dX10_isText_15 : decode cX10_isText 15 = .ok (.aload_n 0, 1) := by decide +kernel
theorem dX10_isText_16 : decode cX10_isText 16 = .ok (.invokevirtual 271, 3) := by decide +kernel
theorem dX10_isText_19 : decode cX10_isText 19 = .ok (.aload_n 0, 1) := by decide +kernel
theorem dX10_isText_20 : decode cX10_isText 20 = .ok (.getfield 257, 3) := by decide +kernel
theorem dX10_isText_23 : decode cX10_isText 23 = .ok (.ifCond .ne 34, 3) := by decide +kernel
theorem dX10_isText_57 : decode cX10_isText 57 = .ok (.aload_n 0, 1) := by decide +kernel
theorem dX10_isText_58 : decode cX10_isText 58 = .ok (.getfield 257, 3) := by decide +kernel
theorem dX10_isText_61 : decode cX10_isText 61 = .ok (.ifCond .ne 7, 3) := by decide +kernel
theorem dX10_isText_68 : decode cX10_isText 68 = .ok (.iconst 0, 1) := by decide +kernel
theorem dX10_isText_69 : decode cX10_isText 69 = .ok (.ireturn, 1) := by decide +kernel
theorem dX10_isTooGreat_0 : decode cX10_isTooGreat 0 = .ok (.aload_n 0, 1) := by decide +kernel
theorem dX10_isTooGreat_1 : decode cX10_isTooGreat 1 = .ok (.invokevirtual 120, 3) := by decide +kernel
theorem dX10_isTooGreat_4 : decode cX10_isTooGreat 4 = .ok (.iconst 0, 1) := by decide +kernel
theorem dX10_isTooGreat_5 : decode cX10_isTooGreat 5 = .ok (.istore_n 1, 1) := by decide +kernel
theorem dX10_isTooGreat_6 : decode cX10_isTooGreat 6 = .ok (.iconst 0, 1) := by decide +kernel
theorem dX10_isTooGreat_7 : decode cX10_isTooGreat 7 = .ok (.istore_n 2, 1) := by decide +kernel
theorem dX10_isTooGreat_8 : decode cX10_isTooGreat 8 = .ok (.iload_n 2, 1) := by decide +kernel
theorem dX10_isTooGreat_9 : decode cX10_isTooGreat 9 = .ok (.bipush 8, 2) := by decide +kernel
theorem dX10_isTooGreat_11 : decode cX10_isTooGreat 11 = .ok (.if_icmp .ge 29, 3) := by decide +kernel
theorem dX10_isTooGreat_14 : decode cX10_isTooGreat 14 = .ok (.iload_n 1, 1) := by decide +kernel
theorem dX10_isTooGreat_15 : decode cX10_isTooGreat 15 = .ok (.aload_n 0, 1) := by decide +kernel
theorem dX10_isTooGreat_16 : decode cX10_isTooGreat 16 = .ok (.getfield 22, 3) := by decide +kernel
theorem dX10_isTooGreat_19 : decode cX10_isTooGreat 19 = .ok (.iload_n 2, 1) := by decide +kernel
theorem dX10_isTooGreat_20 : decode cX10_isTooGreat 20 = .ok (.iaload, 1) := by decide +kernel
theorem dX10_isTooGreat_21 : decode cX10_isTooGreat 21 = .ok (.sipush 20000, 3) := by decide +kernel
theorem dX10_isTooGreat_24 : decode cX10_isTooGreat 24 = .ok (.if_icmp .le 7, 3) := by decide +kernel
theorem dX10_isTooGreat_31 : decode cX10_isTooGreat 31 = .ok (.iconst 0, 1) := by decide +kernel
theorem dX10_isTooGreat_32 : decode cX10_isTooGreat 32 = .ok (.ior, 1) := by decide +kernel
theorem dX10_isTooGreat_33 : decode cX10_isTooGreat 33 = .ok (.istore_n 1, 1) := by decide +kernel
theorem dX10_isTooGreat_34 : decode cX10_isTooGreat 34 = .ok (.iinc 2 1, 3) := by decide +kernel
theorem dX10_isTooGreat_37 : decode cX10_isTooGreat 37 = .ok (.goto (-29), 3) := by decide +kernel
theorem dX10_isTooGreat_40 : decode cX10_isTooGreat 40 = .ok (.iconst 0, 1) := by decide +kernel
theorem dX10_isTooGreat_41 : decode cX10_isTooGreat 41 = .ok (.istore_n 2, 1) := by decide +kernel
theorem dX10_isTooGreat_42 : decode cX10_isTooGreat 42 = .ok (.iconst 0, 1) := by decide +kernel
theorem dX10_isTooGreat_43 : decode cX10_isTooGreat 43 = .ok (.istore_n 3, 1) := by decide +kernel
theorem dX10_isTooGreat_44 : decode cX10_isTooGreat 44 = .ok (.iload_n 3, 1) := by decide +kernel
theorem dX10_isTooGreat_45 : decode cX10_isTooGreat 45 = .ok (.aload_n 0, 1) := by decide +kernel
theorem dX10_isTooGreat_46 : decode cX10_isTooGreat 46 = .ok (.getfield 9, 3) := by decide +kernel
theorem dX10_isTooGreat_49 : decode cX10_isTooGreat 49 = .ok (.sipush 392, 3) := by decide +kernel
theorem dX10_isTooGreat_52 : decode cX10_isTooGreat 52 = .ok (.iaload, 1) := by decide +kernel
theorem dX10_isTooGreat_53 : decode cX10_isTooGreat 53 = .ok (.if_icmp .ge 62, 3) := by decide +kernel
theorem dX10_isTooGreat_56 : decode cX10_isTooGreat 56 = .ok (.iload_n 1, 1) := by decide +kernel
theorem dX10_isTooGreat_57 : decode cX10_isTooGreat 57 = .ok (.aload_n 0, 1) := by decide +kernel
theorem dX10_isTooGreat_58 : decode cX10_isTooGreat 58 = .ok (.iload_n 3, 1) := by decide +kernel
theorem dX10_isTooGreat_59 : decode cX10_isTooGreat 59 = .ok (.iconst 2, 1) := by decide +kernel
theorem dX10_isTooGreat_60 : decode cX10_isTooGreat 60 = .ok (.invokevirtual 123, 3) := by decide +kernel
theorem dX10_isTooGreat_63 : decode cX10_isTooGreat 63 = .ok (.aload_n 0, 1) := by decide +kernel
theorem dX10_isTooGreat_64 : decode cX10_isTooGreat 64 = .ok (.getfield 22, 3) := by decide +kernel
theorem dX10_isTooGreat_67 : decode cX10_isTooGreat 67 = .ok (.aload_n 0, 1) := by decide +kernel
theorem dX10_isTooGreat_68 : decode cX10_isTooGreat 68 = .ok (.iload_n 3, 1) := by decide +kernel
theorem dX10_isTooGreat_69 : decode cX10_isTooGreat 69 = .ok (.iconst 1, 1) := by decide +kernel
theorem dX10_isTooGreat_70 : decode cX10_isTooGreat 70 = .ok (.invokevirtual 123, 3) := by decide +kernel
theorem dX10_isTooGreat_73 : decode cX10_isTooGreat 73 = .ok (.iaload, 1) := by decide +kernel
theorem dX10_isTooGreat_74 : decode cX10_isTooGreat 74 = .ok (.imul, 1) := by decide +kernel
theorem dX10_isTooGreat_75 : decode cX10_isTooGreat 75 = .ok (.sipush 20000, 3) := by decide +kernel
theorem dX10_isTooGreat_78 : decode cX10_isTooGreat 78 = .ok (.if_icmp .le 7, 3) := by decide +kernel
theorem dX10_isTooGreat_85 : decode cX10_isTooGreat 85 = .ok (.iconst 0, 1) := by decide +kernel
theorem dX10_isTooGreat_86 : decode cX10_isTooGreat 86 = .ok (.ior, 1) := by decide +kernel
theorem dX10_isTooGreat_87 : decode cX10_isTooGreat 87 = .ok (.istore_n 1, 1) := by decide +kernel
theorem dX10_isTooGreat_88 : decode cX10_isTooGreat 88 = .ok (.iload_n 2, 1) := by decide +kernel
theorem dX10_isTooGreat_89 : decode cX10_isTooGreat 89 = .ok (.aload_n 0, 1) := by decide +kernel
theorem dX10_isTooGreat_90 : decode cX10_isTooGreat 90 = .ok (.iload_n 3, 1) := by decide +kernel
theorem dX10_isTooGreat_91 : decode cX10_isTooGreat 91 = .ok (.iconst 2, 1) := by decide +kernel
theorem dX10_isTooGreat_92 : decode cX10_isTooGreat 92 = .ok (.invokevirtual 123, 3) := by decide +kernel
theorem dX10_isTooGreat_95 : decode cX10_isTooGreat 95 = .ok (.aload_n 0, 1) := by decide +kernel
theorem dX10_isTooGreat_96 : decode cX10_isTooGreat 96 = .ok (.getfield 25, 3) := by decide +kernel
theorem dX10_isTooGreat_99 : decode cX10_isTooGreat 99 = .ok (.aload_n 0, 1) := by decide +kernel
theorem dX10_isTooGreat_100 : decode cX10_isTooGreat 100 = .ok (.iload_n 3, 1) := by decide +kernel
theorem dX10_isTooGreat_101 : decode cX10_isTooGreat 101 = .ok (.iconst 1, 1) := by decide +kernel
theorem dX10_isTooGreat_102 : decode cX10_isTooGreat 102 = .ok (.invokevirtual 123, 3) := by decide +kernel
theorem dX10_isTooGreat_105 : decode cX10_isTooGreat 105 = .ok (.iaload, 1) := by decide +kernel
theorem dX10_isTooGreat_106 : decode cX10_isTooGreat 106 = .ok (.imul, 1) := by decide +kernel
theorem dX10_isTooGreat_107 : decode cX10_isTooGreat 107 = .ok (.iadd, 1) := by decide +kernel
theorem dX10_isTooGreat_108 : decode cX10_isTooGreat 108 = .ok (.istore_n 2, 1) := by decide +kernel
theorem dX10_isTooGreat_109 : decode cX10_isTooGreat 109 = .ok (.iinc 3 1, 3) := by decide +kernel
theorem dX10_isTooGreat_112 : decode cX10_isTooGreat 112 = .ok (.goto (-68), 3) := by decide +kernel
theorem dX10_isTooGreat_115 : decode cX10_isTooGreat 115 = .ok (.iload_n 1, 1) := by decide +kernel
theorem dX10_isTooGreat_116 : decode cX10_isTooGreat 116 = .ok (.ifCond .ne 10, 3) := by decide +kernel
theorem dX10_isTooGreat_119 : decode cX10_isTooGreat 119 = .ok (.iload_n 2, 1) := by decide +kernel
theorem dX10_isTooGreat_120 : decode cX10_isTooGreat 120 = .ok (.sipush 300, 3) := by decide +kernel
theorem dX10_isTooGreat_123 : decode cX10_isTooGreat 123 = .ok (.if_icmp .le 7, 3) := by decide +kernel
theorem dX10_isTooGreat_130 : decode cX10_isTooGreat 130 = .ok (.iconst 0, 1) := by decide +kernel
theorem dX10_isTooGreat_131 : decode cX10_isTooGreat 131 = .ok (.ireturn, 1) := by decide +kernel
theorem dX10_isVoice_0 : decode cX10_isVoice 0 = .ok (.iload_n 1, 1) := by decide +kernel
theorem dX10_isVoice_1 : decode cX10_isVoice 1 = .ok (.iconst 0, 1) := by decide +kernel
theorem dX10_isVoice_2 : decode cX10_isVoice 2 = .ok (.aload_n 0, 1) := by decide +kernel
theorem dX10_isVoice_3 : decode cX10_isVoice 3 = .ok (.getfield 9, 3) := by decide +kernel
theorem dX10_isVoice_6 : decode cX10_isVoice 6 = .ok (.sipush 495, 3) := by decide +kernel
theorem dX10_isVoice_9 : decode cX10_isVoice 9 = .ok (.iaload, 1) := by decide +kernel
theorem dX10_isVoice_10 : decode cX10_isVoice 10 = .ok (.iconst 1, 1) := by decide +kernel
theorem dX10_isVoice_11 : decode cX10_isVoice 11 = .ok (.isub, 1) := by decide +kernel
theorem dX10_isVoice_12 : decode cX10_isVoice 12 = .ok (.invokestatic 98, 3) := by decide +kernel
theorem dX10_isVoice_15 : decode cX10_isVoice 15 = .ok (.ireturn, 1) := by decide +kernel
theorem dX10_item_0 : decode cX10_item 0 = .ok (.iload_n 1, 1) := by decide +kernel
theorem dX10_item_1 : decode cX10_item 1 = .ok (.invokestatic 130, 3) := by decide +kernel
theorem dX10_item_4 : decode cX10_item 4 = .ok (.ifCond .eq 22, 3) := by decide +kernel
theorem dX10_item_7 : decode cX10_item 7 = .ok (.iload_n 2, 1) := by decide +kernel
theorem dX10_item_8 : decode cX10_item 8 = .ok (.iconst 0, 1) := by decide +kernel
theorem dX10_item_9 : decode cX10_item 9 = .ok (.aload_n 0, 1) := by decide +kernel
theorem dX10_item_10 : decode cX10_item 10 = .ok (.iload_n 1, 1) := by decide +kernel
theorem dX10_item_11 : decode cX10_item 11 = .ok (.invokevirtual 106, 3) := by decide +kernel
theorem dX10_item_14 : decode cX10_item 14 = .ok (.iconst 1, 1) := by decide +kernel
theorem dX10_item_15 : decode cX10_item 15 = .ok (.isub, 1) := by decide +kernel
theorem dX10_item_16 : decode cX10_item 16 = .ok (.invokestatic 98, 3) := by decide +kernel
theorem dX10_item_19 : decode cX10_item 19 = .ok (.ifCond .eq 7, 3) := by decide +kernel
theorem dX10_item_26 : decode cX10_item 26 = .ok (.iconst 0, 1) := by decide +kernel
theorem dX10_item_27 : decode cX10_item 27 = .ok (.istore 4, 2) := by decide +kernel
theorem dX10_item_29 : decode cX10_item 29 = .ok (.aload_n 0, 1) := by decide +kernel
theorem dX10_item_30 : decode cX10_item 30 = .ok (.iload 4, 2) := by decide +kernel
theorem dX10_item_32 : decode cX10_item 32 = .ok (.ifCond .ne 7, 3) := by decide +kernel
theorem dX10_item_35 : decode cX10_item 35 = .ok (.iconst 1, 1) := by decide +kernel
theorem dX10_item_36 : decode cX10_item 36 = .ok (.goto 17, 3) := by decide +kernel
theorem dX10_item_53 : decode cX10_item 53 = .ok (.putfield 86, 3) := by decide +kernel
theorem dX10_item_56 : decode cX10_item 56 = .ok (.aload_n 0, 1) := by decide +kernel
theorem dX10_item_57 : decode cX10_item 57 = .ok (.getfield 86, 3) := by decide +kernel
theorem dX10_item_60 : decode cX10_item 60 = .ok (.ifCond .le 7, 3) := by decide +kernel
theorem dX10_item_63 : decode cX10_item 63 = .ok (.iconst 0, 1) := by decide +kernel
theorem dX10_item_64 : decode cX10_item 64 = .ok (.goto 10, 3) := by decide +kernel
theorem dX10_item_74 : decode cX10_item 74 = .ok (.ireturn, 1) := by decide +kernel
theorem dX10_itemsAt_0 : decode cX10_itemsAt 0 = .ok (.iconst 0, 1) := by decide +kernel
theorem dX10_itemsAt_1 : decode cX10_itemsAt 1 = .ok (.bipush 49, 2) := by decide +kernel
theorem dX10_itemsAt_3 : decode cX10_itemsAt 3 = .ok (.iload_n 0, 1) := by decide +kernel
theorem dX10_itemsAt_4 : decode cX10_itemsAt 4 = .ok (.imul, 1) := by decide +kernel
theorem dX10_itemsAt_5 : decode cX10_itemsAt 5 = .ok (.iadd, 1) := by decide +kernel
theorem dX10_itemsAt_6 : decode cX10_itemsAt 6 = .ok (.ireturn, 1) := by decide +kernel
theorem dX10_keep_0 : decode cX10_keep 0 = .ok (.aload_n 0, 1) := by decide +kernel
theorem dX10_keep_1 : decode cX10_keep 1 = .ok (.getfield 89, 3) := by decide +kernel
theorem dX10_keep_4 : decode cX10_keep 4 = .ok (.bipush 8, 2) := by decide +kernel
theorem dX10_keep_6 : decode cX10_keep 6 = .ok (.if_icmp .ne 44, 3) := by decide +kernel
theorem dX10_keep_50 : decode cX10_keep 50 = .ok (.iconst 0, 1) := by decide +kernel
theorem dX10_keep_51 : decode cX10_keep 51 = .ok (.istore_n 1, 1) := by decide +kernel
theorem dX10_keep_52 : decode cX10_keep 52 = .ok (.iload_n 1, 1) := by decide +kernel
theorem dX10_keep_53 : decode cX10_keep 53 = .ok (.sipush 497, 3) := by decide +kernel
theorem dX10_keep_56 : decode cX10_keep 56 = .ok (.if_icmp .ge 30, 3) := by decide +kernel
theorem dX10_keep_59 : decode cX10_keep 59 = .ok (.aload_n 0, 1) := by decide +kernel
theorem dX10_keep_60 : decode cX10_keep 60 = .ok (.getfield 19, 3) := by decide +kernel
theorem dX10_keep_63 : decode cX10_keep 63 = .ok (.sipush 497, 3) := by decide +kernel
theorem dX10_keep_66 : decode cX10_keep 66 = .ok (.aload_n 0, 1) := by decide +kernel
theorem dX10_keep_67 : decode cX10_keep 67 = .ok (.getfield 89, 3) := by decide +kernel
theorem dX10_keep_70 : decode cX10_keep 70 = .ok (.imul, 1) := by decide +kernel
theorem dX10_keep_71 : decode cX10_keep 71 = .ok (.iload_n 1, 1) := by decide +kernel
theorem dX10_keep_72 : decode cX10_keep 72 = .ok (.iadd, 1) := by decide +kernel
theorem dX10_keep_73 : decode cX10_keep 73 = .ok (.aload_n 0, 1) := by decide +kernel
theorem dX10_keep_74 : decode cX10_keep 74 = .ok (.getfield 16, 3) := by decide +kernel
theorem dX10_keep_77 : decode cX10_keep 77 = .ok (.iload_n 1, 1) := by decide +kernel
theorem dX10_keep_78 : decode cX10_keep 78 = .ok (.iaload, 1) := by decide +kernel
theorem dX10_keep_79 : decode cX10_keep 79 = .ok (.iastore, 1) := by decide +kernel
theorem dX10_keep_80 : decode cX10_keep 80 = .ok (.iinc 1 1, 3) := by decide +kernel
theorem dX10_keep_83 : decode cX10_keep 83 = .ok (.goto (-31), 3) := by decide +kernel
theorem dX10_keep_86 : decode cX10_keep 86 = .ok (.aload_n 0, 1) := by decide +kernel
theorem dX10_keep_87 : decode cX10_keep 87 = .ok (.dup, 1) := by decide +kernel
theorem dX10_keep_88 : decode cX10_keep 88 = .ok (.getfield 89, 3) := by decide +kernel
theorem dX10_keep_91 : decode cX10_keep 91 = .ok (.iconst 1, 1) := by decide +kernel
theorem dX10_keep_92 : decode cX10_keep 92 = .ok (.iadd, 1) := by decide +kernel
theorem dX10_keep_93 : decode cX10_keep 93 = .ok (.putfield 89, 3) := by decide +kernel
theorem dX10_keep_96 : decode cX10_keep 96 = .ok (.return_, 1) := by decide +kernel
theorem dX10_keepNow_0 : decode cX10_keepNow 0 = .ok (.aload_n 0, 1) := by decide +kernel
theorem dX10_keepNow_1 : decode cX10_keepNow 1 = .ok (.invokevirtual 92, 3) := by decide +kernel
theorem dX10_keepNow_4 : decode cX10_keepNow 4 = .ok (.aload_n 0, 1) := by decide +kernel
theorem dX10_keepNow_5 : decode cX10_keepNow 5 = .ok (.invokevirtual 95, 3) := by decide +kernel
theorem dX10_keepNow_8 : decode cX10_keepNow 8 = .ok (.return_, 1) := by decide +kernel
theorem dX10_layCalls_0 : decode cX10_layCalls 0 = .ok (.iconst 0, 1) := by decide +kernel
theorem dX10_layCalls_1 : decode cX10_layCalls 1 = .ok (.istore_n 1, 1) := by decide +kernel
theorem dX10_layCalls_2 : decode cX10_layCalls 2 = .ok (.iload_n 1, 1) := by decide +kernel
theorem dX10_layCalls_3 : decode cX10_layCalls 3 = .ok (.bipush 8, 2) := by decide +kernel
theorem dX10_layCalls_5 : decode cX10_layCalls 5 = .ok (.if_icmp .ge 101, 3) := by decide +kernel
theorem dX10_layCalls_8 : decode cX10_layCalls 8 = .ok (.aload_n 0, 1) := by decide +kernel
theorem dX10_layCalls_9 : decode cX10_layCalls 9 = .ok (.getfield 28, 3) := by decide +kernel
theorem dX10_layCalls_12 : decode cX10_layCalls 12 = .ok (.iload_n 1, 1) := by decide +kernel
theorem dX10_layCalls_13 : decode cX10_layCalls 13 = .ok (.iconst 0, 1) := by decide +kernel
theorem dX10_layCalls_14 : decode cX10_layCalls 14 = .ok (.iastore, 1) := by decide +kernel
theorem dX10_layCalls_15 : decode cX10_layCalls 15 = .ok (.aload_n 0, 1) := by decide +kernel
theorem dX10_layCalls_16 : decode cX10_layCalls 16 = .ok (.getfield 31, 3) := by decide +kernel
theorem dX10_layCalls_19 : decode cX10_layCalls 19 = .ok (.iload_n 1, 1) := by decide +kernel
theorem dX10_layCalls_20 : decode cX10_layCalls 20 = .ok (.iconst 1, 1) := by decide +kernel
theorem dX10_layCalls_21 : decode cX10_layCalls 21 = .ok (.iastore, 1) := by decide +kernel
theorem dX10_layCalls_22 : decode cX10_layCalls 22 = .ok (.iconst 0, 1) := by decide +kernel
theorem dX10_layCalls_23 : decode cX10_layCalls 23 = .ok (.istore_n 2, 1) := by decide +kernel
theorem dX10_layCalls_24 : decode cX10_layCalls 24 = .ok (.iload_n 2, 1) := by decide +kernel
theorem dX10_layCalls_25 : decode cX10_layCalls 25 = .ok (.aload_n 0, 1) := by decide +kernel
theorem dX10_layCalls_26 : decode cX10_layCalls 26 = .ok (.iload_n 1, 1) := by decide +kernel
theorem dX10_layCalls_27 : decode cX10_layCalls 27 = .ok (.invokevirtual 106, 3) := by decide +kernel
theorem dX10_layCalls_30 : decode cX10_layCalls 30 = .ok (.if_icmp .ge 70, 3) := by decide +kernel
theorem dX10_layCalls_100 : decode cX10_layCalls 100 = .ok (.iinc 1 1, 3) := by decide +kernel
theorem dX10_layCalls_103 : decode cX10_layCalls 103 = .ok (.goto (-101), 3) := by decide +kernel
theorem dX10_layCalls_106 : decode cX10_layCalls 106 = .ok (.return_, 1) := by decide +kernel
theorem dX10_layEvents_0 : decode cX10_layEvents 0 = .ok (.aload_n 0, 1) := by decide +kernel
theorem dX10_layEvents_1 : decode cX10_layEvents 1 = .ok (.invokevirtual 217, 3) := by decide +kernel
theorem dX10_layEvents_4 : decode cX10_layEvents 4 = .ok (.aload_n 0, 1) := by decide +kernel
theorem dX10_layEvents_5 : decode cX10_layEvents 5 = .ok (.iconst 0, 1) := by decide +kernel
theorem dX10_layEvents_6 : decode cX10_layEvents 6 = .ok (.putfield 239, 3) := by decide +kernel
theorem dX10_layEvents_9 : decode cX10_layEvents 9 = .ok (.iconst 0, 1) := by decide +kernel
theorem dX10_layEvents_10 : decode cX10_layEvents 10 = .ok (.istore_n 1, 1) := by decide +kernel
theorem dX10_layEvents_11 : decode cX10_layEvents 11 = .ok (.iload_n 1, 1) := by decide +kernel
theorem dX10_layEvents_12 : decode cX10_layEvents 12 = .ok (.iconst 2, 1) := by decide +kernel
theorem dX10_layEvents_13 : decode cX10_layEvents 13 = .ok (.aload_n 0, 1) := by decide +kernel
theorem dX10_layEvents_14 : decode cX10_layEvents 14 = .ok (.getfield 176, 3) := by decide +kernel
theorem dX10_layEvents_17 : decode cX10_layEvents 17 = .ok (.imul, 1) := by decide +kernel
theorem dX10_layEvents_18 : decode cX10_layEvents 18 = .ok (.if_icmp .ge 82, 3) := by decide +kernel
theorem dX10_layEvents_100 : decode cX10_layEvents 100 = .ok (.return_, 1) := by decide +kernel
theorem dX10_layLengths_0 : decode cX10_layLengths 0 = .ok (.iconst 0, 1) := by decide +kernel
theorem dX10_layLengths_1 : decode cX10_layLengths 1 = .ok (.istore_n 1, 1) := by decide +kernel
theorem dX10_layLengths_2 : decode cX10_layLengths 2 = .ok (.iload_n 1, 1) := by decide +kernel
theorem dX10_layLengths_3 : decode cX10_layLengths 3 = .ok (.bipush 8, 2) := by decide +kernel
theorem dX10_layLengths_5 : decode cX10_layLengths 5 = .ok (.if_icmp .ge 159, 3) := by decide +kernel
theorem dX10_layLengths_8 : decode cX10_layLengths 8 = .ok (.iconst 0, 1) := by decide +kernel
theorem dX10_layLengths_9 : decode cX10_layLengths 9 = .ok (.istore_n 2, 1) := by decide +kernel
theorem dX10_layLengths_10 : decode cX10_layLengths 10 = .ok (.iconst 0, 1) := by decide +kernel
theorem dX10_layLengths_11 : decode cX10_layLengths 11 = .ok (.istore_n 3, 1) := by decide +kernel
theorem dX10_layLengths_12 : decode cX10_layLengths 12 = .ok (.iconst 0, 1) := by decide +kernel
theorem dX10_layLengths_13 : decode cX10_layLengths 13 = .ok (.istore 4, 2) := by decide +kernel
theorem dX10_layLengths_15 : decode cX10_layLengths 15 = .ok (.iload 4, 2) := by decide +kernel
theorem dX10_layLengths_17 : decode cX10_layLengths 17 = .ok (.aload_n 0, 1) := by decide +kernel
theorem dX10_layLengths_18 : decode cX10_layLengths 18 = .ok (.iload_n 1, 1) := by decide +kernel
theorem dX10_layLengths_19 : decode cX10_layLengths 19 = .ok (.invokevirtual 106, 3) := by decide +kernel
theorem dX10_layLengths_22 : decode cX10_layLengths 22 = .ok (.if_icmp .ge 112, 3) := by decide +kernel
theorem dX10_layLengths_25 : decode cX10_layLengths 25 = .ok (.aload_n 0, 1) := by decide +kernel
theorem dX10_layLengths_26 : decode cX10_layLengths 26 = .ok (.iload_n 1, 1) := by decide +kernel
theorem dX10_layLengths_27 : decode cX10_layLengths 27 = .ok (.iload 4, 2) := by decide +kernel
theorem dX10_layLengths_29 : decode cX10_layLengths 29 = .ok (.iconst 0, 1) := by decide +kernel
theorem dX10_layLengths_30 : decode cX10_layLengths 30 = .ok (.invokevirtual 109, 3) := by decide +kernel
theorem dX10_layLengths_33 : decode cX10_layLengths 33 = .ok (.iconst 2, 1) := by decide +kernel
theorem dX10_layLengths_34 : decode cX10_layLengths 34 = .ok (.if_icmp .ne 7, 3) := by decide +kernel
theorem dX10_layLengths_37 : decode cX10_layLengths 37 = .ok (.iconst 1, 1) := by decide +kernel
theorem dX10_layLengths_38 : decode cX10_layLengths 38 = .ok (.goto 4, 3) := by decide +kernel
theorem dX10_layLengths_41 : decode cX10_layLengths 41 = .ok (.iconst 0, 1) := by decide +kernel
theorem dX10_layLengths_42 : decode cX10_layLengths 42 = .ok (.istore 5, 2) := by decide +kernel
theorem dX10_layLengths_44 : decode cX10_layLengths 44 = .ok (.iload_n 2, 1) := by decide +kernel
theorem dX10_layLengths_45 : decode cX10_layLengths 45 = .ok (.iload 5, 2) := by decide +kernel
theorem dX10_layLengths_47 : decode cX10_layLengths 47 = .ok (.ifCond .eq 28, 3) := by decide +kernel
theorem dX10_layLengths_50 : decode cX10_layLengths 50 = .ok (.aload_n 0, 1) := by decide +kernel
theorem dX10_layLengths_51 : decode cX10_layLengths 51 = .ok (.iload_n 1, 1) := by decide +kernel
theorem dX10_layLengths_52 : decode cX10_layLengths 52 = .ok (.iload 4, 2) := by decide +kernel
theorem dX10_layLengths_54 : decode cX10_layLengths 54 = .ok (.iconst 2, 1) := by decide +kernel
theorem dX10_layLengths_55 : decode cX10_layLengths 55 = .ok (.invokevirtual 109, 3) := by decide +kernel
theorem dX10_layLengths_58 : decode cX10_layLengths 58 = .ok (.aload_n 0, 1) := by decide +kernel
theorem dX10_layLengths_59 : decode cX10_layLengths 59 = .ok (.getfield 22, 3) := by decide +kernel
theorem dX10_layLengths_62 : decode cX10_layLengths 62 = .ok (.aload_n 0, 1) := by decide +kernel
theorem dX10_layLengths_63 : decode cX10_layLengths 63 = .ok (.iload_n 1, 1) := by decide +kernel
theorem dX10_layLengths_64 : decode cX10_layLengths 64 = .ok (.iload 4, 2) := by decide +kernel
theorem dX10_layLengths_66 : decode cX10_layLengths 66 = .ok (.iconst 1, 1) := by decide +kernel
theorem dX10_layLengths_67 : decode cX10_layLengths 67 = .ok (.invokevirtual 109, 3) := by decide +kernel
theorem dX10_layLengths_70 : decode cX10_layLengths 70 = .ok (.iaload, 1) := by decide +kernel
theorem dX10_layLengths_71 : decode cX10_layLengths 71 = .ok (.imul, 1) := by decide +kernel
theorem dX10_layLengths_72 : decode cX10_layLengths 72 = .ok (.goto 11, 3) := by decide +kernel
theorem dX10_layLengths_75 : decode cX10_layLengths 75 = .ok (.aload_n 0, 1) := by decide +kernel
theorem dX10_layLengths_76 : decode cX10_layLengths 76 = .ok (.iload_n 1, 1) := by decide +kernel
theorem dX10_layLengths_77 : decode cX10_layLengths 77 = .ok (.iload 4, 2) := by decide +kernel
theorem dX10_layLengths_79 : decode cX10_layLengths 79 = .ok (.iconst 2, 1) := by decide +kernel
theorem dX10_layLengths_80 : decode cX10_layLengths 80 = .ok (.invokevirtual 109, 3) := by decide +kernel
theorem dX10_layLengths_83 : decode cX10_layLengths 83 = .ok (.iadd, 1) := by decide +kernel
theorem dX10_layLengths_84 : decode cX10_layLengths 84 = .ok (.istore_n 2, 1) := by decide +kernel
theorem dX10_layLengths_85 : decode cX10_layLengths 85 = .ok (.iload_n 3, 1) := by decide +kernel
theorem dX10_layLengths_86 : decode cX10_layLengths 86 = .ok (.iload 5, 2) := by decide +kernel
theorem dX10_layLengths_88 : decode cX10_layLengths 88 = .ok (.ifCond .eq 28, 3) := by decide +kernel
theorem dX10_layLengths_91 : decode cX10_layLengths 91 = .ok (.aload_n 0, 1) := by decide +kernel
theorem dX10_layLengths_92 : decode cX10_layLengths 92 = .ok (.iload_n 1, 1) := by decide +kernel
theorem dX10_layLengths_93 : decode cX10_layLengths 93 = .ok (.iload 4, 2) := by decide +kernel
theorem dX10_layLengths_95 : decode cX10_layLengths 95 = .ok (.iconst 2, 1) := by decide +kernel
theorem dX10_layLengths_96 : decode cX10_layLengths 96 = .ok (.invokevirtual 109, 3) := by decide +kernel
theorem dX10_layLengths_99 : decode cX10_layLengths 99 = .ok (.aload_n 0, 1) := by decide +kernel
theorem dX10_layLengths_100 : decode cX10_layLengths 100 = .ok (.getfield 25, 3) := by decide +kernel
theorem dX10_layLengths_103 : decode cX10_layLengths 103 = .ok (.aload_n 0, 1) := by decide +kernel
theorem dX10_layLengths_104 : decode cX10_layLengths 104 = .ok (.iload_n 1, 1) := by decide +kernel
theorem dX10_layLengths_105 : decode cX10_layLengths 105 = .ok (.iload 4, 2) := by decide +kernel
theorem dX10_layLengths_107 : decode cX10_layLengths 107 = .ok (.iconst 1, 1) := by decide +kernel
theorem dX10_layLengths_108 : decode cX10_layLengths 108 = .ok (.invokevirtual 109, 3) := by decide +kernel
theorem dX10_layLengths_111 : decode cX10_layLengths 111 = .ok (.iaload, 1) := by decide +kernel
theorem dX10_layLengths_112 : decode cX10_layLengths 112 = .ok (.imul, 1) := by decide +kernel
theorem dX10_layLengths_113 : decode cX10_layLengths 113 = .ok (.goto 13, 3) := by decide +kernel
theorem dX10_layLengths_116 : decode cX10_layLengths 116 = .ok (.iconst 1, 1) := by decide +kernel
theorem dX10_layLengths_117 : decode cX10_layLengths 117 = .ok (.aload_n 0, 1) := by decide +kernel
theorem dX10_layLengths_118 : decode cX10_layLengths 118 = .ok (.iload_n 1, 1) := by decide +kernel
theorem dX10_layLengths_119 : decode cX10_layLengths 119 = .ok (.iload 4, 2) := by decide +kernel
theorem dX10_layLengths_121 : decode cX10_layLengths 121 = .ok (.iconst 0, 1) := by decide +kernel
theorem dX10_layLengths_122 : decode cX10_layLengths 122 = .ok (.invokevirtual 109, 3) := by decide +kernel
theorem dX10_layLengths_125 : decode cX10_layLengths 125 = .ok (.isub, 1) := by decide +kernel
theorem dX10_layLengths_126 : decode cX10_layLengths 126 = .ok (.iadd, 1) := by decide +kernel
theorem dX10_layLengths_127 : decode cX10_layLengths 127 = .ok (.istore_n 3, 1) := by decide +kernel
theorem dX10_layLengths_128 : decode cX10_layLengths 128 = .ok (.iinc 4 1, 3) := by decide +kernel
theorem dX10_layLengths_131 : decode cX10_layLengths 131 = .ok (.goto (-116), 3) := by decide +kernel
theorem dX10_layLengths_134 : decode cX10_layLengths 134 = .ok (.aload_n 0, 1) := by decide +kernel
theorem dX10_layLengths_135 : decode cX10_layLengths 135 = .ok (.getfield 22, 3) := by decide +kernel
theorem dX10_layLengths_138 : decode cX10_layLengths 138 = .ok (.iload_n 1, 1) := by decide +kernel
theorem dX10_layLengths_139 : decode cX10_layLengths 139 = .ok (.iload_n 2, 1) := by decide +kernel
theorem dX10_layLengths_140 : decode cX10_layLengths 140 = .ok (.ldc 113, 2) := by decide +kernel
theorem dX10_layLengths_142 : decode cX10_layLengths 142 = .ok (.invokestatic 114, 3) := by decide +kernel
theorem dX10_layLengths_145 : decode cX10_layLengths 145 = .ok (.iastore, 1) := by decide +kernel
theorem dX10_layLengths_146 : decode cX10_layLengths 146 = .ok (.aload_n 0, 1) := by decide +kernel
theorem dX10_layLengths_147 : decode cX10_layLengths 147 = .ok (.getfield 25, 3) := by decide +kernel
theorem dX10_layLengths_150 : decode cX10_layLengths 150 = .ok (.iload_n 1, 1) := by decide +kernel
theorem dX10_layLengths_151 : decode cX10_layLengths 151 = .ok (.iload_n 3, 1) := by decide +kernel
theorem dX10_layLengths_152 : decode cX10_layLengths 152 = .ok (.ldc 113, 2) := by decide +kernel
theorem dX10_layLengths_154 : decode cX10_layLengths 154 = .ok (.invokestatic 114, 3) := by decide +kernel
theorem dX10_layLengths_157 : decode cX10_layLengths 157 = .ok (.iastore, 1) := by decide +kernel
theorem dX10_layLengths_158 : decode cX10_layLengths 158 = .ok (.iinc 1 1, 3) := by decide +kernel
theorem dX10_layLengths_161 : decode cX10_layLengths 161 = .ok (.goto (-159), 3) := by decide +kernel
theorem dX10_layLengths_164 : decode cX10_layLengths 164 = .ok (.return_, 1) := by decide +kernel
theorem dX10_layNotes_0 : decode cX10_layNotes 0 = .ok (.aload_n 0, 1) := by decide +kernel
theorem dX10_layNotes_1 : decode cX10_layNotes 1 = .ok (.invokevirtual 120, 3) := by decide +kernel
theorem dX10_layNotes_4 : decode cX10_layNotes 4 = .ok (.aload_n 0, 1) := by decide +kernel
theorem dX10_layNotes_5 : decode cX10_layNotes 5 = .ok (.iconst 0, 1) := by decide +kernel
theorem dX10_layNotes_6 : decode cX10_layNotes 6 = .ok (.putfield 176, 3) := by decide +kernel
theorem dX10_layNotes_9 : decode cX10_layNotes 9 = .ok (.iconst 0, 1) := by decide +kernel
theorem dX10_layNotes_10 : decode cX10_layNotes 10 = .ok (.istore_n 1, 1) := by decide +kernel
theorem dX10_layNotes_11 : decode cX10_layNotes 11 = .ok (.iload_n 1, 1) := by decide +kernel
theorem dX10_layNotes_12 : decode cX10_layNotes 12 = .ok (.aload_n 0, 1) := by decide +kernel
theorem dX10_layNotes_13 : decode cX10_layNotes 13 = .ok (.getfield 9, 3) := by decide +kernel
theorem dX10_layNotes_16 : decode cX10_layNotes 16 = .ok (.sipush 392, 3) := by decide +kernel
theorem dX10_layNotes_19 : decode cX10_layNotes 19 = .ok (.iaload, 1) := by decide +kernel
theorem dX10_layNotes_20 : decode cX10_layNotes 20 = .ok (.if_icmp .ge 86, 3) := by decide +kernel
theorem dX10_layNotes_106 : decode cX10_layNotes 106 = .ok (.iconst 0, 1) := by decide +kernel
theorem dX10_layNotes_107 : decode cX10_layNotes 107 = .ok (.istore_n 1, 1) := by decide +kernel
theorem dX10_layNotes_108 : decode cX10_layNotes 108 = .ok (.iload_n 1, 1) := by decide +kernel
theorem dX10_layNotes_109 : decode cX10_layNotes 109 = .ok (.aload_n 0, 1) := by decide +kernel
theorem dX10_layNotes_110 : decode cX10_layNotes 110 = .ok (.getfield 176, 3) := by decide +kernel
theorem dX10_layNotes_113 : decode cX10_layNotes 113 = .ok (.if_icmp .ge 43, 3) := by decide +kernel
theorem dX10_layNotes_156 : decode cX10_layNotes 156 = .ok (.aload_n 0, 1) := by decide +kernel
theorem dX10_layNotes_157 : decode cX10_layNotes 157 = .ok (.invokevirtual 186, 3) := by decide +kernel
theorem dX10_layNotes_160 : decode cX10_layNotes 160 = .ok (.return_, 1) := by decide +kernel
theorem dX10_level_0 : decode cX10_level 0 = .ok (.aload_n 0, 1) := by decide +kernel
theorem dX10_level_1 : decode cX10_level 1 = .ok (.aload_n 0, 1) := by decide +kernel
theorem dX10_level_2 : decode cX10_level 2 = .ok (.iload_n 1, 1) := by decide +kernel
theorem dX10_level_3 : decode cX10_level 3 = .ok (.invokevirtual 220, 3) := by decide +kernel
theorem dX10_level_6 : decode cX10_level 6 = .ok (.ifCond .ne 7, 3) := by decide +kernel
theorem dX10_level_9 : decode cX10_level 9 = .ok (.iconst 1, 1) := by decide +kernel
theorem dX10_level_10 : decode cX10_level 10 = .ok (.goto 18, 3) := by decide +kernel
theorem dX10_level_28 : decode cX10_level 28 = .ok (.putfield 86, 3) := by decide +kernel
theorem dX10_level_31 : decode cX10_level 31 = .ok (.aload_n 0, 1) := by decide +kernel
theorem dX10_level_32 : decode cX10_level 32 = .ok (.getfield 86, 3) := by decide +kernel
theorem dX10_level_35 : decode cX10_level 35 = .ok (.ifCond .le 7, 3) := by decide +kernel
theorem dX10_level_38 : decode cX10_level 38 = .ok (.iconst 0, 1) := by decide +kernel
theorem dX10_level_39 : decode cX10_level 39 = .ok (.goto 9, 3) := by decide +kernel
theorem dX10_level_48 : decode cX10_level 48 = .ok (.ireturn, 1) := by decide +kernel
theorem dX10_lostShare_0 : decode cX10_lostShare 0 = .ok (.aload_n 0, 1) := by decide +kernel
theorem dX10_lostShare_1 : decode cX10_lostShare 1 = .ok (.invokevirtual 217, 3) := by decide +kernel
theorem dX10_lostShare_4 : decode cX10_lostShare 4 = .ok (.aload_n 0, 1) := by decide +kernel
theorem dX10_lostShare_5 : decode cX10_lostShare 5 = .ok (.aload_n 0, 1) := by decide +kernel
theorem dX10_lostShare_6 : decode cX10_lostShare 6 = .ok (.getfield 176, 3) := by decide +kernel
theorem dX10_lostShare_9 : decode cX10_lostShare 9 = .ok (.ifCond .ne 7, 3) := by decide +kernel
theorem dX10_lostShare_12 : decode cX10_lostShare 12 = .ok (.iconst 1, 1) := by decide +kernel
theorem dX10_lostShare_13 : decode cX10_lostShare 13 = .ok (.goto 4, 3) := by decide +kernel
theorem dX10_lostShare_17 : decode cX10_lostShare 17 = .ok (.putfield 86, 3) := by decide +kernel
theorem dX10_lostShare_20 : decode cX10_lostShare 20 = .ok (.iconst 0, 1) := by decide +kernel
theorem dX10_lostShare_21 : decode cX10_lostShare 21 = .ok (.istore_n 1, 1) := by decide +kernel
theorem dX10_lostShare_22 : decode cX10_lostShare 22 = .ok (.iconst 0, 1) := by decide +kernel
theorem dX10_lostShare_23 : decode cX10_lostShare 23 = .ok (.istore_n 2, 1) := by decide +kernel
theorem dX10_lostShare_24 : decode cX10_lostShare 24 = .ok (.iload_n 2, 1) := by decide +kernel
theorem dX10_lostShare_25 : decode cX10_lostShare 25 = .ok (.aload_n 0, 1) := by decide +kernel
theorem dX10_lostShare_26 : decode cX10_lostShare 26 = .ok (.getfield 176, 3) := by decide +kernel
theorem dX10_lostShare_29 : decode cX10_lostShare 29 = .ok (.if_icmp .ge 35, 3) := by decide +kernel
theorem dX10_lostShare_64 : decode cX10_lostShare 64 = .ok (.aload_n 0, 1) := by decide +kernel
theorem dX10_lostShare_65 : decode cX10_lostShare 65 = .ok (.getfield 86, 3) := by decide +kernel
theorem dX10_lostShare_68 : decode cX10_lostShare 68 = .ok (.ifCond .le 7, 3) := by decide +kernel
theorem dX10_lostShare_71 : decode cX10_lostShare 71 = .ok (.dconst 0, 1) := by decide +kernel
theorem dX10_lostShare_72 : decode cX10_lostShare 72 = .ok (.goto 11, 3) := by decide +kernel
theorem dX10_lostShare_83 : decode cX10_lostShare 83 = .ok (.dreturn, 1) := by decide +kernel
theorem dX10_many_0 : decode cX10_many 0 = .ok (.aload_n 0, 1) := by decide +kernel
theorem dX10_many_1 : decode cX10_many 1 = .ok (.getfield 9, 3) := by decide +kernel
theorem dX10_many_4 : decode cX10_many 4 = .ok (.iload_n 1, 1) := by decide +kernel
theorem dX10_many_5 : decode cX10_many 5 = .ok (.invokestatic 102, 3) := by decide +kernel
theorem dX10_many_8 : decode cX10_many 8 = .ok (.iaload, 1) := by decide +kernel
theorem dX10_many_9 : decode cX10_many 9 = .ok (.ireturn, 1) := by decide +kernel
theorem dX10_mix_0 : decode cX10_mix 0 = .ok (.aload_n 0, 1) := by decide +kernel
theorem dX10_mix_1 : decode cX10_mix 1 = .ok (.iload_n 1, 1) := by decide +kernel
theorem dX10_mix_2 : decode cX10_mix 2 = .ok (.iconst 0, 1) := by decide +kernel
theorem dX10_mix_3 : decode cX10_mix 3 = .ok (.ldc 226, 2) := by decide +kernel
theorem dX10_mix_5 : decode cX10_mix 5 = .ok (.invokestatic 98, 3) := by decide +kernel
theorem dX10_mix_8 : decode cX10_mix 8 = .ok (.ifCond .eq 7, 3) := by decide +kernel
theorem dX10_mix_11 : decode cX10_mix 11 = .ok (.iconst 0, 1) := by decide +kernel
theorem dX10_mix_12 : decode cX10_mix 12 = .ok (.goto 4, 3) := by decide +kernel
theorem dX10_mix_15 : decode cX10_mix 15 = .ok (.iconst 1, 1) := by decide +kernel
theorem dX10_mix_16 : decode cX10_mix 16 = .ok (.putfield 86, 3) := by decide +kernel
theorem dX10_mix_19 : decode cX10_mix 19 = .ok (.aload_n 0, 1) := by decide +kernel
theorem dX10_mix_20 : decode cX10_mix 20 = .ok (.invokevirtual 217, 3) := by decide +kernel
theorem dX10_mix_23 : decode cX10_mix 23 = .ok (.iconst 0, 1) := by decide +kernel
theorem dX10_mix_24 : decode cX10_mix 24 = .ok (.istore_n 2, 1) := by decide +kernel
theorem dX10_mix_25 : decode cX10_mix 25 = .ok (.iconst 0, 1) := by decide +kernel
theorem dX10_mix_26 : decode cX10_mix 26 = .ok (.istore_n 3, 1) := by decide +kernel
theorem dX10_mix_27 : decode cX10_mix 27 = .ok (.iload_n 3, 1) := by decide +kernel
theorem dX10_mix_28 : decode cX10_mix 28 = .ok (.aload_n 0, 1) := by decide +kernel
theorem dX10_mix_29 : decode cX10_mix 29 = .ok (.getfield 176, 3) := by decide +kernel
theorem dX10_mix_32 : decode cX10_mix 32 = .ok (.if_icmp .ge 32, 3) := by decide +kernel
theorem dX10_mix_64 : decode cX10_mix 64 = .ok (.iload_n 2, 1) := by decide +kernel
theorem dX10_mix_65 : decode cX10_mix 65 = .ok (.ireturn, 1) := by decide +kernel
theorem dX10_moveClip_0 : decode cX10_moveClip 0 = .ok (.aload_n 0, 1) := by decide +kernel
theorem dX10_moveClip_1 : decode cX10_moveClip 1 = .ok (.aload_n 0, 1) := by decide +kernel
theorem dX10_moveClip_2 : decode cX10_moveClip 2 = .ok (.iload_n 1, 1) := by decide +kernel
theorem dX10_moveClip_3 : decode cX10_moveClip 3 = .ok (.invokevirtual 173, 3) := by decide +kernel
theorem dX10_moveClip_6 : decode cX10_moveClip 6 = .ok (.ifCond .ne 7, 3) := by decide +kernel
theorem dX10_moveClip_9 : decode cX10_moveClip 9 = .ok (.iconst 1, 1) := by decide +kernel
theorem dX10_moveClip_10 : decode cX10_moveClip 10 = .ok (.goto 19, 3) := by decide +kernel
theorem dX10_moveClip_29 : decode cX10_moveClip 29 = .ok (.putfield 86, 3) := by decide +kernel
theorem dX10_moveClip_32 : decode cX10_moveClip 32 = .ok (.aload_n 0, 1) := by decide +kernel
theorem dX10_moveClip_33 : decode cX10_moveClip 33 = .ok (.getfield 86, 3) := by decide +kernel
theorem dX10_moveClip_36 : decode cX10_moveClip 36 = .ok (.ifCond .le 5, 3) := by decide +kernel
theorem dX10_moveClip_39 : decode cX10_moveClip 39 = .ok (.iconst 0, 1) := by decide +kernel
theorem dX10_moveClip_40 : decode cX10_moveClip 40 = .ok (.ireturn, 1) := by decide +kernel
theorem dX10_note_0 : decode cX10_note 0 = .ok (.aload_n 0, 1) := by decide +kernel
theorem dX10_note_1 : decode cX10_note 1 = .ok (.aload_n 0, 1) := by decide +kernel
theorem dX10_note_2 : decode cX10_note 2 = .ok (.iload_n 1, 1) := by decide +kernel
theorem dX10_note_3 : decode cX10_note 3 = .ok (.invokevirtual 220, 3) := by decide +kernel
theorem dX10_note_6 : decode cX10_note 6 = .ok (.ifCond .ne 7, 3) := by decide +kernel
theorem dX10_note_9 : decode cX10_note 9 = .ok (.iconst 1, 1) := by decide +kernel
theorem dX10_note_10 : decode cX10_note 10 = .ok (.goto 18, 3) := by decide +kernel
theorem dX10_note_28 : decode cX10_note 28 = .ok (.putfield 86, 3) := by decide +kernel
theorem dX10_note_31 : decode cX10_note 31 = .ok (.aload_n 0, 1) := by decide +kernel
theorem dX10_note_32 : decode cX10_note 32 = .ok (.getfield 86, 3) := by decide +kernel
theorem dX10_note_35 : decode cX10_note 35 = .ok (.ifCond .le 5, 3) := by decide +kernel
theorem dX10_note_38 : decode cX10_note 38 = .ok (.iconst 0, 1) := by decide +kernel
theorem dX10_note_39 : decode cX10_note 39 = .ok (.ireturn, 1) := by decide +kernel
theorem dX10_noteOn_0 : decode cX10_noteOn 0 = .ok (.aload_n 0, 1) := by decide +kernel
theorem dX10_noteOn_1 : decode cX10_noteOn 1 = .ok (.aload_n 0, 1) := by decide +kernel
theorem dX10_noteOn_2 : decode cX10_noteOn 2 = .ok (.iload_n 1, 1) := by decide +kernel
theorem dX10_noteOn_3 : decode cX10_noteOn 3 = .ok (.invokevirtual 233, 3) := by decide +kernel
theorem dX10_noteOn_6 : decode cX10_noteOn 6 = .ok (.ifCond .ne 7, 3) := by decide +kernel
theorem dX10_noteOn_9 : decode cX10_noteOn 9 = .ok (.iconst 1, 1) := by decide +kernel
theorem dX10_noteOn_10 : decode cX10_noteOn 10 = .ok (.goto 18, 3) := by decide +kernel
theorem dX10_noteOn_13 : decode cX10_noteOn 13 = .ok (.iload_n 2, 1) := by decide +kernel
theorem dX10_noteOn_14 : decode cX10_noteOn 14 = .ok (.iconst 0, 1) := by decide +kernel
theorem dX10_noteOn_15 : decode cX10_noteOn 15 = .ok (.ldc 226, 2) := by decide +kernel
theorem dX10_noteOn_17 : decode cX10_noteOn 17 = .ok (.invokestatic 98, 3) := by decide +kernel
theorem dX10_noteOn_20 : decode cX10_noteOn 20 = .ok (.ifCond .ne 7, 3) := by decide +kernel
theorem dX10_noteOn_23 : decode cX10_noteOn 23 = .ok (.iconst 2, 1) := by decide +kernel
theorem dX10_noteOn_24 : decode cX10_noteOn 24 = .ok (.goto 4, 3) := by decide +kernel
theorem dX10_noteOn_27 : decode cX10_noteOn 27 = .ok (.iconst 0, 1) := by decide +kernel
theorem dX10_noteOn_28 : decode cX10_noteOn 28 = .ok (.putfield 86, 3) := by decide +kernel
theorem dX10_noteOn_31 : decode cX10_noteOn 31 = .ok (.aload_n 0, 1) := by decide +kernel
theorem dX10_noteOn_32 : decode cX10_noteOn 32 = .ok (.getfield 86, 3) := by decide +kernel
theorem dX10_noteOn_35 : decode cX10_noteOn 35 = .ok (.ifCond .le 5, 3) := by decide +kernel
theorem dX10_noteOn_38 : decode cX10_noteOn 38 = .ok (.iconst 0, 1) := by decide +kernel
theorem dX10_noteOn_39 : decode cX10_noteOn 39 = .ok (.ireturn, 1) := by decide +kernel
theorem dX10_noteOn_40 : decode cX10_noteOn 40 = .ok (.aload_n 0, 1) := by decide +kernel
theorem dX10_noteOn_41 : decode cX10_noteOn 41 = .ok (.invokevirtual 217, 3) := by decide +kernel
theorem dX10_noteOn_44 : decode cX10_noteOn 44 = .ok (.iconst 0, 1) := by decide +kernel
theorem dX10_noteOn_45 : decode cX10_noteOn 45 = .ok (.istore_n 3, 1) := by decide +kernel
theorem dX10_noteOn_46 : decode cX10_noteOn 46 = .ok (.iload_n 3, 1) := by decide +kernel
theorem dX10_noteOn_47 : decode cX10_noteOn 47 = .ok (.aload_n 0, 1) := by decide +kernel
theorem dX10_noteOn_48 : decode cX10_noteOn 48 = .ok (.getfield 176, 3) := by decide +kernel
theorem dX10_noteOn_51 : decode cX10_noteOn 51 = .ok (.if_icmp .ge 30, 3) := by decide +kernel
theorem dX10_noteOn_81 : decode cX10_noteOn 81 = .ok (.aload_n 0, 1) := by decide +kernel
theorem dX10_noteOn_82 : decode cX10_noteOn 82 = .ok (.iconst 3, 1) := by decide +kernel
theorem dX10_noteOn_83 : decode cX10_noteOn 83 = .ok (.invokevirtual 144, 3) := by decide +kernel
theorem dX10_noteOn_86 : decode cX10_noteOn 86 = .ok (.ireturn, 1) := by decide +kernel
theorem dX10_number_0 : decode cX10_number 0 = .ok (.aload_n 0, 1) := by decide +kernel
theorem dX10_number_1 : decode cX10_number 1 = .ok (.invokevirtual 254, 3) := by decide +kernel
theorem dX10_number_4 : decode cX10_number 4 = .ok (.bipush 48, 2) := by decide +kernel
theorem dX10_number_6 : decode cX10_number 6 = .ok (.isub, 1) := by decide +kernel
theorem dX10_number_7 : decode cX10_number 7 = .ok (.istore_n 3, 1) := by decide +kernel
theorem dX10_number_8 : decode cX10_number 8 = .ok (.aload_n 0, 1) := by decide +kernel
theorem dX10_number_9 : decode cX10_number 9 = .ok (.aload_n 0, 1) := by decide +kernel
theorem dX10_number_10 : decode cX10_number 10 = .ok (.getfield 257, 3) := by decide +kernel
theorem dX10_number_13 : decode cX10_number 13 = .ok (.ifCond .ne 17, 3) := by decide +kernel
theorem dX10_number_30 : decode cX10_number 30 = .ok (.iconst 1, 1) := by decide +kernel
theorem dX10_number_31 : decode cX10_number 31 = .ok (.goto 4, 3) := by decide +kernel
theorem dX10_number_35 : decode cX10_number 35 = .ok (.putfield 257, 3) := by decide +kernel
theorem dX10_number_38 : decode cX10_number 38 = .ok (.aload_n 0, 1) := by decide +kernel
theorem dX10_number_39 : decode cX10_number 39 = .ok (.getfield 257, 3) := by decide +kernel
theorem dX10_number_42 : decode cX10_number 42 = .ok (.ifCond .eq 5, 3) := by decide +kernel
theorem dX10_number_45 : decode cX10_number 45 = .ok (.iconst 0, 1) := by decide +kernel
theorem dX10_number_46 : decode cX10_number 46 = .ok (.ireturn, 1) := by decide +kernel
theorem dX10_of_0 : decode cX10_of 0 = .ok (.aload_n 0, 1) := by decide +kernel
theorem dX10_of_1 : decode cX10_of 1 = .ok (.getfield 9, 3) := by decide +kernel
theorem dX10_of_4 : decode cX10_of 4 = .ok (.iload_n 1, 1) := by decide +kernel
theorem dX10_of_5 : decode cX10_of 5 = .ok (.invokestatic 102, 3) := by decide +kernel
theorem dX10_of_8 : decode cX10_of 8 = .ok (.iconst 1, 1) := by decide +kernel
theorem dX10_of_9 : decode cX10_of 9 = .ok (.iadd, 1) := by decide +kernel
theorem dX10_of_10 : decode cX10_of 10 = .ok (.iconst 4, 1) := by decide +kernel
theorem dX10_of_11 : decode cX10_of 11 = .ok (.iload_n 2, 1) := by decide +kernel
theorem dX10_of_12 : decode cX10_of 12 = .ok (.imul, 1) := by decide +kernel
theorem dX10_of_13 : decode cX10_of 13 = .ok (.iadd, 1) := by decide +kernel
theorem dX10_of_14 : decode cX10_of 14 = .ok (.iload_n 3, 1) := by decide +kernel
theorem dX10_of_15 : decode cX10_of 15 = .ok (.iadd, 1) := by decide +kernel
theorem dX10_of_16 : decode cX10_of 16 = .ok (.iaload, 1) := by decide +kernel
theorem dX10_of_17 : decode cX10_of 17 = .ok (.ireturn, 1) := by decide +kernel
theorem dX10_ofClip_0 : decode cX10_ofClip 0 = .ok (.aload_n 0, 1) := by decide +kernel
theorem dX10_ofClip_1 : decode cX10_ofClip 1 = .ok (.getfield 9, 3) := by decide +kernel
theorem dX10_ofClip_4 : decode cX10_ofClip 4 = .ok (.sipush 393, 3) := by decide +kernel
theorem dX10_ofClip_7 : decode cX10_ofClip 7 = .ok (.iconst 5, 1) := by decide +kernel
theorem dX10_ofClip_8 : decode cX10_ofClip 8 = .ok (.iload_n 1, 1) := by decide +kernel
theorem dX10_ofClip_9 : decode cX10_ofClip 9 = .ok (.imul, 1) := by decide +kernel
theorem dX10_ofClip_10 : decode cX10_ofClip 10 = .ok (.iadd, 1) := by decide +kernel
theorem dX10_ofClip_11 : decode cX10_ofClip 11 = .ok (.iload_n 2, 1) := by decide +kernel
theorem dX10_ofClip_12 : decode cX10_ofClip 12 = .ok (.iadd, 1) := by decide +kernel
theorem dX10_ofClip_13 : decode cX10_ofClip 13 = .ok (.iaload, 1) := by decide +kernel
theorem dX10_ofClip_14 : decode cX10_ofClip 14 = .ok (.ireturn, 1) := by decide +kernel
theorem dX10_pattern_0 : decode cX10_pattern 0 = .ok (.aload_n 0, 1) := by decide +kernel
theorem dX10_pattern_1 : decode cX10_pattern 1 = .ok (.iload_n 1, 1) := by decide +kernel
theorem dX10_pattern_2 : decode cX10_pattern 2 = .ok (.invokestatic 130, 3) := by decide +kernel
theorem dX10_pattern_5 : decode cX10_pattern 5 = .ok (.ifCond .ne 7, 3) := by decide +kernel
theorem dX10_pattern_8 : decode cX10_pattern 8 = .ok (.iconst 1, 1) := by decide +kernel
theorem dX10_pattern_9 : decode cX10_pattern 9 = .ok (.goto 17, 3) := by decide +kernel
theorem dX10_pattern_12 : decode cX10_pattern 12 = .ok (.iload_n 2, 1) := by decide +kernel
theorem dX10_pattern_13 : decode cX10_pattern 13 = .ok (.iconst 0, 1) := by decide +kernel
theorem dX10_pattern_14 : decode cX10_pattern 14 = .ok (.iconst 4, 1) := by decide +kernel
theorem dX10_pattern_15 : decode cX10_pattern 15 = .ok (.invokestatic 98, 3) := by decide +kernel
theorem dX10_pattern_18 : decode cX10_pattern 18 = .ok (.ifCond .ne 7, 3) := by decide +kernel
theorem dX10_pattern_21 : decode cX10_pattern 21 = .ok (.iconst 2, 1) := by decide +kernel
theorem dX10_pattern_22 : decode cX10_pattern 22 = .ok (.goto 4, 3) := by decide +kernel
theorem dX10_pattern_25 : decode cX10_pattern 25 = .ok (.iconst 0, 1) := by decide +kernel
theorem dX10_pattern_26 : decode cX10_pattern 26 = .ok (.putfield 86, 3) := by decide +kernel
theorem dX10_pattern_29 : decode cX10_pattern 29 = .ok (.aload_n 0, 1) := by decide +kernel
theorem dX10_pattern_30 : decode cX10_pattern 30 = .ok (.getfield 86, 3) := by decide +kernel
theorem dX10_pattern_33 : decode cX10_pattern 33 = .ok (.ifCond .le 5, 3) := by decide +kernel
theorem dX10_pattern_36 : decode cX10_pattern 36 = .ok (.iconst 0, 1) := by decide +kernel
theorem dX10_pattern_37 : decode cX10_pattern 37 = .ok (.ireturn, 1) := by decide +kernel
theorem dX10_pattern_38 : decode cX10_pattern 38 = .ok (.aload_n 0, 1) := by decide +kernel
theorem dX10_pattern_39 : decode cX10_pattern 39 = .ok (.invokevirtual 120, 3) := by decide +kernel
theorem dX10_pattern_42 : decode cX10_pattern 42 = .ok (.aload_n 0, 1) := by decide +kernel
theorem dX10_pattern_43 : decode cX10_pattern 43 = .ok (.invokevirtual 157, 3) := by decide +kernel
theorem dX10_pattern_46 : decode cX10_pattern 46 = .ok (.iload_n 2, 1) := by decide +kernel
theorem dX10_pattern_47 : decode cX10_pattern 47 = .ok (.ifCond .ne 11, 3) := by decide +kernel
theorem dX10_pattern_50 : decode cX10_pattern 50 = .ok (.aload_n 0, 1) := by decide +kernel
theorem dX10_pattern_51 : decode cX10_pattern 51 = .ok (.iload_n 1, 1) := by decide +kernel
theorem dX10_pattern_52 : decode cX10_pattern 52 = .ok (.invokevirtual 106, 3) := by decide +kernel
theorem dX10_pattern_55 : decode cX10_pattern 55 = .ok (.goto 51, 3) := by decide +kernel
theorem dX10_pattern_58 : decode cX10_pattern 58 = .ok (.iload_n 2, 1) := by decide +kernel
theorem dX10_pattern_59 : decode cX10_pattern 59 = .ok (.iconst 1, 1) := by decide +kernel
theorem dX10_pattern_60 : decode cX10_pattern 60 = .ok (.if_icmp .ne 12, 3) := by decide +kernel
theorem dX10_pattern_63 : decode cX10_pattern 63 = .ok (.aload_n 0, 1) := by decide +kernel
theorem dX10_pattern_64 : decode cX10_pattern 64 = .ok (.getfield 22, 3) := by decide +kernel
theorem dX10_pattern_67 : decode cX10_pattern 67 = .ok (.iload_n 1, 1) := by decide +kernel
theorem dX10_pattern_68 : decode cX10_pattern 68 = .ok (.iaload, 1) := by decide +kernel
theorem dX10_pattern_69 : decode cX10_pattern 69 = .ok (.goto 37, 3) := by decide +kernel
theorem dX10_pattern_72 : decode cX10_pattern 72 = .ok (.iload_n 2, 1) := by decide +kernel
theorem dX10_pattern_73 : decode cX10_pattern 73 = .ok (.iconst 2, 1) := by decide +kernel
theorem dX10_pattern_74 : decode cX10_pattern 74 = .ok (.if_icmp .ne 12, 3) := by decide +kernel
theorem dX10_pattern_77 : decode cX10_pattern 77 = .ok (.aload_n 0, 1) := by decide +kernel
theorem dX10_pattern_78 : decode cX10_pattern 78 = .ok (.getfield 25, 3) := by decide +kernel
theorem dX10_pattern_81 : decode cX10_pattern 81 = .ok (.iload_n 1, 1) := by decide +kernel
theorem dX10_pattern_82 : decode cX10_pattern 82 = .ok (.iaload, 1) := by decide +kernel
theorem dX10_pattern_83 : decode cX10_pattern 83 = .ok (.goto 23, 3) := by decide +kernel
theorem dX10_pattern_86 : decode cX10_pattern 86 = .ok (.iload_n 2, 1) := by decide +kernel
theorem dX10_pattern_87 : decode cX10_pattern 87 = .ok (.iconst 3, 1) := by decide +kernel
theorem dX10_pattern_88 : decode cX10_pattern 88 = .ok (.if_icmp .ne 12, 3) := by decide +kernel
theorem dX10_pattern_91 : decode cX10_pattern 91 = .ok (.aload_n 0, 1) := by decide +kernel
theorem dX10_pattern_92 : decode cX10_pattern 92 = .ok (.getfield 28, 3) := by decide +kernel
theorem dX10_pattern_95 : decode cX10_pattern 95 = .ok (.iload_n 1, 1) := by decide +kernel
theorem dX10_pattern_96 : decode cX10_pattern 96 = .ok (.iaload, 1) := by decide +kernel
theorem dX10_pattern_97 : decode cX10_pattern 97 = .ok (.goto 9, 3) := by decide +kernel
theorem dX10_pattern_100 : decode cX10_pattern 100 = .ok (.aload_n 0, 1) := by decide +kernel
theorem dX10_pattern_101 : decode cX10_pattern 101 = .ok (.getfield 31, 3) := by decide +kernel
theorem dX10_pattern_104 : decode cX10_pattern 104 = .ok (.iload_n 1, 1) := by decide +kernel
theorem dX10_pattern_105 : decode cX10_pattern 105 = .ok (.iaload, 1) := by decide +kernel
theorem dX10_pattern_106 : decode cX10_pattern 106 = .ok (.ireturn, 1) := by decide +kernel
theorem dX10_place_0 : decode cX10_place 0 = .ok (.aload_n 0, 1) := by decide +kernel
theorem dX10_place_1 : decode cX10_place 1 = .ok (.iload_n 1, 1) := by decide +kernel
theorem dX10_place_2 : decode cX10_place 2 = .ok (.iconst 0, 1) := by decide +kernel
theorem dX10_place_3 : decode cX10_place 3 = .ok (.aload_n 0, 1) := by decide +kernel
theorem dX10_place_4 : decode cX10_place 4 = .ok (.getfield 9, 3) := by decide +kernel
theorem dX10_place_7 : decode cX10_place 7 = .ok (.sipush 453, 3) := by decide +kernel
theorem dX10_place_10 : decode cX10_place 10 = .ok (.iaload, 1) := by decide +kernel
theorem dX10_place_11 : decode cX10_place 11 = .ok (.iconst 1, 1) := by decide +kernel
theorem dX10_place_12 : decode cX10_place 12 = .ok (.isub, 1) := by decide +kernel
theorem dX10_place_13 : decode cX10_place 13 = .ok (.invokestatic 98, 3) := by decide +kernel
theorem dX10_place_16 : decode cX10_place 16 = .ok (.ifCond .eq 7, 3) := by decide +kernel
theorem dX10_place_19 : decode cX10_place 19 = .ok (.iconst 0, 1) := by decide +kernel
theorem dX10_place_20 : decode cX10_place 20 = .ok (.goto 4, 3) := by decide +kernel
theorem dX10_place_23 : decode cX10_place 23 = .ok (.iconst 1, 1) := by decide +kernel
theorem dX10_place_24 : decode cX10_place 24 = .ok (.putfield 86, 3) := by decide +kernel
theorem dX10_place_27 : decode cX10_place 27 = .ok (.aload_n 0, 1) := by decide +kernel
theorem dX10_place_28 : decode cX10_place 28 = .ok (.getfield 86, 3) := by decide +kernel
theorem dX10_place_31 : decode cX10_place 31 = .ok (.ifCond .le 7, 3) := by decide +kernel
theorem dX10_place_34 : decode cX10_place 34 = .ok (.iconst 0, 1) := by decide +kernel
theorem dX10_place_35 : decode cX10_place 35 = .ok (.goto 15, 3) := by decide +kernel
theorem dX10_place_38 : decode cX10_place 38 = .ok (.aload_n 0, 1) := by decide +kernel
theorem dX10_place_39 : decode cX10_place 39 = .ok (.getfield 9, 3) := by decide +kernel
theorem dX10_place_42 : decode cX10_place 42 = .ok (.sipush 454, 3) := by decide +kernel
theorem dX10_place_45 : decode cX10_place 45 = .ok (.iconst 2, 1) := by decide +kernel
theorem dX10_place_46 : decode cX10_place 46 = .ok (.iload_n 1, 1) := by decide +kernel
theorem dX10_place_47 : decode cX10_place 47 = .ok (.imul, 1) := by decide +kernel
theorem dX10_place_48 : decode cX10_place 48 = .ok (.iadd, 1) := by decide +kernel
theorem dX10_place_49 : decode cX10_place 49 = .ok (.iaload, 1) := by decide +kernel
theorem dX10_place_50 : decode cX10_place 50 = .ok (.ireturn, 1) := by decide +kernel
theorem dX10_played_0 : decode cX10_played 0 = .ok (.aload_n 0, 1) := by decide +kernel
theorem dX10_played_1 : decode cX10_played 1 = .ok (.iload_n 1, 1) := by decide +kernel
theorem dX10_played_2 : decode cX10_played 2 = .ok (.invokestatic 130, 3) := by decide +kernel
theorem dX10_played_5 : decode cX10_played 5 = .ok (.ifCond .ne 7, 3) := by decide +kernel
theorem dX10_played_8 : decode cX10_played 8 = .ok (.iconst 1, 1) := by decide +kernel
theorem dX10_played_9 : decode cX10_played 9 = .ok (.goto 17, 3) := by decide +kernel
theorem dX10_played_12 : decode cX10_played 12 = .ok (.iload_n 3, 1) := by decide +kernel
theorem dX10_played_13 : decode cX10_played 13 = .ok (.iconst 0, 1) := by decide +kernel
theorem dX10_played_14 : decode cX10_played 14 = .ok (.iconst 3, 1) := by decide +kernel
theorem dX10_played_15 : decode cX10_played 15 = .ok (.invokestatic 98, 3) := by decide +kernel
theorem dX10_played_18 : decode cX10_played 18 = .ok (.ifCond .ne 7, 3) := by decide +kernel
theorem dX10_played_21 : decode cX10_played 21 = .ok (.iconst 2, 1) := by decide +kernel
theorem dX10_played_22 : decode cX10_played 22 = .ok (.goto 4, 3) := by decide +kernel
theorem dX10_played_25 : decode cX10_played 25 = .ok (.iconst 0, 1) := by decide +kernel
theorem dX10_played_26 : decode cX10_played 26 = .ok (.putfield 86, 3) := by decide +kernel
theorem dX10_played_29 : decode cX10_played 29 = .ok (.aload_n 0, 1) := by decide +kernel
theorem dX10_played_30 : decode cX10_played 30 = .ok (.getfield 86, 3) := by decide +kernel
theorem dX10_played_33 : decode cX10_played 33 = .ok (.ifCond .le 5, 3) := by decide +kernel
theorem dX10_played_36 : decode cX10_played 36 = .ok (.iconst 0, 1) := by decide +kernel
theorem dX10_played_37 : decode cX10_played 37 = .ok (.ireturn, 1) := by decide +kernel
theorem dX10_played_38 : decode cX10_played 38 = .ok (.aload_n 0, 1) := by decide +kernel
theorem dX10_played_39 : decode cX10_played 39 = .ok (.invokevirtual 120, 3) := by decide +kernel
theorem dX10_played_42 : decode cX10_played 42 = .ok (.iload_n 2, 1) := by decide +kernel
theorem dX10_played_43 : decode cX10_played 43 = .ok (.iconst 0, 1) := by decide +kernel
theorem dX10_played_44 : decode cX10_played 44 = .ok (.aload_n 0, 1) := by decide +kernel
theorem dX10_played_45 : decode cX10_played 45 = .ok (.getfield 25, 3) := by decide +kernel
theorem dX10_played_48 : decode cX10_played 48 = .ok (.iload_n 1, 1) := by decide +kernel
theorem dX10_played_49 : decode cX10_played 49 = .ok (.iaload, 1) := by decide +kernel
theorem dX10_played_50 : decode cX10_played 50 = .ok (.iconst 1, 1) := by decide +kernel
theorem dX10_played_51 : decode cX10_played 51 = .ok (.isub, 1) := by decide +kernel
theorem dX10_played_52 : decode cX10_played 52 = .ok (.invokestatic 98, 3) := by decide +kernel
theorem dX10_played_55 : decode cX10_played 55 = .ok (.ifCond .ne 9, 3) := by decide +kernel
theorem dX10_played_58 : decode cX10_played 58 = .ok (.aload_n 0, 1) := by decide +kernel
theorem dX10_played_59 : decode cX10_played 59 = .ok (.iconst 3, 1) := by decide +kernel
theorem dX10_played_60 : decode cX10_played 60 = .ok (.invokevirtual 144, 3) := by decide +kernel
theorem dX10_played_63 : decode cX10_played 63 = .ok (.ireturn, 1) := by decide +kernel
theorem dX10_polyphony_0 : decode cX10_polyphony 0 = .ok (.aload_n 0, 1) := by decide +kernel
theorem dX10_polyphony_1 : decode cX10_polyphony 1 = .ok (.iconst 0, 1) := by decide +kernel
theorem dX10_polyphony_2 : decode cX10_polyphony 2 = .ok (.putfield 86, 3) := by decide +kernel
theorem dX10_polyphony_5 : decode cX10_polyphony 5 = .ok (.aload_n 0, 1) := by decide +kernel
theorem dX10_polyphony_6 : decode cX10_polyphony 6 = .ok (.invokevirtual 217, 3) := by decide +kernel
theorem dX10_polyphony_9 : decode cX10_polyphony 9 = .ok (.iconst 0, 1) := by decide +kernel
theorem dX10_polyphony_10 : decode cX10_polyphony 10 = .ok (.istore_n 1, 1) := by decide +kernel
theorem dX10_polyphony_11 : decode cX10_polyphony 11 = .ok (.iconst 0, 1) := by decide +kernel
theorem dX10_polyphony_12 : decode cX10_polyphony 12 = .ok (.istore_n 2, 1) := by decide +kernel
theorem dX10_polyphony_13 : decode cX10_polyphony 13 = .ok (.iload_n 2, 1) := by decide +kernel
theorem dX10_polyphony_14 : decode cX10_polyphony 14 = .ok (.aload_n 0, 1) := by decide +kernel
theorem dX10_polyphony_15 : decode cX10_polyphony 15 = .ok (.getfield 176, 3) := by decide +kernel
theorem dX10_polyphony_18 : decode cX10_polyphony 18 = .ok (.if_icmp .ge 58, 3) := by decide +kernel
theorem dX10_polyphony_76 : decode cX10_polyphony 76 = .ok (.iload_n 1, 1) := by decide +kernel
theorem dX10_polyphony_77 : decode cX10_polyphony 77 = .ok (.ireturn, 1) := by decide +kernel
theorem dX10_putAside_0 : decode cX10_putAside 0 = .ok (.iconst 0, 1) := by decide +kernel
theorem dX10_putAside_1 : decode cX10_putAside 1 = .ok (.istore_n 1, 1) := by decide +kernel
theorem dX10_putAside_2 : decode cX10_putAside 2 = .ok (.iload_n 1, 1) := by decide +kernel
theorem dX10_putAside_3 : decode cX10_putAside 3 = .ok (.sipush 497, 3) := by decide +kernel
theorem dX10_putAside_6 : decode cX10_putAside 6 = .ok (.if_icmp .ge 21, 3) := by decide +kernel
theorem dX10_putAside_9 : decode cX10_putAside 9 = .ok (.aload_n 0, 1) := by decide +kernel
theorem dX10_putAside_10 : decode cX10_putAside 10 = .ok (.getfield 16, 3) := by decide +kernel
theorem dX10_putAside_13 : decode cX10_putAside 13 = .ok (.iload_n 1, 1) := by decide +kernel
theorem dX10_putAside_14 : decode cX10_putAside 14 = .ok (.aload_n 0, 1) := by decide +kernel
theorem dX10_putAside_15 : decode cX10_putAside 15 = .ok (.getfield 9, 3) := by decide +kernel
theorem dX10_putAside_18 : decode cX10_putAside 18 = .ok (.iload_n 1, 1) := by decide +kernel
theorem dX10_putAside_19 : decode cX10_putAside 19 = .ok (.iaload, 1) := by decide +kernel
theorem dX10_putAside_20 : decode cX10_putAside 20 = .ok (.iastore, 1) := by decide +kernel
theorem dX10_putAside_21 : decode cX10_putAside 21 = .ok (.iinc 1 1, 3) := by decide +kernel
theorem dX10_putAside_24 : decode cX10_putAside 24 = .ok (.goto (-22), 3) := by decide +kernel
theorem dX10_putAside_27 : decode cX10_putAside 27 = .ok (.return_, 1) := by decide +kernel
theorem dX10_read_0 : decode cX10_read 0 = .ok (.aload_n 0, 1) := by decide +kernel
theorem dX10_read_1 : decode cX10_read 1 = .ok (.invokevirtual 274, 3) := by decide +kernel
theorem dX10_read_4 : decode cX10_read 4 = .ok (.istore_n 2, 1) := by decide +kernel
theorem dX10_read_5 : decode cX10_read 5 = .ok (.aload_n 0, 1) := by decide +kernel
theorem dX10_read_6 : decode cX10_read 6 = .ok (.iconst 0, 1) := by decide +kernel
theorem dX10_read_7 : decode cX10_read 7 = .ok (.putfield 248, 3) := by decide +kernel
theorem dX10_read_10 : decode cX10_read 10 = .ok (.aload_n 0, 1) := by decide +kernel
theorem dX10_read_11 : decode cX10_read 11 = .ok (.iload_n 1, 1) := by decide +kernel
theorem dX10_read_12 : decode cX10_read 12 = .ok (.invokestatic 130, 3) := by decide +kernel
theorem dX10_read_15 : decode cX10_read 15 = .ok (.ifCond .ne 7, 3) := by decide +kernel
theorem dX10_read_18 : decode cX10_read 18 = .ok (.iconst 1, 1) := by decide +kernel
theorem dX10_read_19 : decode cX10_read 19 = .ok (.goto 12, 3) := by decide +kernel
theorem dX10_read_22 : decode cX10_read 22 = .ok (.iload_n 2, 1) := by decide +kernel
theorem dX10_read_23 : decode cX10_read 23 = .ok (.ifCond .ne 7, 3) := by decide +kernel
theorem dX10_read_26 : decode cX10_read 26 = .ok (.iconst 2, 1) := by decide +kernel
theorem dX10_read_27 : decode cX10_read 27 = .ok (.goto 4, 3) := by decide +kernel
theorem dX10_read_31 : decode cX10_read 31 = .ok (.putfield 86, 3) := by decide +kernel
theorem dX10_read_34 : decode cX10_read 34 = .ok (.aload_n 0, 1) := by decide +kernel
theorem dX10_read_35 : decode cX10_read 35 = .ok (.getfield 86, 3) := by decide +kernel
theorem dX10_read_38 : decode cX10_read 38 = .ok (.iconst 2, 1) := by decide +kernel
theorem dX10_read_39 : decode cX10_read 39 = .ok (.if_icmp .ne 11, 3) := by decide +kernel
theorem dX10_read_42 : decode cX10_read 42 = .ok (.aload_n 0, 1) := by decide +kernel
theorem dX10_read_43 : decode cX10_read 43 = .ok (.aload_n 0, 1) := by decide +kernel
theorem dX10_read_44 : decode cX10_read 44 = .ok (.getfield 251, 3) := by decide +kernel
theorem dX10_read_47 : decode cX10_read 47 = .ok (.putfield 73, 3) := by decide +kernel
theorem dX10_read_50 : decode cX10_read 50 = .ok (.aload_n 0, 1) := by decide +kernel
theorem dX10_read_51 : decode cX10_read 51 = .ok (.getfield 86, 3) := by decide +kernel
theorem dX10_read_54 : decode cX10_read 54 = .ok (.ifCond .le 5, 3) := by decide +kernel
theorem dX10_read_57 : decode cX10_read 57 = .ok (.iconst 0, 1) := by decide +kernel
theorem dX10_read_58 : decode cX10_read 58 = .ok (.ireturn, 1) := by decide +kernel
theorem dX10_readOne_0 : decode cX10_readOne 0 = .ok (.aload_n 0, 1) := by decide +kernel
theorem dX10_readOne_1 : decode cX10_readOne 1 = .ok (.invokevirtual 254, 3) := by decide +kernel
theorem dX10_readOne_4 : decode cX10_readOne 4 = .ok (.istore_n 1, 1) := by decide +kernel
theorem dX10_readOne_5 : decode cX10_readOne 5 = .ok (.iconst 4, 1) := by decide +kernel
theorem dX10_readOne_6 : decode cX10_readOne 6 = .ok (.aload_n 0, 1) := by decide +kernel
theorem dX10_readOne_7 : decode cX10_readOne 7 = .ok (.getfield 261, 3) := by decide +kernel
theorem dX10_readOne_10 : decode cX10_readOne 10 = .ok (.imul, 1) := by decide +kernel
theorem dX10_readOne_11 : decode cX10_readOne 11 = .ok (.istore_n 2, 1) := by decide +kernel
theorem dX10_readOne_12 : decode cX10_readOne 12 = .ok (.aload_n 0, 1) := by decide +kernel
theorem dX10_readOne_13 : decode cX10_readOne 13 = .ok (.iload_n 1, 1) := by decide +kernel
theorem dX10_readOne_14 : decode cX10_readOne 14 = .ok (.bipush 110, 2) := by decide +kernel
theorem dX10_readOne_16 : decode cX10_readOne 16 = .ok (.if_icmp .eq 19, 3) := by decide +kernel
theorem dX10_readOne_19 : decode cX10_readOne 19 = .ok (.iload_n 1, 1) := by decide +kernel
theorem dX10_readOne_20 : decode cX10_readOne 20 = .ok (.bipush 114, 2) := by decide +kernel
theorem dX10_readOne_22 : decode cX10_readOne 22 = .ok (.if_icmp .eq 13, 3) := by decide +kernel
theorem dX10_readOne_25 : decode cX10_readOne 25 = .ok (.iload_n 1, 1) := by decide +kernel
theorem dX10_readOne_26 : decode cX10_readOne 26 = .ok (.bipush 99, 2) := by decide +kernel
theorem dX10_readOne_28 : decode cX10_readOne 28 = .ok (.if_icmp .eq 7, 3) := by decide +kernel
theorem dX10_readOne_31 : decode cX10_readOne 31 = .ok (.iconst 1, 1) := by decide +kernel
theorem dX10_readOne_32 : decode cX10_readOne 32 = .ok (.goto 4, 3) := by decide +kernel
theorem dX10_readOne_36 : decode cX10_readOne 36 = .ok (.putfield 257, 3) := by decide +kernel
theorem dX10_readOne_39 : decode cX10_readOne 39 = .ok (.aload_n 0, 1) := by decide +kernel
theorem dX10_readOne_40 : decode cX10_readOne 40 = .ok (.dup, 1) := by decide +kernel
theorem dX10_readOne_41 : decode cX10_readOne 41 = .ok (.getfield 251, 3) := by decide +kernel
theorem dX10_readOne_44 : decode cX10_readOne 44 = .ok (.aload_n 0, 1) := by decide +kernel
theorem dX10_readOne_45 : decode cX10_readOne 45 = .ok (.getfield 257, 3) := by decide +kernel
theorem dX10_readOne_48 : decode cX10_readOne 48 = .ok (.ifCond .eq 7, 3) := by decide +kernel
theorem dX10_readOne_51 : decode cX10_readOne 51 = .ok (.iconst 0, 1) := by decide +kernel
theorem dX10_readOne_52 : decode cX10_readOne 52 = .ok (.goto 4, 3) := by decide +kernel
theorem dX10_readOne_56 : decode cX10_readOne 56 = .ok (.iadd, 1) := by decide +kernel
theorem dX10_readOne_57 : decode cX10_readOne 57 = .ok (.putfield 251, 3) := by decide +kernel
theorem dX10_readOne_60 : decode cX10_readOne 60 = .ok (.aload_n 0, 1) := by decide +kernel
theorem dX10_readOne_61 : decode cX10_readOne 61 = .ok (.getfield 77, 3) := by decide +kernel
theorem dX10_readOne_64 : decode cX10_readOne 64 = .ok (.iload_n 2, 1) := by decide +kernel
theorem dX10_readOne_65 : decode cX10_readOne 65 = .ok (.iload_n 1, 1) := by decide +kernel
theorem dX10_readOne_66 : decode cX10_readOne 66 = .ok (.bipush 110, 2) := by decide +kernel
theorem dX10_readOne_68 : decode cX10_readOne 68 = .ok (.if_icmp .ne 7, 3) := by decide +kernel
theorem dX10_readOne_75 : decode cX10_readOne 75 = .ok (.iload_n 1, 1) := by decide +kernel
theorem dX10_readOne_76 : decode cX10_readOne 76 = .ok (.bipush 114, 2) := by decide +kernel
theorem dX10_readOne_78 : decode cX10_readOne 78 = .ok (.if_icmp .ne 7, 3) := by decide +kernel
theorem dX10_readOne_85 : decode cX10_readOne 85 = .ok (.iconst 2, 1) := by decide +kernel
theorem dX10_readOne_86 : decode cX10_readOne 86 = .ok (.iastore, 1) := by decide +kernel
theorem dX10_readOne_87 : decode cX10_readOne 87 = .ok (.aload_n 0, 1) := by decide +kernel
theorem dX10_readOne_88 : decode cX10_readOne 88 = .ok (.getfield 77, 3) := by decide +kernel
theorem dX10_readOne_91 : decode cX10_readOne 91 = .ok (.iload_n 2, 1) := by decide +kernel
theorem dX10_readOne_92 : decode cX10_readOne 92 = .ok (.iconst 1, 1) := by decide +kernel
theorem dX10_readOne_93 : decode cX10_readOne 93 = .ok (.iadd, 1) := by decide +kernel
theorem dX10_readOne_94 : decode cX10_readOne 94 = .ok (.iconst (-1), 1) := by decide +kernel
theorem dX10_readOne_95 : decode cX10_readOne 95 = .ok (.iastore, 1) := by decide +kernel
theorem dX10_readOne_96 : decode cX10_readOne 96 = .ok (.aload_n 0, 1) := by decide +kernel
theorem dX10_readOne_97 : decode cX10_readOne 97 = .ok (.getfield 77, 3) := by decide +kernel
theorem dX10_readOne_100 : decode cX10_readOne 100 = .ok (.iload_n 2, 1) := by decide +kernel
theorem dX10_readOne_101 : decode cX10_readOne 101 = .ok (.iconst 3, 1) := by decide +kernel
theorem dX10_readOne_102 : decode cX10_readOne 102 = .ok (.iadd, 1) := by decide +kernel
theorem dX10_readOne_103 : decode cX10_readOne 103 = .ok (.iconst (-1), 1) := by decide +kernel
theorem dX10_readOne_104 : decode cX10_readOne 104 = .ok (.iastore, 1) := by decide +kernel
theorem dX10_readOne_105 : decode cX10_readOne 105 = .ok (.iload_n 1, 1) := by decide +kernel
theorem dX10_readOne_106 : decode cX10_readOne 106 = .ok (.bipush 110, 2) := by decide +kernel
theorem dX10_readOne_108 : decode cX10_readOne 108 = .ok (.if_icmp .ne 63, 3) := by decide +kernel
theorem dX10_readOne_171 : decode cX10_readOne 171 = .ok (.iload_n 1, 1) := by decide +kernel
theorem dX10_readOne_172 : decode cX10_readOne 172 = .ok (.bipush 114, 2) := by decide +kernel
theorem dX10_readOne_174 : decode cX10_readOne 174 = .ok (.if_icmp .ne 21, 3) := by decide +kernel
theorem dX10_readOne_195 : decode cX10_readOne 195 = .ok (.aload_n 0, 1) := by decide +kernel
theorem dX10_readOne_196 : decode cX10_readOne 196 = .ok (.getfield 77, 3) := by decide +kernel
theorem dX10_readOne_199 : decode cX10_readOne 199 = .ok (.iload_n 2, 1) := by decide +kernel
theorem dX10_readOne_200 : decode cX10_readOne 200 = .ok (.iconst 1, 1) := by decide +kernel
theorem dX10_readOne_201 : decode cX10_readOne 201 = .ok (.iadd, 1) := by decide +kernel
theorem dX10_readOne_202 : decode cX10_readOne 202 = .ok (.aload_n 0, 1) := by decide +kernel
theorem dX10_readOne_203 : decode cX10_readOne 203 = .ok (.iconst 0, 1) := by decide +kernel
theorem dX10_readOne_204 : decode cX10_readOne 204 = .ok (.bipush 7, 2) := by decide +kernel
theorem dX10_readOne_206 : decode cX10_readOne 206 = .ok (.invokevirtual 264, 3) := by decide +kernel
theorem dX10_readOne_209 : decode cX10_readOne 209 = .ok (.iastore, 1) := by decide +kernel
theorem dX10_readOne_210 : decode cX10_readOne 210 = .ok (.aload_n 0, 1) := by decide +kernel
theorem dX10_readOne_211 : decode cX10_readOne 211 = .ok (.bipush 42, 2) := by decide +kernel
theorem dX10_readOne_213 : decode cX10_readOne 213 = .ok (.invokevirtual 267, 3) := by decide +kernel
theorem dX10_readOne_216 : decode cX10_readOne 216 = .ok (.aload_n 0, 1) := by decide +kernel
theorem dX10_readOne_217 : decode cX10_readOne 217 = .ok (.getfield 77, 3) := by decide +kernel
theorem dX10_readOne_220 : decode cX10_readOne 220 = .ok (.iload_n 2, 1) := by decide +kernel
theorem dX10_readOne_221 : decode cX10_readOne 221 = .ok (.iconst 2, 1) := by decide +kernel
theorem dX10_readOne_222 : decode cX10_readOne 222 = .ok (.iadd, 1) := by decide +kernel
theorem dX10_readOne_223 : decode cX10_readOne 223 = .ok (.aload_n 0, 1) := by decide +kernel
theorem dX10_readOne_224 : decode cX10_readOne 224 = .ok (.iconst 1, 1) := by decide +kernel
theorem dX10_readOne_225 : decode cX10_readOne 225 = .ok (.bipush 9, 2) := by decide +kernel
theorem dX10_readOne_227 : decode cX10_readOne 227 = .ok (.invokevirtual 264, 3) := by decide +kernel
theorem dX10_readOne_230 : decode cX10_readOne 230 = .ok (.iastore, 1) := by decide +kernel
theorem dX10_readOne_231 : decode cX10_readOne 231 = .ok (.aload_n 0, 1) := by decide +kernel
theorem dX10_readOne_232 : decode cX10_readOne 232 = .ok (.dup, 1) := by decide +kernel
theorem dX10_readOne_233 : decode cX10_readOne 233 = .ok (.getfield 261, 3) := by decide +kernel
theorem dX10_readOne_236 : decode cX10_readOne 236 = .ok (.iconst 1, 1) := by decide +kernel
theorem dX10_readOne_237 : decode cX10_readOne 237 = .ok (.iadd, 1) := by decide +kernel
theorem dX10_readOne_238 : decode cX10_readOne 238 = .ok (.putfield 261, 3) := by decide +kernel
theorem dX10_readOne_241 : decode cX10_readOne 241 = .ok (.return_, 1) := by decide +kernel
theorem dX10_refuse_0 : decode cX10_refuse 0 = .ok (.aload_n 0, 1) := by decide +kernel
theorem dX10_refuse_1 : decode cX10_refuse 1 = .ok (.iload_n 1, 1) := by decide +kernel
theorem dX10_refuse_2 : decode cX10_refuse 2 = .ok (.putfield 86, 3) := by decide +kernel
theorem dX10_refuse_5 : decode cX10_refuse 5 = .ok (.iconst 0, 1) := by decide +kernel
theorem dX10_refuse_6 : decode cX10_refuse 6 = .ok (.ireturn, 1) := by decide +kernel
theorem dX10_removeClip_0 : decode cX10_removeClip 0 = .ok (.aload_n 0, 1) := by decide +kernel
theorem dX10_removeClip_1 : decode cX10_removeClip 1 = .ok (.aload_n 0, 1) := by decide +kernel
theorem dX10_removeClip_2 : decode cX10_removeClip 2 = .ok (.iload_n 1, 1) := by decide +kernel
theorem dX10_removeClip_3 : decode cX10_removeClip 3 = .ok (.invokevirtual 173, 3) := by decide +kernel
theorem dX10_removeClip_6 : decode cX10_removeClip 6 = .ok (.ifCond .eq 7, 3) := by decide +kernel
theorem dX10_removeClip_13 : decode cX10_removeClip 13 = .ok (.iconst 1, 1) := by decide +kernel
theorem dX10_removeClip_14 : decode cX10_removeClip 14 = .ok (.putfield 86, 3) := by decide +kernel
theorem dX10_removeClip_17 : decode cX10_removeClip 17 = .ok (.aload_n 0, 1) := by decide +kernel
theorem dX10_removeClip_18 : decode cX10_removeClip 18 = .ok (.getfield 86, 3) := by decide +kernel
theorem dX10_removeClip_21 : decode cX10_removeClip 21 = .ok (.ifCond .le 5, 3) := by decide +kernel
theorem dX10_removeClip_24 : decode cX10_removeClip 24 = .ok (.iconst 0, 1) := by decide +kernel
theorem dX10_removeClip_25 : decode cX10_removeClip 25 = .ok (.ireturn, 1) := by decide +kernel
theorem dX10_removeItem_0 : decode cX10_removeItem 0 = .ok (.aload_n 0, 1) := by decide +kernel
theorem dX10_removeItem_1 : decode cX10_removeItem 1 = .ok (.iload_n 1, 1) := by decide +kernel
theorem dX10_removeItem_2 : decode cX10_removeItem 2 = .ok (.invokestatic 130, 3) := by decide +kernel
theorem dX10_removeItem_5 : decode cX10_removeItem 5 = .ok (.ifCond .eq 22, 3) := by decide +kernel
theorem dX10_removeItem_8 : decode cX10_removeItem 8 = .ok (.iload_n 2, 1) := by decide +kernel
theorem dX10_removeItem_9 : decode cX10_removeItem 9 = .ok (.iconst 0, 1) := by decide +kernel
theorem dX10_removeItem_10 : decode cX10_removeItem 10 = .ok (.aload_n 0, 1) := by decide +kernel
theorem dX10_removeItem_11 : decode cX10_removeItem 11 = .ok (.iload_n 1, 1) := by decide +kernel
theorem dX10_removeItem_12 : decode cX10_removeItem 12 = .ok (.invokevirtual 106, 3) := by decide +kernel
theorem dX10_removeItem_15 : decode cX10_removeItem 15 = .ok (.iconst 1, 1) := by decide +kernel
theorem dX10_removeItem_16 : decode cX10_removeItem 16 = .ok (.isub, 1) := by decide +kernel
theorem dX10_removeItem_17 : decode cX10_removeItem 17 = .ok (.invokestatic 98, 3) := by decide +kernel
theorem dX10_removeItem_20 : decode cX10_removeItem 20 = .ok (.ifCond .eq 7, 3) := by decide +kernel
theorem dX10_removeItem_27 : decode cX10_removeItem 27 = .ok (.iconst 1, 1) := by decide +kernel
theorem dX10_removeItem_28 : decode cX10_removeItem 28 = .ok (.putfield 86, 3) := by decide +kernel
theorem dX10_removeItem_31 : decode cX10_removeItem 31 = .ok (.aload_n 0, 1) := by decide +kernel
theorem dX10_removeItem_32 : decode cX10_removeItem 32 = .ok (.getfield 86, 3) := by decide +kernel
theorem dX10_removeItem_35 : decode cX10_removeItem 35 = .ok (.ifCond .le 5, 3) := by decide +kernel
theorem dX10_removeItem_38 : decode cX10_removeItem 38 = .ok (.iconst 0, 1) := by decide +kernel
theorem dX10_removeItem_39 : decode cX10_removeItem 39 = .ok (.ireturn, 1) := by decide +kernel
theorem dX10_removeTempo_0 : decode cX10_removeTempo 0 = .ok (.aload_n 0, 1) := by decide +kernel
theorem dX10_removeTempo_1 : decode cX10_removeTempo 1 = .ok (.iconst 0, 1) := by decide +kernel
theorem dX10_removeTempo_2 : decode cX10_removeTempo 2 = .ok (.putfield 86, 3) := by decide +kernel
theorem dX10_removeTempo_5 : decode cX10_removeTempo 5 = .ok (.iload_n 1, 1) := by decide +kernel
theorem dX10_removeTempo_6 : decode cX10_removeTempo 6 = .ok (.ifCond .ne 9, 3) := by decide +kernel
theorem dX10_removeTempo_9 : decode cX10_removeTempo 9 = .ok (.aload_n 0, 1) := by decide +kernel
theorem dX10_removeTempo_10 : decode cX10_removeTempo 10 = .ok (.iconst 1, 1) := by decide +kernel
theorem dX10_removeTempo_11 : decode cX10_removeTempo 11 = .ok (.invokevirtual 144, 3) := by decide +kernel
theorem dX10_removeTempo_14 : decode cX10_removeTempo 14 = .ok (.ireturn, 1) := by decide +kernel
theorem dX10_removeTempo_15 : decode cX10_removeTempo 15 = .ok (.iconst 0, 1) := by decide +kernel
theorem dX10_removeTempo_16 : decode cX10_removeTempo 16 = .ok (.istore_n 2, 1) := by decide +kernel
theorem dX10_removeTempo_17 : decode cX10_removeTempo 17 = .ok (.iload_n 2, 1) := by decide +kernel
theorem dX10_removeTempo_18 : decode cX10_removeTempo 18 = .ok (.aload_n 0, 1) := by decide +kernel
theorem dX10_removeTempo_19 : decode cX10_removeTempo 19 = .ok (.getfield 9, 3) := by decide +kernel
theorem dX10_removeTempo_22 : decode cX10_removeTempo 22 = .ok (.sipush 453, 3) := by decide +kernel
theorem dX10_removeTempo_25 : decode cX10_removeTempo 25 = .ok (.iaload, 1) := by decide +kernel
theorem dX10_removeTempo_26 : decode cX10_removeTempo 26 = .ok (.if_icmp .ge 25, 3) := by decide +kernel
theorem dX10_removeTempo_29 : decode cX10_removeTempo 29 = .ok (.aload_n 0, 1) := by decide +kernel
theorem dX10_removeTempo_30 : decode cX10_removeTempo 30 = .ok (.getfield 9, 3) := by decide +kernel
theorem dX10_removeTempo_33 : decode cX10_removeTempo 33 = .ok (.sipush 454, 3) := by decide +kernel
theorem dX10_removeTempo_36 : decode cX10_removeTempo 36 = .ok (.iconst 2, 1) := by decide +kernel
theorem dX10_removeTempo_37 : decode cX10_removeTempo 37 = .ok (.iload_n 2, 1) := by decide +kernel
theorem dX10_removeTempo_38 : decode cX10_removeTempo 38 = .ok (.imul, 1) := by decide +kernel
theorem dX10_removeTempo_39 : decode cX10_removeTempo 39 = .ok (.iadd, 1) := by decide +kernel
theorem dX10_removeTempo_40 : decode cX10_removeTempo 40 = .ok (.iaload, 1) := by decide +kernel
theorem dX10_removeTempo_41 : decode cX10_removeTempo 41 = .ok (.iload_n 1, 1) := by decide +kernel
theorem dX10_removeTempo_42 : decode cX10_removeTempo 42 = .ok (.if_icmp .eq 9, 3) := by decide +kernel
theorem dX10_removeTempo_45 : decode cX10_removeTempo 45 = .ok (.iinc 2 1, 3) := by decide +kernel
theorem dX10_removeTempo_48 : decode cX10_removeTempo 48 = .ok (.goto (-31), 3) := by decide +kernel
theorem dX10_removeTempo_51 : decode cX10_removeTempo 51 = .ok (.iload_n 2, 1) := by decide +kernel
theorem dX10_removeTempo_52 : decode cX10_removeTempo 52 = .ok (.aload_n 0, 1) := by decide +kernel
theorem dX10_removeTempo_53 : decode cX10_removeTempo 53 = .ok (.getfield 9, 3) := by decide +kernel
theorem dX10_removeTempo_56 : decode cX10_removeTempo 56 = .ok (.sipush 453, 3) := by decide +kernel
theorem dX10_removeTempo_59 : decode cX10_removeTempo 59 = .ok (.iaload, 1) := by decide +kernel
theorem dX10_removeTempo_60 : decode cX10_removeTempo 60 = .ok (.if_icmp .ne 9, 3) := by decide +kernel
theorem dX10_removeTempo_63 : decode cX10_removeTempo 63 = .ok (.aload_n 0, 1) := by decide +kernel
theorem dX10_removeTempo_64 : decode cX10_removeTempo 64 = .ok (.iconst 2, 1) := by decide +kernel
theorem dX10_removeTempo_65 : decode cX10_removeTempo 65 = .ok (.invokevirtual 144, 3) := by decide +kernel
theorem dX10_removeTempo_68 : decode cX10_removeTempo 68 = .ok (.ireturn, 1) := by decide +kernel
theorem dX10_restore_0 : decode cX10_restore 0 = .ok (.aload_n 0, 1) := by decide +kernel
theorem dX10_restore_1 : decode cX10_restore 1 = .ok (.iconst 0, 1) := by decide +kernel
theorem dX10_restore_2 : decode cX10_restore 2 = .ok (.putfield 86, 3) := by decide +kernel
theorem dX10_restore_5 : decode cX10_restore 5 = .ok (.aload_n 0, 1) := by decide +kernel
theorem dX10_restore_6 : decode cX10_restore 6 = .ok (.getfield 289, 3) := by decide +kernel
theorem dX10_restore_9 : decode cX10_restore 9 = .ok (.ifCond .ne 9, 3) := by decide +kernel
theorem dX10_restore_12 : decode cX10_restore 12 = .ok (.aload_n 0, 1) := by decide +kernel
theorem dX10_restore_13 : decode cX10_restore 13 = .ok (.iconst 1, 1) := by decide +kernel
theorem dX10_restore_14 : decode cX10_restore 14 = .ok (.invokevirtual 144, 3) := by decide +kernel
theorem dX10_restore_17 : decode cX10_restore 17 = .ok (.ireturn, 1) := by decide +kernel
theorem dX10_save_0 : decode cX10_save 0 = .ok (.aload_n 0, 1) := by decide +kernel
theorem dX10_save_1 : decode cX10_save 1 = .ok (.iconst 0, 1) := by decide +kernel
theorem dX10_save_2 : decode cX10_save 2 = .ok (.putfield 86, 3) := by decide +kernel
theorem dX10_save_5 : decode cX10_save 5 = .ok (.iconst 0, 1) := by decide +kernel
theorem dX10_save_6 : decode cX10_save 6 = .ok (.istore_n 1, 1) := by decide +kernel
theorem dX10_save_7 : decode cX10_save 7 = .ok (.iload_n 1, 1) := by decide +kernel
theorem dX10_save_8 : decode cX10_save 8 = .ok (.sipush 497, 3) := by decide +kernel
theorem dX10_save_11 : decode cX10_save 11 = .ok (.if_icmp .ge 21, 3) := by decide +kernel
theorem dX10_save_14 : decode cX10_save 14 = .ok (.aload_n 0, 1) := by decide +kernel
theorem dX10_save_15 : decode cX10_save 15 = .ok (.getfield 13, 3) := by decide +kernel
theorem dX10_save_18 : decode cX10_save 18 = .ok (.iload_n 1, 1) := by decide +kernel
theorem dX10_save_19 : decode cX10_save 19 = .ok (.aload_n 0, 1) := by decide +kernel
theorem dX10_save_20 : decode cX10_save 20 = .ok (.getfield 9, 3) := by decide +kernel
theorem dX10_save_23 : decode cX10_save 23 = .ok (.iload_n 1, 1) := by decide +kernel
theorem dX10_save_24 : decode cX10_save 24 = .ok (.iaload, 1) := by decide +kernel
theorem dX10_save_25 : decode cX10_save 25 = .ok (.iastore, 1) := by decide +kernel
theorem dX10_save_26 : decode cX10_save 26 = .ok (.iinc 1 1, 3) := by decide +kernel
theorem dX10_save_29 : decode cX10_save 29 = .ok (.goto (-22), 3) := by decide +kernel
theorem dX10_save_32 : decode cX10_save 32 = .ok (.aload_n 0, 1) := by decide +kernel
theorem dX10_save_33 : decode cX10_save 33 = .ok (.iconst 1, 1) := by decide +kernel
theorem dX10_save_34 : decode cX10_save 34 = .ok (.putfield 289, 3) := by decide +kernel
theorem dX10_save_37 : decode cX10_save 37 = .ok (.aload_n 0, 1) := by decide +kernel
theorem dX10_save_38 : decode cX10_save 38 = .ok (.getfield 9, 3) := by decide +kernel
theorem dX10_save_41 : decode cX10_save 41 = .ok (.sipush 392, 3) := by decide +kernel
theorem dX10_save_44 : decode cX10_save 44 = .ok (.iaload, 1) := by decide +kernel
theorem dX10_save_45 : decode cX10_save 45 = .ok (.ireturn, 1) := by decide +kernel
theorem dX10_setEnvelope_0 : decode cX10_setEnvelope 0 = .ok (.iload_n 2, 1) := by decide +kernel
theorem dX10_setEnvelope_1 : decode cX10_setEnvelope 1 = .ok (.iconst 0, 1) := by decide +kernel
theorem dX10_setEnvelope_2 : decode cX10_setEnvelope 2 = .ok (.sipush 5000, 3) := by decide +kernel
theorem dX10_setEnvelope_5 : decode cX10_setEnvelope 5 = .ok (.invokestatic 98, 3) := by decide +kernel
theorem dX10_setEnvelope_8 : decode cX10_setEnvelope 8 = .ok (.ifCond .eq 41, 3) := by decide +kernel
theorem dX10_setEnvelope_11 : decode cX10_setEnvelope 11 = .ok (.iload_n 3, 1) := by decide +kernel
theorem dX10_setEnvelope_12 : decode cX10_setEnvelope 12 = .ok (.iconst 0, 1) := by decide +kernel
theorem dX10_setEnvelope_13 : decode cX10_setEnvelope 13 = .ok (.sipush 5000, 3) := by decide +kernel
theorem dX10_setEnvelope_16 : decode cX10_setEnvelope 16 = .ok (.invokestatic 98, 3) := by decide +kernel
theorem dX10_setEnvelope_19 : decode cX10_setEnvelope 19 = .ok (.ifCond .eq 30, 3) := by decide +kernel
theorem dX10_setEnvelope_22 : decode cX10_setEnvelope 22 = .ok (.iload 4, 2) := by decide +kernel
theorem dX10_setEnvelope_24 : decode cX10_setEnvelope 24 = .ok (.iconst 0, 1) := by decide +kernel
theorem dX10_setEnvelope_25 : decode cX10_setEnvelope 25 = .ok (.bipush 100, 2) := by decide +kernel
theorem dX10_setEnvelope_27 : decode cX10_setEnvelope 27 = .ok (.invokestatic 98, 3) := by decide +kernel
theorem dX10_setEnvelope_30 : decode cX10_setEnvelope 30 = .ok (.ifCond .eq 19, 3) := by decide +kernel
theorem dX10_setEnvelope_33 : decode cX10_setEnvelope 33 = .ok (.iload 5, 2) := by decide +kernel
theorem dX10_setEnvelope_35 : decode cX10_setEnvelope 35 = .ok (.iconst 0, 1) := by decide +kernel
theorem dX10_setEnvelope_36 : decode cX10_setEnvelope 36 = .ok (.sipush 5000, 3) := by decide +kernel
theorem dX10_setEnvelope_39 : decode cX10_setEnvelope 39 = .ok (.invokestatic 98, 3) := by decide +kernel
theorem dX10_setEnvelope_42 : decode cX10_setEnvelope 42 = .ok (.ifCond .eq 7, 3) := by decide +kernel
theorem dX10_setEnvelope_45 : decode cX10_setEnvelope 45 = .ok (.iconst 1, 1) := by decide +kernel
theorem dX10_setEnvelope_46 : decode cX10_setEnvelope 46 = .ok (.goto 4, 3) := by decide +kernel
theorem dX10_setEnvelope_49 : decode cX10_setEnvelope 49 = .ok (.iconst 0, 1) := by decide +kernel
theorem dX10_setEnvelope_50 : decode cX10_setEnvelope 50 = .ok (.istore 6, 2) := by decide +kernel
theorem dX10_setEnvelope_52 : decode cX10_setEnvelope 52 = .ok (.aload_n 0, 1) := by decide +kernel
theorem dX10_setEnvelope_53 : decode cX10_setEnvelope 53 = .ok (.iload_n 1, 1) := by decide +kernel
theorem dX10_setEnvelope_54 : decode cX10_setEnvelope 54 = .ok (.invokestatic 227, 3) := by decide +kernel
theorem dX10_setEnvelope_57 : decode cX10_setEnvelope 57 = .ok (.ifCond .ne 7, 3) := by decide +kernel
theorem dX10_setEnvelope_60 : decode cX10_setEnvelope 60 = .ok (.iconst 1, 1) := by decide +kernel
theorem dX10_setEnvelope_61 : decode cX10_setEnvelope 61 = .ok (.goto 13, 3) := by decide +kernel
theorem dX10_setEnvelope_64 : decode cX10_setEnvelope 64 = .ok (.iload 6, 2) := by decide +kernel
theorem dX10_setEnvelope_66 : decode cX10_setEnvelope 66 = .ok (.ifCond .ne 7, 3) := by decide +kernel
theorem dX10_setEnvelope_69 : decode cX10_setEnvelope 69 = .ok (.iconst 2, 1) := by decide +kernel
theorem dX10_setEnvelope_70 : decode cX10_setEnvelope 70 = .ok (.goto 4, 3) := by decide +kernel
theorem dX10_setEnvelope_73 : decode cX10_setEnvelope 73 = .ok (.iconst 0, 1) := by decide +kernel
theorem dX10_setEnvelope_74 : decode cX10_setEnvelope 74 = .ok (.putfield 86, 3) := by decide +kernel
theorem dX10_setEnvelope_77 : decode cX10_setEnvelope 77 = .ok (.aload_n 0, 1) := by decide +kernel
theorem dX10_setEnvelope_78 : decode cX10_setEnvelope 78 = .ok (.getfield 86, 3) := by decide +kernel
theorem dX10_setEnvelope_81 : decode cX10_setEnvelope 81 = .ok (.ifCond .le 5, 3) := by decide +kernel
theorem dX10_setEnvelope_84 : decode cX10_setEnvelope 84 = .ok (.iconst 0, 1) := by decide +kernel
theorem dX10_setEnvelope_85 : decode cX10_setEnvelope 85 = .ok (.ireturn, 1) := by decide +kernel
theorem dX10_setEnvelope_86 : decode cX10_setEnvelope 86 = .ok (.aload_n 0, 1) := by decide +kernel
theorem dX10_setEnvelope_87 : decode cX10_setEnvelope 87 = .ok (.invokevirtual 151, 3) := by decide +kernel
theorem dX10_setEnvelope_90 : decode cX10_setEnvelope 90 = .ok (.sipush 474, 3) := by decide +kernel
theorem dX10_setEnvelope_93 : decode cX10_setEnvelope 93 = .ok (.iconst 5, 1) := by decide +kernel
theorem dX10_setEnvelope_94 : decode cX10_setEnvelope 94 = .ok (.iload_n 1, 1) := by decide +kernel
theorem dX10_setEnvelope_95 : decode cX10_setEnvelope 95 = .ok (.imul, 1) := by decide +kernel
theorem dX10_setEnvelope_96 : decode cX10_setEnvelope 96 = .ok (.iadd, 1) := by decide +kernel
theorem dX10_setEnvelope_97 : decode cX10_setEnvelope 97 = .ok (.istore 7, 2) := by decide +kernel
theorem dX10_setEnvelope_99 : decode cX10_setEnvelope 99 = .ok (.aload_n 0, 1) := by decide +kernel
theorem dX10_setEnvelope_100 : decode cX10_setEnvelope 100 = .ok (.getfield 9, 3) := by decide +kernel
theorem dX10_setEnvelope_103 : decode cX10_setEnvelope 103 = .ok (.iload 7, 2) := by decide +kernel
theorem dX10_setEnvelope_105 : decode cX10_setEnvelope 105 = .ok (.iload_n 2, 1) := by decide +kernel
theorem dX10_setEnvelope_106 : decode cX10_setEnvelope 106 = .ok (.iastore, 1) := by decide +kernel
theorem dX10_setEnvelope_107 : decode cX10_setEnvelope 107 = .ok (.aload_n 0, 1) := by decide +kernel
theorem dX10_setEnvelope_108 : decode cX10_setEnvelope 108 = .ok (.getfield 9, 3) := by decide +kernel
theorem dX10_setEnvelope_111 : decode cX10_setEnvelope 111 = .ok (.iload 7, 2) := by decide +kernel
theorem dX10_setEnvelope_113 : decode cX10_setEnvelope 113 = .ok (.iconst 1, 1) := by decide +kernel
theorem dX10_setEnvelope_114 : decode cX10_setEnvelope 114 = .ok (.iadd, 1) := by decide +kernel
theorem dX10_setEnvelope_115 : decode cX10_setEnvelope 115 = .ok (.iload_n 3, 1) := by decide +kernel
theorem dX10_setEnvelope_116 : decode cX10_setEnvelope 116 = .ok (.iastore, 1) := by decide +kernel
theorem dX10_setEnvelope_117 : decode cX10_setEnvelope 117 = .ok (.aload_n 0, 1) := by decide +kernel
theorem dX10_setEnvelope_118 : decode cX10_setEnvelope 118 = .ok (.getfield 9, 3) := by decide +kernel
theorem dX10_setEnvelope_121 : decode cX10_setEnvelope 121 = .ok (.iload 7, 2) := by decide +kernel
theorem dX10_setEnvelope_123 : decode cX10_setEnvelope 123 = .ok (.iconst 2, 1) := by decide +kernel
theorem dX10_setEnvelope_124 : decode cX10_setEnvelope 124 = .ok (.iadd, 1) := by decide +kernel
theorem dX10_setEnvelope_125 : decode cX10_setEnvelope 125 = .ok (.iload 4, 2) := by decide +kernel
theorem dX10_setEnvelope_127 : decode cX10_setEnvelope 127 = .ok (.iastore, 1) := by decide +kernel
theorem dX10_setEnvelope_128 : decode cX10_setEnvelope 128 = .ok (.aload_n 0, 1) := by decide +kernel
theorem dX10_setEnvelope_129 : decode cX10_setEnvelope 129 = .ok (.getfield 9, 3) := by decide +kernel
theorem dX10_setEnvelope_132 : decode cX10_setEnvelope 132 = .ok (.iload 7, 2) := by decide +kernel
theorem dX10_setEnvelope_134 : decode cX10_setEnvelope 134 = .ok (.iconst 3, 1) := by decide +kernel
theorem dX10_setEnvelope_135 : decode cX10_setEnvelope 135 = .ok (.iadd, 1) := by decide +kernel
theorem dX10_setEnvelope_136 : decode cX10_setEnvelope 136 = .ok (.iload 5, 2) := by decide +kernel
theorem dX10_setEnvelope_138 : decode cX10_setEnvelope 138 = .ok (.iastore, 1) := by decide +kernel
theorem dX10_setEnvelope_139 : decode cX10_setEnvelope 139 = .ok (.iconst 0, 1) := by decide +kernel
theorem dX10_setEnvelope_140 : decode cX10_setEnvelope 140 = .ok (.istore 8, 2) := by decide +kernel
theorem dX10_setEnvelope_142 : decode cX10_setEnvelope 142 = .ok (.iconst 0, 1) := by decide +kernel
theorem dX10_setEnvelope_143 : decode cX10_setEnvelope 143 = .ok (.istore 9, 2) := by decide +kernel
theorem dX10_setEnvelope_145 : decode cX10_setEnvelope 145 = .ok (.iload 9, 2) := by decide +kernel
theorem dX10_setEnvelope_147 : decode cX10_setEnvelope 147 = .ok (.iconst 4, 1) := by decide +kernel
theorem dX10_setEnvelope_148 : decode cX10_setEnvelope 148 = .ok (.if_icmp .ge 81, 3) := by decide +kernel
theorem dX10_setEnvelope_151 : decode cX10_setEnvelope 151 = .ok (.iconst 1, 1) := by decide +kernel
theorem dX10_setEnvelope_152 : decode cX10_setEnvelope 152 = .ok (.istore 10, 2) := by decide +kernel
theorem dX10_setEnvelope_154 : decode cX10_setEnvelope 154 = .ok (.iconst 0, 1) := by decide +kernel
theorem dX10_setEnvelope_155 : decode cX10_setEnvelope 155 = .ok (.istore 11, 2) := by decide +kernel
theorem dX10_setEnvelope_157 : decode cX10_setEnvelope 157 = .ok (.iload 11, 2) := by decide +kernel
theorem dX10_setEnvelope_159 : decode cX10_setEnvelope 159 = .ok (.iconst 4, 1) := by decide +kernel
theorem dX10_setEnvelope_160 : decode cX10_setEnvelope 160 = .ok (.if_icmp .ge 48, 3) := by decide +kernel
theorem dX10_setEnvelope_163 : decode cX10_setEnvelope 163 = .ok (.iload 10, 2) := by decide +kernel
theorem dX10_setEnvelope_165 : decode cX10_setEnvelope 165 = .ok (.aload_n 0, 1) := by decide +kernel
theorem dX10_setEnvelope_166 : decode cX10_setEnvelope 166 = .ok (.getfield 9, 3) := by decide +kernel
theorem dX10_setEnvelope_169 : decode cX10_setEnvelope 169 = .ok (.sipush 474, 3) := by decide +kernel
theorem dX10_setEnvelope_172 : decode cX10_setEnvelope 172 = .ok (.iconst 5, 1) := by decide +kernel
theorem dX10_setEnvelope_173 : decode cX10_setEnvelope 173 = .ok (.iload 9, 2) := by decide +kernel
theorem dX10_setEnvelope_175 : decode cX10_setEnvelope 175 = .ok (.imul, 1) := by decide +kernel
theorem dX10_setEnvelope_176 : decode cX10_setEnvelope 176 = .ok (.iadd, 1) := by decide +kernel
theorem dX10_setEnvelope_177 : decode cX10_setEnvelope 177 = .ok (.iload 11, 2) := by decide +kernel
theorem dX10_setEnvelope_179 : decode cX10_setEnvelope 179 = .ok (.iadd, 1) := by decide +kernel
theorem dX10_setEnvelope_180 : decode cX10_setEnvelope 180 = .ok (.iaload, 1) := by decide +kernel
theorem dX10_setEnvelope_181 : decode cX10_setEnvelope 181 = .ok (.aload_n 0, 1) := by decide +kernel
theorem dX10_setEnvelope_182 : decode cX10_setEnvelope 182 = .ok (.getfield 9, 3) := by decide +kernel
theorem dX10_setEnvelope_185 : decode cX10_setEnvelope 185 = .ok (.iload 7, 2) := by decide +kernel
theorem dX10_setEnvelope_187 : decode cX10_setEnvelope 187 = .ok (.iload 11, 2) := by decide +kernel
theorem dX10_setEnvelope_189 : decode cX10_setEnvelope 189 = .ok (.iadd, 1) := by decide +kernel
theorem dX10_setEnvelope_190 : decode cX10_setEnvelope 190 = .ok (.iaload, 1) := by decide +kernel
theorem dX10_setEnvelope_191 : decode cX10_setEnvelope 191 = .ok (.if_icmp .ne 7, 3) := by decide +kernel
theorem dX10_setEnvelope_194 : decode cX10_setEnvelope 194 = .ok (.iconst 1, 1) := by decide +kernel
theorem dX10_setEnvelope_195 : decode cX10_setEnvelope 195 = .ok (.goto 4, 3) := by decide +kernel
theorem dX10_setEnvelope_198 : decode cX10_setEnvelope 198 = .ok (.iconst 0, 1) := by decide +kernel
theorem dX10_setEnvelope_199 : decode cX10_setEnvelope 199 = .ok (.iand, 1) := by decide +kernel
theorem dX10_setEnvelope_200 : decode cX10_setEnvelope 200 = .ok (.istore 10, 2) := by decide +kernel
theorem dX10_setEnvelope_202 : decode cX10_setEnvelope 202 = .ok (.iinc 11 1, 3) := by decide +kernel
theorem dX10_setEnvelope_205 : decode cX10_setEnvelope 205 = .ok (.goto (-48), 3) := by decide +kernel
theorem dX10_setEnvelope_208 : decode cX10_setEnvelope 208 = .ok (.iload 8, 2) := by decide +kernel
theorem dX10_setEnvelope_210 : decode cX10_setEnvelope 210 = .ok (.iload 10, 2) := by decide +kernel
theorem dX10_setEnvelope_212 : decode cX10_setEnvelope 212 = .ok (.ifCond .eq 7, 3) := by decide +kernel
theorem dX10_setEnvelope_215 : decode cX10_setEnvelope 215 = .ok (.iconst 1, 1) := by decide +kernel
theorem dX10_setEnvelope_216 : decode cX10_setEnvelope 216 = .ok (.goto 4, 3) := by decide +kernel
theorem dX10_setEnvelope_219 : decode cX10_setEnvelope 219 = .ok (.iconst 0, 1) := by decide +kernel
theorem dX10_setEnvelope_220 : decode cX10_setEnvelope 220 = .ok (.iadd, 1) := by decide +kernel
theorem dX10_setEnvelope_221 : decode cX10_setEnvelope 221 = .ok (.istore 8, 2) := by decide +kernel
theorem dX10_setEnvelope_223 : decode cX10_setEnvelope 223 = .ok (.iinc 9 1, 3) := by decide +kernel
theorem dX10_setEnvelope_226 : decode cX10_setEnvelope 226 = .ok (.goto (-81), 3) := by decide +kernel
theorem dX10_setEnvelope_229 : decode cX10_setEnvelope 229 = .ok (.iload 8, 2) := by decide +kernel
theorem dX10_setEnvelope_231 : decode cX10_setEnvelope 231 = .ok (.ireturn, 1) := by decide +kernel
theorem dX10_setPriority_0 : decode cX10_setPriority 0 = .ok (.aload_n 0, 1) := by decide +kernel
theorem dX10_setPriority_1 : decode cX10_setPriority 1 = .ok (.iconst 1, 1) := by decide +kernel
theorem dX10_setPriority_2 : decode cX10_setPriority 2 = .ok (.putfield 86, 3) := by decide +kernel
theorem dX10_setPriority_5 : decode cX10_setPriority 5 = .ok (.iload_n 1, 1) := by decide +kernel
theorem dX10_setPriority_6 : decode cX10_setPriority 6 = .ok (.invokestatic 227, 3) := by decide +kernel
theorem dX10_setPriority_9 : decode cX10_setPriority 9 = .ok (.ifCond .eq 24, 3) := by decide +kernel
theorem dX10_setPriority_12 : decode cX10_setPriority 12 = .ok (.aload_n 0, 1) := by decide +kernel
theorem dX10_setPriority_13 : decode cX10_setPriority 13 = .ok (.sipush 474, 3) := by decide +kernel
theorem dX10_setPriority_16 : decode cX10_setPriority 16 = .ok (.iconst 5, 1) := by decide +kernel
theorem dX10_setPriority_17 : decode cX10_setPriority 17 = .ok (.iload_n 1, 1) := by decide +kernel
theorem dX10_setPriority_18 : decode cX10_setPriority 18 = .ok (.imul, 1) := by decide +kernel
theorem dX10_setPriority_19 : decode cX10_setPriority 19 = .ok (.iadd, 1) := by decide +kernel
theorem dX10_setPriority_20 : decode cX10_setPriority 20 = .ok (.iconst 4, 1) := by decide +kernel
theorem dX10_setPriority_21 : decode cX10_setPriority 21 = .ok (.iadd, 1) := by decide +kernel
theorem dX10_setPriority_22 : decode cX10_setPriority 22 = .ok (.iload_n 2, 1) := by decide +kernel
theorem dX10_setPriority_23 : decode cX10_setPriority 23 = .ok (.iconst 0, 1) := by decide +kernel
theorem dX10_setPriority_24 : decode cX10_setPriority 24 = .ok (.bipush 9, 2) := by decide +kernel
theorem dX10_setPriority_26 : decode cX10_setPriority 26 = .ok (.iconst 2, 1) := by decide +kernel
theorem dX10_setPriority_27 : decode cX10_setPriority 27 = .ok (.invokevirtual 223, 3) := by decide +kernel
theorem dX10_setPriority_30 : decode cX10_setPriority 30 = .ok (.goto 4, 3) := by decide +kernel
theorem dX10_setPriority_33 : decode cX10_setPriority 33 = .ok (.iconst 0, 1) := by decide +kernel
theorem dX10_setPriority_34 : decode cX10_setPriority 34 = .ok (.ireturn, 1) := by decide +kernel
theorem dX10_setRule_0 : decode cX10_setRule 0 = .ok (.aload_n 0, 1) := by decide +kernel
theorem dX10_setRule_1 : decode cX10_setRule 1 = .ok (.sipush 496, 3) := by decide +kernel
theorem dX10_setRule_4 : decode cX10_setRule 4 = .ok (.iload_n 1, 1) := by decide +kernel
theorem dX10_setRule_5 : decode cX10_setRule 5 = .ok (.iconst 0, 1) := by decide +kernel
theorem dX10_setRule_6 : decode cX10_setRule 6 = .ok (.iconst 2, 1) := by decide +kernel
theorem dX10_setRule_7 : decode cX10_setRule 7 = .ok (.iconst 1, 1) := by decide +kernel
theorem dX10_setRule_8 : decode cX10_setRule 8 = .ok (.invokevirtual 223, 3) := by decide +kernel
theorem dX10_setRule_11 : decode cX10_setRule 11 = .ok (.ireturn, 1) := by decide +kernel
theorem dX10_setSwing_0 : decode cX10_setSwing 0 = .ok (.aload_n 0, 1) := by decide +kernel
theorem dX10_setSwing_1 : decode cX10_setSwing 1 = .ok (.sipush 494, 3) := by decide +kernel
theorem dX10_setSwing_4 : decode cX10_setSwing 4 = .ok (.iload_n 1, 1) := by decide +kernel
theorem dX10_setSwing_5 : decode cX10_setSwing 5 = .ok (.iconst 0, 1) := by decide +kernel
theorem dX10_setSwing_6 : decode cX10_setSwing 6 = .ok (.bipush 50, 2) := by decide +kernel
theorem dX10_setSwing_8 : decode cX10_setSwing 8 = .ok (.iconst 1, 1) := by decide +kernel
theorem dX10_setSwing_9 : decode cX10_setSwing 9 = .ok (.invokevirtual 223, 3) := by decide +kernel
theorem dX10_setSwing_12 : decode cX10_setSwing 12 = .ok (.ireturn, 1) := by decide +kernel
theorem dX10_setTempo_0 : decode cX10_setTempo 0 = .ok (.aload_n 0, 1) := by decide +kernel
theorem dX10_setTempo_1 : decode cX10_setTempo 1 = .ok (.iconst 0, 1) := by decide +kernel
theorem dX10_setTempo_2 : decode cX10_setTempo 2 = .ok (.putfield 86, 3) := by decide +kernel
theorem dX10_setTempo_5 : decode cX10_setTempo 5 = .ok (.iload_n 1, 1) := by decide +kernel
theorem dX10_setTempo_6 : decode cX10_setTempo 6 = .ok (.iconst 0, 1) := by decide +kernel
theorem dX10_setTempo_7 : decode cX10_setTempo 7 = .ok (.sipush 30000, 3) := by decide +kernel
theorem dX10_setTempo_10 : decode cX10_setTempo 10 = .ok (.invokestatic 98, 3) := by decide +kernel
theorem dX10_setTempo_13 : decode cX10_setTempo 13 = .ok (.ifCond .eq 14, 3) := by decide +kernel
theorem dX10_setTempo_16 : decode cX10_setTempo 16 = .ok (.iload_n 2, 1) := by decide +kernel
theorem dX10_setTempo_17 : decode cX10_setTempo 17 = .ok (.iconst 1, 1) := by decide +kernel
theorem dX10_setTempo_18 : decode cX10_setTempo 18 = .ok (.sipush 1000, 3) := by decide +kernel
theorem dX10_setTempo_21 : decode cX10_setTempo 21 = .ok (.invokestatic 98, 3) := by decide +kernel
theorem dX10_setTempo_24 : decode cX10_setTempo 24 = .ok (.ifCond .ne 9, 3) := by decide +kernel
theorem dX10_setTempo_27 : decode cX10_setTempo 27 = .ok (.aload_n 0, 1) := by decide +kernel
theorem dX10_setTempo_28 : decode cX10_setTempo 28 = .ok (.iconst 1, 1) := by decide +kernel
theorem dX10_setTempo_29 : decode cX10_setTempo 29 = .ok (.invokevirtual 144, 3) := by decide +kernel
theorem dX10_setTempo_32 : decode cX10_setTempo 32 = .ok (.ireturn, 1) := by decide +kernel
theorem dX10_setTempo_33 : decode cX10_setTempo 33 = .ok (.iconst 0, 1) := by decide +kernel
theorem dX10_setTempo_34 : decode cX10_setTempo 34 = .ok (.istore_n 3, 1) := by decide +kernel
theorem dX10_setTempo_35 : decode cX10_setTempo 35 = .ok (.iload_n 3, 1) := by decide +kernel
theorem dX10_setTempo_36 : decode cX10_setTempo 36 = .ok (.aload_n 0, 1) := by decide +kernel
theorem dX10_setTempo_37 : decode cX10_setTempo 37 = .ok (.getfield 9, 3) := by decide +kernel
theorem dX10_setTempo_40 : decode cX10_setTempo 40 = .ok (.sipush 453, 3) := by decide +kernel
theorem dX10_setTempo_43 : decode cX10_setTempo 43 = .ok (.iaload, 1) := by decide +kernel
theorem dX10_setTempo_44 : decode cX10_setTempo 44 = .ok (.if_icmp .ge 25, 3) := by decide +kernel
theorem dX10_setTempo_47 : decode cX10_setTempo 47 = .ok (.aload_n 0, 1) := by decide +kernel
theorem dX10_setTempo_48 : decode cX10_setTempo 48 = .ok (.getfield 9, 3) := by decide +kernel
theorem dX10_setTempo_51 : decode cX10_setTempo 51 = .ok (.sipush 454, 3) := by decide +kernel
theorem dX10_setTempo_54 : decode cX10_setTempo 54 = .ok (.iconst 2, 1) := by decide +kernel
theorem dX10_setTempo_55 : decode cX10_setTempo 55 = .ok (.iload_n 3, 1) := by decide +kernel
theorem dX10_setTempo_56 : decode cX10_setTempo 56 = .ok (.imul, 1) := by decide +kernel
theorem dX10_setTempo_57 : decode cX10_setTempo 57 = .ok (.iadd, 1) := by decide +kernel
theorem dX10_setTempo_58 : decode cX10_setTempo 58 = .ok (.iaload, 1) := by decide +kernel
theorem dX10_setTempo_59 : decode cX10_setTempo 59 = .ok (.iload_n 1, 1) := by decide +kernel
theorem dX10_setTempo_60 : decode cX10_setTempo 60 = .ok (.if_icmp .ge 9, 3) := by decide +kernel
theorem dX10_setTempo_63 : decode cX10_setTempo 63 = .ok (.iinc 3 1, 3) := by decide +kernel
theorem dX10_setTempo_66 : decode cX10_setTempo 66 = .ok (.goto (-31), 3) := by decide +kernel
theorem dX10_setTempo_69 : decode cX10_setTempo 69 = .ok (.iload_n 3, 1) := by decide +kernel
theorem dX10_setTempo_70 : decode cX10_setTempo 70 = .ok (.aload_n 0, 1) := by decide +kernel
theorem dX10_setTempo_71 : decode cX10_setTempo 71 = .ok (.getfield 9, 3) := by decide +kernel
theorem dX10_setTempo_74 : decode cX10_setTempo 74 = .ok (.sipush 453, 3) := by decide +kernel
theorem dX10_setTempo_77 : decode cX10_setTempo 77 = .ok (.iaload, 1) := by decide +kernel
theorem dX10_setTempo_78 : decode cX10_setTempo 78 = .ok (.if_icmp .ge 23, 3) := by decide +kernel
theorem dX10_setTempo_81 : decode cX10_setTempo 81 = .ok (.aload_n 0, 1) := by decide +kernel
theorem dX10_setTempo_82 : decode cX10_setTempo 82 = .ok (.getfield 9, 3) := by decide +kernel
theorem dX10_setTempo_85 : decode cX10_setTempo 85 = .ok (.sipush 454, 3) := by decide +kernel
theorem dX10_setTempo_88 : decode cX10_setTempo 88 = .ok (.iconst 2, 1) := by decide +kernel
theorem dX10_setTempo_89 : decode cX10_setTempo 89 = .ok (.iload_n 3, 1) := by decide +kernel
theorem dX10_setTempo_90 : decode cX10_setTempo 90 = .ok (.imul, 1) := by decide +kernel
theorem dX10_setTempo_91 : decode cX10_setTempo 91 = .ok (.iadd, 1) := by decide +kernel
theorem dX10_setTempo_92 : decode cX10_setTempo 92 = .ok (.iaload, 1) := by decide +kernel
theorem dX10_setTempo_93 : decode cX10_setTempo 93 = .ok (.iload_n 1, 1) := by decide +kernel
theorem dX10_setTempo_94 : decode cX10_setTempo 94 = .ok (.if_icmp .ne 7, 3) := by decide +kernel
theorem dX10_setTempo_97 : decode cX10_setTempo 97 = .ok (.iconst 1, 1) := by decide +kernel
theorem dX10_setTempo_98 : decode cX10_setTempo 98 = .ok (.goto 4, 3) := by decide +kernel
theorem dX10_setTempo_101 : decode cX10_setTempo 101 = .ok (.iconst 0, 1) := by decide +kernel
theorem dX10_setTempo_102 : decode cX10_setTempo 102 = .ok (.istore 4, 2) := by decide +kernel
theorem dX10_setTempo_104 : decode cX10_setTempo 104 = .ok (.iload 4, 2) := by decide +kernel
theorem dX10_setTempo_106 : decode cX10_setTempo 106 = .ok (.ifCond .ne 22, 3) := by decide +kernel
theorem dX10_setTempo_109 : decode cX10_setTempo 109 = .ok (.aload_n 0, 1) := by decide +kernel
theorem dX10_setTempo_110 : decode cX10_setTempo 110 = .ok (.getfield 9, 3) := by decide +kernel
theorem dX10_setTempo_113 : decode cX10_setTempo 113 = .ok (.sipush 453, 3) := by decide +kernel
theorem dX10_setTempo_116 : decode cX10_setTempo 116 = .ok (.iaload, 1) := by decide +kernel
theorem dX10_setTempo_117 : decode cX10_setTempo 117 = .ok (.bipush 10, 2) := by decide +kernel
theorem dX10_setTempo_119 : decode cX10_setTempo 119 = .ok (.if_icmp .ne 9, 3) := by decide +kernel
theorem dX10_setTempo_128 : decode cX10_setTempo 128 = .ok (.aload_n 0, 1) := by decide +kernel
theorem dX10_setTempo_129 : decode cX10_setTempo 129 = .ok (.invokevirtual 151, 3) := by decide +kernel
theorem dX10_setTempo_132 : decode cX10_setTempo 132 = .ok (.iload 4, 2) := by decide +kernel
theorem dX10_setTempo_134 : decode cX10_setTempo 134 = .ok (.ifCond .ne 80, 3) := by decide +kernel
theorem dX10_setTempo_137 : decode cX10_setTempo 137 = .ok (.iconst 2, 1) := by decide +kernel
theorem dX10_setTempo_138 : decode cX10_setTempo 138 = .ok (.aload_n 0, 1) := by decide +kernel
theorem dX10_setTempo_139 : decode cX10_setTempo 139 = .ok (.getfield 9, 3) := by decide +kernel
theorem dX10_setTempo_142 : decode cX10_setTempo 142 = .ok (.sipush 453, 3) := by decide +kernel
theorem dX10_setTempo_145 : decode cX10_setTempo 145 = .ok (.iaload, 1) := by decide +kernel
theorem dX10_setTempo_146 : decode cX10_setTempo 146 = .ok (.imul, 1) := by decide +kernel
theorem dX10_setTempo_147 : decode cX10_setTempo 147 = .ok (.iconst 1, 1) := by decide +kernel
theorem dX10_setTempo_148 : decode cX10_setTempo 148 = .ok (.isub, 1) := by decide +kernel
theorem dX10_setTempo_149 : decode cX10_setTempo 149 = .ok (.istore 5, 2) := by decide +kernel
theorem dX10_setTempo_151 : decode cX10_setTempo 151 = .ok (.iload 5, 2) := by decide +kernel
theorem dX10_setTempo_153 : decode cX10_setTempo 153 = .ok (.iconst 2, 1) := by decide +kernel
theorem dX10_setTempo_154 : decode cX10_setTempo 154 = .ok (.iload_n 3, 1) := by decide +kernel
theorem dX10_setTempo_155 : decode cX10_setTempo 155 = .ok (.imul, 1) := by decide +kernel
theorem dX10_setTempo_156 : decode cX10_setTempo 156 = .ok (.if_icmp .lt 33, 3) := by decide +kernel
theorem dX10_setTempo_159 : decode cX10_setTempo 159 = .ok (.aload_n 0, 1) := by decide +kernel
theorem dX10_setTempo_160 : decode cX10_setTempo 160 = .ok (.getfield 9, 3) := by decide +kernel
theorem dX10_setTempo_163 : decode cX10_setTempo 163 = .ok (.sipush 454, 3) := by decide +kernel
theorem dX10_setTempo_166 : decode cX10_setTempo 166 = .ok (.iload 5, 2) := by decide +kernel
theorem dX10_setTempo_168 : decode cX10_setTempo 168 = .ok (.iadd, 1) := by decide +kernel
theorem dX10_setTempo_169 : decode cX10_setTempo 169 = .ok (.iconst 2, 1) := by decide +kernel
theorem dX10_setTempo_170 : decode cX10_setTempo 170 = .ok (.iadd, 1) := by decide +kernel
theorem dX10_setTempo_171 : decode cX10_setTempo 171 = .ok (.aload_n 0, 1) := by decide +kernel
theorem dX10_setTempo_172 : decode cX10_setTempo 172 = .ok (.getfield 9, 3) := by decide +kernel
theorem dX10_setTempo_175 : decode cX10_setTempo 175 = .ok (.sipush 454, 3) := by decide +kernel
theorem dX10_setTempo_178 : decode cX10_setTempo 178 = .ok (.iload 5, 2) := by decide +kernel
theorem dX10_setTempo_180 : decode cX10_setTempo 180 = .ok (.iadd, 1) := by decide +kernel
theorem dX10_setTempo_181 : decode cX10_setTempo 181 = .ok (.iaload, 1) := by decide +kernel
theorem dX10_setTempo_182 : decode cX10_setTempo 182 = .ok (.iastore, 1) := by decide +kernel
theorem dX10_setTempo_183 : decode cX10_setTempo 183 = .ok (.iinc 5 (-1), 3) := by decide +kernel
theorem dX10_setTempo_186 : decode cX10_setTempo 186 = .ok (.goto (-35), 3) := by decide +kernel
theorem dX10_setTempo_189 : decode cX10_setTempo 189 = .ok (.aload_n 0, 1) := by decide +kernel
theorem dX10_setTempo_190 : decode cX10_setTempo 190 = .ok (.getfield 9, 3) := by decide +kernel
theorem dX10_setTempo_193 : decode cX10_setTempo 193 = .ok (.sipush 453, 3) := by decide +kernel
theorem dX10_setTempo_196 : decode cX10_setTempo 196 = .ok (.dup2, 1) := by decide +kernel
theorem dX10_setTempo_197 : decode cX10_setTempo 197 = .ok (.iaload, 1) := by decide +kernel
theorem dX10_setTempo_198 : decode cX10_setTempo 198 = .ok (.iconst 1, 1) := by decide +kernel
theorem dX10_setTempo_199 : decode cX10_setTempo 199 = .ok (.iadd, 1) := by decide +kernel
theorem dX10_setTempo_200 : decode cX10_setTempo 200 = .ok (.iastore, 1) := by decide +kernel
theorem dX10_setTempo_201 : decode cX10_setTempo 201 = .ok (.aload_n 0, 1) := by decide +kernel
theorem dX10_setTempo_202 : decode cX10_setTempo 202 = .ok (.getfield 9, 3) := by decide +kernel
theorem dX10_setTempo_205 : decode cX10_setTempo 205 = .ok (.sipush 454, 3) := by decide +kernel
theorem dX10_setTempo_208 : decode cX10_setTempo 208 = .ok (.iconst 2, 1) := by decide +kernel
theorem dX10_setTempo_209 : decode cX10_setTempo 209 = .ok (.iload_n 3, 1) := by decide +kernel
theorem dX10_setTempo_210 : decode cX10_setTempo 210 = .ok (.imul, 1) := by decide +kernel
theorem dX10_setTempo_211 : decode cX10_setTempo 211 = .ok (.iadd, 1) := by decide +kernel
theorem dX10_setTempo_212 : decode cX10_setTempo 212 = .ok (.iload_n 1, 1) := by decide +kernel
theorem dX10_setTempo_213 : decode cX10_setTempo 213 = .ok (.iastore, 1) := by decide +kernel
theorem dX10_setTempo_214 : decode cX10_setTempo 214 = .ok (.aload_n 0, 1) := by decide +kernel
theorem dX10_setTempo_215 : decode cX10_setTempo 215 = .ok (.getfield 9, 3) := by decide +kernel
theorem dX10_setTempo_218 : decode cX10_setTempo 218 = .ok (.sipush 454, 3) := by decide +kernel
theorem dX10_setTempo_221 : decode cX10_setTempo 221 = .ok (.iconst 2, 1) := by decide +kernel
theorem dX10_setTempo_222 : decode cX10_setTempo 222 = .ok (.iload_n 3, 1) := by decide +kernel
theorem dX10_setTempo_223 : decode cX10_setTempo 223 = .ok (.imul, 1) := by decide +kernel
theorem dX10_setTempo_224 : decode cX10_setTempo 224 = .ok (.iadd, 1) := by decide +kernel
theorem dX10_setTempo_225 : decode cX10_setTempo 225 = .ok (.iconst 1, 1) := by decide +kernel
theorem dX10_setTempo_226 : decode cX10_setTempo 226 = .ok (.iadd, 1) := by decide +kernel
theorem dX10_setTempo_227 : decode cX10_setTempo 227 = .ok (.iload_n 2, 1) := by decide +kernel
theorem dX10_setTempo_228 : decode cX10_setTempo 228 = .ok (.iastore, 1) := by decide +kernel
theorem dX10_setTempo_229 : decode cX10_setTempo 229 = .ok (.aload_n 0, 1) := by decide +kernel
theorem dX10_setTempo_230 : decode cX10_setTempo 230 = .ok (.getfield 9, 3) := by decide +kernel
theorem dX10_setTempo_233 : decode cX10_setTempo 233 = .ok (.sipush 453, 3) := by decide +kernel
theorem dX10_setTempo_236 : decode cX10_setTempo 236 = .ok (.iaload, 1) := by decide +kernel
theorem dX10_setTempo_237 : decode cX10_setTempo 237 = .ok (.ireturn, 1) := by decide +kernel
theorem dX10_setVoices_0 : decode cX10_setVoices 0 = .ok (.aload_n 0, 1) := by decide +kernel
theorem dX10_setVoices_1 : decode cX10_setVoices 1 = .ok (.sipush 495, 3) := by decide +kernel
theorem dX10_setVoices_4 : decode cX10_setVoices 4 = .ok (.iload_n 1, 1) := by decide +kernel
theorem dX10_setVoices_5 : decode cX10_setVoices 5 = .ok (.iconst 1, 1) := by decide +kernel
theorem dX10_setVoices_6 : decode cX10_setVoices 6 = .ok (.bipush 8, 2) := by decide +kernel
theorem dX10_setVoices_8 : decode cX10_setVoices 8 = .ok (.iconst 1, 1) := by decide +kernel
theorem dX10_setVoices_9 : decode cX10_setVoices 9 = .ok (.invokevirtual 223, 3) := by decide +kernel
theorem dX10_setVoices_12 : decode cX10_setVoices 12 = .ok (.ireturn, 1) := by decide +kernel
theorem dX10_sets_0 : decode cX10_sets 0 = .ok (.aload_n 0, 1) := by decide +kernel
theorem dX10_sets_1 : decode cX10_sets 1 = .ok (.iload_n 2, 1) := by decide +kernel
theorem dX10_sets_2 : decode cX10_sets 2 = .ok (.iload_n 3, 1) := by decide +kernel
theorem dX10_sets_3 : decode cX10_sets 3 = .ok (.iload 4, 2) := by decide +kernel
theorem dX10_sets_5 : decode cX10_sets 5 = .ok (.invokestatic 98, 3) := by decide +kernel
theorem dX10_sets_8 : decode cX10_sets 8 = .ok (.ifCond .eq 7, 3) := by decide +kernel
theorem dX10_sets_11 : decode cX10_sets 11 = .ok (.iconst 0, 1) := by decide +kernel
theorem dX10_sets_12 : decode cX10_sets 12 = .ok (.goto 5, 3) := by decide +kernel
theorem dX10_sets_15 : decode cX10_sets 15 = .ok (.iload 5, 2) := by decide +kernel
theorem dX10_sets_17 : decode cX10_sets 17 = .ok (.putfield 86, 3) := by decide +kernel
theorem dX10_sets_20 : decode cX10_sets 20 = .ok (.aload_n 0, 1) := by decide +kernel
theorem dX10_sets_21 : decode cX10_sets 21 = .ok (.getfield 86, 3) := by decide +kernel
theorem dX10_sets_24 : decode cX10_sets 24 = .ok (.ifCond .le 5, 3) := by decide +kernel
theorem dX10_sets_27 : decode cX10_sets 27 = .ok (.iconst 0, 1) := by decide +kernel
theorem dX10_sets_28 : decode cX10_sets 28 = .ok (.ireturn, 1) := by decide +kernel
theorem dX10_sets_29 : decode cX10_sets 29 = .ok (.aload_n 0, 1) := by decide +kernel
theorem dX10_sets_30 : decode cX10_sets 30 = .ok (.invokevirtual 151, 3) := by decide +kernel
theorem dX10_sets_33 : decode cX10_sets 33 = .ok (.aload_n 0, 1) := by decide +kernel
theorem dX10_sets_34 : decode cX10_sets 34 = .ok (.getfield 9, 3) := by decide +kernel
theorem dX10_sets_37 : decode cX10_sets 37 = .ok (.iload_n 1, 1) := by decide +kernel
theorem dX10_sets_38 : decode cX10_sets 38 = .ok (.iaload, 1) := by decide +kernel
theorem dX10_sets_39 : decode cX10_sets 39 = .ok (.istore 6, 2) := by decide +kernel
theorem dX10_sets_41 : decode cX10_sets 41 = .ok (.aload_n 0, 1) := by decide +kernel
theorem dX10_sets_42 : decode cX10_sets 42 = .ok (.getfield 9, 3) := by decide +kernel
theorem dX10_sets_45 : decode cX10_sets 45 = .ok (.iload_n 1, 1) := by decide +kernel
theorem dX10_sets_46 : decode cX10_sets 46 = .ok (.iload_n 2, 1) := by decide +kernel
theorem dX10_sets_47 : decode cX10_sets 47 = .ok (.iastore, 1) := by decide +kernel
theorem dX10_sets_48 : decode cX10_sets 48 = .ok (.iload 6, 2) := by decide +kernel
theorem dX10_sets_50 : decode cX10_sets 50 = .ok (.ireturn, 1) := by decide +kernel
theorem dX10_sounding_0 : decode cX10_sounding 0 = .ok (.aload_n 0, 1) := by decide +kernel
theorem dX10_sounding_1 : decode cX10_sounding 1 = .ok (.iload_n 1, 1) := by decide +kernel
theorem dX10_sounding_2 : decode cX10_sounding 2 = .ok (.iconst 0, 1) := by decide +kernel
theorem dX10_sounding_3 : decode cX10_sounding 3 = .ok (.ldc 226, 2) := by decide +kernel
theorem dX10_sounding_5 : decode cX10_sounding 5 = .ok (.invokestatic 98, 3) := by decide +kernel
theorem dX10_sounding_8 : decode cX10_sounding 8 = .ok (.ifCond .eq 7, 3) := by decide +kernel
theorem dX10_sounding_11 : decode cX10_sounding 11 = .ok (.iconst 0, 1) := by decide +kernel
theorem dX10_sounding_12 : decode cX10_sounding 12 = .ok (.goto 4, 3) := by decide +kernel
theorem dX10_sounding_15 : decode cX10_sounding 15 = .ok (.iconst 1, 1) := by decide +kernel
theorem dX10_sounding_16 : decode cX10_sounding 16 = .ok (.putfield 86, 3) := by decide +kernel
theorem dX10_sounding_19 : decode cX10_sounding 19 = .ok (.aload_n 0, 1) := by decide +kernel
theorem dX10_sounding_20 : decode cX10_sounding 20 = .ok (.invokevirtual 217, 3) := by decide +kernel
theorem dX10_sounding_23 : decode cX10_sounding 23 = .ok (.aload_n 0, 1) := by decide +kernel
theorem dX10_sounding_24 : decode cX10_sounding 24 = .ok (.getfield 86, 3) := by decide +kernel
theorem dX10_sounding_27 : decode cX10_sounding 27 = .ok (.ifCond .le 7, 3) := by decide +kernel
theorem dX10_sounding_30 : decode cX10_sounding 30 = .ok (.iconst 0, 1) := by decide +kernel
theorem dX10_sounding_31 : decode cX10_sounding 31 = .ok (.goto 8, 3) := by decide +kernel
theorem dX10_sounding_34 : decode cX10_sounding 34 = .ok (.aload_n 0, 1) := by decide +kernel
theorem dX10_sounding_35 : decode cX10_sounding 35 = .ok (.iload_n 1, 1) := by decide +kernel
theorem dX10_sounding_36 : decode cX10_sounding 36 = .ok (.invokevirtual 230, 3) := by decide +kernel
theorem dX10_sounding_39 : decode cX10_sounding 39 = .ok (.ireturn, 1) := by decide +kernel
theorem dX10_soundingAt_0 : decode cX10_soundingAt 0 = .ok (.iconst 0, 1) := by decide +kernel
theorem dX10_soundingAt_1 : decode cX10_soundingAt 1 = .ok (.istore_n 2, 1) := by decide +kernel
theorem dX10_soundingAt_2 : decode cX10_soundingAt 2 = .ok (.iconst 0, 1) := by decide +kernel
theorem dX10_soundingAt_3 : decode cX10_soundingAt 3 = .ok (.istore_n 3, 1) := by decide +kernel
theorem dX10_soundingAt_4 : decode cX10_soundingAt 4 = .ok (.iload_n 3, 1) := by decide +kernel
theorem dX10_soundingAt_5 : decode cX10_soundingAt 5 = .ok (.aload_n 0, 1) := by decide +kernel
theorem dX10_soundingAt_6 : decode cX10_soundingAt 6 = .ok (.getfield 176, 3) := by decide +kernel
theorem dX10_soundingAt_9 : decode cX10_soundingAt 9 = .ok (.if_icmp .ge 33, 3) := by decide +kernel
theorem dX10_soundingAt_42 : decode cX10_soundingAt 42 = .ok (.iload_n 2, 1) := by decide +kernel
theorem dX10_soundingAt_43 : decode cX10_soundingAt 43 = .ok (.ireturn, 1) := by decide +kernel
theorem dX10_take_0 : decode cX10_take 0 = .ok (.aload_n 0, 1) := by decide +kernel
theorem dX10_take_1 : decode cX10_take 1 = .ok (.aload_n 0, 1) := by decide +kernel
theorem dX10_take_2 : decode cX10_take 2 = .ok (.getfield 257, 3) := by decide +kernel
theorem dX10_take_5 : decode cX10_take 5 = .ok (.ifCond .ne 11, 3) := by decide +kernel
theorem dX10_take_16 : decode cX10_take 16 = .ok (.iconst 1, 1) := by decide +kernel
theorem dX10_take_17 : decode cX10_take 17 = .ok (.goto 4, 3) := by decide +kernel
theorem dX10_take_21 : decode cX10_take 21 = .ok (.putfield 257, 3) := by decide +kernel
theorem dX10_take_24 : decode cX10_take 24 = .ok (.aload_n 0, 1) := by decide +kernel
theorem dX10_take_25 : decode cX10_take 25 = .ok (.dup, 1) := by decide +kernel
theorem dX10_take_26 : decode cX10_take 26 = .ok (.getfield 251, 3) := by decide +kernel
theorem dX10_take_29 : decode cX10_take 29 = .ok (.aload_n 0, 1) := by decide +kernel
theorem dX10_take_30 : decode cX10_take 30 = .ok (.getfield 257, 3) := by decide +kernel
theorem dX10_take_33 : decode cX10_take 33 = .ok (.ifCond .eq 7, 3) := by decide +kernel
theorem dX10_take_36 : decode cX10_take 36 = .ok (.iconst 0, 1) := by decide +kernel
theorem dX10_take_37 : decode cX10_take 37 = .ok (.goto 4, 3) := by decide +kernel
theorem dX10_take_41 : decode cX10_take 41 = .ok (.iadd, 1) := by decide +kernel
theorem dX10_take_42 : decode cX10_take 42 = .ok (.putfield 251, 3) := by decide +kernel
theorem dX10_take_45 : decode cX10_take 45 = .ok (.return_, 1) := by decide +kernel
theorem dX10_tempo_0 : decode cX10_tempo 0 = .ok (.aload_n 0, 1) := by decide +kernel
theorem dX10_tempo_1 : decode cX10_tempo 1 = .ok (.iload_n 1, 1) := by decide +kernel
theorem dX10_tempo_2 : decode cX10_tempo 2 = .ok (.iconst 0, 1) := by decide +kernel
theorem dX10_tempo_3 : decode cX10_tempo 3 = .ok (.sipush 30000, 3) := by decide +kernel
theorem dX10_tempo_6 : decode cX10_tempo 6 = .ok (.invokestatic 98, 3) := by decide +kernel
theorem dX10_tempo_9 : decode cX10_tempo 9 = .ok (.ifCond .eq 7, 3) := by decide +kernel
theorem dX10_tempo_12 : decode cX10_tempo 12 = .ok (.iconst 0, 1) := by decide +kernel
theorem dX10_tempo_13 : decode cX10_tempo 13 = .ok (.goto 4, 3) := by decide +kernel
theorem dX10_tempo_16 : decode cX10_tempo 16 = .ok (.iconst 1, 1) := by decide +kernel
theorem dX10_tempo_17 : decode cX10_tempo 17 = .ok (.putfield 86, 3) := by decide +kernel
theorem dX10_tempo_20 : decode cX10_tempo 20 = .ok (.aload_n 0, 1) := by decide +kernel
theorem dX10_tempo_21 : decode cX10_tempo 21 = .ok (.getfield 86, 3) := by decide +kernel
theorem dX10_tempo_24 : decode cX10_tempo 24 = .ok (.ifCond .le 7, 3) := by decide +kernel
theorem dX10_tempo_27 : decode cX10_tempo 27 = .ok (.iconst 0, 1) := by decide +kernel
theorem dX10_tempo_28 : decode cX10_tempo 28 = .ok (.goto 8, 3) := by decide +kernel
theorem dX10_tempo_31 : decode cX10_tempo 31 = .ok (.aload_n 0, 1) := by decide +kernel
theorem dX10_tempo_32 : decode cX10_tempo 32 = .ok (.iload_n 1, 1) := by decide +kernel
theorem dX10_tempo_33 : decode cX10_tempo 33 = .ok (.invokevirtual 189, 3) := by decide +kernel
theorem dX10_tempo_36 : decode cX10_tempo 36 = .ok (.ireturn, 1) := by decide +kernel
theorem dX10_tempoAt_0 : decode cX10_tempoAt 0 = .ok (.iconst 0, 1) := by decide +kernel
theorem dX10_tempoAt_1 : decode cX10_tempoAt 1 = .ok (.istore_n 2, 1) := by decide +kernel
theorem dX10_tempoAt_2 : decode cX10_tempoAt 2 = .ok (.iconst 0, 1) := by decide +kernel
theorem dX10_tempoAt_3 : decode cX10_tempoAt 3 = .ok (.istore_n 3, 1) := by decide +kernel
theorem dX10_tempoAt_4 : decode cX10_tempoAt 4 = .ok (.iload_n 3, 1) := by decide +kernel
theorem dX10_tempoAt_5 : decode cX10_tempoAt 5 = .ok (.aload_n 0, 1) := by decide +kernel
theorem dX10_tempoAt_6 : decode cX10_tempoAt 6 = .ok (.getfield 9, 3) := by decide +kernel
theorem dX10_tempoAt_9 : decode cX10_tempoAt 9 = .ok (.sipush 453, 3) := by decide +kernel
theorem dX10_tempoAt_12 : decode cX10_tempoAt 12 = .ok (.iaload, 1) := by decide +kernel
theorem dX10_tempoAt_13 : decode cX10_tempoAt 13 = .ok (.if_icmp .ge 44, 3) := by decide +kernel
theorem dX10_tempoAt_16 : decode cX10_tempoAt 16 = .ok (.aload_n 0, 1) := by decide +kernel
theorem dX10_tempoAt_17 : decode cX10_tempoAt 17 = .ok (.getfield 9, 3) := by decide +kernel
theorem dX10_tempoAt_20 : decode cX10_tempoAt 20 = .ok (.sipush 454, 3) := by decide +kernel
theorem dX10_tempoAt_23 : decode cX10_tempoAt 23 = .ok (.iconst 2, 1) := by decide +kernel
theorem dX10_tempoAt_24 : decode cX10_tempoAt 24 = .ok (.iload_n 3, 1) := by decide +kernel
theorem dX10_tempoAt_25 : decode cX10_tempoAt 25 = .ok (.imul, 1) := by decide +kernel
theorem dX10_tempoAt_26 : decode cX10_tempoAt 26 = .ok (.iadd, 1) := by decide +kernel
theorem dX10_tempoAt_27 : decode cX10_tempoAt 27 = .ok (.iaload, 1) := by decide +kernel
theorem dX10_tempoAt_28 : decode cX10_tempoAt 28 = .ok (.iload_n 1, 1) := by decide +kernel
theorem dX10_tempoAt_29 : decode cX10_tempoAt 29 = .ok (.if_icmp .gt 20, 3) := by decide +kernel
theorem dX10_tempoAt_32 : decode cX10_tempoAt 32 = .ok (.aload_n 0, 1) := by decide +kernel
theorem dX10_tempoAt_33 : decode cX10_tempoAt 33 = .ok (.getfield 9, 3) := by decide +kernel
theorem dX10_tempoAt_36 : decode cX10_tempoAt 36 = .ok (.sipush 454, 3) := by decide +kernel
theorem dX10_tempoAt_39 : decode cX10_tempoAt 39 = .ok (.iconst 2, 1) := by decide +kernel
theorem dX10_tempoAt_40 : decode cX10_tempoAt 40 = .ok (.iload_n 3, 1) := by decide +kernel
theorem dX10_tempoAt_41 : decode cX10_tempoAt 41 = .ok (.imul, 1) := by decide +kernel
theorem dX10_tempoAt_42 : decode cX10_tempoAt 42 = .ok (.iadd, 1) := by decide +kernel
theorem dX10_tempoAt_43 : decode cX10_tempoAt 43 = .ok (.iconst 1, 1) := by decide +kernel
theorem dX10_tempoAt_44 : decode cX10_tempoAt 44 = .ok (.iadd, 1) := by decide +kernel
theorem dX10_tempoAt_45 : decode cX10_tempoAt 45 = .ok (.iaload, 1) := by decide +kernel
theorem dX10_tempoAt_46 : decode cX10_tempoAt 46 = .ok (.goto 4, 3) := by decide +kernel
theorem dX10_tempoAt_50 : decode cX10_tempoAt 50 = .ok (.istore_n 2, 1) := by decide +kernel
theorem dX10_tempoAt_51 : decode cX10_tempoAt 51 = .ok (.iinc 3 1, 3) := by decide +kernel
theorem dX10_tempoAt_54 : decode cX10_tempoAt 54 = .ok (.goto (-50), 3) := by decide +kernel
theorem dX10_tempoAt_57 : decode cX10_tempoAt 57 = .ok (.iload_n 2, 1) := by decide +kernel
theorem dX10_tempoAt_58 : decode cX10_tempoAt 58 = .ok (.ireturn, 1) := by decide +kernel
theorem dX10_thrown_0 : decode cX10_thrown 0 = .ok (.aload_n 0, 1) := by decide +kernel
theorem dX10_thrown_1 : decode cX10_thrown 1 = .ok (.getfield 86, 3) := by decide +kernel
theorem dX10_thrown_4 : decode cX10_thrown 4 = .ok (.ireturn, 1) := by decide +kernel
theorem dX10_tickAt_0 : decode cX10_tickAt 0 = .ok (.aload_n 0, 1) := by decide +kernel
theorem dX10_tickAt_1 : decode cX10_tickAt 1 = .ok (.iload_n 1, 1) := by decide +kernel
theorem dX10_tickAt_2 : decode cX10_tickAt 2 = .ok (.iconst 0, 1) := by decide +kernel
theorem dX10_tickAt_3 : decode cX10_tickAt 3 = .ok (.ldc 226, 2) := by decide +kernel
theorem dX10_tickAt_5 : decode cX10_tickAt 5 = .ok (.invokestatic 98, 3) := by decide +kernel
theorem dX10_tickAt_8 : decode cX10_tickAt 8 = .ok (.ifCond .eq 7, 3) := by decide +kernel
theorem dX10_tickAt_11 : decode cX10_tickAt 11 = .ok (.iconst 0, 1) := by decide +kernel
theorem dX10_tickAt_12 : decode cX10_tickAt 12 = .ok (.goto 4, 3) := by decide +kernel
theorem dX10_tickAt_15 : decode cX10_tickAt 15 = .ok (.iconst 1, 1) := by decide +kernel
theorem dX10_tickAt_16 : decode cX10_tickAt 16 = .ok (.putfield 86, 3) := by decide +kernel
theorem dX10_tickAt_19 : decode cX10_tickAt 19 = .ok (.aload_n 0, 1) := by decide +kernel
theorem dX10_tickAt_20 : decode cX10_tickAt 20 = .ok (.getfield 86, 3) := by decide +kernel
theorem dX10_tickAt_23 : decode cX10_tickAt 23 = .ok (.ifCond .le 5, 3) := by decide +kernel
theorem dX10_tickAt_26 : decode cX10_tickAt 26 = .ok (.iconst 0, 1) := by decide +kernel
theorem dX10_tickAt_27 : decode cX10_tickAt 27 = .ok (.ireturn, 1) := by decide +kernel
theorem dX10_tickAt_28 : decode cX10_tickAt 28 = .ok (.iconst 0, 1) := by decide +kernel
theorem dX10_tickAt_29 : decode cX10_tickAt 29 = .ok (.istore_n 2, 1) := by decide +kernel
theorem dX10_tickAt_30 : decode cX10_tickAt 30 = .ok (.sipush 30000, 3) := by decide +kernel
theorem dX10_tickAt_33 : decode cX10_tickAt 33 = .ok (.istore_n 3, 1) := by decide +kernel
theorem dX10_tickAt_34 : decode cX10_tickAt 34 = .ok (.iload_n 2, 1) := by decide +kernel
theorem dX10_tickAt_35 : decode cX10_tickAt 35 = .ok (.iload_n 3, 1) := by decide +kernel
theorem dX10_tickAt_36 : decode cX10_tickAt 36 = .ok (.if_icmp .ge 37, 3) := by decide +kernel
theorem dX10_tickAt_39 : decode cX10_tickAt 39 = .ok (.iload_n 2, 1) := by decide +kernel
theorem dX10_tickAt_40 : decode cX10_tickAt 40 = .ok (.iload_n 3, 1) := by decide +kernel
theorem dX10_tickAt_41 : decode cX10_tickAt 41 = .ok (.iadd, 1) := by decide +kernel
theorem dX10_tickAt_42 : decode cX10_tickAt 42 = .ok (.iconst 1, 1) := by decide +kernel
theorem dX10_tickAt_43 : decode cX10_tickAt 43 = .ok (.iadd, 1) := by decide +kernel
theorem dX10_tickAt_44 : decode cX10_tickAt 44 = .ok (.iconst 2, 1) := by decide +kernel
theorem dX10_tickAt_45 : decode cX10_tickAt 45 = .ok (.idiv, 1) := by decide +kernel
theorem dX10_tickAt_46 : decode cX10_tickAt 46 = .ok (.istore 4, 2) := by decide +kernel
theorem dX10_tickAt_48 : decode cX10_tickAt 48 = .ok (.aload_n 0, 1) := by decide +kernel
theorem dX10_tickAt_49 : decode cX10_tickAt 49 = .ok (.iload 4, 2) := by decide +kernel
theorem dX10_tickAt_51 : decode cX10_tickAt 51 = .ok (.iconst 1, 1) := by decide +kernel
theorem dX10_tickAt_52 : decode cX10_tickAt 52 = .ok (.invokevirtual 182, 3) := by decide +kernel
theorem dX10_tickAt_55 : decode cX10_tickAt 55 = .ok (.iload_n 1, 1) := by decide +kernel
theorem dX10_tickAt_56 : decode cX10_tickAt 56 = .ok (.if_icmp .gt 9, 3) := by decide +kernel
theorem dX10_tickAt_59 : decode cX10_tickAt 59 = .ok (.iload 4, 2) := by decide +kernel
theorem dX10_tickAt_61 : decode cX10_tickAt 61 = .ok (.istore_n 2, 1) := by decide +kernel
theorem dX10_tickAt_62 : decode cX10_tickAt 62 = .ok (.goto 8, 3) := by decide +kernel
theorem dX10_tickAt_65 : decode cX10_tickAt 65 = .ok (.iload 4, 2) := by decide +kernel
theorem dX10_tickAt_67 : decode cX10_tickAt 67 = .ok (.iconst 1, 1) := by decide +kernel
theorem dX10_tickAt_68 : decode cX10_tickAt 68 = .ok (.isub, 1) := by decide +kernel
theorem dX10_tickAt_69 : decode cX10_tickAt 69 = .ok (.istore_n 3, 1) := by decide +kernel
theorem dX10_tickAt_70 : decode cX10_tickAt 70 = .ok (.goto (-36), 3) := by decide +kernel
theorem dX10_tickAt_73 : decode cX10_tickAt 73 = .ok (.iload_n 2, 1) := by decide +kernel
theorem dX10_tickAt_74 : decode cX10_tickAt 74 = .ok (.ireturn, 1) := by decide +kernel
theorem dX10_time_0 : decode cX10_time 0 = .ok (.iconst 0, 1) := by decide +kernel
theorem dX10_time_1 : decode cX10_time 1 = .ok (.istore_n 3, 1) := by decide +kernel
theorem dX10_time_2 : decode cX10_time 2 = .ok (.iconst 0, 1) := by decide +kernel
theorem dX10_time_3 : decode cX10_time 3 = .ok (.istore 4, 2) := by decide +kernel
theorem dX10_time_5 : decode cX10_time 5 = .ok (.iload 4, 2) := by decide +kernel
theorem dX10_time_7 : decode cX10_time 7 = .ok (.aload_n 0, 1) := by decide +kernel
theorem dX10_time_8 : decode cX10_time 8 = .ok (.getfield 9, 3) := by decide +kernel
theorem dX10_time_11 : decode cX10_time 11 = .ok (.sipush 453, 3) := by decide +kernel
theorem dX10_time_14 : decode cX10_time 14 = .ok (.iaload, 1) := by decide +kernel
theorem dX10_time_15 : decode cX10_time 15 = .ok (.if_icmp .ge 92, 3) := by decide +kernel
theorem dX10_time_18 : decode cX10_time 18 = .ok (.aload_n 0, 1) := by decide +kernel
theorem dX10_time_19 : decode cX10_time 19 = .ok (.getfield 9, 3) := by decide +kernel
theorem dX10_time_22 : decode cX10_time 22 = .ok (.sipush 454, 3) := by decide +kernel
theorem dX10_time_25 : decode cX10_time 25 = .ok (.iconst 2, 1) := by decide +kernel
theorem dX10_time_26 : decode cX10_time 26 = .ok (.iload 4, 2) := by decide +kernel
theorem dX10_time_28 : decode cX10_time 28 = .ok (.imul, 1) := by decide +kernel
theorem dX10_time_29 : decode cX10_time 29 = .ok (.iadd, 1) := by decide +kernel
theorem dX10_time_30 : decode cX10_time 30 = .ok (.iaload, 1) := by decide +kernel
theorem dX10_time_31 : decode cX10_time 31 = .ok (.istore 5, 2) := by decide +kernel
theorem dX10_time_33 : decode cX10_time 33 = .ok (.iload 4, 2) := by decide +kernel
theorem dX10_time_35 : decode cX10_time 35 = .ok (.iconst 1, 1) := by decide +kernel
theorem dX10_time_36 : decode cX10_time 36 = .ok (.iadd, 1) := by decide +kernel
theorem dX10_time_37 : decode cX10_time 37 = .ok (.aload_n 0, 1) := by decide +kernel
theorem dX10_time_38 : decode cX10_time 38 = .ok (.getfield 9, 3) := by decide +kernel
theorem dX10_time_41 : decode cX10_time 41 = .ok (.sipush 453, 3) := by decide +kernel
theorem dX10_time_44 : decode cX10_time 44 = .ok (.iaload, 1) := by decide +kernel
theorem dX10_time_45 : decode cX10_time 45 = .ok (.if_icmp .ge 25, 3) := by decide +kernel
theorem dX10_time_70 : decode cX10_time 70 = .ok (.iload_n 1, 1) := by decide +kernel
theorem dX10_time_71 : decode cX10_time 71 = .ok (.istore 6, 2) := by decide +kernel
theorem dX10_time_73 : decode cX10_time 73 = .ok (.iload_n 3, 1) := by decide +kernel
theorem dX10_time_74 : decode cX10_time 74 = .ok (.iconst 0, 1) := by decide +kernel
theorem dX10_time_75 : decode cX10_time 75 = .ok (.iload 6, 2) := by decide +kernel
theorem dX10_time_77 : decode cX10_time 77 = .ok (.iload 5, 2) := by decide +kernel
theorem dX10_time_79 : decode cX10_time 79 = .ok (.isub, 1) := by decide +kernel
theorem dX10_time_80 : decode cX10_time 80 = .ok (.invokestatic 154, 3) := by decide +kernel
theorem dX10_time_83 : decode cX10_time 83 = .ok (.aload_n 0, 1) := by decide +kernel
theorem dX10_time_84 : decode cX10_time 84 = .ok (.getfield 9, 3) := by decide +kernel
theorem dX10_time_87 : decode cX10_time 87 = .ok (.sipush 454, 3) := by decide +kernel
theorem dX10_time_90 : decode cX10_time 90 = .ok (.iconst 2, 1) := by decide +kernel
theorem dX10_time_91 : decode cX10_time 91 = .ok (.iload 4, 2) := by decide +kernel
theorem dX10_time_93 : decode cX10_time 93 = .ok (.imul, 1) := by decide +kernel
theorem dX10_time_94 : decode cX10_time 94 = .ok (.iadd, 1) := by decide +kernel
theorem dX10_time_95 : decode cX10_time 95 = .ok (.iconst 1, 1) := by decide +kernel
theorem dX10_time_96 : decode cX10_time 96 = .ok (.iadd, 1) := by decide +kernel
theorem dX10_time_97 : decode cX10_time 97 = .ok (.iaload, 1) := by decide +kernel
theorem dX10_time_98 : decode cX10_time 98 = .ok (.imul, 1) := by decide +kernel
theorem dX10_time_99 : decode cX10_time 99 = .ok (.iadd, 1) := by decide +kernel
theorem dX10_time_100 : decode cX10_time 100 = .ok (.istore_n 3, 1) := by decide +kernel
theorem dX10_time_101 : decode cX10_time 101 = .ok (.iinc 4 1, 3) := by decide +kernel
theorem dX10_time_104 : decode cX10_time 104 = .ok (.goto (-99), 3) := by decide +kernel
theorem dX10_time_107 : decode cX10_time 107 = .ok (.iload_n 2, 1) := by decide +kernel
theorem dX10_time_108 : decode cX10_time 108 = .ok (.ifCond .ne 9, 3) := by decide +kernel
theorem dX10_time_111 : decode cX10_time 111 = .ok (.iload_n 1, 1) := by decide +kernel
theorem dX10_time_112 : decode cX10_time 112 = .ok (.iconst 2, 1) := by decide +kernel
theorem dX10_time_113 : decode cX10_time 113 = .ok (.irem, 1) := by decide +kernel
theorem dX10_time_114 : decode cX10_time 114 = .ok (.ifCond .ne 7, 3) := by decide +kernel
theorem dX10_time_117 : decode cX10_time 117 = .ok (.iload_n 3, 1) := by decide +kernel
theorem dX10_time_118 : decode cX10_time 118 = .ok (.goto 22, 3) := by decide +kernel
theorem dX10_time_121 : decode cX10_time 121 = .ok (.iload_n 3, 1) := by decide +kernel
theorem dX10_time_122 : decode cX10_time 122 = .ok (.aload_n 0, 1) := by decide +kernel
theorem dX10_time_123 : decode cX10_time 123 = .ok (.getfield 9, 3) := by decide +kernel
theorem dX10_time_126 : decode cX10_time 126 = .ok (.sipush 494, 3) := by decide +kernel
theorem dX10_time_129 : decode cX10_time 129 = .ok (.iaload, 1) := by decide +kernel
theorem dX10_time_130 : decode cX10_time 130 = .ok (.aload_n 0, 1) := by decide +kernel
theorem dX10_time_131 : decode cX10_time 131 = .ok (.iload_n 1, 1) := by decide +kernel
theorem dX10_time_132 : decode cX10_time 132 = .ok (.invokevirtual 189, 3) := by decide +kernel
theorem dX10_time_135 : decode cX10_time 135 = .ok (.imul, 1) := by decide +kernel
theorem dX10_time_136 : decode cX10_time 136 = .ok (.bipush 100, 2) := by decide +kernel
theorem dX10_time_138 : decode cX10_time 138 = .ok (.idiv, 1) := by decide +kernel
theorem dX10_time_139 : decode cX10_time 139 = .ok (.iadd, 1) := by decide +kernel
theorem dX10_time_140 : decode cX10_time 140 = .ok (.ireturn, 1) := by decide +kernel
theorem dX10_timeOf_0 : decode cX10_timeOf 0 = .ok (.aload_n 0, 1) := by decide +kernel
theorem dX10_timeOf_1 : decode cX10_timeOf 1 = .ok (.iload_n 1, 1) := by decide +kernel
theorem dX10_timeOf_2 : decode cX10_timeOf 2 = .ok (.iconst 0, 1) := by decide +kernel
theorem dX10_timeOf_3 : decode cX10_timeOf 3 = .ok (.sipush 30000, 3) := by decide +kernel
theorem dX10_timeOf_6 : decode cX10_timeOf 6 = .ok (.invokestatic 98, 3) := by decide +kernel
theorem dX10_timeOf_9 : decode cX10_timeOf 9 = .ok (.ifCond .eq 7, 3) := by decide +kernel
theorem dX10_timeOf_12 : decode cX10_timeOf 12 = .ok (.iconst 0, 1) := by decide +kernel
theorem dX10_timeOf_13 : decode cX10_timeOf 13 = .ok (.goto 4, 3) := by decide +kernel
theorem dX10_timeOf_16 : decode cX10_timeOf 16 = .ok (.iconst 1, 1) := by decide +kernel
theorem dX10_timeOf_17 : decode cX10_timeOf 17 = .ok (.putfield 86, 3) := by decide +kernel
theorem dX10_timeOf_20 : decode cX10_timeOf 20 = .ok (.aload_n 0, 1) := by decide +kernel
theorem dX10_timeOf_21 : decode cX10_timeOf 21 = .ok (.getfield 86, 3) := by decide +kernel
theorem dX10_timeOf_24 : decode cX10_timeOf 24 = .ok (.ifCond .le 7, 3) := by decide +kernel
theorem dX10_timeOf_27 : decode cX10_timeOf 27 = .ok (.iconst 0, 1) := by decide +kernel
theorem dX10_timeOf_28 : decode cX10_timeOf 28 = .ok (.goto 9, 3) := by decide +kernel
theorem dX10_timeOf_31 : decode cX10_timeOf 31 = .ok (.aload_n 0, 1) := by decide +kernel
theorem dX10_timeOf_32 : decode cX10_timeOf 32 = .ok (.iload_n 1, 1) := by decide +kernel
theorem dX10_timeOf_33 : decode cX10_timeOf 33 = .ok (.iload_n 2, 1) := by decide +kernel
theorem dX10_timeOf_34 : decode cX10_timeOf 34 = .ok (.invokevirtual 182, 3) := by decide +kernel
theorem dX10_timeOf_37 : decode cX10_timeOf 37 = .ok (.ireturn, 1) := by decide +kernel
theorem dX10_undo_0 : decode cX10_undo 0 = .ok (.aload_n 0, 1) := by decide +kernel
theorem dX10_undo_1 : decode cX10_undo 1 = .ok (.iconst 0, 1) := by decide +kernel
theorem dX10_undo_2 : decode cX10_undo 2 = .ok (.putfield 86, 3) := by decide +kernel
theorem dX10_undo_5 : decode cX10_undo 5 = .ok (.aload_n 0, 1) := by decide +kernel
theorem dX10_undo_6 : decode cX10_undo 6 = .ok (.getfield 89, 3) := by decide +kernel
theorem dX10_undo_9 : decode cX10_undo 9 = .ok (.ifCond .ne 9, 3) := by decide +kernel
theorem dX10_undo_12 : decode cX10_undo 12 = .ok (.aload_n 0, 1) := by decide +kernel
theorem dX10_undo_13 : decode cX10_undo 13 = .ok (.iconst 1, 1) := by decide +kernel
theorem dX10_undo_14 : decode cX10_undo 14 = .ok (.invokevirtual 144, 3) := by decide +kernel
theorem dX10_undo_17 : decode cX10_undo 17 = .ok (.ireturn, 1) := by decide +kernel
theorem dX1_init_0 : decode cX1_init 0 = .ok (.aload_n 0, 1) := by decide +kernel
theorem dX1_init_1 : decode cX1_init 1 = .ok (.invokespecial 1, 3) := by decide +kernel
theorem dX1_init_4 : decode cX1_init 4 = .ok (.aload_n 0, 1) := by decide +kernel
theorem dX1_init_5 : decode cX1_init 5 = .ok (.iconst 0, 1) := by decide +kernel
theorem dX1_init_6 : decode cX1_init 6 = .ok (.iload_n 1, 1) := by decide +kernel
theorem dX1_init_7 : decode cX1_init 7 = .ok (.invokestatic 7, 3) := by decide +kernel
theorem dX1_init_10 : decode cX1_init 10 = .ok (.newarray .long, 2) := by decide +kernel
theorem dX1_init_12 : decode cX1_init 12 = .ok (.putfield 13, 3) := by decide +kernel
theorem dX1_init_15 : decode cX1_init 15 = .ok (.return_, 1) := by decide +kernel
theorem dX1_sort_0 : decode cX1_sort 0 = .ok (.iload_n 2, 1) := by decide +kernel
theorem dX1_sort_1 : decode cX1_sort 1 = .ok (.aload_n 1, 1) := by decide +kernel
theorem dX1_sort_2 : decode cX1_sort 2 = .ok (.arraylength, 1) := by decide +kernel
theorem dX1_sort_3 : decode cX1_sort 3 = .ok (.aload_n 0, 1) := by decide +kernel
theorem dX1_sort_4 : decode cX1_sort 4 = .ok (.getfield 13, 3) := by decide +kernel
theorem dX1_sort_7 : decode cX1_sort 7 = .ok (.arraylength, 1) := by decide +kernel
theorem dX1_sort_8 : decode cX1_sort 8 = .ok (.invokestatic 19, 3) := by decide +kernel
theorem dX1_sort_11 : decode cX1_sort 11 = .ok (.invokestatic 19, 3) := by decide +kernel
theorem dX1_sort_14 : decode cX1_sort 14 = .ok (.istore_n 3, 1) := by decide +kernel
theorem dX1_sort_15 : decode cX1_sort 15 = .ok (.iconst 1, 1) := by decide +kernel
theorem dX1_sort_16 : decode cX1_sort 16 = .ok (.istore 4, 2) := by decide +kernel
theorem dX1_sort_18 : decode cX1_sort 18 = .ok (.iload 4, 2) := by decide +kernel
theorem dX1_sort_20 : decode cX1_sort 20 = .ok (.iload_n 3, 1) := by decide +kernel
theorem dX1_sort_21 : decode cX1_sort 21 = .ok (.if_icmp .ge 59, 3) := by decide +kernel
theorem dX1_sort_80 : decode cX1_sort 80 = .ok (.return_, 1) := by decide +kernel
theorem dX2_empty_0 : decode cX2_empty 0 = .ok (.aload_n 0, 1) := by decide +kernel
theorem dX2_empty_1 : decode cX2_empty 1 = .ok (.iconst 0, 1) := by decide +kernel
theorem dX2_empty_2 : decode cX2_empty 2 = .ok (.putfield 7, 3) := by decide +kernel
theorem dX2_empty_5 : decode cX2_empty 5 = .ok (.return_, 1) := by decide +kernel
theorem dX2_init_0 : decode cX2_init 0 = .ok (.aload_n 0, 1) := by decide +kernel
theorem dX2_init_1 : decode cX2_init 1 = .ok (.invokespecial 1, 3) := by decide +kernel
theorem dX2_init_4 : decode cX2_init 4 = .ok (.aload_n 0, 1) := by decide +kernel
theorem dX2_init_5 : decode cX2_init 5 = .ok (.iconst 0, 1) := by decide +kernel
theorem dX2_init_6 : decode cX2_init 6 = .ok (.putfield 7, 3) := by decide +kernel
theorem dX2_init_9 : decode cX2_init 9 = .ok (.aload_n 0, 1) := by decide +kernel
theorem dX2_init_10 : decode cX2_init 10 = .ok (.iconst 0, 1) := by decide +kernel
theorem dX2_init_11 : decode cX2_init 11 = .ok (.iload_n 1, 1) := by decide +kernel
theorem dX2_init_12 : decode cX2_init 12 = .ok (.invokestatic 13, 3) := by decide +kernel
theorem dX2_init_15 : decode cX2_init 15 = .ok (.newarray .char, 2) := by decide +kernel
theorem dX2_init_17 : decode cX2_init 17 = .ok (.putfield 19, 3) := by decide +kernel
theorem dX2_init_20 : decode cX2_init 20 = .ok (.return_, 1) := by decide +kernel
theorem dX2_isFull_0 : decode cX2_isFull 0 = .ok (.aload_n 0, 1) := by decide +kernel
theorem dX2_isFull_1 : decode cX2_isFull 1 = .ok (.getfield 7, 3) := by decide +kernel
theorem dX2_isFull_4 : decode cX2_isFull 4 = .ok (.aload_n 0, 1) := by decide +kernel
theorem dX2_isFull_5 : decode cX2_isFull 5 = .ok (.getfield 19, 3) := by decide +kernel
theorem dX2_isFull_8 : decode cX2_isFull 8 = .ok (.arraylength, 1) := by decide +kernel
theorem dX2_isFull_9 : decode cX2_isFull 9 = .ok (.if_icmp .lt 7, 3) := by decide +kernel
theorem dX2_isFull_16 : decode cX2_isFull 16 = .ok (.iconst 0, 1) := by decide +kernel
theorem dX2_isFull_17 : decode cX2_isFull 17 = .ok (.ireturn, 1) := by decide +kernel
theorem dX2_put_0 : decode cX2_put 0 = .ok (.aload_n 0, 1) := by decide +kernel
theorem dX2_put_1 : decode cX2_put 1 = .ok (.getfield 7, 3) := by decide +kernel
theorem dX2_put_4 : decode cX2_put 4 = .ok (.ifCond .lt 35, 3) := by decide +kernel
theorem dX2_put_7 : decode cX2_put 7 = .ok (.aload_n 0, 1) := by decide +kernel
theorem dX2_put_8 : decode cX2_put 8 = .ok (.getfield 7, 3) := by decide +kernel
theorem dX2_put_11 : decode cX2_put 11 = .ok (.aload_n 0, 1) := by decide +kernel
theorem dX2_put_12 : decode cX2_put 12 = .ok (.getfield 19, 3) := by decide +kernel
theorem dX2_put_15 : decode cX2_put 15 = .ok (.arraylength, 1) := by decide +kernel
theorem dX2_put_16 : decode cX2_put 16 = .ok (.if_icmp .ge 23, 3) := by decide +kernel
theorem dX2_put_19 : decode cX2_put 19 = .ok (.aload_n 0, 1) := by decide +kernel
theorem dX2_put_20 : decode cX2_put 20 = .ok (.getfield 19, 3) := by decide +kernel
theorem dX2_put_23 : decode cX2_put 23 = .ok (.aload_n 0, 1) := by decide +kernel
theorem dX2_put_24 : decode cX2_put 24 = .ok (.getfield 7, 3) := by decide +kernel
theorem dX2_put_27 : decode cX2_put 27 = .ok (.iload_n 1, 1) := by decide +kernel
theorem dX2_put_28 : decode cX2_put 28 = .ok (.castore, 1) := by decide +kernel
theorem dX2_put_29 : decode cX2_put 29 = .ok (.aload_n 0, 1) := by decide +kernel
theorem dX2_put_30 : decode cX2_put 30 = .ok (.dup, 1) := by decide +kernel
theorem dX2_put_31 : decode cX2_put 31 = .ok (.getfield 7, 3) := by decide +kernel
theorem dX2_put_34 : decode cX2_put 34 = .ok (.iconst 1, 1) := by decide +kernel
theorem dX2_put_35 : decode cX2_put 35 = .ok (.iadd, 1) := by decide +kernel
theorem dX2_put_36 : decode cX2_put 36 = .ok (.putfield 7, 3) := by decide +kernel
theorem dX2_put_39 : decode cX2_put 39 = .ok (.return_, 1) := by decide +kernel
theorem dX2_signAt_0 : decode cX2_signAt 0 = .ok (.iload_n 1, 1) := by decide +kernel
theorem dX2_signAt_1 : decode cX2_signAt 1 = .ok (.ifCond .lt 29, 3) := by decide +kernel
theorem dX2_signAt_4 : decode cX2_signAt 4 = .ok (.iload_n 1, 1) := by decide +kernel
theorem dX2_signAt_5 : decode cX2_signAt 5 = .ok (.aload_n 0, 1) := by decide +kernel
theorem dX2_signAt_6 : decode cX2_signAt 6 = .ok (.getfield 7, 3) := by decide +kernel
theorem dX2_signAt_9 : decode cX2_signAt 9 = .ok (.if_icmp .ge 21, 3) := by decide +kernel
theorem dX2_signAt_30 : decode cX2_signAt 30 = .ok (.iconst 0, 1) := by decide +kernel
theorem dX2_signAt_31 : decode cX2_signAt 31 = .ok (.ireturn, 1) := by decide +kernel
theorem dX2_size_0 : decode cX2_size 0 = .ok (.aload_n 0, 1) := by decide +kernel
theorem dX2_size_1 : decode cX2_size 1 = .ok (.getfield 7, 3) := by decide +kernel
theorem dX2_size_4 : decode cX2_size 4 = .ok (.ireturn, 1) := by decide +kernel
theorem dX3_copyFrom_0 : decode cX3_copyFrom 0 = .ok (.aload_n 1, 1) := by decide +kernel
theorem dX3_copyFrom_1 : decode cX3_copyFrom 1 = .ok (.getfield 9, 3) := by decide +kernel
theorem dX3_copyFrom_4 : decode cX3_copyFrom 4 = .ok (.aload_n 0, 1) := by decide +kernel
theorem dX3_copyFrom_5 : decode cX3_copyFrom 5 = .ok (.getfield 9, 3) := by decide +kernel
theorem dX3_copyFrom_8 : decode cX3_copyFrom 8 = .ok (.invokestatic 28, 3) := by decide +kernel
theorem dX3_copyFrom_11 : decode cX3_copyFrom 11 = .ok (.aload_n 1, 1) := by decide +kernel
theorem dX3_copyFrom_12 : decode cX3_copyFrom 12 = .ok (.getfield 15, 3) := by decide +kernel
theorem dX3_copyFrom_15 : decode cX3_copyFrom 15 = .ok (.aload_n 0, 1) := by decide +kernel
theorem dX3_copyFrom_16 : decode cX3_copyFrom 16 = .ok (.getfield 15, 3) := by decide +kernel
theorem dX3_copyFrom_19 : decode cX3_copyFrom 19 = .ok (.invokestatic 28, 3) := by decide +kernel
theorem dX3_copyFrom_22 : decode cX3_copyFrom 22 = .ok (.return_, 1) := by decide +kernel
theorem dX3_figure_0 : decode cX3_figure 0 = .ok (.iload_n 1, 1) := by decide +kernel
theorem dX3_figure_1 : decode cX3_figure 1 = .ok (.iconst 5, 1) := by decide +kernel
theorem dX3_figure_2 : decode cX3_figure 2 = .ok (.imul, 1) := by decide +kernel
theorem dX3_figure_3 : decode cX3_figure 3 = .ok (.iload_n 2, 1) := by decide +kernel
theorem dX3_figure_4 : decode cX3_figure 4 = .ok (.iadd, 1) := by decide +kernel
theorem dX3_figure_5 : decode cX3_figure 5 = .ok (.istore_n 3, 1) := by decide +kernel
theorem dX3_figure_6 : decode cX3_figure 6 = .ok (.iload_n 3, 1) := by decide +kernel
theorem dX3_figure_7 : decode cX3_figure 7 = .ok (.ifCond .lt 21, 3) := by decide +kernel
theorem dX3_figure_10 : decode cX3_figure 10 = .ok (.iload_n 3, 1) := by decide +kernel
theorem dX3_figure_11 : decode cX3_figure 11 = .ok (.aload_n 0, 1) := by decide +kernel
theorem dX3_figure_12 : decode cX3_figure 12 = .ok (.getfield 15, 3) := by decide +kernel
theorem dX3_figure_15 : decode cX3_figure 15 = .ok (.arraylength, 1) := by decide +kernel
theorem dX3_figure_16 : decode cX3_figure 16 = .ok (.if_icmp .ge 12, 3) := by decide +kernel
theorem dX3_figure_19 : decode cX3_figure 19 = .ok (.aload_n 0, 1) := by decide +kernel
theorem dX3_figure_20 : decode cX3_figure 20 = .ok (.getfield 15, 3) := by decide +kernel
theorem dX3_figure_23 : decode cX3_figure 23 = .ok (.iload_n 3, 1) := by decide +kernel
theorem dX3_figure_24 : decode cX3_figure 24 = .ok (.iaload, 1) := by decide +kernel
theorem dX3_figure_25 : decode cX3_figure 25 = .ok (.goto 4, 3) := by decide +kernel
theorem dX3_figure_29 : decode cX3_figure 29 = .ok (.ireturn, 1) := by decide +kernel
theorem dX3_findNote_0 : decode cX3_findNote 0 = .ok (.iload_n 2, 1) := by decide +kernel
theorem dX3_findNote_1 : decode cX3_findNote 1 = .ok (.ifCond .ge 5, 3) := by decide +kernel
theorem dX3_findNote_4 : decode cX3_findNote 4 = .ok (.iconst (-1), 1) := by decide +kernel
theorem dX3_findNote_5 : decode cX3_findNote 5 = .ok (.ireturn, 1) := by decide +kernel
theorem dX3_findNote_6 : decode cX3_findNote 6 = .ok (.iload_n 1, 1) := by decide +kernel
theorem dX3_findNote_7 : decode cX3_findNote 7 = .ok (.istore_n 3, 1) := by decide +kernel
theorem dX3_findNote_8 : decode cX3_findNote 8 = .ok (.iconst 0, 1) := by decide +kernel
theorem dX3_findNote_9 : decode cX3_findNote 9 = .ok (.istore 4, 2) := by decide +kernel
theorem dX3_findNote_11 : decode cX3_findNote 11 = .ok (.iload_n 2, 1) := by decide +kernel
theorem dX3_findNote_12 : decode cX3_findNote 12 = .ok (.istore 5, 2) := by decide +kernel
theorem dX3_findNote_14 : decode cX3_findNote 14 = .ok (.iconst 0, 1) := by decide +kernel
theorem dX3_findNote_15 : decode cX3_findNote 15 = .ok (.istore 6, 2) := by decide +kernel
theorem dX3_findNote_17 : decode cX3_findNote 17 = .ok (.iconst 0, 1) := by decide +kernel
theorem dX3_findNote_18 : decode cX3_findNote 18 = .ok (.istore 7, 2) := by decide +kernel
theorem dX3_findNote_20 : decode cX3_findNote 20 = .ok (.iload 7, 2) := by decide +kernel
theorem dX3_findNote_22 : decode cX3_findNote 22 = .ok (.bipush 96, 2) := by decide +kernel
theorem dX3_findNote_24 : decode cX3_findNote 24 = .ok (.if_icmp .ge 137, 3) := by decide +kernel
theorem dX3_findNote_27 : decode cX3_findNote 27 = .ok (.iload 4, 2) := by decide +kernel
theorem dX3_findNote_29 : decode cX3_findNote 29 = .ok (.aload_n 0, 1) := by decide +kernel
theorem dX3_findNote_30 : decode cX3_findNote 30 = .ok (.iload_n 3, 1) := by decide +kernel
theorem dX3_findNote_31 : decode cX3_findNote 31 = .ok (.iconst 0, 1) := by decide +kernel
theorem dX3_findNote_32 : decode cX3_findNote 32 = .ok (.invokevirtual 32, 3) := by decide +kernel
theorem dX3_findNote_35 : decode cX3_findNote 35 = .ok (.if_icmp .ge 126, 3) := by decide +kernel
theorem dX3_findNote_161 : decode cX3_findNote 161 = .ok (.iconst (-1), 1) := by decide +kernel
theorem dX3_findNote_162 : decode cX3_findNote 162 = .ok (.ireturn, 1) := by decide +kernel
theorem dX3_init_0 : decode cX3_init 0 = .ok (.aload_n 0, 1) := by decide +kernel
theorem dX3_init_1 : decode cX3_init 1 = .ok (.invokespecial 3, 3) := by decide +kernel
theorem dX3_init_4 : decode cX3_init 4 = .ok (.aload_n 0, 1) := by decide +kernel
theorem dX3_init_5 : decode cX3_init 5 = .ok (.sipush 384, 3) := by decide +kernel
theorem dX3_init_8 : decode cX3_init 8 = .ok (.newarray .int, 2) := by decide +kernel
theorem dX3_init_10 : decode cX3_init 10 = .ok (.putfield 9, 3) := by decide +kernel
theorem dX3_init_13 : decode cX3_init 13 = .ok (.aload_n 0, 1) := by decide +kernel
theorem dX3_init_14 : decode cX3_init 14 = .ok (.bipush 40, 2) := by decide +kernel
theorem dX3_init_16 : decode cX3_init 16 = .ok (.newarray .int, 2) := by decide +kernel
theorem dX3_init_18 : decode cX3_init 18 = .ok (.putfield 15, 3) := by decide +kernel
theorem dX3_init_21 : decode cX3_init 21 = .ok (.return_, 1) := by decide +kernel
theorem dX3_itemNumber_0 : decode cX3_itemNumber 0 = .ok (.iload_n 1, 1) := by decide +kernel
theorem dX3_itemNumber_1 : decode cX3_itemNumber 1 = .ok (.bipush 12, 2) := by decide +kernel
theorem dX3_itemNumber_3 : decode cX3_itemNumber 3 = .ok (.imul, 1) := by decide +kernel
theorem dX3_itemNumber_4 : decode cX3_itemNumber 4 = .ok (.iload_n 2, 1) := by decide +kernel
theorem dX3_itemNumber_5 : decode cX3_itemNumber 5 = .ok (.iadd, 1) := by decide +kernel
theorem dX3_itemNumber_6 : decode cX3_itemNumber 6 = .ok (.iconst 4, 1) := by decide +kernel
theorem dX3_itemNumber_7 : decode cX3_itemNumber 7 = .ok (.imul, 1) := by decide +kernel
theorem dX3_itemNumber_8 : decode cX3_itemNumber 8 = .ok (.iload_n 3, 1) := by decide +kernel
theorem dX3_itemNumber_9 : decode cX3_itemNumber 9 = .ok (.iadd, 1) := by decide +kernel
theorem dX3_itemNumber_10 : decode cX3_itemNumber 10 = .ok (.istore 4, 2) := by decide +kernel
theorem dX3_itemNumber_12 : decode cX3_itemNumber 12 = .ok (.iload 4, 2) := by decide +kernel
theorem dX3_itemNumber_14 : decode cX3_itemNumber 14 = .ok (.ifCond .lt 23, 3) := by decide +kernel
theorem dX3_itemNumber_17 : decode cX3_itemNumber 17 = .ok (.iload 4, 2) := by decide +kernel
theorem dX3_itemNumber_19 : decode cX3_itemNumber 19 = .ok (.aload_n 0, 1) := by decide +kernel
theorem dX3_itemNumber_20 : decode cX3_itemNumber 20 = .ok (.getfield 9, 3) := by decide +kernel
theorem dX3_itemNumber_23 : decode cX3_itemNumber 23 = .ok (.arraylength, 1) := by decide +kernel
theorem dX3_itemNumber_24 : decode cX3_itemNumber 24 = .ok (.if_icmp .ge 13, 3) := by decide +kernel
theorem dX3_itemNumber_27 : decode cX3_itemNumber 27 = .ok (.aload_n 0, 1) := by decide +kernel
theorem dX3_itemNumber_28 : decode cX3_itemNumber 28 = .ok (.getfield 9, 3) := by decide +kernel
theorem dX3_itemNumber_31 : decode cX3_itemNumber 31 = .ok (.iload 4, 2) := by decide +kernel
theorem dX3_itemNumber_33 : decode cX3_itemNumber 33 = .ok (.iaload, 1) := by decide +kernel
theorem dX3_itemNumber_34 : decode cX3_itemNumber 34 = .ok (.goto 4, 3) := by decide +kernel
theorem dX3_itemNumber_38 : decode cX3_itemNumber 38 = .ok (.ireturn, 1) := by decide +kernel
theorem dX3_lengthOf_0 : decode cX3_lengthOf 0 = .ok (.aload_n 0, 1) := by decide +kernel
theorem dX3_lengthOf_1 : decode cX3_lengthOf 1 = .ok (.iload_n 1, 1) := by decide +kernel
theorem dX3_lengthOf_2 : decode cX3_lengthOf 2 = .ok (.iload_n 2, 1) := by decide +kernel
theorem dX3_lengthOf_3 : decode cX3_lengthOf 3 = .ok (.iconst 2, 1) := by decide +kernel
theorem dX3_lengthOf_4 : decode cX3_lengthOf 4 = .ok (.invokevirtual 54, 3) := by decide +kernel
theorem dX3_lengthOf_7 : decode cX3_lengthOf 7 = .ok (.istore_n 3, 1) := by decide +kernel
theorem dX3_lengthOf_8 : decode cX3_lengthOf 8 = .ok (.aload_n 0, 1) := by decide +kernel
theorem dX3_lengthOf_9 : decode cX3_lengthOf 9 = .ok (.iload_n 1, 1) := by decide +kernel
theorem dX3_lengthOf_10 : decode cX3_lengthOf 10 = .ok (.iload_n 2, 1) := by decide +kernel
theorem dX3_lengthOf_11 : decode cX3_lengthOf 11 = .ok (.iconst 0, 1) := by decide +kernel
theorem dX3_lengthOf_12 : decode cX3_lengthOf 12 = .ok (.invokevirtual 54, 3) := by decide +kernel
theorem dX3_lengthOf_15 : decode cX3_lengthOf 15 = .ok (.iconst 2, 1) := by decide +kernel
theorem dX3_lengthOf_16 : decode cX3_lengthOf 16 = .ok (.if_icmp .ne 18, 3) := by decide +kernel
theorem dX3_lengthOf_19 : decode cX3_lengthOf 19 = .ok (.iload_n 3, 1) := by decide +kernel
theorem dX3_lengthOf_20 : decode cX3_lengthOf 20 = .ok (.aload_n 0, 1) := by decide +kernel
theorem dX3_lengthOf_21 : decode cX3_lengthOf 21 = .ok (.aload_n 0, 1) := by decide +kernel
theorem dX3_lengthOf_22 : decode cX3_lengthOf 22 = .ok (.iload_n 1, 1) := by decide +kernel
theorem dX3_lengthOf_23 : decode cX3_lengthOf 23 = .ok (.iload_n 2, 1) := by decide +kernel
theorem dX3_lengthOf_24 : decode cX3_lengthOf 24 = .ok (.iconst 1, 1) := by decide +kernel
theorem dX3_lengthOf_25 : decode cX3_lengthOf 25 = .ok (.invokevirtual 54, 3) := by decide +kernel
theorem dX3_lengthOf_28 : decode cX3_lengthOf 28 = .ok (.iconst 1, 1) := by decide +kernel
theorem dX3_lengthOf_29 : decode cX3_lengthOf 29 = .ok (.invokevirtual 32, 3) := by decide +kernel
theorem dX3_lengthOf_32 : decode cX3_lengthOf 32 = .ok (.imul, 1) := by decide +kernel
theorem dX3_lengthOf_33 : decode cX3_lengthOf 33 = .ok (.ireturn, 1) := by decide +kernel
theorem dX3_lengthOf_34 : decode cX3_lengthOf 34 = .ok (.iload_n 3, 1) := by decide +kernel
theorem dX3_lengthOf_35 : decode cX3_lengthOf 35 = .ok (.ireturn, 1) := by decide +kernel
theorem dX3_measure_0 : decode cX3_measure 0 = .ok (.iconst 0, 1) := by decide +kernel
theorem dX3_measure_1 : decode cX3_measure 1 = .ok (.istore_n 1, 1) := by decide +kernel
theorem dX3_measure_2 : decode cX3_measure 2 = .ok (.iload_n 1, 1) := by decide +kernel
theorem dX3_measure_3 : decode cX3_measure 3 = .ok (.bipush 8, 2) := by decide +kernel
theorem dX3_measure_5 : decode cX3_measure 5 = .ok (.if_icmp .ge 28, 3) := by decide +kernel
theorem dX3_measure_8 : decode cX3_measure 8 = .ok (.aload_n 0, 1) := by decide +kernel
theorem dX3_measure_9 : decode cX3_measure 9 = .ok (.iload_n 1, 1) := by decide +kernel
theorem dX3_measure_10 : decode cX3_measure 10 = .ok (.invokevirtual 44, 3) := by decide +kernel
theorem dX3_measure_13 : decode cX3_measure 13 = .ok (.aload_n 0, 1) := by decide +kernel
theorem dX3_measure_14 : decode cX3_measure 14 = .ok (.iload_n 1, 1) := by decide +kernel
theorem dX3_measure_15 : decode cX3_measure 15 = .ok (.iconst 1, 1) := by decide +kernel
theorem dX3_measure_16 : decode cX3_measure 16 = .ok (.invokevirtual 32, 3) := by decide +kernel
theorem dX3_measure_19 : decode cX3_measure 19 = .ok (.sipush 20000, 3) := by decide +kernel
theorem dX3_measure_22 : decode cX3_measure 22 = .ok (.if_icmp .le 5, 3) := by decide +kernel
theorem dX3_measure_27 : decode cX3_measure 27 = .ok (.iinc 1 1, 3) := by decide +kernel
theorem dX3_measure_30 : decode cX3_measure 30 = .ok (.goto (-28), 3) := by decide +kernel
theorem dX3_measure_33 : decode cX3_measure 33 = .ok (.iconst 1, 1) := by decide +kernel
theorem dX3_measure_34 : decode cX3_measure 34 = .ok (.ireturn, 1) := by decide +kernel
theorem dX3_measureOne_0 : decode cX3_measureOne 0 = .ok (.iconst 0, 1) := by decide +kernel
theorem dX3_measureOne_1 : decode cX3_measureOne 1 = .ok (.istore_n 2, 1) := by decide +kernel
theorem dX3_measureOne_2 : decode cX3_measureOne 2 = .ok (.iconst 0, 1) := by decide +kernel
theorem dX3_measureOne_3 : decode cX3_measureOne 3 = .ok (.istore_n 3, 1) := by decide +kernel
theorem dX3_measureOne_4 : decode cX3_measureOne 4 = .ok (.iconst 0, 1) := by decide +kernel
theorem dX3_measureOne_5 : decode cX3_measureOne 5 = .ok (.istore 4, 2) := by decide +kernel
theorem dX3_measureOne_7 : decode cX3_measureOne 7 = .ok (.iconst 1, 1) := by decide +kernel
theorem dX3_measureOne_8 : decode cX3_measureOne 8 = .ok (.istore 5, 2) := by decide +kernel
theorem dX3_measureOne_10 : decode cX3_measureOne 10 = .ok (.aload_n 0, 1) := by decide +kernel
theorem dX3_measureOne_11 : decode cX3_measureOne 11 = .ok (.iload_n 1, 1) := by decide +kernel
theorem dX3_measureOne_12 : decode cX3_measureOne 12 = .ok (.iconst 0, 1) := by decide +kernel
theorem dX3_measureOne_13 : decode cX3_measureOne 13 = .ok (.invokevirtual 32, 3) := by decide +kernel
theorem dX3_measureOne_16 : decode cX3_measureOne 16 = .ok (.istore 6, 2) := by decide +kernel
theorem dX3_measureOne_18 : decode cX3_measureOne 18 = .ok (.iconst 0, 1) := by decide +kernel
theorem dX3_measureOne_19 : decode cX3_measureOne 19 = .ok (.istore 7, 2) := by decide +kernel
theorem dX3_measureOne_21 : decode cX3_measureOne 21 = .ok (.iload 7, 2) := by decide +kernel
theorem dX3_measureOne_23 : decode cX3_measureOne 23 = .ok (.iload 6, 2) := by decide +kernel
theorem dX3_measureOne_25 : decode cX3_measureOne 25 = .ok (.if_icmp .ge 84, 3) := by decide +kernel
theorem dX3_measureOne_28 : decode cX3_measureOne 28 = .ok (.iload_n 2, 1) := by decide +kernel
theorem dX3_measureOne_29 : decode cX3_measureOne 29 = .ok (.aload_n 0, 1) := by decide +kernel
theorem dX3_measureOne_30 : decode cX3_measureOne 30 = .ok (.iload_n 1, 1) := by decide +kernel
theorem dX3_measureOne_31 : decode cX3_measureOne 31 = .ok (.iload 7, 2) := by decide +kernel
theorem dX3_measureOne_33 : decode cX3_measureOne 33 = .ok (.invokevirtual 48, 3) := by decide +kernel
theorem dX3_measureOne_36 : decode cX3_measureOne 36 = .ok (.iadd, 1) := by decide +kernel
theorem dX3_measureOne_37 : decode cX3_measureOne 37 = .ok (.istore_n 2, 1) := by decide +kernel
theorem dX3_measureOne_38 : decode cX3_measureOne 38 = .ok (.iload_n 3, 1) := by decide +kernel
theorem dX3_measureOne_39 : decode cX3_measureOne 39 = .ok (.aload_n 0, 1) := by decide +kernel
theorem dX3_measureOne_40 : decode cX3_measureOne 40 = .ok (.iload_n 1, 1) := by decide +kernel
theorem dX3_measureOne_41 : decode cX3_measureOne 41 = .ok (.iload 7, 2) := by decide +kernel
theorem dX3_measureOne_43 : decode cX3_measureOne 43 = .ok (.invokevirtual 51, 3) := by decide +kernel
theorem dX3_measureOne_46 : decode cX3_measureOne 46 = .ok (.iadd, 1) := by decide +kernel
theorem dX3_measureOne_47 : decode cX3_measureOne 47 = .ok (.istore_n 3, 1) := by decide +kernel
theorem dX3_measureOne_48 : decode cX3_measureOne 48 = .ok (.aload_n 0, 1) := by decide +kernel
theorem dX3_measureOne_49 : decode cX3_measureOne 49 = .ok (.iload_n 1, 1) := by decide +kernel
theorem dX3_measureOne_50 : decode cX3_measureOne 50 = .ok (.iload 7, 2) := by decide +kernel
theorem dX3_measureOne_52 : decode cX3_measureOne 52 = .ok (.iconst 0, 1) := by decide +kernel
theorem dX3_measureOne_53 : decode cX3_measureOne 53 = .ok (.invokevirtual 54, 3) := by decide +kernel
theorem dX3_measureOne_56 : decode cX3_measureOne 56 = .ok (.iconst 2, 1) := by decide +kernel
theorem dX3_measureOne_57 : decode cX3_measureOne 57 = .ok (.if_icmp .ne 46, 3) := by decide +kernel
theorem dX3_measureOne_60 : decode cX3_measureOne 60 = .ok (.aload_n 0, 1) := by decide +kernel
theorem dX3_measureOne_61 : decode cX3_measureOne 61 = .ok (.iload_n 1, 1) := by decide +kernel
theorem dX3_measureOne_62 : decode cX3_measureOne 62 = .ok (.iload 7, 2) := by decide +kernel
theorem dX3_measureOne_64 : decode cX3_measureOne 64 = .ok (.iconst 1, 1) := by decide +kernel
theorem dX3_measureOne_65 : decode cX3_measureOne 65 = .ok (.invokevirtual 54, 3) := by decide +kernel
theorem dX3_measureOne_68 : decode cX3_measureOne 68 = .ok (.istore 8, 2) := by decide +kernel
theorem dX3_measureOne_70 : decode cX3_measureOne 70 = .ok (.iload 4, 2) := by decide +kernel
theorem dX3_measureOne_72 : decode cX3_measureOne 72 = .ok (.iconst 1, 1) := by decide +kernel
theorem dX3_measureOne_73 : decode cX3_measureOne 73 = .ok (.iload 8, 2) := by decide +kernel
theorem dX3_measureOne_75 : decode cX3_measureOne 75 = .ok (.ishl, 1) := by decide +kernel
theorem dX3_measureOne_76 : decode cX3_measureOne 76 = .ok (.aload_n 0, 1) := by decide +kernel
theorem dX3_measureOne_77 : decode cX3_measureOne 77 = .ok (.iload 8, 2) := by decide +kernel
theorem dX3_measureOne_79 : decode cX3_measureOne 79 = .ok (.iconst 3, 1) := by decide +kernel
theorem dX3_measureOne_80 : decode cX3_measureOne 80 = .ok (.invokevirtual 32, 3) := by decide +kernel
theorem dX3_measureOne_83 : decode cX3_measureOne 83 = .ok (.ior, 1) := by decide +kernel
theorem dX3_measureOne_84 : decode cX3_measureOne 84 = .ok (.ior, 1) := by decide +kernel
theorem dX3_measureOne_85 : decode cX3_measureOne 85 = .ok (.istore 4, 2) := by decide +kernel
theorem dX3_measureOne_87 : decode cX3_measureOne 87 = .ok (.iload 5, 2) := by decide +kernel
theorem dX3_measureOne_89 : decode cX3_measureOne 89 = .ok (.iconst 1, 1) := by decide +kernel
theorem dX3_measureOne_90 : decode cX3_measureOne 90 = .ok (.aload_n 0, 1) := by decide +kernel
theorem dX3_measureOne_91 : decode cX3_measureOne 91 = .ok (.iload 8, 2) := by decide +kernel
theorem dX3_measureOne_93 : decode cX3_measureOne 93 = .ok (.iconst 4, 1) := by decide +kernel
theorem dX3_measureOne_94 : decode cX3_measureOne 94 = .ok (.invokevirtual 32, 3) := by decide +kernel
theorem dX3_measureOne_97 : decode cX3_measureOne 97 = .ok (.iadd, 1) := by decide +kernel
theorem dX3_measureOne_98 : decode cX3_measureOne 98 = .ok (.invokestatic 58, 3) := by decide +kernel
theorem dX3_measureOne_101 : decode cX3_measureOne 101 = .ok (.istore 5, 2) := by decide +kernel
theorem dX3_measureOne_103 : decode cX3_measureOne 103 = .ok (.iinc 7 1, 3) := by decide +kernel
theorem dX3_measureOne_106 : decode cX3_measureOne 106 = .ok (.goto (-85), 3) := by decide +kernel
theorem dX3_measureOne_109 : decode cX3_measureOne 109 = .ok (.aload_n 0, 1) := by decide +kernel
theorem dX3_measureOne_110 : decode cX3_measureOne 110 = .ok (.iload_n 1, 1) := by decide +kernel
theorem dX3_measureOne_111 : decode cX3_measureOne 111 = .ok (.iconst 1, 1) := by decide +kernel
theorem dX3_measureOne_112 : decode cX3_measureOne 112 = .ok (.iload_n 2, 1) := by decide +kernel
theorem dX3_measureOne_113 : decode cX3_measureOne 113 = .ok (.invokevirtual 24, 3) := by decide +kernel
theorem dX3_measureOne_116 : decode cX3_measureOne 116 = .ok (.aload_n 0, 1) := by decide +kernel
theorem dX3_measureOne_117 : decode cX3_measureOne 117 = .ok (.iload_n 1, 1) := by decide +kernel
theorem dX3_measureOne_118 : decode cX3_measureOne 118 = .ok (.iconst 2, 1) := by decide +kernel
theorem dX3_measureOne_119 : decode cX3_measureOne 119 = .ok (.iload_n 3, 1) := by decide +kernel
theorem dX3_measureOne_120 : decode cX3_measureOne 120 = .ok (.invokevirtual 24, 3) := by decide +kernel
theorem dX3_measureOne_123 : decode cX3_measureOne 123 = .ok (.aload_n 0, 1) := by decide +kernel
theorem dX3_measureOne_124 : decode cX3_measureOne 124 = .ok (.iload_n 1, 1) := by decide +kernel
theorem dX3_measureOne_125 : decode cX3_measureOne 125 = .ok (.iconst 3, 1) := by decide +kernel
theorem dX3_measureOne_126 : decode cX3_measureOne 126 = .ok (.iload 4, 2) := by decide +kernel
theorem dX3_measureOne_128 : decode cX3_measureOne 128 = .ok (.invokevirtual 24, 3) := by decide +kernel
theorem dX3_measureOne_131 : decode cX3_measureOne 131 = .ok (.aload_n 0, 1) := by decide +kernel
theorem dX3_measureOne_132 : decode cX3_measureOne 132 = .ok (.iload_n 1, 1) := by decide +kernel
theorem dX3_measureOne_133 : decode cX3_measureOne 133 = .ok (.iconst 4, 1) := by decide +kernel
theorem dX3_measureOne_134 : decode cX3_measureOne 134 = .ok (.iload 5, 2) := by decide +kernel
theorem dX3_measureOne_136 : decode cX3_measureOne 136 = .ok (.invokevirtual 24, 3) := by decide +kernel
theorem dX3_measureOne_139 : decode cX3_measureOne 139 = .ok (.return_, 1) := by decide +kernel
theorem dX3_notesOf_0 : decode cX3_notesOf 0 = .ok (.aload_n 0, 1) := by decide +kernel
theorem dX3_notesOf_1 : decode cX3_notesOf 1 = .ok (.iload_n 1, 1) := by decide +kernel
theorem dX3_notesOf_2 : decode cX3_notesOf 2 = .ok (.iload_n 2, 1) := by decide +kernel
theorem dX3_notesOf_3 : decode cX3_notesOf 3 = .ok (.iconst 0, 1) := by decide +kernel
theorem dX3_notesOf_4 : decode cX3_notesOf 4 = .ok (.invokevirtual 54, 3) := by decide +kernel
theorem dX3_notesOf_7 : decode cX3_notesOf 7 = .ok (.istore_n 3, 1) := by decide +kernel
theorem dX3_notesOf_8 : decode cX3_notesOf 8 = .ok (.iload_n 3, 1) := by decide +kernel
theorem dX3_notesOf_9 : decode cX3_notesOf 9 = .ok (.iconst 2, 1) := by decide +kernel
theorem dX3_notesOf_10 : decode cX3_notesOf 10 = .ok (.if_icmp .ne 24, 3) := by decide +kernel
theorem dX3_notesOf_13 : decode cX3_notesOf 13 = .ok (.aload_n 0, 1) := by decide +kernel
theorem dX3_notesOf_14 : decode cX3_notesOf 14 = .ok (.iload_n 1, 1) := by decide +kernel
theorem dX3_notesOf_15 : decode cX3_notesOf 15 = .ok (.iload_n 2, 1) := by decide +kernel
theorem dX3_notesOf_16 : decode cX3_notesOf 16 = .ok (.iconst 2, 1) := by decide +kernel
theorem dX3_notesOf_17 : decode cX3_notesOf 17 = .ok (.invokevirtual 54, 3) := by decide +kernel
theorem dX3_notesOf_20 : decode cX3_notesOf 20 = .ok (.aload_n 0, 1) := by decide +kernel
theorem dX3_notesOf_21 : decode cX3_notesOf 21 = .ok (.aload_n 0, 1) := by decide +kernel
theorem dX3_notesOf_22 : decode cX3_notesOf 22 = .ok (.iload_n 1, 1) := by decide +kernel
theorem dX3_notesOf_23 : decode cX3_notesOf 23 = .ok (.iload_n 2, 1) := by decide +kernel
theorem dX3_notesOf_24 : decode cX3_notesOf 24 = .ok (.iconst 1, 1) := by decide +kernel
theorem dX3_notesOf_25 : decode cX3_notesOf 25 = .ok (.invokevirtual 54, 3) := by decide +kernel
theorem dX3_notesOf_28 : decode cX3_notesOf 28 = .ok (.iconst 2, 1) := by decide +kernel
theorem dX3_notesOf_29 : decode cX3_notesOf 29 = .ok (.invokevirtual 32, 3) := by decide +kernel
theorem dX3_notesOf_32 : decode cX3_notesOf 32 = .ok (.imul, 1) := by decide +kernel
theorem dX3_notesOf_33 : decode cX3_notesOf 33 = .ok (.ireturn, 1) := by decide +kernel
theorem dX3_notesOf_34 : decode cX3_notesOf 34 = .ok (.iload_n 3, 1) := by decide +kernel
theorem dX3_notesOf_35 : decode cX3_notesOf 35 = .ok (.ifCond .ne 7, 3) := by decide +kernel
theorem dX3_notesOf_38 : decode cX3_notesOf 38 = .ok (.iconst 1, 1) := by decide +kernel
theorem dX3_notesOf_39 : decode cX3_notesOf 39 = .ok (.goto 4, 3) := by decide +kernel
theorem dX3_notesOf_42 : decode cX3_notesOf 42 = .ok (.iconst 0, 1) := by decide +kernel
theorem dX3_notesOf_43 : decode cX3_notesOf 43 = .ok (.ireturn, 1) := by decide +kernel
theorem dX3_putFigure_0 : decode cX3_putFigure 0 = .ok (.iload_n 1, 1) := by decide +kernel
theorem dX3_putFigure_1 : decode cX3_putFigure 1 = .ok (.iconst 5, 1) := by decide +kernel
theorem dX3_putFigure_2 : decode cX3_putFigure 2 = .ok (.imul, 1) := by decide +kernel
theorem dX3_putFigure_3 : decode cX3_putFigure 3 = .ok (.iload_n 2, 1) := by decide +kernel
theorem dX3_putFigure_4 : decode cX3_putFigure 4 = .ok (.iadd, 1) := by decide +kernel
theorem dX3_putFigure_5 : decode cX3_putFigure 5 = .ok (.istore 4, 2) := by decide +kernel
theorem dX3_putFigure_7 : decode cX3_putFigure 7 = .ok (.iload 4, 2) := by decide +kernel
theorem dX3_putFigure_9 : decode cX3_putFigure 9 = .ok (.ifCond .lt 21, 3) := by decide +kernel
theorem dX3_putFigure_12 : decode cX3_putFigure 12 = .ok (.iload 4, 2) := by decide +kernel
theorem dX3_putFigure_14 : decode cX3_putFigure 14 = .ok (.aload_n 0, 1) := by decide +kernel
theorem dX3_putFigure_15 : decode cX3_putFigure 15 = .ok (.getfield 15, 3) := by decide +kernel
theorem dX3_putFigure_18 : decode cX3_putFigure 18 = .ok (.arraylength, 1) := by decide +kernel
theorem dX3_putFigure_19 : decode cX3_putFigure 19 = .ok (.if_icmp .ge 11, 3) := by decide +kernel
theorem dX3_putFigure_22 : decode cX3_putFigure 22 = .ok (.aload_n 0, 1) := by decide +kernel
theorem dX3_putFigure_23 : decode cX3_putFigure 23 = .ok (.getfield 15, 3) := by decide +kernel
theorem dX3_putFigure_26 : decode cX3_putFigure 26 = .ok (.iload 4, 2) := by decide +kernel
theorem dX3_putFigure_28 : decode cX3_putFigure 28 = .ok (.iload_n 3, 1) := by decide +kernel
theorem dX3_putFigure_29 : decode cX3_putFigure 29 = .ok (.iastore, 1) := by decide +kernel
theorem dX3_putFigure_30 : decode cX3_putFigure 30 = .ok (.return_, 1) := by decide +kernel
theorem dX3_putItem_0 : decode cX3_putItem 0 = .ok (.aload_n 0, 1) := by decide +kernel
theorem dX3_putItem_1 : decode cX3_putItem 1 = .ok (.iload_n 1, 1) := by decide +kernel
theorem dX3_putItem_2 : decode cX3_putItem 2 = .ok (.iconst 0, 1) := by decide +kernel
theorem dX3_putItem_3 : decode cX3_putItem 3 = .ok (.invokevirtual 32, 3) := by decide +kernel
theorem dX3_putItem_6 : decode cX3_putItem 6 = .ok (.istore 6, 2) := by decide +kernel
theorem dX3_putItem_8 : decode cX3_putItem 8 = .ok (.iload_n 1, 1) := by decide +kernel
theorem dX3_putItem_9 : decode cX3_putItem 9 = .ok (.bipush 12, 2) := by decide +kernel
theorem dX3_putItem_11 : decode cX3_putItem 11 = .ok (.imul, 1) := by decide +kernel
theorem dX3_putItem_12 : decode cX3_putItem 12 = .ok (.iload 6, 2) := by decide +kernel
theorem dX3_putItem_14 : decode cX3_putItem 14 = .ok (.iadd, 1) := by decide +kernel
theorem dX3_putItem_15 : decode cX3_putItem 15 = .ok (.iconst 4, 1) := by decide +kernel
theorem dX3_putItem_16 : decode cX3_putItem 16 = .ok (.imul, 1) := by decide +kernel
theorem dX3_putItem_17 : decode cX3_putItem 17 = .ok (.istore 7, 2) := by decide +kernel
theorem dX3_putItem_19 : decode cX3_putItem 19 = .ok (.aload_n 0, 1) := by decide +kernel
theorem dX3_putItem_20 : decode cX3_putItem 20 = .ok (.getfield 9, 3) := by decide +kernel
theorem dX3_putItem_23 : decode cX3_putItem 23 = .ok (.iload 7, 2) := by decide +kernel
theorem dX3_putItem_25 : decode cX3_putItem 25 = .ok (.iconst 0, 1) := by decide +kernel
theorem dX3_putItem_26 : decode cX3_putItem 26 = .ok (.iadd, 1) := by decide +kernel
theorem dX3_putItem_27 : decode cX3_putItem 27 = .ok (.iload_n 2, 1) := by decide +kernel
theorem dX3_putItem_28 : decode cX3_putItem 28 = .ok (.invokestatic 36, 3) := by decide +kernel
theorem dX3_putItem_31 : decode cX3_putItem 31 = .ok (.aload_n 0, 1) := by decide +kernel
theorem dX3_putItem_32 : decode cX3_putItem 32 = .ok (.getfield 9, 3) := by decide +kernel
theorem dX3_putItem_35 : decode cX3_putItem 35 = .ok (.iload 7, 2) := by decide +kernel
theorem dX3_putItem_37 : decode cX3_putItem 37 = .ok (.iconst 1, 1) := by decide +kernel
theorem dX3_putItem_38 : decode cX3_putItem 38 = .ok (.iadd, 1) := by decide +kernel
theorem dX3_putItem_39 : decode cX3_putItem 39 = .ok (.iload_n 3, 1) := by decide +kernel
theorem dX3_putItem_40 : decode cX3_putItem 40 = .ok (.invokestatic 36, 3) := by decide +kernel
theorem dX3_putItem_43 : decode cX3_putItem 43 = .ok (.aload_n 0, 1) := by decide +kernel
theorem dX3_putItem_44 : decode cX3_putItem 44 = .ok (.getfield 9, 3) := by decide +kernel
theorem dX3_putItem_47 : decode cX3_putItem 47 = .ok (.iload 7, 2) := by decide +kernel
theorem dX3_putItem_49 : decode cX3_putItem 49 = .ok (.iconst 2, 1) := by decide +kernel
theorem dX3_putItem_50 : decode cX3_putItem 50 = .ok (.iadd, 1) := by decide +kernel
theorem dX3_putItem_51 : decode cX3_putItem 51 = .ok (.iload 4, 2) := by decide +kernel
theorem dX3_putItem_53 : decode cX3_putItem 53 = .ok (.invokestatic 36, 3) := by decide +kernel
theorem dX3_putItem_56 : decode cX3_putItem 56 = .ok (.aload_n 0, 1) := by decide +kernel
theorem dX3_putItem_57 : decode cX3_putItem 57 = .ok (.getfield 9, 3) := by decide +kernel
theorem dX3_putItem_60 : decode cX3_putItem 60 = .ok (.iload 7, 2) := by decide +kernel
theorem dX3_putItem_62 : decode cX3_putItem 62 = .ok (.iconst 3, 1) := by decide +kernel
theorem dX3_putItem_63 : decode cX3_putItem 63 = .ok (.iadd, 1) := by decide +kernel
theorem dX3_putItem_64 : decode cX3_putItem 64 = .ok (.iload 5, 2) := by decide +kernel
theorem dX3_putItem_66 : decode cX3_putItem 66 = .ok (.invokestatic 36, 3) := by decide +kernel
theorem dX3_putItem_69 : decode cX3_putItem 69 = .ok (.aload_n 0, 1) := by decide +kernel
theorem dX3_putItem_70 : decode cX3_putItem 70 = .ok (.iload_n 1, 1) := by decide +kernel
theorem dX3_putItem_71 : decode cX3_putItem 71 = .ok (.iconst 0, 1) := by decide +kernel
theorem dX3_putItem_72 : decode cX3_putItem 72 = .ok (.iload 6, 2) := by decide +kernel
theorem dX3_putItem_74 : decode cX3_putItem 74 = .ok (.iconst 1, 1) := by decide +kernel
theorem dX3_putItem_75 : decode cX3_putItem 75 = .ok (.iadd, 1) := by decide +kernel
theorem dX3_putItem_76 : decode cX3_putItem 76 = .ok (.invokevirtual 24, 3) := by decide +kernel
theorem dX3_putItem_79 : decode cX3_putItem 79 = .ok (.return_, 1) := by decide +kernel
theorem dX3_reset_0 : decode cX3_reset 0 = .ok (.aload_n 0, 1) := by decide +kernel
theorem dX3_reset_1 : decode cX3_reset 1 = .ok (.getfield 15, 3) := by decide +kernel
theorem dX3_reset_4 : decode cX3_reset 4 = .ok (.iconst 0, 1) := by decide +kernel
theorem dX3_reset_5 : decode cX3_reset 5 = .ok (.invokestatic 18, 3) := by decide +kernel
theorem dX3_reset_8 : decode cX3_reset 8 = .ok (.iconst 0, 1) := by decide +kernel
theorem dX3_reset_9 : decode cX3_reset 9 = .ok (.istore_n 1, 1) := by decide +kernel
theorem dX3_reset_10 : decode cX3_reset 10 = .ok (.iload_n 1, 1) := by decide +kernel
theorem dX3_reset_11 : decode cX3_reset 11 = .ok (.bipush 8, 2) := by decide +kernel
theorem dX3_reset_13 : decode cX3_reset 13 = .ok (.if_icmp .ge 16, 3) := by decide +kernel
theorem dX3_reset_16 : decode cX3_reset 16 = .ok (.aload_n 0, 1) := by decide +kernel
theorem dX3_reset_17 : decode cX3_reset 17 = .ok (.iload_n 1, 1) := by decide +kernel
theorem dX3_reset_18 : decode cX3_reset 18 = .ok (.iconst 4, 1) := by decide +kernel
theorem dX3_reset_19 : decode cX3_reset 19 = .ok (.iconst 1, 1) := by decide +kernel
theorem dX3_reset_20 : decode cX3_reset 20 = .ok (.invokevirtual 24, 3) := by decide +kernel
theorem dX3_reset_23 : decode cX3_reset 23 = .ok (.iinc 1 1, 3) := by decide +kernel
theorem dX3_reset_26 : decode cX3_reset 26 = .ok (.goto (-16), 3) := by decide +kernel
theorem dX3_reset_29 : decode cX3_reset 29 = .ok (.return_, 1) := by decide +kernel
theorem dX3_write_0 : decode cX3_write 0 = .ok (.aload_n 0, 1) := by decide +kernel
theorem dX3_write_1 : decode cX3_write 1 = .ok (.iload_n 1, 1) := by decide +kernel
theorem dX3_write_2 : decode cX3_write 2 = .ok (.iconst 0, 1) := by decide +kernel
theorem dX3_write_3 : decode cX3_write 3 = .ok (.invokevirtual 32, 3) := by decide +kernel
theorem dX3_write_6 : decode cX3_write 6 = .ok (.istore_n 3, 1) := by decide +kernel
theorem dX3_write_7 : decode cX3_write 7 = .ok (.aload_n 2, 1) := by decide +kernel
theorem dX3_write_8 : decode cX3_write 8 = .ok (.invokevirtual 63, 3) := by decide +kernel
theorem dX3_write_11 : decode cX3_write 11 = .ok (.iconst 0, 1) := by decide +kernel
theorem dX3_write_12 : decode cX3_write 12 = .ok (.istore 4, 2) := by decide +kernel
theorem dX3_write_14 : decode cX3_write 14 = .ok (.iload 4, 2) := by decide +kernel
theorem dX3_write_16 : decode cX3_write 16 = .ok (.iload_n 3, 1) := by decide +kernel
theorem dX3_write_17 : decode cX3_write 17 = .ok (.if_icmp .ge 28, 3) := by decide +kernel
theorem dX3_write_45 : decode cX3_write 45 = .ok (.return_, 1) := by decide +kernel
theorem dX4_errorIndex_0 : decode cX4_errorIndex 0 = .ok (.aload_n 0, 1) := by decide +kernel
theorem dX4_errorIndex_1 : decode cX4_errorIndex 1 = .ok (.getfield 19, 3) := by decide +kernel
theorem dX4_errorIndex_4 : decode cX4_errorIndex 4 = .ok (.ireturn, 1) := by decide +kernel
theorem dX4_init_0 : decode cX4_init 0 = .ok (.aload_n 0, 1) := by decide +kernel
theorem dX4_init_1 : decode cX4_init 1 = .ok (.invokespecial 3, 3) := by decide +kernel
theorem dX4_init_4 : decode cX4_init 4 = .ok (.aload_n 0, 1) := by decide +kernel
theorem dX4_init_5 : decode cX4_init 5 = .ok (.bipush 84, 2) := by decide +kernel
theorem dX4_init_7 : decode cX4_init 7 = .ok (.newarray .int, 2) := by decide +kernel
theorem dX4_init_9 : decode cX4_init 9 = .ok (.putfield 11, 3) := by decide +kernel
theorem dX4_init_12 : decode cX4_init 12 = .ok (.return_, 1) := by decide +kernel
theorem dX4_parse_0 : decode cX4_parse 0 = .ok (.aload_n 0, 1) := by decide +kernel
theorem dX4_parse_1 : decode cX4_parse 1 = .ok (.iconst 0, 1) := by decide +kernel
theorem dX4_parse_2 : decode cX4_parse 2 = .ok (.putfield 15, 3) := by decide +kernel
theorem dX4_parse_5 : decode cX4_parse 5 = .ok (.aload_n 0, 1) := by decide +kernel
theorem dX4_parse_6 : decode cX4_parse 6 = .ok (.iconst 0, 1) := by decide +kernel
theorem dX4_parse_7 : decode cX4_parse 7 = .ok (.putfield 19, 3) := by decide +kernel
theorem dX4_parse_10 : decode cX4_parse 10 = .ok (.iconst 0, 1) := by decide +kernel
theorem dX4_parse_11 : decode cX4_parse 11 = .ok (.istore_n 2, 1) := by decide +kernel
theorem dX4_parse_12 : decode cX4_parse 12 = .ok (.iload_n 2, 1) := by decide +kernel
theorem dX4_parse_13 : decode cX4_parse 13 = .ok (.bipush 21, 2) := by decide +kernel
theorem dX4_parse_15 : decode cX4_parse 15 = .ok (.if_icmp .ge 44, 3) := by decide +kernel
theorem dX4_parse_18 : decode cX4_parse 18 = .ok (.aload_n 0, 1) := by decide +kernel
theorem dX4_parse_19 : decode cX4_parse 19 = .ok (.aload_n 1, 1) := by decide +kernel
theorem dX4_parse_20 : decode cX4_parse 20 = .ok (.invokevirtual 22, 3) := by decide +kernel
theorem dX4_parse_23 : decode cX4_parse 23 = .ok (.ifCond .ne 5, 3) := by decide +kernel
theorem dX4_parse_26 : decode cX4_parse 26 = .ok (.iconst 0, 1) := by decide +kernel
theorem dX4_parse_27 : decode cX4_parse 27 = .ok (.ireturn, 1) := by decide +kernel
theorem dX4_parseItem_0 : decode cX4_parseItem 0 = .ok (.aload_n 0, 1) := by decide +kernel
theorem dX4_parseItem_1 : decode cX4_parseItem 1 = .ok (.aload_n 1, 1) := by decide +kernel
theorem dX4_parseItem_2 : decode cX4_parseItem 2 = .ok (.bipush 110, 2) := by decide +kernel
theorem dX4_parseItem_4 : decode cX4_parseItem 4 = .ok (.invokevirtual 32, 3) := by decide +kernel
theorem dX4_parseItem_7 : decode cX4_parseItem 7 = .ok (.ifCond .eq 9, 3) := by decide +kernel
theorem dX4_parseItem_16 : decode cX4_parseItem 16 = .ok (.aload_n 0, 1) := by decide +kernel
theorem dX4_parseItem_17 : decode cX4_parseItem 17 = .ok (.aload_n 1, 1) := by decide +kernel
theorem dX4_parseItem_18 : decode cX4_parseItem 18 = .ok (.bipush 114, 2) := by decide +kernel
theorem dX4_parseItem_20 : decode cX4_parseItem 20 = .ok (.invokevirtual 32, 3) := by decide +kernel
theorem dX4_parseItem_23 : decode cX4_parseItem 23 = .ok (.ifCond .eq 9, 3) := by decide +kernel
theorem dX4_parseItem_32 : decode cX4_parseItem 32 = .ok (.aload_n 0, 1) := by decide +kernel
theorem dX4_parseItem_33 : decode cX4_parseItem 33 = .ok (.aload_n 1, 1) := by decide +kernel
theorem dX4_parseItem_34 : decode cX4_parseItem 34 = .ok (.bipush 99, 2) := by decide +kernel
theorem dX4_parseItem_36 : decode cX4_parseItem 36 = .ok (.invokevirtual 32, 3) := by decide +kernel
theorem dX4_parseItem_39 : decode cX4_parseItem 39 = .ok (.ifCond .eq 15, 3) := by decide +kernel
theorem dX4_parseItem_54 : decode cX4_parseItem 54 = .ok (.iconst 0, 1) := by decide +kernel
theorem dX4_parseItem_55 : decode cX4_parseItem 55 = .ok (.ireturn, 1) := by decide +kernel
theorem dX4_take_0 : decode cX4_take 0 = .ok (.aload_n 1, 1) := by decide +kernel
theorem dX4_take_1 : decode cX4_take 1 = .ok (.aload_n 0, 1) := by decide +kernel
theorem dX4_take_2 : decode cX4_take 2 = .ok (.getfield 19, 3) := by decide +kernel
theorem dX4_take_5 : decode cX4_take 5 = .ok (.invokevirtual 61, 3) := by decide +kernel
theorem dX4_take_8 : decode cX4_take 8 = .ok (.iload_n 2, 1) := by decide +kernel
theorem dX4_take_9 : decode cX4_take 9 = .ok (.if_icmp .eq 5, 3) := by decide +kernel
theorem dX4_take_12 : decode cX4_take 12 = .ok (.iconst 0, 1) := by decide +kernel
theorem dX4_take_13 : decode cX4_take 13 = .ok (.ireturn, 1) := by decide +kernel
theorem dX5_collectNotes_0 : decode cX5_collectNotes 0 = .ok (.aload_n 0, 1) := by decide +kernel
theorem dX5_collectNotes_1 : decode cX5_collectNotes 1 = .ok (.iconst 0, 1) := by decide +kernel
theorem dX5_collectNotes_2 : decode cX5_collectNotes 2 = .ok (.putfield 37, 3) := by decide +kernel
theorem dX5_collectNotes_5 : decode cX5_collectNotes 5 = .ok (.iconst 0, 1) := by decide +kernel
theorem dX5_collectNotes_6 : decode cX5_collectNotes 6 = .ok (.istore_n 2, 1) := by decide +kernel
theorem dX5_collectNotes_7 : decode cX5_collectNotes 7 = .ok (.iload_n 2, 1) := by decide +kernel
theorem dX5_collectNotes_8 : decode cX5_collectNotes 8 = .ok (.aload_n 1, 1) := by decide +kernel
theorem dX5_collectNotes_9 : decode cX5_collectNotes 9 = .ok (.invokevirtual 50, 3) := by decide +kernel
theorem dX5_collectNotes_12 : decode cX5_collectNotes 12 = .ok (.if_icmp .ge 15, 3) := by decide +kernel
theorem dX5_collectNotes_27 : decode cX5_collectNotes 27 = .ok (.return_, 1) := by decide +kernel
theorem dX5_cutCount_0 : decode cX5_cutCount 0 = .ok (.aload_n 0, 1) := by decide +kernel
theorem dX5_cutCount_1 : decode cX5_cutCount 1 = .ok (.getfield 44, 3) := by decide +kernel
theorem dX5_cutCount_4 : decode cX5_cutCount 4 = .ok (.ireturn, 1) := by decide +kernel
theorem dX5_droppedCount_0 : decode cX5_droppedCount 0 = .ok (.aload_n 0, 1) := by decide +kernel
theorem dX5_droppedCount_1 : decode cX5_droppedCount 1 = .ok (.getfield 41, 3) := by decide +kernel
theorem dX5_droppedCount_4 : decode cX5_droppedCount 4 = .ok (.ireturn, 1) := by decide +kernel
theorem dX5_greatestEnd_0 : decode cX5_greatestEnd 0 = .ok (.aload_n 0, 1) := by decide +kernel
theorem dX5_greatestEnd_1 : decode cX5_greatestEnd 1 = .ok (.getfield 47, 3) := by decide +kernel
theorem dX5_greatestEnd_4 : decode cX5_greatestEnd 4 = .ok (.ireturn, 1) := by decide +kernel
theorem dX5_init_0 : decode cX5_init 0 = .ok (.aload_n 0, 1) := by decide +kernel
theorem dX5_init_1 : decode cX5_init 1 = .ok (.invokespecial 3, 3) := by decide +kernel
theorem dX5_init_4 : decode cX5_init 4 = .ok (.aload_n 0, 1) := by decide +kernel
theorem dX5_init_5 : decode cX5_init 5 = .ok (.sipush 2700, 3) := by decide +kernel
theorem dX5_init_8 : decode cX5_init 8 = .ok (.newarray .int, 2) := by decide +kernel
theorem dX5_init_10 : decode cX5_init 10 = .ok (.putfield 9, 3) := by decide +kernel
theorem dX5_init_13 : decode cX5_init 13 = .ok (.aload_n 0, 1) := by decide +kernel
theorem dX5_init_14 : decode cX5_init 14 = .ok (.sipush 300, 3) := by decide +kernel
theorem dX5_init_17 : decode cX5_init 17 = .ok (.newarray .int, 2) := by decide +kernel
theorem dX5_init_19 : decode cX5_init 19 = .ok (.putfield 15, 3) := by decide +kernel
theorem dX5_init_22 : decode cX5_init 22 = .ok (.aload_n 0, 1) := by decide +kernel
theorem dX5_init_23 : decode cX5_init 23 = .ok (.sipush 300, 3) := by decide +kernel
theorem dX5_init_26 : decode cX5_init 26 = .ok (.newarray .int, 2) := by decide +kernel
theorem dX5_init_28 : decode cX5_init 28 = .ok (.putfield 18, 3) := by decide +kernel
theorem dX5_init_31 : decode cX5_init 31 = .ok (.aload_n 0, 1) := by decide +kernel
theorem dX5_init_32 : decode cX5_init 32 = .ok (.bipush 8, 2) := by decide +kernel
theorem dX5_init_34 : decode cX5_init 34 = .ok (.newarray .int, 2) := by decide +kernel
theorem dX5_init_36 : decode cX5_init 36 = .ok (.putfield 21, 3) := by decide +kernel
theorem dX5_init_39 : decode cX5_init 39 = .ok (.aload_n 0, 1) := by decide +kernel
theorem dX5_init_40 : decode cX5_init 40 = .ok (.sipush 300, 3) := by decide +kernel
theorem dX5_init_43 : decode cX5_init 43 = .ok (.newarray .long, 2) := by decide +kernel
theorem dX5_init_45 : decode cX5_init 45 = .ok (.putfield 24, 3) := by decide +kernel
theorem dX5_init_48 : decode cX5_init 48 = .ok (.aload_n 0, 1) := by decide +kernel
theorem dX5_init_49 : decode cX5_init 49 = .ok (.new 28, 3) := by decide +kernel
theorem dX5_init_52 : decode cX5_init 52 = .ok (.dup, 1) := by decide +kernel
theorem dX5_init_53 : decode cX5_init 53 = .ok (.sipush 300, 3) := by decide +kernel
theorem dX5_init_56 : decode cX5_init 56 = .ok (.invokespecial 30, 3) := by decide +kernel
theorem dX5_init_59 : decode cX5_init 59 = .ok (.putfield 33, 3) := by decide +kernel
theorem dX5_init_62 : decode cX5_init 62 = .ok (.return_, 1) := by decide +kernel
theorem dX5_loudnessAt_0 : decode cX5_loudnessAt 0 = .ok (.iconst 0, 1) := by decide +kernel
theorem dX5_loudnessAt_1 : decode cX5_loudnessAt 1 = .ok (.istore_n 3, 1) := by decide +kernel
theorem dX5_loudnessAt_2 : decode cX5_loudnessAt 2 = .ok (.iconst 0, 1) := by decide +kernel
theorem dX5_loudnessAt_3 : decode cX5_loudnessAt 3 = .ok (.istore 4, 2) := by decide +kernel
theorem dX5_loudnessAt_5 : decode cX5_loudnessAt 5 = .ok (.iload 4, 2) := by decide +kernel
theorem dX5_loudnessAt_7 : decode cX5_loudnessAt 7 = .ok (.aload_n 0, 1) := by decide +kernel
theorem dX5_loudnessAt_8 : decode cX5_loudnessAt 8 = .ok (.getfield 37, 3) := by decide +kernel
theorem dX5_loudnessAt_11 : decode cX5_loudnessAt 11 = .ok (.if_icmp .ge 28, 3) := by decide +kernel
theorem dX5_loudnessAt_39 : decode cX5_loudnessAt 39 = .ok (.iload_n 3, 1) := by decide +kernel
theorem dX5_loudnessAt_40 : decode cX5_loudnessAt 40 = .ok (.ireturn, 1) := by decide +kernel
theorem dX5_noteCount_0 : decode cX5_noteCount 0 = .ok (.aload_n 0, 1) := by decide +kernel
theorem dX5_noteCount_1 : decode cX5_noteCount 1 = .ok (.getfield 37, 3) := by decide +kernel
theorem dX5_noteCount_4 : decode cX5_noteCount 4 = .ok (.ireturn, 1) := by decide +kernel
theorem dX5_noteWith_0 : decode cX5_noteWith 0 = .ok (.iconst 0, 1) := by decide +kernel
theorem dX5_noteWith_1 : decode cX5_noteWith 1 = .ok (.istore_n 3, 1) := by decide +kernel
theorem dX5_noteWith_2 : decode cX5_noteWith 2 = .ok (.iload_n 3, 1) := by decide +kernel
theorem dX5_noteWith_3 : decode cX5_noteWith 3 = .ok (.aload_n 0, 1) := by decide +kernel
theorem dX5_noteWith_4 : decode cX5_noteWith 4 = .ok (.getfield 37, 3) := by decide +kernel
theorem dX5_noteWith_7 : decode cX5_noteWith 7 = .ok (.if_icmp .ge 31, 3) := by decide +kernel
theorem dX5_noteWith_38 : decode cX5_noteWith 38 = .ok (.iconst (-1), 1) := by decide +kernel
theorem dX5_noteWith_39 : decode cX5_noteWith 39 = .ok (.ireturn, 1) := by decide +kernel
theorem dX5_numberNotes_0 : decode cX5_numberNotes 0 = .ok (.aload_n 0, 1) := by decide +kernel
theorem dX5_numberNotes_1 : decode cX5_numberNotes 1 = .ok (.getfield 33, 3) := by decide +kernel
theorem dX5_numberNotes_4 : decode cX5_numberNotes 4 = .ok (.aload_n 0, 1) := by decide +kernel
theorem dX5_numberNotes_5 : decode cX5_numberNotes 5 = .ok (.getfield 24, 3) := by decide +kernel
theorem dX5_numberNotes_8 : decode cX5_numberNotes 8 = .ok (.aload_n 0, 1) := by decide +kernel
theorem dX5_numberNotes_9 : decode cX5_numberNotes 9 = .ok (.getfield 37, 3) := by decide +kernel
theorem dX5_numberNotes_12 : decode cX5_numberNotes 12 = .ok (.invokevirtual 89, 3) := by decide +kernel
theorem dX5_numberNotes_15 : decode cX5_numberNotes 15 = .ok (.iconst 0, 1) := by decide +kernel
theorem dX5_numberNotes_16 : decode cX5_numberNotes 16 = .ok (.istore_n 2, 1) := by decide +kernel
theorem dX5_numberNotes_17 : decode cX5_numberNotes 17 = .ok (.iload_n 2, 1) := by decide +kernel
theorem dX5_numberNotes_18 : decode cX5_numberNotes 18 = .ok (.aload_n 0, 1) := by decide +kernel
theorem dX5_numberNotes_19 : decode cX5_numberNotes 19 = .ok (.getfield 37, 3) := by decide +kernel
theorem dX5_numberNotes_22 : decode cX5_numberNotes 22 = .ok (.if_icmp .ge 15, 3) := by decide +kernel
theorem dX5_numberNotes_37 : decode cX5_numberNotes 37 = .ok (.return_, 1) := by decide +kernel
theorem dX5_shareVoices_0 : decode cX5_shareVoices 0 = .ok (.aload_n 0, 1) := by decide +kernel
theorem dX5_shareVoices_1 : decode cX5_shareVoices 1 = .ok (.iconst 0, 1) := by decide +kernel
theorem dX5_shareVoices_2 : decode cX5_shareVoices 2 = .ok (.putfield 41, 3) := by decide +kernel
theorem dX5_shareVoices_5 : decode cX5_shareVoices 5 = .ok (.aload_n 0, 1) := by decide +kernel
theorem dX5_shareVoices_6 : decode cX5_shareVoices 6 = .ok (.iconst 0, 1) := by decide +kernel
theorem dX5_shareVoices_7 : decode cX5_shareVoices 7 = .ok (.putfield 44, 3) := by decide +kernel
theorem dX5_shareVoices_10 : decode cX5_shareVoices 10 = .ok (.aload_n 0, 1) := by decide +kernel
theorem dX5_shareVoices_11 : decode cX5_shareVoices 11 = .ok (.iconst 0, 1) := by decide +kernel
theorem dX5_shareVoices_12 : decode cX5_shareVoices 12 = .ok (.putfield 47, 3) := by decide +kernel
theorem dX5_shareVoices_15 : decode cX5_shareVoices 15 = .ok (.aload_n 0, 1) := by decide +kernel
theorem dX5_shareVoices_16 : decode cX5_shareVoices 16 = .ok (.getfield 21, 3) := by decide +kernel
theorem dX5_shareVoices_19 : decode cX5_shareVoices 19 = .ok (.iconst (-1), 1) := by decide +kernel
theorem dX5_shareVoices_20 : decode cX5_shareVoices 20 = .ok (.invokestatic 136, 3) := by decide +kernel
theorem dX5_shareVoices_23 : decode cX5_shareVoices 23 = .ok (.aload_n 0, 1) := by decide +kernel
theorem dX5_shareVoices_24 : decode cX5_shareVoices 24 = .ok (.getfield 15, 3) := by decide +kernel
theorem dX5_shareVoices_27 : decode cX5_shareVoices 27 = .ok (.iconst (-1), 1) := by decide +kernel
theorem dX5_shareVoices_28 : decode cX5_shareVoices 28 = .ok (.invokestatic 136, 3) := by decide +kernel
theorem dX5_shareVoices_31 : decode cX5_shareVoices 31 = .ok (.iconst 0, 1) := by decide +kernel
theorem dX5_shareVoices_32 : decode cX5_shareVoices 32 = .ok (.istore_n 2, 1) := by decide +kernel
theorem dX5_shareVoices_33 : decode cX5_shareVoices 33 = .ok (.iload_n 2, 1) := by decide +kernel
theorem dX5_shareVoices_34 : decode cX5_shareVoices 34 = .ok (.aload_n 0, 1) := by decide +kernel
theorem dX5_shareVoices_35 : decode cX5_shareVoices 35 = .ok (.getfield 37, 3) := by decide +kernel
theorem dX5_shareVoices_38 : decode cX5_shareVoices 38 = .ok (.if_icmp .ge 20, 3) := by decide +kernel
theorem dX5_shareVoices_58 : decode cX5_shareVoices 58 = .ok (.aload_n 0, 1) := by decide +kernel
theorem dX5_shareVoices_59 : decode cX5_shareVoices 59 = .ok (.getfield 33, 3) := by decide +kernel
theorem dX5_shareVoices_62 : decode cX5_shareVoices 62 = .ok (.aload_n 0, 1) := by decide +kernel
theorem dX5_shareVoices_63 : decode cX5_shareVoices 63 = .ok (.getfield 24, 3) := by decide +kernel
theorem dX5_shareVoices_66 : decode cX5_shareVoices 66 = .ok (.aload_n 0, 1) := by decide +kernel
theorem dX5_shareVoices_67 : decode cX5_shareVoices 67 = .ok (.getfield 37, 3) := by decide +kernel
theorem dX5_shareVoices_70 : decode cX5_shareVoices 70 = .ok (.invokevirtual 89, 3) := by decide +kernel
theorem dX5_shareVoices_73 : decode cX5_shareVoices 73 = .ok (.iconst 0, 1) := by decide +kernel
theorem dX5_shareVoices_74 : decode cX5_shareVoices 74 = .ok (.istore_n 2, 1) := by decide +kernel
theorem dX5_shareVoices_75 : decode cX5_shareVoices 75 = .ok (.iload_n 2, 1) := by decide +kernel
theorem dX5_shareVoices_76 : decode cX5_shareVoices 76 = .ok (.aload_n 0, 1) := by decide +kernel
theorem dX5_shareVoices_77 : decode cX5_shareVoices 77 = .ok (.getfield 37, 3) := by decide +kernel
theorem dX5_shareVoices_80 : decode cX5_shareVoices 80 = .ok (.if_icmp .ge 67, 3) := by decide +kernel
theorem dX5_shareVoices_147 : decode cX5_shareVoices 147 = .ok (.return_, 1) := by decide +kernel
theorem dX5_soundOf_0 : decode cX5_soundOf 0 = .ok (.iconst 0, 1) := by decide +kernel
theorem dX5_soundOf_1 : decode cX5_soundOf 1 = .ok (.istore_n 2, 1) := by decide +kernel
theorem dX5_soundOf_2 : decode cX5_soundOf 2 = .ok (.iconst 0, 1) := by decide +kernel
theorem dX5_soundOf_3 : decode cX5_soundOf 3 = .ok (.istore_n 3, 1) := by decide +kernel
theorem dX5_soundOf_4 : decode cX5_soundOf 4 = .ok (.iload_n 3, 1) := by decide +kernel
theorem dX5_soundOf_5 : decode cX5_soundOf 5 = .ok (.aload_n 0, 1) := by decide +kernel
theorem dX5_soundOf_6 : decode cX5_soundOf 6 = .ok (.getfield 37, 3) := by decide +kernel
theorem dX5_soundOf_9 : decode cX5_soundOf 9 = .ok (.if_icmp .ge 37, 3) := by decide +kernel
theorem dX5_soundOf_46 : decode cX5_soundOf 46 = .ok (.iload_n 2, 1) := by decide +kernel
theorem dX5_soundOf_47 : decode cX5_soundOf 47 = .ok (.ireturn, 1) := by decide +kernel
theorem dX5_voicesAt_0 : decode cX5_voicesAt 0 = .ok (.iconst 0, 1) := by decide +kernel
theorem dX5_voicesAt_1 : decode cX5_voicesAt 1 = .ok (.istore_n 2, 1) := by decide +kernel
theorem dX5_voicesAt_2 : decode cX5_voicesAt 2 = .ok (.iconst 0, 1) := by decide +kernel
theorem dX5_voicesAt_3 : decode cX5_voicesAt 3 = .ok (.istore_n 3, 1) := by decide +kernel
theorem dX5_voicesAt_4 : decode cX5_voicesAt 4 = .ok (.iload_n 3, 1) := by decide +kernel
theorem dX5_voicesAt_5 : decode cX5_voicesAt 5 = .ok (.aload_n 0, 1) := by decide +kernel
theorem dX5_voicesAt_6 : decode cX5_voicesAt 6 = .ok (.getfield 37, 3) := by decide +kernel
theorem dX5_voicesAt_9 : decode cX5_voicesAt 9 = .ok (.if_icmp .ge 30, 3) := by decide +kernel
theorem dX5_voicesAt_39 : decode cX5_voicesAt 39 = .ok (.iload_n 2, 1) := by decide +kernel
theorem dX5_voicesAt_40 : decode cX5_voicesAt 40 = .ok (.ireturn, 1) := by decide +kernel
theorem dX6_clipCount_0 : decode cX6_clipCount 0 = .ok (.aload_n 0, 1) := by decide +kernel
theorem dX6_clipCount_1 : decode cX6_clipCount 1 = .ok (.getfield 37, 3) := by decide +kernel
theorem dX6_clipCount_4 : decode cX6_clipCount 4 = .ok (.ireturn, 1) := by decide +kernel
theorem dX6_clipLength_0 : decode cX6_clipLength 0 = .ok (.aload_n 0, 1) := by decide +kernel
theorem dX6_clipLength_1 : decode cX6_clipLength 1 = .ok (.iload_n 1, 1) := by decide +kernel
theorem dX6_clipLength_2 : decode cX6_clipLength 2 = .ok (.iconst 2, 1) := by decide +kernel
theorem dX6_clipLength_3 : decode cX6_clipLength 3 = .ok (.invokevirtual 73, 3) := by decide +kernel
theorem dX6_clipLength_6 : decode cX6_clipLength 6 = .ok (.aload_n 0, 1) := by decide +kernel
theorem dX6_clipLength_7 : decode cX6_clipLength 7 = .ok (.getfield 12, 3) := by decide +kernel
theorem dX6_clipLength_10 : decode cX6_clipLength 10 = .ok (.aload_n 0, 1) := by decide +kernel
theorem dX6_clipLength_11 : decode cX6_clipLength 11 = .ok (.iload_n 1, 1) := by decide +kernel
theorem dX6_clipLength_12 : decode cX6_clipLength 12 = .ok (.iconst 1, 1) := by decide +kernel
theorem dX6_clipLength_13 : decode cX6_clipLength 13 = .ok (.invokevirtual 73, 3) := by decide +kernel
theorem dX6_clipLength_16 : decode cX6_clipLength 16 = .ok (.iconst 1, 1) := by decide +kernel
theorem dX6_clipLength_17 : decode cX6_clipLength 17 = .ok (.invokevirtual 77, 3) := by decide +kernel
theorem dX6_clipLength_20 : decode cX6_clipLength 20 = .ok (.imul, 1) := by decide +kernel
theorem dX6_clipLength_21 : decode cX6_clipLength 21 = .ok (.ireturn, 1) := by decide +kernel
theorem dX6_clipNotes_0 : decode cX6_clipNotes 0 = .ok (.aload_n 0, 1) := by decide +kernel
theorem dX6_clipNotes_1 : decode cX6_clipNotes 1 = .ok (.iload_n 1, 1) := by decide +kernel
theorem dX6_clipNotes_2 : decode cX6_clipNotes 2 = .ok (.iconst 2, 1) := by decide +kernel
theorem dX6_clipNotes_3 : decode cX6_clipNotes 3 = .ok (.invokevirtual 73, 3) := by decide +kernel
theorem dX6_clipNotes_6 : decode cX6_clipNotes 6 = .ok (.aload_n 0, 1) := by decide +kernel
theorem dX6_clipNotes_7 : decode cX6_clipNotes 7 = .ok (.getfield 12, 3) := by decide +kernel
theorem dX6_clipNotes_10 : decode cX6_clipNotes 10 = .ok (.aload_n 0, 1) := by decide +kernel
theorem dX6_clipNotes_11 : decode cX6_clipNotes 11 = .ok (.iload_n 1, 1) := by decide +kernel
theorem dX6_clipNotes_12 : decode cX6_clipNotes 12 = .ok (.iconst 1, 1) := by decide +kernel
theorem dX6_clipNotes_13 : decode cX6_clipNotes 13 = .ok (.invokevirtual 73, 3) := by decide +kernel
theorem dX6_clipNotes_16 : decode cX6_clipNotes 16 = .ok (.iconst 2, 1) := by decide +kernel
theorem dX6_clipNotes_17 : decode cX6_clipNotes 17 = .ok (.invokevirtual 77, 3) := by decide +kernel
theorem dX6_clipNotes_20 : decode cX6_clipNotes 20 = .ok (.imul, 1) := by decide +kernel
theorem dX6_clipNotes_21 : decode cX6_clipNotes 21 = .ok (.ireturn, 1) := by decide +kernel
theorem dX6_clipNumber_0 : decode cX6_clipNumber 0 = .ok (.iload_n 1, 1) := by decide +kernel
theorem dX6_clipNumber_1 : decode cX6_clipNumber 1 = .ok (.iconst 5, 1) := by decide +kernel
theorem dX6_clipNumber_2 : decode cX6_clipNumber 2 = .ok (.imul, 1) := by decide +kernel
theorem dX6_clipNumber_3 : decode cX6_clipNumber 3 = .ok (.iload_n 2, 1) := by decide +kernel
theorem dX6_clipNumber_4 : decode cX6_clipNumber 4 = .ok (.iadd, 1) := by decide +kernel
theorem dX6_clipNumber_5 : decode cX6_clipNumber 5 = .ok (.istore_n 3, 1) := by decide +kernel
theorem dX6_clipNumber_6 : decode cX6_clipNumber 6 = .ok (.iload_n 3, 1) := by decide +kernel
theorem dX6_clipNumber_7 : decode cX6_clipNumber 7 = .ok (.ifCond .lt 21, 3) := by decide +kernel
theorem dX6_clipNumber_10 : decode cX6_clipNumber 10 = .ok (.iload_n 3, 1) := by decide +kernel
theorem dX6_clipNumber_11 : decode cX6_clipNumber 11 = .ok (.aload_n 0, 1) := by decide +kernel
theorem dX6_clipNumber_12 : decode cX6_clipNumber 12 = .ok (.getfield 25, 3) := by decide +kernel
theorem dX6_clipNumber_15 : decode cX6_clipNumber 15 = .ok (.arraylength, 1) := by decide +kernel
theorem dX6_clipNumber_16 : decode cX6_clipNumber 16 = .ok (.if_icmp .ge 12, 3) := by decide +kernel
theorem dX6_clipNumber_19 : decode cX6_clipNumber 19 = .ok (.aload_n 0, 1) := by decide +kernel
theorem dX6_clipNumber_20 : decode cX6_clipNumber 20 = .ok (.getfield 25, 3) := by decide +kernel
theorem dX6_clipNumber_23 : decode cX6_clipNumber 23 = .ok (.iload_n 3, 1) := by decide +kernel
theorem dX6_clipNumber_24 : decode cX6_clipNumber 24 = .ok (.iaload, 1) := by decide +kernel
theorem dX6_clipNumber_25 : decode cX6_clipNumber 25 = .ok (.goto 4, 3) := by decide +kernel
theorem dX6_clipNumber_29 : decode cX6_clipNumber 29 = .ok (.ireturn, 1) := by decide +kernel
theorem dX6_copyFrom_0 : decode cX6_copyFrom 0 = .ok (.aload_n 0, 1) := by decide +kernel
theorem dX6_copyFrom_1 : decode cX6_copyFrom 1 = .ok (.getfield 12, 3) := by decide +kernel
theorem dX6_copyFrom_4 : decode cX6_copyFrom 4 = .ok (.aload_n 1, 1) := by decide +kernel
theorem dX6_copyFrom_5 : decode cX6_copyFrom 5 = .ok (.getfield 12, 3) := by decide +kernel
theorem dX6_copyFrom_8 : decode cX6_copyFrom 8 = .ok (.invokevirtual 55, 3) := by decide +kernel
theorem dX6_copyFrom_11 : decode cX6_copyFrom 11 = .ok (.aload_n 0, 1) := by decide +kernel
theorem dX6_copyFrom_12 : decode cX6_copyFrom 12 = .ok (.getfield 21, 3) := by decide +kernel
theorem dX6_copyFrom_15 : decode cX6_copyFrom 15 = .ok (.aload_n 1, 1) := by decide +kernel
theorem dX6_copyFrom_16 : decode cX6_copyFrom 16 = .ok (.getfield 21, 3) := by decide +kernel
theorem dX6_copyFrom_19 : decode cX6_copyFrom 19 = .ok (.invokevirtual 59, 3) := by decide +kernel
theorem dX6_copyFrom_22 : decode cX6_copyFrom 22 = .ok (.aload_n 1, 1) := by decide +kernel
theorem dX6_copyFrom_23 : decode cX6_copyFrom 23 = .ok (.getfield 25, 3) := by decide +kernel
theorem dX6_copyFrom_26 : decode cX6_copyFrom 26 = .ok (.aload_n 0, 1) := by decide +kernel
theorem dX6_copyFrom_27 : decode cX6_copyFrom 27 = .ok (.getfield 25, 3) := by decide +kernel
theorem dX6_copyFrom_30 : decode cX6_copyFrom 30 = .ok (.invokestatic 62, 3) := by decide +kernel
theorem dX6_copyFrom_33 : decode cX6_copyFrom 33 = .ok (.aload_n 1, 1) := by decide +kernel
theorem dX6_copyFrom_34 : decode cX6_copyFrom 34 = .ok (.getfield 29, 3) := by decide +kernel
theorem dX6_copyFrom_37 : decode cX6_copyFrom 37 = .ok (.aload_n 0, 1) := by decide +kernel
theorem dX6_copyFrom_38 : decode cX6_copyFrom 38 = .ok (.getfield 29, 3) := by decide +kernel
theorem dX6_copyFrom_41 : decode cX6_copyFrom 41 = .ok (.invokestatic 62, 3) := by decide +kernel
theorem dX6_copyFrom_44 : decode cX6_copyFrom 44 = .ok (.aload_n 0, 1) := by decide +kernel
theorem dX6_copyFrom_45 : decode cX6_copyFrom 45 = .ok (.aload_n 1, 1) := by decide +kernel
theorem dX6_copyFrom_46 : decode cX6_copyFrom 46 = .ok (.getfield 37, 3) := by decide +kernel
theorem dX6_copyFrom_49 : decode cX6_copyFrom 49 = .ok (.putfield 37, 3) := by decide +kernel
theorem dX6_copyFrom_52 : decode cX6_copyFrom 52 = .ok (.aload_n 0, 1) := by decide +kernel
theorem dX6_copyFrom_53 : decode cX6_copyFrom 53 = .ok (.aload_n 1, 1) := by decide +kernel
theorem dX6_copyFrom_54 : decode cX6_copyFrom 54 = .ok (.getfield 41, 3) := by decide +kernel
theorem dX6_copyFrom_57 : decode cX6_copyFrom 57 = .ok (.putfield 41, 3) := by decide +kernel
theorem dX6_copyFrom_60 : decode cX6_copyFrom 60 = .ok (.aload_n 0, 1) := by decide +kernel
theorem dX6_copyFrom_61 : decode cX6_copyFrom 61 = .ok (.aload_n 1, 1) := by decide +kernel
theorem dX6_copyFrom_62 : decode cX6_copyFrom 62 = .ok (.getfield 44, 3) := by decide +kernel
theorem dX6_copyFrom_65 : decode cX6_copyFrom 65 = .ok (.putfield 44, 3) := by decide +kernel
theorem dX6_copyFrom_68 : decode cX6_copyFrom 68 = .ok (.return_, 1) := by decide +kernel
theorem dX6_countClipsWith_0 : decode cX6_countClipsWith 0 = .ok (.iconst 0, 1) := by decide +kernel
theorem dX6_countClipsWith_1 : decode cX6_countClipsWith 1 = .ok (.istore_n 2, 1) := by decide +kernel
theorem dX6_countClipsWith_2 : decode cX6_countClipsWith 2 = .ok (.iconst 0, 1) := by decide +kernel
theorem dX6_countClipsWith_3 : decode cX6_countClipsWith 3 = .ok (.istore_n 3, 1) := by decide +kernel
theorem dX6_countClipsWith_4 : decode cX6_countClipsWith 4 = .ok (.iload_n 3, 1) := by decide +kernel
theorem dX6_countClipsWith_5 : decode cX6_countClipsWith 5 = .ok (.aload_n 0, 1) := by decide +kernel
theorem dX6_countClipsWith_6 : decode cX6_countClipsWith 6 = .ok (.getfield 37, 3) := by decide +kernel
theorem dX6_countClipsWith_9 : decode cX6_countClipsWith 9 = .ok (.if_icmp .ge 22, 3) := by decide +kernel
theorem dX6_countClipsWith_31 : decode cX6_countClipsWith 31 = .ok (.iload_n 2, 1) := by decide +kernel
theorem dX6_countClipsWith_32 : decode cX6_countClipsWith 32 = .ok (.ireturn, 1) := by decide +kernel
theorem dX6_countSameEnvelopes_0 : decode cX6_countSameEnvelopes 0 = .ok (.iconst 0, 1) := by decide +kernel
theorem dX6_countSameEnvelopes_1 : decode cX6_countSameEnvelopes 1 = .ok (.istore_n 2, 1) := by decide +kernel
theorem dX6_countSameEnvelopes_2 : decode cX6_countSameEnvelopes 2 = .ok (.iconst 0, 1) := by decide +kernel
theorem dX6_countSameEnvelopes_3 : decode cX6_countSameEnvelopes 3 = .ok (.istore_n 3, 1) := by decide +kernel
theorem dX6_countSameEnvelopes_4 : decode cX6_countSameEnvelopes 4 = .ok (.iload_n 3, 1) := by decide +kernel
theorem dX6_countSameEnvelopes_5 : decode cX6_countSameEnvelopes 5 = .ok (.iconst 4, 1) := by decide +kernel
theorem dX6_countSameEnvelopes_6 : decode cX6_countSameEnvelopes 6 = .ok (.if_icmp .ge 21, 3) := by decide +kernel
theorem dX6_countSameEnvelopes_9 : decode cX6_countSameEnvelopes 9 = .ok (.aload_n 0, 1) := by decide +kernel
theorem dX6_countSameEnvelopes_10 : decode cX6_countSameEnvelopes 10 = .ok (.iload_n 1, 1) := by decide +kernel
theorem dX6_countSameEnvelopes_11 : decode cX6_countSameEnvelopes 11 = .ok (.iload_n 3, 1) := by decide +kernel
theorem dX6_countSameEnvelopes_12 : decode cX6_countSameEnvelopes 12 = .ok (.invokevirtual 88, 3) := by decide +kernel
theorem dX6_countSameEnvelopes_15 : decode cX6_countSameEnvelopes 15 = .ok (.ifCond .eq 6, 3) := by decide +kernel
theorem dX6_countSameEnvelopes_18 : decode cX6_countSameEnvelopes 18 = .ok (.iinc 2 1, 3) := by decide +kernel
theorem dX6_countSameEnvelopes_21 : decode cX6_countSameEnvelopes 21 = .ok (.iinc 3 1, 3) := by decide +kernel
theorem dX6_countSameEnvelopes_24 : decode cX6_countSameEnvelopes 24 = .ok (.goto (-20), 3) := by decide +kernel
theorem dX6_countSameEnvelopes_27 : decode cX6_countSameEnvelopes 27 = .ok (.iload_n 2, 1) := by decide +kernel
theorem dX6_countSameEnvelopes_28 : decode cX6_countSameEnvelopes 28 = .ok (.ireturn, 1) := by decide +kernel
theorem dX6_hasFittingClips_0 : decode cX6_hasFittingClips 0 = .ok (.iconst 0, 1) := by decide +kernel
theorem dX6_hasFittingClips_1 : decode cX6_hasFittingClips 1 = .ok (.istore_n 1, 1) := by decide +kernel
theorem dX6_hasFittingClips_2 : decode cX6_hasFittingClips 2 = .ok (.iconst 0, 1) := by decide +kernel
theorem dX6_hasFittingClips_3 : decode cX6_hasFittingClips 3 = .ok (.istore_n 2, 1) := by decide +kernel
theorem dX6_hasFittingClips_4 : decode cX6_hasFittingClips 4 = .ok (.iload_n 2, 1) := by decide +kernel
theorem dX6_hasFittingClips_5 : decode cX6_hasFittingClips 5 = .ok (.aload_n 0, 1) := by decide +kernel
theorem dX6_hasFittingClips_6 : decode cX6_hasFittingClips 6 = .ok (.getfield 37, 3) := by decide +kernel
theorem dX6_hasFittingClips_9 : decode cX6_hasFittingClips 9 = .ok (.if_icmp .ge 30, 3) := by decide +kernel
theorem dX6_hasFittingClips_12 : decode cX6_hasFittingClips 12 = .ok (.aload_n 0, 1) := by decide +kernel
theorem dX6_hasFittingClips_13 : decode cX6_hasFittingClips 13 = .ok (.iload_n 2, 1) := by decide +kernel
theorem dX6_hasFittingClips_14 : decode cX6_hasFittingClips 14 = .ok (.invokevirtual 66, 3) := by decide +kernel
theorem dX6_hasFittingClips_17 : decode cX6_hasFittingClips 17 = .ok (.sipush 20000, 3) := by decide +kernel
theorem dX6_hasFittingClips_20 : decode cX6_hasFittingClips 20 = .ok (.if_icmp .le 5, 3) := by decide +kernel
theorem dX6_hasFittingClips_25 : decode cX6_hasFittingClips 25 = .ok (.iload_n 1, 1) := by decide +kernel
theorem dX6_hasFittingClips_26 : decode cX6_hasFittingClips 26 = .ok (.aload_n 0, 1) := by decide +kernel
theorem dX6_hasFittingClips_27 : decode cX6_hasFittingClips 27 = .ok (.iload_n 2, 1) := by decide +kernel
theorem dX6_hasFittingClips_28 : decode cX6_hasFittingClips 28 = .ok (.invokevirtual 70, 3) := by decide +kernel
theorem dX6_hasFittingClips_31 : decode cX6_hasFittingClips 31 = .ok (.iadd, 1) := by decide +kernel
theorem dX6_hasFittingClips_32 : decode cX6_hasFittingClips 32 = .ok (.istore_n 1, 1) := by decide +kernel
theorem dX6_hasFittingClips_33 : decode cX6_hasFittingClips 33 = .ok (.iinc 2 1, 3) := by decide +kernel
theorem dX6_hasFittingClips_36 : decode cX6_hasFittingClips 36 = .ok (.goto (-32), 3) := by decide +kernel
theorem dX6_hasFittingClips_39 : decode cX6_hasFittingClips 39 = .ok (.iload_n 1, 1) := by decide +kernel
theorem dX6_hasFittingClips_40 : decode cX6_hasFittingClips 40 = .ok (.sipush 300, 3) := by decide +kernel
theorem dX6_hasFittingClips_43 : decode cX6_hasFittingClips 43 = .ok (.if_icmp .gt 7, 3) := by decide +kernel
theorem dX6_hasFittingClips_46 : decode cX6_hasFittingClips 46 = .ok (.iconst 1, 1) := by decide +kernel
theorem dX6_hasFittingClips_47 : decode cX6_hasFittingClips 47 = .ok (.goto 4, 3) := by decide +kernel
theorem dX6_hasFittingClips_51 : decode cX6_hasFittingClips 51 = .ok (.ireturn, 1) := by decide +kernel
theorem dX6_hasSameEnvelope_0 : decode cX6_hasSameEnvelope 0 = .ok (.iconst 0, 1) := by decide +kernel
theorem dX6_hasSameEnvelope_1 : decode cX6_hasSameEnvelope 1 = .ok (.istore_n 3, 1) := by decide +kernel
theorem dX6_hasSameEnvelope_2 : decode cX6_hasSameEnvelope 2 = .ok (.iload_n 3, 1) := by decide +kernel
theorem dX6_hasSameEnvelope_3 : decode cX6_hasSameEnvelope 3 = .ok (.iconst 3, 1) := by decide +kernel
theorem dX6_hasSameEnvelope_4 : decode cX6_hasSameEnvelope 4 = .ok (.if_icmp .gt 26, 3) := by decide +kernel
theorem dX6_hasSameEnvelope_7 : decode cX6_hasSameEnvelope 7 = .ok (.aload_n 0, 1) := by decide +kernel
theorem dX6_hasSameEnvelope_8 : decode cX6_hasSameEnvelope 8 = .ok (.iload_n 1, 1) := by decide +kernel
theorem dX6_hasSameEnvelope_9 : decode cX6_hasSameEnvelope 9 = .ok (.iload_n 3, 1) := by decide +kernel
theorem dX6_hasSameEnvelope_10 : decode cX6_hasSameEnvelope 10 = .ok (.invokevirtual 92, 3) := by decide +kernel
theorem dX6_hasSameEnvelope_13 : decode cX6_hasSameEnvelope 13 = .ok (.aload_n 0, 1) := by decide +kernel
theorem dX6_hasSameEnvelope_14 : decode cX6_hasSameEnvelope 14 = .ok (.iload_n 2, 1) := by decide +kernel
theorem dX6_hasSameEnvelope_15 : decode cX6_hasSameEnvelope 15 = .ok (.iload_n 3, 1) := by decide +kernel
theorem dX6_hasSameEnvelope_16 : decode cX6_hasSameEnvelope 16 = .ok (.invokevirtual 92, 3) := by decide +kernel
theorem dX6_hasSameEnvelope_19 : decode cX6_hasSameEnvelope 19 = .ok (.if_icmp .eq 5, 3) := by decide +kernel
theorem dX6_hasSameEnvelope_22 : decode cX6_hasSameEnvelope 22 = .ok (.iconst 0, 1) := by decide +kernel
theorem dX6_hasSameEnvelope_23 : decode cX6_hasSameEnvelope 23 = .ok (.ireturn, 1) := by decide +kernel
theorem dX6_hasSameEnvelope_24 : decode cX6_hasSameEnvelope 24 = .ok (.iinc 3 1, 3) := by decide +kernel
theorem dX6_hasSameEnvelope_27 : decode cX6_hasSameEnvelope 27 = .ok (.goto (-25), 3) := by decide +kernel
theorem dX6_hasSameEnvelope_30 : decode cX6_hasSameEnvelope 30 = .ok (.iconst 1, 1) := by decide +kernel
theorem dX6_hasSameEnvelope_31 : decode cX6_hasSameEnvelope 31 = .ok (.ireturn, 1) := by decide +kernel
theorem dX6_init_0 : decode cX6_init 0 = .ok (.aload_n 0, 1) := by decide +kernel
theorem dX6_init_1 : decode cX6_init 1 = .ok (.invokespecial 3, 3) := by decide +kernel
theorem dX6_init_4 : decode cX6_init 4 = .ok (.aload_n 0, 1) := by decide +kernel
theorem dX6_init_5 : decode cX6_init 5 = .ok (.new 9, 3) := by decide +kernel
theorem dX6_init_8 : decode cX6_init 8 = .ok (.dup, 1) := by decide +kernel
theorem dX6_init_9 : decode cX6_init 9 = .ok (.invokespecial 11, 3) := by decide +kernel
theorem dX6_init_12 : decode cX6_init 12 = .ok (.putfield 12, 3) := by decide +kernel
theorem dX6_init_15 : decode cX6_init 15 = .ok (.aload_n 0, 1) := by decide +kernel
theorem dX6_init_16 : decode cX6_init 16 = .ok (.new 18, 3) := by decide +kernel
theorem dX6_init_19 : decode cX6_init 19 = .ok (.dup, 1) := by decide +kernel
theorem dX6_init_20 : decode cX6_init 20 = .ok (.invokespecial 20, 3) := by decide +kernel
theorem dX6_init_23 : decode cX6_init 23 = .ok (.putfield 21, 3) := by decide +kernel
theorem dX6_init_26 : decode cX6_init 26 = .ok (.aload_n 0, 1) := by decide +kernel
theorem dX6_init_27 : decode cX6_init 27 = .ok (.bipush 60, 2) := by decide +kernel
theorem dX6_init_29 : decode cX6_init 29 = .ok (.newarray .int, 2) := by decide +kernel
theorem dX6_init_31 : decode cX6_init 31 = .ok (.putfield 25, 3) := by decide +kernel
theorem dX6_init_34 : decode cX6_init 34 = .ok (.aload_n 0, 1) := by decide +kernel
theorem dX6_init_35 : decode cX6_init 35 = .ok (.bipush 20, 2) := by decide +kernel
theorem dX6_init_37 : decode cX6_init 37 = .ok (.newarray .int, 2) := by decide +kernel
theorem dX6_init_39 : decode cX6_init 39 = .ok (.putfield 29, 3) := by decide +kernel
theorem dX6_init_42 : decode cX6_init 42 = .ok (.aload_n 0, 1) := by decide +kernel
theorem dX6_init_43 : decode cX6_init 43 = .ok (.invokevirtual 32, 3) := by decide +kernel
theorem dX6_init_46 : decode cX6_init 46 = .ok (.return_, 1) := by decide +kernel
theorem dX6_instrumentNumber_0 : decode cX6_instrumentNumber 0 = .ok (.iload_n 1, 1) := by decide +kernel
theorem dX6_instrumentNumber_1 : decode cX6_instrumentNumber 1 = .ok (.iconst 5, 1) := by decide +kernel
theorem dX6_instrumentNumber_2 : decode cX6_instrumentNumber 2 = .ok (.imul, 1) := by decide +kernel
theorem dX6_instrumentNumber_3 : decode cX6_instrumentNumber 3 = .ok (.iload_n 2, 1) := by decide +kernel
theorem dX6_instrumentNumber_4 : decode cX6_instrumentNumber 4 = .ok (.iadd, 1) := by decide +kernel
theorem dX6_instrumentNumber_5 : decode cX6_instrumentNumber 5 = .ok (.istore_n 3, 1) := by decide +kernel
theorem dX6_instrumentNumber_6 : decode cX6_instrumentNumber 6 = .ok (.iload_n 3, 1) := by decide +kernel
theorem dX6_instrumentNumber_7 : decode cX6_instrumentNumber 7 = .ok (.ifCond .lt 21, 3) := by decide +kernel
theorem dX6_instrumentNumber_10 : decode cX6_instrumentNumber 10 = .ok (.iload_n 3, 1) := by decide +kernel
theorem dX6_instrumentNumber_11 : decode cX6_instrumentNumber 11 = .ok (.aload_n 0, 1) := by decide +kernel
theorem dX6_instrumentNumber_12 : decode cX6_instrumentNumber 12 = .ok (.getfield 29, 3) := by decide +kernel
theorem dX6_instrumentNumber_15 : decode cX6_instrumentNumber 15 = .ok (.arraylength, 1) := by decide +kernel
theorem dX6_instrumentNumber_16 : decode cX6_instrumentNumber 16 = .ok (.if_icmp .ge 12, 3) := by decide +kernel
theorem dX6_instrumentNumber_19 : decode cX6_instrumentNumber 19 = .ok (.aload_n 0, 1) := by decide +kernel
theorem dX6_instrumentNumber_20 : decode cX6_instrumentNumber 20 = .ok (.getfield 29, 3) := by decide +kernel
theorem dX6_instrumentNumber_23 : decode cX6_instrumentNumber 23 = .ok (.iload_n 3, 1) := by decide +kernel
theorem dX6_instrumentNumber_24 : decode cX6_instrumentNumber 24 = .ok (.iaload, 1) := by decide +kernel
theorem dX6_instrumentNumber_25 : decode cX6_instrumentNumber 25 = .ok (.goto 4, 3) := by decide +kernel
theorem dX6_instrumentNumber_29 : decode cX6_instrumentNumber 29 = .ok (.ireturn, 1) := by decide +kernel
theorem dX6_putClip_0 : decode cX6_putClip 0 = .ok (.aload_n 0, 1) := by decide +kernel
theorem dX6_putClip_1 : decode cX6_putClip 1 = .ok (.getfield 37, 3) := by decide +kernel
theorem dX6_putClip_4 : decode cX6_putClip 4 = .ok (.iconst 5, 1) := by decide +kernel
theorem dX6_putClip_5 : decode cX6_putClip 5 = .ok (.imul, 1) := by decide +kernel
theorem dX6_putClip_6 : decode cX6_putClip 6 = .ok (.istore 6, 2) := by decide +kernel
theorem dX6_putClip_8 : decode cX6_putClip 8 = .ok (.aload_n 0, 1) := by decide +kernel
theorem dX6_putClip_9 : decode cX6_putClip 9 = .ok (.getfield 25, 3) := by decide +kernel
theorem dX6_putClip_12 : decode cX6_putClip 12 = .ok (.iload 6, 2) := by decide +kernel
theorem dX6_putClip_14 : decode cX6_putClip 14 = .ok (.iconst 0, 1) := by decide +kernel
theorem dX6_putClip_15 : decode cX6_putClip 15 = .ok (.iadd, 1) := by decide +kernel
theorem dX6_putClip_16 : decode cX6_putClip 16 = .ok (.iload_n 1, 1) := by decide +kernel
theorem dX6_putClip_17 : decode cX6_putClip 17 = .ok (.invokestatic 80, 3) := by decide +kernel
theorem dX6_putClip_20 : decode cX6_putClip 20 = .ok (.aload_n 0, 1) := by decide +kernel
theorem dX6_putClip_21 : decode cX6_putClip 21 = .ok (.getfield 25, 3) := by decide +kernel
theorem dX6_putClip_24 : decode cX6_putClip 24 = .ok (.iload 6, 2) := by decide +kernel
theorem dX6_putClip_26 : decode cX6_putClip 26 = .ok (.iconst 1, 1) := by decide +kernel
theorem dX6_putClip_27 : decode cX6_putClip 27 = .ok (.iadd, 1) := by decide +kernel
theorem dX6_putClip_28 : decode cX6_putClip 28 = .ok (.iload_n 2, 1) := by decide +kernel
theorem dX6_putClip_29 : decode cX6_putClip 29 = .ok (.invokestatic 80, 3) := by decide +kernel
theorem dX6_putClip_32 : decode cX6_putClip 32 = .ok (.aload_n 0, 1) := by decide +kernel
theorem dX6_putClip_33 : decode cX6_putClip 33 = .ok (.getfield 25, 3) := by decide +kernel
theorem dX6_putClip_36 : decode cX6_putClip 36 = .ok (.iload 6, 2) := by decide +kernel
theorem dX6_putClip_38 : decode cX6_putClip 38 = .ok (.iconst 2, 1) := by decide +kernel
theorem dX6_putClip_39 : decode cX6_putClip 39 = .ok (.iadd, 1) := by decide +kernel
theorem dX6_putClip_40 : decode cX6_putClip 40 = .ok (.iload_n 3, 1) := by decide +kernel
theorem dX6_putClip_41 : decode cX6_putClip 41 = .ok (.invokestatic 80, 3) := by decide +kernel
theorem dX6_putClip_44 : decode cX6_putClip 44 = .ok (.aload_n 0, 1) := by decide +kernel
theorem dX6_putClip_45 : decode cX6_putClip 45 = .ok (.getfield 25, 3) := by decide +kernel
theorem dX6_putClip_48 : decode cX6_putClip 48 = .ok (.iload 6, 2) := by decide +kernel
theorem dX6_putClip_50 : decode cX6_putClip 50 = .ok (.iconst 3, 1) := by decide +kernel
theorem dX6_putClip_51 : decode cX6_putClip 51 = .ok (.iadd, 1) := by decide +kernel
theorem dX6_putClip_52 : decode cX6_putClip 52 = .ok (.iload 4, 2) := by decide +kernel
theorem dX6_putClip_54 : decode cX6_putClip 54 = .ok (.invokestatic 80, 3) := by decide +kernel
theorem dX6_putClip_57 : decode cX6_putClip 57 = .ok (.aload_n 0, 1) := by decide +kernel
theorem dX6_putClip_58 : decode cX6_putClip 58 = .ok (.getfield 25, 3) := by decide +kernel
theorem dX6_putClip_61 : decode cX6_putClip 61 = .ok (.iload 6, 2) := by decide +kernel
theorem dX6_putClip_63 : decode cX6_putClip 63 = .ok (.iconst 4, 1) := by decide +kernel
theorem dX6_putClip_64 : decode cX6_putClip 64 = .ok (.iadd, 1) := by decide +kernel
theorem dX6_putClip_65 : decode cX6_putClip 65 = .ok (.iload 5, 2) := by decide +kernel
theorem dX6_putClip_67 : decode cX6_putClip 67 = .ok (.invokestatic 80, 3) := by decide +kernel
theorem dX6_putClip_70 : decode cX6_putClip 70 = .ok (.aload_n 0, 1) := by decide +kernel
theorem dX6_putClip_71 : decode cX6_putClip 71 = .ok (.dup, 1) := by decide +kernel
theorem dX6_putClip_72 : decode cX6_putClip 72 = .ok (.getfield 37, 3) := by decide +kernel
theorem dX6_putClip_75 : decode cX6_putClip 75 = .ok (.iconst 1, 1) := by decide +kernel
theorem dX6_putClip_76 : decode cX6_putClip 76 = .ok (.iadd, 1) := by decide +kernel
theorem dX6_putClip_77 : decode cX6_putClip 77 = .ok (.putfield 37, 3) := by decide +kernel
theorem dX6_putClip_80 : decode cX6_putClip 80 = .ok (.return_, 1) := by decide +kernel
theorem dX6_putEnvelope_0 : decode cX6_putEnvelope 0 = .ok (.aload_n 0, 1) := by decide +kernel
theorem dX6_putEnvelope_1 : decode cX6_putEnvelope 1 = .ok (.iload_n 1, 1) := by decide +kernel
theorem dX6_putEnvelope_2 : decode cX6_putEnvelope 2 = .ok (.iconst 0, 1) := by decide +kernel
theorem dX6_putEnvelope_3 : decode cX6_putEnvelope 3 = .ok (.iload_n 2, 1) := by decide +kernel
theorem dX6_putEnvelope_4 : decode cX6_putEnvelope 4 = .ok (.invokevirtual 51, 3) := by decide +kernel
theorem dX6_putEnvelope_7 : decode cX6_putEnvelope 7 = .ok (.aload_n 0, 1) := by decide +kernel
theorem dX6_putEnvelope_8 : decode cX6_putEnvelope 8 = .ok (.iload_n 1, 1) := by decide +kernel
theorem dX6_putEnvelope_9 : decode cX6_putEnvelope 9 = .ok (.iconst 1, 1) := by decide +kernel
theorem dX6_putEnvelope_10 : decode cX6_putEnvelope 10 = .ok (.iload_n 3, 1) := by decide +kernel
theorem dX6_putEnvelope_11 : decode cX6_putEnvelope 11 = .ok (.invokevirtual 51, 3) := by decide +kernel
theorem dX6_putEnvelope_14 : decode cX6_putEnvelope 14 = .ok (.aload_n 0, 1) := by decide +kernel
theorem dX6_putEnvelope_15 : decode cX6_putEnvelope 15 = .ok (.iload_n 1, 1) := by decide +kernel
theorem dX6_putEnvelope_16 : decode cX6_putEnvelope 16 = .ok (.iconst 2, 1) := by decide +kernel
theorem dX6_putEnvelope_17 : decode cX6_putEnvelope 17 = .ok (.iload 4, 2) := by decide +kernel
theorem dX6_putEnvelope_19 : decode cX6_putEnvelope 19 = .ok (.invokevirtual 51, 3) := by decide +kernel
theorem dX6_putEnvelope_22 : decode cX6_putEnvelope 22 = .ok (.aload_n 0, 1) := by decide +kernel
theorem dX6_putEnvelope_23 : decode cX6_putEnvelope 23 = .ok (.iload_n 1, 1) := by decide +kernel
theorem dX6_putEnvelope_24 : decode cX6_putEnvelope 24 = .ok (.iconst 3, 1) := by decide +kernel
theorem dX6_putEnvelope_25 : decode cX6_putEnvelope 25 = .ok (.iload 5, 2) := by decide +kernel
theorem dX6_putEnvelope_27 : decode cX6_putEnvelope 27 = .ok (.invokevirtual 51, 3) := by decide +kernel
theorem dX6_putEnvelope_30 : decode cX6_putEnvelope 30 = .ok (.return_, 1) := by decide +kernel
theorem dX6_putInstrumentNumber_0 : decode cX6_putInstrumentNumber 0 = .ok (.aload_n 0, 1) := by decide +kernel
theorem dX6_putInstrumentNumber_1 : decode cX6_putInstrumentNumber 1 = .ok (.getfield 29, 3) := by decide +kernel
theorem dX6_putInstrumentNumber_4 : decode cX6_putInstrumentNumber 4 = .ok (.iload_n 1, 1) := by decide +kernel
theorem dX6_putInstrumentNumber_5 : decode cX6_putInstrumentNumber 5 = .ok (.iconst 5, 1) := by decide +kernel
theorem dX6_putInstrumentNumber_6 : decode cX6_putInstrumentNumber 6 = .ok (.imul, 1) := by decide +kernel
theorem dX6_putInstrumentNumber_7 : decode cX6_putInstrumentNumber 7 = .ok (.iload_n 2, 1) := by decide +kernel
theorem dX6_putInstrumentNumber_8 : decode cX6_putInstrumentNumber 8 = .ok (.iadd, 1) := by decide +kernel
theorem dX6_putInstrumentNumber_9 : decode cX6_putInstrumentNumber 9 = .ok (.iload_n 3, 1) := by decide +kernel
theorem dX6_putInstrumentNumber_10 : decode cX6_putInstrumentNumber 10 = .ok (.invokestatic 80, 3) := by decide +kernel
theorem dX6_putInstrumentNumber_13 : decode cX6_putInstrumentNumber 13 = .ok (.return_, 1) := by decide +kernel
theorem dX6_reset_0 : decode cX6_reset 0 = .ok (.aload_n 0, 1) := by decide +kernel
theorem dX6_reset_1 : decode cX6_reset 1 = .ok (.getfield 12, 3) := by decide +kernel
theorem dX6_reset_4 : decode cX6_reset 4 = .ok (.invokevirtual 35, 3) := by decide +kernel
theorem dX6_reset_7 : decode cX6_reset 7 = .ok (.aload_n 0, 1) := by decide +kernel
theorem dX6_reset_8 : decode cX6_reset 8 = .ok (.getfield 21, 3) := by decide +kernel
theorem dX6_reset_11 : decode cX6_reset 11 = .ok (.invokevirtual 36, 3) := by decide +kernel
theorem dX6_reset_14 : decode cX6_reset 14 = .ok (.aload_n 0, 1) := by decide +kernel
theorem dX6_reset_15 : decode cX6_reset 15 = .ok (.iconst 0, 1) := by decide +kernel
theorem dX6_reset_16 : decode cX6_reset 16 = .ok (.putfield 37, 3) := by decide +kernel
theorem dX6_reset_19 : decode cX6_reset 19 = .ok (.aload_n 0, 1) := by decide +kernel
theorem dX6_reset_20 : decode cX6_reset 20 = .ok (.iconst 4, 1) := by decide +kernel
theorem dX6_reset_21 : decode cX6_reset 21 = .ok (.putfield 41, 3) := by decide +kernel
theorem dX6_reset_24 : decode cX6_reset 24 = .ok (.aload_n 0, 1) := by decide +kernel
theorem dX6_reset_25 : decode cX6_reset 25 = .ok (.iconst 0, 1) := by decide +kernel
theorem dX6_reset_26 : decode cX6_reset 26 = .ok (.putfield 44, 3) := by decide +kernel
theorem dX6_reset_29 : decode cX6_reset 29 = .ok (.iconst 0, 1) := by decide +kernel
theorem dX6_reset_30 : decode cX6_reset 30 = .ok (.istore_n 1, 1) := by decide +kernel
theorem dX6_reset_31 : decode cX6_reset 31 = .ok (.iload_n 1, 1) := by decide +kernel
theorem dX6_reset_32 : decode cX6_reset 32 = .ok (.iconst 4, 1) := by decide +kernel
theorem dX6_reset_33 : decode cX6_reset 33 = .ok (.if_icmp .ge 26, 3) := by decide +kernel
theorem dX6_reset_36 : decode cX6_reset 36 = .ok (.aload_n 0, 1) := by decide +kernel
theorem dX6_reset_37 : decode cX6_reset 37 = .ok (.iload_n 1, 1) := by decide +kernel
theorem dX6_reset_38 : decode cX6_reset 38 = .ok (.iconst 0, 1) := by decide +kernel
theorem dX6_reset_39 : decode cX6_reset 39 = .ok (.iconst 0, 1) := by decide +kernel
theorem dX6_reset_40 : decode cX6_reset 40 = .ok (.bipush 100, 2) := by decide +kernel
theorem dX6_reset_42 : decode cX6_reset 42 = .ok (.iconst 0, 1) := by decide +kernel
theorem dX6_reset_43 : decode cX6_reset 43 = .ok (.invokevirtual 47, 3) := by decide +kernel
theorem dX6_reset_46 : decode cX6_reset 46 = .ok (.aload_n 0, 1) := by decide +kernel
theorem dX6_reset_47 : decode cX6_reset 47 = .ok (.iload_n 1, 1) := by decide +kernel
theorem dX6_reset_48 : decode cX6_reset 48 = .ok (.iconst 4, 1) := by decide +kernel
theorem dX6_reset_49 : decode cX6_reset 49 = .ok (.iconst 5, 1) := by decide +kernel
theorem dX6_reset_50 : decode cX6_reset 50 = .ok (.invokevirtual 51, 3) := by decide +kernel
theorem dX6_reset_53 : decode cX6_reset 53 = .ok (.iinc 1 1, 3) := by decide +kernel
theorem dX6_reset_56 : decode cX6_reset 56 = .ok (.goto (-25), 3) := by decide +kernel
theorem dX6_reset_59 : decode cX6_reset 59 = .ok (.return_, 1) := by decide +kernel
theorem dX7_addPlace_0 : decode cX7_addPlace 0 = .ok (.aload_n 0, 1) := by decide +kernel
theorem dX7_addPlace_1 : decode cX7_addPlace 1 = .ok (.getfield 18, 3) := by decide +kernel
theorem dX7_addPlace_4 : decode cX7_addPlace 4 = .ok (.ifCond .lt 27, 3) := by decide +kernel
theorem dX7_addPlace_7 : decode cX7_addPlace 7 = .ok (.aload_n 0, 1) := by decide +kernel
theorem dX7_addPlace_8 : decode cX7_addPlace 8 = .ok (.getfield 18, 3) := by decide +kernel
theorem dX7_addPlace_11 : decode cX7_addPlace 11 = .ok (.aload_n 0, 1) := by decide +kernel
theorem dX7_addPlace_12 : decode cX7_addPlace 12 = .ok (.getfield 9, 3) := by decide +kernel
theorem dX7_addPlace_15 : decode cX7_addPlace 15 = .ok (.arraylength, 1) := by decide +kernel
theorem dX7_addPlace_16 : decode cX7_addPlace 16 = .ok (.if_icmp .ge 15, 3) := by decide +kernel
theorem dX7_addPlace_19 : decode cX7_addPlace 19 = .ok (.aload_n 0, 1) := by decide +kernel
theorem dX7_addPlace_20 : decode cX7_addPlace 20 = .ok (.getfield 18, 3) := by decide +kernel
theorem dX7_addPlace_23 : decode cX7_addPlace 23 = .ok (.aload_n 0, 1) := by decide +kernel
theorem dX7_addPlace_24 : decode cX7_addPlace 24 = .ok (.getfield 15, 3) := by decide +kernel
theorem dX7_addPlace_27 : decode cX7_addPlace 27 = .ok (.arraylength, 1) := by decide +kernel
theorem dX7_addPlace_28 : decode cX7_addPlace 28 = .ok (.if_icmp .lt 4, 3) := by decide +kernel
theorem dX7_addPlace_32 : decode cX7_addPlace 32 = .ok (.aload_n 0, 1) := by decide +kernel
theorem dX7_addPlace_33 : decode cX7_addPlace 33 = .ok (.getfield 18, 3) := by decide +kernel
theorem dX7_addPlace_36 : decode cX7_addPlace 36 = .ok (.istore_n 3, 1) := by decide +kernel
theorem dX7_addPlace_37 : decode cX7_addPlace 37 = .ok (.iload_n 3, 1) := by decide +kernel
theorem dX7_addPlace_38 : decode cX7_addPlace 38 = .ok (.ifCond .le 49, 3) := by decide +kernel
theorem dX7_addPlace_41 : decode cX7_addPlace 41 = .ok (.aload_n 0, 1) := by decide +kernel
theorem dX7_addPlace_42 : decode cX7_addPlace 42 = .ok (.getfield 9, 3) := by decide +kernel
theorem dX7_addPlace_45 : decode cX7_addPlace 45 = .ok (.iload_n 3, 1) := by decide +kernel
theorem dX7_addPlace_46 : decode cX7_addPlace 46 = .ok (.iconst 1, 1) := by decide +kernel
theorem dX7_addPlace_47 : decode cX7_addPlace 47 = .ok (.isub, 1) := by decide +kernel
theorem dX7_addPlace_48 : decode cX7_addPlace 48 = .ok (.iaload, 1) := by decide +kernel
theorem dX7_addPlace_49 : decode cX7_addPlace 49 = .ok (.iload_n 1, 1) := by decide +kernel
theorem dX7_addPlace_50 : decode cX7_addPlace 50 = .ok (.if_icmp .le 37, 3) := by decide +kernel
theorem dX7_addPlace_87 : decode cX7_addPlace 87 = .ok (.aload_n 0, 1) := by decide +kernel
theorem dX7_addPlace_88 : decode cX7_addPlace 88 = .ok (.getfield 9, 3) := by decide +kernel
theorem dX7_addPlace_91 : decode cX7_addPlace 91 = .ok (.iload_n 3, 1) := by decide +kernel
theorem dX7_addPlace_92 : decode cX7_addPlace 92 = .ok (.iload_n 1, 1) := by decide +kernel
theorem dX7_addPlace_93 : decode cX7_addPlace 93 = .ok (.iastore, 1) := by decide +kernel
theorem dX7_addPlace_94 : decode cX7_addPlace 94 = .ok (.aload_n 0, 1) := by decide +kernel
theorem dX7_addPlace_95 : decode cX7_addPlace 95 = .ok (.getfield 15, 3) := by decide +kernel
theorem dX7_addPlace_98 : decode cX7_addPlace 98 = .ok (.iload_n 3, 1) := by decide +kernel
theorem dX7_addPlace_99 : decode cX7_addPlace 99 = .ok (.iload_n 2, 1) := by decide +kernel
theorem dX7_addPlace_100 : decode cX7_addPlace 100 = .ok (.iastore, 1) := by decide +kernel
theorem dX7_addPlace_101 : decode cX7_addPlace 101 = .ok (.aload_n 0, 1) := by decide +kernel
theorem dX7_addPlace_102 : decode cX7_addPlace 102 = .ok (.dup, 1) := by decide +kernel
theorem dX7_addPlace_103 : decode cX7_addPlace 103 = .ok (.getfield 18, 3) := by decide +kernel
theorem dX7_addPlace_106 : decode cX7_addPlace 106 = .ok (.iconst 1, 1) := by decide +kernel
theorem dX7_addPlace_107 : decode cX7_addPlace 107 = .ok (.iadd, 1) := by decide +kernel
theorem dX7_addPlace_108 : decode cX7_addPlace 108 = .ok (.putfield 18, 3) := by decide +kernel
theorem dX7_addPlace_111 : decode cX7_addPlace 111 = .ok (.return_, 1) := by decide +kernel
theorem dX7_copyFrom_0 : decode cX7_copyFrom 0 = .ok (.aload_n 1, 1) := by decide +kernel
theorem dX7_copyFrom_1 : decode cX7_copyFrom 1 = .ok (.getfield 9, 3) := by decide +kernel
theorem dX7_copyFrom_4 : decode cX7_copyFrom 4 = .ok (.aload_n 0, 1) := by decide +kernel
theorem dX7_copyFrom_5 : decode cX7_copyFrom 5 = .ok (.getfield 9, 3) := by decide +kernel
theorem dX7_copyFrom_8 : decode cX7_copyFrom 8 = .ok (.invokestatic 25, 3) := by decide +kernel
theorem dX7_copyFrom_11 : decode cX7_copyFrom 11 = .ok (.aload_n 1, 1) := by decide +kernel
theorem dX7_copyFrom_12 : decode cX7_copyFrom 12 = .ok (.getfield 15, 3) := by decide +kernel
theorem dX7_copyFrom_15 : decode cX7_copyFrom 15 = .ok (.aload_n 0, 1) := by decide +kernel
theorem dX7_copyFrom_16 : decode cX7_copyFrom 16 = .ok (.getfield 15, 3) := by decide +kernel
theorem dX7_copyFrom_19 : decode cX7_copyFrom 19 = .ok (.invokestatic 25, 3) := by decide +kernel
theorem dX7_copyFrom_22 : decode cX7_copyFrom 22 = .ok (.aload_n 0, 1) := by decide +kernel
theorem dX7_copyFrom_23 : decode cX7_copyFrom 23 = .ok (.aload_n 1, 1) := by decide +kernel
theorem dX7_copyFrom_24 : decode cX7_copyFrom 24 = .ok (.getfield 18, 3) := by decide +kernel
theorem dX7_copyFrom_27 : decode cX7_copyFrom 27 = .ok (.putfield 18, 3) := by decide +kernel
theorem dX7_copyFrom_30 : decode cX7_copyFrom 30 = .ok (.aload_n 0, 1) := by decide +kernel
theorem dX7_copyFrom_31 : decode cX7_copyFrom 31 = .ok (.aload_n 1, 1) := by decide +kernel
theorem dX7_copyFrom_32 : decode cX7_copyFrom 32 = .ok (.getfield 22, 3) := by decide +kernel
theorem dX7_copyFrom_35 : decode cX7_copyFrom 35 = .ok (.putfield 22, 3) := by decide +kernel
theorem dX7_copyFrom_38 : decode cX7_copyFrom 38 = .ok (.return_, 1) := by decide +kernel
theorem dX7_init_0 : decode cX7_init 0 = .ok (.aload_n 0, 1) := by decide +kernel
theorem dX7_init_1 : decode cX7_init 1 = .ok (.invokespecial 3, 3) := by decide +kernel
theorem dX7_init_4 : decode cX7_init 4 = .ok (.aload_n 0, 1) := by decide +kernel
theorem dX7_init_5 : decode cX7_init 5 = .ok (.bipush 10, 2) := by decide +kernel
theorem dX7_init_7 : decode cX7_init 7 = .ok (.newarray .int, 2) := by decide +kernel
theorem dX7_init_9 : decode cX7_init 9 = .ok (.putfield 9, 3) := by decide +kernel
theorem dX7_init_12 : decode cX7_init 12 = .ok (.aload_n 0, 1) := by decide +kernel
theorem dX7_init_13 : decode cX7_init 13 = .ok (.bipush 10, 2) := by decide +kernel
theorem dX7_init_15 : decode cX7_init 15 = .ok (.newarray .int, 2) := by decide +kernel
theorem dX7_init_17 : decode cX7_init 17 = .ok (.putfield 15, 3) := by decide +kernel
theorem dX7_init_20 : decode cX7_init 20 = .ok (.return_, 1) := by decide +kernel
theorem dX7_lastTickBy_0 : decode cX7_lastTickBy 0 = .ok (.iconst 0, 1) := by decide +kernel
theorem dX7_lastTickBy_1 : decode cX7_lastTickBy 1 = .ok (.istore_n 2, 1) := by decide +kernel
theorem dX7_lastTickBy_2 : decode cX7_lastTickBy 2 = .ok (.iconst 0, 1) := by decide +kernel
theorem dX7_lastTickBy_3 : decode cX7_lastTickBy 3 = .ok (.istore_n 3, 1) := by decide +kernel
theorem dX7_lastTickBy_4 : decode cX7_lastTickBy 4 = .ok (.iconst 0, 1) := by decide +kernel
theorem dX7_lastTickBy_5 : decode cX7_lastTickBy 5 = .ok (.istore 4, 2) := by decide +kernel
theorem dX7_lastTickBy_7 : decode cX7_lastTickBy 7 = .ok (.iload 4, 2) := by decide +kernel
theorem dX7_lastTickBy_9 : decode cX7_lastTickBy 9 = .ok (.aload_n 0, 1) := by decide +kernel
theorem dX7_lastTickBy_10 : decode cX7_lastTickBy 10 = .ok (.getfield 18, 3) := by decide +kernel
theorem dX7_lastTickBy_13 : decode cX7_lastTickBy 13 = .ok (.if_icmp .ge 88, 3) := by decide +kernel
theorem dX7_lastTickBy_16 : decode cX7_lastTickBy 16 = .ok (.iload_n 3, 1) := by decide +kernel
theorem dX7_lastTickBy_17 : decode cX7_lastTickBy 17 = .ok (.iload_n 1, 1) := by decide +kernel
theorem dX7_lastTickBy_18 : decode cX7_lastTickBy 18 = .ok (.if_icmp .gt 83, 3) := by decide +kernel
theorem dX7_lastTickBy_21 : decode cX7_lastTickBy 21 = .ok (.aload_n 0, 1) := by decide +kernel
theorem dX7_lastTickBy_22 : decode cX7_lastTickBy 22 = .ok (.iload 4, 2) := by decide +kernel
theorem dX7_lastTickBy_24 : decode cX7_lastTickBy 24 = .ok (.invokevirtual 29, 3) := by decide +kernel
theorem dX7_lastTickBy_27 : decode cX7_lastTickBy 27 = .ok (.istore 5, 2) := by decide +kernel
theorem dX7_lastTickBy_29 : decode cX7_lastTickBy 29 = .ok (.iload 4, 2) := by decide +kernel
theorem dX7_lastTickBy_31 : decode cX7_lastTickBy 31 = .ok (.iconst 1, 1) := by decide +kernel
theorem dX7_lastTickBy_32 : decode cX7_lastTickBy 32 = .ok (.iadd, 1) := by decide +kernel
theorem dX7_lastTickBy_33 : decode cX7_lastTickBy 33 = .ok (.aload_n 0, 1) := by decide +kernel
theorem dX7_lastTickBy_34 : decode cX7_lastTickBy 34 = .ok (.getfield 18, 3) := by decide +kernel
theorem dX7_lastTickBy_37 : decode cX7_lastTickBy 37 = .ok (.if_icmp .ge 14, 3) := by decide +kernel
theorem dX7_lastTickBy_51 : decode cX7_lastTickBy 51 = .ok (.sipush 30000, 3) := by decide +kernel
theorem dX7_lastTickBy_54 : decode cX7_lastTickBy 54 = .ok (.istore 6, 2) := by decide +kernel
theorem dX7_lastTickBy_56 : decode cX7_lastTickBy 56 = .ok (.aload_n 0, 1) := by decide +kernel
theorem dX7_lastTickBy_57 : decode cX7_lastTickBy 57 = .ok (.iload 4, 2) := by decide +kernel
theorem dX7_lastTickBy_59 : decode cX7_lastTickBy 59 = .ok (.invokevirtual 37, 3) := by decide +kernel
theorem dX7_lastTickBy_62 : decode cX7_lastTickBy 62 = .ok (.istore 7, 2) := by decide +kernel
theorem dX7_lastTickBy_64 : decode cX7_lastTickBy 64 = .ok (.iload 7, 2) := by decide +kernel
theorem dX7_lastTickBy_66 : decode cX7_lastTickBy 66 = .ok (.ifCond .le 18, 3) := by decide +kernel
theorem dX7_lastTickBy_69 : decode cX7_lastTickBy 69 = .ok (.iload 6, 2) := by decide +kernel
theorem dX7_lastTickBy_71 : decode cX7_lastTickBy 71 = .ok (.iload 5, 2) := by decide +kernel
theorem dX7_lastTickBy_73 : decode cX7_lastTickBy 73 = .ok (.iload_n 1, 1) := by decide +kernel
theorem dX7_lastTickBy_74 : decode cX7_lastTickBy 74 = .ok (.iload_n 3, 1) := by decide +kernel
theorem dX7_lastTickBy_75 : decode cX7_lastTickBy 75 = .ok (.isub, 1) := by decide +kernel
theorem dX7_lastTickBy_76 : decode cX7_lastTickBy 76 = .ok (.iload 7, 2) := by decide +kernel
theorem dX7_lastTickBy_78 : decode cX7_lastTickBy 78 = .ok (.idiv, 1) := by decide +kernel
theorem dX7_lastTickBy_79 : decode cX7_lastTickBy 79 = .ok (.iadd, 1) := by decide +kernel
theorem dX7_lastTickBy_80 : decode cX7_lastTickBy 80 = .ok (.invokestatic 46, 3) := by decide +kernel
theorem dX7_lastTickBy_83 : decode cX7_lastTickBy 83 = .ok (.istore_n 2, 1) := by decide +kernel
theorem dX7_lastTickBy_84 : decode cX7_lastTickBy 84 = .ok (.iload_n 3, 1) := by decide +kernel
theorem dX7_lastTickBy_85 : decode cX7_lastTickBy 85 = .ok (.iload 6, 2) := by decide +kernel
theorem dX7_lastTickBy_87 : decode cX7_lastTickBy 87 = .ok (.iload 5, 2) := by decide +kernel
theorem dX7_lastTickBy_89 : decode cX7_lastTickBy 89 = .ok (.isub, 1) := by decide +kernel
theorem dX7_lastTickBy_90 : decode cX7_lastTickBy 90 = .ok (.iload 7, 2) := by decide +kernel
theorem dX7_lastTickBy_92 : decode cX7_lastTickBy 92 = .ok (.imul, 1) := by decide +kernel
theorem dX7_lastTickBy_93 : decode cX7_lastTickBy 93 = .ok (.iadd, 1) := by decide +kernel
theorem dX7_lastTickBy_94 : decode cX7_lastTickBy 94 = .ok (.istore_n 3, 1) := by decide +kernel
theorem dX7_lastTickBy_95 : decode cX7_lastTickBy 95 = .ok (.iinc 4 1, 3) := by decide +kernel
theorem dX7_lastTickBy_98 : decode cX7_lastTickBy 98 = .ok (.goto (-91), 3) := by decide +kernel
theorem dX7_lastTickBy_101 : decode cX7_lastTickBy 101 = .ok (.iload_n 2, 1) := by decide +kernel
theorem dX7_lastTickBy_102 : decode cX7_lastTickBy 102 = .ok (.ireturn, 1) := by decide +kernel
theorem dX7_paceAt_0 : decode cX7_paceAt 0 = .ok (.aload_n 0, 1) := by decide +kernel
theorem dX7_paceAt_1 : decode cX7_paceAt 1 = .ok (.iconst 0, 1) := by decide +kernel
theorem dX7_paceAt_2 : decode cX7_paceAt 2 = .ok (.invokevirtual 37, 3) := by decide +kernel
theorem dX7_paceAt_5 : decode cX7_paceAt 5 = .ok (.istore_n 2, 1) := by decide +kernel
theorem dX7_paceAt_6 : decode cX7_paceAt 6 = .ok (.iconst 1, 1) := by decide +kernel
theorem dX7_paceAt_7 : decode cX7_paceAt 7 = .ok (.istore_n 3, 1) := by decide +kernel
theorem dX7_paceAt_8 : decode cX7_paceAt 8 = .ok (.iload_n 3, 1) := by decide +kernel
theorem dX7_paceAt_9 : decode cX7_paceAt 9 = .ok (.aload_n 0, 1) := by decide +kernel
theorem dX7_paceAt_10 : decode cX7_paceAt 10 = .ok (.getfield 18, 3) := by decide +kernel
theorem dX7_paceAt_13 : decode cX7_paceAt 13 = .ok (.if_icmp .ge 24, 3) := by decide +kernel
theorem dX7_paceAt_37 : decode cX7_paceAt 37 = .ok (.iload_n 2, 1) := by decide +kernel
theorem dX7_paceAt_38 : decode cX7_paceAt 38 = .ok (.ireturn, 1) := by decide +kernel
theorem dX7_placeAt_0 : decode cX7_placeAt 0 = .ok (.iconst 0, 1) := by decide +kernel
theorem dX7_placeAt_1 : decode cX7_placeAt 1 = .ok (.istore_n 2, 1) := by decide +kernel
theorem dX7_placeAt_2 : decode cX7_placeAt 2 = .ok (.iload_n 2, 1) := by decide +kernel
theorem dX7_placeAt_3 : decode cX7_placeAt 3 = .ok (.aload_n 0, 1) := by decide +kernel
theorem dX7_placeAt_4 : decode cX7_placeAt 4 = .ok (.getfield 18, 3) := by decide +kernel
theorem dX7_placeAt_7 : decode cX7_placeAt 7 = .ok (.if_icmp .ge 20, 3) := by decide +kernel
theorem dX7_placeAt_10 : decode cX7_placeAt 10 = .ok (.aload_n 0, 1) := by decide +kernel
theorem dX7_placeAt_11 : decode cX7_placeAt 11 = .ok (.iload_n 2, 1) := by decide +kernel
theorem dX7_placeAt_12 : decode cX7_placeAt 12 = .ok (.invokevirtual 29, 3) := by decide +kernel
theorem dX7_placeAt_15 : decode cX7_placeAt 15 = .ok (.iload_n 1, 1) := by decide +kernel
theorem dX7_placeAt_16 : decode cX7_placeAt 16 = .ok (.if_icmp .ne 5, 3) := by decide +kernel
theorem dX7_placeAt_19 : decode cX7_placeAt 19 = .ok (.iload_n 2, 1) := by decide +kernel
theorem dX7_placeAt_20 : decode cX7_placeAt 20 = .ok (.ireturn, 1) := by decide +kernel
theorem dX7_placeAt_21 : decode cX7_placeAt 21 = .ok (.iinc 2 1, 3) := by decide +kernel
theorem dX7_placeAt_24 : decode cX7_placeAt 24 = .ok (.goto (-22), 3) := by decide +kernel
theorem dX7_placeAt_27 : decode cX7_placeAt 27 = .ok (.iconst (-1), 1) := by decide +kernel
theorem dX7_placeAt_28 : decode cX7_placeAt 28 = .ok (.ireturn, 1) := by decide +kernel
theorem dX7_placeCount_0 : decode cX7_placeCount 0 = .ok (.aload_n 0, 1) := by decide +kernel
theorem dX7_placeCount_1 : decode cX7_placeCount 1 = .ok (.getfield 18, 3) := by decide +kernel
theorem dX7_placeCount_4 : decode cX7_placeCount 4 = .ok (.ireturn, 1) := by decide +kernel
theorem dX7_placePace_0 : decode cX7_placePace 0 = .ok (.iload_n 1, 1) := by decide +kernel
theorem dX7_placePace_1 : decode cX7_placePace 1 = .ok (.ifCond .lt 21, 3) := by decide +kernel
theorem dX7_placePace_4 : decode cX7_placePace 4 = .ok (.iload_n 1, 1) := by decide +kernel
theorem dX7_placePace_5 : decode cX7_placePace 5 = .ok (.aload_n 0, 1) := by decide +kernel
theorem dX7_placePace_6 : decode cX7_placePace 6 = .ok (.getfield 15, 3) := by decide +kernel
theorem dX7_placePace_9 : decode cX7_placePace 9 = .ok (.arraylength, 1) := by decide +kernel
theorem dX7_placePace_10 : decode cX7_placePace 10 = .ok (.if_icmp .ge 12, 3) := by decide +kernel
theorem dX7_placePace_13 : decode cX7_placePace 13 = .ok (.aload_n 0, 1) := by decide +kernel
theorem dX7_placePace_14 : decode cX7_placePace 14 = .ok (.getfield 15, 3) := by decide +kernel
theorem dX7_placePace_17 : decode cX7_placePace 17 = .ok (.iload_n 1, 1) := by decide +kernel
theorem dX7_placePace_18 : decode cX7_placePace 18 = .ok (.iaload, 1) := by decide +kernel
theorem dX7_placePace_19 : decode cX7_placePace 19 = .ok (.goto 4, 3) := by decide +kernel
theorem dX7_placePace_23 : decode cX7_placePace 23 = .ok (.ireturn, 1) := by decide +kernel
theorem dX7_placeTick_0 : decode cX7_placeTick 0 = .ok (.iload_n 1, 1) := by decide +kernel
theorem dX7_placeTick_1 : decode cX7_placeTick 1 = .ok (.ifCond .lt 21, 3) := by decide +kernel
theorem dX7_placeTick_4 : decode cX7_placeTick 4 = .ok (.iload_n 1, 1) := by decide +kernel
theorem dX7_placeTick_5 : decode cX7_placeTick 5 = .ok (.aload_n 0, 1) := by decide +kernel
theorem dX7_placeTick_6 : decode cX7_placeTick 6 = .ok (.getfield 9, 3) := by decide +kernel
theorem dX7_placeTick_9 : decode cX7_placeTick 9 = .ok (.arraylength, 1) := by decide +kernel
theorem dX7_placeTick_10 : decode cX7_placeTick 10 = .ok (.if_icmp .ge 12, 3) := by decide +kernel
theorem dX7_placeTick_13 : decode cX7_placeTick 13 = .ok (.aload_n 0, 1) := by decide +kernel
theorem dX7_placeTick_14 : decode cX7_placeTick 14 = .ok (.getfield 9, 3) := by decide +kernel
theorem dX7_placeTick_17 : decode cX7_placeTick 17 = .ok (.iload_n 1, 1) := by decide +kernel
theorem dX7_placeTick_18 : decode cX7_placeTick 18 = .ok (.iaload, 1) := by decide +kernel
theorem dX7_placeTick_19 : decode cX7_placeTick 19 = .ok (.goto 4, 3) := by decide +kernel
theorem dX7_placeTick_23 : decode cX7_placeTick 23 = .ok (.ireturn, 1) := by decide +kernel
theorem dX7_plainTime_0 : decode cX7_plainTime 0 = .ok (.iconst 0, 1) := by decide +kernel
theorem dX7_plainTime_1 : decode cX7_plainTime 1 = .ok (.istore_n 2, 1) := by decide +kernel
theorem dX7_plainTime_2 : decode cX7_plainTime 2 = .ok (.iload_n 1, 1) := by decide +kernel
theorem dX7_plainTime_3 : decode cX7_plainTime 3 = .ok (.istore_n 3, 1) := by decide +kernel
theorem dX7_plainTime_4 : decode cX7_plainTime 4 = .ok (.aload_n 0, 1) := by decide +kernel
theorem dX7_plainTime_5 : decode cX7_plainTime 5 = .ok (.getfield 18, 3) := by decide +kernel
theorem dX7_plainTime_8 : decode cX7_plainTime 8 = .ok (.iconst 1, 1) := by decide +kernel
theorem dX7_plainTime_9 : decode cX7_plainTime 9 = .ok (.isub, 1) := by decide +kernel
theorem dX7_plainTime_10 : decode cX7_plainTime 10 = .ok (.istore 4, 2) := by decide +kernel
theorem dX7_plainTime_12 : decode cX7_plainTime 12 = .ok (.iload 4, 2) := by decide +kernel
theorem dX7_plainTime_14 : decode cX7_plainTime 14 = .ok (.ifCond .lt 40, 3) := by decide +kernel
theorem dX7_plainTime_17 : decode cX7_plainTime 17 = .ok (.aload_n 0, 1) := by decide +kernel
theorem dX7_plainTime_18 : decode cX7_plainTime 18 = .ok (.iload 4, 2) := by decide +kernel
theorem dX7_plainTime_20 : decode cX7_plainTime 20 = .ok (.invokevirtual 29, 3) := by decide +kernel
theorem dX7_plainTime_23 : decode cX7_plainTime 23 = .ok (.istore 5, 2) := by decide +kernel
theorem dX7_plainTime_25 : decode cX7_plainTime 25 = .ok (.iload 5, 2) := by decide +kernel
theorem dX7_plainTime_27 : decode cX7_plainTime 27 = .ok (.iload_n 3, 1) := by decide +kernel
theorem dX7_plainTime_28 : decode cX7_plainTime 28 = .ok (.if_icmp .ge 20, 3) := by decide +kernel
theorem dX7_plainTime_31 : decode cX7_plainTime 31 = .ok (.iload_n 2, 1) := by decide +kernel
theorem dX7_plainTime_32 : decode cX7_plainTime 32 = .ok (.iload_n 3, 1) := by decide +kernel
theorem dX7_plainTime_33 : decode cX7_plainTime 33 = .ok (.iload 5, 2) := by decide +kernel
theorem dX7_plainTime_35 : decode cX7_plainTime 35 = .ok (.isub, 1) := by decide +kernel
theorem dX7_plainTime_36 : decode cX7_plainTime 36 = .ok (.aload_n 0, 1) := by decide +kernel
theorem dX7_plainTime_37 : decode cX7_plainTime 37 = .ok (.iload 4, 2) := by decide +kernel
theorem dX7_plainTime_39 : decode cX7_plainTime 39 = .ok (.invokevirtual 37, 3) := by decide +kernel
theorem dX7_plainTime_42 : decode cX7_plainTime 42 = .ok (.imul, 1) := by decide +kernel
theorem dX7_plainTime_43 : decode cX7_plainTime 43 = .ok (.iadd, 1) := by decide +kernel
theorem dX7_plainTime_44 : decode cX7_plainTime 44 = .ok (.istore_n 2, 1) := by decide +kernel
theorem dX7_plainTime_45 : decode cX7_plainTime 45 = .ok (.iload 5, 2) := by decide +kernel
theorem dX7_plainTime_47 : decode cX7_plainTime 47 = .ok (.istore_n 3, 1) := by decide +kernel
theorem dX7_plainTime_48 : decode cX7_plainTime 48 = .ok (.iinc 4 (-1), 3) := by decide +kernel
theorem dX7_plainTime_51 : decode cX7_plainTime 51 = .ok (.goto (-39), 3) := by decide +kernel
theorem dX7_plainTime_54 : decode cX7_plainTime 54 = .ok (.iload_n 2, 1) := by decide +kernel
theorem dX7_plainTime_55 : decode cX7_plainTime 55 = .ok (.ireturn, 1) := by decide +kernel
theorem dX7_putPace_0 : decode cX7_putPace 0 = .ok (.iload_n 1, 1) := by decide +kernel
theorem dX7_putPace_1 : decode cX7_putPace 1 = .ok (.ifCond .lt 19, 3) := by decide +kernel
theorem dX7_putPace_4 : decode cX7_putPace 4 = .ok (.iload_n 1, 1) := by decide +kernel
theorem dX7_putPace_5 : decode cX7_putPace 5 = .ok (.aload_n 0, 1) := by decide +kernel
theorem dX7_putPace_6 : decode cX7_putPace 6 = .ok (.getfield 15, 3) := by decide +kernel
theorem dX7_putPace_9 : decode cX7_putPace 9 = .ok (.arraylength, 1) := by decide +kernel
theorem dX7_putPace_10 : decode cX7_putPace 10 = .ok (.if_icmp .ge 10, 3) := by decide +kernel
theorem dX7_putPace_13 : decode cX7_putPace 13 = .ok (.aload_n 0, 1) := by decide +kernel
theorem dX7_putPace_14 : decode cX7_putPace 14 = .ok (.getfield 15, 3) := by decide +kernel
theorem dX7_putPace_17 : decode cX7_putPace 17 = .ok (.iload_n 1, 1) := by decide +kernel
theorem dX7_putPace_18 : decode cX7_putPace 18 = .ok (.iload_n 2, 1) := by decide +kernel
theorem dX7_putPace_19 : decode cX7_putPace 19 = .ok (.iastore, 1) := by decide +kernel
theorem dX7_putPace_20 : decode cX7_putPace 20 = .ok (.return_, 1) := by decide +kernel
theorem dX7_reset_0 : decode cX7_reset 0 = .ok (.aload_n 0, 1) := by decide +kernel
theorem dX7_reset_1 : decode cX7_reset 1 = .ok (.iconst 1, 1) := by decide +kernel
theorem dX7_reset_2 : decode cX7_reset 2 = .ok (.putfield 18, 3) := by decide +kernel
theorem dX7_reset_5 : decode cX7_reset 5 = .ok (.aload_n 0, 1) := by decide +kernel
theorem dX7_reset_6 : decode cX7_reset 6 = .ok (.iconst 0, 1) := by decide +kernel
theorem dX7_reset_7 : decode cX7_reset 7 = .ok (.putfield 22, 3) := by decide +kernel
theorem dX7_reset_10 : decode cX7_reset 10 = .ok (.aload_n 0, 1) := by decide +kernel
theorem dX7_reset_11 : decode cX7_reset 11 = .ok (.getfield 9, 3) := by decide +kernel
theorem dX7_reset_14 : decode cX7_reset 14 = .ok (.iconst 0, 1) := by decide +kernel
theorem dX7_reset_15 : decode cX7_reset 15 = .ok (.iconst 0, 1) := by decide +kernel
theorem dX7_reset_16 : decode cX7_reset 16 = .ok (.iastore, 1) := by decide +kernel
theorem dX7_reset_17 : decode cX7_reset 17 = .ok (.aload_n 0, 1) := by decide +kernel
theorem dX7_reset_18 : decode cX7_reset 18 = .ok (.getfield 15, 3) := by decide +kernel
theorem dX7_reset_21 : decode cX7_reset 21 = .ok (.iconst 0, 1) := by decide +kernel
theorem dX7_reset_22 : decode cX7_reset 22 = .ok (.bipush 100, 2) := by decide +kernel
theorem dX7_reset_24 : decode cX7_reset 24 = .ok (.iastore, 1) := by decide +kernel
theorem dX7_reset_25 : decode cX7_reset 25 = .ok (.return_, 1) := by decide +kernel
theorem dX7_swungTime_0 : decode cX7_swungTime 0 = .ok (.aload_n 0, 1) := by decide +kernel
theorem dX7_swungTime_1 : decode cX7_swungTime 1 = .ok (.iload_n 1, 1) := by decide +kernel
theorem dX7_swungTime_2 : decode cX7_swungTime 2 = .ok (.invokevirtual 40, 3) := by decide +kernel
theorem dX7_swungTime_5 : decode cX7_swungTime 5 = .ok (.istore_n 2, 1) := by decide +kernel
theorem dX7_swungTime_6 : decode cX7_swungTime 6 = .ok (.iload_n 1, 1) := by decide +kernel
theorem dX7_swungTime_7 : decode cX7_swungTime 7 = .ok (.iconst 1, 1) := by decide +kernel
theorem dX7_swungTime_8 : decode cX7_swungTime 8 = .ok (.iand, 1) := by decide +kernel
theorem dX7_swungTime_9 : decode cX7_swungTime 9 = .ok (.iconst 1, 1) := by decide +kernel
theorem dX7_swungTime_10 : decode cX7_swungTime 10 = .ok (.if_icmp .ne 21, 3) := by decide +kernel
theorem dX7_swungTime_13 : decode cX7_swungTime 13 = .ok (.iload_n 2, 1) := by decide +kernel
theorem dX7_swungTime_14 : decode cX7_swungTime 14 = .ok (.aload_n 0, 1) := by decide +kernel
theorem dX7_swungTime_15 : decode cX7_swungTime 15 = .ok (.getfield 22, 3) := by decide +kernel
theorem dX7_swungTime_18 : decode cX7_swungTime 18 = .ok (.aload_n 0, 1) := by decide +kernel
theorem dX7_swungTime_19 : decode cX7_swungTime 19 = .ok (.iload_n 1, 1) := by decide +kernel
theorem dX7_swungTime_20 : decode cX7_swungTime 20 = .ok (.invokevirtual 43, 3) := by decide +kernel
theorem dX7_swungTime_23 : decode cX7_swungTime 23 = .ok (.imul, 1) := by decide +kernel
theorem dX7_swungTime_24 : decode cX7_swungTime 24 = .ok (.bipush 100, 2) := by decide +kernel
theorem dX7_swungTime_26 : decode cX7_swungTime 26 = .ok (.idiv, 1) := by decide +kernel
theorem dX7_swungTime_27 : decode cX7_swungTime 27 = .ok (.iadd, 1) := by decide +kernel
theorem dX7_swungTime_28 : decode cX7_swungTime 28 = .ok (.goto 4, 3) := by decide +kernel
theorem dX7_swungTime_31 : decode cX7_swungTime 31 = .ok (.iload_n 2, 1) := by decide +kernel
theorem dX7_swungTime_32 : decode cX7_swungTime 32 = .ok (.ireturn, 1) := by decide +kernel
theorem dX8_acceptDraft_0 : decode cX8_acceptDraft 0 = .ok (.aload_n 0, 1) := by decide +kernel
theorem dX8_acceptDraft_1 : decode cX8_acceptDraft 1 = .ok (.aload_n 0, 1) := by decide +kernel
theorem dX8_acceptDraft_2 : decode cX8_acceptDraft 2 = .ok (.getfield 17, 3) := by decide +kernel
theorem dX8_acceptDraft_5 : decode cX8_acceptDraft 5 = .ok (.iconst 1, 1) := by decide +kernel
theorem dX8_acceptDraft_6 : decode cX8_acceptDraft 6 = .ok (.iadd, 1) := by decide +kernel
theorem dX8_acceptDraft_7 : decode cX8_acceptDraft 7 = .ok (.bipush 10, 2) := by decide +kernel
theorem dX8_acceptDraft_9 : decode cX8_acceptDraft 9 = .ok (.invokestatic 25, 3) := by decide +kernel
theorem dX8_acceptDraft_12 : decode cX8_acceptDraft 12 = .ok (.putfield 17, 3) := by decide +kernel
theorem dX8_acceptDraft_15 : decode cX8_acceptDraft 15 = .ok (.aload_n 0, 1) := by decide +kernel
theorem dX8_acceptDraft_16 : decode cX8_acceptDraft 16 = .ok (.aload_n 0, 1) := by decide +kernel
theorem dX8_acceptDraft_17 : decode cX8_acceptDraft 17 = .ok (.getfield 21, 3) := by decide +kernel
theorem dX8_acceptDraft_20 : decode cX8_acceptDraft 20 = .ok (.iconst 1, 1) := by decide +kernel
theorem dX8_acceptDraft_21 : decode cX8_acceptDraft 21 = .ok (.iadd, 1) := by decide +kernel
theorem dX8_acceptDraft_22 : decode cX8_acceptDraft 22 = .ok (.bipush 8, 2) := by decide +kernel
theorem dX8_acceptDraft_24 : decode cX8_acceptDraft 24 = .ok (.invokestatic 39, 3) := by decide +kernel
theorem dX8_acceptDraft_27 : decode cX8_acceptDraft 27 = .ok (.putfield 21, 3) := by decide +kernel
theorem dX8_acceptDraft_30 : decode cX8_acceptDraft 30 = .ok (.return_, 1) := by decide +kernel
theorem dX8_current_0 : decode cX8_current 0 = .ok (.aload_n 0, 1) := by decide +kernel
theorem dX8_current_1 : decode cX8_current 1 = .ok (.getfield 13, 3) := by decide +kernel
theorem dX8_current_4 : decode cX8_current 4 = .ok (.aload_n 0, 1) := by decide +kernel
theorem dX8_current_5 : decode cX8_current 5 = .ok (.getfield 17, 3) := by decide +kernel
theorem dX8_current_8 : decode cX8_current 8 = .ok (.bipush 10, 2) := by decide +kernel
theorem dX8_current_10 : decode cX8_current 10 = .ok (.invokestatic 25, 3) := by decide +kernel
theorem dX8_current_13 : decode cX8_current 13 = .ok (.aaload, 1) := by decide +kernel
theorem dX8_current_14 : decode cX8_current 14 = .ok (.areturn, 1) := by decide +kernel
theorem dX8_draft_0 : decode cX8_draft 0 = .ok (.aload_n 0, 1) := by decide +kernel
theorem dX8_draft_1 : decode cX8_draft 1 = .ok (.getfield 13, 3) := by decide +kernel
theorem dX8_draft_4 : decode cX8_draft 4 = .ok (.aload_n 0, 1) := by decide +kernel
theorem dX8_draft_5 : decode cX8_draft 5 = .ok (.getfield 17, 3) := by decide +kernel
theorem dX8_draft_8 : decode cX8_draft 8 = .ok (.iconst 1, 1) := by decide +kernel
theorem dX8_draft_9 : decode cX8_draft 9 = .ok (.iadd, 1) := by decide +kernel
theorem dX8_draft_10 : decode cX8_draft 10 = .ok (.bipush 10, 2) := by decide +kernel
theorem dX8_draft_12 : decode cX8_draft 12 = .ok (.invokestatic 25, 3) := by decide +kernel
theorem dX8_draft_15 : decode cX8_draft 15 = .ok (.aaload, 1) := by decide +kernel
theorem dX8_draft_16 : decode cX8_draft 16 = .ok (.astore_n 1, 1) := by decide +kernel
theorem dX8_draft_17 : decode cX8_draft 17 = .ok (.aload_n 1, 1) := by decide +kernel
theorem dX8_draft_18 : decode cX8_draft 18 = .ok (.aload_n 0, 1) := by decide +kernel
theorem dX8_draft_19 : decode cX8_draft 19 = .ok (.invokevirtual 31, 3) := by decide +kernel
theorem dX8_draft_22 : decode cX8_draft 22 = .ok (.invokevirtual 35, 3) := by decide +kernel
theorem dX8_draft_25 : decode cX8_draft 25 = .ok (.aload_n 1, 1) := by decide +kernel
theorem dX8_draft_26 : decode cX8_draft 26 = .ok (.areturn, 1) := by decide +kernel
theorem dX8_forget_0 : decode cX8_forget 0 = .ok (.aload_n 0, 1) := by decide +kernel
theorem dX8_forget_1 : decode cX8_forget 1 = .ok (.iconst 0, 1) := by decide +kernel
theorem dX8_forget_2 : decode cX8_forget 2 = .ok (.putfield 21, 3) := by decide +kernel
theorem dX8_forget_5 : decode cX8_forget 5 = .ok (.return_, 1) := by decide +kernel
theorem dX8_init_0 : decode cX8_init 0 = .ok (.aload_n 0, 1) := by decide +kernel
theorem dX8_init_1 : decode cX8_init 1 = .ok (.invokespecial 3, 3) := by decide +kernel
theorem dX8_init_4 : decode cX8_init 4 = .ok (.aload_n 0, 1) := by decide +kernel
theorem dX8_init_5 : decode cX8_init 5 = .ok (.bipush 10, 2) := by decide +kernel
theorem dX8_init_7 : decode cX8_init 7 = .ok (.anewarray 11, 3) := by decide +kernel
theorem dX8_init_10 : decode cX8_init 10 = .ok (.putfield 13, 3) := by decide +kernel
theorem dX8_init_13 : decode cX8_init 13 = .ok (.aload_n 0, 1) := by decide +kernel
theorem dX8_init_14 : decode cX8_init 14 = .ok (.iconst 0, 1) := by decide +kernel
theorem dX8_init_15 : decode cX8_init 15 = .ok (.putfield 17, 3) := by decide +kernel
theorem dX8_init_18 : decode cX8_init 18 = .ok (.aload_n 0, 1) := by decide +kernel
theorem dX8_init_19 : decode cX8_init 19 = .ok (.iconst 0, 1) := by decide +kernel
theorem dX8_init_20 : decode cX8_init 20 = .ok (.putfield 21, 3) := by decide +kernel
theorem dX8_init_23 : decode cX8_init 23 = .ok (.iconst 0, 1) := by decide +kernel
theorem dX8_init_24 : decode cX8_init 24 = .ok (.istore_n 1, 1) := by decide +kernel
theorem dX8_init_25 : decode cX8_init 25 = .ok (.iload_n 1, 1) := by decide +kernel
theorem dX8_init_26 : decode cX8_init 26 = .ok (.bipush 10, 2) := by decide +kernel
theorem dX8_init_28 : decode cX8_init 28 = .ok (.if_icmp .ge 22, 3) := by decide +kernel
theorem dX8_init_31 : decode cX8_init 31 = .ok (.aload_n 0, 1) := by decide +kernel
theorem dX8_init_32 : decode cX8_init 32 = .ok (.getfield 13, 3) := by decide +kernel
theorem dX8_init_35 : decode cX8_init 35 = .ok (.iload_n 1, 1) := by decide +kernel
theorem dX8_init_36 : decode cX8_init 36 = .ok (.new 11, 3) := by decide +kernel
theorem dX8_init_39 : decode cX8_init 39 = .ok (.dup, 1) := by decide +kernel
theorem dX8_init_40 : decode cX8_init 40 = .ok (.invokespecial 24, 3) := by decide +kernel
theorem dX8_init_43 : decode cX8_init 43 = .ok (.aastore, 1) := by decide +kernel
theorem dX8_init_44 : decode cX8_init 44 = .ok (.iinc 1 1, 3) := by decide +kernel
theorem dX8_init_47 : decode cX8_init 47 = .ok (.goto (-22), 3) := by decide +kernel
theorem dX8_init_50 : decode cX8_init 50 = .ok (.return_, 1) := by decide +kernel
theorem dX8_rememberedCount_0 : decode cX8_rememberedCount 0 = .ok (.aload_n 0, 1) := by decide +kernel
theorem dX8_rememberedCount_1 : decode cX8_rememberedCount 1 = .ok (.getfield 21, 3) := by decide +kernel
theorem dX8_rememberedCount_4 : decode cX8_rememberedCount 4 = .ok (.ireturn, 1) := by decide +kernel
theorem dX9_accept_0 : decode cX9_accept 0 = .ok (.aload_n 0, 1) := by decide +kernel
theorem dX9_accept_1 : decode cX9_accept 1 = .ok (.getfield 12, 3) := by decide +kernel
theorem dX9_accept_4 : decode cX9_accept 4 = .ok (.invokevirtual 406, 3) := by decide +kernel
theorem dX9_accept_7 : decode cX9_accept 7 = .ok (.aload_n 0, 1) := by decide +kernel
theorem dX9_accept_8 : decode cX9_accept 8 = .ok (.invokevirtual 84, 3) := by decide +kernel
theorem dX9_accept_11 : decode cX9_accept 11 = .ok (.return_, 1) := by decide +kernel
theorem dX9_acceptIfFitting_0 : decode cX9_acceptIfFitting 0 = .ok (.aload_n 1, 1) := by decide +kernel
theorem dX9_acceptIfFitting_1 : decode cX9_acceptIfFitting 1 = .ok (.getfield 108, 3) := by decide +kernel
theorem dX9_acceptIfFitting_4 : decode cX9_acceptIfFitting 4 = .ok (.invokevirtual 117, 3) := by decide +kernel
theorem dX9_acceptIfFitting_7 : decode cX9_acceptIfFitting 7 = .ok (.ifCond .eq 10, 3) := by decide +kernel
theorem dX9_acceptIfFitting_10 : decode cX9_acceptIfFitting 10 = .ok (.aload_n 1, 1) := by decide +kernel
theorem dX9_acceptIfFitting_11 : decode cX9_acceptIfFitting 11 = .ok (.invokevirtual 401, 3) := by decide +kernel
theorem dX9_acceptIfFitting_14 : decode cX9_acceptIfFitting 14 = .ok (.ifCond .ne 14, 3) := by decide +kernel
theorem dX9_acceptIfFitting_28 : decode cX9_acceptIfFitting 28 = .ok (.aload_n 0, 1) := by decide +kernel
theorem dX9_acceptIfFitting_29 : decode cX9_acceptIfFitting 29 = .ok (.invokevirtual 121, 3) := by decide +kernel
theorem dX9_acceptIfFitting_32 : decode cX9_acceptIfFitting 32 = .ok (.return_, 1) := by decide +kernel
theorem dX9_addCall_0 : decode cX9_addCall 0 = .ok (.iload_n 1, 1) := by decide +kernel
theorem dX9_addCall_1 : decode cX9_addCall 1 = .ok (.invokestatic 90, 3) := by decide +kernel
theorem dX9_addCall_4 : decode cX9_addCall 4 = .ok (.iload_n 2, 1) := by decide +kernel
theorem dX9_addCall_5 : decode cX9_addCall 5 = .ok (.iconst 0, 1) := by decide +kernel
theorem dX9_addCall_6 : decode cX9_addCall 6 = .ok (.iload_n 1, 1) := by decide +kernel
theorem dX9_addCall_7 : decode cX9_addCall 7 = .ok (.iconst 1, 1) := by decide +kernel
theorem dX9_addCall_8 : decode cX9_addCall 8 = .ok (.isub, 1) := by decide +kernel
theorem dX9_addCall_9 : decode cX9_addCall 9 = .ok (.invokestatic 93, 3) := by decide +kernel
theorem dX9_addCall_12 : decode cX9_addCall 12 = .ok (.iload_n 3, 1) := by decide +kernel
theorem dX9_addCall_13 : decode cX9_addCall 13 = .ok (.iconst 1, 1) := by decide +kernel
theorem dX9_addCall_14 : decode cX9_addCall 14 = .ok (.bipush 9, 2) := by decide +kernel
theorem dX9_addCall_16 : decode cX9_addCall 16 = .ok (.invokestatic 93, 3) := by decide +kernel
theorem dX9_addCall_19 : decode cX9_addCall 19 = .ok (.aload_n 0, 1) := by decide +kernel
theorem dX9_addCall_20 : decode cX9_addCall 20 = .ok (.iload_n 1, 1) := by decide +kernel
theorem dX9_addCall_21 : decode cX9_addCall 21 = .ok (.iconst 2, 1) := by decide +kernel
theorem dX9_addCall_22 : decode cX9_addCall 22 = .ok (.iload_n 2, 1) := by decide +kernel
theorem dX9_addCall_23 : decode cX9_addCall 23 = .ok (.iload_n 3, 1) := by decide +kernel
theorem dX9_addCall_24 : decode cX9_addCall 24 = .ok (.iconst (-1), 1) := by decide +kernel
theorem dX9_addCall_25 : decode cX9_addCall 25 = .ok (.invokevirtual 97, 3) := by decide +kernel
theorem dX9_addCall_28 : decode cX9_addCall 28 = .ok (.ireturn, 1) := by decide +kernel
theorem dX9_addClip_0 : decode cX9_addClip 0 = .ok (.iload_n 1, 1) := by decide +kernel
theorem dX9_addClip_1 : decode cX9_addClip 1 = .ok (.iconst 0, 1) := by decide +kernel
theorem dX9_addClip_2 : decode cX9_addClip 2 = .ok (.sipush 9999, 3) := by decide +kernel
theorem dX9_addClip_5 : decode cX9_addClip 5 = .ok (.invokestatic 93, 3) := by decide +kernel
theorem dX9_addClip_8 : decode cX9_addClip 8 = .ok (.iload_n 2, 1) := by decide +kernel
theorem dX9_addClip_9 : decode cX9_addClip 9 = .ok (.iconst 0, 1) := by decide +kernel
theorem dX9_addClip_10 : decode cX9_addClip 10 = .ok (.bipush 7, 2) := by decide +kernel
theorem dX9_addClip_12 : decode cX9_addClip 12 = .ok (.invokestatic 93, 3) := by decide +kernel
theorem dX9_addClip_15 : decode cX9_addClip 15 = .ok (.iload_n 3, 1) := by decide +kernel
theorem dX9_addClip_16 : decode cX9_addClip 16 = .ok (.iconst 1, 1) := by decide +kernel
theorem dX9_addClip_17 : decode cX9_addClip 17 = .ok (.bipush 9, 2) := by decide +kernel
theorem dX9_addClip_19 : decode cX9_addClip 19 = .ok (.invokestatic 93, 3) := by decide +kernel
theorem dX9_addClip_22 : decode cX9_addClip 22 = .ok (.iload 4, 2) := by decide +kernel
theorem dX9_addClip_24 : decode cX9_addClip 24 = .ok (.bipush (-50), 2) := by decide +kernel
theorem dX9_addClip_26 : decode cX9_addClip 26 = .ok (.bipush 50, 2) := by decide +kernel
theorem dX9_addClip_28 : decode cX9_addClip 28 = .ok (.invokestatic 93, 3) := by decide +kernel
theorem dX9_addClip_31 : decode cX9_addClip 31 = .ok (.iload 5, 2) := by decide +kernel
theorem dX9_addClip_33 : decode cX9_addClip 33 = .ok (.iconst 0, 1) := by decide +kernel
theorem dX9_addClip_34 : decode cX9_addClip 34 = .ok (.iconst 3, 1) := by decide +kernel
theorem dX9_addClip_35 : decode cX9_addClip 35 = .ok (.invokestatic 93, 3) := by decide +kernel
theorem dX9_addClip_38 : decode cX9_addClip 38 = .ok (.aload_n 0, 1) := by decide +kernel
theorem dX9_addClip_39 : decode cX9_addClip 39 = .ok (.getfield 12, 3) := by decide +kernel
theorem dX9_addClip_42 : decode cX9_addClip 42 = .ok (.invokevirtual 105, 3) := by decide +kernel
theorem dX9_addClip_45 : decode cX9_addClip 45 = .ok (.astore 6, 2) := by decide +kernel
theorem dX9_addClip_47 : decode cX9_addClip 47 = .ok (.aload 6, 2) := by decide +kernel
theorem dX9_addClip_49 : decode cX9_addClip 49 = .ok (.invokevirtual 74, 3) := by decide +kernel
theorem dX9_addClip_52 : decode cX9_addClip 52 = .ok (.bipush 12, 2) := by decide +kernel
theorem dX9_addClip_54 : decode cX9_addClip 54 = .ok (.if_icmp .lt 13, 3) := by decide +kernel
theorem dX9_addClip_67 : decode cX9_addClip 67 = .ok (.aload 6, 2) := by decide +kernel
theorem dX9_addClip_69 : decode cX9_addClip 69 = .ok (.iload_n 1, 1) := by decide +kernel
theorem dX9_addClip_70 : decode cX9_addClip 70 = .ok (.iload_n 2, 1) := by decide +kernel
theorem dX9_addClip_71 : decode cX9_addClip 71 = .ok (.iload_n 3, 1) := by decide +kernel
theorem dX9_addClip_72 : decode cX9_addClip 72 = .ok (.iload 4, 2) := by decide +kernel
theorem dX9_addClip_74 : decode cX9_addClip 74 = .ok (.iload 5, 2) := by decide +kernel
theorem dX9_addClip_76 : decode cX9_addClip 76 = .ok (.invokevirtual 150, 3) := by decide +kernel
theorem dX9_addClip_79 : decode cX9_addClip 79 = .ok (.aload_n 0, 1) := by decide +kernel
theorem dX9_addClip_80 : decode cX9_addClip 80 = .ok (.aload 6, 2) := by decide +kernel
theorem dX9_addClip_82 : decode cX9_addClip 82 = .ok (.invokevirtual 154, 3) := by decide +kernel
theorem dX9_addClip_85 : decode cX9_addClip 85 = .ok (.aload 6, 2) := by decide +kernel
theorem dX9_addClip_87 : decode cX9_addClip 87 = .ok (.invokevirtual 74, 3) := by decide +kernel
theorem dX9_addClip_90 : decode cX9_addClip 90 = .ok (.iconst 1, 1) := by decide +kernel
theorem dX9_addClip_91 : decode cX9_addClip 91 = .ok (.isub, 1) := by decide +kernel
theorem dX9_addClip_92 : decode cX9_addClip 92 = .ok (.ireturn, 1) := by decide +kernel
theorem dX9_addNote_0 : decode cX9_addNote 0 = .ok (.iload_n 1, 1) := by decide +kernel
theorem dX9_addNote_1 : decode cX9_addNote 1 = .ok (.invokestatic 90, 3) := by decide +kernel
theorem dX9_addNote_4 : decode cX9_addNote 4 = .ok (.iload_n 2, 1) := by decide +kernel
theorem dX9_addNote_5 : decode cX9_addNote 5 = .ok (.iconst 0, 1) := by decide +kernel
theorem dX9_addNote_6 : decode cX9_addNote 6 = .ok (.bipush 99, 2) := by decide +kernel
theorem dX9_addNote_8 : decode cX9_addNote 8 = .ok (.invokestatic 93, 3) := by decide +kernel
theorem dX9_addNote_11 : decode cX9_addNote 11 = .ok (.iload_n 3, 1) := by decide +kernel
theorem dX9_addNote_12 : decode cX9_addNote 12 = .ok (.iconst 1, 1) := by decide +kernel
theorem dX9_addNote_13 : decode cX9_addNote 13 = .ok (.bipush 16, 2) := by decide +kernel
theorem dX9_addNote_15 : decode cX9_addNote 15 = .ok (.invokestatic 93, 3) := by decide +kernel
theorem dX9_addNote_18 : decode cX9_addNote 18 = .ok (.iload 4, 2) := by decide +kernel
theorem dX9_addNote_20 : decode cX9_addNote 20 = .ok (.iconst 1, 1) := by decide +kernel
theorem dX9_addNote_21 : decode cX9_addNote 21 = .ok (.bipush 9, 2) := by decide +kernel
theorem dX9_addNote_23 : decode cX9_addNote 23 = .ok (.invokestatic 93, 3) := by decide +kernel
theorem dX9_addNote_26 : decode cX9_addNote 26 = .ok (.aload_n 0, 1) := by decide +kernel
theorem dX9_addNote_27 : decode cX9_addNote 27 = .ok (.iload_n 1, 1) := by decide +kernel
theorem dX9_addNote_28 : decode cX9_addNote 28 = .ok (.iconst 0, 1) := by decide +kernel
theorem dX9_addNote_29 : decode cX9_addNote 29 = .ok (.iload_n 2, 1) := by decide +kernel
theorem dX9_addNote_30 : decode cX9_addNote 30 = .ok (.iload_n 3, 1) := by decide +kernel
theorem dX9_addNote_31 : decode cX9_addNote 31 = .ok (.iload 4, 2) := by decide +kernel
theorem dX9_addNote_33 : decode cX9_addNote 33 = .ok (.invokevirtual 97, 3) := by decide +kernel
theorem dX9_addNote_36 : decode cX9_addNote 36 = .ok (.ireturn, 1) := by decide +kernel
theorem dX9_addOneItem_0 : decode cX9_addOneItem 0 = .ok (.aload_n 0, 1) := by decide +kernel
theorem dX9_addOneItem_1 : decode cX9_addOneItem 1 = .ok (.getfield 12, 3) := by decide +kernel
theorem dX9_addOneItem_4 : decode cX9_addOneItem 4 = .ok (.invokevirtual 105, 3) := by decide +kernel
theorem dX9_addOneItem_7 : decode cX9_addOneItem 7 = .ok (.astore 6, 2) := by decide +kernel
theorem dX9_addOneItem_9 : decode cX9_addOneItem 9 = .ok (.aload 6, 2) := by decide +kernel
theorem dX9_addOneItem_11 : decode cX9_addOneItem 11 = .ok (.iload_n 1, 1) := by decide +kernel
theorem dX9_addOneItem_12 : decode cX9_addOneItem 12 = .ok (.iload_n 2, 1) := by decide +kernel
theorem dX9_addOneItem_13 : decode cX9_addOneItem 13 = .ok (.iload_n 3, 1) := by decide +kernel
theorem dX9_addOneItem_14 : decode cX9_addOneItem 14 = .ok (.iload 4, 2) := by decide +kernel
theorem dX9_addOneItem_16 : decode cX9_addOneItem 16 = .ok (.iload 5, 2) := by decide +kernel
theorem dX9_addOneItem_18 : decode cX9_addOneItem 18 = .ok (.invokestatic 368, 3) := by decide +kernel
theorem dX9_addOneItem_21 : decode cX9_addOneItem 21 = .ok (.aload_n 0, 1) := by decide +kernel
theorem dX9_addOneItem_22 : decode cX9_addOneItem 22 = .ok (.aload 6, 2) := by decide +kernel
theorem dX9_addOneItem_24 : decode cX9_addOneItem 24 = .ok (.invokevirtual 154, 3) := by decide +kernel
theorem dX9_addOneItem_27 : decode cX9_addOneItem 27 = .ok (.aload 6, 2) := by decide +kernel
theorem dX9_addOneItem_29 : decode cX9_addOneItem 29 = .ok (.getfield 108, 3) := by decide +kernel
theorem dX9_addOneItem_32 : decode cX9_addOneItem 32 = .ok (.iload_n 1, 1) := by decide +kernel
theorem dX9_addOneItem_33 : decode cX9_addOneItem 33 = .ok (.iconst 0, 1) := by decide +kernel
theorem dX9_addOneItem_34 : decode cX9_addOneItem 34 = .ok (.invokevirtual 124, 3) := by decide +kernel
theorem dX9_addOneItem_37 : decode cX9_addOneItem 37 = .ok (.ireturn, 1) := by decide +kernel
theorem dX9_addRest_0 : decode cX9_addRest 0 = .ok (.iload_n 1, 1) := by decide +kernel
theorem dX9_addRest_1 : decode cX9_addRest 1 = .ok (.invokestatic 90, 3) := by decide +kernel
theorem dX9_addRest_4 : decode cX9_addRest 4 = .ok (.iload_n 2, 1) := by decide +kernel
theorem dX9_addRest_5 : decode cX9_addRest 5 = .ok (.iconst 1, 1) := by decide +kernel
theorem dX9_addRest_6 : decode cX9_addRest 6 = .ok (.bipush 16, 2) := by decide +kernel
theorem dX9_addRest_8 : decode cX9_addRest 8 = .ok (.invokestatic 93, 3) := by decide +kernel
theorem dX9_addRest_11 : decode cX9_addRest 11 = .ok (.aload_n 0, 1) := by decide +kernel
theorem dX9_addRest_12 : decode cX9_addRest 12 = .ok (.iload_n 1, 1) := by decide +kernel
theorem dX9_addRest_13 : decode cX9_addRest 13 = .ok (.iconst 1, 1) := by decide +kernel
theorem dX9_addRest_14 : decode cX9_addRest 14 = .ok (.iconst (-1), 1) := by decide +kernel
theorem dX9_addRest_15 : decode cX9_addRest 15 = .ok (.iload_n 2, 1) := by decide +kernel
theorem dX9_addRest_16 : decode cX9_addRest 16 = .ok (.iconst (-1), 1) := by decide +kernel
theorem dX9_addRest_17 : decode cX9_addRest 17 = .ok (.invokevirtual 97, 3) := by decide +kernel
theorem dX9_addRest_20 : decode cX9_addRest 20 = .ok (.ireturn, 1) := by decide +kernel
theorem dX9_append_0 : decode cX9_append 0 = .ok (.iload_n 1, 1) := by decide +kernel
theorem dX9_append_1 : decode cX9_append 1 = .ok (.bipush 32, 2) := by decide +kernel
theorem dX9_append_3 : decode cX9_append 3 = .ok (.bipush 126, 2) := by decide +kernel
theorem dX9_append_5 : decode cX9_append 5 = .ok (.invokestatic 93, 3) := by decide +kernel
theorem dX9_append_8 : decode cX9_append 8 = .ok (.aload_n 0, 1) := by decide +kernel
theorem dX9_append_9 : decode cX9_append 9 = .ok (.getfield 42, 3) := by decide +kernel
theorem dX9_append_12 : decode cX9_append 12 = .ok (.invokevirtual 341, 3) := by decide +kernel
theorem dX9_append_15 : decode cX9_append 15 = .ok (.ifCond .eq 14, 3) := by decide +kernel
theorem dX9_append_29 : decode cX9_append 29 = .ok (.aload_n 0, 1) := by decide +kernel
theorem dX9_append_30 : decode cX9_append 30 = .ok (.getfield 42, 3) := by decide +kernel
theorem dX9_append_33 : decode cX9_append 33 = .ok (.iload_n 1, 1) := by decide +kernel
theorem dX9_append_34 : decode cX9_append 34 = .ok (.invokevirtual 346, 3) := by decide +kernel
theorem dX9_append_37 : decode cX9_append 37 = .ok (.aload_n 0, 1) := by decide +kernel
theorem dX9_append_38 : decode cX9_append 38 = .ok (.getfield 42, 3) := by decide +kernel
theorem dX9_append_41 : decode cX9_append 41 = .ok (.invokevirtual 350, 3) := by decide +kernel
theorem dX9_append_44 : decode cX9_append 44 = .ok (.ireturn, 1) := by decide +kernel
theorem dX9_busy_0 : decode cX9_busy 0 = .ok (.aload_n 0, 1) := by decide +kernel
theorem dX9_busy_1 : decode cX9_busy 1 = .ok (.iload_n 1, 1) := by decide +kernel
theorem dX9_busy_2 : decode cX9_busy 2 = .ok (.invokevirtual 294, 3) := by decide +kernel
theorem dX9_busy_5 : decode cX9_busy 5 = .ok (.aload_n 0, 1) := by decide +kernel
theorem dX9_busy_6 : decode cX9_busy 6 = .ok (.invokevirtual 177, 3) := by decide +kernel
theorem dX9_busy_9 : decode cX9_busy 9 = .ok (.iload_n 1, 1) := by decide +kernel
theorem dX9_busy_10 : decode cX9_busy 10 = .ok (.invokevirtual 309, 3) := by decide +kernel
theorem dX9_busy_13 : decode cX9_busy 13 = .ok (.ireturn, 1) := by decide +kernel
theorem dX9_clear_0 : decode cX9_clear 0 = .ok (.aload_n 0, 1) := by decide +kernel
theorem dX9_clear_1 : decode cX9_clear 1 = .ok (.getfield 12, 3) := by decide +kernel
theorem dX9_clear_4 : decode cX9_clear 4 = .ok (.invokevirtual 70, 3) := by decide +kernel
theorem dX9_clear_7 : decode cX9_clear 7 = .ok (.astore_n 1, 1) := by decide +kernel
theorem dX9_clear_8 : decode cX9_clear 8 = .ok (.aload_n 1, 1) := by decide +kernel
theorem dX9_clear_9 : decode cX9_clear 9 = .ok (.invokevirtual 74, 3) := by decide +kernel
theorem dX9_clear_12 : decode cX9_clear 12 = .ok (.istore_n 2, 1) := by decide +kernel
theorem dX9_clear_13 : decode cX9_clear 13 = .ok (.aload_n 1, 1) := by decide +kernel
theorem dX9_clear_14 : decode cX9_clear 14 = .ok (.invokevirtual 78, 3) := by decide +kernel
theorem dX9_clear_17 : decode cX9_clear 17 = .ok (.aload_n 0, 1) := by decide +kernel
theorem dX9_clear_18 : decode cX9_clear 18 = .ok (.getfield 12, 3) := by decide +kernel
theorem dX9_clear_21 : decode cX9_clear 21 = .ok (.invokevirtual 81, 3) := by decide +kernel
theorem dX9_clear_24 : decode cX9_clear 24 = .ok (.aload_n 0, 1) := by decide +kernel
theorem dX9_clear_25 : decode cX9_clear 25 = .ok (.invokevirtual 84, 3) := by decide +kernel
theorem dX9_clear_28 : decode cX9_clear 28 = .ok (.aload_n 0, 1) := by decide +kernel
theorem dX9_clear_29 : decode cX9_clear 29 = .ok (.getfield 42, 3) := by decide +kernel
theorem dX9_clear_32 : decode cX9_clear 32 = .ok (.invokevirtual 87, 3) := by decide +kernel
theorem dX9_clear_35 : decode cX9_clear 35 = .ok (.aload_n 0, 1) := by decide +kernel
theorem dX9_clear_36 : decode cX9_clear 36 = .ok (.iconst (-1), 1) := by decide +kernel
theorem dX9_clear_37 : decode cX9_clear 37 = .ok (.putfield 66, 3) := by decide +kernel
theorem dX9_clear_40 : decode cX9_clear 40 = .ok (.iload_n 2, 1) := by decide +kernel
theorem dX9_clear_41 : decode cX9_clear 41 = .ok (.ireturn, 1) := by decide +kernel
theorem dX9_clip_0 : decode cX9_clip 0 = .ok (.aload_n 0, 1) := by decide +kernel
theorem dX9_clip_1 : decode cX9_clip 1 = .ok (.iload_n 1, 1) := by decide +kernel
theorem dX9_clip_2 : decode cX9_clip 2 = .ok (.invokevirtual 158, 3) := by decide +kernel
theorem dX9_copyRow_0 : decode cX9_copyRow 0 = .ok (.aload_n 0, 1) := by decide +kernel
theorem dX9_copyRow_1 : decode cX9_copyRow 1 = .ok (.iconst 0, 1) := by decide +kernel
theorem dX9_copyRow_2 : decode cX9_copyRow 2 = .ok (.aload_n 1, 1) := by decide +kernel
theorem dX9_copyRow_3 : decode cX9_copyRow 3 = .ok (.iconst 0, 1) := by decide +kernel
theorem dX9_copyRow_4 : decode cX9_copyRow 4 = .ok (.aload_n 0, 1) := by decide +kernel
theorem dX9_copyRow_5 : decode cX9_copyRow 5 = .ok (.arraylength, 1) := by decide +kernel
theorem dX9_copyRow_6 : decode cX9_copyRow 6 = .ok (.aload_n 1, 1) := by decide +kernel
theorem dX9_copyRow_7 : decode cX9_copyRow 7 = .ok (.arraylength, 1) := by decide +kernel
theorem dX9_copyRow_8 : decode cX9_copyRow 8 = .ok (.invokestatic 433, 3) := by decide +kernel
theorem dX9_copyRow_11 : decode cX9_copyRow 11 = .ok (.invokestatic 427, 3) := by decide +kernel
theorem dX9_copyRow_14 : decode cX9_copyRow 14 = .ok (.return_, 1) := by decide +kernel
theorem dX9_count_0 : decode cX9_count 0 = .ok (.aload_n 0, 1) := by decide +kernel
theorem dX9_count_1 : decode cX9_count 1 = .ok (.getfield 12, 3) := by decide +kernel
theorem dX9_count_4 : decode cX9_count 4 = .ok (.invokevirtual 70, 3) := by decide +kernel
theorem dX9_count_7 : decode cX9_count 7 = .ok (.astore_n 2, 1) := by decide +kernel
theorem dX9_count_8 : decode cX9_count 8 = .ok (.iload_n 1, 1) := by decide +kernel
theorem dX9_count_9 : decode cX9_count 9 = .ok (.tableswitch 114 0 8 #[51, 56, 64, 72, 80, 85, 93, 101, 106], 51) := by decide +kernel
theorem dX9_count_60 : decode cX9_count 60 = .ok (.aload_n 2, 1) := by decide +kernel
theorem dX9_count_61 : decode cX9_count 61 = .ok (.invokevirtual 74, 3) := by decide +kernel
theorem dX9_count_64 : decode cX9_count 64 = .ok (.ireturn, 1) := by decide +kernel
theorem dX9_count_65 : decode cX9_count 65 = .ok (.aload_n 0, 1) := by decide +kernel
theorem dX9_count_66 : decode cX9_count 66 = .ok (.invokevirtual 177, 3) := by decide +kernel
theorem dX9_count_69 : decode cX9_count 69 = .ok (.invokevirtual 181, 3) := by decide +kernel
theorem dX9_count_72 : decode cX9_count 72 = .ok (.ireturn, 1) := by decide +kernel
theorem dX9_count_73 : decode cX9_count 73 = .ok (.aload_n 0, 1) := by decide +kernel
theorem dX9_count_74 : decode cX9_count 74 = .ok (.invokevirtual 177, 3) := by decide +kernel
theorem dX9_count_77 : decode cX9_count 77 = .ok (.invokevirtual 184, 3) := by decide +kernel
theorem dX9_count_80 : decode cX9_count 80 = .ok (.ireturn, 1) := by decide +kernel
theorem dX9_count_81 : decode cX9_count 81 = .ok (.aload_n 0, 1) := by decide +kernel
theorem dX9_count_82 : decode cX9_count 82 = .ok (.invokevirtual 177, 3) := by decide +kernel
theorem dX9_count_85 : decode cX9_count 85 = .ok (.invokevirtual 187, 3) := by decide +kernel
theorem dX9_count_88 : decode cX9_count 88 = .ok (.ireturn, 1) := by decide +kernel
theorem dX9_count_89 : decode cX9_count 89 = .ok (.aload_n 2, 1) := by decide +kernel
theorem dX9_count_90 : decode cX9_count 90 = .ok (.getfield 190, 3) := by decide +kernel
theorem dX9_count_93 : decode cX9_count 93 = .ok (.ireturn, 1) := by decide +kernel
theorem dX9_count_94 : decode cX9_count 94 = .ok (.aload_n 2, 1) := by decide +kernel
theorem dX9_count_95 : decode cX9_count 95 = .ok (.getfield 193, 3) := by decide +kernel
theorem dX9_count_98 : decode cX9_count 98 = .ok (.invokevirtual 197, 3) := by decide +kernel
theorem dX9_count_101 : decode cX9_count 101 = .ok (.ireturn, 1) := by decide +kernel
theorem dX9_count_102 : decode cX9_count 102 = .ok (.aload_n 2, 1) := by decide +kernel
theorem dX9_count_103 : decode cX9_count 103 = .ok (.getfield 193, 3) := by decide +kernel
theorem dX9_count_106 : decode cX9_count 106 = .ok (.getfield 202, 3) := by decide +kernel
theorem dX9_count_109 : decode cX9_count 109 = .ok (.ireturn, 1) := by decide +kernel
theorem dX9_count_110 : decode cX9_count 110 = .ok (.aload_n 2, 1) := by decide +kernel
theorem dX9_count_111 : decode cX9_count 111 = .ok (.getfield 205, 3) := by decide +kernel
theorem dX9_count_114 : decode cX9_count 114 = .ok (.ireturn, 1) := by decide +kernel
theorem dX9_count_115 : decode cX9_count 115 = .ok (.aload_n 0, 1) := by decide +kernel
theorem dX9_count_116 : decode cX9_count 116 = .ok (.invokevirtual 177, 3) := by decide +kernel
theorem dX9_count_119 : decode cX9_count 119 = .ok (.invokevirtual 208, 3) := by decide +kernel
theorem dX9_count_122 : decode cX9_count 122 = .ok (.ireturn, 1) := by decide +kernel
theorem dX9_count_123 : decode cX9_count 123 = .ok (.new 211, 3) := by decide +kernel
theorem dX9_count_126 : decode cX9_count 126 = .ok (.dup, 1) := by decide +kernel
theorem dX9_count_127 : decode cX9_count 127 = .ok (.ldc 213, 2) := by decide +kernel
theorem dX9_count_129 : decode cX9_count 129 = .ok (.invokespecial 215, 3) := by decide +kernel
theorem dX9_count_132 : decode cX9_count 132 = .ok (.athrow, 1) := by decide +kernel
theorem dX9_cutBy_0 : decode cX9_cutBy 0 = .ok (.aload_n 0, 1) := by decide +kernel
theorem dX9_cutBy_1 : decode cX9_cutBy 1 = .ok (.invokevirtual 177, 3) := by decide +kernel
theorem dX9_cutBy_4 : decode cX9_cutBy 4 = .ok (.astore_n 2, 1) := by decide +kernel
theorem dX9_cutBy_5 : decode cX9_cutBy 5 = .ok (.iload_n 1, 1) := by decide +kernel
theorem dX9_cutBy_6 : decode cX9_cutBy 6 = .ok (.aload_n 2, 1) := by decide +kernel
theorem dX9_cutBy_7 : decode cX9_cutBy 7 = .ok (.invokevirtual 181, 3) := by decide +kernel
theorem dX9_cutBy_10 : decode cX9_cutBy 10 = .ok (.invokestatic 216, 3) := by decide +kernel
theorem dX9_describe_0 : decode cX9_describe 0 = .ok (.iload_n 1, 1) := by decide +kernel
theorem dX9_describe_1 : decode cX9_describe 1 = .ok (.invokestatic 90, 3) := by decide +kernel
theorem dX9_describe_4 : decode cX9_describe 4 = .ok (.aload_n 0, 1) := by decide +kernel
theorem dX9_describe_5 : decode cX9_describe 5 = .ok (.getfield 12, 3) := by decide +kernel
theorem dX9_describe_8 : decode cX9_describe 8 = .ok (.invokevirtual 70, 3) := by decide +kernel
theorem dX9_describe_11 : decode cX9_describe 11 = .ok (.getfield 108, 3) := by decide +kernel
theorem dX9_describe_14 : decode cX9_describe 14 = .ok (.iload_n 1, 1) := by decide +kernel
theorem dX9_describe_15 : decode cX9_describe 15 = .ok (.aload_n 0, 1) := by decide +kernel
theorem dX9_describe_16 : decode cX9_describe 16 = .ok (.getfield 46, 3) := by decide +kernel
theorem dX9_describe_19 : decode cX9_describe 19 = .ok (.invokevirtual 374, 3) := by decide +kernel
theorem dX9_describe_22 : decode cX9_describe 22 = .ok (.iload_n 2, 1) := by decide +kernel
theorem dX9_describe_23 : decode cX9_describe 23 = .ok (.iconst (-1), 1) := by decide +kernel
theorem dX9_describe_24 : decode cX9_describe 24 = .ok (.if_icmp .ne 11, 3) := by decide +kernel
theorem dX9_describe_27 : decode cX9_describe 27 = .ok (.aload_n 0, 1) := by decide +kernel
theorem dX9_describe_28 : decode cX9_describe 28 = .ok (.getfield 46, 3) := by decide +kernel
theorem dX9_describe_31 : decode cX9_describe 31 = .ok (.invokevirtual 350, 3) := by decide +kernel
theorem dX9_describe_34 : decode cX9_describe 34 = .ok (.ireturn, 1) := by decide +kernel
theorem dX9_describe_35 : decode cX9_describe 35 = .ok (.iload_n 2, 1) := by decide +kernel
theorem dX9_describe_36 : decode cX9_describe 36 = .ok (.ifCond .lt 14, 3) := by decide +kernel
theorem dX9_describe_39 : decode cX9_describe 39 = .ok (.iload_n 2, 1) := by decide +kernel
theorem dX9_describe_40 : decode cX9_describe 40 = .ok (.aload_n 0, 1) := by decide +kernel
theorem dX9_describe_41 : decode cX9_describe 41 = .ok (.getfield 46, 3) := by decide +kernel
theorem dX9_describe_44 : decode cX9_describe 44 = .ok (.invokevirtual 350, 3) := by decide +kernel
theorem dX9_describe_47 : decode cX9_describe 47 = .ok (.if_icmp .lt 14, 3) := by decide +kernel
theorem dX9_describe_50 : decode cX9_describe 50 = .ok (.new 135, 3) := by decide +kernel
theorem dX9_describe_53 : decode cX9_describe 53 = .ok (.dup, 1) := by decide +kernel
theorem dX9_describe_54 : decode cX9_describe 54 = .ok (.ldc_w 378, 3) := by decide +kernel
theorem dX9_describe_57 : decode cX9_describe 57 = .ok (.invokespecial 139, 3) := by decide +kernel
theorem dX9_describe_60 : decode cX9_describe 60 = .ok (.athrow, 1) := by decide +kernel
theorem dX9_errorPosition_0 : decode cX9_errorPosition 0 = .ok (.aload_n 0, 1) := by decide +kernel
theorem dX9_errorPosition_1 : decode cX9_errorPosition 1 = .ok (.getfield 66, 3) := by decide +kernel
theorem dX9_errorPosition_4 : decode cX9_errorPosition 4 = .ok (.iconst (-1), 1) := by decide +kernel
theorem dX9_errorPosition_5 : decode cX9_errorPosition 5 = .ok (.if_icmp .ne 14, 3) := by decide +kernel
theorem dX9_errorPosition_8 : decode cX9_errorPosition 8 = .ok (.new 135, 3) := by decide +kernel
theorem dX9_errorPosition_11 : decode cX9_errorPosition 11 = .ok (.dup, 1) := by decide +kernel
theorem dX9_errorPosition_12 : decode cX9_errorPosition 12 = .ok (.ldc_w 372, 3) := by decide +kernel
theorem dX9_errorPosition_15 : decode cX9_errorPosition 15 = .ok (.invokespecial 139, 3) := by decide +kernel
theorem dX9_errorPosition_18 : decode cX9_errorPosition 18 = .ok (.athrow, 1) := by decide +kernel
theorem dX9_event_0 : decode cX9_event 0 = .ok (.aload_n 0, 1) := by decide +kernel
theorem dX9_event_1 : decode cX9_event 1 = .ok (.aload_n 0, 1) := by decide +kernel
theorem dX9_event_2 : decode cX9_event 2 = .ok (.invokevirtual 177, 3) := by decide +kernel
theorem dX9_event_5 : decode cX9_event 5 = .ok (.invokevirtual 302, 3) := by decide +kernel
theorem dX9_event_8 : decode cX9_event 8 = .ok (.astore_n 3, 1) := by decide +kernel
theorem dX9_event_9 : decode cX9_event 9 = .ok (.iload_n 1, 1) := by decide +kernel
theorem dX9_event_10 : decode cX9_event 10 = .ok (.ifCond .lt 11, 3) := by decide +kernel
theorem dX9_event_13 : decode cX9_event 13 = .ok (.iload_n 1, 1) := by decide +kernel
theorem dX9_event_14 : decode cX9_event 14 = .ok (.aload_n 3, 1) := by decide +kernel
theorem dX9_event_15 : decode cX9_event 15 = .ok (.invokevirtual 317, 3) := by decide +kernel
theorem dX9_event_18 : decode cX9_event 18 = .ok (.if_icmp .lt 14, 3) := by decide +kernel
theorem dX9_event_21 : decode cX9_event 21 = .ok (.new 320, 3) := by decide +kernel
theorem dX9_event_24 : decode cX9_event 24 = .ok (.dup, 1) := by decide +kernel
theorem dX9_event_25 : decode cX9_event 25 = .ok (.ldc_w 322, 3) := by decide +kernel
theorem dX9_event_28 : decode cX9_event 28 = .ok (.invokespecial 324, 3) := by decide +kernel
theorem dX9_event_31 : decode cX9_event 31 = .ok (.athrow, 1) := by decide +kernel
theorem dX9_eventCount_0 : decode cX9_eventCount 0 = .ok (.aload_n 0, 1) := by decide +kernel
theorem dX9_eventCount_1 : decode cX9_eventCount 1 = .ok (.aload_n 0, 1) := by decide +kernel
theorem dX9_eventCount_2 : decode cX9_eventCount 2 = .ok (.invokevirtual 177, 3) := by decide +kernel
theorem dX9_eventCount_5 : decode cX9_eventCount 5 = .ok (.invokevirtual 302, 3) := by decide +kernel
theorem dX9_eventCount_8 : decode cX9_eventCount 8 = .ok (.invokevirtual 317, 3) := by decide +kernel
theorem dX9_eventCount_11 : decode cX9_eventCount 11 = .ok (.ireturn, 1) := by decide +kernel
theorem dX9_eventFrom_0 : decode cX9_eventFrom 0 = .ok (.iload_n 1, 1) := by decide +kernel
theorem dX9_eventFrom_1 : decode cX9_eventFrom 1 = .ok (.invokestatic 259, 3) := by decide +kernel
theorem dX9_eventFrom_4 : decode cX9_eventFrom 4 = .ok (.aload_n 0, 1) := by decide +kernel
theorem dX9_eventFrom_5 : decode cX9_eventFrom 5 = .ok (.aload_n 0, 1) := by decide +kernel
theorem dX9_eventFrom_6 : decode cX9_eventFrom 6 = .ok (.invokevirtual 177, 3) := by decide +kernel
theorem dX9_eventFrom_9 : decode cX9_eventFrom 9 = .ok (.invokevirtual 302, 3) := by decide +kernel
theorem dX9_eventFrom_12 : decode cX9_eventFrom 12 = .ok (.iload_n 1, 1) := by decide +kernel
theorem dX9_eventFrom_13 : decode cX9_eventFrom 13 = .ok (.invokevirtual 336, 3) := by decide +kernel
theorem dX9_eventFrom_16 : decode cX9_eventFrom 16 = .ok (.istore_n 2, 1) := by decide +kernel
theorem dX9_eventFrom_17 : decode cX9_eventFrom 17 = .ok (.iload_n 2, 1) := by decide +kernel
theorem dX9_eventFrom_18 : decode cX9_eventFrom 18 = .ok (.iconst (-1), 1) := by decide +kernel
theorem dX9_eventFrom_19 : decode cX9_eventFrom 19 = .ok (.if_icmp .ne 14, 3) := by decide +kernel
theorem dX9_eventFrom_22 : decode cX9_eventFrom 22 = .ok (.new 135, 3) := by decide +kernel
theorem dX9_eventFrom_25 : decode cX9_eventFrom 25 = .ok (.dup, 1) := by decide +kernel
theorem dX9_eventFrom_26 : decode cX9_eventFrom 26 = .ok (.ldc_w 339, 3) := by decide +kernel
theorem dX9_eventFrom_29 : decode cX9_eventFrom 29 = .ok (.invokespecial 139, 3) := by decide +kernel
theorem dX9_eventFrom_32 : decode cX9_eventFrom 32 = .ok (.athrow, 1) := by decide +kernel
theorem dX9_eventsOf_0 : decode cX9_eventsOf 0 = .ok (.aload_n 0, 1) := by decide +kernel
theorem dX9_eventsOf_1 : decode cX9_eventsOf 1 = .ok (.getfield 63, 3) := by decide +kernel
theorem dX9_eventsOf_4 : decode cX9_eventsOf 4 = .ok (.ifCond .ne 16, 3) := by decide +kernel
theorem dX9_eventsOf_7 : decode cX9_eventsOf 7 = .ok (.aload_n 0, 1) := by decide +kernel
theorem dX9_eventsOf_8 : decode cX9_eventsOf 8 = .ok (.getfield 33, 3) := by decide +kernel
theorem dX9_eventsOf_11 : decode cX9_eventsOf 11 = .ok (.aload_n 1, 1) := by decide +kernel
theorem dX9_eventsOf_12 : decode cX9_eventsOf 12 = .ok (.invokevirtual 418, 3) := by decide +kernel
theorem dX9_eventsOf_15 : decode cX9_eventsOf 15 = .ok (.aload_n 0, 1) := by decide +kernel
theorem dX9_eventsOf_16 : decode cX9_eventsOf 16 = .ok (.iconst 1, 1) := by decide +kernel
theorem dX9_eventsOf_17 : decode cX9_eventsOf 17 = .ok (.putfield 63, 3) := by decide +kernel
theorem dX9_eventsOf_20 : decode cX9_eventsOf 20 = .ok (.aload_n 0, 1) := by decide +kernel
theorem dX9_eventsOf_21 : decode cX9_eventsOf 21 = .ok (.getfield 33, 3) := by decide +kernel
theorem dX9_eventsOf_24 : decode cX9_eventsOf 24 = .ok (.areturn, 1) := by decide +kernel
theorem dX9_init_0 : decode cX9_init 0 = .ok (.aload_n 0, 1) := by decide +kernel
theorem dX9_init_1 : decode cX9_init 1 = .ok (.invokespecial 3, 3) := by decide +kernel
theorem dX9_init_4 : decode cX9_init 4 = .ok (.aload_n 0, 1) := by decide +kernel
theorem dX9_init_5 : decode cX9_init 5 = .ok (.new 9, 3) := by decide +kernel
theorem dX9_init_8 : decode cX9_init 8 = .ok (.dup, 1) := by decide +kernel
theorem dX9_init_9 : decode cX9_init 9 = .ok (.invokespecial 11, 3) := by decide +kernel
theorem dX9_init_12 : decode cX9_init 12 = .ok (.putfield 12, 3) := by decide +kernel
theorem dX9_init_15 : decode cX9_init 15 = .ok (.aload_n 0, 1) := by decide +kernel
theorem dX9_init_16 : decode cX9_init 16 = .ok (.new 16, 3) := by decide +kernel
theorem dX9_init_19 : decode cX9_init 19 = .ok (.dup, 1) := by decide +kernel
theorem dX9_init_20 : decode cX9_init 20 = .ok (.invokespecial 18, 3) := by decide +kernel
theorem dX9_init_23 : decode cX9_init 23 = .ok (.putfield 19, 3) := by decide +kernel
theorem dX9_init_26 : decode cX9_init 26 = .ok (.aload_n 0, 1) := by decide +kernel
theorem dX9_init_27 : decode cX9_init 27 = .ok (.new 23, 3) := by decide +kernel
theorem dX9_init_30 : decode cX9_init 30 = .ok (.dup, 1) := by decide +kernel
theorem dX9_init_31 : decode cX9_init 31 = .ok (.invokespecial 25, 3) := by decide +kernel
theorem dX9_init_34 : decode cX9_init 34 = .ok (.putfield 26, 3) := by decide +kernel
theorem dX9_init_37 : decode cX9_init 37 = .ok (.aload_n 0, 1) := by decide +kernel
theorem dX9_init_38 : decode cX9_init 38 = .ok (.new 30, 3) := by decide +kernel
theorem dX9_init_41 : decode cX9_init 41 = .ok (.dup, 1) := by decide +kernel
theorem dX9_init_42 : decode cX9_init 42 = .ok (.invokespecial 32, 3) := by decide +kernel
theorem dX9_init_45 : decode cX9_init 45 = .ok (.putfield 33, 3) := by decide +kernel
theorem dX9_init_48 : decode cX9_init 48 = .ok (.aload_n 0, 1) := by decide +kernel
theorem dX9_init_49 : decode cX9_init 49 = .ok (.new 37, 3) := by decide +kernel
theorem dX9_init_52 : decode cX9_init 52 = .ok (.dup, 1) := by decide +kernel
theorem dX9_init_53 : decode cX9_init 53 = .ok (.bipush 60, 2) := by decide +kernel
theorem dX9_init_55 : decode cX9_init 55 = .ok (.invokespecial 39, 3) := by decide +kernel
theorem dX9_init_58 : decode cX9_init 58 = .ok (.putfield 42, 3) := by decide +kernel
theorem dX9_init_61 : decode cX9_init 61 = .ok (.aload_n 0, 1) := by decide +kernel
theorem dX9_init_62 : decode cX9_init 62 = .ok (.new 37, 3) := by decide +kernel
theorem dX9_init_65 : decode cX9_init 65 = .ok (.dup, 1) := by decide +kernel
theorem dX9_init_66 : decode cX9_init 66 = .ok (.sipush 128, 3) := by decide +kernel
theorem dX9_init_69 : decode cX9_init 69 = .ok (.invokespecial 39, 3) := by decide +kernel
theorem dX9_init_72 : decode cX9_init 72 = .ok (.putfield 46, 3) := by decide +kernel
theorem dX9_init_75 : decode cX9_init 75 = .ok (.aload_n 0, 1) := by decide +kernel
theorem dX9_init_76 : decode cX9_init 76 = .ok (.new 49, 3) := by decide +kernel
theorem dX9_init_79 : decode cX9_init 79 = .ok (.dup, 1) := by decide +kernel
theorem dX9_init_80 : decode cX9_init 80 = .ok (.invokespecial 51, 3) := by decide +kernel
theorem dX9_init_83 : decode cX9_init 83 = .ok (.putfield 52, 3) := by decide +kernel
theorem dX9_init_86 : decode cX9_init 86 = .ok (.aload_n 0, 1) := by decide +kernel
theorem dX9_init_87 : decode cX9_init 87 = .ok (.iconst 0, 1) := by decide +kernel
theorem dX9_init_88 : decode cX9_init 88 = .ok (.putfield 56, 3) := by decide +kernel
theorem dX9_init_91 : decode cX9_init 91 = .ok (.aload_n 0, 1) := by decide +kernel
theorem dX9_init_92 : decode cX9_init 92 = .ok (.iconst 0, 1) := by decide +kernel
theorem dX9_init_93 : decode cX9_init 93 = .ok (.putfield 60, 3) := by decide +kernel
theorem dX9_init_96 : decode cX9_init 96 = .ok (.aload_n 0, 1) := by decide +kernel
theorem dX9_init_97 : decode cX9_init 97 = .ok (.iconst 0, 1) := by decide +kernel
theorem dX9_init_98 : decode cX9_init 98 = .ok (.putfield 63, 3) := by decide +kernel
theorem dX9_init_101 : decode cX9_init 101 = .ok (.aload_n 0, 1) := by decide +kernel
theorem dX9_init_102 : decode cX9_init 102 = .ok (.iconst (-1), 1) := by decide +kernel
theorem dX9_init_103 : decode cX9_init 103 = .ok (.putfield 66, 3) := by decide +kernel
theorem dX9_init_106 : decode cX9_init 106 = .ok (.return_, 1) := by decide +kernel
theorem dX9_instrument_0 : decode cX9_instrument 0 = .ok (.iload_n 1, 1) := by decide +kernel
theorem dX9_instrument_1 : decode cX9_instrument 1 = .ok (.invokestatic 265, 3) := by decide +kernel
theorem dX9_instrument_4 : decode cX9_instrument 4 = .ok (.iload_n 2, 1) := by decide +kernel
theorem dX9_instrument_5 : decode cX9_instrument 5 = .ok (.iconst 0, 1) := by decide +kernel
theorem dX9_instrument_6 : decode cX9_instrument 6 = .ok (.iconst 5, 1) := by decide +kernel
theorem dX9_instrument_7 : decode cX9_instrument 7 = .ok (.invokestatic 93, 3) := by decide +kernel
theorem dX9_instrument_10 : decode cX9_instrument 10 = .ok (.aload_n 0, 1) := by decide +kernel
theorem dX9_instrument_11 : decode cX9_instrument 11 = .ok (.getfield 12, 3) := by decide +kernel
theorem dX9_instrument_14 : decode cX9_instrument 14 = .ok (.invokevirtual 70, 3) := by decide +kernel
theorem dX9_instrument_17 : decode cX9_instrument 17 = .ok (.astore_n 3, 1) := by decide +kernel
theorem dX9_instrument_18 : decode cX9_instrument 18 = .ok (.iload_n 2, 1) := by decide +kernel
theorem dX9_instrument_19 : decode cX9_instrument 19 = .ok (.iconst 5, 1) := by decide +kernel
theorem dX9_instrument_20 : decode cX9_instrument 20 = .ok (.if_icmp .ne 9, 3) := by decide +kernel
theorem dX9_instrument_23 : decode cX9_instrument 23 = .ok (.aload_n 3, 1) := by decide +kernel
theorem dX9_instrument_24 : decode cX9_instrument 24 = .ok (.iload_n 1, 1) := by decide +kernel
theorem dX9_instrument_25 : decode cX9_instrument 25 = .ok (.invokevirtual 280, 3) := by decide +kernel
theorem dX9_instrument_28 : decode cX9_instrument 28 = .ok (.ireturn, 1) := by decide +kernel
theorem dX9_instrument_29 : decode cX9_instrument 29 = .ok (.aload_n 3, 1) := by decide +kernel
theorem dX9_instrument_30 : decode cX9_instrument 30 = .ok (.iload_n 1, 1) := by decide +kernel
theorem dX9_instrument_31 : decode cX9_instrument 31 = .ok (.iload_n 2, 1) := by decide +kernel
theorem dX9_instrument_32 : decode cX9_instrument 32 = .ok (.invokevirtual 274, 3) := by decide +kernel
theorem dX9_instrument_35 : decode cX9_instrument 35 = .ok (.ireturn, 1) := by decide +kernel
theorem dX9_isCut_0 : decode cX9_isCut 0 = .ok (.aload_n 0, 1) := by decide +kernel
theorem dX9_isCut_1 : decode cX9_isCut 1 = .ok (.invokevirtual 177, 3) := by decide +kernel
theorem dX9_isCut_4 : decode cX9_isCut 4 = .ok (.astore_n 2, 1) := by decide +kernel
theorem dX9_isCut_5 : decode cX9_isCut 5 = .ok (.iload_n 1, 1) := by decide +kernel
theorem dX9_isCut_6 : decode cX9_isCut 6 = .ok (.aload_n 2, 1) := by decide +kernel
theorem dX9_isCut_7 : decode cX9_isCut 7 = .ok (.invokevirtual 181, 3) := by decide +kernel
theorem dX9_isCut_10 : decode cX9_isCut 10 = .ok (.invokestatic 216, 3) := by decide +kernel
theorem dX9_item_0 : decode cX9_item 0 = .ok (.iload_n 1, 1) := by decide +kernel
theorem dX9_item_1 : decode cX9_item 1 = .ok (.invokestatic 90, 3) := by decide +kernel
theorem dX9_item_4 : decode cX9_item 4 = .ok (.aload_n 0, 1) := by decide +kernel
theorem dX9_item_5 : decode cX9_item 5 = .ok (.iload_n 1, 1) := by decide +kernel
theorem dX9_item_6 : decode cX9_item 6 = .ok (.iload_n 2, 1) := by decide +kernel
theorem dX9_item_7 : decode cX9_item 7 = .ok (.invokevirtual 101, 3) := by decide +kernel
theorem dX9_level_0 : decode cX9_level 0 = .ok (.aload_n 0, 1) := by decide +kernel
theorem dX9_level_1 : decode cX9_level 1 = .ok (.invokevirtual 177, 3) := by decide +kernel
theorem dX9_level_4 : decode cX9_level 4 = .ok (.astore_n 3, 1) := by decide +kernel
theorem dX9_level_5 : decode cX9_level 5 = .ok (.iload_n 1, 1) := by decide +kernel
theorem dX9_level_6 : decode cX9_level 6 = .ok (.aload_n 3, 1) := by decide +kernel
theorem dX9_level_7 : decode cX9_level 7 = .ok (.invokevirtual 181, 3) := by decide +kernel
theorem dX9_level_10 : decode cX9_level 10 = .ok (.invokestatic 216, 3) := by decide +kernel
theorem dX9_lostShare_0 : decode cX9_lostShare 0 = .ok (.aload_n 0, 1) := by decide +kernel
theorem dX9_lostShare_1 : decode cX9_lostShare 1 = .ok (.invokevirtual 177, 3) := by decide +kernel
theorem dX9_lostShare_4 : decode cX9_lostShare 4 = .ok (.astore_n 1, 1) := by decide +kernel
theorem dX9_lostShare_5 : decode cX9_lostShare 5 = .ok (.aload_n 1, 1) := by decide +kernel
theorem dX9_lostShare_6 : decode cX9_lostShare 6 = .ok (.invokevirtual 181, 3) := by decide +kernel
theorem dX9_lostShare_9 : decode cX9_lostShare 9 = .ok (.istore_n 2, 1) := by decide +kernel
theorem dX9_lostShare_10 : decode cX9_lostShare 10 = .ok (.iload_n 2, 1) := by decide +kernel
theorem dX9_lostShare_11 : decode cX9_lostShare 11 = .ok (.ifCond .gt 14, 3) := by decide +kernel
theorem dX9_lostShare_14 : decode cX9_lostShare 14 = .ok (.new 312, 3) := by decide +kernel
theorem dX9_lostShare_17 : decode cX9_lostShare 17 = .ok (.dup, 1) := by decide +kernel
theorem dX9_lostShare_18 : decode cX9_lostShare 18 = .ok (.ldc_w 314, 3) := by decide +kernel
theorem dX9_lostShare_21 : decode cX9_lostShare 21 = .ok (.invokespecial 316, 3) := by decide +kernel
theorem dX9_lostShare_24 : decode cX9_lostShare 24 = .ok (.athrow, 1) := by decide +kernel
theorem dX9_mix_0 : decode cX9_mix 0 = .ok (.iload_n 1, 1) := by decide +kernel
theorem dX9_mix_1 : decode cX9_mix 1 = .ok (.invokestatic 259, 3) := by decide +kernel
theorem dX9_mix_4 : decode cX9_mix 4 = .ok (.aload_n 0, 1) := by decide +kernel
theorem dX9_mix_5 : decode cX9_mix 5 = .ok (.invokevirtual 177, 3) := by decide +kernel
theorem dX9_mix_8 : decode cX9_mix 8 = .ok (.aload_n 0, 1) := by decide +kernel
theorem dX9_mix_9 : decode cX9_mix 9 = .ok (.getfield 12, 3) := by decide +kernel
theorem dX9_mix_12 : decode cX9_mix 12 = .ok (.invokevirtual 70, 3) := by decide +kernel
theorem dX9_mix_15 : decode cX9_mix 15 = .ok (.iload_n 1, 1) := by decide +kernel
theorem dX9_mix_16 : decode cX9_mix 16 = .ok (.invokevirtual 287, 3) := by decide +kernel
theorem dX9_mix_19 : decode cX9_mix 19 = .ok (.ireturn, 1) := by decide +kernel
theorem dX9_moveClip_0 : decode cX9_moveClip 0 = .ok (.aload_n 0, 1) := by decide +kernel
theorem dX9_moveClip_1 : decode cX9_moveClip 1 = .ok (.iload_n 1, 1) := by decide +kernel
theorem dX9_moveClip_2 : decode cX9_moveClip 2 = .ok (.invokevirtual 158, 3) := by decide +kernel
theorem dX9_note_0 : decode cX9_note 0 = .ok (.aload_n 0, 1) := by decide +kernel
theorem dX9_note_1 : decode cX9_note 1 = .ok (.invokevirtual 177, 3) := by decide +kernel
theorem dX9_note_4 : decode cX9_note 4 = .ok (.astore_n 3, 1) := by decide +kernel
theorem dX9_note_5 : decode cX9_note 5 = .ok (.iload_n 1, 1) := by decide +kernel
theorem dX9_note_6 : decode cX9_note 6 = .ok (.aload_n 3, 1) := by decide +kernel
theorem dX9_note_7 : decode cX9_note 7 = .ok (.invokevirtual 181, 3) := by decide +kernel
theorem dX9_note_10 : decode cX9_note 10 = .ok (.invokestatic 216, 3) := by decide +kernel
theorem dX9_noteOn_0 : decode cX9_noteOn 0 = .ok (.aload_n 0, 1) := by decide +kernel
theorem dX9_noteOn_1 : decode cX9_noteOn 1 = .ok (.iload_n 1, 1) := by decide +kernel
theorem dX9_noteOn_2 : decode cX9_noteOn 2 = .ok (.invokevirtual 294, 3) := by decide +kernel
theorem dX9_noteOn_5 : decode cX9_noteOn 5 = .ok (.iload_n 2, 1) := by decide +kernel
theorem dX9_noteOn_6 : decode cX9_noteOn 6 = .ok (.invokestatic 259, 3) := by decide +kernel
theorem dX9_noteOn_9 : decode cX9_noteOn 9 = .ok (.aload_n 0, 1) := by decide +kernel
theorem dX9_noteOn_10 : decode cX9_noteOn 10 = .ok (.invokevirtual 177, 3) := by decide +kernel
theorem dX9_noteOn_13 : decode cX9_noteOn 13 = .ok (.iload_n 1, 1) := by decide +kernel
theorem dX9_noteOn_14 : decode cX9_noteOn 14 = .ok (.iload_n 2, 1) := by decide +kernel
theorem dX9_noteOn_15 : decode cX9_noteOn 15 = .ok (.invokevirtual 297, 3) := by decide +kernel
theorem dX9_noteOn_18 : decode cX9_noteOn 18 = .ok (.istore_n 3, 1) := by decide +kernel
theorem dX9_noteOn_19 : decode cX9_noteOn 19 = .ok (.iload_n 3, 1) := by decide +kernel
theorem dX9_noteOn_20 : decode cX9_noteOn 20 = .ok (.iconst (-1), 1) := by decide +kernel
theorem dX9_noteOn_21 : decode cX9_noteOn 21 = .ok (.if_icmp .ne 14, 3) := by decide +kernel
theorem dX9_noteOn_24 : decode cX9_noteOn 24 = .ok (.new 135, 3) := by decide +kernel
theorem dX9_noteOn_27 : decode cX9_noteOn 27 = .ok (.dup, 1) := by decide +kernel
theorem dX9_noteOn_28 : decode cX9_noteOn 28 = .ok (.ldc_w 300, 3) := by decide +kernel
theorem dX9_noteOn_31 : decode cX9_noteOn 31 = .ok (.invokespecial 139, 3) := by decide +kernel
theorem dX9_noteOn_34 : decode cX9_noteOn 34 = .ok (.athrow, 1) := by decide +kernel
theorem dX9_outdate_0 : decode cX9_outdate 0 = .ok (.aload_n 0, 1) := by decide +kernel
theorem dX9_outdate_1 : decode cX9_outdate 1 = .ok (.iconst 0, 1) := by decide +kernel
theorem dX9_outdate_2 : decode cX9_outdate 2 = .ok (.putfield 60, 3) := by decide +kernel
theorem dX9_outdate_5 : decode cX9_outdate 5 = .ok (.aload_n 0, 1) := by decide +kernel
theorem dX9_outdate_6 : decode cX9_outdate 6 = .ok (.iconst 0, 1) := by decide +kernel
theorem dX9_outdate_7 : decode cX9_outdate 7 = .ok (.putfield 63, 3) := by decide +kernel
theorem dX9_outdate_10 : decode cX9_outdate 10 = .ok (.return_, 1) := by decide +kernel
theorem dX9_pattern_0 : decode cX9_pattern 0 = .ok (.iload_n 1, 1) := by decide +kernel
theorem dX9_pattern_1 : decode cX9_pattern 1 = .ok (.invokestatic 90, 3) := by decide +kernel
theorem dX9_pattern_4 : decode cX9_pattern 4 = .ok (.iload_n 2, 1) := by decide +kernel
theorem dX9_pattern_5 : decode cX9_pattern 5 = .ok (.iconst 0, 1) := by decide +kernel
theorem dX9_pattern_6 : decode cX9_pattern 6 = .ok (.iconst 4, 1) := by decide +kernel
theorem dX9_pattern_7 : decode cX9_pattern 7 = .ok (.invokestatic 93, 3) := by decide +kernel
theorem dX9_pattern_10 : decode cX9_pattern 10 = .ok (.aload_n 0, 1) := by decide +kernel
theorem dX9_pattern_11 : decode cX9_pattern 11 = .ok (.getfield 12, 3) := by decide +kernel
theorem dX9_pattern_14 : decode cX9_pattern 14 = .ok (.invokevirtual 70, 3) := by decide +kernel
theorem dX9_pattern_17 : decode cX9_pattern 17 = .ok (.getfield 108, 3) := by decide +kernel
theorem dX9_pattern_20 : decode cX9_pattern 20 = .ok (.iload_n 1, 1) := by decide +kernel
theorem dX9_pattern_21 : decode cX9_pattern 21 = .ok (.iload_n 2, 1) := by decide +kernel
theorem dX9_pattern_22 : decode cX9_pattern 22 = .ok (.invokevirtual 124, 3) := by decide +kernel
theorem dX9_pattern_25 : decode cX9_pattern 25 = .ok (.ireturn, 1) := by decide +kernel
theorem dX9_place_0 : decode cX9_place 0 = .ok (.aload_n 0, 1) := by decide +kernel
theorem dX9_place_1 : decode cX9_place 1 = .ok (.getfield 12, 3) := by decide +kernel
theorem dX9_place_4 : decode cX9_place 4 = .ok (.invokevirtual 70, 3) := by decide +kernel
theorem dX9_place_7 : decode cX9_place 7 = .ok (.getfield 193, 3) := by decide +kernel
theorem dX9_place_10 : decode cX9_place 10 = .ok (.astore_n 2, 1) := by decide +kernel
theorem dX9_place_11 : decode cX9_place 11 = .ok (.iload_n 1, 1) := by decide +kernel
theorem dX9_place_12 : decode cX9_place 12 = .ok (.ifCond .lt 11, 3) := by decide +kernel
theorem dX9_place_15 : decode cX9_place 15 = .ok (.iload_n 1, 1) := by decide +kernel
theorem dX9_place_16 : decode cX9_place 16 = .ok (.aload_n 2, 1) := by decide +kernel
theorem dX9_place_17 : decode cX9_place 17 = .ok (.invokevirtual 197, 3) := by decide +kernel
theorem dX9_place_20 : decode cX9_place 20 = .ok (.if_icmp .lt 13, 3) := by decide +kernel
theorem dX9_place_23 : decode cX9_place 23 = .ok (.new 135, 3) := by decide +kernel
theorem dX9_place_26 : decode cX9_place 26 = .ok (.dup, 1) := by decide +kernel
theorem dX9_place_27 : decode cX9_place 27 = .ok (.ldc 248, 2) := by decide +kernel
theorem dX9_place_29 : decode cX9_place 29 = .ok (.invokespecial 139, 3) := by decide +kernel
theorem dX9_place_32 : decode cX9_place 32 = .ok (.athrow, 1) := by decide +kernel
theorem dX9_place_33 : decode cX9_place 33 = .ok (.aload_n 2, 1) := by decide +kernel
theorem dX9_place_34 : decode cX9_place 34 = .ok (.iload_n 1, 1) := by decide +kernel
theorem dX9_place_35 : decode cX9_place 35 = .ok (.invokevirtual 250, 3) := by decide +kernel
theorem dX9_place_38 : decode cX9_place 38 = .ok (.ireturn, 1) := by decide +kernel
theorem dX9_played_0 : decode cX9_played 0 = .ok (.iload_n 1, 1) := by decide +kernel
theorem dX9_played_1 : decode cX9_played 1 = .ok (.invokestatic 90, 3) := by decide +kernel
theorem dX9_played_4 : decode cX9_played 4 = .ok (.iload_n 3, 1) := by decide +kernel
theorem dX9_played_5 : decode cX9_played 5 = .ok (.iconst 0, 1) := by decide +kernel
theorem dX9_played_6 : decode cX9_played 6 = .ok (.iconst 3, 1) := by decide +kernel
theorem dX9_played_7 : decode cX9_played 7 = .ok (.invokestatic 93, 3) := by decide +kernel
theorem dX9_played_10 : decode cX9_played 10 = .ok (.aload_n 0, 1) := by decide +kernel
theorem dX9_played_11 : decode cX9_played 11 = .ok (.getfield 12, 3) := by decide +kernel
theorem dX9_played_14 : decode cX9_played 14 = .ok (.invokevirtual 70, 3) := by decide +kernel
theorem dX9_played_17 : decode cX9_played 17 = .ok (.getfield 108, 3) := by decide +kernel
theorem dX9_played_20 : decode cX9_played 20 = .ok (.astore 4, 2) := by decide +kernel
theorem dX9_played_22 : decode cX9_played 22 = .ok (.aload 4, 2) := by decide +kernel
theorem dX9_played_24 : decode cX9_played 24 = .ok (.iload_n 1, 1) := by decide +kernel
theorem dX9_played_25 : decode cX9_played 25 = .ok (.iload_n 2, 1) := by decide +kernel
theorem dX9_played_26 : decode cX9_played 26 = .ok (.invokevirtual 132, 3) := by decide +kernel
theorem dX9_played_29 : decode cX9_played 29 = .ok (.istore 5, 2) := by decide +kernel
theorem dX9_played_31 : decode cX9_played 31 = .ok (.iload 5, 2) := by decide +kernel
theorem dX9_played_33 : decode cX9_played 33 = .ok (.iconst (-1), 1) := by decide +kernel
theorem dX9_played_34 : decode cX9_played 34 = .ok (.if_icmp .ne 13, 3) := by decide +kernel
theorem dX9_played_37 : decode cX9_played 37 = .ok (.new 135, 3) := by decide +kernel
theorem dX9_played_40 : decode cX9_played 40 = .ok (.dup, 1) := by decide +kernel
theorem dX9_played_41 : decode cX9_played 41 = .ok (.ldc 137, 2) := by decide +kernel
theorem dX9_played_43 : decode cX9_played 43 = .ok (.invokespecial 139, 3) := by decide +kernel
theorem dX9_played_46 : decode cX9_played 46 = .ok (.athrow, 1) := by decide +kernel
theorem dX9_polyphony_0 : decode cX9_polyphony 0 = .ok (.aload_n 0, 1) := by decide +kernel
theorem dX9_polyphony_1 : decode cX9_polyphony 1 = .ok (.aload_n 0, 1) := by decide +kernel
theorem dX9_polyphony_2 : decode cX9_polyphony 2 = .ok (.invokevirtual 177, 3) := by decide +kernel
theorem dX9_polyphony_5 : decode cX9_polyphony 5 = .ok (.invokevirtual 302, 3) := by decide +kernel
theorem dX9_polyphony_8 : decode cX9_polyphony 8 = .ok (.invokevirtual 306, 3) := by decide +kernel
theorem dX9_polyphony_11 : decode cX9_polyphony 11 = .ok (.ireturn, 1) := by decide +kernel
theorem dX9_putAt_0 : decode cX9_putAt 0 = .ok (.iload_n 1, 1) := by decide +kernel
theorem dX9_putAt_1 : decode cX9_putAt 1 = .ok (.ifCond .lt 13, 3) := by decide +kernel
theorem dX9_putAt_4 : decode cX9_putAt 4 = .ok (.iload_n 1, 1) := by decide +kernel
theorem dX9_putAt_5 : decode cX9_putAt 5 = .ok (.aload_n 0, 1) := by decide +kernel
theorem dX9_putAt_6 : decode cX9_putAt 6 = .ok (.arraylength, 1) := by decide +kernel
theorem dX9_putAt_7 : decode cX9_putAt 7 = .ok (.if_icmp .ge 7, 3) := by decide +kernel
theorem dX9_putAt_10 : decode cX9_putAt 10 = .ok (.aload_n 0, 1) := by decide +kernel
theorem dX9_putAt_11 : decode cX9_putAt 11 = .ok (.iload_n 1, 1) := by decide +kernel
theorem dX9_putAt_12 : decode cX9_putAt 12 = .ok (.iload_n 2, 1) := by decide +kernel
theorem dX9_putAt_13 : decode cX9_putAt 13 = .ok (.iastore, 1) := by decide +kernel
theorem dX9_putAt_14 : decode cX9_putAt 14 = .ok (.return_, 1) := by decide +kernel
theorem dX9_putItem_0 : decode cX9_putItem 0 = .ok (.aload_n 0, 1) := by decide +kernel
theorem dX9_putItem_1 : decode cX9_putItem 1 = .ok (.getfield 108, 3) := by decide +kernel
theorem dX9_putItem_4 : decode cX9_putItem 4 = .ok (.iload_n 1, 1) := by decide +kernel
theorem dX9_putItem_5 : decode cX9_putItem 5 = .ok (.iconst 0, 1) := by decide +kernel
theorem dX9_putItem_6 : decode cX9_putItem 6 = .ok (.invokevirtual 124, 3) := by decide +kernel
theorem dX9_putItem_9 : decode cX9_putItem 9 = .ok (.bipush 12, 2) := by decide +kernel
theorem dX9_putItem_11 : decode cX9_putItem 11 = .ok (.if_icmp .lt 14, 3) := by decide +kernel
theorem dX9_putItem_25 : decode cX9_putItem 25 = .ok (.aload_n 0, 1) := by decide +kernel
theorem dX9_putItem_26 : decode cX9_putItem 26 = .ok (.getfield 108, 3) := by decide +kernel
theorem dX9_putItem_29 : decode cX9_putItem 29 = .ok (.iload_n 1, 1) := by decide +kernel
theorem dX9_putItem_30 : decode cX9_putItem 30 = .ok (.iload_n 2, 1) := by decide +kernel
theorem dX9_putItem_31 : decode cX9_putItem 31 = .ok (.iload_n 3, 1) := by decide +kernel
theorem dX9_putItem_32 : decode cX9_putItem 32 = .ok (.iload 4, 2) := by decide +kernel
theorem dX9_putItem_34 : decode cX9_putItem 34 = .ok (.iload 5, 2) := by decide +kernel
theorem dX9_putItem_36 : decode cX9_putItem 36 = .ok (.invokevirtual 399, 3) := by decide +kernel
theorem dX9_putItem_39 : decode cX9_putItem 39 = .ok (.return_, 1) := by decide +kernel
theorem dX9_read_0 : decode cX9_read 0 = .ok (.aload_n 0, 1) := by decide +kernel
theorem dX9_read_1 : decode cX9_read 1 = .ok (.getfield 52, 3) := by decide +kernel
theorem dX9_read_4 : decode cX9_read 4 = .ok (.aload_n 0, 1) := by decide +kernel
theorem dX9_read_5 : decode cX9_read 5 = .ok (.getfield 42, 3) := by decide +kernel
theorem dX9_read_8 : decode cX9_read 8 = .ok (.invokevirtual 351, 3) := by decide +kernel
theorem dX9_read_11 : decode cX9_read 11 = .ok (.istore_n 2, 1) := by decide +kernel
theorem dX9_read_12 : decode cX9_read 12 = .ok (.aload_n 0, 1) := by decide +kernel
theorem dX9_read_13 : decode cX9_read 13 = .ok (.getfield 42, 3) := by decide +kernel
theorem dX9_read_16 : decode cX9_read 16 = .ok (.invokevirtual 87, 3) := by decide +kernel
theorem dX9_read_19 : decode cX9_read 19 = .ok (.iload_n 1, 1) := by decide +kernel
theorem dX9_read_20 : decode cX9_read 20 = .ok (.invokestatic 90, 3) := by decide +kernel
theorem dX9_read_23 : decode cX9_read 23 = .ok (.iload_n 2, 1) := by decide +kernel
theorem dX9_read_24 : decode cX9_read 24 = .ok (.ifCond .ne 25, 3) := by decide +kernel
theorem dX9_read_27 : decode cX9_read 27 = .ok (.aload_n 0, 1) := by decide +kernel
theorem dX9_read_28 : decode cX9_read 28 = .ok (.aload_n 0, 1) := by decide +kernel
theorem dX9_read_29 : decode cX9_read 29 = .ok (.getfield 52, 3) := by decide +kernel
theorem dX9_read_32 : decode cX9_read 32 = .ok (.invokevirtual 355, 3) := by decide +kernel
theorem dX9_read_35 : decode cX9_read 35 = .ok (.putfield 66, 3) := by decide +kernel
theorem dX9_read_38 : decode cX9_read 38 = .ok (.new 211, 3) := by decide +kernel
theorem dX9_read_41 : decode cX9_read 41 = .ok (.dup, 1) := by decide +kernel
theorem dX9_read_42 : decode cX9_read 42 = .ok (.ldc_w 358, 3) := by decide +kernel
theorem dX9_read_45 : decode cX9_read 45 = .ok (.invokespecial 215, 3) := by decide +kernel
theorem dX9_read_48 : decode cX9_read 48 = .ok (.athrow, 1) := by decide +kernel
theorem dX9_removeClip_0 : decode cX9_removeClip 0 = .ok (.aload_n 0, 1) := by decide +kernel
theorem dX9_removeClip_1 : decode cX9_removeClip 1 = .ok (.iload_n 1, 1) := by decide +kernel
theorem dX9_removeClip_2 : decode cX9_removeClip 2 = .ok (.invokevirtual 158, 3) := by decide +kernel
theorem dX9_removeItem_0 : decode cX9_removeItem 0 = .ok (.iload_n 1, 1) := by decide +kernel
theorem dX9_removeItem_1 : decode cX9_removeItem 1 = .ok (.invokestatic 90, 3) := by decide +kernel
theorem dX9_removeItem_4 : decode cX9_removeItem 4 = .ok (.aload_n 0, 1) := by decide +kernel
theorem dX9_removeItem_5 : decode cX9_removeItem 5 = .ok (.iload_n 1, 1) := by decide +kernel
theorem dX9_removeItem_6 : decode cX9_removeItem 6 = .ok (.iload_n 2, 1) := by decide +kernel
theorem dX9_removeItem_7 : decode cX9_removeItem 7 = .ok (.invokevirtual 101, 3) := by decide +kernel
theorem dX9_removeTempo_0 : decode cX9_removeTempo 0 = .ok (.iload_n 1, 1) := by decide +kernel
theorem dX9_removeTempo_1 : decode cX9_removeTempo 1 = .ok (.ifCond .ne 13, 3) := by decide +kernel
theorem dX9_removeTempo_4 : decode cX9_removeTempo 4 = .ok (.new 211, 3) := by decide +kernel
theorem dX9_removeTempo_7 : decode cX9_removeTempo 7 = .ok (.dup, 1) := by decide +kernel
theorem dX9_removeTempo_8 : decode cX9_removeTempo 8 = .ok (.ldc 238, 2) := by decide +kernel
theorem dX9_removeTempo_10 : decode cX9_removeTempo 10 = .ok (.invokespecial 215, 3) := by decide +kernel
theorem dX9_removeTempo_13 : decode cX9_removeTempo 13 = .ok (.athrow, 1) := by decide +kernel
theorem dX9_removeTempo_14 : decode cX9_removeTempo 14 = .ok (.aload_n 0, 1) := by decide +kernel
theorem dX9_removeTempo_15 : decode cX9_removeTempo 15 = .ok (.getfield 12, 3) := by decide +kernel
theorem dX9_removeTempo_18 : decode cX9_removeTempo 18 = .ok (.invokevirtual 105, 3) := by decide +kernel
theorem dX9_removeTempo_21 : decode cX9_removeTempo 21 = .ok (.astore_n 2, 1) := by decide +kernel
theorem dX9_removeTempo_22 : decode cX9_removeTempo 22 = .ok (.aload_n 2, 1) := by decide +kernel
theorem dX9_removeTempo_23 : decode cX9_removeTempo 23 = .ok (.getfield 193, 3) := by decide +kernel
theorem dX9_removeTempo_26 : decode cX9_removeTempo 26 = .ok (.iload_n 1, 1) := by decide +kernel
theorem dX9_removeTempo_27 : decode cX9_removeTempo 27 = .ok (.invokevirtual 227, 3) := by decide +kernel
theorem dX9_removeTempo_30 : decode cX9_removeTempo 30 = .ok (.istore_n 3, 1) := by decide +kernel
theorem dX9_removeTempo_31 : decode cX9_removeTempo 31 = .ok (.iload_n 3, 1) := by decide +kernel
theorem dX9_removeTempo_32 : decode cX9_removeTempo 32 = .ok (.iconst (-1), 1) := by decide +kernel
theorem dX9_removeTempo_33 : decode cX9_removeTempo 33 = .ok (.if_icmp .ne 13, 3) := by decide +kernel
theorem dX9_removeTempo_36 : decode cX9_removeTempo 36 = .ok (.new 135, 3) := by decide +kernel
theorem dX9_removeTempo_39 : decode cX9_removeTempo 39 = .ok (.dup, 1) := by decide +kernel
theorem dX9_removeTempo_40 : decode cX9_removeTempo 40 = .ok (.ldc 240, 2) := by decide +kernel
theorem dX9_removeTempo_42 : decode cX9_removeTempo 42 = .ok (.invokespecial 139, 3) := by decide +kernel
theorem dX9_removeTempo_45 : decode cX9_removeTempo 45 = .ok (.athrow, 1) := by decide +kernel
theorem dX9_requireClip_0 : decode cX9_requireClip 0 = .ok (.iload_n 1, 1) := by decide +kernel
theorem dX9_requireClip_1 : decode cX9_requireClip 1 = .ok (.aload_n 0, 1) := by decide +kernel
theorem dX9_requireClip_2 : decode cX9_requireClip 2 = .ok (.getfield 12, 3) := by decide +kernel
theorem dX9_requireClip_5 : decode cX9_requireClip 5 = .ok (.invokevirtual 70, 3) := by decide +kernel
theorem dX9_requireClip_8 : decode cX9_requireClip 8 = .ok (.invokevirtual 74, 3) := by decide +kernel
theorem dX9_requireClip_11 : decode cX9_requireClip 11 = .ok (.invokestatic 216, 3) := by decide +kernel
theorem dX9_requireIndex_0 : decode cX9_requireIndex 0 = .ok (.iload_n 0, 1) := by decide +kernel
theorem dX9_requireIndex_1 : decode cX9_requireIndex 1 = .ok (.ifCond .lt 8, 3) := by decide +kernel
theorem dX9_requireIndex_4 : decode cX9_requireIndex 4 = .ok (.iload_n 0, 1) := by decide +kernel
theorem dX9_requireIndex_5 : decode cX9_requireIndex 5 = .ok (.iload_n 1, 1) := by decide +kernel
theorem dX9_requireIndex_6 : decode cX9_requireIndex 6 = .ok (.if_icmp .lt 14, 3) := by decide +kernel
theorem dX9_requireIndex_9 : decode cX9_requireIndex 9 = .ok (.new 320, 3) := by decide +kernel
theorem dX9_requireIndex_12 : decode cX9_requireIndex 12 = .ok (.dup, 1) := by decide +kernel
theorem dX9_requireIndex_13 : decode cX9_requireIndex 13 = .ok (.ldc_w 425, 3) := by decide +kernel
theorem dX9_requireIndex_16 : decode cX9_requireIndex 16 = .ok (.invokespecial 324, 3) := by decide +kernel
theorem dX9_requireIndex_19 : decode cX9_requireIndex 19 = .ok (.athrow, 1) := by decide +kernel
theorem dX9_requireIndex_20 : decode cX9_requireIndex 20 = .ok (.return_, 1) := by decide +kernel
theorem dX9_requireInstrument_0 : decode cX9_requireInstrument 0 = .ok (.iload_n 0, 1) := by decide +kernel
theorem dX9_requireInstrument_1 : decode cX9_requireInstrument 1 = .ok (.iconst 4, 1) := by decide +kernel
theorem dX9_requireInstrument_2 : decode cX9_requireInstrument 2 = .ok (.invokestatic 216, 3) := by decide +kernel
theorem dX9_requireInstrument_5 : decode cX9_requireInstrument 5 = .ok (.return_, 1) := by decide +kernel
theorem dX9_requireItem_0 : decode cX9_requireItem 0 = .ok (.iload_n 2, 1) := by decide +kernel
theorem dX9_requireItem_1 : decode cX9_requireItem 1 = .ok (.aload_n 0, 1) := by decide +kernel
theorem dX9_requireItem_2 : decode cX9_requireItem 2 = .ok (.getfield 12, 3) := by decide +kernel
theorem dX9_requireItem_5 : decode cX9_requireItem 5 = .ok (.invokevirtual 70, 3) := by decide +kernel
theorem dX9_requireItem_8 : decode cX9_requireItem 8 = .ok (.getfield 108, 3) := by decide +kernel
theorem dX9_requireItem_11 : decode cX9_requireItem 11 = .ok (.iload_n 1, 1) := by decide +kernel
theorem dX9_requireItem_12 : decode cX9_requireItem 12 = .ok (.iconst 0, 1) := by decide +kernel
theorem dX9_requireItem_13 : decode cX9_requireItem 13 = .ok (.invokevirtual 124, 3) := by decide +kernel
theorem dX9_requireItem_16 : decode cX9_requireItem 16 = .ok (.invokestatic 216, 3) := by decide +kernel
theorem dX9_requirePattern_0 : decode cX9_requirePattern 0 = .ok (.iload_n 0, 1) := by decide +kernel
theorem dX9_requirePattern_1 : decode cX9_requirePattern 1 = .ok (.bipush 8, 2) := by decide +kernel
theorem dX9_requirePattern_3 : decode cX9_requirePattern 3 = .ok (.invokestatic 216, 3) := by decide +kernel
theorem dX9_requirePattern_6 : decode cX9_requirePattern 6 = .ok (.return_, 1) := by decide +kernel
theorem dX9_requireRange_0 : decode cX9_requireRange 0 = .ok (.iload_n 0, 1) := by decide +kernel
theorem dX9_requireRange_1 : decode cX9_requireRange 1 = .ok (.iload_n 1, 1) := by decide +kernel
theorem dX9_requireRange_2 : decode cX9_requireRange 2 = .ok (.if_icmp .lt 8, 3) := by decide +kernel
theorem dX9_requireRange_5 : decode cX9_requireRange 5 = .ok (.iload_n 0, 1) := by decide +kernel
theorem dX9_requireRange_6 : decode cX9_requireRange 6 = .ok (.iload_n 2, 1) := by decide +kernel
theorem dX9_requireRange_7 : decode cX9_requireRange 7 = .ok (.if_icmp .le 14, 3) := by decide +kernel
theorem dX9_requireRange_10 : decode cX9_requireRange 10 = .ok (.new 211, 3) := by decide +kernel
theorem dX9_requireRange_13 : decode cX9_requireRange 13 = .ok (.dup, 1) := by decide +kernel
theorem dX9_requireRange_14 : decode cX9_requireRange 14 = .ok (.ldc_w 422, 3) := by decide +kernel
theorem dX9_requireRange_17 : decode cX9_requireRange 17 = .ok (.invokespecial 215, 3) := by decide +kernel
theorem dX9_requireRange_20 : decode cX9_requireRange 20 = .ok (.athrow, 1) := by decide +kernel
theorem dX9_requireRange_21 : decode cX9_requireRange 21 = .ok (.return_, 1) := by decide +kernel
theorem dX9_requireTime_0 : decode cX9_requireTime 0 = .ok (.iload_n 0, 1) := by decide +kernel
theorem dX9_requireTime_1 : decode cX9_requireTime 1 = .ok (.iconst 0, 1) := by decide +kernel
theorem dX9_requireTime_2 : decode cX9_requireTime 2 = .ok (.ldc_w 424, 3) := by decide +kernel
theorem dX9_requireTime_5 : decode cX9_requireTime 5 = .ok (.invokestatic 93, 3) := by decide +kernel
theorem dX9_requireTime_8 : decode cX9_requireTime 8 = .ok (.return_, 1) := by decide +kernel
theorem dX9_requireVoice_0 : decode cX9_requireVoice 0 = .ok (.iload_n 1, 1) := by decide +kernel
theorem dX9_requireVoice_1 : decode cX9_requireVoice 1 = .ok (.aload_n 0, 1) := by decide +kernel
theorem dX9_requireVoice_2 : decode cX9_requireVoice 2 = .ok (.getfield 12, 3) := by decide +kernel
theorem dX9_requireVoice_5 : decode cX9_requireVoice 5 = .ok (.invokevirtual 70, 3) := by decide +kernel
theorem dX9_requireVoice_8 : decode cX9_requireVoice 8 = .ok (.getfield 190, 3) := by decide +kernel
theorem dX9_requireVoice_11 : decode cX9_requireVoice 11 = .ok (.invokestatic 216, 3) := by decide +kernel
theorem dX9_requireVoice_14 : decode cX9_requireVoice 14 = .ok (.return_, 1) := by decide +kernel
theorem dX9_restore_0 : decode cX9_restore 0 = .ok (.aload_n 0, 1) := by decide +kernel
theorem dX9_restore_1 : decode cX9_restore 1 = .ok (.getfield 56, 3) := by decide +kernel
theorem dX9_restore_4 : decode cX9_restore 4 = .ok (.ifCond .ne 14, 3) := by decide +kernel
theorem dX9_restore_7 : decode cX9_restore 7 = .ok (.new 145, 3) := by decide +kernel
theorem dX9_restore_10 : decode cX9_restore 10 = .ok (.dup, 1) := by decide +kernel
theorem dX9_restore_11 : decode cX9_restore 11 = .ok (.ldc_w 395, 3) := by decide +kernel
theorem dX9_restore_14 : decode cX9_restore 14 = .ok (.invokespecial 149, 3) := by decide +kernel
theorem dX9_restore_17 : decode cX9_restore 17 = .ok (.athrow, 1) := by decide +kernel
theorem dX9_save_0 : decode cX9_save 0 = .ok (.aload_n 0, 1) := by decide +kernel
theorem dX9_save_1 : decode cX9_save 1 = .ok (.getfield 19, 3) := by decide +kernel
theorem dX9_save_4 : decode cX9_save 4 = .ok (.aload_n 0, 1) := by decide +kernel
theorem dX9_save_5 : decode cX9_save 5 = .ok (.getfield 12, 3) := by decide +kernel
theorem dX9_save_8 : decode cX9_save 8 = .ok (.invokevirtual 70, 3) := by decide +kernel
theorem dX9_save_11 : decode cX9_save 11 = .ok (.invokevirtual 392, 3) := by decide +kernel
theorem dX9_save_14 : decode cX9_save 14 = .ok (.aload_n 0, 1) := by decide +kernel
theorem dX9_save_15 : decode cX9_save 15 = .ok (.iconst 1, 1) := by decide +kernel
theorem dX9_save_16 : decode cX9_save 16 = .ok (.putfield 56, 3) := by decide +kernel
theorem dX9_save_19 : decode cX9_save 19 = .ok (.aload_n 0, 1) := by decide +kernel
theorem dX9_save_20 : decode cX9_save 20 = .ok (.getfield 19, 3) := by decide +kernel
theorem dX9_save_23 : decode cX9_save 23 = .ok (.invokevirtual 74, 3) := by decide +kernel
theorem dX9_save_26 : decode cX9_save 26 = .ok (.ireturn, 1) := by decide +kernel
theorem dX9_setEnvelope_0 : decode cX9_setEnvelope 0 = .ok (.iload_n 1, 1) := by decide +kernel
theorem dX9_setEnvelope_1 : decode cX9_setEnvelope 1 = .ok (.invokestatic 265, 3) := by decide +kernel
theorem dX9_setEnvelope_4 : decode cX9_setEnvelope 4 = .ok (.iload_n 2, 1) := by decide +kernel
theorem dX9_setEnvelope_5 : decode cX9_setEnvelope 5 = .ok (.iconst 0, 1) := by decide +kernel
theorem dX9_setEnvelope_6 : decode cX9_setEnvelope 6 = .ok (.sipush 5000, 3) := by decide +kernel
theorem dX9_setEnvelope_9 : decode cX9_setEnvelope 9 = .ok (.invokestatic 93, 3) := by decide +kernel
theorem dX9_setEnvelope_12 : decode cX9_setEnvelope 12 = .ok (.iload_n 3, 1) := by decide +kernel
theorem dX9_setEnvelope_13 : decode cX9_setEnvelope 13 = .ok (.iconst 0, 1) := by decide +kernel
theorem dX9_setEnvelope_14 : decode cX9_setEnvelope 14 = .ok (.sipush 5000, 3) := by decide +kernel
theorem dX9_setEnvelope_17 : decode cX9_setEnvelope 17 = .ok (.invokestatic 93, 3) := by decide +kernel
theorem dX9_setEnvelope_20 : decode cX9_setEnvelope 20 = .ok (.iload 4, 2) := by decide +kernel
theorem dX9_setEnvelope_22 : decode cX9_setEnvelope 22 = .ok (.iconst 0, 1) := by decide +kernel
theorem dX9_setEnvelope_23 : decode cX9_setEnvelope 23 = .ok (.bipush 100, 2) := by decide +kernel
theorem dX9_setEnvelope_25 : decode cX9_setEnvelope 25 = .ok (.invokestatic 93, 3) := by decide +kernel
theorem dX9_setEnvelope_28 : decode cX9_setEnvelope 28 = .ok (.iload 5, 2) := by decide +kernel
theorem dX9_setEnvelope_30 : decode cX9_setEnvelope 30 = .ok (.iconst 0, 1) := by decide +kernel
theorem dX9_setEnvelope_31 : decode cX9_setEnvelope 31 = .ok (.sipush 5000, 3) := by decide +kernel
theorem dX9_setEnvelope_34 : decode cX9_setEnvelope 34 = .ok (.invokestatic 93, 3) := by decide +kernel
theorem dX9_setEnvelope_37 : decode cX9_setEnvelope 37 = .ok (.aload_n 0, 1) := by decide +kernel
theorem dX9_setEnvelope_38 : decode cX9_setEnvelope 38 = .ok (.getfield 12, 3) := by decide +kernel
theorem dX9_setEnvelope_41 : decode cX9_setEnvelope 41 = .ok (.invokevirtual 105, 3) := by decide +kernel
theorem dX9_setEnvelope_44 : decode cX9_setEnvelope 44 = .ok (.astore 6, 2) := by decide +kernel
theorem dX9_setEnvelope_46 : decode cX9_setEnvelope 46 = .ok (.aload 6, 2) := by decide +kernel
theorem dX9_setEnvelope_48 : decode cX9_setEnvelope 48 = .ok (.iload_n 1, 1) := by decide +kernel
theorem dX9_setEnvelope_49 : decode cX9_setEnvelope 49 = .ok (.iload_n 2, 1) := by decide +kernel
theorem dX9_setEnvelope_50 : decode cX9_setEnvelope 50 = .ok (.iload_n 3, 1) := by decide +kernel
theorem dX9_setEnvelope_51 : decode cX9_setEnvelope 51 = .ok (.iload 4, 2) := by decide +kernel
theorem dX9_setEnvelope_53 : decode cX9_setEnvelope 53 = .ok (.iload 5, 2) := by decide +kernel
theorem dX9_setEnvelope_55 : decode cX9_setEnvelope 55 = .ok (.invokevirtual 268, 3) := by decide +kernel
theorem dX9_setEnvelope_58 : decode cX9_setEnvelope 58 = .ok (.aload_n 0, 1) := by decide +kernel
theorem dX9_setEnvelope_59 : decode cX9_setEnvelope 59 = .ok (.invokevirtual 121, 3) := by decide +kernel
theorem dX9_setEnvelope_62 : decode cX9_setEnvelope 62 = .ok (.aload 6, 2) := by decide +kernel
theorem dX9_setEnvelope_64 : decode cX9_setEnvelope 64 = .ok (.iload_n 1, 1) := by decide +kernel
theorem dX9_setEnvelope_65 : decode cX9_setEnvelope 65 = .ok (.invokevirtual 271, 3) := by decide +kernel
theorem dX9_setEnvelope_68 : decode cX9_setEnvelope 68 = .ok (.ireturn, 1) := by decide +kernel
theorem dX9_setPriority_0 : decode cX9_setPriority 0 = .ok (.iload_n 1, 1) := by decide +kernel
theorem dX9_setPriority_1 : decode cX9_setPriority 1 = .ok (.invokestatic 265, 3) := by decide +kernel
theorem dX9_setPriority_4 : decode cX9_setPriority 4 = .ok (.iload_n 2, 1) := by decide +kernel
theorem dX9_setPriority_5 : decode cX9_setPriority 5 = .ok (.iconst 0, 1) := by decide +kernel
theorem dX9_setPriority_6 : decode cX9_setPriority 6 = .ok (.bipush 9, 2) := by decide +kernel
theorem dX9_setPriority_8 : decode cX9_setPriority 8 = .ok (.invokestatic 93, 3) := by decide +kernel
theorem dX9_setPriority_11 : decode cX9_setPriority 11 = .ok (.aload_n 0, 1) := by decide +kernel
theorem dX9_setPriority_12 : decode cX9_setPriority 12 = .ok (.getfield 12, 3) := by decide +kernel
theorem dX9_setPriority_15 : decode cX9_setPriority 15 = .ok (.invokevirtual 105, 3) := by decide +kernel
theorem dX9_setPriority_18 : decode cX9_setPriority 18 = .ok (.astore_n 3, 1) := by decide +kernel
theorem dX9_setPriority_19 : decode cX9_setPriority 19 = .ok (.aload_n 3, 1) := by decide +kernel
theorem dX9_setPriority_20 : decode cX9_setPriority 20 = .ok (.iload_n 1, 1) := by decide +kernel
theorem dX9_setPriority_21 : decode cX9_setPriority 21 = .ok (.iconst 4, 1) := by decide +kernel
theorem dX9_setPriority_22 : decode cX9_setPriority 22 = .ok (.invokevirtual 274, 3) := by decide +kernel
theorem dX9_setPriority_25 : decode cX9_setPriority 25 = .ok (.istore 4, 2) := by decide +kernel
theorem dX9_setPriority_27 : decode cX9_setPriority 27 = .ok (.aload_n 3, 1) := by decide +kernel
theorem dX9_setPriority_28 : decode cX9_setPriority 28 = .ok (.iload_n 1, 1) := by decide +kernel
theorem dX9_setPriority_29 : decode cX9_setPriority 29 = .ok (.iconst 4, 1) := by decide +kernel
theorem dX9_setPriority_30 : decode cX9_setPriority 30 = .ok (.iload_n 2, 1) := by decide +kernel
theorem dX9_setPriority_31 : decode cX9_setPriority 31 = .ok (.invokevirtual 277, 3) := by decide +kernel
theorem dX9_setPriority_34 : decode cX9_setPriority 34 = .ok (.aload_n 0, 1) := by decide +kernel
theorem dX9_setPriority_35 : decode cX9_setPriority 35 = .ok (.invokevirtual 121, 3) := by decide +kernel
theorem dX9_setPriority_38 : decode cX9_setPriority 38 = .ok (.iload 4, 2) := by decide +kernel
theorem dX9_setPriority_40 : decode cX9_setPriority 40 = .ok (.ireturn, 1) := by decide +kernel
theorem dX9_setRule_0 : decode cX9_setRule 0 = .ok (.iload_n 1, 1) := by decide +kernel
theorem dX9_setRule_1 : decode cX9_setRule 1 = .ok (.iconst 0, 1) := by decide +kernel
theorem dX9_setRule_2 : decode cX9_setRule 2 = .ok (.iconst 2, 1) := by decide +kernel
theorem dX9_setRule_3 : decode cX9_setRule 3 = .ok (.invokestatic 93, 3) := by decide +kernel
theorem dX9_setRule_6 : decode cX9_setRule 6 = .ok (.aload_n 0, 1) := by decide +kernel
theorem dX9_setRule_7 : decode cX9_setRule 7 = .ok (.getfield 12, 3) := by decide +kernel
theorem dX9_setRule_10 : decode cX9_setRule 10 = .ok (.invokevirtual 105, 3) := by decide +kernel
theorem dX9_setRule_13 : decode cX9_setRule 13 = .ok (.astore_n 2, 1) := by decide +kernel
theorem dX9_setRule_14 : decode cX9_setRule 14 = .ok (.aload_n 2, 1) := by decide +kernel
theorem dX9_setRule_15 : decode cX9_setRule 15 = .ok (.getfield 205, 3) := by decide +kernel
theorem dX9_setRule_18 : decode cX9_setRule 18 = .ok (.istore_n 3, 1) := by decide +kernel
theorem dX9_setRule_19 : decode cX9_setRule 19 = .ok (.aload_n 2, 1) := by decide +kernel
theorem dX9_setRule_20 : decode cX9_setRule 20 = .ok (.iload_n 1, 1) := by decide +kernel
theorem dX9_setRule_21 : decode cX9_setRule 21 = .ok (.putfield 205, 3) := by decide +kernel
theorem dX9_setRule_24 : decode cX9_setRule 24 = .ok (.aload_n 0, 1) := by decide +kernel
theorem dX9_setRule_25 : decode cX9_setRule 25 = .ok (.invokevirtual 121, 3) := by decide +kernel
theorem dX9_setRule_28 : decode cX9_setRule 28 = .ok (.iload_n 3, 1) := by decide +kernel
theorem dX9_setRule_29 : decode cX9_setRule 29 = .ok (.ireturn, 1) := by decide +kernel
theorem dX9_setSwing_0 : decode cX9_setSwing 0 = .ok (.iload_n 1, 1) := by decide +kernel
theorem dX9_setSwing_1 : decode cX9_setSwing 1 = .ok (.iconst 0, 1) := by decide +kernel
theorem dX9_setSwing_2 : decode cX9_setSwing 2 = .ok (.bipush 50, 2) := by decide +kernel
theorem dX9_setSwing_4 : decode cX9_setSwing 4 = .ok (.invokestatic 93, 3) := by decide +kernel
theorem dX9_setSwing_7 : decode cX9_setSwing 7 = .ok (.aload_n 0, 1) := by decide +kernel
theorem dX9_setSwing_8 : decode cX9_setSwing 8 = .ok (.getfield 12, 3) := by decide +kernel
theorem dX9_setSwing_11 : decode cX9_setSwing 11 = .ok (.invokevirtual 105, 3) := by decide +kernel
theorem dX9_setSwing_14 : decode cX9_setSwing 14 = .ok (.astore_n 2, 1) := by decide +kernel
theorem dX9_setSwing_15 : decode cX9_setSwing 15 = .ok (.aload_n 2, 1) := by decide +kernel
theorem dX9_setSwing_16 : decode cX9_setSwing 16 = .ok (.getfield 193, 3) := by decide +kernel
theorem dX9_setSwing_19 : decode cX9_setSwing 19 = .ok (.getfield 202, 3) := by decide +kernel
theorem dX9_setSwing_22 : decode cX9_setSwing 22 = .ok (.istore_n 3, 1) := by decide +kernel
theorem dX9_setSwing_23 : decode cX9_setSwing 23 = .ok (.aload_n 2, 1) := by decide +kernel
theorem dX9_setSwing_24 : decode cX9_setSwing 24 = .ok (.getfield 193, 3) := by decide +kernel
theorem dX9_setSwing_27 : decode cX9_setSwing 27 = .ok (.iload_n 1, 1) := by decide +kernel
theorem dX9_setSwing_28 : decode cX9_setSwing 28 = .ok (.putfield 202, 3) := by decide +kernel
theorem dX9_setSwing_31 : decode cX9_setSwing 31 = .ok (.aload_n 0, 1) := by decide +kernel
theorem dX9_setSwing_32 : decode cX9_setSwing 32 = .ok (.invokevirtual 121, 3) := by decide +kernel
theorem dX9_setSwing_35 : decode cX9_setSwing 35 = .ok (.iload_n 3, 1) := by decide +kernel
theorem dX9_setSwing_36 : decode cX9_setSwing 36 = .ok (.ireturn, 1) := by decide +kernel
theorem dX9_setTempo_0 : decode cX9_setTempo 0 = .ok (.iload_n 1, 1) := by decide +kernel
theorem dX9_setTempo_1 : decode cX9_setTempo 1 = .ok (.iconst 0, 1) := by decide +kernel
theorem dX9_setTempo_2 : decode cX9_setTempo 2 = .ok (.sipush 30000, 3) := by decide +kernel
theorem dX9_setTempo_5 : decode cX9_setTempo 5 = .ok (.invokestatic 93, 3) := by decide +kernel
theorem dX9_setTempo_8 : decode cX9_setTempo 8 = .ok (.iload_n 2, 1) := by decide +kernel
theorem dX9_setTempo_9 : decode cX9_setTempo 9 = .ok (.iconst 1, 1) := by decide +kernel
theorem dX9_setTempo_10 : decode cX9_setTempo 10 = .ok (.sipush 1000, 3) := by decide +kernel
theorem dX9_setTempo_13 : decode cX9_setTempo 13 = .ok (.invokestatic 93, 3) := by decide +kernel
theorem dX9_setTempo_16 : decode cX9_setTempo 16 = .ok (.aload_n 0, 1) := by decide +kernel
theorem dX9_setTempo_17 : decode cX9_setTempo 17 = .ok (.getfield 12, 3) := by decide +kernel
theorem dX9_setTempo_20 : decode cX9_setTempo 20 = .ok (.invokevirtual 105, 3) := by decide +kernel
theorem dX9_setTempo_23 : decode cX9_setTempo 23 = .ok (.astore_n 3, 1) := by decide +kernel
theorem dX9_setTempo_24 : decode cX9_setTempo 24 = .ok (.aload_n 3, 1) := by decide +kernel
theorem dX9_setTempo_25 : decode cX9_setTempo 25 = .ok (.getfield 193, 3) := by decide +kernel
theorem dX9_setTempo_28 : decode cX9_setTempo 28 = .ok (.iload_n 1, 1) := by decide +kernel
theorem dX9_setTempo_29 : decode cX9_setTempo 29 = .ok (.invokevirtual 227, 3) := by decide +kernel
theorem dX9_setTempo_32 : decode cX9_setTempo 32 = .ok (.istore 4, 2) := by decide +kernel
theorem dX9_setTempo_34 : decode cX9_setTempo 34 = .ok (.iload 4, 2) := by decide +kernel
theorem dX9_setTempo_36 : decode cX9_setTempo 36 = .ok (.iconst (-1), 1) := by decide +kernel
theorem dX9_setTempo_37 : decode cX9_setTempo 37 = .ok (.if_icmp .eq 16, 3) := by decide +kernel
theorem dX9_setTempo_40 : decode cX9_setTempo 40 = .ok (.aload_n 3, 1) := by decide +kernel
theorem dX9_setTempo_41 : decode cX9_setTempo 41 = .ok (.getfield 193, 3) := by decide +kernel
theorem dX9_setTempo_44 : decode cX9_setTempo 44 = .ok (.iload 4, 2) := by decide +kernel
theorem dX9_setTempo_46 : decode cX9_setTempo 46 = .ok (.iload_n 2, 1) := by decide +kernel
theorem dX9_setTempo_47 : decode cX9_setTempo 47 = .ok (.invokevirtual 230, 3) := by decide +kernel
theorem dX9_setTempo_50 : decode cX9_setTempo 50 = .ok (.goto 37, 3) := by decide +kernel
theorem dX9_setTempo_53 : decode cX9_setTempo 53 = .ok (.aload_n 3, 1) := by decide +kernel
theorem dX9_setTempo_54 : decode cX9_setTempo 54 = .ok (.getfield 193, 3) := by decide +kernel
theorem dX9_setTempo_57 : decode cX9_setTempo 57 = .ok (.invokevirtual 197, 3) := by decide +kernel
theorem dX9_setTempo_60 : decode cX9_setTempo 60 = .ok (.bipush 10, 2) := by decide +kernel
theorem dX9_setTempo_62 : decode cX9_setTempo 62 = .ok (.if_icmp .ge 15, 3) := by decide +kernel
theorem dX9_setTempo_65 : decode cX9_setTempo 65 = .ok (.aload_n 3, 1) := by decide +kernel
theorem dX9_setTempo_66 : decode cX9_setTempo 66 = .ok (.getfield 193, 3) := by decide +kernel
theorem dX9_setTempo_69 : decode cX9_setTempo 69 = .ok (.iload_n 1, 1) := by decide +kernel
theorem dX9_setTempo_70 : decode cX9_setTempo 70 = .ok (.iload_n 2, 1) := by decide +kernel
theorem dX9_setTempo_71 : decode cX9_setTempo 71 = .ok (.invokevirtual 233, 3) := by decide +kernel
theorem dX9_setTempo_74 : decode cX9_setTempo 74 = .ok (.goto 13, 3) := by decide +kernel
theorem dX9_setTempo_87 : decode cX9_setTempo 87 = .ok (.aload_n 0, 1) := by decide +kernel
theorem dX9_setTempo_88 : decode cX9_setTempo 88 = .ok (.invokevirtual 121, 3) := by decide +kernel
theorem dX9_setTempo_91 : decode cX9_setTempo 91 = .ok (.aload_n 3, 1) := by decide +kernel
theorem dX9_setTempo_92 : decode cX9_setTempo 92 = .ok (.getfield 193, 3) := by decide +kernel
theorem dX9_setTempo_95 : decode cX9_setTempo 95 = .ok (.invokevirtual 197, 3) := by decide +kernel
theorem dX9_setTempo_98 : decode cX9_setTempo 98 = .ok (.ireturn, 1) := by decide +kernel
theorem dX9_setVoices_0 : decode cX9_setVoices 0 = .ok (.iload_n 1, 1) := by decide +kernel
theorem dX9_setVoices_1 : decode cX9_setVoices 1 = .ok (.iconst 1, 1) := by decide +kernel
theorem dX9_setVoices_2 : decode cX9_setVoices 2 = .ok (.bipush 8, 2) := by decide +kernel
theorem dX9_setVoices_4 : decode cX9_setVoices 4 = .ok (.invokestatic 93, 3) := by decide +kernel
theorem dX9_setVoices_7 : decode cX9_setVoices 7 = .ok (.aload_n 0, 1) := by decide +kernel
theorem dX9_setVoices_8 : decode cX9_setVoices 8 = .ok (.getfield 12, 3) := by decide +kernel
theorem dX9_setVoices_11 : decode cX9_setVoices 11 = .ok (.invokevirtual 105, 3) := by decide +kernel
theorem dX9_setVoices_14 : decode cX9_setVoices 14 = .ok (.astore_n 2, 1) := by decide +kernel
theorem dX9_setVoices_15 : decode cX9_setVoices 15 = .ok (.aload_n 2, 1) := by decide +kernel
theorem dX9_setVoices_16 : decode cX9_setVoices 16 = .ok (.getfield 190, 3) := by decide +kernel
theorem dX9_setVoices_19 : decode cX9_setVoices 19 = .ok (.istore_n 3, 1) := by decide +kernel
theorem dX9_setVoices_20 : decode cX9_setVoices 20 = .ok (.aload_n 2, 1) := by decide +kernel
theorem dX9_setVoices_21 : decode cX9_setVoices 21 = .ok (.iload_n 1, 1) := by decide +kernel
theorem dX9_setVoices_22 : decode cX9_setVoices 22 = .ok (.putfield 190, 3) := by decide +kernel
theorem dX9_setVoices_25 : decode cX9_setVoices 25 = .ok (.aload_n 0, 1) := by decide +kernel
theorem dX9_setVoices_26 : decode cX9_setVoices 26 = .ok (.invokevirtual 121, 3) := by decide +kernel
theorem dX9_setVoices_29 : decode cX9_setVoices 29 = .ok (.iload_n 3, 1) := by decide +kernel
theorem dX9_setVoices_30 : decode cX9_setVoices 30 = .ok (.ireturn, 1) := by decide +kernel
theorem dX9_sounding_0 : decode cX9_sounding 0 = .ok (.iload_n 1, 1) := by decide +kernel
theorem dX9_sounding_1 : decode cX9_sounding 1 = .ok (.invokestatic 259, 3) := by decide +kernel
theorem dX9_sounding_4 : decode cX9_sounding 4 = .ok (.aload_n 0, 1) := by decide +kernel
theorem dX9_sounding_5 : decode cX9_sounding 5 = .ok (.invokevirtual 177, 3) := by decide +kernel
theorem dX9_sounding_8 : decode cX9_sounding 8 = .ok (.iload_n 1, 1) := by decide +kernel
theorem dX9_sounding_9 : decode cX9_sounding 9 = .ok (.invokevirtual 291, 3) := by decide +kernel
theorem dX9_sounding_12 : decode cX9_sounding 12 = .ok (.ireturn, 1) := by decide +kernel
theorem dX9_tempo_0 : decode cX9_tempo 0 = .ok (.iload_n 1, 1) := by decide +kernel
theorem dX9_tempo_1 : decode cX9_tempo 1 = .ok (.iconst 0, 1) := by decide +kernel
theorem dX9_tempo_2 : decode cX9_tempo 2 = .ok (.sipush 30000, 3) := by decide +kernel
theorem dX9_tempo_5 : decode cX9_tempo 5 = .ok (.invokestatic 93, 3) := by decide +kernel
theorem dX9_tempo_8 : decode cX9_tempo 8 = .ok (.aload_n 0, 1) := by decide +kernel
theorem dX9_tempo_9 : decode cX9_tempo 9 = .ok (.getfield 12, 3) := by decide +kernel
theorem dX9_tempo_12 : decode cX9_tempo 12 = .ok (.invokevirtual 70, 3) := by decide +kernel
theorem dX9_tempo_15 : decode cX9_tempo 15 = .ok (.getfield 193, 3) := by decide +kernel
theorem dX9_tempo_18 : decode cX9_tempo 18 = .ok (.iload_n 1, 1) := by decide +kernel
theorem dX9_tempo_19 : decode cX9_tempo 19 = .ok (.invokevirtual 245, 3) := by decide +kernel
theorem dX9_tempo_22 : decode cX9_tempo 22 = .ok (.ireturn, 1) := by decide +kernel
theorem dX9_tickAt_0 : decode cX9_tickAt 0 = .ok (.iload_n 1, 1) := by decide +kernel
theorem dX9_tickAt_1 : decode cX9_tickAt 1 = .ok (.invokestatic 259, 3) := by decide +kernel
theorem dX9_tickAt_4 : decode cX9_tickAt 4 = .ok (.aload_n 0, 1) := by decide +kernel
theorem dX9_tickAt_5 : decode cX9_tickAt 5 = .ok (.getfield 12, 3) := by decide +kernel
theorem dX9_tickAt_8 : decode cX9_tickAt 8 = .ok (.invokevirtual 70, 3) := by decide +kernel
theorem dX9_tickAt_11 : decode cX9_tickAt 11 = .ok (.getfield 193, 3) := by decide +kernel
theorem dX9_tickAt_14 : decode cX9_tickAt 14 = .ok (.iload_n 1, 1) := by decide +kernel
theorem dX9_tickAt_15 : decode cX9_tickAt 15 = .ok (.invokevirtual 262, 3) := by decide +kernel
theorem dX9_tickAt_18 : decode cX9_tickAt 18 = .ok (.ireturn, 1) := by decide +kernel
theorem dX9_timeOf_0 : decode cX9_timeOf 0 = .ok (.iload_n 1, 1) := by decide +kernel
theorem dX9_timeOf_1 : decode cX9_timeOf 1 = .ok (.iconst 0, 1) := by decide +kernel
theorem dX9_timeOf_2 : decode cX9_timeOf 2 = .ok (.sipush 30000, 3) := by decide +kernel
theorem dX9_timeOf_5 : decode cX9_timeOf 5 = .ok (.invokestatic 93, 3) := by decide +kernel
theorem dX9_timeOf_8 : decode cX9_timeOf 8 = .ok (.aload_n 0, 1) := by decide +kernel
theorem dX9_timeOf_9 : decode cX9_timeOf 9 = .ok (.getfield 12, 3) := by decide +kernel
theorem dX9_timeOf_12 : decode cX9_timeOf 12 = .ok (.invokevirtual 70, 3) := by decide +kernel
theorem dX9_timeOf_15 : decode cX9_timeOf 15 = .ok (.getfield 193, 3) := by decide +kernel
theorem dX9_timeOf_18 : decode cX9_timeOf 18 = .ok (.astore_n 3, 1) := by decide +kernel
theorem dX9_timeOf_19 : decode cX9_timeOf 19 = .ok (.iload_n 2, 1) := by decide +kernel
theorem dX9_timeOf_20 : decode cX9_timeOf 20 = .ok (.ifCond .eq 11, 3) := by decide +kernel
theorem dX9_timeOf_23 : decode cX9_timeOf 23 = .ok (.aload_n 3, 1) := by decide +kernel
theorem dX9_timeOf_24 : decode cX9_timeOf 24 = .ok (.iload_n 1, 1) := by decide +kernel
theorem dX9_timeOf_25 : decode cX9_timeOf 25 = .ok (.invokevirtual 253, 3) := by decide +kernel
theorem dX9_timeOf_28 : decode cX9_timeOf 28 = .ok (.goto 8, 3) := by decide +kernel
theorem dX9_timeOf_31 : decode cX9_timeOf 31 = .ok (.aload_n 3, 1) := by decide +kernel
theorem dX9_timeOf_32 : decode cX9_timeOf 32 = .ok (.iload_n 1, 1) := by decide +kernel
theorem dX9_timeOf_33 : decode cX9_timeOf 33 = .ok (.invokevirtual 256, 3) := by decide +kernel
theorem dX9_timeOf_36 : decode cX9_timeOf 36 = .ok (.ireturn, 1) := by decide +kernel
theorem dX9_undo_0 : decode cX9_undo 0 = .ok (.aload_n 0, 1) := by decide +kernel
theorem dX9_undo_1 : decode cX9_undo 1 = .ok (.getfield 12, 3) := by decide +kernel
theorem dX9_undo_4 : decode cX9_undo 4 = .ok (.invokevirtual 384, 3) := by decide +kernel
theorem dX9_undo_7 : decode cX9_undo 7 = .ok (.ifCond .gt 14, 3) := by decide +kernel
theorem dX9_undo_10 : decode cX9_undo 10 = .ok (.new 135, 3) := by decide +kernel
theorem dX9_undo_13 : decode cX9_undo 13 = .ok (.dup, 1) := by decide +kernel
theorem dX9_undo_14 : decode cX9_undo 14 = .ok (.ldc_w 387, 3) := by decide +kernel
theorem dX9_undo_17 : decode cX9_undo 17 = .ok (.invokespecial 139, 3) := by decide +kernel
theorem dX9_undo_20 : decode cX9_undo 20 = .ok (.athrow, 1) := by decide +kernel
theorem dX9_upToDateScore_0 : decode cX9_upToDateScore 0 = .ok (.aload_n 0, 1) := by decide +kernel
theorem dX9_upToDateScore_1 : decode cX9_upToDateScore 1 = .ok (.getfield 60, 3) := by decide +kernel
theorem dX9_upToDateScore_4 : decode cX9_upToDateScore 4 = .ok (.ifCond .ne 40, 3) := by decide +kernel
theorem dX9_upToDateScore_7 : decode cX9_upToDateScore 7 = .ok (.aload_n 0, 1) := by decide +kernel
theorem dX9_upToDateScore_8 : decode cX9_upToDateScore 8 = .ok (.getfield 12, 3) := by decide +kernel
theorem dX9_upToDateScore_11 : decode cX9_upToDateScore 11 = .ok (.invokevirtual 70, 3) := by decide +kernel
theorem dX9_upToDateScore_14 : decode cX9_upToDateScore 14 = .ok (.astore_n 1, 1) := by decide +kernel
theorem dX9_upToDateScore_15 : decode cX9_upToDateScore 15 = .ok (.aload_n 0, 1) := by decide +kernel
theorem dX9_upToDateScore_16 : decode cX9_upToDateScore 16 = .ok (.getfield 26, 3) := by decide +kernel
theorem dX9_upToDateScore_19 : decode cX9_upToDateScore 19 = .ok (.aload_n 1, 1) := by decide +kernel
theorem dX9_upToDateScore_20 : decode cX9_upToDateScore 20 = .ok (.invokevirtual 409, 3) := by decide +kernel
theorem dX9_upToDateScore_23 : decode cX9_upToDateScore 23 = .ok (.aload_n 0, 1) := by decide +kernel
theorem dX9_upToDateScore_24 : decode cX9_upToDateScore 24 = .ok (.getfield 26, 3) := by decide +kernel
theorem dX9_upToDateScore_27 : decode cX9_upToDateScore 27 = .ok (.aload_n 1, 1) := by decide +kernel
theorem dX9_upToDateScore_28 : decode cX9_upToDateScore 28 = .ok (.invokevirtual 412, 3) := by decide +kernel
theorem dX9_upToDateScore_31 : decode cX9_upToDateScore 31 = .ok (.aload_n 0, 1) := by decide +kernel
theorem dX9_upToDateScore_32 : decode cX9_upToDateScore 32 = .ok (.getfield 26, 3) := by decide +kernel
theorem dX9_upToDateScore_35 : decode cX9_upToDateScore 35 = .ok (.aload_n 1, 1) := by decide +kernel
theorem dX9_upToDateScore_36 : decode cX9_upToDateScore 36 = .ok (.invokevirtual 415, 3) := by decide +kernel
theorem dX9_upToDateScore_39 : decode cX9_upToDateScore 39 = .ok (.aload_n 0, 1) := by decide +kernel
theorem dX9_upToDateScore_40 : decode cX9_upToDateScore 40 = .ok (.iconst 1, 1) := by decide +kernel
theorem dX9_upToDateScore_41 : decode cX9_upToDateScore 41 = .ok (.putfield 60, 3) := by decide +kernel
theorem dX9_upToDateScore_44 : decode cX9_upToDateScore 44 = .ok (.aload_n 0, 1) := by decide +kernel
theorem dX9_upToDateScore_45 : decode cX9_upToDateScore 45 = .ok (.getfield 26, 3) := by decide +kernel
theorem dX9_upToDateScore_48 : decode cX9_upToDateScore 48 = .ok (.areturn, 1) := by decide +kernel
