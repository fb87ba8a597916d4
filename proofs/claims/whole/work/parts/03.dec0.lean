theorem dX0_init_0 : decode cX0_init 0 = .ok (.aload_n 0, 1) := by decide +kernel
theorem dX0_init_1 : decode cX0_init 1 = .ok (.invokespecial 1, 3) := by decide +kernel
theorem dX0_init_4 : decode cX0_init 4 = .ok (.aload_n 0, 1) := by decide +kernel
theorem dX0_init_5 : decode cX0_init 5 = .ok (.bipush 8, 2) := by decide +kernel
theorem dX0_init_7 : decode cX0_init 7 = .ok (.iconst 5, 1) := by decide +kernel
theorem dX0_init_8 : decode cX0_init 8 = .ok (.multianewarray 9 2, 4) := by decide +kernel
theorem dX0_init_12 : decode cX0_init 12 = .ok (.putfield 11, 3) := by decide +kernel
theorem dX0_init_15 : decode cX0_init 15 = .ok (.aload_n 0, 1) := by decide +kernel
theorem dX0_init_16 : decode cX0_init 16 = .ok (.bipush 8, 2) := by decide +kernel
theorem dX0_init_18 : decode cX0_init 18 = .ok (.iconst 5, 1) := by decide +kernel
theorem dX0_init_19 : decode cX0_init 19 = .ok (.multianewarray 9 2, 4) := by decide +kernel
theorem dX0_init_23 : decode cX0_init 23 = .ok (.putfield 14, 3) := by decide +kernel
theorem dX0_init_26 : decode cX0_init 26 = .ok (.aload_n 0, 1) := by decide +kernel
theorem dX0_init_27 : decode cX0_init 27 = .ok (.bipush 8, 2) := by decide +kernel
theorem dX0_init_29 : decode cX0_init 29 = .ok (.newarray .int, 2) := by decide +kernel
theorem dX0_init_31 : decode cX0_init 31 = .ok (.putfield 17, 3) := by decide +kernel
theorem dX0_init_34 : decode cX0_init 34 = .ok (.aload_n 0, 1) := by decide +kernel
theorem dX0_init_35 : decode cX0_init 35 = .ok (.iconst 2, 1) := by decide +kernel
theorem dX0_init_36 : decode cX0_init 36 = .ok (.bipush 8, 2) := by decide +kernel
theorem dX0_init_38 : decode cX0_init 38 = .ok (.multianewarray 9 2, 4) := by decide +kernel
theorem dX0_init_42 : decode cX0_init 42 = .ok (.putfield 21, 3) := by decide +kernel
theorem dX0_init_45 : decode cX0_init 45 = .ok (.aload_n 0, 1) := by decide +kernel
theorem dX0_init_46 : decode cX0_init 46 = .ok (.iconst 2, 1) := by decide +kernel
theorem dX0_init_47 : decode cX0_init 47 = .ok (.bipush 8, 2) := by decide +kernel
theorem dX0_init_49 : decode cX0_init 49 = .ok (.multianewarray 9 2, 4) := by decide +kernel
theorem dX0_init_53 : decode cX0_init 53 = .ok (.putfield 24, 3) := by decide +kernel
theorem dX0_init_56 : decode cX0_init 56 = .ok (.aload_n 0, 1) := by decide +kernel
theorem dX0_init_57 : decode cX0_init 57 = .ok (.iconst 2, 1) := by decide +kernel
theorem dX0_init_58 : decode cX0_init 58 = .ok (.bipush 32, 2) := by decide +kernel
theorem dX0_init_60 : decode cX0_init 60 = .ok (.multianewarray 9 2, 4) := by decide +kernel
theorem dX0_init_64 : decode cX0_init 64 = .ok (.putfield 27, 3) := by decide +kernel
theorem dX0_init_67 : decode cX0_init 67 = .ok (.aload_n 0, 1) := by decide +kernel
theorem dX0_init_68 : decode cX0_init 68 = .ok (.iconst 2, 1) := by decide +kernel
theorem dX0_init_69 : decode cX0_init 69 = .ok (.newarray .int, 2) := by decide +kernel
theorem dX0_init_71 : decode cX0_init 71 = .ok (.putfield 30, 3) := by decide +kernel
theorem dX0_init_74 : decode cX0_init 74 = .ok (.aload_n 0, 1) := by decide +kernel
theorem dX0_init_75 : decode cX0_init 75 = .ok (.iconst 0, 1) := by decide +kernel
theorem dX0_init_76 : decode cX0_init 76 = .ok (.putfield 33, 3) := by decide +kernel
theorem dX0_init_79 : decode cX0_init 79 = .ok (.aload_n 0, 1) := by decide +kernel
theorem dX0_init_80 : decode cX0_init 80 = .ok (.iconst 0, 1) := by decide +kernel
theorem dX0_init_81 : decode cX0_init 81 = .ok (.putfield 37, 3) := by decide +kernel
theorem dX0_init_84 : decode cX0_init 84 = .ok (.return_, 1) := by decide +kernel
theorem dX0_order_0 : decode cX0_order 0 = .ok (.iload_n 1, 1) := by decide +kernel
theorem dX0_order_1 : decode cX0_order 1 = .ok (.invokestatic 40, 3) := by decide +kernel
theorem dX0_order_4 : decode cX0_order 4 = .ok (.ifCond .eq 12, 3) := by decide +kernel
theorem dX0_order_7 : decode cX0_order 7 = .ok (.iload_n 2, 1) := by decide +kernel
theorem dX0_order_8 : decode cX0_order 8 = .ok (.ifCond .lt 8, 3) := by decide +kernel
theorem dX0_order_11 : decode cX0_order 11 = .ok (.iload_n 2, 1) := by decide +kernel
theorem dX0_order_12 : decode cX0_order 12 = .ok (.iconst 5, 1) := by decide +kernel
theorem dX0_order_13 : decode cX0_order 13 = .ok (.if_icmp .le 5, 3) := by decide +kernel
theorem dX0_order_16 : decode cX0_order 16 = .ok (.iconst (-1), 1) := by decide +kernel
theorem dX0_order_17 : decode cX0_order 17 = .ok (.ireturn, 1) := by decide +kernel
theorem dX0_order_18 : decode cX0_order 18 = .ok (.aload_n 0, 1) := by decide +kernel
theorem dX0_order_19 : decode cX0_order 19 = .ok (.getfield 17, 3) := by decide +kernel
theorem dX0_order_22 : decode cX0_order 22 = .ok (.iload_n 1, 1) := by decide +kernel
theorem dX0_order_23 : decode cX0_order 23 = .ok (.iaload, 1) := by decide +kernel
theorem dX0_order_24 : decode cX0_order 24 = .ok (.istore 4, 2) := by decide +kernel
theorem dX0_order_26 : decode cX0_order 26 = .ok (.iload 4, 2) := by decide +kernel
theorem dX0_order_28 : decode cX0_order 28 = .ok (.iconst 5, 1) := by decide +kernel
theorem dX0_order_29 : decode cX0_order 29 = .ok (.if_icmp .lt 6, 3) := by decide +kernel
theorem dX0_order_32 : decode cX0_order 32 = .ok (.bipush (-2), 2) := by decide +kernel
theorem dX0_order_34 : decode cX0_order 34 = .ok (.ireturn, 1) := by decide +kernel
theorem dX0_order_35 : decode cX0_order 35 = .ok (.aload_n 0, 1) := by decide +kernel
theorem dX0_order_36 : decode cX0_order 36 = .ok (.getfield 11, 3) := by decide +kernel
theorem dX0_order_39 : decode cX0_order 39 = .ok (.iload_n 1, 1) := by decide +kernel
theorem dX0_order_40 : decode cX0_order 40 = .ok (.aaload, 1) := by decide +kernel
theorem dX0_order_41 : decode cX0_order 41 = .ok (.iload 4, 2) := by decide +kernel
theorem dX0_order_43 : decode cX0_order 43 = .ok (.iload_n 2, 1) := by decide +kernel
theorem dX0_order_44 : decode cX0_order 44 = .ok (.iastore, 1) := by decide +kernel
theorem dX0_order_45 : decode cX0_order 45 = .ok (.aload_n 0, 1) := by decide +kernel
theorem dX0_order_46 : decode cX0_order 46 = .ok (.getfield 14, 3) := by decide +kernel
theorem dX0_order_49 : decode cX0_order 49 = .ok (.iload_n 1, 1) := by decide +kernel
theorem dX0_order_50 : decode cX0_order 50 = .ok (.aaload, 1) := by decide +kernel
theorem dX0_order_51 : decode cX0_order 51 = .ok (.iload 4, 2) := by decide +kernel
theorem dX0_order_53 : decode cX0_order 53 = .ok (.iload_n 3, 1) := by decide +kernel
theorem dX0_order_54 : decode cX0_order 54 = .ok (.iastore, 1) := by decide +kernel
theorem dX0_order_55 : decode cX0_order 55 = .ok (.aload_n 0, 1) := by decide +kernel
theorem dX0_order_56 : decode cX0_order 56 = .ok (.getfield 17, 3) := by decide +kernel
theorem dX0_order_59 : decode cX0_order 59 = .ok (.iload_n 1, 1) := by decide +kernel
theorem dX0_order_60 : decode cX0_order 60 = .ok (.iload 4, 2) := by decide +kernel
theorem dX0_order_62 : decode cX0_order 62 = .ok (.iconst 1, 1) := by decide +kernel
theorem dX0_order_63 : decode cX0_order 63 = .ok (.iadd, 1) := by decide +kernel
theorem dX0_order_64 : decode cX0_order 64 = .ok (.iastore, 1) := by decide +kernel
theorem dX0_order_65 : decode cX0_order 65 = .ok (.iload 4, 2) := by decide +kernel
theorem dX0_order_67 : decode cX0_order 67 = .ok (.iconst 1, 1) := by decide +kernel
theorem dX0_order_68 : decode cX0_order 68 = .ok (.iadd, 1) := by decide +kernel
theorem dX0_order_69 : decode cX0_order 69 = .ok (.ireturn, 1) := by decide +kernel
theorem dX0_noOrders_0 : decode cX0_noOrders 0 = .ok (.iload_n 1, 1) := by decide +kernel
theorem dX0_noOrders_1 : decode cX0_noOrders 1 = .ok (.invokestatic 40, 3) := by decide +kernel
theorem dX0_noOrders_4 : decode cX0_noOrders 4 = .ok (.ifCond .ne 5, 3) := by decide +kernel
theorem dX0_noOrders_7 : decode cX0_noOrders 7 = .ok (.iconst (-1), 1) := by decide +kernel
theorem dX0_noOrders_8 : decode cX0_noOrders 8 = .ok (.ireturn, 1) := by decide +kernel
theorem dX0_noOrders_9 : decode cX0_noOrders 9 = .ok (.aload_n 0, 1) := by decide +kernel
theorem dX0_noOrders_10 : decode cX0_noOrders 10 = .ok (.getfield 17, 3) := by decide +kernel
theorem dX0_noOrders_13 : decode cX0_noOrders 13 = .ok (.iload_n 1, 1) := by decide +kernel
theorem dX0_noOrders_14 : decode cX0_noOrders 14 = .ok (.iaload, 1) := by decide +kernel
theorem dX0_noOrders_15 : decode cX0_noOrders 15 = .ok (.istore_n 2, 1) := by decide +kernel
theorem dX0_noOrders_16 : decode cX0_noOrders 16 = .ok (.aload_n 0, 1) := by decide +kernel
theorem dX0_noOrders_17 : decode cX0_noOrders 17 = .ok (.getfield 17, 3) := by decide +kernel
theorem dX0_noOrders_20 : decode cX0_noOrders 20 = .ok (.iload_n 1, 1) := by decide +kernel
theorem dX0_noOrders_21 : decode cX0_noOrders 21 = .ok (.iconst 0, 1) := by decide +kernel
theorem dX0_noOrders_22 : decode cX0_noOrders 22 = .ok (.iastore, 1) := by decide +kernel
theorem dX0_noOrders_23 : decode cX0_noOrders 23 = .ok (.iload_n 2, 1) := by decide +kernel
theorem dX0_noOrders_24 : decode cX0_noOrders 24 = .ok (.ireturn, 1) := by decide +kernel
theorem dX0_build_0 : decode cX0_build 0 = .ok (.iload_n 1, 1) := by decide +kernel
theorem dX0_build_1 : decode cX0_build 1 = .ok (.invokestatic 44, 3) := by decide +kernel
theorem dX0_build_4 : decode cX0_build 4 = .ok (.ifCond .ne 5, 3) := by decide +kernel
theorem dX0_build_7 : decode cX0_build 7 = .ok (.iconst (-1), 1) := by decide +kernel
theorem dX0_build_8 : decode cX0_build 8 = .ok (.ireturn, 1) := by decide +kernel
theorem dX0_build_9 : decode cX0_build 9 = .ok (.iconst 0, 1) := by decide +kernel
theorem dX0_build_10 : decode cX0_build 10 = .ok (.istore_n 2, 1) := by decide +kernel
theorem dX0_build_11 : decode cX0_build 11 = .ok (.iload_n 2, 1) := by decide +kernel
theorem dX0_build_12 : decode cX0_build 12 = .ok (.bipush 8, 2) := by decide +kernel
theorem dX0_build_14 : decode cX0_build 14 = .ok (.if_icmp .ge 27, 3) := by decide +kernel
theorem dX0_build_17 : decode cX0_build 17 = .ok (.aload_n 0, 1) := by decide +kernel
theorem dX0_build_18 : decode cX0_build 18 = .ok (.getfield 21, 3) := by decide +kernel
theorem dX0_build_21 : decode cX0_build 21 = .ok (.iload_n 1, 1) := by decide +kernel
theorem dX0_build_22 : decode cX0_build 22 = .ok (.aaload, 1) := by decide +kernel
theorem dX0_build_23 : decode cX0_build 23 = .ok (.iload_n 2, 1) := by decide +kernel
theorem dX0_build_24 : decode cX0_build 24 = .ok (.iconst 0, 1) := by decide +kernel
theorem dX0_build_25 : decode cX0_build 25 = .ok (.iastore, 1) := by decide +kernel
theorem dX0_build_26 : decode cX0_build 26 = .ok (.aload_n 0, 1) := by decide +kernel
theorem dX0_build_27 : decode cX0_build 27 = .ok (.getfield 24, 3) := by decide +kernel
theorem dX0_build_30 : decode cX0_build 30 = .ok (.iload_n 1, 1) := by decide +kernel
theorem dX0_build_31 : decode cX0_build 31 = .ok (.aaload, 1) := by decide +kernel
theorem dX0_build_32 : decode cX0_build 32 = .ok (.iload_n 2, 1) := by decide +kernel
theorem dX0_build_33 : decode cX0_build 33 = .ok (.iconst 0, 1) := by decide +kernel
theorem dX0_build_34 : decode cX0_build 34 = .ok (.iastore, 1) := by decide +kernel
theorem dX0_build_35 : decode cX0_build 35 = .ok (.iinc 2 1, 3) := by decide +kernel
theorem dX0_build_38 : decode cX0_build 38 = .ok (.goto (-27), 3) := by decide +kernel
theorem dX0_build_41 : decode cX0_build 41 = .ok (.aload_n 0, 1) := by decide +kernel
theorem dX0_build_42 : decode cX0_build 42 = .ok (.getfield 30, 3) := by decide +kernel
theorem dX0_build_45 : decode cX0_build 45 = .ok (.iload_n 1, 1) := by decide +kernel
theorem dX0_build_46 : decode cX0_build 46 = .ok (.iconst 0, 1) := by decide +kernel
theorem dX0_build_47 : decode cX0_build 47 = .ok (.iastore, 1) := by decide +kernel
theorem dX0_build_48 : decode cX0_build 48 = .ok (.iconst 0, 1) := by decide +kernel
theorem dX0_build_49 : decode cX0_build 49 = .ok (.ireturn, 1) := by decide +kernel
theorem dX0_probe_0 : decode cX0_probe 0 = .ok (.iload_n 1, 1) := by decide +kernel
theorem dX0_probe_1 : decode cX0_probe 1 = .ok (.invokestatic 44, 3) := by decide +kernel
theorem dX0_probe_4 : decode cX0_probe 4 = .ok (.ifCond .eq 18, 3) := by decide +kernel
theorem dX0_probe_7 : decode cX0_probe 7 = .ok (.iload_n 2, 1) := by decide +kernel
theorem dX0_probe_8 : decode cX0_probe 8 = .ok (.invokestatic 40, 3) := by decide +kernel
theorem dX0_probe_11 : decode cX0_probe 11 = .ok (.ifCond .eq 11, 3) := by decide +kernel
theorem dX0_probe_14 : decode cX0_probe 14 = .ok (.iload_n 2, 1) := by decide +kernel
theorem dX0_probe_15 : decode cX0_probe 15 = .ok (.iload_n 3, 1) := by decide +kernel
theorem dX0_probe_16 : decode cX0_probe 16 = .ok (.invokestatic 47, 3) := by decide +kernel
theorem dX0_probe_19 : decode cX0_probe 19 = .ok (.ifCond .ne 5, 3) := by decide +kernel
theorem dX0_probe_22 : decode cX0_probe 22 = .ok (.iconst (-1), 1) := by decide +kernel
theorem dX0_probe_23 : decode cX0_probe 23 = .ok (.ireturn, 1) := by decide +kernel
theorem dX0_probe_24 : decode cX0_probe 24 = .ok (.aload_n 0, 1) := by decide +kernel
theorem dX0_probe_25 : decode cX0_probe 25 = .ok (.iconst 0, 1) := by decide +kernel
theorem dX0_probe_26 : decode cX0_probe 26 = .ok (.putfield 37, 3) := by decide +kernel
theorem dX0_probe_29 : decode cX0_probe 29 = .ok (.aload_n 0, 1) := by decide +kernel
theorem dX0_probe_30 : decode cX0_probe 30 = .ok (.iload_n 1, 1) := by decide +kernel
theorem dX0_probe_31 : decode cX0_probe 31 = .ok (.iload_n 2, 1) := by decide +kernel
theorem dX0_probe_32 : decode cX0_probe 32 = .ok (.iload_n 3, 1) := by decide +kernel
theorem dX0_probe_33 : decode cX0_probe 33 = .ok (.invokestatic 51, 3) := by decide +kernel
theorem dX0_probe_36 : decode cX0_probe 36 = .ok (.iconst 0, 1) := by decide +kernel
theorem dX0_probe_37 : decode cX0_probe 37 = .ok (.invokevirtual 55, 3) := by decide +kernel
theorem dX0_probe_40 : decode cX0_probe 40 = .ok (.istore 4, 2) := by decide +kernel
theorem dX0_probe_42 : decode cX0_probe 42 = .ok (.iload 4, 2) := by decide +kernel
theorem dX0_probe_44 : decode cX0_probe 44 = .ok (.ifCond .ne 14, 3) := by decide +kernel
theorem dX0_probe_47 : decode cX0_probe 47 = .ok (.aload_n 0, 1) := by decide +kernel
theorem dX0_probe_48 : decode cX0_probe 48 = .ok (.aload_n 0, 1) := by decide +kernel
theorem dX0_probe_49 : decode cX0_probe 49 = .ok (.iload_n 1, 1) := by decide +kernel
theorem dX0_probe_50 : decode cX0_probe 50 = .ok (.iload_n 2, 1) := by decide +kernel
theorem dX0_probe_51 : decode cX0_probe 51 = .ok (.iload_n 3, 1) := by decide +kernel
theorem dX0_probe_52 : decode cX0_probe 52 = .ok (.invokevirtual 59, 3) := by decide +kernel
theorem dX0_probe_55 : decode cX0_probe 55 = .ok (.putfield 33, 3) := by decide +kernel
theorem dX0_probe_58 : decode cX0_probe 58 = .ok (.iload 4, 2) := by decide +kernel
theorem dX0_probe_60 : decode cX0_probe 60 = .ok (.ireturn, 1) := by decide +kernel
theorem dX0_answer_0 : decode cX0_answer 0 = .ok (.aload_n 0, 1) := by decide +kernel
theorem dX0_answer_1 : decode cX0_answer 1 = .ok (.getfield 33, 3) := by decide +kernel
theorem dX0_answer_4 : decode cX0_answer 4 = .ok (.ireturn, 1) := by decide +kernel
theorem dX0_wrong_0 : decode cX0_wrong 0 = .ok (.aload_n 0, 1) := by decide +kernel
theorem dX0_wrong_1 : decode cX0_wrong 1 = .ok (.getfield 37, 3) := by decide +kernel
theorem dX0_wrong_4 : decode cX0_wrong 4 = .ok (.ireturn, 1) := by decide +kernel
theorem dX0_events_0 : decode cX0_events 0 = .ok (.iload_n 1, 1) := by decide +kernel
theorem dX0_events_1 : decode cX0_events 1 = .ok (.invokestatic 44, 3) := by decide +kernel
theorem dX0_events_4 : decode cX0_events 4 = .ok (.ifCond .eq 12, 3) := by decide +kernel
theorem dX0_events_7 : decode cX0_events 7 = .ok (.aload_n 0, 1) := by decide +kernel
theorem dX0_events_8 : decode cX0_events 8 = .ok (.getfield 30, 3) := by decide +kernel
theorem dX0_events_11 : decode cX0_events 11 = .ok (.iload_n 1, 1) := by decide +kernel
theorem dX0_events_12 : decode cX0_events 12 = .ok (.iaload, 1) := by decide +kernel
theorem dX0_events_13 : decode cX0_events 13 = .ok (.goto 4, 3) := by decide +kernel
theorem dX0_events_16 : decode cX0_events 16 = .ok (.iconst (-1), 1) := by decide +kernel
theorem dX0_events_17 : decode cX0_events 17 = .ok (.ireturn, 1) := by decide +kernel
theorem dX0_event_0 : decode cX0_event 0 = .ok (.iload_n 1, 1) := by decide +kernel
theorem dX0_event_1 : decode cX0_event 1 = .ok (.invokestatic 44, 3) := by decide +kernel
theorem dX0_event_4 : decode cX0_event 4 = .ok (.ifCond .eq 23, 3) := by decide +kernel
theorem dX0_event_7 : decode cX0_event 7 = .ok (.iload_n 2, 1) := by decide +kernel
theorem dX0_event_8 : decode cX0_event 8 = .ok (.ifCond .lt 19, 3) := by decide +kernel
theorem dX0_event_11 : decode cX0_event 11 = .ok (.iload_n 2, 1) := by decide +kernel
theorem dX0_event_12 : decode cX0_event 12 = .ok (.bipush 32, 2) := by decide +kernel
theorem dX0_event_14 : decode cX0_event 14 = .ok (.if_icmp .ge 13, 3) := by decide +kernel
theorem dX0_event_17 : decode cX0_event 17 = .ok (.iload_n 2, 1) := by decide +kernel
theorem dX0_event_18 : decode cX0_event 18 = .ok (.aload_n 0, 1) := by decide +kernel
theorem dX0_event_19 : decode cX0_event 19 = .ok (.getfield 30, 3) := by decide +kernel
theorem dX0_event_22 : decode cX0_event 22 = .ok (.iload_n 1, 1) := by decide +kernel
theorem dX0_event_23 : decode cX0_event 23 = .ok (.iaload, 1) := by decide +kernel
theorem dX0_event_24 : decode cX0_event 24 = .ok (.if_icmp .lt 5, 3) := by decide +kernel
theorem dX0_event_27 : decode cX0_event 27 = .ok (.iconst (-1), 1) := by decide +kernel
theorem dX0_event_28 : decode cX0_event 28 = .ok (.ireturn, 1) := by decide +kernel
theorem dX0_event_29 : decode cX0_event 29 = .ok (.aload_n 0, 1) := by decide +kernel
theorem dX0_event_30 : decode cX0_event 30 = .ok (.getfield 27, 3) := by decide +kernel
theorem dX0_event_33 : decode cX0_event 33 = .ok (.iload_n 1, 1) := by decide +kernel
theorem dX0_event_34 : decode cX0_event 34 = .ok (.aaload, 1) := by decide +kernel
theorem dX0_event_35 : decode cX0_event 35 = .ok (.aload_n 0, 1) := by decide +kernel
theorem dX0_event_36 : decode cX0_event 36 = .ok (.getfield 30, 3) := by decide +kernel
theorem dX0_event_39 : decode cX0_event 39 = .ok (.iload_n 1, 1) := by decide +kernel
theorem dX0_event_40 : decode cX0_event 40 = .ok (.iaload, 1) := by decide +kernel
theorem dX0_event_41 : decode cX0_event 41 = .ok (.iconst 1, 1) := by decide +kernel
theorem dX0_event_42 : decode cX0_event 42 = .ok (.isub, 1) := by decide +kernel
theorem dX0_event_43 : decode cX0_event 43 = .ok (.iload_n 2, 1) := by decide +kernel
theorem dX0_event_44 : decode cX0_event 44 = .ok (.isub, 1) := by decide +kernel
theorem dX0_event_45 : decode cX0_event 45 = .ok (.bipush 31, 2) := by decide +kernel
theorem dX0_event_47 : decode cX0_event 47 = .ok (.iand, 1) := by decide +kernel
theorem dX0_event_48 : decode cX0_event 48 = .ok (.iaload, 1) := by decide +kernel
theorem dX0_event_49 : decode cX0_event 49 = .ok (.ireturn, 1) := by decide +kernel
theorem dX0_isWorld_0 : decode cX0_isWorld 0 = .ok (.iload_n 0, 1) := by decide +kernel
theorem dX0_isWorld_1 : decode cX0_isWorld 1 = .ok (.ifCond .lt 12, 3) := by decide +kernel
theorem dX0_isWorld_4 : decode cX0_isWorld 4 = .ok (.iload_n 0, 1) := by decide +kernel
theorem dX0_isWorld_5 : decode cX0_isWorld 5 = .ok (.iconst 2, 1) := by decide +kernel
theorem dX0_isWorld_6 : decode cX0_isWorld 6 = .ok (.if_icmp .ge 7, 3) := by decide +kernel
theorem dX0_isWorld_9 : decode cX0_isWorld 9 = .ok (.iconst 1, 1) := by decide +kernel
theorem dX0_isWorld_10 : decode cX0_isWorld 10 = .ok (.goto 4, 3) := by decide +kernel
theorem dX0_isWorld_13 : decode cX0_isWorld 13 = .ok (.iconst 0, 1) := by decide +kernel
theorem dX0_isWorld_14 : decode cX0_isWorld 14 = .ok (.ireturn, 1) := by decide +kernel
theorem dX0_isType_0 : decode cX0_isType 0 = .ok (.iload_n 0, 1) := by decide +kernel
theorem dX0_isType_1 : decode cX0_isType 1 = .ok (.ifCond .lt 13, 3) := by decide +kernel
theorem dX0_isType_4 : decode cX0_isType 4 = .ok (.iload_n 0, 1) := by decide +kernel
theorem dX0_isType_5 : decode cX0_isType 5 = .ok (.bipush 8, 2) := by decide +kernel
theorem dX0_isType_7 : decode cX0_isType 7 = .ok (.if_icmp .ge 7, 3) := by decide +kernel
theorem dX0_isType_10 : decode cX0_isType 10 = .ok (.iconst 1, 1) := by decide +kernel
theorem dX0_isType_11 : decode cX0_isType 11 = .ok (.goto 4, 3) := by decide +kernel
theorem dX0_isType_14 : decode cX0_isType 14 = .ok (.iconst 0, 1) := by decide +kernel
theorem dX0_isType_15 : decode cX0_isType 15 = .ok (.ireturn, 1) := by decide +kernel
theorem dX0_isMannerFor_0 : decode cX0_isMannerFor 0 = .ok (.iload_n 1, 1) := by decide +kernel
theorem dX0_isMannerFor_1 : decode cX0_isMannerFor 1 = .ok (.ifCond .eq 14, 3) := by decide +kernel
theorem dX0_isMannerFor_4 : decode cX0_isMannerFor 4 = .ok (.iload_n 1, 1) := by decide +kernel
theorem dX0_isMannerFor_5 : decode cX0_isMannerFor 5 = .ok (.iconst 3, 1) := by decide +kernel
theorem dX0_isMannerFor_6 : decode cX0_isMannerFor 6 = .ok (.if_icmp .eq 9, 3) := by decide +kernel
theorem dX0_isMannerFor_9 : decode cX0_isMannerFor 9 = .ok (.iload_n 1, 1) := by decide +kernel
theorem dX0_isMannerFor_10 : decode cX0_isMannerFor 10 = .ok (.bipush 12, 2) := by decide +kernel
theorem dX0_isMannerFor_12 : decode cX0_isMannerFor 12 = .ok (.if_icmp .ne 14, 3) := by decide +kernel
theorem dX0_isMannerFor_15 : decode cX0_isMannerFor 15 = .ok (.iload_n 0, 1) := by decide +kernel
theorem dX0_isMannerFor_16 : decode cX0_isMannerFor 16 = .ok (.iconst 4, 1) := by decide +kernel
theorem dX0_isMannerFor_17 : decode cX0_isMannerFor 17 = .ok (.if_icmp .gt 7, 3) := by decide +kernel
theorem dX0_isMannerFor_20 : decode cX0_isMannerFor 20 = .ok (.iconst 1, 1) := by decide +kernel
theorem dX0_isMannerFor_21 : decode cX0_isMannerFor 21 = .ok (.goto 4, 3) := by decide +kernel
theorem dX0_isMannerFor_24 : decode cX0_isMannerFor 24 = .ok (.iconst 0, 1) := by decide +kernel
theorem dX0_isMannerFor_25 : decode cX0_isMannerFor 25 = .ok (.ireturn, 1) := by decide +kernel
theorem dX0_isMannerFor_26 : decode cX0_isMannerFor 26 = .ok (.iload_n 1, 1) := by decide +kernel
theorem dX0_isMannerFor_27 : decode cX0_isMannerFor 27 = .ok (.ifCond .lt 13, 3) := by decide +kernel
theorem dX0_isMannerFor_30 : decode cX0_isMannerFor 30 = .ok (.iload_n 1, 1) := by decide +kernel
theorem dX0_isMannerFor_31 : decode cX0_isMannerFor 31 = .ok (.bipush 13, 2) := by decide +kernel
theorem dX0_isMannerFor_33 : decode cX0_isMannerFor 33 = .ok (.if_icmp .gt 7, 3) := by decide +kernel
theorem dX0_isMannerFor_36 : decode cX0_isMannerFor 36 = .ok (.iconst 1, 1) := by decide +kernel
theorem dX0_isMannerFor_37 : decode cX0_isMannerFor 37 = .ok (.goto 4, 3) := by decide +kernel
theorem dX0_isMannerFor_40 : decode cX0_isMannerFor 40 = .ok (.iconst 0, 1) := by decide +kernel
theorem dX0_isMannerFor_41 : decode cX0_isMannerFor 41 = .ok (.ireturn, 1) := by decide +kernel
theorem dX0_typeStartedBy_0 : decode cX0_typeStartedBy 0 = .ok (.iload_n 1, 1) := by decide +kernel
theorem dX0_typeStartedBy_1 : decode cX0_typeStartedBy 1 = .ok (.tableswitch 51 4 11 #[47, 47, 47, 51, 51, 51, 49, 47], 47) := by decide +kernel
theorem dX0_typeStartedBy_48 : decode cX0_typeStartedBy 48 = .ok (.iconst (-1), 1) := by decide +kernel
theorem dX0_typeStartedBy_49 : decode cX0_typeStartedBy 49 = .ok (.ireturn, 1) := by decide +kernel
theorem dX0_typeStartedBy_50 : decode cX0_typeStartedBy 50 = .ok (.iconst 0, 1) := by decide +kernel
theorem dX0_typeStartedBy_51 : decode cX0_typeStartedBy 51 = .ok (.ireturn, 1) := by decide +kernel
theorem dX0_typeStartedBy_52 : decode cX0_typeStartedBy 52 = .ok (.iload_n 0, 1) := by decide +kernel
theorem dX0_typeStartedBy_53 : decode cX0_typeStartedBy 53 = .ok (.ireturn, 1) := by decide +kernel
theorem dX0_useStarted_0 : decode cX0_useStarted 0 = .ok (.iload_n 3, 1) := by decide +kernel
theorem dX0_useStarted_1 : decode cX0_useStarted 1 = .ok (.tableswitch 125 0 13 #[125, 71, 93, 102, 115, 121, 125, 125, 71, 71, 82, 123, 125, 93], 71) := by decide +kernel
theorem dX0_useStarted_72 : decode cX0_useStarted 72 = .ok (.aload_n 0, 1) := by decide +kernel
theorem dX0_useStarted_73 : decode cX0_useStarted 73 = .ok (.getfield 24, 3) := by decide +kernel
theorem dX0_useStarted_76 : decode cX0_useStarted 76 = .ok (.iload_n 1, 1) := by decide +kernel
theorem dX0_useStarted_77 : decode cX0_useStarted 77 = .ok (.aaload, 1) := by decide +kernel
theorem dX0_useStarted_78 : decode cX0_useStarted 78 = .ok (.iload_n 2, 1) := by decide +kernel
theorem dX0_useStarted_79 : decode cX0_useStarted 79 = .ok (.iaload, 1) := by decide +kernel
theorem dX0_useStarted_80 : decode cX0_useStarted 80 = .ok (.iconst 1, 1) := by decide +kernel
theorem dX0_useStarted_81 : decode cX0_useStarted 81 = .ok (.iadd, 1) := by decide +kernel
theorem dX0_useStarted_82 : decode cX0_useStarted 82 = .ok (.ireturn, 1) := by decide +kernel
theorem dX0_useStarted_83 : decode cX0_useStarted 83 = .ok (.aload_n 0, 1) := by decide +kernel
theorem dX0_useStarted_84 : decode cX0_useStarted 84 = .ok (.getfield 24, 3) := by decide +kernel
theorem dX0_useStarted_87 : decode cX0_useStarted 87 = .ok (.iload_n 1, 1) := by decide +kernel
theorem dX0_useStarted_88 : decode cX0_useStarted 88 = .ok (.aaload, 1) := by decide +kernel
theorem dX0_useStarted_89 : decode cX0_useStarted 89 = .ok (.iconst 0, 1) := by decide +kernel
theorem dX0_useStarted_90 : decode cX0_useStarted 90 = .ok (.iaload, 1) := by decide +kernel
theorem dX0_useStarted_91 : decode cX0_useStarted 91 = .ok (.iconst 1, 1) := by decide +kernel
theorem dX0_useStarted_92 : decode cX0_useStarted 92 = .ok (.iadd, 1) := by decide +kernel
theorem dX0_useStarted_93 : decode cX0_useStarted 93 = .ok (.ireturn, 1) := by decide +kernel
theorem dX0_useStarted_94 : decode cX0_useStarted 94 = .ok (.aload_n 0, 1) := by decide +kernel
theorem dX0_useStarted_95 : decode cX0_useStarted 95 = .ok (.getfield 24, 3) := by decide +kernel
theorem dX0_useStarted_98 : decode cX0_useStarted 98 = .ok (.iload_n 1, 1) := by decide +kernel
theorem dX0_useStarted_99 : decode cX0_useStarted 99 = .ok (.aaload, 1) := by decide +kernel
theorem dX0_useStarted_100 : decode cX0_useStarted 100 = .ok (.iload_n 2, 1) := by decide +kernel
theorem dX0_useStarted_101 : decode cX0_useStarted 101 = .ok (.iaload, 1) := by decide +kernel
theorem dX0_useStarted_102 : decode cX0_useStarted 102 = .ok (.ireturn, 1) := by decide +kernel
theorem dX0_useStarted_103 : decode cX0_useStarted 103 = .ok (.aload_n 0, 1) := by decide +kernel
theorem dX0_useStarted_104 : decode cX0_useStarted 104 = .ok (.getfield 24, 3) := by decide +kernel
theorem dX0_useStarted_107 : decode cX0_useStarted 107 = .ok (.iload_n 1, 1) := by decide +kernel
theorem dX0_useStarted_108 : decode cX0_useStarted 108 = .ok (.aaload, 1) := by decide +kernel
theorem dX0_useStarted_109 : decode cX0_useStarted 109 = .ok (.iload_n 2, 1) := by decide +kernel
theorem dX0_useStarted_110 : decode cX0_useStarted 110 = .ok (.bipush 7, 2) := by decide +kernel
theorem dX0_useStarted_112 : decode cX0_useStarted 112 = .ok (.iastore, 1) := by decide +kernel
theorem dX0_useStarted_113 : decode cX0_useStarted 113 = .ok (.bipush 7, 2) := by decide +kernel
theorem dX0_useStarted_115 : decode cX0_useStarted 115 = .ok (.ireturn, 1) := by decide +kernel
theorem dX0_useStarted_116 : decode cX0_useStarted 116 = .ok (.sipush 500, 3) := by decide +kernel
theorem dX0_useStarted_119 : decode cX0_useStarted 119 = .ok (.iload_n 2, 1) := by decide +kernel
theorem dX0_useStarted_120 : decode cX0_useStarted 120 = .ok (.iadd, 1) := by decide +kernel
theorem dX0_useStarted_121 : decode cX0_useStarted 121 = .ok (.ireturn, 1) := by decide +kernel
theorem dX0_useStarted_122 : decode cX0_useStarted 122 = .ok (.iconst 3, 1) := by decide +kernel
theorem dX0_useStarted_123 : decode cX0_useStarted 123 = .ok (.ireturn, 1) := by decide +kernel
theorem dX0_useStarted_124 : decode cX0_useStarted 124 = .ok (.iconst 0, 1) := by decide +kernel
theorem dX0_useStarted_125 : decode cX0_useStarted 125 = .ok (.ireturn, 1) := by decide +kernel
theorem dX0_useStarted_126 : decode cX0_useStarted 126 = .ok (.iconst 1, 1) := by decide +kernel
theorem dX0_useStarted_127 : decode cX0_useStarted 127 = .ok (.ireturn, 1) := by decide +kernel
theorem dX0_start_0 : decode cX0_start 0 = .ok (.iload_n 2, 1) := by decide +kernel
theorem dX0_start_1 : decode cX0_start 1 = .ok (.iconst (-1), 1) := by decide +kernel
theorem dX0_start_2 : decode cX0_start 2 = .ok (.if_icmp .eq 9, 3) := by decide +kernel
theorem dX0_start_5 : decode cX0_start 5 = .ok (.iload_n 3, 1) := by decide +kernel
theorem dX0_start_6 : decode cX0_start 6 = .ok (.bipush 8, 2) := by decide +kernel
theorem dX0_start_8 : decode cX0_start 8 = .ok (.if_icmp .lt 5, 3) := by decide +kernel
theorem dX0_start_11 : decode cX0_start 11 = .ok (.iconst 0, 1) := by decide +kernel
theorem dX0_start_12 : decode cX0_start 12 = .ok (.ireturn, 1) := by decide +kernel
theorem dX0_start_13 : decode cX0_start 13 = .ok (.aload_n 0, 1) := by decide +kernel
theorem dX0_start_14 : decode cX0_start 14 = .ok (.getfield 21, 3) := by decide +kernel
theorem dX0_start_17 : decode cX0_start 17 = .ok (.iload_n 1, 1) := by decide +kernel
theorem dX0_start_18 : decode cX0_start 18 = .ok (.aaload, 1) := by decide +kernel
theorem dX0_start_19 : decode cX0_start 19 = .ok (.iload_n 2, 1) := by decide +kernel
theorem dX0_start_20 : decode cX0_start 20 = .ok (.iaload, 1) := by decide +kernel
theorem dX0_start_21 : decode cX0_start 21 = .ok (.iconst 3, 1) := by decide +kernel
theorem dX0_start_22 : decode cX0_start 22 = .ok (.if_icmp .ne 10, 3) := by decide +kernel
theorem dX0_start_25 : decode cX0_start 25 = .ok (.aload_n 0, 1) := by decide +kernel
theorem dX0_start_26 : decode cX0_start 26 = .ok (.iconst 0, 1) := by decide +kernel
theorem dX0_start_27 : decode cX0_start 27 = .ok (.putfield 37, 3) := by decide +kernel
theorem dX0_start_30 : decode cX0_start 30 = .ok (.iconst 3, 1) := by decide +kernel
theorem dX0_start_31 : decode cX0_start 31 = .ok (.ireturn, 1) := by decide +kernel
theorem dX0_start_32 : decode cX0_start 32 = .ok (.aload_n 0, 1) := by decide +kernel
theorem dX0_start_33 : decode cX0_start 33 = .ok (.getfield 21, 3) := by decide +kernel
theorem dX0_start_36 : decode cX0_start 36 = .ok (.iload_n 1, 1) := by decide +kernel
theorem dX0_start_37 : decode cX0_start 37 = .ok (.aaload, 1) := by decide +kernel
theorem dX0_start_38 : decode cX0_start 38 = .ok (.iload_n 2, 1) := by decide +kernel
theorem dX0_start_39 : decode cX0_start 39 = .ok (.iaload, 1) := by decide +kernel
theorem dX0_start_40 : decode cX0_start 40 = .ok (.ifCond .eq 5, 3) := by decide +kernel
theorem dX0_start_43 : decode cX0_start 43 = .ok (.iconst 0, 1) := by decide +kernel
theorem dX0_start_44 : decode cX0_start 44 = .ok (.ireturn, 1) := by decide +kernel
theorem dX0_start_45 : decode cX0_start 45 = .ok (.aload_n 0, 1) := by decide +kernel
theorem dX0_start_46 : decode cX0_start 46 = .ok (.getfield 21, 3) := by decide +kernel
theorem dX0_start_49 : decode cX0_start 49 = .ok (.iload_n 1, 1) := by decide +kernel
theorem dX0_start_50 : decode cX0_start 50 = .ok (.aaload, 1) := by decide +kernel
theorem dX0_start_51 : decode cX0_start 51 = .ok (.iload_n 2, 1) := by decide +kernel
theorem dX0_start_52 : decode cX0_start 52 = .ok (.iconst 1, 1) := by decide +kernel
theorem dX0_start_53 : decode cX0_start 53 = .ok (.iastore, 1) := by decide +kernel
theorem dX0_start_54 : decode cX0_start 54 = .ok (.aload_n 0, 1) := by decide +kernel
theorem dX0_start_55 : decode cX0_start 55 = .ok (.iload_n 1, 1) := by decide +kernel
theorem dX0_start_56 : decode cX0_start 56 = .ok (.iload_n 2, 1) := by decide +kernel
theorem dX0_start_57 : decode cX0_start 57 = .ok (.iload_n 3, 1) := by decide +kernel
theorem dX0_start_58 : decode cX0_start 58 = .ok (.iconst 1, 1) := by decide +kernel
theorem dX0_start_59 : decode cX0_start 59 = .ok (.iadd, 1) := by decide +kernel
theorem dX0_start_60 : decode cX0_start 60 = .ok (.invokevirtual 62, 3) := by decide +kernel
theorem dX0_start_63 : decode cX0_start 63 = .ok (.istore 4, 2) := by decide +kernel
theorem dX0_start_65 : decode cX0_start 65 = .ok (.iload 4, 2) := by decide +kernel
theorem dX0_start_67 : decode cX0_start 67 = .ok (.ifCond .ne 14, 3) := by decide +kernel
theorem dX0_start_70 : decode cX0_start 70 = .ok (.aload_n 0, 1) := by decide +kernel
theorem dX0_start_71 : decode cX0_start 71 = .ok (.iload_n 1, 1) := by decide +kernel
theorem dX0_start_72 : decode cX0_start 72 = .ok (.iload_n 2, 1) := by decide +kernel
theorem dX0_start_73 : decode cX0_start 73 = .ok (.iload_n 3, 1) := by decide +kernel
theorem dX0_start_74 : decode cX0_start 74 = .ok (.iconst 1, 1) := by decide +kernel
theorem dX0_start_75 : decode cX0_start 75 = .ok (.iadd, 1) := by decide +kernel
theorem dX0_start_76 : decode cX0_start 76 = .ok (.invokevirtual 65, 3) := by decide +kernel
theorem dX0_start_79 : decode cX0_start 79 = .ok (.istore 4, 2) := by decide +kernel
theorem dX0_start_81 : decode cX0_start 81 = .ok (.aload_n 0, 1) := by decide +kernel
theorem dX0_start_82 : decode cX0_start 82 = .ok (.getfield 21, 3) := by decide +kernel
theorem dX0_start_85 : decode cX0_start 85 = .ok (.iload_n 1, 1) := by decide +kernel
theorem dX0_start_86 : decode cX0_start 86 = .ok (.aaload, 1) := by decide +kernel
theorem dX0_start_87 : decode cX0_start 87 = .ok (.iload_n 2, 1) := by decide +kernel
theorem dX0_start_88 : decode cX0_start 88 = .ok (.iload 4, 2) := by decide +kernel
theorem dX0_start_90 : decode cX0_start 90 = .ok (.ifCond .ne 7, 3) := by decide +kernel
theorem dX0_start_93 : decode cX0_start 93 = .ok (.iconst 2, 1) := by decide +kernel
theorem dX0_start_94 : decode cX0_start 94 = .ok (.goto 4, 3) := by decide +kernel
theorem dX0_start_97 : decode cX0_start 97 = .ok (.iconst 3, 1) := by decide +kernel
theorem dX0_start_98 : decode cX0_start 98 = .ok (.iastore, 1) := by decide +kernel
theorem dX0_start_99 : decode cX0_start 99 = .ok (.iload 4, 2) := by decide +kernel
theorem dX0_start_101 : decode cX0_start 101 = .ok (.ireturn, 1) := by decide +kernel
theorem dX0_startAbove_0 : decode cX0_startAbove 0 = .ok (.aload_n 0, 1) := by decide +kernel
theorem dX0_startAbove_1 : decode cX0_startAbove 1 = .ok (.iload_n 1, 1) := by decide +kernel
theorem dX0_startAbove_2 : decode cX0_startAbove 2 = .ok (.getstatic 68, 3) := by decide +kernel
theorem dX0_startAbove_5 : decode cX0_startAbove 5 = .ok (.iload_n 2, 1) := by decide +kernel
theorem dX0_startAbove_6 : decode cX0_startAbove 6 = .ok (.iaload, 1) := by decide +kernel
theorem dX0_startAbove_7 : decode cX0_startAbove 7 = .ok (.iload_n 3, 1) := by decide +kernel
theorem dX0_startAbove_8 : decode cX0_startAbove 8 = .ok (.invokevirtual 55, 3) := by decide +kernel
theorem dX0_startAbove_11 : decode cX0_startAbove 11 = .ok (.istore 4, 2) := by decide +kernel
theorem dX0_startAbove_13 : decode cX0_startAbove 13 = .ok (.iload 4, 2) := by decide +kernel
theorem dX0_startAbove_15 : decode cX0_startAbove 15 = .ok (.ifCond .ne 17, 3) := by decide +kernel
theorem dX0_startAbove_18 : decode cX0_startAbove 18 = .ok (.aload_n 0, 1) := by decide +kernel
theorem dX0_startAbove_19 : decode cX0_startAbove 19 = .ok (.iload_n 1, 1) := by decide +kernel
theorem dX0_startAbove_20 : decode cX0_startAbove 20 = .ok (.getstatic 71, 3) := by decide +kernel
theorem dX0_startAbove_23 : decode cX0_startAbove 23 = .ok (.iload_n 2, 1) := by decide +kernel
theorem dX0_startAbove_24 : decode cX0_startAbove 24 = .ok (.iaload, 1) := by decide +kernel
theorem dX0_startAbove_25 : decode cX0_startAbove 25 = .ok (.iload_n 3, 1) := by decide +kernel
theorem dX0_startAbove_26 : decode cX0_startAbove 26 = .ok (.invokevirtual 55, 3) := by decide +kernel
theorem dX0_startAbove_29 : decode cX0_startAbove 29 = .ok (.goto 5, 3) := by decide +kernel
theorem dX0_startAbove_32 : decode cX0_startAbove 32 = .ok (.iload 4, 2) := by decide +kernel
theorem dX0_startAbove_34 : decode cX0_startAbove 34 = .ok (.ireturn, 1) := by decide +kernel
theorem dX0_initialize_0 : decode cX0_initialize 0 = .ok (.aload_n 0, 1) := by decide +kernel
theorem dX0_initialize_1 : decode cX0_initialize 1 = .ok (.iload_n 1, 1) := by decide +kernel
theorem dX0_initialize_2 : decode cX0_initialize 2 = .ok (.bipush 100, 2) := by decide +kernel
theorem dX0_initialize_4 : decode cX0_initialize 4 = .ok (.iload_n 2, 1) := by decide +kernel
theorem dX0_initialize_5 : decode cX0_initialize 5 = .ok (.iadd, 1) := by decide +kernel
theorem dX0_initialize_6 : decode cX0_initialize 6 = .ok (.invokevirtual 74, 3) := by decide +kernel
theorem dX0_initialize_9 : decode cX0_initialize 9 = .ok (.aload_n 0, 1) := by decide +kernel
theorem dX0_initialize_10 : decode cX0_initialize 10 = .ok (.iload_n 1, 1) := by decide +kernel
theorem dX0_initialize_11 : decode cX0_initialize 11 = .ok (.iload_n 2, 1) := by decide +kernel
theorem dX0_initialize_12 : decode cX0_initialize 12 = .ok (.iload_n 3, 1) := by decide +kernel
theorem dX0_initialize_13 : decode cX0_initialize 13 = .ok (.invokevirtual 78, 3) := by decide +kernel
theorem dX0_initialize_16 : decode cX0_initialize 16 = .ok (.istore 4, 2) := by decide +kernel
theorem dX0_initialize_18 : decode cX0_initialize 18 = .ok (.iload 4, 2) := by decide +kernel
theorem dX0_initialize_20 : decode cX0_initialize 20 = .ok (.ifCond .ne 22, 3) := by decide +kernel
theorem dX0_initialize_23 : decode cX0_initialize 23 = .ok (.aload_n 0, 1) := by decide +kernel
theorem dX0_initialize_24 : decode cX0_initialize 24 = .ok (.getfield 24, 3) := by decide +kernel
theorem dX0_initialize_27 : decode cX0_initialize 27 = .ok (.iload_n 1, 1) := by decide +kernel
theorem dX0_initialize_28 : decode cX0_initialize 28 = .ok (.aaload, 1) := by decide +kernel
theorem dX0_initialize_29 : decode cX0_initialize 29 = .ok (.iload_n 2, 1) := by decide +kernel
theorem dX0_initialize_30 : decode cX0_initialize 30 = .ok (.bipush 10, 2) := by decide +kernel
theorem dX0_initialize_32 : decode cX0_initialize 32 = .ok (.iload_n 2, 1) := by decide +kernel
theorem dX0_initialize_33 : decode cX0_initialize 33 = .ok (.imul, 1) := by decide +kernel
theorem dX0_initialize_34 : decode cX0_initialize 34 = .ok (.aload_n 0, 1) := by decide +kernel
theorem dX0_initialize_35 : decode cX0_initialize 35 = .ok (.getfield 30, 3) := by decide +kernel
theorem dX0_initialize_38 : decode cX0_initialize 38 = .ok (.iload_n 1, 1) := by decide +kernel
theorem dX0_initialize_39 : decode cX0_initialize 39 = .ok (.iaload, 1) := by decide +kernel
theorem dX0_initialize_40 : decode cX0_initialize 40 = .ok (.iadd, 1) := by decide +kernel
theorem dX0_initialize_41 : decode cX0_initialize 41 = .ok (.iastore, 1) := by decide +kernel
theorem dX0_initialize_42 : decode cX0_initialize 42 = .ok (.iload 4, 2) := by decide +kernel
theorem dX0_initialize_44 : decode cX0_initialize 44 = .ok (.iconst 4, 1) := by decide +kernel
theorem dX0_initialize_45 : decode cX0_initialize 45 = .ok (.if_icmp .ne 7, 3) := by decide +kernel
theorem dX0_initialize_48 : decode cX0_initialize 48 = .ok (.iconst 1, 1) := by decide +kernel
theorem dX0_initialize_49 : decode cX0_initialize 49 = .ok (.goto 5, 3) := by decide +kernel
theorem dX0_initialize_52 : decode cX0_initialize 52 = .ok (.iload 4, 2) := by decide +kernel
theorem dX0_initialize_54 : decode cX0_initialize 54 = .ok (.ireturn, 1) := by decide +kernel
theorem dX0_runProgram_0 : decode cX0_runProgram 0 = .ok (.iconst 0, 1) := by decide +kernel
theorem dX0_runProgram_1 : decode cX0_runProgram 1 = .ok (.istore 4, 2) := by decide +kernel
theorem dX0_runProgram_3 : decode cX0_runProgram 3 = .ok (.iconst 0, 1) := by decide +kernel
theorem dX0_runProgram_4 : decode cX0_runProgram 4 = .ok (.istore 5, 2) := by decide +kernel
theorem dX0_runProgram_6 : decode cX0_runProgram 6 = .ok (.iload 5, 2) := by decide +kernel
theorem dX0_runProgram_8 : decode cX0_runProgram 8 = .ok (.aload_n 0, 1) := by decide +kernel
theorem dX0_runProgram_9 : decode cX0_runProgram 9 = .ok (.getfield 17, 3) := by decide +kernel
theorem dX0_runProgram_12 : decode cX0_runProgram 12 = .ok (.iload_n 2, 1) := by decide +kernel
theorem dX0_runProgram_13 : decode cX0_runProgram 13 = .ok (.iaload, 1) := by decide +kernel
theorem dX0_runProgram_14 : decode cX0_runProgram 14 = .ok (.if_icmp .ge 40, 3) := by decide +kernel
theorem dX0_runProgram_17 : decode cX0_runProgram 17 = .ok (.iload 4, 2) := by decide +kernel
theorem dX0_runProgram_19 : decode cX0_runProgram 19 = .ok (.ifCond .ne 35, 3) := by decide +kernel
theorem dX0_runProgram_22 : decode cX0_runProgram 22 = .ok (.aload_n 0, 1) := by decide +kernel
theorem dX0_runProgram_23 : decode cX0_runProgram 23 = .ok (.iload_n 1, 1) := by decide +kernel
theorem dX0_runProgram_24 : decode cX0_runProgram 24 = .ok (.aload_n 0, 1) := by decide +kernel
theorem dX0_runProgram_25 : decode cX0_runProgram 25 = .ok (.getfield 11, 3) := by decide +kernel
theorem dX0_runProgram_28 : decode cX0_runProgram 28 = .ok (.iload_n 2, 1) := by decide +kernel
theorem dX0_runProgram_29 : decode cX0_runProgram 29 = .ok (.aaload, 1) := by decide +kernel
theorem dX0_runProgram_30 : decode cX0_runProgram 30 = .ok (.iload 5, 2) := by decide +kernel
theorem dX0_runProgram_32 : decode cX0_runProgram 32 = .ok (.iaload, 1) := by decide +kernel
theorem dX0_runProgram_33 : decode cX0_runProgram 33 = .ok (.aload_n 0, 1) := by decide +kernel
theorem dX0_runProgram_34 : decode cX0_runProgram 34 = .ok (.getfield 14, 3) := by decide +kernel
theorem dX0_runProgram_37 : decode cX0_runProgram 37 = .ok (.iload_n 2, 1) := by decide +kernel
theorem dX0_runProgram_38 : decode cX0_runProgram 38 = .ok (.aaload, 1) := by decide +kernel
theorem dX0_runProgram_39 : decode cX0_runProgram 39 = .ok (.iload 5, 2) := by decide +kernel
theorem dX0_runProgram_41 : decode cX0_runProgram 41 = .ok (.iaload, 1) := by decide +kernel
theorem dX0_runProgram_42 : decode cX0_runProgram 42 = .ok (.iload_n 3, 1) := by decide +kernel
theorem dX0_runProgram_43 : decode cX0_runProgram 43 = .ok (.invokevirtual 81, 3) := by decide +kernel
theorem dX0_runProgram_46 : decode cX0_runProgram 46 = .ok (.istore 4, 2) := by decide +kernel
theorem dX0_runProgram_48 : decode cX0_runProgram 48 = .ok (.iinc 5 1, 3) := by decide +kernel
theorem dX0_runProgram_51 : decode cX0_runProgram 51 = .ok (.goto (-45), 3) := by decide +kernel
theorem dX0_runProgram_54 : decode cX0_runProgram 54 = .ok (.aload_n 0, 1) := by decide +kernel
theorem dX0_runProgram_55 : decode cX0_runProgram 55 = .ok (.iload_n 1, 1) := by decide +kernel
theorem dX0_runProgram_56 : decode cX0_runProgram 56 = .ok (.iload_n 2, 1) := by decide +kernel
theorem dX0_runProgram_57 : decode cX0_runProgram 57 = .ok (.iload 5, 2) := by decide +kernel
theorem dX0_runProgram_59 : decode cX0_runProgram 59 = .ok (.invokevirtual 85, 3) := by decide +kernel
theorem dX0_runProgram_62 : decode cX0_runProgram 62 = .ok (.iload 4, 2) := by decide +kernel
theorem dX0_runProgram_64 : decode cX0_runProgram 64 = .ok (.ireturn, 1) := by decide +kernel
theorem dX0_noteGuards_0 : decode cX0_noteGuards 0 = .ok (.iload_n 3, 1) := by decide +kernel
theorem dX0_noteGuards_1 : decode cX0_noteGuards 1 = .ok (.iconst 1, 1) := by decide +kernel
theorem dX0_noteGuards_2 : decode cX0_noteGuards 2 = .ok (.isub, 1) := by decide +kernel
theorem dX0_noteGuards_3 : decode cX0_noteGuards 3 = .ok (.istore 4, 2) := by decide +kernel
theorem dX0_noteGuards_5 : decode cX0_noteGuards 5 = .ok (.iload 4, 2) := by decide +kernel
theorem dX0_noteGuards_7 : decode cX0_noteGuards 7 = .ok (.ifCond .lt 36, 3) := by decide +kernel
theorem dX0_noteGuards_10 : decode cX0_noteGuards 10 = .ok (.aload_n 0, 1) := by decide +kernel
theorem dX0_noteGuards_11 : decode cX0_noteGuards 11 = .ok (.getfield 11, 3) := by decide +kernel
theorem dX0_noteGuards_14 : decode cX0_noteGuards 14 = .ok (.iload_n 2, 1) := by decide +kernel
theorem dX0_noteGuards_15 : decode cX0_noteGuards 15 = .ok (.aaload, 1) := by decide +kernel
theorem dX0_noteGuards_16 : decode cX0_noteGuards 16 = .ok (.iload 4, 2) := by decide +kernel
theorem dX0_noteGuards_18 : decode cX0_noteGuards 18 = .ok (.iaload, 1) := by decide +kernel
theorem dX0_noteGuards_19 : decode cX0_noteGuards 19 = .ok (.iconst 5, 1) := by decide +kernel
theorem dX0_noteGuards_20 : decode cX0_noteGuards 20 = .ok (.if_icmp .ne 17, 3) := by decide +kernel
theorem dX0_noteGuards_23 : decode cX0_noteGuards 23 = .ok (.aload_n 0, 1) := by decide +kernel
theorem dX0_noteGuards_24 : decode cX0_noteGuards 24 = .ok (.iload_n 1, 1) := by decide +kernel
theorem dX0_noteGuards_25 : decode cX0_noteGuards 25 = .ok (.aload_n 0, 1) := by decide +kernel
theorem dX0_noteGuards_26 : decode cX0_noteGuards 26 = .ok (.getfield 14, 3) := by decide +kernel
theorem dX0_noteGuards_29 : decode cX0_noteGuards 29 = .ok (.iload_n 2, 1) := by decide +kernel
theorem dX0_noteGuards_30 : decode cX0_noteGuards 30 = .ok (.aaload, 1) := by decide +kernel
theorem dX0_noteGuards_31 : decode cX0_noteGuards 31 = .ok (.iload 4, 2) := by decide +kernel
theorem dX0_noteGuards_33 : decode cX0_noteGuards 33 = .ok (.iaload, 1) := by decide +kernel
theorem dX0_noteGuards_34 : decode cX0_noteGuards 34 = .ok (.invokevirtual 74, 3) := by decide +kernel
theorem dX0_noteGuards_37 : decode cX0_noteGuards 37 = .ok (.iinc 4 (-1), 3) := by decide +kernel
theorem dX0_noteGuards_40 : decode cX0_noteGuards 40 = .ok (.goto (-35), 3) := by decide +kernel
theorem dX0_noteGuards_43 : decode cX0_noteGuards 43 = .ok (.return_, 1) := by decide +kernel
theorem dX0_obey_0 : decode cX0_obey 0 = .ok (.iload_n 2, 1) := by decide +kernel
theorem dX0_obey_1 : decode cX0_obey 1 = .ok (.tableswitch 87 0 4 #[35, 43, 55, 62, 69], 35) := by decide +kernel
theorem dX0_obey_36 : decode cX0_obey 36 = .ok (.aload_n 0, 1) := by decide +kernel
theorem dX0_obey_37 : decode cX0_obey 37 = .ok (.iload_n 1, 1) := by decide +kernel
theorem dX0_obey_38 : decode cX0_obey 38 = .ok (.iload_n 3, 1) := by decide +kernel
theorem dX0_obey_39 : decode cX0_obey 39 = .ok (.invokevirtual 74, 3) := by decide +kernel
theorem dX0_obey_42 : decode cX0_obey 42 = .ok (.iconst 0, 1) := by decide +kernel
theorem dX0_obey_43 : decode cX0_obey 43 = .ok (.ireturn, 1) := by decide +kernel
theorem dX0_obey_44 : decode cX0_obey 44 = .ok (.aload_n 0, 1) := by decide +kernel
theorem dX0_obey_45 : decode cX0_obey 45 = .ok (.iload_n 1, 1) := by decide +kernel
theorem dX0_obey_46 : decode cX0_obey 46 = .ok (.iload_n 3, 1) := by decide +kernel
theorem dX0_obey_47 : decode cX0_obey 47 = .ok (.bipush 7, 2) := by decide +kernel
theorem dX0_obey_49 : decode cX0_obey 49 = .ok (.iand, 1) := by decide +kernel
theorem dX0_obey_50 : decode cX0_obey 50 = .ok (.iload 4, 2) := by decide +kernel
theorem dX0_obey_52 : decode cX0_obey 52 = .ok (.invokevirtual 89, 3) := by decide +kernel
theorem dX0_obey_55 : decode cX0_obey 55 = .ok (.ireturn, 1) := by decide +kernel
theorem dX0_obey_56 : decode cX0_obey 56 = .ok (.aload_n 0, 1) := by decide +kernel
theorem dX0_obey_57 : decode cX0_obey 57 = .ok (.iload_n 3, 1) := by decide +kernel
theorem dX0_obey_58 : decode cX0_obey 58 = .ok (.putfield 37, 3) := by decide +kernel
theorem dX0_obey_61 : decode cX0_obey 61 = .ok (.iconst 4, 1) := by decide +kernel
theorem dX0_obey_62 : decode cX0_obey 62 = .ok (.ireturn, 1) := by decide +kernel
theorem dX0_obey_63 : decode cX0_obey 63 = .ok (.aload_n 0, 1) := by decide +kernel
theorem dX0_obey_64 : decode cX0_obey 64 = .ok (.iload_n 3, 1) := by decide +kernel
theorem dX0_obey_65 : decode cX0_obey 65 = .ok (.putfield 37, 3) := by decide +kernel
theorem dX0_obey_68 : decode cX0_obey 68 = .ok (.iconst 2, 1) := by decide +kernel
theorem dX0_obey_69 : decode cX0_obey 69 = .ok (.ireturn, 1) := by decide +kernel
theorem dX0_obey_70 : decode cX0_obey 70 = .ok (.aload_n 0, 1) := by decide +kernel
theorem dX0_obey_71 : decode cX0_obey 71 = .ok (.iload_n 1, 1) := by decide +kernel
theorem dX0_obey_72 : decode cX0_obey 72 = .ok (.aload_n 0, 1) := by decide +kernel
theorem dX0_obey_73 : decode cX0_obey 73 = .ok (.iload_n 1, 1) := by decide +kernel
theorem dX0_obey_74 : decode cX0_obey 74 = .ok (.iload_n 3, 1) := by decide +kernel
theorem dX0_obey_75 : decode cX0_obey 75 = .ok (.bipush 7, 2) := by decide +kernel
theorem dX0_obey_77 : decode cX0_obey 77 = .ok (.iand, 1) := by decide +kernel
theorem dX0_obey_78 : decode cX0_obey 78 = .ok (.iload 4, 2) := by decide +kernel
theorem dX0_obey_80 : decode cX0_obey 80 = .ok (.invokevirtual 89, 3) := by decide +kernel
theorem dX0_obey_83 : decode cX0_obey 83 = .ok (.invokevirtual 92, 3) := by decide +kernel
theorem dX0_obey_86 : decode cX0_obey 86 = .ok (.iconst 0, 1) := by decide +kernel
theorem dX0_obey_87 : decode cX0_obey 87 = .ok (.ireturn, 1) := by decide +kernel
theorem dX0_obey_88 : decode cX0_obey 88 = .ok (.iconst 0, 1) := by decide +kernel
theorem dX0_obey_89 : decode cX0_obey 89 = .ok (.ireturn, 1) := by decide +kernel
theorem dX0_readAndNote_0 : decode cX0_readAndNote 0 = .ok (.aload_n 0, 1) := by decide +kernel
theorem dX0_readAndNote_1 : decode cX0_readAndNote 1 = .ok (.iload_n 1, 1) := by decide +kernel
theorem dX0_readAndNote_2 : decode cX0_readAndNote 2 = .ok (.iload_n 2, 1) := by decide +kernel
theorem dX0_readAndNote_3 : decode cX0_readAndNote 3 = .ok (.iload_n 3, 1) := by decide +kernel
theorem dX0_readAndNote_4 : decode cX0_readAndNote 4 = .ok (.invokevirtual 55, 3) := by decide +kernel
theorem dX0_readAndNote_7 : decode cX0_readAndNote 7 = .ok (.istore 4, 2) := by decide +kernel
theorem dX0_readAndNote_9 : decode cX0_readAndNote 9 = .ok (.iload 4, 2) := by decide +kernel
theorem dX0_readAndNote_11 : decode cX0_readAndNote 11 = .ok (.ifCond .ne 16, 3) := by decide +kernel
theorem dX0_readAndNote_14 : decode cX0_readAndNote 14 = .ok (.aload_n 0, 1) := by decide +kernel
theorem dX0_readAndNote_15 : decode cX0_readAndNote 15 = .ok (.iload_n 1, 1) := by decide +kernel
theorem dX0_readAndNote_16 : decode cX0_readAndNote 16 = .ok (.aload_n 0, 1) := by decide +kernel
theorem dX0_readAndNote_17 : decode cX0_readAndNote 17 = .ok (.getfield 24, 3) := by decide +kernel
theorem dX0_readAndNote_20 : decode cX0_readAndNote 20 = .ok (.iload_n 1, 1) := by decide +kernel
theorem dX0_readAndNote_21 : decode cX0_readAndNote 21 = .ok (.aaload, 1) := by decide +kernel
theorem dX0_readAndNote_22 : decode cX0_readAndNote 22 = .ok (.iload_n 2, 1) := by decide +kernel
theorem dX0_readAndNote_23 : decode cX0_readAndNote 23 = .ok (.iaload, 1) := by decide +kernel
theorem dX0_readAndNote_24 : decode cX0_readAndNote 24 = .ok (.invokevirtual 74, 3) := by decide +kernel
theorem dX0_readAndNote_27 : decode cX0_readAndNote 27 = .ok (.iload 4, 2) := by decide +kernel
theorem dX0_readAndNote_29 : decode cX0_readAndNote 29 = .ok (.ireturn, 1) := by decide +kernel
theorem dX0_noteIfWrong_0 : decode cX0_noteIfWrong 0 = .ok (.iload_n 2, 1) := by decide +kernel
theorem dX0_noteIfWrong_1 : decode cX0_noteIfWrong 1 = .ok (.ifCond .eq 29, 3) := by decide +kernel
theorem dX0_noteIfWrong_4 : decode cX0_noteIfWrong 4 = .ok (.aload_n 0, 1) := by decide +kernel
theorem dX0_noteIfWrong_5 : decode cX0_noteIfWrong 5 = .ok (.iload_n 1, 1) := by decide +kernel
theorem dX0_noteIfWrong_6 : decode cX0_noteIfWrong 6 = .ok (.sipush 1000, 3) := by decide +kernel
theorem dX0_noteIfWrong_9 : decode cX0_noteIfWrong 9 = .ok (.bipush 100, 2) := by decide +kernel
theorem dX0_noteIfWrong_11 : decode cX0_noteIfWrong 11 = .ok (.iload_n 2, 1) := by decide +kernel
theorem dX0_noteIfWrong_12 : decode cX0_noteIfWrong 12 = .ok (.imul, 1) := by decide +kernel
theorem dX0_noteIfWrong_13 : decode cX0_noteIfWrong 13 = .ok (.iadd, 1) := by decide +kernel
theorem dX0_noteIfWrong_14 : decode cX0_noteIfWrong 14 = .ok (.aload_n 0, 1) := by decide +kernel
theorem dX0_noteIfWrong_15 : decode cX0_noteIfWrong 15 = .ok (.getfield 37, 3) := by decide +kernel
theorem dX0_noteIfWrong_18 : decode cX0_noteIfWrong 18 = .ok (.bipush 63, 2) := by decide +kernel
theorem dX0_noteIfWrong_20 : decode cX0_noteIfWrong 20 = .ok (.iand, 1) := by decide +kernel
theorem dX0_noteIfWrong_21 : decode cX0_noteIfWrong 21 = .ok (.iadd, 1) := by decide +kernel
theorem dX0_noteIfWrong_22 : decode cX0_noteIfWrong 22 = .ok (.invokevirtual 74, 3) := by decide +kernel
theorem dX0_noteIfWrong_25 : decode cX0_noteIfWrong 25 = .ok (.aload_n 0, 1) := by decide +kernel
theorem dX0_noteIfWrong_26 : decode cX0_noteIfWrong 26 = .ok (.iconst 0, 1) := by decide +kernel
theorem dX0_noteIfWrong_27 : decode cX0_noteIfWrong 27 = .ok (.putfield 37, 3) := by decide +kernel
theorem dX0_noteIfWrong_30 : decode cX0_noteIfWrong 30 = .ok (.return_, 1) := by decide +kernel
theorem dX0_note_0 : decode cX0_note 0 = .ok (.aload_n 0, 1) := by decide +kernel
theorem dX0_note_1 : decode cX0_note 1 = .ok (.getfield 27, 3) := by decide +kernel
theorem dX0_note_4 : decode cX0_note 4 = .ok (.iload_n 1, 1) := by decide +kernel
theorem dX0_note_5 : decode cX0_note 5 = .ok (.aaload, 1) := by decide +kernel
theorem dX0_note_6 : decode cX0_note 6 = .ok (.aload_n 0, 1) := by decide +kernel
theorem dX0_note_7 : decode cX0_note 7 = .ok (.getfield 30, 3) := by decide +kernel
theorem dX0_note_10 : decode cX0_note 10 = .ok (.iload_n 1, 1) := by decide +kernel
theorem dX0_note_11 : decode cX0_note 11 = .ok (.iaload, 1) := by decide +kernel
theorem dX0_note_12 : decode cX0_note 12 = .ok (.bipush 31, 2) := by decide +kernel
theorem dX0_note_14 : decode cX0_note 14 = .ok (.iand, 1) := by decide +kernel
theorem dX0_note_15 : decode cX0_note 15 = .ok (.iload_n 2, 1) := by decide +kernel
theorem dX0_note_16 : decode cX0_note 16 = .ok (.iastore, 1) := by decide +kernel
theorem dX0_note_17 : decode cX0_note 17 = .ok (.aload_n 0, 1) := by decide +kernel
theorem dX0_note_18 : decode cX0_note 18 = .ok (.getfield 30, 3) := by decide +kernel
theorem dX0_note_21 : decode cX0_note 21 = .ok (.iload_n 1, 1) := by decide +kernel
theorem dX0_note_22 : decode cX0_note 22 = .ok (.dup2, 1) := by decide +kernel
theorem dX0_note_23 : decode cX0_note 23 = .ok (.iaload, 1) := by decide +kernel
theorem dX0_note_24 : decode cX0_note 24 = .ok (.iconst 1, 1) := by decide +kernel
theorem dX0_note_25 : decode cX0_note 25 = .ok (.iadd, 1) := by decide +kernel
theorem dX0_note_26 : decode cX0_note 26 = .ok (.iastore, 1) := by decide +kernel
theorem dX0_note_27 : decode cX0_note 27 = .ok (.return_, 1) := by decide +kernel
