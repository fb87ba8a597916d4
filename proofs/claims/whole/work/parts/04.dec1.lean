theorem dX1_init_0 : decode cX1_init 0 = .ok (.aload_n 0, 1) := by decide +kernel
theorem dX1_init_1 : decode cX1_init 1 = .ok (.invokespecial 1, 3) := by decide +kernel
theorem dX1_init_4 : decode cX1_init 4 = .ok (.aload_n 0, 1) := by decide +kernel
theorem dX1_init_5 : decode cX1_init 5 = .ok (.bipush 40, 2) := by decide +kernel
theorem dX1_init_7 : decode cX1_init 7 = .ok (.newarray .int, 2) := by decide +kernel
theorem dX1_init_9 : decode cX1_init 9 = .ok (.putfield 7, 3) := by decide +kernel
theorem dX1_init_12 : decode cX1_init 12 = .ok (.aload_n 0, 1) := by decide +kernel
theorem dX1_init_13 : decode cX1_init 13 = .ok (.bipush 40, 2) := by decide +kernel
theorem dX1_init_15 : decode cX1_init 15 = .ok (.newarray .int, 2) := by decide +kernel
theorem dX1_init_17 : decode cX1_init 17 = .ok (.putfield 13, 3) := by decide +kernel
theorem dX1_init_20 : decode cX1_init 20 = .ok (.aload_n 0, 1) := by decide +kernel
theorem dX1_init_21 : decode cX1_init 21 = .ok (.bipush 8, 2) := by decide +kernel
theorem dX1_init_23 : decode cX1_init 23 = .ok (.newarray .int, 2) := by decide +kernel
theorem dX1_init_25 : decode cX1_init 25 = .ok (.putfield 16, 3) := by decide +kernel
theorem dX1_init_28 : decode cX1_init 28 = .ok (.aload_n 0, 1) := by decide +kernel
theorem dX1_init_29 : decode cX1_init 29 = .ok (.bipush 16, 2) := by decide +kernel
theorem dX1_init_31 : decode cX1_init 31 = .ok (.newarray .int, 2) := by decide +kernel
theorem dX1_init_33 : decode cX1_init 33 = .ok (.putfield 19, 3) := by decide +kernel
theorem dX1_init_36 : decode cX1_init 36 = .ok (.aload_n 0, 1) := by decide +kernel
theorem dX1_init_37 : decode cX1_init 37 = .ok (.bipush 16, 2) := by decide +kernel
theorem dX1_init_39 : decode cX1_init 39 = .ok (.newarray .int, 2) := by decide +kernel
theorem dX1_init_41 : decode cX1_init 41 = .ok (.putfield 22, 3) := by decide +kernel
theorem dX1_init_44 : decode cX1_init 44 = .ok (.aload_n 0, 1) := by decide +kernel
theorem dX1_init_45 : decode cX1_init 45 = .ok (.bipush 64, 2) := by decide +kernel
theorem dX1_init_47 : decode cX1_init 47 = .ok (.newarray .int, 2) := by decide +kernel
theorem dX1_init_49 : decode cX1_init 49 = .ok (.putfield 25, 3) := by decide +kernel
theorem dX1_init_52 : decode cX1_init 52 = .ok (.aload_n 0, 1) := by decide +kernel
theorem dX1_init_53 : decode cX1_init 53 = .ok (.iconst 2, 1) := by decide +kernel
theorem dX1_init_54 : decode cX1_init 54 = .ok (.newarray .int, 2) := by decide +kernel
theorem dX1_init_56 : decode cX1_init 56 = .ok (.putfield 28, 3) := by decide +kernel
theorem dX1_init_59 : decode cX1_init 59 = .ok (.aload_n 0, 1) := by decide +kernel
theorem dX1_init_60 : decode cX1_init 60 = .ok (.bipush 16, 2) := by decide +kernel
theorem dX1_init_62 : decode cX1_init 62 = .ok (.newarray .int, 2) := by decide +kernel
theorem dX1_init_64 : decode cX1_init 64 = .ok (.putfield 31, 3) := by decide +kernel
theorem dX1_init_67 : decode cX1_init 67 = .ok (.aload_n 0, 1) := by decide +kernel
theorem dX1_init_68 : decode cX1_init 68 = .ok (.bipush 9, 2) := by decide +kernel
theorem dX1_init_70 : decode cX1_init 70 = .ok (.newarray .int, 2) := by decide +kernel
theorem dX1_init_72 : decode cX1_init 72 = .ok (.putfield 34, 3) := by decide +kernel
theorem dX1_init_75 : decode cX1_init 75 = .ok (.aload_n 0, 1) := by decide +kernel
theorem dX1_init_76 : decode cX1_init 76 = .ok (.bipush 9, 2) := by decide +kernel
theorem dX1_init_78 : decode cX1_init 78 = .ok (.newarray .int, 2) := by decide +kernel
theorem dX1_init_80 : decode cX1_init 80 = .ok (.putfield 37, 3) := by decide +kernel
theorem dX1_init_83 : decode cX1_init 83 = .ok (.aload_n 0, 1) := by decide +kernel
theorem dX1_init_84 : decode cX1_init 84 = .ok (.bipush 9, 2) := by decide +kernel
theorem dX1_init_86 : decode cX1_init 86 = .ok (.newarray .int, 2) := by decide +kernel
theorem dX1_init_88 : decode cX1_init 88 = .ok (.putfield 40, 3) := by decide +kernel
theorem dX1_init_91 : decode cX1_init 91 = .ok (.aload_n 0, 1) := by decide +kernel
theorem dX1_init_92 : decode cX1_init 92 = .ok (.bipush 9, 2) := by decide +kernel
theorem dX1_init_94 : decode cX1_init 94 = .ok (.newarray .int, 2) := by decide +kernel
theorem dX1_init_96 : decode cX1_init 96 = .ok (.putfield 43, 3) := by decide +kernel
theorem dX1_init_99 : decode cX1_init 99 = .ok (.aload_n 0, 1) := by decide +kernel
theorem dX1_init_100 : decode cX1_init 100 = .ok (.bipush 45, 2) := by decide +kernel
theorem dX1_init_102 : decode cX1_init 102 = .ok (.newarray .int, 2) := by decide +kernel
theorem dX1_init_104 : decode cX1_init 104 = .ok (.putfield 46, 3) := by decide +kernel
theorem dX1_init_107 : decode cX1_init 107 = .ok (.aload_n 0, 1) := by decide +kernel
theorem dX1_init_108 : decode cX1_init 108 = .ok (.getfield 31, 3) := by decide +kernel
theorem dX1_init_111 : decode cX1_init 111 = .ok (.iconst 2, 1) := by decide +kernel
theorem dX1_init_112 : decode cX1_init 112 = .ok (.iconst 1, 1) := by decide +kernel
theorem dX1_init_113 : decode cX1_init 113 = .ok (.iastore, 1) := by decide +kernel
theorem dX1_init_114 : decode cX1_init 114 = .ok (.aload_n 0, 1) := by decide +kernel
theorem dX1_init_115 : decode cX1_init 115 = .ok (.getfield 31, 3) := by decide +kernel
theorem dX1_init_118 : decode cX1_init 118 = .ok (.iconst 4, 1) := by decide +kernel
theorem dX1_init_119 : decode cX1_init 119 = .ok (.iconst 2, 1) := by decide +kernel
theorem dX1_init_120 : decode cX1_init 120 = .ok (.iastore, 1) := by decide +kernel
theorem dX1_init_121 : decode cX1_init 121 = .ok (.aload_n 0, 1) := by decide +kernel
theorem dX1_init_122 : decode cX1_init 122 = .ok (.getfield 31, 3) := by decide +kernel
theorem dX1_init_125 : decode cX1_init 125 = .ok (.iconst 5, 1) := by decide +kernel
theorem dX1_init_126 : decode cX1_init 126 = .ok (.bipush 6, 2) := by decide +kernel
theorem dX1_init_128 : decode cX1_init 128 = .ok (.iastore, 1) := by decide +kernel
theorem dX1_init_129 : decode cX1_init 129 = .ok (.aload_n 0, 1) := by decide +kernel
theorem dX1_init_130 : decode cX1_init 130 = .ok (.getfield 31, 3) := by decide +kernel
theorem dX1_init_133 : decode cX1_init 133 = .ok (.bipush 8, 2) := by decide +kernel
theorem dX1_init_135 : decode cX1_init 135 = .ok (.iconst 4, 1) := by decide +kernel
theorem dX1_init_136 : decode cX1_init 136 = .ok (.iastore, 1) := by decide +kernel
theorem dX1_init_137 : decode cX1_init 137 = .ok (.aload_n 0, 1) := by decide +kernel
theorem dX1_init_138 : decode cX1_init 138 = .ok (.getfield 31, 3) := by decide +kernel
theorem dX1_init_141 : decode cX1_init 141 = .ok (.bipush 9, 2) := by decide +kernel
theorem dX1_init_143 : decode cX1_init 143 = .ok (.bipush 6, 2) := by decide +kernel
theorem dX1_init_145 : decode cX1_init 145 = .ok (.iastore, 1) := by decide +kernel
theorem dX1_init_146 : decode cX1_init 146 = .ok (.return_, 1) := by decide +kernel
theorem dX1_in_0 : decode cX1_in 0 = .ok (.iload_n 0, 1) := by decide +kernel
theorem dX1_in_1 : decode cX1_in 1 = .ok (.iload_n 1, 1) := by decide +kernel
theorem dX1_in_2 : decode cX1_in 2 = .ok (.if_icmp .lt 12, 3) := by decide +kernel
theorem dX1_in_5 : decode cX1_in 5 = .ok (.iload_n 0, 1) := by decide +kernel
theorem dX1_in_6 : decode cX1_in 6 = .ok (.iload_n 2, 1) := by decide +kernel
theorem dX1_in_7 : decode cX1_in 7 = .ok (.if_icmp .gt 7, 3) := by decide +kernel
theorem dX1_in_10 : decode cX1_in 10 = .ok (.iconst 1, 1) := by decide +kernel
theorem dX1_in_11 : decode cX1_in 11 = .ok (.goto 4, 3) := by decide +kernel
theorem dX1_in_14 : decode cX1_in 14 = .ok (.iconst 0, 1) := by decide +kernel
theorem dX1_in_15 : decode cX1_in 15 = .ok (.ireturn, 1) := by decide +kernel
theorem dX1_order_0 : decode cX1_order 0 = .ok (.iload_n 1, 1) := by decide +kernel
theorem dX1_order_1 : decode cX1_order 1 = .ok (.iconst 0, 1) := by decide +kernel
theorem dX1_order_2 : decode cX1_order 2 = .ok (.bipush 7, 2) := by decide +kernel
theorem dX1_order_4 : decode cX1_order 4 = .ok (.invokestatic 49, 3) := by decide +kernel
theorem dX1_order_7 : decode cX1_order 7 = .ok (.ifCond .eq 12, 3) := by decide +kernel
theorem dX1_order_10 : decode cX1_order 10 = .ok (.iload_n 2, 1) := by decide +kernel
theorem dX1_order_11 : decode cX1_order 11 = .ok (.iconst 0, 1) := by decide +kernel
theorem dX1_order_12 : decode cX1_order 12 = .ok (.iconst 5, 1) := by decide +kernel
theorem dX1_order_13 : decode cX1_order 13 = .ok (.invokestatic 49, 3) := by decide +kernel
theorem dX1_order_16 : decode cX1_order 16 = .ok (.ifCond .ne 5, 3) := by decide +kernel
theorem dX1_order_19 : decode cX1_order 19 = .ok (.iconst (-1), 1) := by decide +kernel
theorem dX1_order_20 : decode cX1_order 20 = .ok (.ireturn, 1) := by decide +kernel
theorem dX1_order_21 : decode cX1_order 21 = .ok (.aload_n 0, 1) := by decide +kernel
theorem dX1_order_22 : decode cX1_order 22 = .ok (.getfield 16, 3) := by decide +kernel
theorem dX1_order_25 : decode cX1_order 25 = .ok (.iload_n 1, 1) := by decide +kernel
theorem dX1_order_26 : decode cX1_order 26 = .ok (.iaload, 1) := by decide +kernel
theorem dX1_order_27 : decode cX1_order 27 = .ok (.iconst 5, 1) := by decide +kernel
theorem dX1_order_28 : decode cX1_order 28 = .ok (.if_icmp .ne 6, 3) := by decide +kernel
theorem dX1_order_31 : decode cX1_order 31 = .ok (.bipush (-2), 2) := by decide +kernel
theorem dX1_order_33 : decode cX1_order 33 = .ok (.ireturn, 1) := by decide +kernel
theorem dX1_order_34 : decode cX1_order 34 = .ok (.aload_n 0, 1) := by decide +kernel
theorem dX1_order_35 : decode cX1_order 35 = .ok (.getfield 7, 3) := by decide +kernel
theorem dX1_order_38 : decode cX1_order 38 = .ok (.iconst 5, 1) := by decide +kernel
theorem dX1_order_39 : decode cX1_order 39 = .ok (.iload_n 1, 1) := by decide +kernel
theorem dX1_order_40 : decode cX1_order 40 = .ok (.imul, 1) := by decide +kernel
theorem dX1_order_41 : decode cX1_order 41 = .ok (.aload_n 0, 1) := by decide +kernel
theorem dX1_order_42 : decode cX1_order 42 = .ok (.getfield 16, 3) := by decide +kernel
theorem dX1_order_45 : decode cX1_order 45 = .ok (.iload_n 1, 1) := by decide +kernel
theorem dX1_order_46 : decode cX1_order 46 = .ok (.iaload, 1) := by decide +kernel
theorem dX1_order_47 : decode cX1_order 47 = .ok (.iadd, 1) := by decide +kernel
theorem dX1_order_48 : decode cX1_order 48 = .ok (.iload_n 2, 1) := by decide +kernel
theorem dX1_order_49 : decode cX1_order 49 = .ok (.iastore, 1) := by decide +kernel
theorem dX1_order_50 : decode cX1_order 50 = .ok (.aload_n 0, 1) := by decide +kernel
theorem dX1_order_51 : decode cX1_order 51 = .ok (.getfield 13, 3) := by decide +kernel
theorem dX1_order_54 : decode cX1_order 54 = .ok (.iconst 5, 1) := by decide +kernel
theorem dX1_order_55 : decode cX1_order 55 = .ok (.iload_n 1, 1) := by decide +kernel
theorem dX1_order_56 : decode cX1_order 56 = .ok (.imul, 1) := by decide +kernel
theorem dX1_order_57 : decode cX1_order 57 = .ok (.aload_n 0, 1) := by decide +kernel
theorem dX1_order_58 : decode cX1_order 58 = .ok (.getfield 16, 3) := by decide +kernel
theorem dX1_order_61 : decode cX1_order 61 = .ok (.iload_n 1, 1) := by decide +kernel
theorem dX1_order_62 : decode cX1_order 62 = .ok (.iaload, 1) := by decide +kernel
theorem dX1_order_63 : decode cX1_order 63 = .ok (.iadd, 1) := by decide +kernel
theorem dX1_order_64 : decode cX1_order 64 = .ok (.iload_n 3, 1) := by decide +kernel
theorem dX1_order_65 : decode cX1_order 65 = .ok (.iastore, 1) := by decide +kernel
theorem dX1_order_66 : decode cX1_order 66 = .ok (.aload_n 0, 1) := by decide +kernel
theorem dX1_order_67 : decode cX1_order 67 = .ok (.getfield 16, 3) := by decide +kernel
theorem dX1_order_70 : decode cX1_order 70 = .ok (.iload_n 1, 1) := by decide +kernel
theorem dX1_order_71 : decode cX1_order 71 = .ok (.dup2, 1) := by decide +kernel
theorem dX1_order_72 : decode cX1_order 72 = .ok (.iaload, 1) := by decide +kernel
theorem dX1_order_73 : decode cX1_order 73 = .ok (.iconst 1, 1) := by decide +kernel
theorem dX1_order_74 : decode cX1_order 74 = .ok (.iadd, 1) := by decide +kernel
theorem dX1_order_75 : decode cX1_order 75 = .ok (.iastore, 1) := by decide +kernel
theorem dX1_order_76 : decode cX1_order 76 = .ok (.aload_n 0, 1) := by decide +kernel
theorem dX1_order_77 : decode cX1_order 77 = .ok (.getfield 16, 3) := by decide +kernel
theorem dX1_order_80 : decode cX1_order 80 = .ok (.iload_n 1, 1) := by decide +kernel
theorem dX1_order_81 : decode cX1_order 81 = .ok (.iaload, 1) := by decide +kernel
theorem dX1_order_82 : decode cX1_order 82 = .ok (.ireturn, 1) := by decide +kernel
theorem dX1_noOrders_0 : decode cX1_noOrders 0 = .ok (.iload_n 1, 1) := by decide +kernel
theorem dX1_noOrders_1 : decode cX1_noOrders 1 = .ok (.iconst 0, 1) := by decide +kernel
theorem dX1_noOrders_2 : decode cX1_noOrders 2 = .ok (.bipush 7, 2) := by decide +kernel
theorem dX1_noOrders_4 : decode cX1_noOrders 4 = .ok (.invokestatic 49, 3) := by decide +kernel
theorem dX1_noOrders_7 : decode cX1_noOrders 7 = .ok (.ifCond .ne 5, 3) := by decide +kernel
theorem dX1_noOrders_10 : decode cX1_noOrders 10 = .ok (.iconst (-1), 1) := by decide +kernel
theorem dX1_noOrders_11 : decode cX1_noOrders 11 = .ok (.ireturn, 1) := by decide +kernel
theorem dX1_noOrders_12 : decode cX1_noOrders 12 = .ok (.aload_n 0, 1) := by decide +kernel
theorem dX1_noOrders_13 : decode cX1_noOrders 13 = .ok (.getfield 16, 3) := by decide +kernel
theorem dX1_noOrders_16 : decode cX1_noOrders 16 = .ok (.iload_n 1, 1) := by decide +kernel
theorem dX1_noOrders_17 : decode cX1_noOrders 17 = .ok (.iaload, 1) := by decide +kernel
theorem dX1_noOrders_18 : decode cX1_noOrders 18 = .ok (.istore_n 2, 1) := by decide +kernel
theorem dX1_noOrders_19 : decode cX1_noOrders 19 = .ok (.aload_n 0, 1) := by decide +kernel
theorem dX1_noOrders_20 : decode cX1_noOrders 20 = .ok (.getfield 16, 3) := by decide +kernel
theorem dX1_noOrders_23 : decode cX1_noOrders 23 = .ok (.iload_n 1, 1) := by decide +kernel
theorem dX1_noOrders_24 : decode cX1_noOrders 24 = .ok (.iconst 0, 1) := by decide +kernel
theorem dX1_noOrders_25 : decode cX1_noOrders 25 = .ok (.iastore, 1) := by decide +kernel
theorem dX1_noOrders_26 : decode cX1_noOrders 26 = .ok (.iload_n 2, 1) := by decide +kernel
theorem dX1_noOrders_27 : decode cX1_noOrders 27 = .ok (.ireturn, 1) := by decide +kernel
theorem dX1_build_0 : decode cX1_build 0 = .ok (.iload_n 1, 1) := by decide +kernel
theorem dX1_build_1 : decode cX1_build 1 = .ok (.iconst 0, 1) := by decide +kernel
theorem dX1_build_2 : decode cX1_build 2 = .ok (.iconst 1, 1) := by decide +kernel
theorem dX1_build_3 : decode cX1_build 3 = .ok (.invokestatic 49, 3) := by decide +kernel
theorem dX1_build_6 : decode cX1_build 6 = .ok (.ifCond .ne 5, 3) := by decide +kernel
theorem dX1_build_9 : decode cX1_build 9 = .ok (.iconst (-1), 1) := by decide +kernel
theorem dX1_build_10 : decode cX1_build 10 = .ok (.ireturn, 1) := by decide +kernel
theorem dX1_build_11 : decode cX1_build 11 = .ok (.iconst 0, 1) := by decide +kernel
theorem dX1_build_12 : decode cX1_build 12 = .ok (.istore_n 2, 1) := by decide +kernel
theorem dX1_build_13 : decode cX1_build 13 = .ok (.iload_n 2, 1) := by decide +kernel
theorem dX1_build_14 : decode cX1_build 14 = .ok (.bipush 8, 2) := by decide +kernel
theorem dX1_build_16 : decode cX1_build 16 = .ok (.if_icmp .ge 33, 3) := by decide +kernel
theorem dX1_build_19 : decode cX1_build 19 = .ok (.aload_n 0, 1) := by decide +kernel
theorem dX1_build_20 : decode cX1_build 20 = .ok (.getfield 19, 3) := by decide +kernel
theorem dX1_build_23 : decode cX1_build 23 = .ok (.bipush 8, 2) := by decide +kernel
theorem dX1_build_25 : decode cX1_build 25 = .ok (.iload_n 1, 1) := by decide +kernel
theorem dX1_build_26 : decode cX1_build 26 = .ok (.imul, 1) := by decide +kernel
theorem dX1_build_27 : decode cX1_build 27 = .ok (.iload_n 2, 1) := by decide +kernel
theorem dX1_build_28 : decode cX1_build 28 = .ok (.iadd, 1) := by decide +kernel
theorem dX1_build_29 : decode cX1_build 29 = .ok (.iconst 0, 1) := by decide +kernel
theorem dX1_build_30 : decode cX1_build 30 = .ok (.iastore, 1) := by decide +kernel
theorem dX1_build_31 : decode cX1_build 31 = .ok (.aload_n 0, 1) := by decide +kernel
theorem dX1_build_32 : decode cX1_build 32 = .ok (.getfield 22, 3) := by decide +kernel
theorem dX1_build_35 : decode cX1_build 35 = .ok (.bipush 8, 2) := by decide +kernel
theorem dX1_build_37 : decode cX1_build 37 = .ok (.iload_n 1, 1) := by decide +kernel
theorem dX1_build_38 : decode cX1_build 38 = .ok (.imul, 1) := by decide +kernel
theorem dX1_build_39 : decode cX1_build 39 = .ok (.iload_n 2, 1) := by decide +kernel
theorem dX1_build_40 : decode cX1_build 40 = .ok (.iadd, 1) := by decide +kernel
theorem dX1_build_41 : decode cX1_build 41 = .ok (.iconst 0, 1) := by decide +kernel
theorem dX1_build_42 : decode cX1_build 42 = .ok (.iastore, 1) := by decide +kernel
theorem dX1_build_43 : decode cX1_build 43 = .ok (.iinc 2 1, 3) := by decide +kernel
theorem dX1_build_46 : decode cX1_build 46 = .ok (.goto (-33), 3) := by decide +kernel
theorem dX1_build_49 : decode cX1_build 49 = .ok (.aload_n 0, 1) := by decide +kernel
theorem dX1_build_50 : decode cX1_build 50 = .ok (.getfield 28, 3) := by decide +kernel
theorem dX1_build_53 : decode cX1_build 53 = .ok (.iload_n 1, 1) := by decide +kernel
theorem dX1_build_54 : decode cX1_build 54 = .ok (.iconst 0, 1) := by decide +kernel
theorem dX1_build_55 : decode cX1_build 55 = .ok (.iastore, 1) := by decide +kernel
theorem dX1_build_56 : decode cX1_build 56 = .ok (.iconst 0, 1) := by decide +kernel
theorem dX1_build_57 : decode cX1_build 57 = .ok (.ireturn, 1) := by decide +kernel
theorem dX1_note_0 : decode cX1_note 0 = .ok (.bipush 31, 2) := by decide +kernel
theorem dX1_note_2 : decode cX1_note 2 = .ok (.istore_n 2, 1) := by decide +kernel
theorem dX1_note_3 : decode cX1_note 3 = .ok (.iload_n 2, 1) := by decide +kernel
theorem dX1_note_4 : decode cX1_note 4 = .ok (.ifCond .le 39, 3) := by decide +kernel
theorem dX1_note_7 : decode cX1_note 7 = .ok (.aload_n 0, 1) := by decide +kernel
theorem dX1_note_8 : decode cX1_note 8 = .ok (.getfield 25, 3) := by decide +kernel
theorem dX1_note_11 : decode cX1_note 11 = .ok (.bipush 32, 2) := by decide +kernel
theorem dX1_note_13 : decode cX1_note 13 = .ok (.aload_n 0, 1) := by decide +kernel
theorem dX1_note_14 : decode cX1_note 14 = .ok (.getfield 53, 3) := by decide +kernel
theorem dX1_note_17 : decode cX1_note 17 = .ok (.imul, 1) := by decide +kernel
theorem dX1_note_18 : decode cX1_note 18 = .ok (.iload_n 2, 1) := by decide +kernel
theorem dX1_note_19 : decode cX1_note 19 = .ok (.iadd, 1) := by decide +kernel
theorem dX1_note_20 : decode cX1_note 20 = .ok (.aload_n 0, 1) := by decide +kernel
theorem dX1_note_21 : decode cX1_note 21 = .ok (.getfield 25, 3) := by decide +kernel
theorem dX1_note_24 : decode cX1_note 24 = .ok (.bipush 32, 2) := by decide +kernel
theorem dX1_note_26 : decode cX1_note 26 = .ok (.aload_n 0, 1) := by decide +kernel
theorem dX1_note_27 : decode cX1_note 27 = .ok (.getfield 53, 3) := by decide +kernel
theorem dX1_note_30 : decode cX1_note 30 = .ok (.imul, 1) := by decide +kernel
theorem dX1_note_31 : decode cX1_note 31 = .ok (.iload_n 2, 1) := by decide +kernel
theorem dX1_note_32 : decode cX1_note 32 = .ok (.iadd, 1) := by decide +kernel
theorem dX1_note_33 : decode cX1_note 33 = .ok (.iconst 1, 1) := by decide +kernel
theorem dX1_note_34 : decode cX1_note 34 = .ok (.isub, 1) := by decide +kernel
theorem dX1_note_35 : decode cX1_note 35 = .ok (.iaload, 1) := by decide +kernel
theorem dX1_note_36 : decode cX1_note 36 = .ok (.iastore, 1) := by decide +kernel
theorem dX1_note_37 : decode cX1_note 37 = .ok (.iinc 2 (-1), 3) := by decide +kernel
theorem dX1_note_40 : decode cX1_note 40 = .ok (.goto (-37), 3) := by decide +kernel
theorem dX1_note_43 : decode cX1_note 43 = .ok (.aload_n 0, 1) := by decide +kernel
theorem dX1_note_44 : decode cX1_note 44 = .ok (.getfield 25, 3) := by decide +kernel
theorem dX1_note_47 : decode cX1_note 47 = .ok (.bipush 32, 2) := by decide +kernel
theorem dX1_note_49 : decode cX1_note 49 = .ok (.aload_n 0, 1) := by decide +kernel
theorem dX1_note_50 : decode cX1_note 50 = .ok (.getfield 53, 3) := by decide +kernel
theorem dX1_note_53 : decode cX1_note 53 = .ok (.imul, 1) := by decide +kernel
theorem dX1_note_54 : decode cX1_note 54 = .ok (.iload_n 1, 1) := by decide +kernel
theorem dX1_note_55 : decode cX1_note 55 = .ok (.iastore, 1) := by decide +kernel
theorem dX1_note_56 : decode cX1_note 56 = .ok (.aload_n 0, 1) := by decide +kernel
theorem dX1_note_57 : decode cX1_note 57 = .ok (.getfield 28, 3) := by decide +kernel
theorem dX1_note_60 : decode cX1_note 60 = .ok (.aload_n 0, 1) := by decide +kernel
theorem dX1_note_61 : decode cX1_note 61 = .ok (.getfield 53, 3) := by decide +kernel
theorem dX1_note_64 : decode cX1_note 64 = .ok (.dup2, 1) := by decide +kernel
theorem dX1_note_65 : decode cX1_note 65 = .ok (.iaload, 1) := by decide +kernel
theorem dX1_note_66 : decode cX1_note 66 = .ok (.iconst 1, 1) := by decide +kernel
theorem dX1_note_67 : decode cX1_note 67 = .ok (.iadd, 1) := by decide +kernel
theorem dX1_note_68 : decode cX1_note 68 = .ok (.iastore, 1) := by decide +kernel
theorem dX1_note_69 : decode cX1_note 69 = .ok (.return_, 1) := by decide +kernel
theorem dX1_begin_0 : decode cX1_begin 0 = .ok (.aload_n 0, 1) := by decide +kernel
theorem dX1_begin_1 : decode cX1_begin 1 = .ok (.getfield 19, 3) := by decide +kernel
theorem dX1_begin_4 : decode cX1_begin 4 = .ok (.bipush 8, 2) := by decide +kernel
theorem dX1_begin_6 : decode cX1_begin 6 = .ok (.aload_n 0, 1) := by decide +kernel
theorem dX1_begin_7 : decode cX1_begin 7 = .ok (.getfield 53, 3) := by decide +kernel
theorem dX1_begin_10 : decode cX1_begin 10 = .ok (.imul, 1) := by decide +kernel
theorem dX1_begin_11 : decode cX1_begin 11 = .ok (.iload_n 1, 1) := by decide +kernel
theorem dX1_begin_12 : decode cX1_begin 12 = .ok (.iadd, 1) := by decide +kernel
theorem dX1_begin_13 : decode cX1_begin 13 = .ok (.iaload, 1) := by decide +kernel
theorem dX1_begin_14 : decode cX1_begin 14 = .ok (.istore_n 2, 1) := by decide +kernel
theorem dX1_begin_15 : decode cX1_begin 15 = .ok (.aload_n 0, 1) := by decide +kernel
theorem dX1_begin_16 : decode cX1_begin 16 = .ok (.iload_n 2, 1) := by decide +kernel
theorem dX1_begin_17 : decode cX1_begin 17 = .ok (.iconst 3, 1) := by decide +kernel
theorem dX1_begin_18 : decode cX1_begin 18 = .ok (.if_icmp .ne 7, 3) := by decide +kernel
theorem dX1_begin_21 : decode cX1_begin 21 = .ok (.iconst 3, 1) := by decide +kernel
theorem dX1_begin_22 : decode cX1_begin 22 = .ok (.goto 4, 3) := by decide +kernel
theorem dX1_begin_25 : decode cX1_begin 25 = .ok (.iconst 0, 1) := by decide +kernel
theorem dX1_begin_26 : decode cX1_begin 26 = .ok (.putfield 57, 3) := by decide +kernel
theorem dX1_begin_29 : decode cX1_begin 29 = .ok (.aload_n 0, 1) := by decide +kernel
theorem dX1_begin_30 : decode cX1_begin 30 = .ok (.iconst 0, 1) := by decide +kernel
theorem dX1_begin_31 : decode cX1_begin 31 = .ok (.putfield 60, 3) := by decide +kernel
theorem dX1_begin_34 : decode cX1_begin 34 = .ok (.iload_n 2, 1) := by decide +kernel
theorem dX1_begin_35 : decode cX1_begin 35 = .ok (.ifCond .eq 4, 3) := by decide +kernel
theorem dX1_begin_38 : decode cX1_begin 38 = .ok (.return_, 1) := by decide +kernel
theorem dX1_begin_39 : decode cX1_begin 39 = .ok (.aload_n 0, 1) := by decide +kernel
theorem dX1_begin_40 : decode cX1_begin 40 = .ok (.getfield 19, 3) := by decide +kernel
theorem dX1_begin_43 : decode cX1_begin 43 = .ok (.bipush 8, 2) := by decide +kernel
theorem dX1_begin_45 : decode cX1_begin 45 = .ok (.aload_n 0, 1) := by decide +kernel
theorem dX1_begin_46 : decode cX1_begin 46 = .ok (.getfield 53, 3) := by decide +kernel
theorem dX1_begin_49 : decode cX1_begin 49 = .ok (.imul, 1) := by decide +kernel
theorem dX1_begin_50 : decode cX1_begin 50 = .ok (.iload_n 1, 1) := by decide +kernel
theorem dX1_begin_51 : decode cX1_begin 51 = .ok (.iadd, 1) := by decide +kernel
theorem dX1_begin_52 : decode cX1_begin 52 = .ok (.iconst 1, 1) := by decide +kernel
theorem dX1_begin_53 : decode cX1_begin 53 = .ok (.iastore, 1) := by decide +kernel
theorem dX1_begin_54 : decode cX1_begin 54 = .ok (.aload_n 0, 1) := by decide +kernel
theorem dX1_begin_55 : decode cX1_begin 55 = .ok (.getfield 34, 3) := by decide +kernel
theorem dX1_begin_58 : decode cX1_begin 58 = .ok (.aload_n 0, 1) := by decide +kernel
theorem dX1_begin_59 : decode cX1_begin 59 = .ok (.getfield 63, 3) := by decide +kernel
theorem dX1_begin_62 : decode cX1_begin 62 = .ok (.iload_n 1, 1) := by decide +kernel
theorem dX1_begin_63 : decode cX1_begin 63 = .ok (.iastore, 1) := by decide +kernel
theorem dX1_begin_64 : decode cX1_begin 64 = .ok (.aload_n 0, 1) := by decide +kernel
theorem dX1_begin_65 : decode cX1_begin 65 = .ok (.getfield 37, 3) := by decide +kernel
theorem dX1_begin_68 : decode cX1_begin 68 = .ok (.aload_n 0, 1) := by decide +kernel
theorem dX1_begin_69 : decode cX1_begin 69 = .ok (.getfield 63, 3) := by decide +kernel
theorem dX1_begin_72 : decode cX1_begin 72 = .ok (.iconst 0, 1) := by decide +kernel
theorem dX1_begin_73 : decode cX1_begin 73 = .ok (.iastore, 1) := by decide +kernel
theorem dX1_begin_74 : decode cX1_begin 74 = .ok (.aload_n 0, 1) := by decide +kernel
theorem dX1_begin_75 : decode cX1_begin 75 = .ok (.getfield 40, 3) := by decide +kernel
theorem dX1_begin_78 : decode cX1_begin 78 = .ok (.aload_n 0, 1) := by decide +kernel
theorem dX1_begin_79 : decode cX1_begin 79 = .ok (.getfield 63, 3) := by decide +kernel
theorem dX1_begin_82 : decode cX1_begin 82 = .ok (.iconst 0, 1) := by decide +kernel
theorem dX1_begin_83 : decode cX1_begin 83 = .ok (.iastore, 1) := by decide +kernel
theorem dX1_begin_84 : decode cX1_begin 84 = .ok (.aload_n 0, 1) := by decide +kernel
theorem dX1_begin_85 : decode cX1_begin 85 = .ok (.getfield 43, 3) := by decide +kernel
theorem dX1_begin_88 : decode cX1_begin 88 = .ok (.aload_n 0, 1) := by decide +kernel
theorem dX1_begin_89 : decode cX1_begin 89 = .ok (.getfield 63, 3) := by decide +kernel
theorem dX1_begin_92 : decode cX1_begin 92 = .ok (.iconst 0, 1) := by decide +kernel
theorem dX1_begin_93 : decode cX1_begin 93 = .ok (.iastore, 1) := by decide +kernel
theorem dX1_begin_94 : decode cX1_begin 94 = .ok (.aload_n 0, 1) := by decide +kernel
theorem dX1_begin_95 : decode cX1_begin 95 = .ok (.dup, 1) := by decide +kernel
theorem dX1_begin_96 : decode cX1_begin 96 = .ok (.getfield 63, 3) := by decide +kernel
theorem dX1_begin_99 : decode cX1_begin 99 = .ok (.iconst 1, 1) := by decide +kernel
theorem dX1_begin_100 : decode cX1_begin 100 = .ok (.iadd, 1) := by decide +kernel
theorem dX1_begin_101 : decode cX1_begin 101 = .ok (.putfield 63, 3) := by decide +kernel
theorem dX1_begin_104 : decode cX1_begin 104 = .ok (.return_, 1) := by decide +kernel
theorem dX1_end_0 : decode cX1_end 0 = .ok (.aload_n 0, 1) := by decide +kernel
theorem dX1_end_1 : decode cX1_end 1 = .ok (.dup, 1) := by decide +kernel
theorem dX1_end_2 : decode cX1_end 2 = .ok (.getfield 63, 3) := by decide +kernel
theorem dX1_end_5 : decode cX1_end 5 = .ok (.iconst 1, 1) := by decide +kernel
theorem dX1_end_6 : decode cX1_end 6 = .ok (.isub, 1) := by decide +kernel
theorem dX1_end_7 : decode cX1_end 7 = .ok (.putfield 63, 3) := by decide +kernel
theorem dX1_end_10 : decode cX1_end 10 = .ok (.aload_n 0, 1) := by decide +kernel
theorem dX1_end_11 : decode cX1_end 11 = .ok (.getfield 34, 3) := by decide +kernel
theorem dX1_end_14 : decode cX1_end 14 = .ok (.aload_n 0, 1) := by decide +kernel
theorem dX1_end_15 : decode cX1_end 15 = .ok (.getfield 63, 3) := by decide +kernel
theorem dX1_end_18 : decode cX1_end 18 = .ok (.iaload, 1) := by decide +kernel
theorem dX1_end_19 : decode cX1_end 19 = .ok (.istore_n 3, 1) := by decide +kernel
theorem dX1_end_20 : decode cX1_end 20 = .ok (.aload_n 0, 1) := by decide +kernel
theorem dX1_end_21 : decode cX1_end 21 = .ok (.getfield 43, 3) := by decide +kernel
theorem dX1_end_24 : decode cX1_end 24 = .ok (.aload_n 0, 1) := by decide +kernel
theorem dX1_end_25 : decode cX1_end 25 = .ok (.getfield 63, 3) := by decide +kernel
theorem dX1_end_28 : decode cX1_end 28 = .ok (.iaload, 1) := by decide +kernel
theorem dX1_end_29 : decode cX1_end 29 = .ok (.iconst 1, 1) := by decide +kernel
theorem dX1_end_30 : decode cX1_end 30 = .ok (.isub, 1) := by decide +kernel
theorem dX1_end_31 : decode cX1_end 31 = .ok (.istore 4, 2) := by decide +kernel
theorem dX1_end_33 : decode cX1_end 33 = .ok (.iload 4, 2) := by decide +kernel
theorem dX1_end_35 : decode cX1_end 35 = .ok (.ifCond .lt 27, 3) := by decide +kernel
theorem dX1_end_38 : decode cX1_end 38 = .ok (.aload_n 0, 1) := by decide +kernel
theorem dX1_end_39 : decode cX1_end 39 = .ok (.aload_n 0, 1) := by decide +kernel
theorem dX1_end_40 : decode cX1_end 40 = .ok (.getfield 46, 3) := by decide +kernel
theorem dX1_end_43 : decode cX1_end 43 = .ok (.iconst 5, 1) := by decide +kernel
theorem dX1_end_44 : decode cX1_end 44 = .ok (.aload_n 0, 1) := by decide +kernel
theorem dX1_end_45 : decode cX1_end 45 = .ok (.getfield 63, 3) := by decide +kernel
theorem dX1_end_48 : decode cX1_end 48 = .ok (.imul, 1) := by decide +kernel
theorem dX1_end_49 : decode cX1_end 49 = .ok (.iload 4, 2) := by decide +kernel
theorem dX1_end_51 : decode cX1_end 51 = .ok (.iadd, 1) := by decide +kernel
theorem dX1_end_52 : decode cX1_end 52 = .ok (.iaload, 1) := by decide +kernel
theorem dX1_end_53 : decode cX1_end 53 = .ok (.invokevirtual 66, 3) := by decide +kernel
theorem dX1_end_56 : decode cX1_end 56 = .ok (.iinc 4 (-1), 3) := by decide +kernel
theorem dX1_end_59 : decode cX1_end 59 = .ok (.goto (-26), 3) := by decide +kernel
theorem dX1_end_62 : decode cX1_end 62 = .ok (.aload_n 0, 1) := by decide +kernel
theorem dX1_end_63 : decode cX1_end 63 = .ok (.getfield 19, 3) := by decide +kernel
theorem dX1_end_66 : decode cX1_end 66 = .ok (.bipush 8, 2) := by decide +kernel
theorem dX1_end_68 : decode cX1_end 68 = .ok (.aload_n 0, 1) := by decide +kernel
theorem dX1_end_69 : decode cX1_end 69 = .ok (.getfield 53, 3) := by decide +kernel
theorem dX1_end_72 : decode cX1_end 72 = .ok (.imul, 1) := by decide +kernel
theorem dX1_end_73 : decode cX1_end 73 = .ok (.iload_n 3, 1) := by decide +kernel
theorem dX1_end_74 : decode cX1_end 74 = .ok (.iadd, 1) := by decide +kernel
theorem dX1_end_75 : decode cX1_end 75 = .ok (.iload_n 1, 1) := by decide +kernel
theorem dX1_end_76 : decode cX1_end 76 = .ok (.ifCond .ne 7, 3) := by decide +kernel
theorem dX1_end_79 : decode cX1_end 79 = .ok (.iconst 2, 1) := by decide +kernel
theorem dX1_end_80 : decode cX1_end 80 = .ok (.goto 4, 3) := by decide +kernel
theorem dX1_end_83 : decode cX1_end 83 = .ok (.iconst 3, 1) := by decide +kernel
theorem dX1_end_84 : decode cX1_end 84 = .ok (.iastore, 1) := by decide +kernel
theorem dX1_end_85 : decode cX1_end 85 = .ok (.iload_n 1, 1) := by decide +kernel
theorem dX1_end_86 : decode cX1_end 86 = .ok (.ifCond .ne 31, 3) := by decide +kernel
theorem dX1_end_89 : decode cX1_end 89 = .ok (.aload_n 0, 1) := by decide +kernel
theorem dX1_end_90 : decode cX1_end 90 = .ok (.getfield 22, 3) := by decide +kernel
theorem dX1_end_93 : decode cX1_end 93 = .ok (.bipush 8, 2) := by decide +kernel
theorem dX1_end_95 : decode cX1_end 95 = .ok (.aload_n 0, 1) := by decide +kernel
theorem dX1_end_96 : decode cX1_end 96 = .ok (.getfield 53, 3) := by decide +kernel
theorem dX1_end_99 : decode cX1_end 99 = .ok (.imul, 1) := by decide +kernel
theorem dX1_end_100 : decode cX1_end 100 = .ok (.iload_n 3, 1) := by decide +kernel
theorem dX1_end_101 : decode cX1_end 101 = .ok (.iadd, 1) := by decide +kernel
theorem dX1_end_102 : decode cX1_end 102 = .ok (.bipush 10, 2) := by decide +kernel
theorem dX1_end_104 : decode cX1_end 104 = .ok (.iload_n 3, 1) := by decide +kernel
theorem dX1_end_105 : decode cX1_end 105 = .ok (.imul, 1) := by decide +kernel
theorem dX1_end_106 : decode cX1_end 106 = .ok (.aload_n 0, 1) := by decide +kernel
theorem dX1_end_107 : decode cX1_end 107 = .ok (.getfield 28, 3) := by decide +kernel
theorem dX1_end_110 : decode cX1_end 110 = .ok (.aload_n 0, 1) := by decide +kernel
theorem dX1_end_111 : decode cX1_end 111 = .ok (.getfield 53, 3) := by decide +kernel
theorem dX1_end_114 : decode cX1_end 114 = .ok (.iaload, 1) := by decide +kernel
theorem dX1_end_115 : decode cX1_end 115 = .ok (.iadd, 1) := by decide +kernel
theorem dX1_end_116 : decode cX1_end 116 = .ok (.iastore, 1) := by decide +kernel
theorem dX1_end_117 : decode cX1_end 117 = .ok (.aload_n 0, 1) := by decide +kernel
theorem dX1_end_118 : decode cX1_end 118 = .ok (.iload_n 1, 1) := by decide +kernel
theorem dX1_end_119 : decode cX1_end 119 = .ok (.putfield 57, 3) := by decide +kernel
theorem dX1_end_122 : decode cX1_end 122 = .ok (.aload_n 0, 1) := by decide +kernel
theorem dX1_end_123 : decode cX1_end 123 = .ok (.iload_n 2, 1) := by decide +kernel
theorem dX1_end_124 : decode cX1_end 124 = .ok (.putfield 60, 3) := by decide +kernel
theorem dX1_end_127 : decode cX1_end 127 = .ok (.return_, 1) := by decide +kernel
theorem dX1_run_0 : decode cX1_run 0 = .ok (.aload_n 0, 1) := by decide +kernel
theorem dX1_run_1 : decode cX1_run 1 = .ok (.getfield 63, 3) := by decide +kernel
theorem dX1_run_4 : decode cX1_run 4 = .ok (.ifCond .le 53, 3) := by decide +kernel
theorem dX1_run_7 : decode cX1_run 7 = .ok (.aload_n 0, 1) := by decide +kernel
theorem dX1_run_8 : decode cX1_run 8 = .ok (.getfield 63, 3) := by decide +kernel
theorem dX1_run_11 : decode cX1_run 11 = .ok (.iconst 1, 1) := by decide +kernel
theorem dX1_run_12 : decode cX1_run 12 = .ok (.isub, 1) := by decide +kernel
theorem dX1_run_13 : decode cX1_run 13 = .ok (.istore_n 1, 1) := by decide +kernel
theorem dX1_run_14 : decode cX1_run 14 = .ok (.aload_n 0, 1) := by decide +kernel
theorem dX1_run_15 : decode cX1_run 15 = .ok (.getfield 37, 3) := by decide +kernel
theorem dX1_run_18 : decode cX1_run 18 = .ok (.iload_n 1, 1) := by decide +kernel
theorem dX1_run_19 : decode cX1_run 19 = .ok (.iaload, 1) := by decide +kernel
theorem dX1_run_20 : decode cX1_run 20 = .ok (.ifCond .ne 11, 3) := by decide +kernel
theorem dX1_run_23 : decode cX1_run 23 = .ok (.aload_n 0, 1) := by decide +kernel
theorem dX1_run_24 : decode cX1_run 24 = .ok (.iload_n 1, 1) := by decide +kernel
theorem dX1_run_25 : decode cX1_run 25 = .ok (.invokevirtual 70, 3) := by decide +kernel
theorem dX1_run_28 : decode cX1_run 28 = .ok (.goto 26, 3) := by decide +kernel
theorem dX1_run_31 : decode cX1_run 31 = .ok (.aload_n 0, 1) := by decide +kernel
theorem dX1_run_32 : decode cX1_run 32 = .ok (.getfield 37, 3) := by decide +kernel
theorem dX1_run_35 : decode cX1_run 35 = .ok (.iload_n 1, 1) := by decide +kernel
theorem dX1_run_36 : decode cX1_run 36 = .ok (.iaload, 1) := by decide +kernel
theorem dX1_run_37 : decode cX1_run 37 = .ok (.iconst 1, 1) := by decide +kernel
theorem dX1_run_38 : decode cX1_run 38 = .ok (.if_icmp .ne 11, 3) := by decide +kernel
theorem dX1_run_41 : decode cX1_run 41 = .ok (.aload_n 0, 1) := by decide +kernel
theorem dX1_run_42 : decode cX1_run 42 = .ok (.iload_n 1, 1) := by decide +kernel
theorem dX1_run_43 : decode cX1_run 43 = .ok (.invokevirtual 73, 3) := by decide +kernel
theorem dX1_run_46 : decode cX1_run 46 = .ok (.goto 8, 3) := by decide +kernel
theorem dX1_run_49 : decode cX1_run 49 = .ok (.aload_n 0, 1) := by decide +kernel
theorem dX1_run_50 : decode cX1_run 50 = .ok (.iload_n 1, 1) := by decide +kernel
theorem dX1_run_51 : decode cX1_run 51 = .ok (.invokevirtual 76, 3) := by decide +kernel
theorem dX1_run_54 : decode cX1_run 54 = .ok (.goto (-54), 3) := by decide +kernel
theorem dX1_run_57 : decode cX1_run 57 = .ok (.return_, 1) := by decide +kernel
theorem dX1_first_0 : decode cX1_first 0 = .ok (.aload_n 0, 1) := by decide +kernel
theorem dX1_first_1 : decode cX1_first 1 = .ok (.getfield 40, 3) := by decide +kernel
theorem dX1_first_4 : decode cX1_first 4 = .ok (.iload_n 1, 1) := by decide +kernel
theorem dX1_first_5 : decode cX1_first 5 = .ok (.iaload, 1) := by decide +kernel
theorem dX1_first_6 : decode cX1_first 6 = .ok (.ifCond .le 23, 3) := by decide +kernel
theorem dX1_first_9 : decode cX1_first 9 = .ok (.aload_n 0, 1) := by decide +kernel
theorem dX1_first_10 : decode cX1_first 10 = .ok (.getfield 57, 3) := by decide +kernel
theorem dX1_first_13 : decode cX1_first 13 = .ok (.ifCond .eq 16, 3) := by decide +kernel
theorem dX1_first_16 : decode cX1_first 16 = .ok (.aload_n 0, 1) := by decide +kernel
theorem dX1_first_17 : decode cX1_first 17 = .ok (.aload_n 0, 1) := by decide +kernel
theorem dX1_first_18 : decode cX1_first 18 = .ok (.getfield 57, 3) := by decide +kernel
theorem dX1_first_21 : decode cX1_first 21 = .ok (.aload_n 0, 1) := by decide +kernel
theorem dX1_first_22 : decode cX1_first 22 = .ok (.getfield 60, 3) := by decide +kernel
theorem dX1_first_25 : decode cX1_first 25 = .ok (.invokevirtual 79, 3) := by decide +kernel
theorem dX1_first_28 : decode cX1_first 28 = .ok (.return_, 1) := by decide +kernel
theorem dX1_first_29 : decode cX1_first 29 = .ok (.aload_n 0, 1) := by decide +kernel
theorem dX1_first_30 : decode cX1_first 30 = .ok (.getfield 40, 3) := by decide +kernel
theorem dX1_first_33 : decode cX1_first 33 = .ok (.iload_n 1, 1) := by decide +kernel
theorem dX1_first_34 : decode cX1_first 34 = .ok (.iaload, 1) := by decide +kernel
theorem dX1_first_35 : decode cX1_first 35 = .ok (.iconst 2, 1) := by decide +kernel
theorem dX1_first_36 : decode cX1_first 36 = .ok (.if_icmp .ge 26, 3) := by decide +kernel
theorem dX1_first_39 : decode cX1_first 39 = .ok (.aload_n 0, 1) := by decide +kernel
theorem dX1_first_40 : decode cX1_first 40 = .ok (.getfield 31, 3) := by decide +kernel
theorem dX1_first_43 : decode cX1_first 43 = .ok (.iconst 2, 1) := by decide +kernel
theorem dX1_first_44 : decode cX1_first 44 = .ok (.aload_n 0, 1) := by decide +kernel
theorem dX1_first_45 : decode cX1_first 45 = .ok (.getfield 34, 3) := by decide +kernel
theorem dX1_first_48 : decode cX1_first 48 = .ok (.iload_n 1, 1) := by decide +kernel
theorem dX1_first_49 : decode cX1_first 49 = .ok (.iaload, 1) := by decide +kernel
theorem dX1_first_50 : decode cX1_first 50 = .ok (.imul, 1) := by decide +kernel
theorem dX1_first_51 : decode cX1_first 51 = .ok (.aload_n 0, 1) := by decide +kernel
theorem dX1_first_52 : decode cX1_first 52 = .ok (.getfield 40, 3) := by decide +kernel
theorem dX1_first_55 : decode cX1_first 55 = .ok (.iload_n 1, 1) := by decide +kernel
theorem dX1_first_56 : decode cX1_first 56 = .ok (.iaload, 1) := by decide +kernel
theorem dX1_first_57 : decode cX1_first 57 = .ok (.iadd, 1) := by decide +kernel
theorem dX1_first_58 : decode cX1_first 58 = .ok (.iaload, 1) := by decide +kernel
theorem dX1_first_59 : decode cX1_first 59 = .ok (.goto 4, 3) := by decide +kernel
theorem dX1_first_62 : decode cX1_first 62 = .ok (.iconst 0, 1) := by decide +kernel
theorem dX1_first_63 : decode cX1_first 63 = .ok (.istore_n 2, 1) := by decide +kernel
theorem dX1_first_64 : decode cX1_first 64 = .ok (.aload_n 0, 1) := by decide +kernel
theorem dX1_first_65 : decode cX1_first 65 = .ok (.getfield 40, 3) := by decide +kernel
theorem dX1_first_68 : decode cX1_first 68 = .ok (.iload_n 1, 1) := by decide +kernel
theorem dX1_first_69 : decode cX1_first 69 = .ok (.dup2, 1) := by decide +kernel
theorem dX1_first_70 : decode cX1_first 70 = .ok (.iaload, 1) := by decide +kernel
theorem dX1_first_71 : decode cX1_first 71 = .ok (.iconst 1, 1) := by decide +kernel
theorem dX1_first_72 : decode cX1_first 72 = .ok (.iadd, 1) := by decide +kernel
theorem dX1_first_73 : decode cX1_first 73 = .ok (.iastore, 1) := by decide +kernel
theorem dX1_first_74 : decode cX1_first 74 = .ok (.iload_n 2, 1) := by decide +kernel
theorem dX1_first_75 : decode cX1_first 75 = .ok (.ifCond .le 13, 3) := by decide +kernel
theorem dX1_first_78 : decode cX1_first 78 = .ok (.aload_n 0, 1) := by decide +kernel
theorem dX1_first_79 : decode cX1_first 79 = .ok (.iload_n 2, 1) := by decide +kernel
theorem dX1_first_80 : decode cX1_first 80 = .ok (.iconst 1, 1) := by decide +kernel
theorem dX1_first_81 : decode cX1_first 81 = .ok (.isub, 1) := by decide +kernel
theorem dX1_first_82 : decode cX1_first 82 = .ok (.invokevirtual 83, 3) := by decide +kernel
theorem dX1_first_85 : decode cX1_first 85 = .ok (.goto 64, 3) := by decide +kernel
theorem dX1_first_88 : decode cX1_first 88 = .ok (.aload_n 0, 1) := by decide +kernel
theorem dX1_first_89 : decode cX1_first 89 = .ok (.getfield 40, 3) := by decide +kernel
theorem dX1_first_92 : decode cX1_first 92 = .ok (.iload_n 1, 1) := by decide +kernel
theorem dX1_first_93 : decode cX1_first 93 = .ok (.iaload, 1) := by decide +kernel
theorem dX1_first_94 : decode cX1_first 94 = .ok (.iconst 2, 1) := by decide +kernel
theorem dX1_first_95 : decode cX1_first 95 = .ok (.if_icmp .gt 19, 3) := by decide +kernel
theorem dX1_first_98 : decode cX1_first 98 = .ok (.aload_n 0, 1) := by decide +kernel
theorem dX1_first_99 : decode cX1_first 99 = .ok (.getfield 31, 3) := by decide +kernel
theorem dX1_first_102 : decode cX1_first 102 = .ok (.iconst 2, 1) := by decide +kernel
theorem dX1_first_103 : decode cX1_first 103 = .ok (.aload_n 0, 1) := by decide +kernel
theorem dX1_first_104 : decode cX1_first 104 = .ok (.getfield 34, 3) := by decide +kernel
theorem dX1_first_107 : decode cX1_first 107 = .ok (.iload_n 1, 1) := by decide +kernel
theorem dX1_first_108 : decode cX1_first 108 = .ok (.iaload, 1) := by decide +kernel
theorem dX1_first_109 : decode cX1_first 109 = .ok (.imul, 1) := by decide +kernel
theorem dX1_first_110 : decode cX1_first 110 = .ok (.iaload, 1) := by decide +kernel
theorem dX1_first_111 : decode cX1_first 111 = .ok (.ifCond .ne 33, 3) := by decide +kernel
theorem dX1_first_114 : decode cX1_first 114 = .ok (.aload_n 0, 1) := by decide +kernel
theorem dX1_first_115 : decode cX1_first 115 = .ok (.getfield 37, 3) := by decide +kernel
theorem dX1_first_118 : decode cX1_first 118 = .ok (.iload_n 1, 1) := by decide +kernel
theorem dX1_first_119 : decode cX1_first 119 = .ok (.iconst 1, 1) := by decide +kernel
theorem dX1_first_120 : decode cX1_first 120 = .ok (.iastore, 1) := by decide +kernel
theorem dX1_first_121 : decode cX1_first 121 = .ok (.aload_n 0, 1) := by decide +kernel
theorem dX1_first_122 : decode cX1_first 122 = .ok (.getfield 40, 3) := by decide +kernel
theorem dX1_first_125 : decode cX1_first 125 = .ok (.iload_n 1, 1) := by decide +kernel
theorem dX1_first_126 : decode cX1_first 126 = .ok (.iconst 0, 1) := by decide +kernel
theorem dX1_first_127 : decode cX1_first 127 = .ok (.iastore, 1) := by decide +kernel
theorem dX1_first_128 : decode cX1_first 128 = .ok (.aload_n 0, 1) := by decide +kernel
theorem dX1_first_129 : decode cX1_first 129 = .ok (.bipush 100, 2) := by decide +kernel
theorem dX1_first_131 : decode cX1_first 131 = .ok (.aload_n 0, 1) := by decide +kernel
theorem dX1_first_132 : decode cX1_first 132 = .ok (.getfield 34, 3) := by decide +kernel
theorem dX1_first_135 : decode cX1_first 135 = .ok (.iload_n 1, 1) := by decide +kernel
theorem dX1_first_136 : decode cX1_first 136 = .ok (.iaload, 1) := by decide +kernel
theorem dX1_first_137 : decode cX1_first 137 = .ok (.iadd, 1) := by decide +kernel
theorem dX1_first_138 : decode cX1_first 138 = .ok (.invokevirtual 66, 3) := by decide +kernel
theorem dX1_first_141 : decode cX1_first 141 = .ok (.goto 8, 3) := by decide +kernel
theorem dX1_first_144 : decode cX1_first 144 = .ok (.aload_n 0, 1) := by decide +kernel
theorem dX1_first_145 : decode cX1_first 145 = .ok (.iconst 0, 1) := by decide +kernel
theorem dX1_first_146 : decode cX1_first 146 = .ok (.putfield 57, 3) := by decide +kernel
theorem dX1_first_149 : decode cX1_first 149 = .ok (.return_, 1) := by decide +kernel
theorem dX1_work_0 : decode cX1_work 0 = .ok (.aload_n 0, 1) := by decide +kernel
theorem dX1_work_1 : decode cX1_work 1 = .ok (.getfield 40, 3) := by decide +kernel
theorem dX1_work_4 : decode cX1_work 4 = .ok (.iload_n 1, 1) := by decide +kernel
theorem dX1_work_5 : decode cX1_work 5 = .ok (.iaload, 1) := by decide +kernel
theorem dX1_work_6 : decode cX1_work 6 = .ok (.aload_n 0, 1) := by decide +kernel
theorem dX1_work_7 : decode cX1_work 7 = .ok (.getfield 16, 3) := by decide +kernel
theorem dX1_work_10 : decode cX1_work 10 = .ok (.aload_n 0, 1) := by decide +kernel
theorem dX1_work_11 : decode cX1_work 11 = .ok (.getfield 34, 3) := by decide +kernel
theorem dX1_work_14 : decode cX1_work 14 = .ok (.iload_n 1, 1) := by decide +kernel
theorem dX1_work_15 : decode cX1_work 15 = .ok (.iaload, 1) := by decide +kernel
theorem dX1_work_16 : decode cX1_work 16 = .ok (.iaload, 1) := by decide +kernel
theorem dX1_work_17 : decode cX1_work 17 = .ok (.if_icmp .ne 10, 3) := by decide +kernel
theorem dX1_work_20 : decode cX1_work 20 = .ok (.aload_n 0, 1) := by decide +kernel
theorem dX1_work_21 : decode cX1_work 21 = .ok (.iconst 0, 1) := by decide +kernel
theorem dX1_work_22 : decode cX1_work 22 = .ok (.iconst 0, 1) := by decide +kernel
theorem dX1_work_23 : decode cX1_work 23 = .ok (.invokevirtual 79, 3) := by decide +kernel
theorem dX1_work_26 : decode cX1_work 26 = .ok (.return_, 1) := by decide +kernel
theorem dX1_work_27 : decode cX1_work 27 = .ok (.iconst 5, 1) := by decide +kernel
theorem dX1_work_28 : decode cX1_work 28 = .ok (.aload_n 0, 1) := by decide +kernel
theorem dX1_work_29 : decode cX1_work 29 = .ok (.getfield 34, 3) := by decide +kernel
theorem dX1_work_32 : decode cX1_work 32 = .ok (.iload_n 1, 1) := by decide +kernel
theorem dX1_work_33 : decode cX1_work 33 = .ok (.iaload, 1) := by decide +kernel
theorem dX1_work_34 : decode cX1_work 34 = .ok (.imul, 1) := by decide +kernel
theorem dX1_work_35 : decode cX1_work 35 = .ok (.aload_n 0, 1) := by decide +kernel
theorem dX1_work_36 : decode cX1_work 36 = .ok (.getfield 40, 3) := by decide +kernel
theorem dX1_work_39 : decode cX1_work 39 = .ok (.iload_n 1, 1) := by decide +kernel
theorem dX1_work_40 : decode cX1_work 40 = .ok (.iaload, 1) := by decide +kernel
theorem dX1_work_41 : decode cX1_work 41 = .ok (.iadd, 1) := by decide +kernel
theorem dX1_work_42 : decode cX1_work 42 = .ok (.istore_n 2, 1) := by decide +kernel
theorem dX1_work_43 : decode cX1_work 43 = .ok (.aload_n 0, 1) := by decide +kernel
theorem dX1_work_44 : decode cX1_work 44 = .ok (.getfield 13, 3) := by decide +kernel
theorem dX1_work_47 : decode cX1_work 47 = .ok (.iload_n 2, 1) := by decide +kernel
theorem dX1_work_48 : decode cX1_work 48 = .ok (.iaload, 1) := by decide +kernel
theorem dX1_work_49 : decode cX1_work 49 = .ok (.istore_n 3, 1) := by decide +kernel
theorem dX1_work_50 : decode cX1_work 50 = .ok (.aload_n 0, 1) := by decide +kernel
theorem dX1_work_51 : decode cX1_work 51 = .ok (.getfield 40, 3) := by decide +kernel
theorem dX1_work_54 : decode cX1_work 54 = .ok (.iload_n 1, 1) := by decide +kernel
theorem dX1_work_55 : decode cX1_work 55 = .ok (.dup2, 1) := by decide +kernel
theorem dX1_work_56 : decode cX1_work 56 = .ok (.iaload, 1) := by decide +kernel
theorem dX1_work_57 : decode cX1_work 57 = .ok (.iconst 1, 1) := by decide +kernel
theorem dX1_work_58 : decode cX1_work 58 = .ok (.iadd, 1) := by decide +kernel
theorem dX1_work_59 : decode cX1_work 59 = .ok (.iastore, 1) := by decide +kernel
theorem dX1_work_60 : decode cX1_work 60 = .ok (.aload_n 0, 1) := by decide +kernel
theorem dX1_work_61 : decode cX1_work 61 = .ok (.getfield 7, 3) := by decide +kernel
theorem dX1_work_64 : decode cX1_work 64 = .ok (.iload_n 2, 1) := by decide +kernel
theorem dX1_work_65 : decode cX1_work 65 = .ok (.iaload, 1) := by decide +kernel
theorem dX1_work_66 : decode cX1_work 66 = .ok (.tableswitch 92 0 4 #[34, 42, 74, 83, 42], 34) := by decide +kernel
theorem dX1_work_100 : decode cX1_work 100 = .ok (.aload_n 0, 1) := by decide +kernel
theorem dX1_work_101 : decode cX1_work 101 = .ok (.iload_n 3, 1) := by decide +kernel
theorem dX1_work_102 : decode cX1_work 102 = .ok (.invokevirtual 66, 3) := by decide +kernel
theorem dX1_work_105 : decode cX1_work 105 = .ok (.goto 79, 3) := by decide +kernel
theorem dX1_work_108 : decode cX1_work 108 = .ok (.aload_n 0, 1) := by decide +kernel
theorem dX1_work_109 : decode cX1_work 109 = .ok (.getfield 37, 3) := by decide +kernel
theorem dX1_work_112 : decode cX1_work 112 = .ok (.iload_n 1, 1) := by decide +kernel
theorem dX1_work_113 : decode cX1_work 113 = .ok (.aload_n 0, 1) := by decide +kernel
theorem dX1_work_114 : decode cX1_work 114 = .ok (.getfield 7, 3) := by decide +kernel
theorem dX1_work_117 : decode cX1_work 117 = .ok (.iload_n 2, 1) := by decide +kernel
theorem dX1_work_118 : decode cX1_work 118 = .ok (.iaload, 1) := by decide +kernel
theorem dX1_work_119 : decode cX1_work 119 = .ok (.iconst 1, 1) := by decide +kernel
theorem dX1_work_120 : decode cX1_work 120 = .ok (.if_icmp .ne 7, 3) := by decide +kernel
theorem dX1_work_123 : decode cX1_work 123 = .ok (.iconst 2, 1) := by decide +kernel
theorem dX1_work_124 : decode cX1_work 124 = .ok (.goto 4, 3) := by decide +kernel
theorem dX1_work_127 : decode cX1_work 127 = .ok (.iconst 3, 1) := by decide +kernel
theorem dX1_work_128 : decode cX1_work 128 = .ok (.iastore, 1) := by decide +kernel
theorem dX1_work_129 : decode cX1_work 129 = .ok (.aload_n 0, 1) := by decide +kernel
theorem dX1_work_130 : decode cX1_work 130 = .ok (.iload_n 3, 1) := by decide +kernel
theorem dX1_work_131 : decode cX1_work 131 = .ok (.bipush 7, 2) := by decide +kernel
theorem dX1_work_133 : decode cX1_work 133 = .ok (.iand, 1) := by decide +kernel
theorem dX1_work_134 : decode cX1_work 134 = .ok (.invokevirtual 83, 3) := by decide +kernel
theorem dX1_work_137 : decode cX1_work 137 = .ok (.goto 47, 3) := by decide +kernel
theorem dX1_work_140 : decode cX1_work 140 = .ok (.aload_n 0, 1) := by decide +kernel
theorem dX1_work_141 : decode cX1_work 141 = .ok (.iconst 1, 1) := by decide +kernel
theorem dX1_work_142 : decode cX1_work 142 = .ok (.iload_n 3, 1) := by decide +kernel
theorem dX1_work_143 : decode cX1_work 143 = .ok (.invokevirtual 79, 3) := by decide +kernel
theorem dX1_work_146 : decode cX1_work 146 = .ok (.goto 38, 3) := by decide +kernel
theorem dX1_work_149 : decode cX1_work 149 = .ok (.aload_n 0, 1) := by decide +kernel
theorem dX1_work_150 : decode cX1_work 150 = .ok (.iconst 2, 1) := by decide +kernel
theorem dX1_work_151 : decode cX1_work 151 = .ok (.iload_n 3, 1) := by decide +kernel
theorem dX1_work_152 : decode cX1_work 152 = .ok (.invokevirtual 79, 3) := by decide +kernel
theorem dX1_work_155 : decode cX1_work 155 = .ok (.goto 29, 3) := by decide +kernel
theorem dX1_work_158 : decode cX1_work 158 = .ok (.aload_n 0, 1) := by decide +kernel
theorem dX1_work_159 : decode cX1_work 159 = .ok (.getfield 46, 3) := by decide +kernel
theorem dX1_work_162 : decode cX1_work 162 = .ok (.iconst 5, 1) := by decide +kernel
theorem dX1_work_163 : decode cX1_work 163 = .ok (.iload_n 1, 1) := by decide +kernel
theorem dX1_work_164 : decode cX1_work 164 = .ok (.imul, 1) := by decide +kernel
theorem dX1_work_165 : decode cX1_work 165 = .ok (.aload_n 0, 1) := by decide +kernel
theorem dX1_work_166 : decode cX1_work 166 = .ok (.getfield 43, 3) := by decide +kernel
theorem dX1_work_169 : decode cX1_work 169 = .ok (.iload_n 1, 1) := by decide +kernel
theorem dX1_work_170 : decode cX1_work 170 = .ok (.iaload, 1) := by decide +kernel
theorem dX1_work_171 : decode cX1_work 171 = .ok (.iadd, 1) := by decide +kernel
theorem dX1_work_172 : decode cX1_work 172 = .ok (.iload_n 3, 1) := by decide +kernel
theorem dX1_work_173 : decode cX1_work 173 = .ok (.iastore, 1) := by decide +kernel
theorem dX1_work_174 : decode cX1_work 174 = .ok (.aload_n 0, 1) := by decide +kernel
theorem dX1_work_175 : decode cX1_work 175 = .ok (.getfield 43, 3) := by decide +kernel
theorem dX1_work_178 : decode cX1_work 178 = .ok (.iload_n 1, 1) := by decide +kernel
theorem dX1_work_179 : decode cX1_work 179 = .ok (.dup2, 1) := by decide +kernel
theorem dX1_work_180 : decode cX1_work 180 = .ok (.iaload, 1) := by decide +kernel
theorem dX1_work_181 : decode cX1_work 181 = .ok (.iconst 1, 1) := by decide +kernel
theorem dX1_work_182 : decode cX1_work 182 = .ok (.iadd, 1) := by decide +kernel
theorem dX1_work_183 : decode cX1_work 183 = .ok (.iastore, 1) := by decide +kernel
theorem dX1_work_184 : decode cX1_work 184 = .ok (.return_, 1) := by decide +kernel
theorem dX1_probe_0 : decode cX1_probe 0 = .ok (.iload_n 1, 1) := by decide +kernel
theorem dX1_probe_1 : decode cX1_probe 1 = .ok (.iconst 0, 1) := by decide +kernel
theorem dX1_probe_2 : decode cX1_probe 2 = .ok (.iconst 1, 1) := by decide +kernel
theorem dX1_probe_3 : decode cX1_probe 3 = .ok (.invokestatic 49, 3) := by decide +kernel
theorem dX1_probe_6 : decode cX1_probe 6 = .ok (.ifCond .eq 23, 3) := by decide +kernel
theorem dX1_probe_9 : decode cX1_probe 9 = .ok (.iload_n 2, 1) := by decide +kernel
theorem dX1_probe_10 : decode cX1_probe 10 = .ok (.iconst 0, 1) := by decide +kernel
theorem dX1_probe_11 : decode cX1_probe 11 = .ok (.bipush 7, 2) := by decide +kernel
theorem dX1_probe_13 : decode cX1_probe 13 = .ok (.invokestatic 49, 3) := by decide +kernel
theorem dX1_probe_16 : decode cX1_probe 16 = .ok (.ifCond .eq 13, 3) := by decide +kernel
theorem dX1_probe_19 : decode cX1_probe 19 = .ok (.iload_n 3, 1) := by decide +kernel
theorem dX1_probe_20 : decode cX1_probe 20 = .ok (.iconst 0, 1) := by decide +kernel
theorem dX1_probe_21 : decode cX1_probe 21 = .ok (.bipush 13, 2) := by decide +kernel
theorem dX1_probe_23 : decode cX1_probe 23 = .ok (.invokestatic 49, 3) := by decide +kernel
theorem dX1_probe_26 : decode cX1_probe 26 = .ok (.ifCond .ne 5, 3) := by decide +kernel
theorem dX1_probe_29 : decode cX1_probe 29 = .ok (.iconst (-1), 1) := by decide +kernel
theorem dX1_probe_30 : decode cX1_probe 30 = .ok (.ireturn, 1) := by decide +kernel
theorem dX1_probe_31 : decode cX1_probe 31 = .ok (.iload_n 2, 1) := by decide +kernel
theorem dX1_probe_32 : decode cX1_probe 32 = .ok (.iconst 4, 1) := by decide +kernel
theorem dX1_probe_33 : decode cX1_probe 33 = .ok (.if_icmp .le 20, 3) := by decide +kernel
theorem dX1_probe_36 : decode cX1_probe 36 = .ok (.iload_n 3, 1) := by decide +kernel
theorem dX1_probe_37 : decode cX1_probe 37 = .ok (.ifCond .eq 14, 3) := by decide +kernel
theorem dX1_probe_40 : decode cX1_probe 40 = .ok (.iload_n 3, 1) := by decide +kernel
theorem dX1_probe_41 : decode cX1_probe 41 = .ok (.iconst 3, 1) := by decide +kernel
theorem dX1_probe_42 : decode cX1_probe 42 = .ok (.if_icmp .eq 9, 3) := by decide +kernel
theorem dX1_probe_45 : decode cX1_probe 45 = .ok (.iload_n 3, 1) := by decide +kernel
theorem dX1_probe_46 : decode cX1_probe 46 = .ok (.bipush 12, 2) := by decide +kernel
theorem dX1_probe_48 : decode cX1_probe 48 = .ok (.if_icmp .ne 5, 3) := by decide +kernel
theorem dX1_probe_51 : decode cX1_probe 51 = .ok (.iconst (-1), 1) := by decide +kernel
theorem dX1_probe_52 : decode cX1_probe 52 = .ok (.ireturn, 1) := by decide +kernel
theorem dX1_probe_53 : decode cX1_probe 53 = .ok (.aload_n 0, 1) := by decide +kernel
theorem dX1_probe_54 : decode cX1_probe 54 = .ok (.iload_n 1, 1) := by decide +kernel
theorem dX1_probe_55 : decode cX1_probe 55 = .ok (.putfield 53, 3) := by decide +kernel
theorem dX1_probe_58 : decode cX1_probe 58 = .ok (.iload_n 3, 1) := by decide +kernel
theorem dX1_probe_59 : decode cX1_probe 59 = .ok (.bipush 10, 2) := by decide +kernel
theorem dX1_probe_61 : decode cX1_probe 61 = .ok (.if_icmp .ne 7, 3) := by decide +kernel
theorem dX1_probe_64 : decode cX1_probe 64 = .ok (.iconst 0, 1) := by decide +kernel
theorem dX1_probe_65 : decode cX1_probe 65 = .ok (.goto 4, 3) := by decide +kernel
theorem dX1_probe_68 : decode cX1_probe 68 = .ok (.iload_n 2, 1) := by decide +kernel
theorem dX1_probe_69 : decode cX1_probe 69 = .ok (.istore 4, 2) := by decide +kernel
theorem dX1_probe_71 : decode cX1_probe 71 = .ok (.iload_n 3, 1) := by decide +kernel
theorem dX1_probe_72 : decode cX1_probe 72 = .ok (.iconst 4, 1) := by decide +kernel
theorem dX1_probe_73 : decode cX1_probe 73 = .ok (.if_icmp .lt 15, 3) := by decide +kernel
theorem dX1_probe_76 : decode cX1_probe 76 = .ok (.iload_n 3, 1) := by decide +kernel
theorem dX1_probe_77 : decode cX1_probe 77 = .ok (.bipush 6, 2) := by decide +kernel
theorem dX1_probe_79 : decode cX1_probe 79 = .ok (.if_icmp .le 13, 3) := by decide +kernel
theorem dX1_probe_82 : decode cX1_probe 82 = .ok (.iload_n 3, 1) := by decide +kernel
theorem dX1_probe_83 : decode cX1_probe 83 = .ok (.bipush 11, 2) := by decide +kernel
theorem dX1_probe_85 : decode cX1_probe 85 = .ok (.if_icmp .eq 7, 3) := by decide +kernel
theorem dX1_probe_88 : decode cX1_probe 88 = .ok (.iconst 1, 1) := by decide +kernel
theorem dX1_probe_89 : decode cX1_probe 89 = .ok (.goto 4, 3) := by decide +kernel
theorem dX1_probe_92 : decode cX1_probe 92 = .ok (.iconst 0, 1) := by decide +kernel
theorem dX1_probe_93 : decode cX1_probe 93 = .ok (.istore 5, 2) := by decide +kernel
theorem dX1_probe_95 : decode cX1_probe 95 = .ok (.aload_n 0, 1) := by decide +kernel
theorem dX1_probe_96 : decode cX1_probe 96 = .ok (.iconst 0, 1) := by decide +kernel
theorem dX1_probe_97 : decode cX1_probe 97 = .ok (.putfield 57, 3) := by decide +kernel
theorem dX1_probe_100 : decode cX1_probe 100 = .ok (.aload_n 0, 1) := by decide +kernel
theorem dX1_probe_101 : decode cX1_probe 101 = .ok (.iconst 0, 1) := by decide +kernel
theorem dX1_probe_102 : decode cX1_probe 102 = .ok (.putfield 60, 3) := by decide +kernel
theorem dX1_probe_105 : decode cX1_probe 105 = .ok (.iload 5, 2) := by decide +kernel
theorem dX1_probe_107 : decode cX1_probe 107 = .ok (.ifCond .eq 13, 3) := by decide +kernel
theorem dX1_probe_110 : decode cX1_probe 110 = .ok (.aload_n 0, 1) := by decide +kernel
theorem dX1_probe_111 : decode cX1_probe 111 = .ok (.iload 4, 2) := by decide +kernel
theorem dX1_probe_113 : decode cX1_probe 113 = .ok (.invokevirtual 83, 3) := by decide +kernel
theorem dX1_probe_116 : decode cX1_probe 116 = .ok (.aload_n 0, 1) := by decide +kernel
theorem dX1_probe_117 : decode cX1_probe 117 = .ok (.invokevirtual 86, 3) := by decide +kernel
theorem dX1_probe_120 : decode cX1_probe 120 = .ok (.aload_n 0, 1) := by decide +kernel
theorem dX1_probe_121 : decode cX1_probe 121 = .ok (.aload_n 0, 1) := by decide +kernel
theorem dX1_probe_122 : decode cX1_probe 122 = .ok (.getfield 57, 3) := by decide +kernel
theorem dX1_probe_125 : decode cX1_probe 125 = .ok (.ifCond .ne 7, 3) := by decide +kernel
theorem dX1_probe_128 : decode cX1_probe 128 = .ok (.iconst 0, 1) := by decide +kernel
theorem dX1_probe_129 : decode cX1_probe 129 = .ok (.goto 7, 3) := by decide +kernel
theorem dX1_probe_132 : decode cX1_probe 132 = .ok (.aload_n 0, 1) := by decide +kernel
theorem dX1_probe_133 : decode cX1_probe 133 = .ok (.getfield 60, 3) := by decide +kernel
theorem dX1_probe_136 : decode cX1_probe 136 = .ok (.putfield 89, 3) := by decide +kernel
theorem dX1_probe_139 : decode cX1_probe 139 = .ok (.aload_n 0, 1) := by decide +kernel
theorem dX1_probe_140 : decode cX1_probe 140 = .ok (.getfield 57, 3) := by decide +kernel
theorem dX1_probe_143 : decode cX1_probe 143 = .ok (.ifCond .eq 8, 3) := by decide +kernel
theorem dX1_probe_146 : decode cX1_probe 146 = .ok (.aload_n 0, 1) := by decide +kernel
theorem dX1_probe_147 : decode cX1_probe 147 = .ok (.getfield 57, 3) := by decide +kernel
theorem dX1_probe_150 : decode cX1_probe 150 = .ok (.ireturn, 1) := by decide +kernel
theorem dX1_probe_151 : decode cX1_probe 151 = .ok (.aload_n 0, 1) := by decide +kernel
theorem dX1_probe_152 : decode cX1_probe 152 = .ok (.getfield 22, 3) := by decide +kernel
theorem dX1_probe_155 : decode cX1_probe 155 = .ok (.bipush 8, 2) := by decide +kernel
theorem dX1_probe_157 : decode cX1_probe 157 = .ok (.iload_n 1, 1) := by decide +kernel
theorem dX1_probe_158 : decode cX1_probe 158 = .ok (.imul, 1) := by decide +kernel
theorem dX1_probe_159 : decode cX1_probe 159 = .ok (.iload 4, 2) := by decide +kernel
theorem dX1_probe_161 : decode cX1_probe 161 = .ok (.iadd, 1) := by decide +kernel
theorem dX1_probe_162 : decode cX1_probe 162 = .ok (.iaload, 1) := by decide +kernel
theorem dX1_probe_163 : decode cX1_probe 163 = .ok (.istore 6, 2) := by decide +kernel
theorem dX1_probe_165 : decode cX1_probe 165 = .ok (.iload_n 3, 1) := by decide +kernel
theorem dX1_probe_166 : decode cX1_probe 166 = .ok (.tableswitch 136 1 13 #[66, 77, 86, 108, 120, 136, 136, 66, 66, 66, 128, 136, 77], 66) := by decide +kernel
theorem dX1_probe_232 : decode cX1_probe 232 = .ok (.aload_n 0, 1) := by decide +kernel
theorem dX1_probe_233 : decode cX1_probe 233 = .ok (.iload 6, 2) := by decide +kernel
theorem dX1_probe_235 : decode cX1_probe 235 = .ok (.iconst 1, 1) := by decide +kernel
theorem dX1_probe_236 : decode cX1_probe 236 = .ok (.iadd, 1) := by decide +kernel
theorem dX1_probe_237 : decode cX1_probe 237 = .ok (.putfield 92, 3) := by decide +kernel
theorem dX1_probe_240 : decode cX1_probe 240 = .ok (.goto 67, 3) := by decide +kernel
theorem dX1_probe_243 : decode cX1_probe 243 = .ok (.aload_n 0, 1) := by decide +kernel
theorem dX1_probe_244 : decode cX1_probe 244 = .ok (.iload 6, 2) := by decide +kernel
theorem dX1_probe_246 : decode cX1_probe 246 = .ok (.putfield 92, 3) := by decide +kernel
theorem dX1_probe_249 : decode cX1_probe 249 = .ok (.goto 58, 3) := by decide +kernel
theorem dX1_probe_252 : decode cX1_probe 252 = .ok (.aload_n 0, 1) := by decide +kernel
theorem dX1_probe_253 : decode cX1_probe 253 = .ok (.getfield 22, 3) := by decide +kernel
theorem dX1_probe_256 : decode cX1_probe 256 = .ok (.bipush 8, 2) := by decide +kernel
theorem dX1_probe_258 : decode cX1_probe 258 = .ok (.iload_n 1, 1) := by decide +kernel
theorem dX1_probe_259 : decode cX1_probe 259 = .ok (.imul, 1) := by decide +kernel
theorem dX1_probe_260 : decode cX1_probe 260 = .ok (.iload_n 2, 1) := by decide +kernel
theorem dX1_probe_261 : decode cX1_probe 261 = .ok (.iadd, 1) := by decide +kernel
theorem dX1_probe_262 : decode cX1_probe 262 = .ok (.bipush 7, 2) := by decide +kernel
theorem dX1_probe_264 : decode cX1_probe 264 = .ok (.iastore, 1) := by decide +kernel
theorem dX1_probe_265 : decode cX1_probe 265 = .ok (.aload_n 0, 1) := by decide +kernel
theorem dX1_probe_266 : decode cX1_probe 266 = .ok (.bipush 7, 2) := by decide +kernel
theorem dX1_probe_268 : decode cX1_probe 268 = .ok (.putfield 92, 3) := by decide +kernel
theorem dX1_probe_271 : decode cX1_probe 271 = .ok (.goto 36, 3) := by decide +kernel
theorem dX1_probe_274 : decode cX1_probe 274 = .ok (.aload_n 0, 1) := by decide +kernel
theorem dX1_probe_275 : decode cX1_probe 275 = .ok (.sipush 500, 3) := by decide +kernel
theorem dX1_probe_278 : decode cX1_probe 278 = .ok (.iload_n 2, 1) := by decide +kernel
theorem dX1_probe_279 : decode cX1_probe 279 = .ok (.iadd, 1) := by decide +kernel
theorem dX1_probe_280 : decode cX1_probe 280 = .ok (.putfield 92, 3) := by decide +kernel
theorem dX1_probe_283 : decode cX1_probe 283 = .ok (.goto 24, 3) := by decide +kernel
theorem dX1_probe_286 : decode cX1_probe 286 = .ok (.aload_n 0, 1) := by decide +kernel
theorem dX1_probe_287 : decode cX1_probe 287 = .ok (.iconst 3, 1) := by decide +kernel
theorem dX1_probe_288 : decode cX1_probe 288 = .ok (.putfield 92, 3) := by decide +kernel
theorem dX1_probe_291 : decode cX1_probe 291 = .ok (.goto 16, 3) := by decide +kernel
theorem dX1_probe_294 : decode cX1_probe 294 = .ok (.aload_n 0, 1) := by decide +kernel
theorem dX1_probe_295 : decode cX1_probe 295 = .ok (.iconst 0, 1) := by decide +kernel
theorem dX1_probe_296 : decode cX1_probe 296 = .ok (.putfield 92, 3) := by decide +kernel
theorem dX1_probe_299 : decode cX1_probe 299 = .ok (.goto 8, 3) := by decide +kernel
theorem dX1_probe_302 : decode cX1_probe 302 = .ok (.aload_n 0, 1) := by decide +kernel
theorem dX1_probe_303 : decode cX1_probe 303 = .ok (.iconst 1, 1) := by decide +kernel
theorem dX1_probe_304 : decode cX1_probe 304 = .ok (.putfield 92, 3) := by decide +kernel
theorem dX1_probe_307 : decode cX1_probe 307 = .ok (.iconst 0, 1) := by decide +kernel
theorem dX1_probe_308 : decode cX1_probe 308 = .ok (.ireturn, 1) := by decide +kernel
theorem dX1_answered_0 : decode cX1_answered 0 = .ok (.aload_n 0, 1) := by decide +kernel
theorem dX1_answered_1 : decode cX1_answered 1 = .ok (.getfield 13, 3) := by decide +kernel
theorem dX1_answered_4 : decode cX1_answered 4 = .ok (.iconst 5, 1) := by decide +kernel
theorem dX1_answered_5 : decode cX1_answered 5 = .ok (.aload_n 0, 1) := by decide +kernel
theorem dX1_answered_6 : decode cX1_answered 6 = .ok (.getfield 34, 3) := by decide +kernel
theorem dX1_answered_9 : decode cX1_answered 9 = .ok (.iload_n 1, 1) := by decide +kernel
theorem dX1_answered_10 : decode cX1_answered 10 = .ok (.iaload, 1) := by decide +kernel
theorem dX1_answered_11 : decode cX1_answered 11 = .ok (.imul, 1) := by decide +kernel
theorem dX1_answered_12 : decode cX1_answered 12 = .ok (.aload_n 0, 1) := by decide +kernel
theorem dX1_answered_13 : decode cX1_answered 13 = .ok (.getfield 40, 3) := by decide +kernel
theorem dX1_answered_16 : decode cX1_answered 16 = .ok (.iload_n 1, 1) := by decide +kernel
theorem dX1_answered_17 : decode cX1_answered 17 = .ok (.iaload, 1) := by decide +kernel
theorem dX1_answered_18 : decode cX1_answered 18 = .ok (.iadd, 1) := by decide +kernel
theorem dX1_answered_19 : decode cX1_answered 19 = .ok (.iconst 1, 1) := by decide +kernel
theorem dX1_answered_20 : decode cX1_answered 20 = .ok (.isub, 1) := by decide +kernel
theorem dX1_answered_21 : decode cX1_answered 21 = .ok (.iaload, 1) := by decide +kernel
theorem dX1_answered_22 : decode cX1_answered 22 = .ok (.istore_n 2, 1) := by decide +kernel
theorem dX1_answered_23 : decode cX1_answered 23 = .ok (.aload_n 0, 1) := by decide +kernel
theorem dX1_answered_24 : decode cX1_answered 24 = .ok (.getfield 57, 3) := by decide +kernel
theorem dX1_answered_27 : decode cX1_answered 27 = .ok (.ifCond .eq 26, 3) := by decide +kernel
theorem dX1_answered_30 : decode cX1_answered 30 = .ok (.aload_n 0, 1) := by decide +kernel
theorem dX1_answered_31 : decode cX1_answered 31 = .ok (.getfield 37, 3) := by decide +kernel
theorem dX1_answered_34 : decode cX1_answered 34 = .ok (.iload_n 1, 1) := by decide +kernel
theorem dX1_answered_35 : decode cX1_answered 35 = .ok (.iaload, 1) := by decide +kernel
theorem dX1_answered_36 : decode cX1_answered 36 = .ok (.iconst 2, 1) := by decide +kernel
theorem dX1_answered_37 : decode cX1_answered 37 = .ok (.if_icmp .ne 16, 3) := by decide +kernel
theorem dX1_answered_40 : decode cX1_answered 40 = .ok (.aload_n 0, 1) := by decide +kernel
theorem dX1_answered_41 : decode cX1_answered 41 = .ok (.aload_n 0, 1) := by decide +kernel
theorem dX1_answered_42 : decode cX1_answered 42 = .ok (.getfield 57, 3) := by decide +kernel
theorem dX1_answered_45 : decode cX1_answered 45 = .ok (.aload_n 0, 1) := by decide +kernel
theorem dX1_answered_46 : decode cX1_answered 46 = .ok (.getfield 60, 3) := by decide +kernel
theorem dX1_answered_49 : decode cX1_answered 49 = .ok (.invokevirtual 79, 3) := by decide +kernel
theorem dX1_answered_52 : decode cX1_answered 52 = .ok (.return_, 1) := by decide +kernel
theorem dX1_answered_53 : decode cX1_answered 53 = .ok (.aload_n 0, 1) := by decide +kernel
theorem dX1_answered_54 : decode cX1_answered 54 = .ok (.aload_n 0, 1) := by decide +kernel
theorem dX1_answered_55 : decode cX1_answered 55 = .ok (.getfield 57, 3) := by decide +kernel
theorem dX1_answered_58 : decode cX1_answered 58 = .ok (.ifCond .eq 25, 3) := by decide +kernel
theorem dX1_answered_61 : decode cX1_answered 61 = .ok (.sipush 1000, 3) := by decide +kernel
theorem dX1_answered_64 : decode cX1_answered 64 = .ok (.bipush 100, 2) := by decide +kernel
theorem dX1_answered_66 : decode cX1_answered 66 = .ok (.aload_n 0, 1) := by decide +kernel
theorem dX1_answered_67 : decode cX1_answered 67 = .ok (.getfield 57, 3) := by decide +kernel
theorem dX1_answered_70 : decode cX1_answered 70 = .ok (.imul, 1) := by decide +kernel
theorem dX1_answered_71 : decode cX1_answered 71 = .ok (.iadd, 1) := by decide +kernel
theorem dX1_answered_72 : decode cX1_answered 72 = .ok (.aload_n 0, 1) := by decide +kernel
theorem dX1_answered_73 : decode cX1_answered 73 = .ok (.getfield 60, 3) := by decide +kernel
theorem dX1_answered_76 : decode cX1_answered 76 = .ok (.bipush 63, 2) := by decide +kernel
theorem dX1_answered_78 : decode cX1_answered 78 = .ok (.iand, 1) := by decide +kernel
theorem dX1_answered_79 : decode cX1_answered 79 = .ok (.iadd, 1) := by decide +kernel
theorem dX1_answered_80 : decode cX1_answered 80 = .ok (.goto 20, 3) := by decide +kernel
theorem dX1_answered_83 : decode cX1_answered 83 = .ok (.aload_n 0, 1) := by decide +kernel
theorem dX1_answered_84 : decode cX1_answered 84 = .ok (.getfield 22, 3) := by decide +kernel
theorem dX1_answered_87 : decode cX1_answered 87 = .ok (.bipush 8, 2) := by decide +kernel
theorem dX1_answered_89 : decode cX1_answered 89 = .ok (.aload_n 0, 1) := by decide +kernel
theorem dX1_answered_90 : decode cX1_answered 90 = .ok (.getfield 53, 3) := by decide +kernel
theorem dX1_answered_93 : decode cX1_answered 93 = .ok (.imul, 1) := by decide +kernel
theorem dX1_answered_94 : decode cX1_answered 94 = .ok (.iload_n 2, 1) := by decide +kernel
theorem dX1_answered_95 : decode cX1_answered 95 = .ok (.bipush 7, 2) := by decide +kernel
theorem dX1_answered_97 : decode cX1_answered 97 = .ok (.iand, 1) := by decide +kernel
theorem dX1_answered_98 : decode cX1_answered 98 = .ok (.iadd, 1) := by decide +kernel
theorem dX1_answered_99 : decode cX1_answered 99 = .ok (.iaload, 1) := by decide +kernel
theorem dX1_answered_100 : decode cX1_answered 100 = .ok (.invokevirtual 66, 3) := by decide +kernel
theorem dX1_answered_103 : decode cX1_answered 103 = .ok (.aload_n 0, 1) := by decide +kernel
theorem dX1_answered_104 : decode cX1_answered 104 = .ok (.getfield 37, 3) := by decide +kernel
theorem dX1_answered_107 : decode cX1_answered 107 = .ok (.iload_n 1, 1) := by decide +kernel
theorem dX1_answered_108 : decode cX1_answered 108 = .ok (.iconst 1, 1) := by decide +kernel
theorem dX1_answered_109 : decode cX1_answered 109 = .ok (.iastore, 1) := by decide +kernel
theorem dX1_answered_110 : decode cX1_answered 110 = .ok (.return_, 1) := by decide +kernel
theorem dX1_answer_0 : decode cX1_answer 0 = .ok (.aload_n 0, 1) := by decide +kernel
theorem dX1_answer_1 : decode cX1_answer 1 = .ok (.getfield 92, 3) := by decide +kernel
theorem dX1_answer_4 : decode cX1_answer 4 = .ok (.ireturn, 1) := by decide +kernel
theorem dX1_wrong_0 : decode cX1_wrong 0 = .ok (.aload_n 0, 1) := by decide +kernel
theorem dX1_wrong_1 : decode cX1_wrong 1 = .ok (.getfield 89, 3) := by decide +kernel
theorem dX1_wrong_4 : decode cX1_wrong 4 = .ok (.ireturn, 1) := by decide +kernel
theorem dX1_events_0 : decode cX1_events 0 = .ok (.iload_n 1, 1) := by decide +kernel
theorem dX1_events_1 : decode cX1_events 1 = .ok (.iconst 0, 1) := by decide +kernel
theorem dX1_events_2 : decode cX1_events 2 = .ok (.iconst 1, 1) := by decide +kernel
theorem dX1_events_3 : decode cX1_events 3 = .ok (.invokestatic 49, 3) := by decide +kernel
theorem dX1_events_6 : decode cX1_events 6 = .ok (.ifCond .eq 12, 3) := by decide +kernel
theorem dX1_events_9 : decode cX1_events 9 = .ok (.aload_n 0, 1) := by decide +kernel
theorem dX1_events_10 : decode cX1_events 10 = .ok (.getfield 28, 3) := by decide +kernel
theorem dX1_events_13 : decode cX1_events 13 = .ok (.iload_n 1, 1) := by decide +kernel
theorem dX1_events_14 : decode cX1_events 14 = .ok (.iaload, 1) := by decide +kernel
theorem dX1_events_15 : decode cX1_events 15 = .ok (.goto 4, 3) := by decide +kernel
theorem dX1_events_18 : decode cX1_events 18 = .ok (.iconst (-1), 1) := by decide +kernel
theorem dX1_events_19 : decode cX1_events 19 = .ok (.ireturn, 1) := by decide +kernel
theorem dX1_event_0 : decode cX1_event 0 = .ok (.iload_n 1, 1) := by decide +kernel
theorem dX1_event_1 : decode cX1_event 1 = .ok (.iconst 0, 1) := by decide +kernel
theorem dX1_event_2 : decode cX1_event 2 = .ok (.iconst 1, 1) := by decide +kernel
theorem dX1_event_3 : decode cX1_event 3 = .ok (.invokestatic 49, 3) := by decide +kernel
theorem dX1_event_6 : decode cX1_event 6 = .ok (.ifCond .eq 37, 3) := by decide +kernel
theorem dX1_event_9 : decode cX1_event 9 = .ok (.iload_n 2, 1) := by decide +kernel
theorem dX1_event_10 : decode cX1_event 10 = .ok (.iconst 0, 1) := by decide +kernel
theorem dX1_event_11 : decode cX1_event 11 = .ok (.bipush 31, 2) := by decide +kernel
theorem dX1_event_13 : decode cX1_event 13 = .ok (.invokestatic 49, 3) := by decide +kernel
theorem dX1_event_16 : decode cX1_event 16 = .ok (.ifCond .eq 27, 3) := by decide +kernel
theorem dX1_event_19 : decode cX1_event 19 = .ok (.iload_n 2, 1) := by decide +kernel
theorem dX1_event_20 : decode cX1_event 20 = .ok (.aload_n 0, 1) := by decide +kernel
theorem dX1_event_21 : decode cX1_event 21 = .ok (.getfield 28, 3) := by decide +kernel
theorem dX1_event_24 : decode cX1_event 24 = .ok (.iload_n 1, 1) := by decide +kernel
theorem dX1_event_25 : decode cX1_event 25 = .ok (.iaload, 1) := by decide +kernel
theorem dX1_event_26 : decode cX1_event 26 = .ok (.if_icmp .ge 17, 3) := by decide +kernel
theorem dX1_event_29 : decode cX1_event 29 = .ok (.aload_n 0, 1) := by decide +kernel
theorem dX1_event_30 : decode cX1_event 30 = .ok (.getfield 25, 3) := by decide +kernel
theorem dX1_event_33 : decode cX1_event 33 = .ok (.bipush 32, 2) := by decide +kernel
theorem dX1_event_35 : decode cX1_event 35 = .ok (.iload_n 1, 1) := by decide +kernel
theorem dX1_event_36 : decode cX1_event 36 = .ok (.imul, 1) := by decide +kernel
theorem dX1_event_37 : decode cX1_event 37 = .ok (.iload_n 2, 1) := by decide +kernel
theorem dX1_event_38 : decode cX1_event 38 = .ok (.iadd, 1) := by decide +kernel
theorem dX1_event_39 : decode cX1_event 39 = .ok (.iaload, 1) := by decide +kernel
theorem dX1_event_40 : decode cX1_event 40 = .ok (.goto 4, 3) := by decide +kernel
theorem dX1_event_43 : decode cX1_event 43 = .ok (.iconst (-1), 1) := by decide +kernel
theorem dX1_event_44 : decode cX1_event 44 = .ok (.ireturn, 1) := by decide +kernel
