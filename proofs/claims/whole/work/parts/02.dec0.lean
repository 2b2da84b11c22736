/-! decode rows, by program -/
theorem dX0_init_0 : decode cX0_init 0 = .ok (.aload_n 0, 1) := by decide +kernel
theorem dX0_init_1 : decode cX0_init 1 = .ok (.invokespecial 3, 3) := by decide +kernel
theorem dX0_init_4 : decode cX0_init 4 = .ok (.return_, 1) := by decide +kernel
theorem dX0_clear_0 : decode cX0_clear 0 = .ok (.aload_n 0, 1) := by decide +kernel
theorem dX0_clear_1 : decode cX0_clear 1 = .ok (.iconst 0, 1) := by decide +kernel
theorem dX0_clear_2 : decode cX0_clear 2 = .ok (.putfield 9, 3) := by decide +kernel
theorem dX0_clear_5 : decode cX0_clear 5 = .ok (.aload_n 0, 1) := by decide +kernel
theorem dX0_clear_6 : decode cX0_clear 6 = .ok (.bipush (-4), 2) := by decide +kernel
theorem dX0_clear_8 : decode cX0_clear 8 = .ok (.putfield 15, 3) := by decide +kernel
theorem dX0_clear_11 : decode cX0_clear 11 = .ok (.return_, 1) := by decide +kernel
theorem dX0_offer_0 : decode cX0_offer 0 = .ok (.iload_n 2, 1) := by decide +kernel
theorem dX0_offer_1 : decode cX0_offer 1 = .ok (.aload_n 0, 1) := by decide +kernel
theorem dX0_offer_2 : decode cX0_offer 2 = .ok (.getfield 15, 3) := by decide +kernel
theorem dX0_offer_5 : decode cX0_offer 5 = .ok (.if_icmp .gt 25, 3) := by decide +kernel
theorem dX0_offer_8 : decode cX0_offer 8 = .ok (.iload_n 2, 1) := by decide +kernel
theorem dX0_offer_9 : decode cX0_offer 9 = .ok (.aload_n 0, 1) := by decide +kernel
theorem dX0_offer_10 : decode cX0_offer 10 = .ok (.getfield 15, 3) := by decide +kernel
theorem dX0_offer_13 : decode cX0_offer 13 = .ok (.if_icmp .ne 27, 3) := by decide +kernel
theorem dX0_offer_16 : decode cX0_offer 16 = .ok (.iload_n 1, 1) := by decide +kernel
theorem dX0_offer_17 : decode cX0_offer 17 = .ok (.invokestatic 18, 3) := by decide +kernel
theorem dX0_offer_20 : decode cX0_offer 20 = .ok (.aload_n 0, 1) := by decide +kernel
theorem dX0_offer_21 : decode cX0_offer 21 = .ok (.getfield 9, 3) := by decide +kernel
theorem dX0_offer_24 : decode cX0_offer 24 = .ok (.invokestatic 18, 3) := by decide +kernel
theorem dX0_offer_27 : decode cX0_offer 27 = .ok (.if_icmp .ge 13, 3) := by decide +kernel
theorem dX0_offer_30 : decode cX0_offer 30 = .ok (.aload_n 0, 1) := by decide +kernel
theorem dX0_offer_31 : decode cX0_offer 31 = .ok (.iload_n 1, 1) := by decide +kernel
theorem dX0_offer_32 : decode cX0_offer 32 = .ok (.putfield 9, 3) := by decide +kernel
theorem dX0_offer_35 : decode cX0_offer 35 = .ok (.aload_n 0, 1) := by decide +kernel
theorem dX0_offer_36 : decode cX0_offer 36 = .ok (.iload_n 2, 1) := by decide +kernel
theorem dX0_offer_37 : decode cX0_offer 37 = .ok (.putfield 15, 3) := by decide +kernel
theorem dX0_offer_40 : decode cX0_offer 40 = .ok (.return_, 1) := by decide +kernel
theorem dX1_init_0 : decode cX1_init 0 = .ok (.aload_n 0, 1) := by decide +kernel
theorem dX1_init_1 : decode cX1_init 1 = .ok (.invokespecial 3, 3) := by decide +kernel
theorem dX1_init_4 : decode cX1_init 4 = .ok (.aload_n 0, 1) := by decide +kernel
theorem dX1_init_5 : decode cX1_init 5 = .ok (.new 9, 3) := by decide +kernel
theorem dX1_init_8 : decode cX1_init 8 = .ok (.dup, 1) := by decide +kernel
theorem dX1_init_9 : decode cX1_init 9 = .ok (.bipush 10, 2) := by decide +kernel
theorem dX1_init_11 : decode cX1_init 11 = .ok (.invokespecial 11, 3) := by decide +kernel
theorem dX1_init_14 : decode cX1_init 14 = .ok (.putfield 14, 3) := by decide +kernel
theorem dX1_init_17 : decode cX1_init 17 = .ok (.aload_n 0, 1) := by decide +kernel
theorem dX1_init_18 : decode cX1_init 18 = .ok (.aload_n 1, 1) := by decide +kernel
theorem dX1_init_19 : decode cX1_init 19 = .ok (.putfield 20, 3) := by decide +kernel
theorem dX1_init_22 : decode cX1_init 22 = .ok (.return_, 1) := by decide +kernel
theorem dX1_play_0 : decode cX1_play 0 = .ok (.aload_n 0, 1) := by decide +kernel
theorem dX1_play_1 : decode cX1_play 1 = .ok (.aload_n 1, 1) := by decide +kernel
theorem dX1_play_2 : decode cX1_play 2 = .ok (.iload_n 2, 1) := by decide +kernel
theorem dX1_play_3 : decode cX1_play 3 = .ok (.invokevirtual 24, 3) := by decide +kernel
theorem dX1_play_6 : decode cX1_play 6 = .ok (.iconst 0, 1) := by decide +kernel
theorem dX1_play_7 : decode cX1_play 7 = .ok (.istore 4, 2) := by decide +kernel
theorem dX1_play_9 : decode cX1_play 9 = .ok (.iload 4, 2) := by decide +kernel
theorem dX1_play_11 : decode cX1_play 11 = .ok (.iload_n 3, 1) := by decide +kernel
theorem dX1_play_12 : decode cX1_play 12 = .ok (.if_icmp .ge 31, 3) := by decide +kernel
theorem dX1_play_15 : decode cX1_play 15 = .ok (.aload_n 0, 1) := by decide +kernel
theorem dX1_play_16 : decode cX1_play 16 = .ok (.getfield 20, 3) := by decide +kernel
theorem dX1_play_19 : decode cX1_play 19 = .ok (.iload 4, 2) := by decide +kernel
theorem dX1_play_21 : decode cX1_play 21 = .ok (.aload_n 1, 1) := by decide +kernel
theorem dX1_play_22 : decode cX1_play 22 = .ok (.getfield 28, 3) := by decide +kernel
theorem dX1_play_25 : decode cX1_play 25 = .ok (.invokevirtual 34, 3) := by decide +kernel
theorem dX1_play_28 : decode cX1_play 28 = .ok (.ifCond .eq 9, 3) := by decide +kernel
theorem dX1_play_31 : decode cX1_play 31 = .ok (.aload_n 0, 1) := by decide +kernel
theorem dX1_play_32 : decode cX1_play 32 = .ok (.iload 4, 2) := by decide +kernel
theorem dX1_play_34 : decode cX1_play 34 = .ok (.invokevirtual 40, 3) := by decide +kernel
theorem dX1_play_37 : decode cX1_play 37 = .ok (.iinc 4 1, 3) := by decide +kernel
theorem dX1_play_40 : decode cX1_play 40 = .ok (.goto (-31), 3) := by decide +kernel
theorem dX1_play_43 : decode cX1_play 43 = .ok (.return_, 1) := by decide +kernel
theorem dX1_open_0 : decode cX1_open 0 = .ok (.aload_n 0, 1) := by decide +kernel
theorem dX1_open_1 : decode cX1_open 1 = .ok (.iconst 0, 1) := by decide +kernel
theorem dX1_open_2 : decode cX1_open 2 = .ok (.putfield 43, 3) := by decide +kernel
theorem dX1_open_5 : decode cX1_open 5 = .ok (.aload_n 0, 1) := by decide +kernel
theorem dX1_open_6 : decode cX1_open 6 = .ok (.iconst 0, 1) := by decide +kernel
theorem dX1_open_7 : decode cX1_open 7 = .ok (.putfield 46, 3) := by decide +kernel
theorem dX1_open_10 : decode cX1_open 10 = .ok (.aload_n 0, 1) := by decide +kernel
theorem dX1_open_11 : decode cX1_open 11 = .ok (.iconst 0, 1) := by decide +kernel
theorem dX1_open_12 : decode cX1_open 12 = .ok (.putfield 49, 3) := by decide +kernel
theorem dX1_open_15 : decode cX1_open 15 = .ok (.aload_n 0, 1) := by decide +kernel
theorem dX1_open_16 : decode cX1_open 16 = .ok (.iconst 0, 1) := by decide +kernel
theorem dX1_open_17 : decode cX1_open 17 = .ok (.putfield 52, 3) := by decide +kernel
theorem dX1_open_20 : decode cX1_open 20 = .ok (.aload_n 0, 1) := by decide +kernel
theorem dX1_open_21 : decode cX1_open 21 = .ok (.bipush (-4), 2) := by decide +kernel
theorem dX1_open_23 : decode cX1_open 23 = .ok (.putfield 55, 3) := by decide +kernel
theorem dX1_open_26 : decode cX1_open 26 = .ok (.aload_n 0, 1) := by decide +kernel
theorem dX1_open_27 : decode cX1_open 27 = .ok (.iconst 0, 1) := by decide +kernel
theorem dX1_open_28 : decode cX1_open 28 = .ok (.putfield 58, 3) := by decide +kernel
theorem dX1_open_31 : decode cX1_open 31 = .ok (.aload_n 0, 1) := by decide +kernel
theorem dX1_open_32 : decode cX1_open 32 = .ok (.iconst 0, 1) := by decide +kernel
theorem dX1_open_33 : decode cX1_open 33 = .ok (.putfield 61, 3) := by decide +kernel
theorem dX1_open_36 : decode cX1_open 36 = .ok (.aload_n 0, 1) := by decide +kernel
theorem dX1_open_37 : decode cX1_open 37 = .ok (.getfield 14, 3) := by decide +kernel
theorem dX1_open_40 : decode cX1_open 40 = .ok (.bipush (-4), 2) := by decide +kernel
theorem dX1_open_42 : decode cX1_open 42 = .ok (.invokevirtual 64, 3) := by decide +kernel
theorem dX1_open_45 : decode cX1_open 45 = .ok (.iconst 0, 1) := by decide +kernel
theorem dX1_open_46 : decode cX1_open 46 = .ok (.istore_n 3, 1) := by decide +kernel
theorem dX1_open_47 : decode cX1_open 47 = .ok (.iload_n 3, 1) := by decide +kernel
theorem dX1_open_48 : decode cX1_open 48 = .ok (.aload_n 0, 1) := by decide +kernel
theorem dX1_open_49 : decode cX1_open 49 = .ok (.getfield 20, 3) := by decide +kernel
theorem dX1_open_52 : decode cX1_open 52 = .ok (.getfield 67, 3) := by decide +kernel
theorem dX1_open_55 : decode cX1_open 55 = .ok (.if_icmp .ge 74, 3) := by decide +kernel
theorem dX1_open_58 : decode cX1_open 58 = .ok (.iload_n 2, 1) := by decide +kernel
theorem dX1_open_59 : decode cX1_open 59 = .ok (.ifCond .ne 70, 3) := by decide +kernel
theorem dX1_open_62 : decode cX1_open 62 = .ok (.aload_n 0, 1) := by decide +kernel
theorem dX1_open_63 : decode cX1_open 63 = .ok (.getfield 20, 3) := by decide +kernel
theorem dX1_open_66 : decode cX1_open 66 = .ok (.iload_n 3, 1) := by decide +kernel
theorem dX1_open_67 : decode cX1_open 67 = .ok (.aload_n 1, 1) := by decide +kernel
theorem dX1_open_68 : decode cX1_open 68 = .ok (.getfield 28, 3) := by decide +kernel
theorem dX1_open_71 : decode cX1_open 71 = .ok (.invokevirtual 70, 3) := by decide +kernel
theorem dX1_open_74 : decode cX1_open 74 = .ok (.ifCond .eq 49, 3) := by decide +kernel
theorem dX1_open_77 : decode cX1_open 77 = .ok (.aload_n 1, 1) := by decide +kernel
theorem dX1_open_78 : decode cX1_open 78 = .ok (.getfield 73, 3) := by decide +kernel
theorem dX1_open_81 : decode cX1_open 81 = .ok (.iload_n 3, 1) := by decide +kernel
theorem dX1_open_82 : decode cX1_open 82 = .ok (.invokevirtual 76, 3) := by decide +kernel
theorem dX1_open_85 : decode cX1_open 85 = .ok (.ifCond .ne 38, 3) := by decide +kernel
theorem dX1_open_88 : decode cX1_open 88 = .ok (.aload_n 1, 1) := by decide +kernel
theorem dX1_open_89 : decode cX1_open 89 = .ok (.getfield 80, 3) := by decide +kernel
theorem dX1_open_92 : decode cX1_open 92 = .ok (.iload_n 3, 1) := by decide +kernel
theorem dX1_open_93 : decode cX1_open 93 = .ok (.invokestatic 83, 3) := by decide +kernel
theorem dX1_open_96 : decode cX1_open 96 = .ok (.ifCond .ne 27, 3) := by decide +kernel
theorem dX1_open_99 : decode cX1_open 99 = .ok (.aload_n 0, 1) := by decide +kernel
theorem dX1_open_100 : decode cX1_open 100 = .ok (.iload_n 3, 1) := by decide +kernel
theorem dX1_open_101 : decode cX1_open 101 = .ok (.aload_n 1, 1) := by decide +kernel
theorem dX1_open_102 : decode cX1_open 102 = .ok (.getfield 86, 3) := by decide +kernel
theorem dX1_open_105 : decode cX1_open 105 = .ok (.invokevirtual 89, 3) := by decide +kernel
theorem dX1_open_108 : decode cX1_open 108 = .ok (.ifCond .ne 15, 3) := by decide +kernel
theorem dX1_open_111 : decode cX1_open 111 = .ok (.aload_n 0, 1) := by decide +kernel
theorem dX1_open_112 : decode cX1_open 112 = .ok (.dup, 1) := by decide +kernel
theorem dX1_open_113 : decode cX1_open 113 = .ok (.getfield 43, 3) := by decide +kernel
theorem dX1_open_116 : decode cX1_open 116 = .ok (.iconst 1, 1) := by decide +kernel
theorem dX1_open_117 : decode cX1_open 117 = .ok (.iload_n 3, 1) := by decide +kernel
theorem dX1_open_118 : decode cX1_open 118 = .ok (.ishl, 1) := by decide +kernel
theorem dX1_open_119 : decode cX1_open 119 = .ok (.ior, 1) := by decide +kernel
theorem dX1_open_120 : decode cX1_open 120 = .ok (.putfield 43, 3) := by decide +kernel
theorem dX1_open_123 : decode cX1_open 123 = .ok (.iinc 3 1, 3) := by decide +kernel
theorem dX1_open_126 : decode cX1_open 126 = .ok (.goto (-79), 3) := by decide +kernel
theorem dX1_open_129 : decode cX1_open 129 = .ok (.return_, 1) := by decide +kernel
theorem dX1_isBarred_0 : decode cX1_isBarred 0 = .ok (.iconst 0, 1) := by decide +kernel
theorem dX1_isBarred_1 : decode cX1_isBarred 1 = .ok (.istore_n 3, 1) := by decide +kernel
theorem dX1_isBarred_2 : decode cX1_isBarred 2 = .ok (.iload_n 3, 1) := by decide +kernel
theorem dX1_isBarred_3 : decode cX1_isBarred 3 = .ok (.iload_n 1, 1) := by decide +kernel
theorem dX1_isBarred_4 : decode cX1_isBarred 4 = .ok (.if_icmp .ge 34, 3) := by decide +kernel
theorem dX1_isBarred_7 : decode cX1_isBarred 7 = .ok (.aload_n 0, 1) := by decide +kernel
theorem dX1_isBarred_8 : decode cX1_isBarred 8 = .ok (.getfield 43, 3) := by decide +kernel
theorem dX1_isBarred_11 : decode cX1_isBarred 11 = .ok (.iload_n 3, 1) := by decide +kernel
theorem dX1_isBarred_12 : decode cX1_isBarred 12 = .ok (.invokestatic 83, 3) := by decide +kernel
theorem dX1_isBarred_15 : decode cX1_isBarred 15 = .ok (.ifCond .eq 17, 3) := by decide +kernel
theorem dX1_isBarred_18 : decode cX1_isBarred 18 = .ok (.iload_n 2, 1) := by decide +kernel
theorem dX1_isBarred_19 : decode cX1_isBarred 19 = .ok (.iload_n 3, 1) := by decide +kernel
theorem dX1_isBarred_20 : decode cX1_isBarred 20 = .ok (.iload_n 1, 1) := by decide +kernel
theorem dX1_isBarred_21 : decode cX1_isBarred 21 = .ok (.invokestatic 92, 3) := by decide +kernel
theorem dX1_isBarred_24 : decode cX1_isBarred 24 = .ok (.invokestatic 83, 3) := by decide +kernel
theorem dX1_isBarred_27 : decode cX1_isBarred 27 = .ok (.ifCond .eq 5, 3) := by decide +kernel
theorem dX1_isBarred_30 : decode cX1_isBarred 30 = .ok (.iconst 1, 1) := by decide +kernel
theorem dX1_isBarred_31 : decode cX1_isBarred 31 = .ok (.ireturn, 1) := by decide +kernel
theorem dX1_isBarred_32 : decode cX1_isBarred 32 = .ok (.iinc 3 1, 3) := by decide +kernel
theorem dX1_isBarred_35 : decode cX1_isBarred 35 = .ok (.goto (-33), 3) := by decide +kernel
theorem dX1_isBarred_38 : decode cX1_isBarred 38 = .ok (.iconst 0, 1) := by decide +kernel
theorem dX1_isBarred_39 : decode cX1_isBarred 39 = .ok (.ireturn, 1) := by decide +kernel
theorem dX1_attend_0 : decode cX1_attend 0 = .ok (.aload_n 0, 1) := by decide +kernel
theorem dX1_attend_1 : decode cX1_attend 1 = .ok (.getfield 20, 3) := by decide +kernel
theorem dX1_attend_4 : decode cX1_attend 4 = .ok (.getfield 96, 3) := by decide +kernel
theorem dX1_attend_7 : decode cX1_attend 7 = .ok (.iload_n 1, 1) := by decide +kernel
theorem dX1_attend_8 : decode cX1_attend 8 = .ok (.invokevirtual 76, 3) := by decide +kernel
theorem dX1_attend_11 : decode cX1_attend 11 = .ok (.istore_n 2, 1) := by decide +kernel
theorem dX1_attend_12 : decode cX1_attend 12 = .ok (.iconst 0, 1) := by decide +kernel
theorem dX1_attend_13 : decode cX1_attend 13 = .ok (.istore_n 3, 1) := by decide +kernel
theorem dX1_attend_14 : decode cX1_attend 14 = .ok (.iload_n 3, 1) := by decide +kernel
theorem dX1_attend_15 : decode cX1_attend 15 = .ok (.aload_n 0, 1) := by decide +kernel
theorem dX1_attend_16 : decode cX1_attend 16 = .ok (.getfield 20, 3) := by decide +kernel
theorem dX1_attend_19 : decode cX1_attend 19 = .ok (.getfield 67, 3) := by decide +kernel
theorem dX1_attend_22 : decode cX1_attend 22 = .ok (.if_icmp .ge 49, 3) := by decide +kernel
theorem dX1_attend_25 : decode cX1_attend 25 = .ok (.aload_n 0, 1) := by decide +kernel
theorem dX1_attend_26 : decode cX1_attend 26 = .ok (.iload_n 3, 1) := by decide +kernel
theorem dX1_attend_27 : decode cX1_attend 27 = .ok (.iload_n 2, 1) := by decide +kernel
theorem dX1_attend_28 : decode cX1_attend 28 = .ok (.invokevirtual 99, 3) := by decide +kernel
theorem dX1_attend_31 : decode cX1_attend 31 = .ok (.ifCond .eq 34, 3) := by decide +kernel
theorem dX1_attend_34 : decode cX1_attend 34 = .ok (.aload_n 0, 1) := by decide +kernel
theorem dX1_attend_35 : decode cX1_attend 35 = .ok (.getfield 20, 3) := by decide +kernel
theorem dX1_attend_38 : decode cX1_attend 38 = .ok (.iload_n 1, 1) := by decide +kernel
theorem dX1_attend_39 : decode cX1_attend 39 = .ok (.iload_n 3, 1) := by decide +kernel
theorem dX1_attend_40 : decode cX1_attend 40 = .ok (.invokevirtual 102, 3) := by decide +kernel
theorem dX1_attend_43 : decode cX1_attend 43 = .ok (.ifCond .ne 10, 3) := by decide +kernel
theorem dX1_attend_46 : decode cX1_attend 46 = .ok (.aload_n 0, 1) := by decide +kernel
theorem dX1_attend_47 : decode cX1_attend 47 = .ok (.iload_n 1, 1) := by decide +kernel
theorem dX1_attend_48 : decode cX1_attend 48 = .ok (.iload_n 3, 1) := by decide +kernel
theorem dX1_attend_49 : decode cX1_attend 49 = .ok (.invokevirtual 105, 3) := by decide +kernel
theorem dX1_attend_52 : decode cX1_attend 52 = .ok (.return_, 1) := by decide +kernel
theorem dX1_attend_53 : decode cX1_attend 53 = .ok (.aload_n 0, 1) := by decide +kernel
theorem dX1_attend_54 : decode cX1_attend 54 = .ok (.dup, 1) := by decide +kernel
theorem dX1_attend_55 : decode cX1_attend 55 = .ok (.getfield 46, 3) := by decide +kernel
theorem dX1_attend_58 : decode cX1_attend 58 = .ok (.iconst 1, 1) := by decide +kernel
theorem dX1_attend_59 : decode cX1_attend 59 = .ok (.iload_n 3, 1) := by decide +kernel
theorem dX1_attend_60 : decode cX1_attend 60 = .ok (.ishl, 1) := by decide +kernel
theorem dX1_attend_61 : decode cX1_attend 61 = .ok (.ior, 1) := by decide +kernel
theorem dX1_attend_62 : decode cX1_attend 62 = .ok (.putfield 46, 3) := by decide +kernel
theorem dX1_attend_65 : decode cX1_attend 65 = .ok (.iinc 3 1, 3) := by decide +kernel
theorem dX1_attend_68 : decode cX1_attend 68 = .ok (.goto (-54), 3) := by decide +kernel
theorem dX1_attend_71 : decode cX1_attend 71 = .ok (.aload_n 0, 1) := by decide +kernel
theorem dX1_attend_72 : decode cX1_attend 72 = .ok (.aload_n 0, 1) := by decide +kernel
theorem dX1_attend_73 : decode cX1_attend 73 = .ok (.getfield 52, 3) := by decide +kernel
theorem dX1_attend_76 : decode cX1_attend 76 = .ok (.ifCond .ne 7, 3) := by decide +kernel
theorem dX1_attend_79 : decode cX1_attend 79 = .ok (.iload_n 1, 1) := by decide +kernel
theorem dX1_attend_80 : decode cX1_attend 80 = .ok (.goto 7, 3) := by decide +kernel
theorem dX1_attend_83 : decode cX1_attend 83 = .ok (.aload_n 0, 1) := by decide +kernel
theorem dX1_attend_84 : decode cX1_attend 84 = .ok (.getfield 55, 3) := by decide +kernel
theorem dX1_attend_87 : decode cX1_attend 87 = .ok (.putfield 55, 3) := by decide +kernel
theorem dX1_attend_90 : decode cX1_attend 90 = .ok (.aload_n 0, 1) := by decide +kernel
theorem dX1_attend_91 : decode cX1_attend 91 = .ok (.dup, 1) := by decide +kernel
theorem dX1_attend_92 : decode cX1_attend 92 = .ok (.getfield 52, 3) := by decide +kernel
theorem dX1_attend_95 : decode cX1_attend 95 = .ok (.iconst 1, 1) := by decide +kernel
theorem dX1_attend_96 : decode cX1_attend 96 = .ok (.iadd, 1) := by decide +kernel
theorem dX1_attend_97 : decode cX1_attend 97 = .ok (.putfield 52, 3) := by decide +kernel
theorem dX1_attend_100 : decode cX1_attend 100 = .ok (.return_, 1) := by decide +kernel
theorem dX1_isReadyFor_0 : decode cX1_isReadyFor 0 = .ok (.aload_n 0, 1) := by decide +kernel
theorem dX1_isReadyFor_1 : decode cX1_isReadyFor 1 = .ok (.getfield 43, 3) := by decide +kernel
theorem dX1_isReadyFor_4 : decode cX1_isReadyFor 4 = .ok (.aload_n 0, 1) := by decide +kernel
theorem dX1_isReadyFor_5 : decode cX1_isReadyFor 5 = .ok (.getfield 46, 3) := by decide +kernel
theorem dX1_isReadyFor_8 : decode cX1_isReadyFor 8 = .ok (.iconst (-1), 1) := by decide +kernel
theorem dX1_isReadyFor_9 : decode cX1_isReadyFor 9 = .ok (.ixor, 1) := by decide +kernel
theorem dX1_isReadyFor_10 : decode cX1_isReadyFor 10 = .ok (.iand, 1) := by decide +kernel
theorem dX1_isReadyFor_11 : decode cX1_isReadyFor 11 = .ok (.aload_n 0, 1) := by decide +kernel
theorem dX1_isReadyFor_12 : decode cX1_isReadyFor 12 = .ok (.getfield 20, 3) := by decide +kernel
theorem dX1_isReadyFor_15 : decode cX1_isReadyFor 15 = .ok (.getfield 109, 3) := by decide +kernel
theorem dX1_isReadyFor_18 : decode cX1_isReadyFor 18 = .ok (.iload_n 2, 1) := by decide +kernel
theorem dX1_isReadyFor_19 : decode cX1_isReadyFor 19 = .ok (.invokevirtual 76, 3) := by decide +kernel
theorem dX1_isReadyFor_22 : decode cX1_isReadyFor 22 = .ok (.iand, 1) := by decide +kernel
theorem dX1_isReadyFor_23 : decode cX1_isReadyFor 23 = .ok (.iload_n 1, 1) := by decide +kernel
theorem dX1_isReadyFor_24 : decode cX1_isReadyFor 24 = .ok (.invokestatic 83, 3) := by decide +kernel
theorem dX1_isReadyFor_27 : decode cX1_isReadyFor 27 = .ok (.ireturn, 1) := by decide +kernel
theorem dX1_firstFor_0 : decode cX1_firstFor 0 = .ok (.iconst 0, 1) := by decide +kernel
theorem dX1_firstFor_1 : decode cX1_firstFor 1 = .ok (.istore_n 2, 1) := by decide +kernel
theorem dX1_firstFor_2 : decode cX1_firstFor 2 = .ok (.iload_n 2, 1) := by decide +kernel
theorem dX1_firstFor_3 : decode cX1_firstFor 3 = .ok (.aload_n 0, 1) := by decide +kernel
theorem dX1_firstFor_4 : decode cX1_firstFor 4 = .ok (.getfield 20, 3) := by decide +kernel
theorem dX1_firstFor_7 : decode cX1_firstFor 7 = .ok (.getfield 67, 3) := by decide +kernel
theorem dX1_firstFor_10 : decode cX1_firstFor 10 = .ok (.if_icmp .ge 20, 3) := by decide +kernel
theorem dX1_firstFor_13 : decode cX1_firstFor 13 = .ok (.aload_n 0, 1) := by decide +kernel
theorem dX1_firstFor_14 : decode cX1_firstFor 14 = .ok (.iload_n 2, 1) := by decide +kernel
theorem dX1_firstFor_15 : decode cX1_firstFor 15 = .ok (.iload_n 1, 1) := by decide +kernel
theorem dX1_firstFor_16 : decode cX1_firstFor 16 = .ok (.invokevirtual 99, 3) := by decide +kernel
theorem dX1_firstFor_19 : decode cX1_firstFor 19 = .ok (.ifCond .eq 5, 3) := by decide +kernel
theorem dX1_firstFor_22 : decode cX1_firstFor 22 = .ok (.iload_n 2, 1) := by decide +kernel
theorem dX1_firstFor_23 : decode cX1_firstFor 23 = .ok (.ireturn, 1) := by decide +kernel
theorem dX1_firstFor_24 : decode cX1_firstFor 24 = .ok (.iinc 2 1, 3) := by decide +kernel
theorem dX1_firstFor_27 : decode cX1_firstFor 27 = .ok (.goto (-25), 3) := by decide +kernel
theorem dX1_firstFor_30 : decode cX1_firstFor 30 = .ok (.bipush (-4), 2) := by decide +kernel
theorem dX1_firstFor_32 : decode cX1_firstFor 32 = .ok (.ireturn, 1) := by decide +kernel
theorem dX1_sell_0 : decode cX1_sell 0 = .ok (.aload_n 0, 1) := by decide +kernel
theorem dX1_sell_1 : decode cX1_sell 1 = .ok (.getfield 20, 3) := by decide +kernel
theorem dX1_sell_4 : decode cX1_sell 4 = .ok (.getfield 112, 3) := by decide +kernel
theorem dX1_sell_7 : decode cX1_sell 7 = .ok (.iload_n 1, 1) := by decide +kernel
theorem dX1_sell_8 : decode cX1_sell 8 = .ok (.invokevirtual 76, 3) := by decide +kernel
theorem dX1_sell_11 : decode cX1_sell 11 = .ok (.iconst 3, 1) := by decide +kernel
theorem dX1_sell_12 : decode cX1_sell 12 = .ok (.if_icmp .ne 7, 3) := by decide +kernel
theorem dX1_sell_15 : decode cX1_sell 15 = .ok (.iconst 0, 1) := by decide +kernel
theorem dX1_sell_16 : decode cX1_sell 16 = .ok (.goto 14, 3) := by decide +kernel
theorem dX1_sell_19 : decode cX1_sell 19 = .ok (.aload_n 0, 1) := by decide +kernel
theorem dX1_sell_20 : decode cX1_sell 20 = .ok (.getfield 20, 3) := by decide +kernel
theorem dX1_sell_23 : decode cX1_sell 23 = .ok (.getfield 115, 3) := by decide +kernel
theorem dX1_sell_26 : decode cX1_sell 26 = .ok (.iload_n 1, 1) := by decide +kernel
theorem dX1_sell_27 : decode cX1_sell 27 = .ok (.invokevirtual 76, 3) := by decide +kernel
theorem dX1_sell_30 : decode cX1_sell 30 = .ok (.istore_n 3, 1) := by decide +kernel
theorem dX1_sell_31 : decode cX1_sell 31 = .ok (.iload_n 3, 1) := by decide +kernel
theorem dX1_sell_32 : decode cX1_sell 32 = .ok (.bipush 9, 2) := by decide +kernel
theorem dX1_sell_34 : decode cX1_sell 34 = .ok (.imul, 1) := by decide +kernel
theorem dX1_sell_35 : decode cX1_sell 35 = .ok (.bipush 100, 2) := by decide +kernel
theorem dX1_sell_37 : decode cX1_sell 37 = .ok (.idiv, 1) := by decide +kernel
theorem dX1_sell_38 : decode cX1_sell 38 = .ok (.istore 4, 2) := by decide +kernel
theorem dX1_sell_40 : decode cX1_sell 40 = .ok (.aload_n 0, 1) := by decide +kernel
theorem dX1_sell_41 : decode cX1_sell 41 = .ok (.getfield 14, 3) := by decide +kernel
theorem dX1_sell_44 : decode cX1_sell 44 = .ok (.iload_n 1, 1) := by decide +kernel
theorem dX1_sell_45 : decode cX1_sell 45 = .ok (.iload_n 2, 1) := by decide +kernel
theorem dX1_sell_46 : decode cX1_sell 46 = .ok (.invokevirtual 118, 3) := by decide +kernel
theorem dX1_sell_49 : decode cX1_sell 49 = .ok (.aload_n 0, 1) := by decide +kernel
theorem dX1_sell_50 : decode cX1_sell 50 = .ok (.dup, 1) := by decide +kernel
theorem dX1_sell_51 : decode cX1_sell 51 = .ok (.getfield 49, 3) := by decide +kernel
theorem dX1_sell_54 : decode cX1_sell 54 = .ok (.iconst 1, 1) := by decide +kernel
theorem dX1_sell_55 : decode cX1_sell 55 = .ok (.iadd, 1) := by decide +kernel
theorem dX1_sell_56 : decode cX1_sell 56 = .ok (.putfield 49, 3) := by decide +kernel
theorem dX1_sell_59 : decode cX1_sell 59 = .ok (.aload_n 0, 1) := by decide +kernel
theorem dX1_sell_60 : decode cX1_sell 60 = .ok (.dup, 1) := by decide +kernel
theorem dX1_sell_61 : decode cX1_sell 61 = .ok (.getfield 61, 3) := by decide +kernel
theorem dX1_sell_64 : decode cX1_sell 64 = .ok (.iload 4, 2) := by decide +kernel
theorem dX1_sell_66 : decode cX1_sell 66 = .ok (.iadd, 1) := by decide +kernel
theorem dX1_sell_67 : decode cX1_sell 67 = .ok (.putfield 61, 3) := by decide +kernel
theorem dX1_sell_70 : decode cX1_sell 70 = .ok (.aload_n 0, 1) := by decide +kernel
theorem dX1_sell_71 : decode cX1_sell 71 = .ok (.dup, 1) := by decide +kernel
theorem dX1_sell_72 : decode cX1_sell 72 = .ok (.getfield 58, 3) := by decide +kernel
theorem dX1_sell_75 : decode cX1_sell 75 = .ok (.iload_n 3, 1) := by decide +kernel
theorem dX1_sell_76 : decode cX1_sell 76 = .ok (.iload 4, 2) := by decide +kernel
theorem dX1_sell_78 : decode cX1_sell 78 = .ok (.isub, 1) := by decide +kernel
theorem dX1_sell_79 : decode cX1_sell 79 = .ok (.iadd, 1) := by decide +kernel
theorem dX1_sell_80 : decode cX1_sell 80 = .ok (.putfield 58, 3) := by decide +kernel
theorem dX1_sell_83 : decode cX1_sell 83 = .ok (.return_, 1) := by decide +kernel
theorem dX1_close_0 : decode cX1_close 0 = .ok (.iconst 0, 1) := by decide +kernel
theorem dX1_close_1 : decode cX1_close 1 = .ok (.istore_n 2, 1) := by decide +kernel
theorem dX1_close_2 : decode cX1_close 2 = .ok (.iload_n 2, 1) := by decide +kernel
theorem dX1_close_3 : decode cX1_close 3 = .ok (.aload_n 0, 1) := by decide +kernel
theorem dX1_close_4 : decode cX1_close 4 = .ok (.getfield 20, 3) := by decide +kernel
theorem dX1_close_7 : decode cX1_close 7 = .ok (.getfield 67, 3) := by decide +kernel
theorem dX1_close_10 : decode cX1_close 10 = .ok (.if_icmp .ge 48, 3) := by decide +kernel
theorem dX1_close_13 : decode cX1_close 13 = .ok (.aload_n 1, 1) := by decide +kernel
theorem dX1_close_14 : decode cX1_close 14 = .ok (.getfield 73, 3) := by decide +kernel
theorem dX1_close_17 : decode cX1_close 17 = .ok (.iload_n 2, 1) := by decide +kernel
theorem dX1_close_18 : decode cX1_close 18 = .ok (.invokevirtual 76, 3) := by decide +kernel
theorem dX1_close_21 : decode cX1_close 21 = .ok (.iconst 1, 1) := by decide +kernel
theorem dX1_close_22 : decode cX1_close 22 = .ok (.isub, 1) := by decide +kernel
theorem dX1_close_23 : decode cX1_close 23 = .ok (.iconst 0, 1) := by decide +kernel
theorem dX1_close_24 : decode cX1_close 24 = .ok (.invokestatic 121, 3) := by decide +kernel
theorem dX1_close_27 : decode cX1_close 27 = .ok (.istore_n 3, 1) := by decide +kernel
theorem dX1_close_28 : decode cX1_close 28 = .ok (.aload_n 1, 1) := by decide +kernel
theorem dX1_close_29 : decode cX1_close 29 = .ok (.getfield 73, 3) := by decide +kernel
theorem dX1_close_32 : decode cX1_close 32 = .ok (.iload_n 2, 1) := by decide +kernel
theorem dX1_close_33 : decode cX1_close 33 = .ok (.aload_n 0, 1) := by decide +kernel
theorem dX1_close_34 : decode cX1_close 34 = .ok (.getfield 46, 3) := by decide +kernel
theorem dX1_close_37 : decode cX1_close 37 = .ok (.iload_n 2, 1) := by decide +kernel
theorem dX1_close_38 : decode cX1_close 38 = .ok (.invokestatic 83, 3) := by decide +kernel
theorem dX1_close_41 : decode cX1_close 41 = .ok (.ifCond .eq 7, 3) := by decide +kernel
theorem dX1_close_44 : decode cX1_close 44 = .ok (.iconst 3, 1) := by decide +kernel
theorem dX1_close_45 : decode cX1_close 45 = .ok (.goto 4, 3) := by decide +kernel
theorem dX1_close_48 : decode cX1_close 48 = .ok (.iload_n 3, 1) := by decide +kernel
theorem dX1_close_49 : decode cX1_close 49 = .ok (.invokevirtual 118, 3) := by decide +kernel
theorem dX1_close_52 : decode cX1_close 52 = .ok (.iinc 2 1, 3) := by decide +kernel
theorem dX1_close_55 : decode cX1_close 55 = .ok (.goto (-53), 3) := by decide +kernel
theorem dX1_close_58 : decode cX1_close 58 = .ok (.aload_n 1, 1) := by decide +kernel
theorem dX1_close_59 : decode cX1_close 59 = .ok (.iconst 0, 1) := by decide +kernel
theorem dX1_close_60 : decode cX1_close 60 = .ok (.putfield 80, 3) := by decide +kernel
theorem dX1_close_63 : decode cX1_close 63 = .ok (.aload_n 1, 1) := by decide +kernel
theorem dX1_close_64 : decode cX1_close 64 = .ok (.dup, 1) := by decide +kernel
theorem dX1_close_65 : decode cX1_close 65 = .ok (.getfield 126, 3) := by decide +kernel
theorem dX1_close_68 : decode cX1_close 68 = .ok (.aload_n 0, 1) := by decide +kernel
theorem dX1_close_69 : decode cX1_close 69 = .ok (.getfield 58, 3) := by decide +kernel
theorem dX1_close_72 : decode cX1_close 72 = .ok (.iadd, 1) := by decide +kernel
theorem dX1_close_73 : decode cX1_close 73 = .ok (.putfield 126, 3) := by decide +kernel
theorem dX1_close_76 : decode cX1_close 76 = .ok (.aload_n 1, 1) := by decide +kernel
theorem dX1_close_77 : decode cX1_close 77 = .ok (.dup, 1) := by decide +kernel
theorem dX1_close_78 : decode cX1_close 78 = .ok (.getfield 127, 3) := by decide +kernel
theorem dX1_close_81 : decode cX1_close 81 = .ok (.aload_n 0, 1) := by decide +kernel
theorem dX1_close_82 : decode cX1_close 82 = .ok (.getfield 61, 3) := by decide +kernel
theorem dX1_close_85 : decode cX1_close 85 = .ok (.iadd, 1) := by decide +kernel
theorem dX1_close_86 : decode cX1_close 86 = .ok (.putfield 127, 3) := by decide +kernel
theorem dX1_close_89 : decode cX1_close 89 = .ok (.aload_n 1, 1) := by decide +kernel
theorem dX1_close_90 : decode cX1_close 90 = .ok (.dup, 1) := by decide +kernel
theorem dX1_close_91 : decode cX1_close 91 = .ok (.getfield 128, 3) := by decide +kernel
theorem dX1_close_94 : decode cX1_close 94 = .ok (.aload_n 0, 1) := by decide +kernel
theorem dX1_close_95 : decode cX1_close 95 = .ok (.getfield 52, 3) := by decide +kernel
theorem dX1_close_98 : decode cX1_close 98 = .ok (.iadd, 1) := by decide +kernel
theorem dX1_close_99 : decode cX1_close 99 = .ok (.putfield 128, 3) := by decide +kernel
theorem dX1_close_102 : decode cX1_close 102 = .ok (.aload_n 1, 1) := by decide +kernel
theorem dX1_close_103 : decode cX1_close 103 = .ok (.dup, 1) := by decide +kernel
theorem dX1_close_104 : decode cX1_close 104 = .ok (.getfield 28, 3) := by decide +kernel
theorem dX1_close_107 : decode cX1_close 107 = .ok (.iconst 1, 1) := by decide +kernel
theorem dX1_close_108 : decode cX1_close 108 = .ok (.iadd, 1) := by decide +kernel
theorem dX1_close_109 : decode cX1_close 109 = .ok (.putfield 28, 3) := by decide +kernel
theorem dX1_close_112 : decode cX1_close 112 = .ok (.return_, 1) := by decide +kernel
theorem dX2_init_0 : decode cX2_init 0 = .ok (.aload_n 0, 1) := by decide +kernel
theorem dX2_init_1 : decode cX2_init 1 = .ok (.invokespecial 3, 3) := by decide +kernel
theorem dX2_init_4 : decode cX2_init 4 = .ok (.aload_n 0, 1) := by decide +kernel
theorem dX2_init_5 : decode cX2_init 5 = .ok (.new 9, 3) := by decide +kernel
theorem dX2_init_8 : decode cX2_init 8 = .ok (.dup, 1) := by decide +kernel
theorem dX2_init_9 : decode cX2_init 9 = .ok (.iconst 4, 1) := by decide +kernel
theorem dX2_init_10 : decode cX2_init 10 = .ok (.invokespecial 11, 3) := by decide +kernel
theorem dX2_init_13 : decode cX2_init 13 = .ok (.putfield 14, 3) := by decide +kernel
theorem dX2_init_16 : decode cX2_init 16 = .ok (.aload_n 0, 1) := by decide +kernel
theorem dX2_init_17 : decode cX2_init 17 = .ok (.aload_n 1, 1) := by decide +kernel
theorem dX2_init_18 : decode cX2_init 18 = .ok (.putfield 20, 3) := by decide +kernel
theorem dX2_init_21 : decode cX2_init 21 = .ok (.aload_n 0, 1) := by decide +kernel
theorem dX2_init_22 : decode cX2_init 22 = .ok (.aload_n 2, 1) := by decide +kernel
theorem dX2_init_23 : decode cX2_init 23 = .ok (.putfield 24, 3) := by decide +kernel
theorem dX2_init_26 : decode cX2_init 26 = .ok (.return_, 1) := by decide +kernel
theorem dX2_read_0 : decode cX2_read 0 = .ok (.aload_n 0, 1) := by decide +kernel
theorem dX2_read_1 : decode cX2_read 1 = .ok (.getfield 24, 3) := by decide +kernel
theorem dX2_read_4 : decode cX2_read 4 = .ok (.invokevirtual 28, 3) := by decide +kernel
theorem dX2_read_7 : decode cX2_read 7 = .ok (.aload_n 0, 1) := by decide +kernel
theorem dX2_read_8 : decode cX2_read 8 = .ok (.iconst 0, 1) := by decide +kernel
theorem dX2_read_9 : decode cX2_read 9 = .ok (.putfield 33, 3) := by decide +kernel
theorem dX2_read_12 : decode cX2_read 12 = .ok (.iconst 0, 1) := by decide +kernel
theorem dX2_read_13 : decode cX2_read 13 = .ok (.istore_n 1, 1) := by decide +kernel
theorem dX2_read_14 : decode cX2_read 14 = .ok (.iload_n 1, 1) := by decide +kernel
theorem dX2_read_15 : decode cX2_read 15 = .ok (.sipush 200, 3) := by decide +kernel
theorem dX2_read_18 : decode cX2_read 18 = .ok (.if_icmp .ge 37, 3) := by decide +kernel
theorem dX2_read_21 : decode cX2_read 21 = .ok (.aload_n 0, 1) := by decide +kernel
theorem dX2_read_22 : decode cX2_read 22 = .ok (.getfield 33, 3) := by decide +kernel
theorem dX2_read_25 : decode cX2_read 25 = .ok (.aload_n 0, 1) := by decide +kernel
theorem dX2_read_26 : decode cX2_read 26 = .ok (.getfield 20, 3) := by decide +kernel
theorem dX2_read_29 : decode cX2_read 29 = .ok (.getfield 37, 3) := by decide +kernel
theorem dX2_read_32 : decode cX2_read 32 = .ok (.if_icmp .ge 23, 3) := by decide +kernel
theorem dX2_read_35 : decode cX2_read 35 = .ok (.aload_n 0, 1) := by decide +kernel
theorem dX2_read_36 : decode cX2_read 36 = .ok (.getfield 33, 3) := by decide +kernel
theorem dX2_read_39 : decode cX2_read 39 = .ok (.istore_n 2, 1) := by decide +kernel
theorem dX2_read_40 : decode cX2_read 40 = .ok (.aload_n 0, 1) := by decide +kernel
theorem dX2_read_41 : decode cX2_read 41 = .ok (.invokevirtual 42, 3) := by decide +kernel
theorem dX2_read_44 : decode cX2_read 44 = .ok (.ifCond .ne 5, 3) := by decide +kernel
theorem dX2_read_47 : decode cX2_read 47 = .ok (.iload_n 2, 1) := by decide +kernel
theorem dX2_read_48 : decode cX2_read 48 = .ok (.ireturn, 1) := by decide +kernel
theorem dX2_read_49 : decode cX2_read 49 = .ok (.iinc 1 1, 3) := by decide +kernel
theorem dX2_read_52 : decode cX2_read 52 = .ok (.goto (-38), 3) := by decide +kernel
theorem dX2_read_55 : decode cX2_read 55 = .ok (.bipush (-4), 2) := by decide +kernel
theorem dX2_read_57 : decode cX2_read 57 = .ok (.ireturn, 1) := by decide +kernel
theorem dX2_readItem_0 : decode cX2_readItem 0 = .ok (.aload_n 0, 1) := by decide +kernel
theorem dX2_readItem_1 : decode cX2_readItem 1 = .ok (.getfield 20, 3) := by decide +kernel
theorem dX2_readItem_4 : decode cX2_readItem 4 = .ok (.aload_n 0, 1) := by decide +kernel
theorem dX2_readItem_5 : decode cX2_readItem 5 = .ok (.getfield 33, 3) := by decide +kernel
theorem dX2_readItem_8 : decode cX2_readItem 8 = .ok (.invokevirtual 46, 3) := by decide +kernel
theorem dX2_readItem_11 : decode cX2_readItem 11 = .ok (.istore_n 1, 1) := by decide +kernel
theorem dX2_readItem_12 : decode cX2_readItem 12 = .ok (.aload_n 0, 1) := by decide +kernel
theorem dX2_readItem_13 : decode cX2_readItem 13 = .ok (.dup, 1) := by decide +kernel
theorem dX2_readItem_14 : decode cX2_readItem 14 = .ok (.getfield 33, 3) := by decide +kernel
theorem dX2_readItem_17 : decode cX2_readItem 17 = .ok (.iconst 1, 1) := by decide +kernel
theorem dX2_readItem_18 : decode cX2_readItem 18 = .ok (.iadd, 1) := by decide +kernel
theorem dX2_readItem_19 : decode cX2_readItem 19 = .ok (.putfield 33, 3) := by decide +kernel
theorem dX2_readItem_22 : decode cX2_readItem 22 = .ok (.iload_n 1, 1) := by decide +kernel
theorem dX2_readItem_23 : decode cX2_readItem 23 = .ok (.lookupswitch 125 #[(99, 83), (104, 104), (113, 62), (115, 41)], 41) := by decide +kernel
theorem dX2_readItem_64 : decode cX2_readItem 64 = .ok (.aload_n 0, 1) := by decide +kernel
theorem dX2_readItem_65 : decode cX2_readItem 65 = .ok (.iconst 4, 1) := by decide +kernel
theorem dX2_readItem_66 : decode cX2_readItem 66 = .ok (.invokevirtual 50, 3) := by decide +kernel
theorem dX2_readItem_69 : decode cX2_readItem 69 = .ok (.ifCond .eq 14, 3) := by decide +kernel
theorem dX2_readItem_72 : decode cX2_readItem 72 = .ok (.aload_n 0, 1) := by decide +kernel
theorem dX2_readItem_73 : decode cX2_readItem 73 = .ok (.invokevirtual 54, 3) := by decide +kernel
theorem dX2_readItem_76 : decode cX2_readItem 76 = .ok (.ifCond .eq 7, 3) := by decide +kernel
theorem dX2_readItem_79 : decode cX2_readItem 79 = .ok (.iconst 1, 1) := by decide +kernel
theorem dX2_readItem_80 : decode cX2_readItem 80 = .ok (.goto 4, 3) := by decide +kernel
theorem dX2_readItem_83 : decode cX2_readItem 83 = .ok (.iconst 0, 1) := by decide +kernel
theorem dX2_readItem_84 : decode cX2_readItem 84 = .ok (.ireturn, 1) := by decide +kernel
theorem dX2_readItem_85 : decode cX2_readItem 85 = .ok (.aload_n 0, 1) := by decide +kernel
theorem dX2_readItem_86 : decode cX2_readItem 86 = .ok (.iconst 2, 1) := by decide +kernel
theorem dX2_readItem_87 : decode cX2_readItem 87 = .ok (.invokevirtual 50, 3) := by decide +kernel
theorem dX2_readItem_90 : decode cX2_readItem 90 = .ok (.ifCond .eq 14, 3) := by decide +kernel
theorem dX2_readItem_93 : decode cX2_readItem 93 = .ok (.aload_n 0, 1) := by decide +kernel
theorem dX2_readItem_94 : decode cX2_readItem 94 = .ok (.invokevirtual 57, 3) := by decide +kernel
theorem dX2_readItem_97 : decode cX2_readItem 97 = .ok (.ifCond .eq 7, 3) := by decide +kernel
theorem dX2_readItem_100 : decode cX2_readItem 100 = .ok (.iconst 1, 1) := by decide +kernel
theorem dX2_readItem_101 : decode cX2_readItem 101 = .ok (.goto 4, 3) := by decide +kernel
theorem dX2_readItem_104 : decode cX2_readItem 104 = .ok (.iconst 0, 1) := by decide +kernel
theorem dX2_readItem_105 : decode cX2_readItem 105 = .ok (.ireturn, 1) := by decide +kernel
theorem dX2_readItem_106 : decode cX2_readItem 106 = .ok (.aload_n 0, 1) := by decide +kernel
theorem dX2_readItem_107 : decode cX2_readItem 107 = .ok (.iconst 4, 1) := by decide +kernel
theorem dX2_readItem_108 : decode cX2_readItem 108 = .ok (.invokevirtual 50, 3) := by decide +kernel
theorem dX2_readItem_111 : decode cX2_readItem 111 = .ok (.ifCond .eq 14, 3) := by decide +kernel
theorem dX2_readItem_114 : decode cX2_readItem 114 = .ok (.aload_n 0, 1) := by decide +kernel
theorem dX2_readItem_115 : decode cX2_readItem 115 = .ok (.invokevirtual 60, 3) := by decide +kernel
theorem dX2_readItem_118 : decode cX2_readItem 118 = .ok (.ifCond .eq 7, 3) := by decide +kernel
theorem dX2_readItem_121 : decode cX2_readItem 121 = .ok (.iconst 1, 1) := by decide +kernel
theorem dX2_readItem_122 : decode cX2_readItem 122 = .ok (.goto 4, 3) := by decide +kernel
theorem dX2_readItem_125 : decode cX2_readItem 125 = .ok (.iconst 0, 1) := by decide +kernel
theorem dX2_readItem_126 : decode cX2_readItem 126 = .ok (.ireturn, 1) := by decide +kernel
theorem dX2_readItem_127 : decode cX2_readItem 127 = .ok (.aload_n 0, 1) := by decide +kernel
theorem dX2_readItem_128 : decode cX2_readItem 128 = .ok (.iconst 1, 1) := by decide +kernel
theorem dX2_readItem_129 : decode cX2_readItem 129 = .ok (.invokevirtual 50, 3) := by decide +kernel
theorem dX2_readItem_132 : decode cX2_readItem 132 = .ok (.ifCond .eq 14, 3) := by decide +kernel
theorem dX2_readItem_135 : decode cX2_readItem 135 = .ok (.aload_n 0, 1) := by decide +kernel
theorem dX2_readItem_136 : decode cX2_readItem 136 = .ok (.invokevirtual 63, 3) := by decide +kernel
theorem dX2_readItem_139 : decode cX2_readItem 139 = .ok (.ifCond .eq 7, 3) := by decide +kernel
theorem dX2_readItem_142 : decode cX2_readItem 142 = .ok (.iconst 1, 1) := by decide +kernel
theorem dX2_readItem_143 : decode cX2_readItem 143 = .ok (.goto 4, 3) := by decide +kernel
theorem dX2_readItem_146 : decode cX2_readItem 146 = .ok (.iconst 0, 1) := by decide +kernel
theorem dX2_readItem_147 : decode cX2_readItem 147 = .ok (.ireturn, 1) := by decide +kernel
theorem dX2_readItem_148 : decode cX2_readItem 148 = .ok (.iconst 0, 1) := by decide +kernel
theorem dX2_readItem_149 : decode cX2_readItem 149 = .ok (.ireturn, 1) := by decide +kernel
theorem dX2_readNumbers_0 : decode cX2_readNumbers 0 = .ok (.iconst 0, 1) := by decide +kernel
theorem dX2_readNumbers_1 : decode cX2_readNumbers 1 = .ok (.istore_n 2, 1) := by decide +kernel
theorem dX2_readNumbers_2 : decode cX2_readNumbers 2 = .ok (.iload_n 2, 1) := by decide +kernel
theorem dX2_readNumbers_3 : decode cX2_readNumbers 3 = .ok (.iload_n 1, 1) := by decide +kernel
theorem dX2_readNumbers_4 : decode cX2_readNumbers 4 = .ok (.if_icmp .ge 67, 3) := by decide +kernel
theorem dX2_readNumbers_7 : decode cX2_readNumbers 7 = .ok (.aload_n 0, 1) := by decide +kernel
theorem dX2_readNumbers_8 : decode cX2_readNumbers 8 = .ok (.invokevirtual 66, 3) := by decide +kernel
theorem dX2_readNumbers_11 : decode cX2_readNumbers 11 = .ok (.istore_n 3, 1) := by decide +kernel
theorem dX2_readNumbers_12 : decode cX2_readNumbers 12 = .ok (.iload_n 3, 1) := by decide +kernel
theorem dX2_readNumbers_13 : decode cX2_readNumbers 13 = .ok (.ifCond .lt 31, 3) := by decide +kernel
theorem dX2_readNumbers_16 : decode cX2_readNumbers 16 = .ok (.aload_n 0, 1) := by decide +kernel
theorem dX2_readNumbers_17 : decode cX2_readNumbers 17 = .ok (.getfield 20, 3) := by decide +kernel
theorem dX2_readNumbers_20 : decode cX2_readNumbers 20 = .ok (.aload_n 0, 1) := by decide +kernel
theorem dX2_readNumbers_21 : decode cX2_readNumbers 21 = .ok (.getfield 33, 3) := by decide +kernel
theorem dX2_readNumbers_24 : decode cX2_readNumbers 24 = .ok (.invokevirtual 46, 3) := by decide +kernel
theorem dX2_readNumbers_27 : decode cX2_readNumbers 27 = .ok (.iload_n 2, 1) := by decide +kernel
theorem dX2_readNumbers_28 : decode cX2_readNumbers 28 = .ok (.iload_n 1, 1) := by decide +kernel
theorem dX2_readNumbers_29 : decode cX2_readNumbers 29 = .ok (.iconst 1, 1) := by decide +kernel
theorem dX2_readNumbers_30 : decode cX2_readNumbers 30 = .ok (.isub, 1) := by decide +kernel
theorem dX2_readNumbers_31 : decode cX2_readNumbers 31 = .ok (.if_icmp .ge 8, 3) := by decide +kernel
theorem dX2_readNumbers_34 : decode cX2_readNumbers 34 = .ok (.bipush 44, 2) := by decide +kernel
theorem dX2_readNumbers_36 : decode cX2_readNumbers 36 = .ok (.goto 5, 3) := by decide +kernel
theorem dX2_readNumbers_39 : decode cX2_readNumbers 39 = .ok (.bipush 59, 2) := by decide +kernel
theorem dX2_readNumbers_41 : decode cX2_readNumbers 41 = .ok (.if_icmp .eq 5, 3) := by decide +kernel
theorem dX2_readNumbers_44 : decode cX2_readNumbers 44 = .ok (.iconst 0, 1) := by decide +kernel
theorem dX2_readNumbers_45 : decode cX2_readNumbers 45 = .ok (.ireturn, 1) := by decide +kernel
theorem dX2_readNumbers_46 : decode cX2_readNumbers 46 = .ok (.aload_n 0, 1) := by decide +kernel
theorem dX2_readNumbers_47 : decode cX2_readNumbers 47 = .ok (.getfield 14, 3) := by decide +kernel
theorem dX2_readNumbers_50 : decode cX2_readNumbers 50 = .ok (.iload_n 2, 1) := by decide +kernel
theorem dX2_readNumbers_51 : decode cX2_readNumbers 51 = .ok (.iload_n 3, 1) := by decide +kernel
theorem dX2_readNumbers_52 : decode cX2_readNumbers 52 = .ok (.invokevirtual 70, 3) := by decide +kernel
theorem dX2_readNumbers_55 : decode cX2_readNumbers 55 = .ok (.aload_n 0, 1) := by decide +kernel
theorem dX2_readNumbers_56 : decode cX2_readNumbers 56 = .ok (.dup, 1) := by decide +kernel
theorem dX2_readNumbers_57 : decode cX2_readNumbers 57 = .ok (.getfield 33, 3) := by decide +kernel
theorem dX2_readNumbers_60 : decode cX2_readNumbers 60 = .ok (.iconst 1, 1) := by decide +kernel
theorem dX2_readNumbers_61 : decode cX2_readNumbers 61 = .ok (.iadd, 1) := by decide +kernel
theorem dX2_readNumbers_62 : decode cX2_readNumbers 62 = .ok (.putfield 33, 3) := by decide +kernel
theorem dX2_readNumbers_65 : decode cX2_readNumbers 65 = .ok (.iinc 2 1, 3) := by decide +kernel
theorem dX2_readNumbers_68 : decode cX2_readNumbers 68 = .ok (.goto (-66), 3) := by decide +kernel
theorem dX2_readNumbers_71 : decode cX2_readNumbers 71 = .ok (.iconst 1, 1) := by decide +kernel
theorem dX2_readNumbers_72 : decode cX2_readNumbers 72 = .ok (.ireturn, 1) := by decide +kernel
theorem dX2_readNumber_0 : decode cX2_readNumber 0 = .ok (.aload_n 0, 1) := by decide +kernel
theorem dX2_readNumber_1 : decode cX2_readNumber 1 = .ok (.invokevirtual 74, 3) := by decide +kernel
theorem dX2_readNumber_4 : decode cX2_readNumber 4 = .ok (.istore_n 1, 1) := by decide +kernel
theorem dX2_readNumber_5 : decode cX2_readNumber 5 = .ok (.iload_n 1, 1) := by decide +kernel
theorem dX2_readNumber_6 : decode cX2_readNumber 6 = .ok (.ifCond .ge 5, 3) := by decide +kernel
theorem dX2_readNumber_9 : decode cX2_readNumber 9 = .ok (.iload_n 1, 1) := by decide +kernel
theorem dX2_readNumber_10 : decode cX2_readNumber 10 = .ok (.ireturn, 1) := by decide +kernel
theorem dX2_readNumber_11 : decode cX2_readNumber 11 = .ok (.aload_n 0, 1) := by decide +kernel
theorem dX2_readNumber_12 : decode cX2_readNumber 12 = .ok (.dup, 1) := by decide +kernel
theorem dX2_readNumber_13 : decode cX2_readNumber 13 = .ok (.getfield 33, 3) := by decide +kernel
theorem dX2_readNumber_16 : decode cX2_readNumber 16 = .ok (.iconst 1, 1) := by decide +kernel
theorem dX2_readNumber_17 : decode cX2_readNumber 17 = .ok (.iadd, 1) := by decide +kernel
theorem dX2_readNumber_18 : decode cX2_readNumber 18 = .ok (.putfield 33, 3) := by decide +kernel
theorem dX2_readNumber_21 : decode cX2_readNumber 21 = .ok (.aload_n 0, 1) := by decide +kernel
theorem dX2_readNumber_22 : decode cX2_readNumber 22 = .ok (.invokevirtual 74, 3) := by decide +kernel
theorem dX2_readNumber_25 : decode cX2_readNumber 25 = .ok (.istore_n 2, 1) := by decide +kernel
theorem dX2_readNumber_26 : decode cX2_readNumber 26 = .ok (.iload_n 2, 1) := by decide +kernel
theorem dX2_readNumber_27 : decode cX2_readNumber 27 = .ok (.ifCond .ge 5, 3) := by decide +kernel
theorem dX2_readNumber_30 : decode cX2_readNumber 30 = .ok (.iload_n 1, 1) := by decide +kernel
theorem dX2_readNumber_31 : decode cX2_readNumber 31 = .ok (.ireturn, 1) := by decide +kernel
theorem dX2_readNumber_32 : decode cX2_readNumber 32 = .ok (.aload_n 0, 1) := by decide +kernel
theorem dX2_readNumber_33 : decode cX2_readNumber 33 = .ok (.dup, 1) := by decide +kernel
theorem dX2_readNumber_34 : decode cX2_readNumber 34 = .ok (.getfield 33, 3) := by decide +kernel
theorem dX2_readNumber_37 : decode cX2_readNumber 37 = .ok (.iconst 1, 1) := by decide +kernel
theorem dX2_readNumber_38 : decode cX2_readNumber 38 = .ok (.iadd, 1) := by decide +kernel
theorem dX2_readNumber_39 : decode cX2_readNumber 39 = .ok (.putfield 33, 3) := by decide +kernel
theorem dX2_readNumber_42 : decode cX2_readNumber 42 = .ok (.bipush 10, 2) := by decide +kernel
theorem dX2_readNumber_44 : decode cX2_readNumber 44 = .ok (.iload_n 1, 1) := by decide +kernel
theorem dX2_readNumber_45 : decode cX2_readNumber 45 = .ok (.imul, 1) := by decide +kernel
theorem dX2_readNumber_46 : decode cX2_readNumber 46 = .ok (.iload_n 2, 1) := by decide +kernel
theorem dX2_readNumber_47 : decode cX2_readNumber 47 = .ok (.iadd, 1) := by decide +kernel
theorem dX2_readNumber_48 : decode cX2_readNumber 48 = .ok (.ireturn, 1) := by decide +kernel
theorem dX2_figure_0 : decode cX2_figure 0 = .ok (.aload_n 0, 1) := by decide +kernel
theorem dX2_figure_1 : decode cX2_figure 1 = .ok (.getfield 20, 3) := by decide +kernel
theorem dX2_figure_4 : decode cX2_figure 4 = .ok (.aload_n 0, 1) := by decide +kernel
theorem dX2_figure_5 : decode cX2_figure 5 = .ok (.getfield 33, 3) := by decide +kernel
theorem dX2_figure_8 : decode cX2_figure 8 = .ok (.invokevirtual 46, 3) := by decide +kernel
theorem dX2_figure_11 : decode cX2_figure 11 = .ok (.istore_n 1, 1) := by decide +kernel
theorem dX2_figure_12 : decode cX2_figure 12 = .ok (.iload_n 1, 1) := by decide +kernel
theorem dX2_figure_13 : decode cX2_figure 13 = .ok (.bipush 48, 2) := by decide +kernel
theorem dX2_figure_15 : decode cX2_figure 15 = .ok (.bipush 57, 2) := by decide +kernel
theorem dX2_figure_17 : decode cX2_figure 17 = .ok (.invokestatic 77, 3) := by decide +kernel
theorem dX2_figure_20 : decode cX2_figure 20 = .ok (.ifCond .eq 10, 3) := by decide +kernel
theorem dX2_figure_23 : decode cX2_figure 23 = .ok (.iload_n 1, 1) := by decide +kernel
theorem dX2_figure_24 : decode cX2_figure 24 = .ok (.bipush 48, 2) := by decide +kernel
theorem dX2_figure_26 : decode cX2_figure 26 = .ok (.isub, 1) := by decide +kernel
theorem dX2_figure_27 : decode cX2_figure 27 = .ok (.goto 5, 3) := by decide +kernel
theorem dX2_figure_30 : decode cX2_figure 30 = .ok (.bipush (-4), 2) := by decide +kernel
theorem dX2_figure_32 : decode cX2_figure 32 = .ok (.ireturn, 1) := by decide +kernel
theorem dX2_takeStaff_0 : decode cX2_takeStaff 0 = .ok (.aload_n 0, 1) := by decide +kernel
theorem dX2_takeStaff_1 : decode cX2_takeStaff 1 = .ok (.getfield 24, 3) := by decide +kernel
theorem dX2_takeStaff_4 : decode cX2_takeStaff 4 = .ok (.getfield 81, 3) := by decide +kernel
theorem dX2_takeStaff_7 : decode cX2_takeStaff 7 = .ok (.istore_n 1, 1) := by decide +kernel
theorem dX2_takeStaff_8 : decode cX2_takeStaff 8 = .ok (.iload_n 1, 1) := by decide +kernel
theorem dX2_takeStaff_9 : decode cX2_takeStaff 9 = .ok (.bipush 6, 2) := by decide +kernel
theorem dX2_takeStaff_11 : decode cX2_takeStaff 11 = .ok (.if_icmp .ge 69, 3) := by decide +kernel
theorem dX2_takeStaff_14 : decode cX2_takeStaff 14 = .ok (.aload_n 0, 1) := by decide +kernel
theorem dX2_takeStaff_15 : decode cX2_takeStaff 15 = .ok (.getfield 14, 3) := by decide +kernel
theorem dX2_takeStaff_18 : decode cX2_takeStaff 18 = .ok (.iconst 0, 1) := by decide +kernel
theorem dX2_takeStaff_19 : decode cX2_takeStaff 19 = .ok (.invokevirtual 84, 3) := by decide +kernel
theorem dX2_takeStaff_22 : decode cX2_takeStaff 22 = .ok (.iconst 0, 1) := by decide +kernel
theorem dX2_takeStaff_23 : decode cX2_takeStaff 23 = .ok (.iconst 3, 1) := by decide +kernel
theorem dX2_takeStaff_24 : decode cX2_takeStaff 24 = .ok (.invokestatic 77, 3) := by decide +kernel
theorem dX2_takeStaff_27 : decode cX2_takeStaff 27 = .ok (.ifCond .eq 53, 3) := by decide +kernel
theorem dX2_takeStaff_30 : decode cX2_takeStaff 30 = .ok (.aload_n 0, 1) := by decide +kernel
theorem dX2_takeStaff_31 : decode cX2_takeStaff 31 = .ok (.getfield 14, 3) := by decide +kernel
theorem dX2_takeStaff_34 : decode cX2_takeStaff 34 = .ok (.iconst 1, 1) := by decide +kernel
theorem dX2_takeStaff_35 : decode cX2_takeStaff 35 = .ok (.invokevirtual 84, 3) := by decide +kernel
theorem dX2_takeStaff_38 : decode cX2_takeStaff 38 = .ok (.iconst 0, 1) := by decide +kernel
theorem dX2_takeStaff_39 : decode cX2_takeStaff 39 = .ok (.iconst 5, 1) := by decide +kernel
theorem dX2_takeStaff_40 : decode cX2_takeStaff 40 = .ok (.invokestatic 77, 3) := by decide +kernel
theorem dX2_takeStaff_43 : decode cX2_takeStaff 43 = .ok (.ifCond .eq 37, 3) := by decide +kernel
theorem dX2_takeStaff_46 : decode cX2_takeStaff 46 = .ok (.aload_n 0, 1) := by decide +kernel
theorem dX2_takeStaff_47 : decode cX2_takeStaff 47 = .ok (.getfield 14, 3) := by decide +kernel
theorem dX2_takeStaff_50 : decode cX2_takeStaff 50 = .ok (.iconst 2, 1) := by decide +kernel
theorem dX2_takeStaff_51 : decode cX2_takeStaff 51 = .ok (.invokevirtual 84, 3) := by decide +kernel
theorem dX2_takeStaff_54 : decode cX2_takeStaff 54 = .ok (.iconst 1, 1) := by decide +kernel
theorem dX2_takeStaff_55 : decode cX2_takeStaff 55 = .ok (.bipush 10, 2) := by decide +kernel
theorem dX2_takeStaff_57 : decode cX2_takeStaff 57 = .ok (.invokestatic 77, 3) := by decide +kernel
theorem dX2_takeStaff_60 : decode cX2_takeStaff 60 = .ok (.ifCond .eq 20, 3) := by decide +kernel
theorem dX2_takeStaff_63 : decode cX2_takeStaff 63 = .ok (.aload_n 0, 1) := by decide +kernel
theorem dX2_takeStaff_64 : decode cX2_takeStaff 64 = .ok (.getfield 14, 3) := by decide +kernel
theorem dX2_takeStaff_67 : decode cX2_takeStaff 67 = .ok (.iconst 3, 1) := by decide +kernel
theorem dX2_takeStaff_68 : decode cX2_takeStaff 68 = .ok (.invokevirtual 84, 3) := by decide +kernel
theorem dX2_takeStaff_71 : decode cX2_takeStaff 71 = .ok (.iconst 0, 1) := by decide +kernel
theorem dX2_takeStaff_72 : decode cX2_takeStaff 72 = .ok (.bipush 9, 2) := by decide +kernel
theorem dX2_takeStaff_74 : decode cX2_takeStaff 74 = .ok (.invokestatic 77, 3) := by decide +kernel
theorem dX2_takeStaff_77 : decode cX2_takeStaff 77 = .ok (.ifCond .ne 5, 3) := by decide +kernel
theorem dX2_takeStaff_80 : decode cX2_takeStaff 80 = .ok (.iconst 0, 1) := by decide +kernel
theorem dX2_takeStaff_81 : decode cX2_takeStaff 81 = .ok (.ireturn, 1) := by decide +kernel
theorem dX2_takeStaff_82 : decode cX2_takeStaff 82 = .ok (.aload_n 0, 1) := by decide +kernel
theorem dX2_takeStaff_83 : decode cX2_takeStaff 83 = .ok (.getfield 24, 3) := by decide +kernel
theorem dX2_takeStaff_86 : decode cX2_takeStaff 86 = .ok (.getfield 87, 3) := by decide +kernel
theorem dX2_takeStaff_89 : decode cX2_takeStaff 89 = .ok (.iload_n 1, 1) := by decide +kernel
theorem dX2_takeStaff_90 : decode cX2_takeStaff 90 = .ok (.aload_n 0, 1) := by decide +kernel
theorem dX2_takeStaff_91 : decode cX2_takeStaff 91 = .ok (.getfield 14, 3) := by decide +kernel
theorem dX2_takeStaff_94 : decode cX2_takeStaff 94 = .ok (.iconst 0, 1) := by decide +kernel
theorem dX2_takeStaff_95 : decode cX2_takeStaff 95 = .ok (.invokevirtual 84, 3) := by decide +kernel
theorem dX2_takeStaff_98 : decode cX2_takeStaff 98 = .ok (.invokevirtual 70, 3) := by decide +kernel
theorem dX2_takeStaff_101 : decode cX2_takeStaff 101 = .ok (.aload_n 0, 1) := by decide +kernel
theorem dX2_takeStaff_102 : decode cX2_takeStaff 102 = .ok (.getfield 24, 3) := by decide +kernel
theorem dX2_takeStaff_105 : decode cX2_takeStaff 105 = .ok (.getfield 90, 3) := by decide +kernel
theorem dX2_takeStaff_108 : decode cX2_takeStaff 108 = .ok (.iload_n 1, 1) := by decide +kernel
theorem dX2_takeStaff_109 : decode cX2_takeStaff 109 = .ok (.aload_n 0, 1) := by decide +kernel
theorem dX2_takeStaff_110 : decode cX2_takeStaff 110 = .ok (.getfield 14, 3) := by decide +kernel
theorem dX2_takeStaff_113 : decode cX2_takeStaff 113 = .ok (.iconst 1, 1) := by decide +kernel
theorem dX2_takeStaff_114 : decode cX2_takeStaff 114 = .ok (.invokevirtual 84, 3) := by decide +kernel
theorem dX2_takeStaff_117 : decode cX2_takeStaff 117 = .ok (.invokevirtual 70, 3) := by decide +kernel
theorem dX2_takeStaff_120 : decode cX2_takeStaff 120 = .ok (.aload_n 0, 1) := by decide +kernel
theorem dX2_takeStaff_121 : decode cX2_takeStaff 121 = .ok (.getfield 24, 3) := by decide +kernel
theorem dX2_takeStaff_124 : decode cX2_takeStaff 124 = .ok (.getfield 93, 3) := by decide +kernel
theorem dX2_takeStaff_127 : decode cX2_takeStaff 127 = .ok (.iload_n 1, 1) := by decide +kernel
theorem dX2_takeStaff_128 : decode cX2_takeStaff 128 = .ok (.aload_n 0, 1) := by decide +kernel
theorem dX2_takeStaff_129 : decode cX2_takeStaff 129 = .ok (.getfield 14, 3) := by decide +kernel
theorem dX2_takeStaff_132 : decode cX2_takeStaff 132 = .ok (.iconst 2, 1) := by decide +kernel
theorem dX2_takeStaff_133 : decode cX2_takeStaff 133 = .ok (.invokevirtual 84, 3) := by decide +kernel
theorem dX2_takeStaff_136 : decode cX2_takeStaff 136 = .ok (.invokevirtual 70, 3) := by decide +kernel
theorem dX2_takeStaff_139 : decode cX2_takeStaff 139 = .ok (.aload_n 0, 1) := by decide +kernel
theorem dX2_takeStaff_140 : decode cX2_takeStaff 140 = .ok (.getfield 24, 3) := by decide +kernel
theorem dX2_takeStaff_143 : decode cX2_takeStaff 143 = .ok (.getfield 96, 3) := by decide +kernel
theorem dX2_takeStaff_146 : decode cX2_takeStaff 146 = .ok (.iload_n 1, 1) := by decide +kernel
theorem dX2_takeStaff_147 : decode cX2_takeStaff 147 = .ok (.aload_n 0, 1) := by decide +kernel
theorem dX2_takeStaff_148 : decode cX2_takeStaff 148 = .ok (.getfield 14, 3) := by decide +kernel
theorem dX2_takeStaff_151 : decode cX2_takeStaff 151 = .ok (.iconst 3, 1) := by decide +kernel
theorem dX2_takeStaff_152 : decode cX2_takeStaff 152 = .ok (.invokevirtual 84, 3) := by decide +kernel
theorem dX2_takeStaff_155 : decode cX2_takeStaff 155 = .ok (.invokevirtual 70, 3) := by decide +kernel
theorem dX2_takeStaff_158 : decode cX2_takeStaff 158 = .ok (.aload_n 0, 1) := by decide +kernel
theorem dX2_takeStaff_159 : decode cX2_takeStaff 159 = .ok (.getfield 24, 3) := by decide +kernel
theorem dX2_takeStaff_162 : decode cX2_takeStaff 162 = .ok (.iload_n 1, 1) := by decide +kernel
theorem dX2_takeStaff_163 : decode cX2_takeStaff 163 = .ok (.aload_n 0, 1) := by decide +kernel
theorem dX2_takeStaff_164 : decode cX2_takeStaff 164 = .ok (.getfield 14, 3) := by decide +kernel
theorem dX2_takeStaff_167 : decode cX2_takeStaff 167 = .ok (.iconst 1, 1) := by decide +kernel
theorem dX2_takeStaff_168 : decode cX2_takeStaff 168 = .ok (.invokevirtual 84, 3) := by decide +kernel
theorem dX2_takeStaff_171 : decode cX2_takeStaff 171 = .ok (.invokevirtual 99, 3) := by decide +kernel
theorem dX2_takeStaff_174 : decode cX2_takeStaff 174 = .ok (.aload_n 0, 1) := by decide +kernel
theorem dX2_takeStaff_175 : decode cX2_takeStaff 175 = .ok (.getfield 24, 3) := by decide +kernel
theorem dX2_takeStaff_178 : decode cX2_takeStaff 178 = .ok (.iload_n 1, 1) := by decide +kernel
theorem dX2_takeStaff_179 : decode cX2_takeStaff 179 = .ok (.aload_n 0, 1) := by decide +kernel
theorem dX2_takeStaff_180 : decode cX2_takeStaff 180 = .ok (.getfield 14, 3) := by decide +kernel
theorem dX2_takeStaff_183 : decode cX2_takeStaff 183 = .ok (.iconst 1, 1) := by decide +kernel
theorem dX2_takeStaff_184 : decode cX2_takeStaff 184 = .ok (.invokevirtual 84, 3) := by decide +kernel
theorem dX2_takeStaff_187 : decode cX2_takeStaff 187 = .ok (.iconst 1, 1) := by decide +kernel
theorem dX2_takeStaff_188 : decode cX2_takeStaff 188 = .ok (.iadd, 1) := by decide +kernel
theorem dX2_takeStaff_189 : decode cX2_takeStaff 189 = .ok (.bipush 6, 2) := by decide +kernel
theorem dX2_takeStaff_191 : decode cX2_takeStaff 191 = .ok (.invokestatic 102, 3) := by decide +kernel
theorem dX2_takeStaff_194 : decode cX2_takeStaff 194 = .ok (.invokevirtual 99, 3) := by decide +kernel
theorem dX2_takeStaff_197 : decode cX2_takeStaff 197 = .ok (.aload_n 0, 1) := by decide +kernel
theorem dX2_takeStaff_198 : decode cX2_takeStaff 198 = .ok (.getfield 24, 3) := by decide +kernel
theorem dX2_takeStaff_201 : decode cX2_takeStaff 201 = .ok (.iload_n 1, 1) := by decide +kernel
theorem dX2_takeStaff_202 : decode cX2_takeStaff 202 = .ok (.iconst 1, 1) := by decide +kernel
theorem dX2_takeStaff_203 : decode cX2_takeStaff 203 = .ok (.iadd, 1) := by decide +kernel
theorem dX2_takeStaff_204 : decode cX2_takeStaff 204 = .ok (.putfield 81, 3) := by decide +kernel
theorem dX2_takeStaff_207 : decode cX2_takeStaff 207 = .ok (.iconst 1, 1) := by decide +kernel
theorem dX2_takeStaff_208 : decode cX2_takeStaff 208 = .ok (.ireturn, 1) := by decide +kernel
theorem dX2_takeQuarrel_0 : decode cX2_takeQuarrel 0 = .ok (.aload_n 0, 1) := by decide +kernel
theorem dX2_takeQuarrel_1 : decode cX2_takeQuarrel 1 = .ok (.getfield 14, 3) := by decide +kernel
theorem dX2_takeQuarrel_4 : decode cX2_takeQuarrel 4 = .ok (.iconst 0, 1) := by decide +kernel
theorem dX2_takeQuarrel_5 : decode cX2_takeQuarrel 5 = .ok (.invokevirtual 84, 3) := by decide +kernel
theorem dX2_takeQuarrel_8 : decode cX2_takeQuarrel 8 = .ok (.istore_n 1, 1) := by decide +kernel
theorem dX2_takeQuarrel_9 : decode cX2_takeQuarrel 9 = .ok (.aload_n 0, 1) := by decide +kernel
theorem dX2_takeQuarrel_10 : decode cX2_takeQuarrel 10 = .ok (.getfield 14, 3) := by decide +kernel
theorem dX2_takeQuarrel_13 : decode cX2_takeQuarrel 13 = .ok (.iconst 1, 1) := by decide +kernel
theorem dX2_takeQuarrel_14 : decode cX2_takeQuarrel 14 = .ok (.invokevirtual 84, 3) := by decide +kernel
theorem dX2_takeQuarrel_17 : decode cX2_takeQuarrel 17 = .ok (.istore_n 2, 1) := by decide +kernel
theorem dX2_takeQuarrel_18 : decode cX2_takeQuarrel 18 = .ok (.iload_n 1, 1) := by decide +kernel
theorem dX2_takeQuarrel_19 : decode cX2_takeQuarrel 19 = .ok (.iload_n 2, 1) := by decide +kernel
theorem dX2_takeQuarrel_20 : decode cX2_takeQuarrel 20 = .ok (.if_icmp .eq 18, 3) := by decide +kernel
theorem dX2_takeQuarrel_23 : decode cX2_takeQuarrel 23 = .ok (.iload_n 1, 1) := by decide +kernel
theorem dX2_takeQuarrel_24 : decode cX2_takeQuarrel 24 = .ok (.iload_n 2, 1) := by decide +kernel
theorem dX2_takeQuarrel_25 : decode cX2_takeQuarrel 25 = .ok (.invokestatic 106, 3) := by decide +kernel
theorem dX2_takeQuarrel_28 : decode cX2_takeQuarrel 28 = .ok (.aload_n 0, 1) := by decide +kernel
theorem dX2_takeQuarrel_29 : decode cX2_takeQuarrel 29 = .ok (.getfield 24, 3) := by decide +kernel
theorem dX2_takeQuarrel_32 : decode cX2_takeQuarrel 32 = .ok (.getfield 81, 3) := by decide +kernel
theorem dX2_takeQuarrel_35 : decode cX2_takeQuarrel 35 = .ok (.if_icmp .lt 5, 3) := by decide +kernel
theorem dX2_takeQuarrel_38 : decode cX2_takeQuarrel 38 = .ok (.iconst 0, 1) := by decide +kernel
theorem dX2_takeQuarrel_39 : decode cX2_takeQuarrel 39 = .ok (.ireturn, 1) := by decide +kernel
theorem dX2_takeQuarrel_40 : decode cX2_takeQuarrel 40 = .ok (.aload_n 0, 1) := by decide +kernel
theorem dX2_takeQuarrel_41 : decode cX2_takeQuarrel 41 = .ok (.getfield 24, 3) := by decide +kernel
theorem dX2_takeQuarrel_44 : decode cX2_takeQuarrel 44 = .ok (.dup, 1) := by decide +kernel
theorem dX2_takeQuarrel_45 : decode cX2_takeQuarrel 45 = .ok (.getfield 111, 3) := by decide +kernel
theorem dX2_takeQuarrel_48 : decode cX2_takeQuarrel 48 = .ok (.iconst 1, 1) := by decide +kernel
theorem dX2_takeQuarrel_49 : decode cX2_takeQuarrel 49 = .ok (.iload_n 1, 1) := by decide +kernel
theorem dX2_takeQuarrel_50 : decode cX2_takeQuarrel 50 = .ok (.iload_n 2, 1) := by decide +kernel
theorem dX2_takeQuarrel_51 : decode cX2_takeQuarrel 51 = .ok (.invokestatic 114, 3) := by decide +kernel
theorem dX2_takeQuarrel_54 : decode cX2_takeQuarrel 54 = .ok (.ishl, 1) := by decide +kernel
theorem dX2_takeQuarrel_55 : decode cX2_takeQuarrel 55 = .ok (.ixor, 1) := by decide +kernel
theorem dX2_takeQuarrel_56 : decode cX2_takeQuarrel 56 = .ok (.putfield 111, 3) := by decide +kernel
theorem dX2_takeQuarrel_59 : decode cX2_takeQuarrel 59 = .ok (.aload_n 0, 1) := by decide +kernel
theorem dX2_takeQuarrel_60 : decode cX2_takeQuarrel 60 = .ok (.getfield 24, 3) := by decide +kernel
theorem dX2_takeQuarrel_63 : decode cX2_takeQuarrel 63 = .ok (.getfield 111, 3) := by decide +kernel
theorem dX2_takeQuarrel_66 : decode cX2_takeQuarrel 66 = .ok (.invokestatic 117, 3) := by decide +kernel
theorem dX2_takeQuarrel_69 : decode cX2_takeQuarrel 69 = .ok (.bipush 6, 2) := by decide +kernel
theorem dX2_takeQuarrel_71 : decode cX2_takeQuarrel 71 = .ok (.if_icmp .gt 7, 3) := by decide +kernel
theorem dX2_takeQuarrel_74 : decode cX2_takeQuarrel 74 = .ok (.iconst 1, 1) := by decide +kernel
theorem dX2_takeQuarrel_75 : decode cX2_takeQuarrel 75 = .ok (.goto 4, 3) := by decide +kernel
theorem dX2_takeQuarrel_78 : decode cX2_takeQuarrel 78 = .ok (.iconst 0, 1) := by decide +kernel
theorem dX2_takeQuarrel_79 : decode cX2_takeQuarrel 79 = .ok (.ireturn, 1) := by decide +kernel
theorem dX2_takeCustomer_0 : decode cX2_takeCustomer 0 = .ok (.aload_n 0, 1) := by decide +kernel
theorem dX2_takeCustomer_1 : decode cX2_takeCustomer 1 = .ok (.getfield 24, 3) := by decide +kernel
theorem dX2_takeCustomer_4 : decode cX2_takeCustomer 4 = .ok (.getfield 122, 3) := by decide +kernel
theorem dX2_takeCustomer_7 : decode cX2_takeCustomer 7 = .ok (.istore_n 1, 1) := by decide +kernel
theorem dX2_takeCustomer_8 : decode cX2_takeCustomer 8 = .ok (.iload_n 1, 1) := by decide +kernel
theorem dX2_takeCustomer_9 : decode cX2_takeCustomer 9 = .ok (.bipush 10, 2) := by decide +kernel
theorem dX2_takeCustomer_11 : decode cX2_takeCustomer 11 = .ok (.if_icmp .ge 69, 3) := by decide +kernel
theorem dX2_takeCustomer_14 : decode cX2_takeCustomer 14 = .ok (.aload_n 0, 1) := by decide +kernel
theorem dX2_takeCustomer_15 : decode cX2_takeCustomer 15 = .ok (.getfield 14, 3) := by decide +kernel
theorem dX2_takeCustomer_18 : decode cX2_takeCustomer 18 = .ok (.iconst 0, 1) := by decide +kernel
theorem dX2_takeCustomer_19 : decode cX2_takeCustomer 19 = .ok (.invokevirtual 84, 3) := by decide +kernel
theorem dX2_takeCustomer_22 : decode cX2_takeCustomer 22 = .ok (.iconst 0, 1) := by decide +kernel
theorem dX2_takeCustomer_23 : decode cX2_takeCustomer 23 = .ok (.bipush 13, 2) := by decide +kernel
theorem dX2_takeCustomer_25 : decode cX2_takeCustomer 25 = .ok (.invokestatic 77, 3) := by decide +kernel
theorem dX2_takeCustomer_28 : decode cX2_takeCustomer 28 = .ok (.ifCond .eq 52, 3) := by decide +kernel
theorem dX2_takeCustomer_31 : decode cX2_takeCustomer 31 = .ok (.aload_n 0, 1) := by decide +kernel
theorem dX2_takeCustomer_32 : decode cX2_takeCustomer 32 = .ok (.getfield 14, 3) := by decide +kernel
theorem dX2_takeCustomer_35 : decode cX2_takeCustomer 35 = .ok (.iconst 1, 1) := by decide +kernel
theorem dX2_takeCustomer_36 : decode cX2_takeCustomer 36 = .ok (.invokevirtual 84, 3) := by decide +kernel
theorem dX2_takeCustomer_39 : decode cX2_takeCustomer 39 = .ok (.iconst 0, 1) := by decide +kernel
theorem dX2_takeCustomer_40 : decode cX2_takeCustomer 40 = .ok (.iconst 5, 1) := by decide +kernel
theorem dX2_takeCustomer_41 : decode cX2_takeCustomer 41 = .ok (.invokestatic 77, 3) := by decide +kernel
theorem dX2_takeCustomer_44 : decode cX2_takeCustomer 44 = .ok (.ifCond .eq 36, 3) := by decide +kernel
theorem dX2_takeCustomer_47 : decode cX2_takeCustomer 47 = .ok (.aload_n 0, 1) := by decide +kernel
theorem dX2_takeCustomer_48 : decode cX2_takeCustomer 48 = .ok (.getfield 14, 3) := by decide +kernel
theorem dX2_takeCustomer_51 : decode cX2_takeCustomer 51 = .ok (.iconst 2, 1) := by decide +kernel
theorem dX2_takeCustomer_52 : decode cX2_takeCustomer 52 = .ok (.invokevirtual 84, 3) := by decide +kernel
theorem dX2_takeCustomer_55 : decode cX2_takeCustomer 55 = .ok (.iconst 0, 1) := by decide +kernel
theorem dX2_takeCustomer_56 : decode cX2_takeCustomer 56 = .ok (.iconst 3, 1) := by decide +kernel
theorem dX2_takeCustomer_57 : decode cX2_takeCustomer 57 = .ok (.invokestatic 77, 3) := by decide +kernel
theorem dX2_takeCustomer_60 : decode cX2_takeCustomer 60 = .ok (.ifCond .eq 20, 3) := by decide +kernel
theorem dX2_takeCustomer_63 : decode cX2_takeCustomer 63 = .ok (.aload_n 0, 1) := by decide +kernel
theorem dX2_takeCustomer_64 : decode cX2_takeCustomer 64 = .ok (.getfield 14, 3) := by decide +kernel
theorem dX2_takeCustomer_67 : decode cX2_takeCustomer 67 = .ok (.iconst 3, 1) := by decide +kernel
theorem dX2_takeCustomer_68 : decode cX2_takeCustomer 68 = .ok (.invokevirtual 84, 3) := by decide +kernel
theorem dX2_takeCustomer_71 : decode cX2_takeCustomer 71 = .ok (.iconst 1, 1) := by decide +kernel
theorem dX2_takeCustomer_72 : decode cX2_takeCustomer 72 = .ok (.bipush 60, 2) := by decide +kernel
theorem dX2_takeCustomer_74 : decode cX2_takeCustomer 74 = .ok (.invokestatic 77, 3) := by decide +kernel
theorem dX2_takeCustomer_77 : decode cX2_takeCustomer 77 = .ok (.ifCond .ne 5, 3) := by decide +kernel
theorem dX2_takeCustomer_80 : decode cX2_takeCustomer 80 = .ok (.iconst 0, 1) := by decide +kernel
theorem dX2_takeCustomer_81 : decode cX2_takeCustomer 81 = .ok (.ireturn, 1) := by decide +kernel
theorem dX2_takeCustomer_82 : decode cX2_takeCustomer 82 = .ok (.aload_n 0, 1) := by decide +kernel
theorem dX2_takeCustomer_83 : decode cX2_takeCustomer 83 = .ok (.getfield 24, 3) := by decide +kernel
theorem dX2_takeCustomer_86 : decode cX2_takeCustomer 86 = .ok (.getfield 125, 3) := by decide +kernel
theorem dX2_takeCustomer_89 : decode cX2_takeCustomer 89 = .ok (.iload_n 1, 1) := by decide +kernel
theorem dX2_takeCustomer_90 : decode cX2_takeCustomer 90 = .ok (.aload_n 0, 1) := by decide +kernel
theorem dX2_takeCustomer_91 : decode cX2_takeCustomer 91 = .ok (.getfield 14, 3) := by decide +kernel
theorem dX2_takeCustomer_94 : decode cX2_takeCustomer 94 = .ok (.iconst 0, 1) := by decide +kernel
theorem dX2_takeCustomer_95 : decode cX2_takeCustomer 95 = .ok (.invokevirtual 84, 3) := by decide +kernel
theorem dX2_takeCustomer_98 : decode cX2_takeCustomer 98 = .ok (.invokevirtual 70, 3) := by decide +kernel
theorem dX2_takeCustomer_101 : decode cX2_takeCustomer 101 = .ok (.aload_n 0, 1) := by decide +kernel
theorem dX2_takeCustomer_102 : decode cX2_takeCustomer 102 = .ok (.getfield 24, 3) := by decide +kernel
theorem dX2_takeCustomer_105 : decode cX2_takeCustomer 105 = .ok (.getfield 128, 3) := by decide +kernel
theorem dX2_takeCustomer_108 : decode cX2_takeCustomer 108 = .ok (.iload_n 1, 1) := by decide +kernel
theorem dX2_takeCustomer_109 : decode cX2_takeCustomer 109 = .ok (.aload_n 0, 1) := by decide +kernel
theorem dX2_takeCustomer_110 : decode cX2_takeCustomer 110 = .ok (.getfield 14, 3) := by decide +kernel
theorem dX2_takeCustomer_113 : decode cX2_takeCustomer 113 = .ok (.iconst 1, 1) := by decide +kernel
theorem dX2_takeCustomer_114 : decode cX2_takeCustomer 114 = .ok (.invokevirtual 84, 3) := by decide +kernel
theorem dX2_takeCustomer_117 : decode cX2_takeCustomer 117 = .ok (.invokevirtual 70, 3) := by decide +kernel
theorem dX2_takeCustomer_120 : decode cX2_takeCustomer 120 = .ok (.aload_n 0, 1) := by decide +kernel
theorem dX2_takeCustomer_121 : decode cX2_takeCustomer 121 = .ok (.getfield 24, 3) := by decide +kernel
theorem dX2_takeCustomer_124 : decode cX2_takeCustomer 124 = .ok (.getfield 131, 3) := by decide +kernel
theorem dX2_takeCustomer_127 : decode cX2_takeCustomer 127 = .ok (.iload_n 1, 1) := by decide +kernel
theorem dX2_takeCustomer_128 : decode cX2_takeCustomer 128 = .ok (.aload_n 0, 1) := by decide +kernel
theorem dX2_takeCustomer_129 : decode cX2_takeCustomer 129 = .ok (.getfield 14, 3) := by decide +kernel
theorem dX2_takeCustomer_132 : decode cX2_takeCustomer 132 = .ok (.iconst 2, 1) := by decide +kernel
theorem dX2_takeCustomer_133 : decode cX2_takeCustomer 133 = .ok (.invokevirtual 84, 3) := by decide +kernel
theorem dX2_takeCustomer_136 : decode cX2_takeCustomer 136 = .ok (.invokevirtual 70, 3) := by decide +kernel
theorem dX2_takeCustomer_139 : decode cX2_takeCustomer 139 = .ok (.aload_n 0, 1) := by decide +kernel
theorem dX2_takeCustomer_140 : decode cX2_takeCustomer 140 = .ok (.getfield 24, 3) := by decide +kernel
theorem dX2_takeCustomer_143 : decode cX2_takeCustomer 143 = .ok (.getfield 134, 3) := by decide +kernel
theorem dX2_takeCustomer_146 : decode cX2_takeCustomer 146 = .ok (.iload_n 1, 1) := by decide +kernel
theorem dX2_takeCustomer_147 : decode cX2_takeCustomer 147 = .ok (.aload_n 0, 1) := by decide +kernel
theorem dX2_takeCustomer_148 : decode cX2_takeCustomer 148 = .ok (.getfield 14, 3) := by decide +kernel
theorem dX2_takeCustomer_151 : decode cX2_takeCustomer 151 = .ok (.iconst 3, 1) := by decide +kernel
theorem dX2_takeCustomer_152 : decode cX2_takeCustomer 152 = .ok (.invokevirtual 84, 3) := by decide +kernel
theorem dX2_takeCustomer_155 : decode cX2_takeCustomer 155 = .ok (.invokevirtual 70, 3) := by decide +kernel
theorem dX2_takeCustomer_158 : decode cX2_takeCustomer 158 = .ok (.aload_n 0, 1) := by decide +kernel
theorem dX2_takeCustomer_159 : decode cX2_takeCustomer 159 = .ok (.getfield 24, 3) := by decide +kernel
theorem dX2_takeCustomer_162 : decode cX2_takeCustomer 162 = .ok (.iload_n 1, 1) := by decide +kernel
theorem dX2_takeCustomer_163 : decode cX2_takeCustomer 163 = .ok (.iconst 1, 1) := by decide +kernel
theorem dX2_takeCustomer_164 : decode cX2_takeCustomer 164 = .ok (.iadd, 1) := by decide +kernel
theorem dX2_takeCustomer_165 : decode cX2_takeCustomer 165 = .ok (.putfield 122, 3) := by decide +kernel
theorem dX2_takeCustomer_168 : decode cX2_takeCustomer 168 = .ok (.iconst 1, 1) := by decide +kernel
theorem dX2_takeCustomer_169 : decode cX2_takeCustomer 169 = .ok (.ireturn, 1) := by decide +kernel
theorem dX2_takeDog_0 : decode cX2_takeDog 0 = .ok (.aload_n 0, 1) := by decide +kernel
theorem dX2_takeDog_1 : decode cX2_takeDog 1 = .ok (.getfield 24, 3) := by decide +kernel
theorem dX2_takeDog_4 : decode cX2_takeDog 4 = .ok (.aload_n 0, 1) := by decide +kernel
theorem dX2_takeDog_5 : decode cX2_takeDog 5 = .ok (.getfield 14, 3) := by decide +kernel
theorem dX2_takeDog_8 : decode cX2_takeDog 8 = .ok (.iconst 0, 1) := by decide +kernel
theorem dX2_takeDog_9 : decode cX2_takeDog 9 = .ok (.invokevirtual 84, 3) := by decide +kernel
theorem dX2_takeDog_12 : decode cX2_takeDog 12 = .ok (.putfield 137, 3) := by decide +kernel
theorem dX2_takeDog_15 : decode cX2_takeDog 15 = .ok (.aload_n 0, 1) := by decide +kernel
theorem dX2_takeDog_16 : decode cX2_takeDog 16 = .ok (.getfield 24, 3) := by decide +kernel
theorem dX2_takeDog_19 : decode cX2_takeDog 19 = .ok (.getfield 137, 3) := by decide +kernel
theorem dX2_takeDog_22 : decode cX2_takeDog 22 = .ok (.iconst 1, 1) := by decide +kernel
theorem dX2_takeDog_23 : decode cX2_takeDog 23 = .ok (.bipush 10, 2) := by decide +kernel
theorem dX2_takeDog_25 : decode cX2_takeDog 25 = .ok (.invokestatic 77, 3) := by decide +kernel
theorem dX2_takeDog_28 : decode cX2_takeDog 28 = .ok (.ireturn, 1) := by decide +kernel
theorem dX3_init_0 : decode cX3_init 0 = .ok (.aload_n 0, 1) := by decide +kernel
theorem dX3_init_1 : decode cX3_init 1 = .ok (.invokespecial 1, 3) := by decide +kernel
theorem dX3_init_4 : decode cX3_init 4 = .ok (.aload_n 0, 1) := by decide +kernel
theorem dX3_init_5 : decode cX3_init 5 = .ok (.iload_n 1, 1) := by decide +kernel
theorem dX3_init_6 : decode cX3_init 6 = .ok (.ifCond .le 7, 3) := by decide +kernel
theorem dX3_init_9 : decode cX3_init 9 = .ok (.iload_n 1, 1) := by decide +kernel
theorem dX3_init_10 : decode cX3_init 10 = .ok (.goto 4, 3) := by decide +kernel
theorem dX3_init_13 : decode cX3_init 13 = .ok (.iconst 0, 1) := by decide +kernel
theorem dX3_init_14 : decode cX3_init 14 = .ok (.newarray .int, 2) := by decide +kernel
theorem dX3_init_16 : decode cX3_init 16 = .ok (.putfield 7, 3) := by decide +kernel
theorem dX3_init_19 : decode cX3_init 19 = .ok (.return_, 1) := by decide +kernel
theorem dX3_at_0 : decode cX3_at 0 = .ok (.iload_n 1, 1) := by decide +kernel
theorem dX3_at_1 : decode cX3_at 1 = .ok (.ifCond .lt 21, 3) := by decide +kernel
theorem dX3_at_4 : decode cX3_at 4 = .ok (.iload_n 1, 1) := by decide +kernel
theorem dX3_at_5 : decode cX3_at 5 = .ok (.aload_n 0, 1) := by decide +kernel
theorem dX3_at_6 : decode cX3_at 6 = .ok (.getfield 7, 3) := by decide +kernel
theorem dX3_at_9 : decode cX3_at 9 = .ok (.arraylength, 1) := by decide +kernel
theorem dX3_at_10 : decode cX3_at 10 = .ok (.if_icmp .ge 12, 3) := by decide +kernel
theorem dX3_at_13 : decode cX3_at 13 = .ok (.aload_n 0, 1) := by decide +kernel
theorem dX3_at_14 : decode cX3_at 14 = .ok (.getfield 7, 3) := by decide +kernel
theorem dX3_at_17 : decode cX3_at 17 = .ok (.iload_n 1, 1) := by decide +kernel
theorem dX3_at_18 : decode cX3_at 18 = .ok (.iaload, 1) := by decide +kernel
theorem dX3_at_19 : decode cX3_at 19 = .ok (.goto 4, 3) := by decide +kernel
theorem dX3_at_22 : decode cX3_at 22 = .ok (.iconst 0, 1) := by decide +kernel
theorem dX3_at_23 : decode cX3_at 23 = .ok (.ireturn, 1) := by decide +kernel
theorem dX3_put_0 : decode cX3_put 0 = .ok (.iload_n 1, 1) := by decide +kernel
theorem dX3_put_1 : decode cX3_put 1 = .ok (.ifCond .lt 19, 3) := by decide +kernel
theorem dX3_put_4 : decode cX3_put 4 = .ok (.iload_n 1, 1) := by decide +kernel
theorem dX3_put_5 : decode cX3_put 5 = .ok (.aload_n 0, 1) := by decide +kernel
theorem dX3_put_6 : decode cX3_put 6 = .ok (.getfield 7, 3) := by decide +kernel
theorem dX3_put_9 : decode cX3_put 9 = .ok (.arraylength, 1) := by decide +kernel
theorem dX3_put_10 : decode cX3_put 10 = .ok (.if_icmp .ge 10, 3) := by decide +kernel
theorem dX3_put_13 : decode cX3_put 13 = .ok (.aload_n 0, 1) := by decide +kernel
theorem dX3_put_14 : decode cX3_put 14 = .ok (.getfield 7, 3) := by decide +kernel
theorem dX3_put_17 : decode cX3_put 17 = .ok (.iload_n 1, 1) := by decide +kernel
theorem dX3_put_18 : decode cX3_put 18 = .ok (.iload_n 2, 1) := by decide +kernel
theorem dX3_put_19 : decode cX3_put 19 = .ok (.iastore, 1) := by decide +kernel
theorem dX3_put_20 : decode cX3_put 20 = .ok (.return_, 1) := by decide +kernel
theorem dX3_fill_0 : decode cX3_fill 0 = .ok (.iconst 0, 1) := by decide +kernel
theorem dX3_fill_1 : decode cX3_fill 1 = .ok (.istore_n 2, 1) := by decide +kernel
theorem dX3_fill_2 : decode cX3_fill 2 = .ok (.iload_n 2, 1) := by decide +kernel
theorem dX3_fill_3 : decode cX3_fill 3 = .ok (.aload_n 0, 1) := by decide +kernel
theorem dX3_fill_4 : decode cX3_fill 4 = .ok (.getfield 7, 3) := by decide +kernel
theorem dX3_fill_7 : decode cX3_fill 7 = .ok (.arraylength, 1) := by decide +kernel
theorem dX3_fill_8 : decode cX3_fill 8 = .ok (.if_icmp .ge 16, 3) := by decide +kernel
theorem dX3_fill_11 : decode cX3_fill 11 = .ok (.aload_n 0, 1) := by decide +kernel
theorem dX3_fill_12 : decode cX3_fill 12 = .ok (.getfield 7, 3) := by decide +kernel
theorem dX3_fill_15 : decode cX3_fill 15 = .ok (.iload_n 2, 1) := by decide +kernel
theorem dX3_fill_16 : decode cX3_fill 16 = .ok (.iload_n 1, 1) := by decide +kernel
theorem dX3_fill_17 : decode cX3_fill 17 = .ok (.iastore, 1) := by decide +kernel
theorem dX3_fill_18 : decode cX3_fill 18 = .ok (.iinc 2 1, 3) := by decide +kernel
theorem dX3_fill_21 : decode cX3_fill 21 = .ok (.goto (-19), 3) := by decide +kernel
theorem dX3_fill_24 : decode cX3_fill 24 = .ok (.return_, 1) := by decide +kernel
theorem dX3_copy_0 : decode cX3_copy 0 = .ok (.iconst 0, 1) := by decide +kernel
theorem dX3_copy_1 : decode cX3_copy 1 = .ok (.istore_n 2, 1) := by decide +kernel
theorem dX3_copy_2 : decode cX3_copy 2 = .ok (.iload_n 2, 1) := by decide +kernel
theorem dX3_copy_3 : decode cX3_copy 3 = .ok (.aload_n 0, 1) := by decide +kernel
theorem dX3_copy_4 : decode cX3_copy 4 = .ok (.getfield 7, 3) := by decide +kernel
theorem dX3_copy_7 : decode cX3_copy 7 = .ok (.arraylength, 1) := by decide +kernel
theorem dX3_copy_8 : decode cX3_copy 8 = .ok (.if_icmp .ge 20, 3) := by decide +kernel
theorem dX3_copy_11 : decode cX3_copy 11 = .ok (.aload_n 0, 1) := by decide +kernel
theorem dX3_copy_12 : decode cX3_copy 12 = .ok (.getfield 7, 3) := by decide +kernel
theorem dX3_copy_15 : decode cX3_copy 15 = .ok (.iload_n 2, 1) := by decide +kernel
theorem dX3_copy_16 : decode cX3_copy 16 = .ok (.aload_n 1, 1) := by decide +kernel
theorem dX3_copy_17 : decode cX3_copy 17 = .ok (.iload_n 2, 1) := by decide +kernel
theorem dX3_copy_18 : decode cX3_copy 18 = .ok (.invokevirtual 13, 3) := by decide +kernel
theorem dX3_copy_21 : decode cX3_copy 21 = .ok (.iastore, 1) := by decide +kernel
theorem dX3_copy_22 : decode cX3_copy 22 = .ok (.iinc 2 1, 3) := by decide +kernel
theorem dX3_copy_25 : decode cX3_copy 25 = .ok (.goto (-23), 3) := by decide +kernel
theorem dX3_copy_28 : decode cX3_copy 28 = .ok (.return_, 1) := by decide +kernel
theorem dX4_init_0 : decode cX4_init 0 = .ok (.aload_n 0, 1) := by decide +kernel
theorem dX4_init_1 : decode cX4_init 1 = .ok (.invokespecial 1, 3) := by decide +kernel
theorem dX4_init_4 : decode cX4_init 4 = .ok (.aload_n 0, 1) := by decide +kernel
theorem dX4_init_5 : decode cX4_init 5 = .ok (.iload_n 1, 1) := by decide +kernel
theorem dX4_init_6 : decode cX4_init 6 = .ok (.ifCond .le 7, 3) := by decide +kernel
theorem dX4_init_9 : decode cX4_init 9 = .ok (.iload_n 1, 1) := by decide +kernel
theorem dX4_init_10 : decode cX4_init 10 = .ok (.goto 4, 3) := by decide +kernel
theorem dX4_init_13 : decode cX4_init 13 = .ok (.iconst 0, 1) := by decide +kernel
theorem dX4_init_14 : decode cX4_init 14 = .ok (.anewarray 7, 3) := by decide +kernel
theorem dX4_init_17 : decode cX4_init 17 = .ok (.putfield 9, 3) := by decide +kernel
theorem dX4_init_20 : decode cX4_init 20 = .ok (.iconst 0, 1) := by decide +kernel
theorem dX4_init_21 : decode cX4_init 21 = .ok (.istore_n 2, 1) := by decide +kernel
theorem dX4_init_22 : decode cX4_init 22 = .ok (.iload_n 2, 1) := by decide +kernel
theorem dX4_init_23 : decode cX4_init 23 = .ok (.aload_n 0, 1) := by decide +kernel
theorem dX4_init_24 : decode cX4_init 24 = .ok (.getfield 9, 3) := by decide +kernel
theorem dX4_init_27 : decode cX4_init 27 = .ok (.arraylength, 1) := by decide +kernel
theorem dX4_init_28 : decode cX4_init 28 = .ok (.if_icmp .ge 22, 3) := by decide +kernel
theorem dX4_init_31 : decode cX4_init 31 = .ok (.aload_n 0, 1) := by decide +kernel
theorem dX4_init_32 : decode cX4_init 32 = .ok (.getfield 9, 3) := by decide +kernel
theorem dX4_init_35 : decode cX4_init 35 = .ok (.iload_n 2, 1) := by decide +kernel
theorem dX4_init_36 : decode cX4_init 36 = .ok (.new 7, 3) := by decide +kernel
theorem dX4_init_39 : decode cX4_init 39 = .ok (.dup, 1) := by decide +kernel
theorem dX4_init_40 : decode cX4_init 40 = .ok (.invokespecial 15, 3) := by decide +kernel
theorem dX4_init_43 : decode cX4_init 43 = .ok (.aastore, 1) := by decide +kernel
theorem dX4_init_44 : decode cX4_init 44 = .ok (.iinc 2 1, 3) := by decide +kernel
theorem dX4_init_47 : decode cX4_init 47 = .ok (.goto (-25), 3) := by decide +kernel
theorem dX4_init_50 : decode cX4_init 50 = .ok (.return_, 1) := by decide +kernel
theorem dX4_clear_0 : decode cX4_clear 0 = .ok (.aload_n 0, 1) := by decide +kernel
theorem dX4_clear_1 : decode cX4_clear 1 = .ok (.iconst 0, 1) := by decide +kernel
theorem dX4_clear_2 : decode cX4_clear 2 = .ok (.putfield 16, 3) := by decide +kernel
theorem dX4_clear_5 : decode cX4_clear 5 = .ok (.return_, 1) := by decide +kernel
theorem dX4_put_0 : decode cX4_put 0 = .ok (.aload_n 0, 1) := by decide +kernel
theorem dX4_put_1 : decode cX4_put 1 = .ok (.getfield 16, 3) := by decide +kernel
theorem dX4_put_4 : decode cX4_put 4 = .ok (.aload_n 0, 1) := by decide +kernel
theorem dX4_put_5 : decode cX4_put 5 = .ok (.getfield 9, 3) := by decide +kernel
theorem dX4_put_8 : decode cX4_put 8 = .ok (.arraylength, 1) := by decide +kernel
theorem dX4_put_9 : decode cX4_put 9 = .ok (.if_icmp .lt 7, 3) := by decide +kernel
theorem dX4_put_12 : decode cX4_put 12 = .ok (.aload_n 0, 1) := by decide +kernel
theorem dX4_put_13 : decode cX4_put 13 = .ok (.invokevirtual 20, 3) := by decide +kernel
theorem dX4_put_16 : decode cX4_put 16 = .ok (.aload_n 0, 1) := by decide +kernel
theorem dX4_put_17 : decode cX4_put 17 = .ok (.getfield 16, 3) := by decide +kernel
theorem dX4_put_20 : decode cX4_put 20 = .ok (.ifCond .lt 50, 3) := by decide +kernel
theorem dX4_put_23 : decode cX4_put 23 = .ok (.aload_n 0, 1) := by decide +kernel
theorem dX4_put_24 : decode cX4_put 24 = .ok (.getfield 16, 3) := by decide +kernel
theorem dX4_put_27 : decode cX4_put 27 = .ok (.aload_n 0, 1) := by decide +kernel
theorem dX4_put_28 : decode cX4_put 28 = .ok (.getfield 9, 3) := by decide +kernel
theorem dX4_put_31 : decode cX4_put 31 = .ok (.arraylength, 1) := by decide +kernel
theorem dX4_put_32 : decode cX4_put 32 = .ok (.if_icmp .ge 38, 3) := by decide +kernel
theorem dX4_put_35 : decode cX4_put 35 = .ok (.aload_n 0, 1) := by decide +kernel
theorem dX4_put_36 : decode cX4_put 36 = .ok (.getfield 9, 3) := by decide +kernel
theorem dX4_put_39 : decode cX4_put 39 = .ok (.aload_n 0, 1) := by decide +kernel
theorem dX4_put_40 : decode cX4_put 40 = .ok (.getfield 16, 3) := by decide +kernel
theorem dX4_put_43 : decode cX4_put 43 = .ok (.aaload, 1) := by decide +kernel
theorem dX4_put_44 : decode cX4_put 44 = .ok (.ifnull 26, 3) := by decide +kernel
theorem dX4_put_47 : decode cX4_put 47 = .ok (.aload_n 0, 1) := by decide +kernel
theorem dX4_put_48 : decode cX4_put 48 = .ok (.getfield 9, 3) := by decide +kernel
theorem dX4_put_51 : decode cX4_put 51 = .ok (.aload_n 0, 1) := by decide +kernel
theorem dX4_put_52 : decode cX4_put 52 = .ok (.getfield 16, 3) := by decide +kernel
theorem dX4_put_55 : decode cX4_put 55 = .ok (.aaload, 1) := by decide +kernel
theorem dX4_put_56 : decode cX4_put 56 = .ok (.aload_n 1, 1) := by decide +kernel
theorem dX4_put_57 : decode cX4_put 57 = .ok (.invokevirtual 23, 3) := by decide +kernel
theorem dX4_put_60 : decode cX4_put 60 = .ok (.aload_n 0, 1) := by decide +kernel
theorem dX4_put_61 : decode cX4_put 61 = .ok (.dup, 1) := by decide +kernel
theorem dX4_put_62 : decode cX4_put 62 = .ok (.getfield 16, 3) := by decide +kernel
theorem dX4_put_65 : decode cX4_put 65 = .ok (.iconst 1, 1) := by decide +kernel
theorem dX4_put_66 : decode cX4_put 66 = .ok (.iadd, 1) := by decide +kernel
theorem dX4_put_67 : decode cX4_put 67 = .ok (.putfield 16, 3) := by decide +kernel
theorem dX4_put_70 : decode cX4_put 70 = .ok (.return_, 1) := by decide +kernel
theorem dX4_dropOldest_0 : decode cX4_dropOldest 0 = .ok (.aload_n 0, 1) := by decide +kernel
theorem dX4_dropOldest_1 : decode cX4_dropOldest 1 = .ok (.getfield 9, 3) := by decide +kernel
theorem dX4_dropOldest_4 : decode cX4_dropOldest 4 = .ok (.arraylength, 1) := by decide +kernel
theorem dX4_dropOldest_5 : decode cX4_dropOldest 5 = .ok (.ifCond .ne 4, 3) := by decide +kernel
theorem dX4_dropOldest_8 : decode cX4_dropOldest 8 = .ok (.return_, 1) := by decide +kernel
theorem dX4_dropOldest_9 : decode cX4_dropOldest 9 = .ok (.aload_n 0, 1) := by decide +kernel
theorem dX4_dropOldest_10 : decode cX4_dropOldest 10 = .ok (.getfield 9, 3) := by decide +kernel
theorem dX4_dropOldest_13 : decode cX4_dropOldest 13 = .ok (.iconst 0, 1) := by decide +kernel
theorem dX4_dropOldest_14 : decode cX4_dropOldest 14 = .ok (.aaload, 1) := by decide +kernel
theorem dX4_dropOldest_15 : decode cX4_dropOldest 15 = .ok (.astore_n 1, 1) := by decide +kernel
theorem dX4_dropOldest_16 : decode cX4_dropOldest 16 = .ok (.iconst 1, 1) := by decide +kernel
theorem dX4_dropOldest_17 : decode cX4_dropOldest 17 = .ok (.istore_n 2, 1) := by decide +kernel
theorem dX4_dropOldest_18 : decode cX4_dropOldest 18 = .ok (.iload_n 2, 1) := by decide +kernel
theorem dX4_dropOldest_19 : decode cX4_dropOldest 19 = .ok (.aload_n 0, 1) := by decide +kernel
theorem dX4_dropOldest_20 : decode cX4_dropOldest 20 = .ok (.getfield 9, 3) := by decide +kernel
theorem dX4_dropOldest_23 : decode cX4_dropOldest 23 = .ok (.arraylength, 1) := by decide +kernel
theorem dX4_dropOldest_24 : decode cX4_dropOldest 24 = .ok (.if_icmp .ge 23, 3) := by decide +kernel
theorem dX4_dropOldest_27 : decode cX4_dropOldest 27 = .ok (.aload_n 0, 1) := by decide +kernel
theorem dX4_dropOldest_28 : decode cX4_dropOldest 28 = .ok (.getfield 9, 3) := by decide +kernel
theorem dX4_dropOldest_31 : decode cX4_dropOldest 31 = .ok (.iload_n 2, 1) := by decide +kernel
theorem dX4_dropOldest_32 : decode cX4_dropOldest 32 = .ok (.iconst 1, 1) := by decide +kernel
theorem dX4_dropOldest_33 : decode cX4_dropOldest 33 = .ok (.isub, 1) := by decide +kernel
theorem dX4_dropOldest_34 : decode cX4_dropOldest 34 = .ok (.aload_n 0, 1) := by decide +kernel
theorem dX4_dropOldest_35 : decode cX4_dropOldest 35 = .ok (.getfield 9, 3) := by decide +kernel
theorem dX4_dropOldest_38 : decode cX4_dropOldest 38 = .ok (.iload_n 2, 1) := by decide +kernel
theorem dX4_dropOldest_39 : decode cX4_dropOldest 39 = .ok (.aaload, 1) := by decide +kernel
theorem dX4_dropOldest_40 : decode cX4_dropOldest 40 = .ok (.aastore, 1) := by decide +kernel
theorem dX4_dropOldest_41 : decode cX4_dropOldest 41 = .ok (.iinc 2 1, 3) := by decide +kernel
theorem dX4_dropOldest_44 : decode cX4_dropOldest 44 = .ok (.goto (-26), 3) := by decide +kernel
theorem dX4_dropOldest_47 : decode cX4_dropOldest 47 = .ok (.aload_n 0, 1) := by decide +kernel
theorem dX4_dropOldest_48 : decode cX4_dropOldest 48 = .ok (.getfield 9, 3) := by decide +kernel
theorem dX4_dropOldest_51 : decode cX4_dropOldest 51 = .ok (.aload_n 0, 1) := by decide +kernel
theorem dX4_dropOldest_52 : decode cX4_dropOldest 52 = .ok (.getfield 9, 3) := by decide +kernel
theorem dX4_dropOldest_55 : decode cX4_dropOldest 55 = .ok (.arraylength, 1) := by decide +kernel
theorem dX4_dropOldest_56 : decode cX4_dropOldest 56 = .ok (.iconst 1, 1) := by decide +kernel
theorem dX4_dropOldest_57 : decode cX4_dropOldest 57 = .ok (.isub, 1) := by decide +kernel
theorem dX4_dropOldest_58 : decode cX4_dropOldest 58 = .ok (.aload_n 1, 1) := by decide +kernel
theorem dX4_dropOldest_59 : decode cX4_dropOldest 59 = .ok (.aastore, 1) := by decide +kernel
theorem dX4_dropOldest_60 : decode cX4_dropOldest 60 = .ok (.aload_n 0, 1) := by decide +kernel
theorem dX4_dropOldest_61 : decode cX4_dropOldest 61 = .ok (.aload_n 0, 1) := by decide +kernel
theorem dX4_dropOldest_62 : decode cX4_dropOldest 62 = .ok (.getfield 9, 3) := by decide +kernel
theorem dX4_dropOldest_65 : decode cX4_dropOldest 65 = .ok (.arraylength, 1) := by decide +kernel
theorem dX4_dropOldest_66 : decode cX4_dropOldest 66 = .ok (.iconst 1, 1) := by decide +kernel
theorem dX4_dropOldest_67 : decode cX4_dropOldest 67 = .ok (.isub, 1) := by decide +kernel
theorem dX4_dropOldest_68 : decode cX4_dropOldest 68 = .ok (.putfield 16, 3) := by decide +kernel
theorem dX4_dropOldest_71 : decode cX4_dropOldest 71 = .ok (.return_, 1) := by decide +kernel
theorem dX4_takeInto_0 : decode cX4_takeInto 0 = .ok (.aload_n 0, 1) := by decide +kernel
theorem dX4_takeInto_1 : decode cX4_takeInto 1 = .ok (.getfield 16, 3) := by decide +kernel
theorem dX4_takeInto_4 : decode cX4_takeInto 4 = .ok (.iconst 1, 1) := by decide +kernel
theorem dX4_takeInto_5 : decode cX4_takeInto 5 = .ok (.isub, 1) := by decide +kernel
theorem dX4_takeInto_6 : decode cX4_takeInto 6 = .ok (.istore_n 2, 1) := by decide +kernel
theorem dX4_takeInto_7 : decode cX4_takeInto 7 = .ok (.iload_n 2, 1) := by decide +kernel
theorem dX4_takeInto_8 : decode cX4_takeInto 8 = .ok (.ifCond .lt 36, 3) := by decide +kernel
theorem dX4_takeInto_11 : decode cX4_takeInto 11 = .ok (.iload_n 2, 1) := by decide +kernel
theorem dX4_takeInto_12 : decode cX4_takeInto 12 = .ok (.aload_n 0, 1) := by decide +kernel
theorem dX4_takeInto_13 : decode cX4_takeInto 13 = .ok (.getfield 9, 3) := by decide +kernel
theorem dX4_takeInto_16 : decode cX4_takeInto 16 = .ok (.arraylength, 1) := by decide +kernel
theorem dX4_takeInto_17 : decode cX4_takeInto 17 = .ok (.if_icmp .ge 27, 3) := by decide +kernel
theorem dX4_takeInto_20 : decode cX4_takeInto 20 = .ok (.aload_n 0, 1) := by decide +kernel
theorem dX4_takeInto_21 : decode cX4_takeInto 21 = .ok (.getfield 9, 3) := by decide +kernel
theorem dX4_takeInto_24 : decode cX4_takeInto 24 = .ok (.iload_n 2, 1) := by decide +kernel
theorem dX4_takeInto_25 : decode cX4_takeInto 25 = .ok (.aaload, 1) := by decide +kernel
theorem dX4_takeInto_26 : decode cX4_takeInto 26 = .ok (.ifnull 18, 3) := by decide +kernel
theorem dX4_takeInto_29 : decode cX4_takeInto 29 = .ok (.aload_n 1, 1) := by decide +kernel
theorem dX4_takeInto_30 : decode cX4_takeInto 30 = .ok (.aload_n 0, 1) := by decide +kernel
theorem dX4_takeInto_31 : decode cX4_takeInto 31 = .ok (.getfield 9, 3) := by decide +kernel
theorem dX4_takeInto_34 : decode cX4_takeInto 34 = .ok (.iload_n 2, 1) := by decide +kernel
theorem dX4_takeInto_35 : decode cX4_takeInto 35 = .ok (.aaload, 1) := by decide +kernel
theorem dX4_takeInto_36 : decode cX4_takeInto 36 = .ok (.invokevirtual 23, 3) := by decide +kernel
theorem dX4_takeInto_39 : decode cX4_takeInto 39 = .ok (.aload_n 0, 1) := by decide +kernel
theorem dX4_takeInto_40 : decode cX4_takeInto 40 = .ok (.iload_n 2, 1) := by decide +kernel
theorem dX4_takeInto_41 : decode cX4_takeInto 41 = .ok (.putfield 16, 3) := by decide +kernel
theorem dX4_takeInto_44 : decode cX4_takeInto 44 = .ok (.return_, 1) := by decide +kernel
theorem dX5_init_0 : decode cX5_init 0 = .ok (.aload_n 0, 1) := by decide +kernel
theorem dX5_init_1 : decode cX5_init 1 = .ok (.invokespecial 3, 3) := by decide +kernel
theorem dX5_init_4 : decode cX5_init 4 = .ok (.aload_n 0, 1) := by decide +kernel
theorem dX5_init_5 : decode cX5_init 5 = .ok (.new 9, 3) := by decide +kernel
theorem dX5_init_8 : decode cX5_init 8 = .ok (.dup, 1) := by decide +kernel
theorem dX5_init_9 : decode cX5_init 9 = .ok (.bipush 6, 2) := by decide +kernel
theorem dX5_init_11 : decode cX5_init 11 = .ok (.invokespecial 11, 3) := by decide +kernel
theorem dX5_init_14 : decode cX5_init 14 = .ok (.putfield 14, 3) := by decide +kernel
theorem dX5_init_17 : decode cX5_init 17 = .ok (.aload_n 0, 1) := by decide +kernel
theorem dX5_init_18 : decode cX5_init 18 = .ok (.new 9, 3) := by decide +kernel
theorem dX5_init_21 : decode cX5_init 21 = .ok (.dup, 1) := by decide +kernel
theorem dX5_init_22 : decode cX5_init 22 = .ok (.bipush 6, 2) := by decide +kernel
theorem dX5_init_24 : decode cX5_init 24 = .ok (.invokespecial 11, 3) := by decide +kernel
theorem dX5_init_27 : decode cX5_init 27 = .ok (.putfield 20, 3) := by decide +kernel
theorem dX5_init_30 : decode cX5_init 30 = .ok (.aload_n 0, 1) := by decide +kernel
theorem dX5_init_31 : decode cX5_init 31 = .ok (.new 9, 3) := by decide +kernel
theorem dX5_init_34 : decode cX5_init 34 = .ok (.dup, 1) := by decide +kernel
theorem dX5_init_35 : decode cX5_init 35 = .ok (.bipush 6, 2) := by decide +kernel
theorem dX5_init_37 : decode cX5_init 37 = .ok (.invokespecial 11, 3) := by decide +kernel
theorem dX5_init_40 : decode cX5_init 40 = .ok (.putfield 23, 3) := by decide +kernel
theorem dX5_init_43 : decode cX5_init 43 = .ok (.aload_n 0, 1) := by decide +kernel
theorem dX5_init_44 : decode cX5_init 44 = .ok (.new 9, 3) := by decide +kernel
theorem dX5_init_47 : decode cX5_init 47 = .ok (.dup, 1) := by decide +kernel
theorem dX5_init_48 : decode cX5_init 48 = .ok (.bipush 6, 2) := by decide +kernel
theorem dX5_init_50 : decode cX5_init 50 = .ok (.invokespecial 11, 3) := by decide +kernel
theorem dX5_init_53 : decode cX5_init 53 = .ok (.putfield 26, 3) := by decide +kernel
theorem dX5_init_56 : decode cX5_init 56 = .ok (.aload_n 0, 1) := by decide +kernel
theorem dX5_init_57 : decode cX5_init 57 = .ok (.new 9, 3) := by decide +kernel
theorem dX5_init_60 : decode cX5_init 60 = .ok (.dup, 1) := by decide +kernel
theorem dX5_init_61 : decode cX5_init 61 = .ok (.bipush 10, 2) := by decide +kernel
theorem dX5_init_63 : decode cX5_init 63 = .ok (.invokespecial 11, 3) := by decide +kernel
theorem dX5_init_66 : decode cX5_init 66 = .ok (.putfield 29, 3) := by decide +kernel
theorem dX5_init_69 : decode cX5_init 69 = .ok (.aload_n 0, 1) := by decide +kernel
theorem dX5_init_70 : decode cX5_init 70 = .ok (.new 9, 3) := by decide +kernel
theorem dX5_init_73 : decode cX5_init 73 = .ok (.dup, 1) := by decide +kernel
theorem dX5_init_74 : decode cX5_init 74 = .ok (.bipush 10, 2) := by decide +kernel
theorem dX5_init_76 : decode cX5_init 76 = .ok (.invokespecial 11, 3) := by decide +kernel
theorem dX5_init_79 : decode cX5_init 79 = .ok (.putfield 32, 3) := by decide +kernel
theorem dX5_init_82 : decode cX5_init 82 = .ok (.aload_n 0, 1) := by decide +kernel
theorem dX5_init_83 : decode cX5_init 83 = .ok (.new 9, 3) := by decide +kernel
theorem dX5_init_86 : decode cX5_init 86 = .ok (.dup, 1) := by decide +kernel
theorem dX5_init_87 : decode cX5_init 87 = .ok (.bipush 10, 2) := by decide +kernel
theorem dX5_init_89 : decode cX5_init 89 = .ok (.invokespecial 11, 3) := by decide +kernel
theorem dX5_init_92 : decode cX5_init 92 = .ok (.putfield 35, 3) := by decide +kernel
theorem dX5_init_95 : decode cX5_init 95 = .ok (.aload_n 0, 1) := by decide +kernel
theorem dX5_init_96 : decode cX5_init 96 = .ok (.new 9, 3) := by decide +kernel
theorem dX5_init_99 : decode cX5_init 99 = .ok (.dup, 1) := by decide +kernel
theorem dX5_init_100 : decode cX5_init 100 = .ok (.bipush 10, 2) := by decide +kernel
theorem dX5_init_102 : decode cX5_init 102 = .ok (.invokespecial 11, 3) := by decide +kernel
theorem dX5_init_105 : decode cX5_init 105 = .ok (.putfield 38, 3) := by decide +kernel
theorem dX5_init_108 : decode cX5_init 108 = .ok (.aload_n 0, 1) := by decide +kernel
theorem dX5_init_109 : decode cX5_init 109 = .ok (.new 9, 3) := by decide +kernel
theorem dX5_init_112 : decode cX5_init 112 = .ok (.dup, 1) := by decide +kernel
theorem dX5_init_113 : decode cX5_init 113 = .ok (.bipush 6, 2) := by decide +kernel
theorem dX5_init_115 : decode cX5_init 115 = .ok (.invokespecial 11, 3) := by decide +kernel
theorem dX5_init_118 : decode cX5_init 118 = .ok (.putfield 41, 3) := by decide +kernel
theorem dX5_init_121 : decode cX5_init 121 = .ok (.return_, 1) := by decide +kernel
theorem dX5_clear_0 : decode cX5_clear 0 = .ok (.aload_n 0, 1) := by decide +kernel
theorem dX5_clear_1 : decode cX5_clear 1 = .ok (.getfield 41, 3) := by decide +kernel
theorem dX5_clear_4 : decode cX5_clear 4 = .ok (.iconst 0, 1) := by decide +kernel
theorem dX5_clear_5 : decode cX5_clear 5 = .ok (.invokevirtual 44, 3) := by decide +kernel
theorem dX5_clear_8 : decode cX5_clear 8 = .ok (.aload_n 0, 1) := by decide +kernel
theorem dX5_clear_9 : decode cX5_clear 9 = .ok (.iconst 0, 1) := by decide +kernel
theorem dX5_clear_10 : decode cX5_clear 10 = .ok (.putfield 47, 3) := by decide +kernel
theorem dX5_clear_13 : decode cX5_clear 13 = .ok (.aload_n 0, 1) := by decide +kernel
theorem dX5_clear_14 : decode cX5_clear 14 = .ok (.iconst 0, 1) := by decide +kernel
theorem dX5_clear_15 : decode cX5_clear 15 = .ok (.putfield 51, 3) := by decide +kernel
theorem dX5_clear_18 : decode cX5_clear 18 = .ok (.aload_n 0, 1) := by decide +kernel
theorem dX5_clear_19 : decode cX5_clear 19 = .ok (.iconst 0, 1) := by decide +kernel
theorem dX5_clear_20 : decode cX5_clear 20 = .ok (.putfield 54, 3) := by decide +kernel
theorem dX5_clear_23 : decode cX5_clear 23 = .ok (.aload_n 0, 1) := by decide +kernel
theorem dX5_clear_24 : decode cX5_clear 24 = .ok (.iconst 0, 1) := by decide +kernel
theorem dX5_clear_25 : decode cX5_clear 25 = .ok (.putfield 57, 3) := by decide +kernel
theorem dX5_clear_28 : decode cX5_clear 28 = .ok (.return_, 1) := by decide +kernel
theorem dX5_copy_0 : decode cX5_copy 0 = .ok (.aload_n 0, 1) := by decide +kernel
theorem dX5_copy_1 : decode cX5_copy 1 = .ok (.getfield 14, 3) := by decide +kernel
theorem dX5_copy_4 : decode cX5_copy 4 = .ok (.aload_n 1, 1) := by decide +kernel
theorem dX5_copy_5 : decode cX5_copy 5 = .ok (.getfield 14, 3) := by decide +kernel
theorem dX5_copy_8 : decode cX5_copy 8 = .ok (.invokevirtual 60, 3) := by decide +kernel
theorem dX5_copy_11 : decode cX5_copy 11 = .ok (.aload_n 0, 1) := by decide +kernel
theorem dX5_copy_12 : decode cX5_copy 12 = .ok (.getfield 20, 3) := by decide +kernel
theorem dX5_copy_15 : decode cX5_copy 15 = .ok (.aload_n 1, 1) := by decide +kernel
theorem dX5_copy_16 : decode cX5_copy 16 = .ok (.getfield 20, 3) := by decide +kernel
theorem dX5_copy_19 : decode cX5_copy 19 = .ok (.invokevirtual 60, 3) := by decide +kernel
theorem dX5_copy_22 : decode cX5_copy 22 = .ok (.aload_n 0, 1) := by decide +kernel
theorem dX5_copy_23 : decode cX5_copy 23 = .ok (.getfield 23, 3) := by decide +kernel
theorem dX5_copy_26 : decode cX5_copy 26 = .ok (.aload_n 1, 1) := by decide +kernel
theorem dX5_copy_27 : decode cX5_copy 27 = .ok (.getfield 23, 3) := by decide +kernel
theorem dX5_copy_30 : decode cX5_copy 30 = .ok (.invokevirtual 60, 3) := by decide +kernel
theorem dX5_copy_33 : decode cX5_copy 33 = .ok (.aload_n 0, 1) := by decide +kernel
theorem dX5_copy_34 : decode cX5_copy 34 = .ok (.getfield 26, 3) := by decide +kernel
theorem dX5_copy_37 : decode cX5_copy 37 = .ok (.aload_n 1, 1) := by decide +kernel
theorem dX5_copy_38 : decode cX5_copy 38 = .ok (.getfield 26, 3) := by decide +kernel
theorem dX5_copy_41 : decode cX5_copy 41 = .ok (.invokevirtual 60, 3) := by decide +kernel
theorem dX5_copy_44 : decode cX5_copy 44 = .ok (.aload_n 0, 1) := by decide +kernel
theorem dX5_copy_45 : decode cX5_copy 45 = .ok (.getfield 29, 3) := by decide +kernel
theorem dX5_copy_48 : decode cX5_copy 48 = .ok (.aload_n 1, 1) := by decide +kernel
theorem dX5_copy_49 : decode cX5_copy 49 = .ok (.getfield 29, 3) := by decide +kernel
theorem dX5_copy_52 : decode cX5_copy 52 = .ok (.invokevirtual 60, 3) := by decide +kernel
theorem dX5_copy_55 : decode cX5_copy 55 = .ok (.aload_n 0, 1) := by decide +kernel
theorem dX5_copy_56 : decode cX5_copy 56 = .ok (.getfield 32, 3) := by decide +kernel
theorem dX5_copy_59 : decode cX5_copy 59 = .ok (.aload_n 1, 1) := by decide +kernel
theorem dX5_copy_60 : decode cX5_copy 60 = .ok (.getfield 32, 3) := by decide +kernel
theorem dX5_copy_63 : decode cX5_copy 63 = .ok (.invokevirtual 60, 3) := by decide +kernel
theorem dX5_copy_66 : decode cX5_copy 66 = .ok (.aload_n 0, 1) := by decide +kernel
theorem dX5_copy_67 : decode cX5_copy 67 = .ok (.getfield 35, 3) := by decide +kernel
theorem dX5_copy_70 : decode cX5_copy 70 = .ok (.aload_n 1, 1) := by decide +kernel
theorem dX5_copy_71 : decode cX5_copy 71 = .ok (.getfield 35, 3) := by decide +kernel
theorem dX5_copy_74 : decode cX5_copy 74 = .ok (.invokevirtual 60, 3) := by decide +kernel
theorem dX5_copy_77 : decode cX5_copy 77 = .ok (.aload_n 0, 1) := by decide +kernel
theorem dX5_copy_78 : decode cX5_copy 78 = .ok (.getfield 38, 3) := by decide +kernel
theorem dX5_copy_81 : decode cX5_copy 81 = .ok (.aload_n 1, 1) := by decide +kernel
theorem dX5_copy_82 : decode cX5_copy 82 = .ok (.getfield 38, 3) := by decide +kernel
theorem dX5_copy_85 : decode cX5_copy 85 = .ok (.invokevirtual 60, 3) := by decide +kernel
theorem dX5_copy_88 : decode cX5_copy 88 = .ok (.aload_n 0, 1) := by decide +kernel
theorem dX5_copy_89 : decode cX5_copy 89 = .ok (.getfield 41, 3) := by decide +kernel
theorem dX5_copy_92 : decode cX5_copy 92 = .ok (.aload_n 1, 1) := by decide +kernel
theorem dX5_copy_93 : decode cX5_copy 93 = .ok (.getfield 41, 3) := by decide +kernel
theorem dX5_copy_96 : decode cX5_copy 96 = .ok (.invokevirtual 60, 3) := by decide +kernel
theorem dX5_copy_99 : decode cX5_copy 99 = .ok (.aload_n 0, 1) := by decide +kernel
theorem dX5_copy_100 : decode cX5_copy 100 = .ok (.aload_n 1, 1) := by decide +kernel
theorem dX5_copy_101 : decode cX5_copy 101 = .ok (.getfield 47, 3) := by decide +kernel
theorem dX5_copy_104 : decode cX5_copy 104 = .ok (.putfield 47, 3) := by decide +kernel
theorem dX5_copy_107 : decode cX5_copy 107 = .ok (.aload_n 0, 1) := by decide +kernel
theorem dX5_copy_108 : decode cX5_copy 108 = .ok (.aload_n 1, 1) := by decide +kernel
theorem dX5_copy_109 : decode cX5_copy 109 = .ok (.getfield 51, 3) := by decide +kernel
theorem dX5_copy_112 : decode cX5_copy 112 = .ok (.putfield 51, 3) := by decide +kernel
theorem dX5_copy_115 : decode cX5_copy 115 = .ok (.aload_n 0, 1) := by decide +kernel
theorem dX5_copy_116 : decode cX5_copy 116 = .ok (.aload_n 1, 1) := by decide +kernel
theorem dX5_copy_117 : decode cX5_copy 117 = .ok (.getfield 54, 3) := by decide +kernel
theorem dX5_copy_120 : decode cX5_copy 120 = .ok (.putfield 54, 3) := by decide +kernel
theorem dX5_copy_123 : decode cX5_copy 123 = .ok (.aload_n 0, 1) := by decide +kernel
theorem dX5_copy_124 : decode cX5_copy 124 = .ok (.aload_n 1, 1) := by decide +kernel
theorem dX5_copy_125 : decode cX5_copy 125 = .ok (.getfield 57, 3) := by decide +kernel
theorem dX5_copy_128 : decode cX5_copy 128 = .ok (.putfield 57, 3) := by decide +kernel
theorem dX5_copy_131 : decode cX5_copy 131 = .ok (.return_, 1) := by decide +kernel
theorem dX5_hasDog_0 : decode cX5_hasDog 0 = .ok (.aload_n 0, 1) := by decide +kernel
theorem dX5_hasDog_1 : decode cX5_hasDog 1 = .ok (.getfield 57, 3) := by decide +kernel
theorem dX5_hasDog_4 : decode cX5_hasDog 4 = .ok (.ifCond .le 18, 3) := by decide +kernel
theorem dX5_hasDog_7 : decode cX5_hasDog 7 = .ok (.iload_n 1, 1) := by decide +kernel
theorem dX5_hasDog_8 : decode cX5_hasDog 8 = .ok (.aload_n 0, 1) := by decide +kernel
theorem dX5_hasDog_9 : decode cX5_hasDog 9 = .ok (.getfield 57, 3) := by decide +kernel
theorem dX5_hasDog_12 : decode cX5_hasDog 12 = .ok (.invokestatic 64, 3) := by decide +kernel
theorem dX5_hasDog_15 : decode cX5_hasDog 15 = .ok (.ifCond .ne 7, 3) := by decide +kernel
theorem dX5_hasDog_18 : decode cX5_hasDog 18 = .ok (.iconst 1, 1) := by decide +kernel
theorem dX5_hasDog_19 : decode cX5_hasDog 19 = .ok (.goto 4, 3) := by decide +kernel
theorem dX5_hasDog_22 : decode cX5_hasDog 22 = .ok (.iconst 0, 1) := by decide +kernel
theorem dX5_hasDog_23 : decode cX5_hasDog 23 = .ok (.ireturn, 1) := by decide +kernel
theorem dX5_isDue_0 : decode cX5_isDue 0 = .ok (.aload_n 0, 1) := by decide +kernel
theorem dX5_isDue_1 : decode cX5_isDue 1 = .ok (.getfield 23, 3) := by decide +kernel
theorem dX5_isDue_4 : decode cX5_isDue 4 = .ok (.iload_n 1, 1) := by decide +kernel
theorem dX5_isDue_5 : decode cX5_isDue 5 = .ok (.invokevirtual 68, 3) := by decide +kernel
theorem dX5_isDue_8 : decode cX5_isDue 8 = .ok (.istore_n 3, 1) := by decide +kernel
theorem dX5_isDue_9 : decode cX5_isDue 9 = .ok (.iload_n 2, 1) := by decide +kernel
theorem dX5_isDue_10 : decode cX5_isDue 10 = .ok (.iload_n 3, 1) := by decide +kernel
theorem dX5_isDue_11 : decode cX5_isDue 11 = .ok (.invokestatic 64, 3) := by decide +kernel
theorem dX5_isDue_14 : decode cX5_isDue 14 = .ok (.aload_n 0, 1) := by decide +kernel
theorem dX5_isDue_15 : decode cX5_isDue 15 = .ok (.getfield 26, 3) := by decide +kernel
theorem dX5_isDue_18 : decode cX5_isDue 18 = .ok (.iload_n 1, 1) := by decide +kernel
theorem dX5_isDue_19 : decode cX5_isDue 19 = .ok (.invokevirtual 68, 3) := by decide +kernel
theorem dX5_isDue_22 : decode cX5_isDue 22 = .ok (.iload_n 3, 1) := by decide +kernel
theorem dX5_isDue_23 : decode cX5_isDue 23 = .ok (.invokestatic 64, 3) := by decide +kernel
theorem dX5_isDue_26 : decode cX5_isDue 26 = .ok (.if_icmp .ne 7, 3) := by decide +kernel
theorem dX5_isDue_29 : decode cX5_isDue 29 = .ok (.iconst 1, 1) := by decide +kernel
theorem dX5_isDue_30 : decode cX5_isDue 30 = .ok (.goto 4, 3) := by decide +kernel
theorem dX5_isDue_33 : decode cX5_isDue 33 = .ok (.iconst 0, 1) := by decide +kernel
theorem dX5_isDue_34 : decode cX5_isDue 34 = .ok (.ireturn, 1) := by decide +kernel
theorem dX5_comes_0 : decode cX5_comes 0 = .ok (.aload_n 0, 1) := by decide +kernel
theorem dX5_comes_1 : decode cX5_comes 1 = .ok (.getfield 29, 3) := by decide +kernel
theorem dX5_comes_4 : decode cX5_comes 4 = .ok (.iload_n 1, 1) := by decide +kernel
theorem dX5_comes_5 : decode cX5_comes 5 = .ok (.invokevirtual 68, 3) := by decide +kernel
theorem dX5_comes_8 : decode cX5_comes 8 = .ok (.iload_n 2, 1) := by decide +kernel
theorem dX5_comes_9 : decode cX5_comes 9 = .ok (.bipush 14, 2) := by decide +kernel
theorem dX5_comes_11 : decode cX5_comes 11 = .ok (.invokestatic 64, 3) := by decide +kernel
theorem dX5_comes_14 : decode cX5_comes 14 = .ok (.if_icmp .ne 7, 3) := by decide +kernel
theorem dX5_comes_17 : decode cX5_comes 17 = .ok (.iconst 1, 1) := by decide +kernel
theorem dX5_comes_18 : decode cX5_comes 18 = .ok (.goto 4, 3) := by decide +kernel
theorem dX5_comes_21 : decode cX5_comes 21 = .ok (.iconst 0, 1) := by decide +kernel
theorem dX5_comes_22 : decode cX5_comes 22 = .ok (.ireturn, 1) := by decide +kernel
theorem dX5_addServer_0 : decode cX5_addServer 0 = .ok (.aload_n 0, 1) := by decide +kernel
theorem dX5_addServer_1 : decode cX5_addServer 1 = .ok (.getfield 41, 3) := by decide +kernel
theorem dX5_addServer_4 : decode cX5_addServer 4 = .ok (.iload_n 2, 1) := by decide +kernel
theorem dX5_addServer_5 : decode cX5_addServer 5 = .ok (.aload_n 0, 1) := by decide +kernel
theorem dX5_addServer_6 : decode cX5_addServer 6 = .ok (.getfield 41, 3) := by decide +kernel
theorem dX5_addServer_9 : decode cX5_addServer 9 = .ok (.iload_n 2, 1) := by decide +kernel
theorem dX5_addServer_10 : decode cX5_addServer 10 = .ok (.invokevirtual 68, 3) := by decide +kernel
theorem dX5_addServer_13 : decode cX5_addServer 13 = .ok (.iconst 1, 1) := by decide +kernel
theorem dX5_addServer_14 : decode cX5_addServer 14 = .ok (.iload_n 1, 1) := by decide +kernel
theorem dX5_addServer_15 : decode cX5_addServer 15 = .ok (.ishl, 1) := by decide +kernel
theorem dX5_addServer_16 : decode cX5_addServer 16 = .ok (.ior, 1) := by decide +kernel
theorem dX5_addServer_17 : decode cX5_addServer 17 = .ok (.invokevirtual 72, 3) := by decide +kernel
theorem dX5_addServer_20 : decode cX5_addServer 20 = .ok (.return_, 1) := by decide +kernel
theorem dX5_rouses_0 : decode cX5_rouses 0 = .ok (.aload_n 0, 1) := by decide +kernel
theorem dX5_rouses_1 : decode cX5_rouses 1 = .ok (.getfield 35, 3) := by decide +kernel
theorem dX5_rouses_4 : decode cX5_rouses 4 = .ok (.iload_n 1, 1) := by decide +kernel
theorem dX5_rouses_5 : decode cX5_rouses 5 = .ok (.invokevirtual 68, 3) := by decide +kernel
theorem dX5_rouses_8 : decode cX5_rouses 8 = .ok (.aload_n 0, 1) := by decide +kernel
theorem dX5_rouses_9 : decode cX5_rouses 9 = .ok (.getfield 38, 3) := by decide +kernel
theorem dX5_rouses_12 : decode cX5_rouses 12 = .ok (.iload_n 1, 1) := by decide +kernel
theorem dX5_rouses_13 : decode cX5_rouses 13 = .ok (.invokevirtual 68, 3) := by decide +kernel
theorem dX5_rouses_16 : decode cX5_rouses 16 = .ok (.aload_n 0, 1) := by decide +kernel
theorem dX5_rouses_17 : decode cX5_rouses 17 = .ok (.getfield 14, 3) := by decide +kernel
theorem dX5_rouses_20 : decode cX5_rouses 20 = .ok (.iload_n 2, 1) := by decide +kernel
theorem dX5_rouses_21 : decode cX5_rouses 21 = .ok (.invokevirtual 68, 3) := by decide +kernel
theorem dX5_rouses_24 : decode cX5_rouses 24 = .ok (.invokestatic 76, 3) := by decide +kernel
theorem dX5_rouses_27 : decode cX5_rouses 27 = .ok (.ireturn, 1) := by decide +kernel
theorem dX6_init_0 : decode cX6_init 0 = .ok (.aload_n 0, 1) := by decide +kernel
theorem dX6_init_1 : decode cX6_init 1 = .ok (.invokespecial 3, 3) := by decide +kernel
theorem dX6_init_4 : decode cX6_init 4 = .ok (.aload_n 0, 1) := by decide +kernel
theorem dX6_init_5 : decode cX6_init 5 = .ok (.new 9, 3) := by decide +kernel
theorem dX6_init_8 : decode cX6_init 8 = .ok (.dup, 1) := by decide +kernel
theorem dX6_init_9 : decode cX6_init 9 = .ok (.bipush 8, 2) := by decide +kernel
theorem dX6_init_11 : decode cX6_init 11 = .ok (.invokespecial 11, 3) := by decide +kernel
theorem dX6_init_14 : decode cX6_init 14 = .ok (.putfield 14, 3) := by decide +kernel
theorem dX6_init_17 : decode cX6_init 17 = .ok (.aload_n 0, 1) := by decide +kernel
theorem dX6_init_18 : decode cX6_init 18 = .ok (.new 9, 3) := by decide +kernel
theorem dX6_init_21 : decode cX6_init 21 = .ok (.dup, 1) := by decide +kernel
theorem dX6_init_22 : decode cX6_init 22 = .ok (.bipush 8, 2) := by decide +kernel
theorem dX6_init_24 : decode cX6_init 24 = .ok (.invokespecial 11, 3) := by decide +kernel
theorem dX6_init_27 : decode cX6_init 27 = .ok (.putfield 20, 3) := by decide +kernel
theorem dX6_init_30 : decode cX6_init 30 = .ok (.aload_n 0, 1) := by decide +kernel
theorem dX6_init_31 : decode cX6_init 31 = .ok (.new 9, 3) := by decide +kernel
theorem dX6_init_34 : decode cX6_init 34 = .ok (.dup, 1) := by decide +kernel
theorem dX6_init_35 : decode cX6_init 35 = .ok (.bipush 8, 2) := by decide +kernel
theorem dX6_init_37 : decode cX6_init 37 = .ok (.invokespecial 11, 3) := by decide +kernel
theorem dX6_init_40 : decode cX6_init 40 = .ok (.putfield 23, 3) := by decide +kernel
theorem dX6_init_43 : decode cX6_init 43 = .ok (.return_, 1) := by decide +kernel
theorem dX6_clear_0 : decode cX6_clear 0 = .ok (.aload_n 0, 1) := by decide +kernel
theorem dX6_clear_1 : decode cX6_clear 1 = .ok (.iconst 0, 1) := by decide +kernel
theorem dX6_clear_2 : decode cX6_clear 2 = .ok (.putfield 26, 3) := by decide +kernel
theorem dX6_clear_5 : decode cX6_clear 5 = .ok (.return_, 1) := by decide +kernel
theorem dX6_add_0 : decode cX6_add 0 = .ok (.aload_n 0, 1) := by decide +kernel
theorem dX6_add_1 : decode cX6_add 1 = .ok (.getfield 14, 3) := by decide +kernel
theorem dX6_add_4 : decode cX6_add 4 = .ok (.aload_n 0, 1) := by decide +kernel
theorem dX6_add_5 : decode cX6_add 5 = .ok (.getfield 26, 3) := by decide +kernel
theorem dX6_add_8 : decode cX6_add 8 = .ok (.iload_n 1, 1) := by decide +kernel
theorem dX6_add_9 : decode cX6_add 9 = .ok (.invokevirtual 30, 3) := by decide +kernel
theorem dX6_add_12 : decode cX6_add 12 = .ok (.aload_n 0, 1) := by decide +kernel
theorem dX6_add_13 : decode cX6_add 13 = .ok (.getfield 20, 3) := by decide +kernel
theorem dX6_add_16 : decode cX6_add 16 = .ok (.aload_n 0, 1) := by decide +kernel
theorem dX6_add_17 : decode cX6_add 17 = .ok (.getfield 26, 3) := by decide +kernel
theorem dX6_add_20 : decode cX6_add 20 = .ok (.iload_n 2, 1) := by decide +kernel
theorem dX6_add_21 : decode cX6_add 21 = .ok (.invokevirtual 30, 3) := by decide +kernel
theorem dX6_add_24 : decode cX6_add 24 = .ok (.aload_n 0, 1) := by decide +kernel
theorem dX6_add_25 : decode cX6_add 25 = .ok (.getfield 23, 3) := by decide +kernel
theorem dX6_add_28 : decode cX6_add 28 = .ok (.aload_n 0, 1) := by decide +kernel
theorem dX6_add_29 : decode cX6_add 29 = .ok (.getfield 26, 3) := by decide +kernel
theorem dX6_add_32 : decode cX6_add 32 = .ok (.iload_n 3, 1) := by decide +kernel
theorem dX6_add_33 : decode cX6_add 33 = .ok (.ifCond .eq 7, 3) := by decide +kernel
theorem dX6_add_36 : decode cX6_add 36 = .ok (.iconst 1, 1) := by decide +kernel
theorem dX6_add_37 : decode cX6_add 37 = .ok (.goto 4, 3) := by decide +kernel
theorem dX6_add_40 : decode cX6_add 40 = .ok (.iconst 0, 1) := by decide +kernel
theorem dX6_add_41 : decode cX6_add 41 = .ok (.invokevirtual 30, 3) := by decide +kernel
theorem dX6_add_44 : decode cX6_add 44 = .ok (.aload_n 0, 1) := by decide +kernel
theorem dX6_add_45 : decode cX6_add 45 = .ok (.dup, 1) := by decide +kernel
theorem dX6_add_46 : decode cX6_add 46 = .ok (.getfield 26, 3) := by decide +kernel
theorem dX6_add_49 : decode cX6_add 49 = .ok (.iconst 1, 1) := by decide +kernel
theorem dX6_add_50 : decode cX6_add 50 = .ok (.iadd, 1) := by decide +kernel
theorem dX6_add_51 : decode cX6_add 51 = .ok (.putfield 26, 3) := by decide +kernel
theorem dX6_add_54 : decode cX6_add 54 = .ok (.return_, 1) := by decide +kernel
theorem dX6_allow_0 : decode cX6_allow 0 = .ok (.iconst 0, 1) := by decide +kernel
theorem dX6_allow_1 : decode cX6_allow 1 = .ok (.istore 4, 2) := by decide +kernel
theorem dX6_allow_3 : decode cX6_allow 3 = .ok (.iload 4, 2) := by decide +kernel
theorem dX6_allow_5 : decode cX6_allow 5 = .ok (.aload_n 0, 1) := by decide +kernel
theorem dX6_allow_6 : decode cX6_allow 6 = .ok (.getfield 26, 3) := by decide +kernel
theorem dX6_allow_9 : decode cX6_allow 9 = .ok (.if_icmp .ge 71, 3) := by decide +kernel
theorem dX6_allow_12 : decode cX6_allow 12 = .ok (.aload_n 0, 1) := by decide +kernel
theorem dX6_allow_13 : decode cX6_allow 13 = .ok (.getfield 20, 3) := by decide +kernel
theorem dX6_allow_16 : decode cX6_allow 16 = .ok (.iload 4, 2) := by decide +kernel
theorem dX6_allow_18 : decode cX6_allow 18 = .ok (.invokevirtual 34, 3) := by decide +kernel
theorem dX6_allow_21 : decode cX6_allow 21 = .ok (.iload_n 2, 1) := by decide +kernel
theorem dX6_allow_22 : decode cX6_allow 22 = .ok (.invokestatic 38, 3) := by decide +kernel
theorem dX6_allow_25 : decode cX6_allow 25 = .ok (.iload_n 3, 1) := by decide +kernel
theorem dX6_allow_26 : decode cX6_allow 26 = .ok (.if_icmp .ne 7, 3) := by decide +kernel
theorem dX6_allow_29 : decode cX6_allow 29 = .ok (.iconst 1, 1) := by decide +kernel
theorem dX6_allow_30 : decode cX6_allow 30 = .ok (.goto 4, 3) := by decide +kernel
theorem dX6_allow_33 : decode cX6_allow 33 = .ok (.iconst 0, 1) := by decide +kernel
theorem dX6_allow_34 : decode cX6_allow 34 = .ok (.istore 5, 2) := by decide +kernel
theorem dX6_allow_36 : decode cX6_allow 36 = .ok (.aload_n 0, 1) := by decide +kernel
theorem dX6_allow_37 : decode cX6_allow 37 = .ok (.getfield 14, 3) := by decide +kernel
theorem dX6_allow_40 : decode cX6_allow 40 = .ok (.iload 4, 2) := by decide +kernel
theorem dX6_allow_42 : decode cX6_allow 42 = .ok (.invokevirtual 34, 3) := by decide +kernel
theorem dX6_allow_45 : decode cX6_allow 45 = .ok (.iload_n 1, 1) := by decide +kernel
theorem dX6_allow_46 : decode cX6_allow 46 = .ok (.if_icmp .ne 28, 3) := by decide +kernel
theorem dX6_allow_49 : decode cX6_allow 49 = .ok (.iload 5, 2) := by decide +kernel
theorem dX6_allow_51 : decode cX6_allow 51 = .ok (.aload_n 0, 1) := by decide +kernel
theorem dX6_allow_52 : decode cX6_allow 52 = .ok (.getfield 23, 3) := by decide +kernel
theorem dX6_allow_55 : decode cX6_allow 55 = .ok (.iload 4, 2) := by decide +kernel
theorem dX6_allow_57 : decode cX6_allow 57 = .ok (.invokevirtual 34, 3) := by decide +kernel
theorem dX6_allow_60 : decode cX6_allow 60 = .ok (.iconst 1, 1) := by decide +kernel
theorem dX6_allow_61 : decode cX6_allow 61 = .ok (.if_icmp .ne 7, 3) := by decide +kernel
theorem dX6_allow_64 : decode cX6_allow 64 = .ok (.iconst 1, 1) := by decide +kernel
theorem dX6_allow_65 : decode cX6_allow 65 = .ok (.goto 4, 3) := by decide +kernel
theorem dX6_allow_68 : decode cX6_allow 68 = .ok (.iconst 0, 1) := by decide +kernel
theorem dX6_allow_69 : decode cX6_allow 69 = .ok (.if_icmp .eq 5, 3) := by decide +kernel
theorem dX6_allow_72 : decode cX6_allow 72 = .ok (.iconst 0, 1) := by decide +kernel
theorem dX6_allow_73 : decode cX6_allow 73 = .ok (.ireturn, 1) := by decide +kernel
theorem dX6_allow_74 : decode cX6_allow 74 = .ok (.iinc 4 1, 3) := by decide +kernel
theorem dX6_allow_77 : decode cX6_allow 77 = .ok (.goto (-74), 3) := by decide +kernel
theorem dX6_allow_80 : decode cX6_allow 80 = .ok (.iconst 1, 1) := by decide +kernel
theorem dX6_allow_81 : decode cX6_allow 81 = .ok (.ireturn, 1) := by decide +kernel
theorem dX7_init_0 : decode cX7_init 0 = .ok (.aload_n 0, 1) := by decide +kernel
theorem dX7_init_1 : decode cX7_init 1 = .ok (.invokespecial 3, 3) := by decide +kernel
theorem dX7_init_4 : decode cX7_init 4 = .ok (.aload_n 0, 1) := by decide +kernel
theorem dX7_init_5 : decode cX7_init 5 = .ok (.new 9, 3) := by decide +kernel
theorem dX7_init_8 : decode cX7_init 8 = .ok (.dup, 1) := by decide +kernel
theorem dX7_init_9 : decode cX7_init 9 = .ok (.bipush 6, 2) := by decide +kernel
theorem dX7_init_11 : decode cX7_init 11 = .ok (.invokespecial 11, 3) := by decide +kernel
theorem dX7_init_14 : decode cX7_init 14 = .ok (.putfield 14, 3) := by decide +kernel
theorem dX7_init_17 : decode cX7_init 17 = .ok (.return_, 1) := by decide +kernel
theorem dX7_begin_0 : decode cX7_begin 0 = .ok (.aload_n 0, 1) := by decide +kernel
theorem dX7_begin_1 : decode cX7_begin 1 = .ok (.iconst 0, 1) := by decide +kernel
theorem dX7_begin_2 : decode cX7_begin 2 = .ok (.putfield 20, 3) := by decide +kernel
theorem dX7_begin_5 : decode cX7_begin 5 = .ok (.aload_n 0, 1) := by decide +kernel
theorem dX7_begin_6 : decode cX7_begin 6 = .ok (.iconst 0, 1) := by decide +kernel
theorem dX7_begin_7 : decode cX7_begin 7 = .ok (.putfield 24, 3) := by decide +kernel
theorem dX7_begin_10 : decode cX7_begin 10 = .ok (.aload_n 0, 1) := by decide +kernel
theorem dX7_begin_11 : decode cX7_begin 11 = .ok (.iconst 0, 1) := by decide +kernel
theorem dX7_begin_12 : decode cX7_begin 12 = .ok (.putfield 27, 3) := by decide +kernel
theorem dX7_begin_15 : decode cX7_begin 15 = .ok (.aload_n 0, 1) := by decide +kernel
theorem dX7_begin_16 : decode cX7_begin 16 = .ok (.iconst 0, 1) := by decide +kernel
theorem dX7_begin_17 : decode cX7_begin 17 = .ok (.putfield 30, 3) := by decide +kernel
theorem dX7_begin_20 : decode cX7_begin 20 = .ok (.aload_n 0, 1) := by decide +kernel
theorem dX7_begin_21 : decode cX7_begin 21 = .ok (.iload_n 1, 1) := by decide +kernel
theorem dX7_begin_22 : decode cX7_begin 22 = .ok (.putfield 33, 3) := by decide +kernel
theorem dX7_begin_25 : decode cX7_begin 25 = .ok (.aload_n 0, 1) := by decide +kernel
theorem dX7_begin_26 : decode cX7_begin 26 = .ok (.iconst 0, 1) := by decide +kernel
theorem dX7_begin_27 : decode cX7_begin 27 = .ok (.putfield 36, 3) := by decide +kernel
theorem dX7_begin_30 : decode cX7_begin 30 = .ok (.aload_n 0, 1) := by decide +kernel
theorem dX7_begin_31 : decode cX7_begin 31 = .ok (.getfield 14, 3) := by decide +kernel
theorem dX7_begin_34 : decode cX7_begin 34 = .ok (.iconst 0, 1) := by decide +kernel
theorem dX7_begin_35 : decode cX7_begin 35 = .ok (.invokevirtual 39, 3) := by decide +kernel
theorem dX7_begin_38 : decode cX7_begin 38 = .ok (.return_, 1) := by decide +kernel
theorem dX7_copy_0 : decode cX7_copy 0 = .ok (.aload_n 0, 1) := by decide +kernel
theorem dX7_copy_1 : decode cX7_copy 1 = .ok (.aload_n 1, 1) := by decide +kernel
theorem dX7_copy_2 : decode cX7_copy 2 = .ok (.getfield 20, 3) := by decide +kernel
theorem dX7_copy_5 : decode cX7_copy 5 = .ok (.putfield 20, 3) := by decide +kernel
theorem dX7_copy_8 : decode cX7_copy 8 = .ok (.aload_n 0, 1) := by decide +kernel
theorem dX7_copy_9 : decode cX7_copy 9 = .ok (.aload_n 1, 1) := by decide +kernel
theorem dX7_copy_10 : decode cX7_copy 10 = .ok (.getfield 24, 3) := by decide +kernel
theorem dX7_copy_13 : decode cX7_copy 13 = .ok (.putfield 24, 3) := by decide +kernel
theorem dX7_copy_16 : decode cX7_copy 16 = .ok (.aload_n 0, 1) := by decide +kernel
theorem dX7_copy_17 : decode cX7_copy 17 = .ok (.aload_n 1, 1) := by decide +kernel
theorem dX7_copy_18 : decode cX7_copy 18 = .ok (.getfield 27, 3) := by decide +kernel
theorem dX7_copy_21 : decode cX7_copy 21 = .ok (.putfield 27, 3) := by decide +kernel
theorem dX7_copy_24 : decode cX7_copy 24 = .ok (.aload_n 0, 1) := by decide +kernel
theorem dX7_copy_25 : decode cX7_copy 25 = .ok (.aload_n 1, 1) := by decide +kernel
theorem dX7_copy_26 : decode cX7_copy 26 = .ok (.getfield 30, 3) := by decide +kernel
theorem dX7_copy_29 : decode cX7_copy 29 = .ok (.putfield 30, 3) := by decide +kernel
theorem dX7_copy_32 : decode cX7_copy 32 = .ok (.aload_n 0, 1) := by decide +kernel
theorem dX7_copy_33 : decode cX7_copy 33 = .ok (.aload_n 1, 1) := by decide +kernel
theorem dX7_copy_34 : decode cX7_copy 34 = .ok (.getfield 33, 3) := by decide +kernel
theorem dX7_copy_37 : decode cX7_copy 37 = .ok (.putfield 33, 3) := by decide +kernel
theorem dX7_copy_40 : decode cX7_copy 40 = .ok (.aload_n 0, 1) := by decide +kernel
theorem dX7_copy_41 : decode cX7_copy 41 = .ok (.aload_n 1, 1) := by decide +kernel
theorem dX7_copy_42 : decode cX7_copy 42 = .ok (.getfield 36, 3) := by decide +kernel
theorem dX7_copy_45 : decode cX7_copy 45 = .ok (.putfield 36, 3) := by decide +kernel
theorem dX7_copy_48 : decode cX7_copy 48 = .ok (.aload_n 0, 1) := by decide +kernel
theorem dX7_copy_49 : decode cX7_copy 49 = .ok (.getfield 14, 3) := by decide +kernel
theorem dX7_copy_52 : decode cX7_copy 52 = .ok (.aload_n 1, 1) := by decide +kernel
theorem dX7_copy_53 : decode cX7_copy 53 = .ok (.getfield 14, 3) := by decide +kernel
theorem dX7_copy_56 : decode cX7_copy 56 = .ok (.invokevirtual 42, 3) := by decide +kernel
theorem dX7_copy_59 : decode cX7_copy 59 = .ok (.return_, 1) := by decide +kernel
theorem dX8_init_0 : decode cX8_init 0 = .ok (.aload_n 0, 1) := by decide +kernel
theorem dX8_init_1 : decode cX8_init 1 = .ok (.invokespecial 3, 3) := by decide +kernel
theorem dX8_init_4 : decode cX8_init 4 = .ok (.aload_n 0, 1) := by decide +kernel
theorem dX8_init_5 : decode cX8_init 5 = .ok (.sipush 200, 3) := by decide +kernel
theorem dX8_init_8 : decode cX8_init 8 = .ok (.newarray .int, 2) := by decide +kernel
theorem dX8_init_10 : decode cX8_init 10 = .ok (.putfield 9, 3) := by decide +kernel
theorem dX8_init_13 : decode cX8_init 13 = .ok (.return_, 1) := by decide +kernel
theorem dX8_clear_0 : decode cX8_clear 0 = .ok (.aload_n 0, 1) := by decide +kernel
theorem dX8_clear_1 : decode cX8_clear 1 = .ok (.iconst 0, 1) := by decide +kernel
theorem dX8_clear_2 : decode cX8_clear 2 = .ok (.putfield 15, 3) := by decide +kernel
theorem dX8_clear_5 : decode cX8_clear 5 = .ok (.return_, 1) := by decide +kernel
theorem dX8_add_0 : decode cX8_add 0 = .ok (.aload_n 0, 1) := by decide +kernel
theorem dX8_add_1 : decode cX8_add 1 = .ok (.getfield 15, 3) := by decide +kernel
theorem dX8_add_4 : decode cX8_add 4 = .ok (.ifCond .lt 35, 3) := by decide +kernel
theorem dX8_add_7 : decode cX8_add 7 = .ok (.aload_n 0, 1) := by decide +kernel
theorem dX8_add_8 : decode cX8_add 8 = .ok (.getfield 15, 3) := by decide +kernel
theorem dX8_add_11 : decode cX8_add 11 = .ok (.aload_n 0, 1) := by decide +kernel
theorem dX8_add_12 : decode cX8_add 12 = .ok (.getfield 9, 3) := by decide +kernel
theorem dX8_add_15 : decode cX8_add 15 = .ok (.arraylength, 1) := by decide +kernel
theorem dX8_add_16 : decode cX8_add 16 = .ok (.if_icmp .ge 23, 3) := by decide +kernel
theorem dX8_add_19 : decode cX8_add 19 = .ok (.aload_n 0, 1) := by decide +kernel
theorem dX8_add_20 : decode cX8_add 20 = .ok (.getfield 9, 3) := by decide +kernel
theorem dX8_add_23 : decode cX8_add 23 = .ok (.aload_n 0, 1) := by decide +kernel
theorem dX8_add_24 : decode cX8_add 24 = .ok (.getfield 15, 3) := by decide +kernel
theorem dX8_add_27 : decode cX8_add 27 = .ok (.iload_n 1, 1) := by decide +kernel
theorem dX8_add_28 : decode cX8_add 28 = .ok (.iastore, 1) := by decide +kernel
theorem dX8_add_29 : decode cX8_add 29 = .ok (.aload_n 0, 1) := by decide +kernel
theorem dX8_add_30 : decode cX8_add 30 = .ok (.dup, 1) := by decide +kernel
theorem dX8_add_31 : decode cX8_add 31 = .ok (.getfield 15, 3) := by decide +kernel
theorem dX8_add_34 : decode cX8_add 34 = .ok (.iconst 1, 1) := by decide +kernel
theorem dX8_add_35 : decode cX8_add 35 = .ok (.iadd, 1) := by decide +kernel
theorem dX8_add_36 : decode cX8_add 36 = .ok (.putfield 15, 3) := by decide +kernel
theorem dX8_add_39 : decode cX8_add 39 = .ok (.return_, 1) := by decide +kernel
theorem dX8_letter_0 : decode cX8_letter 0 = .ok (.iload_n 1, 1) := by decide +kernel
theorem dX8_letter_1 : decode cX8_letter 1 = .ok (.ifCond .lt 29, 3) := by decide +kernel
theorem dX8_letter_4 : decode cX8_letter 4 = .ok (.iload_n 1, 1) := by decide +kernel
theorem dX8_letter_5 : decode cX8_letter 5 = .ok (.aload_n 0, 1) := by decide +kernel
theorem dX8_letter_6 : decode cX8_letter 6 = .ok (.getfield 15, 3) := by decide +kernel
theorem dX8_letter_9 : decode cX8_letter 9 = .ok (.if_icmp .ge 21, 3) := by decide +kernel
theorem dX8_letter_12 : decode cX8_letter 12 = .ok (.iload_n 1, 1) := by decide +kernel
theorem dX8_letter_13 : decode cX8_letter 13 = .ok (.aload_n 0, 1) := by decide +kernel
theorem dX8_letter_14 : decode cX8_letter 14 = .ok (.getfield 9, 3) := by decide +kernel
theorem dX8_letter_17 : decode cX8_letter 17 = .ok (.arraylength, 1) := by decide +kernel
theorem dX8_letter_18 : decode cX8_letter 18 = .ok (.if_icmp .ge 12, 3) := by decide +kernel
theorem dX8_letter_21 : decode cX8_letter 21 = .ok (.aload_n 0, 1) := by decide +kernel
theorem dX8_letter_22 : decode cX8_letter 22 = .ok (.getfield 9, 3) := by decide +kernel
theorem dX8_letter_25 : decode cX8_letter 25 = .ok (.iload_n 1, 1) := by decide +kernel
theorem dX8_letter_26 : decode cX8_letter 26 = .ok (.iaload, 1) := by decide +kernel
theorem dX8_letter_27 : decode cX8_letter 27 = .ok (.goto 4, 3) := by decide +kernel
theorem dX8_letter_30 : decode cX8_letter 30 = .ok (.iconst 0, 1) := by decide +kernel
theorem dX8_letter_31 : decode cX8_letter 31 = .ok (.ireturn, 1) := by decide +kernel
theorem dX9_init_0 : decode cX9_init 0 = .ok (.aload_n 0, 1) := by decide +kernel
theorem dX9_init_1 : decode cX9_init 1 = .ok (.invokespecial 3, 3) := by decide +kernel
theorem dX9_init_4 : decode cX9_init 4 = .ok (.aload_n 0, 1) := by decide +kernel
theorem dX9_init_5 : decode cX9_init 5 = .ok (.new 9, 3) := by decide +kernel
theorem dX9_init_8 : decode cX9_init 8 = .ok (.dup, 1) := by decide +kernel
theorem dX9_init_9 : decode cX9_init 9 = .ok (.invokespecial 11, 3) := by decide +kernel
theorem dX9_init_12 : decode cX9_init 12 = .ok (.putfield 12, 3) := by decide +kernel
theorem dX9_init_15 : decode cX9_init 15 = .ok (.aload_n 0, 1) := by decide +kernel
theorem dX9_init_16 : decode cX9_init 16 = .ok (.new 16, 3) := by decide +kernel
theorem dX9_init_19 : decode cX9_init 19 = .ok (.dup, 1) := by decide +kernel
theorem dX9_init_20 : decode cX9_init 20 = .ok (.invokespecial 18, 3) := by decide +kernel
theorem dX9_init_23 : decode cX9_init 23 = .ok (.putfield 19, 3) := by decide +kernel
theorem dX9_init_26 : decode cX9_init 26 = .ok (.aload_n 0, 1) := by decide +kernel
theorem dX9_init_27 : decode cX9_init 27 = .ok (.new 16, 3) := by decide +kernel
theorem dX9_init_30 : decode cX9_init 30 = .ok (.dup, 1) := by decide +kernel
theorem dX9_init_31 : decode cX9_init 31 = .ok (.invokespecial 18, 3) := by decide +kernel
theorem dX9_init_34 : decode cX9_init 34 = .ok (.putfield 23, 3) := by decide +kernel
theorem dX9_init_37 : decode cX9_init 37 = .ok (.aload_n 0, 1) := by decide +kernel
theorem dX9_init_38 : decode cX9_init 38 = .ok (.new 26, 3) := by decide +kernel
theorem dX9_init_41 : decode cX9_init 41 = .ok (.dup, 1) := by decide +kernel
theorem dX9_init_42 : decode cX9_init 42 = .ok (.aload_n 0, 1) := by decide +kernel
theorem dX9_init_43 : decode cX9_init 43 = .ok (.getfield 12, 3) := by decide +kernel
theorem dX9_init_46 : decode cX9_init 46 = .ok (.aload_n 0, 1) := by decide +kernel
theorem dX9_init_47 : decode cX9_init 47 = .ok (.getfield 23, 3) := by decide +kernel
theorem dX9_init_50 : decode cX9_init 50 = .ok (.invokespecial 28, 3) := by decide +kernel
theorem dX9_init_53 : decode cX9_init 53 = .ok (.putfield 31, 3) := by decide +kernel
theorem dX9_init_56 : decode cX9_init 56 = .ok (.aload_n 0, 1) := by decide +kernel
theorem dX9_init_57 : decode cX9_init 57 = .ok (.new 35, 3) := by decide +kernel
theorem dX9_init_60 : decode cX9_init 60 = .ok (.dup, 1) := by decide +kernel
theorem dX9_init_61 : decode cX9_init 61 = .ok (.aload_n 0, 1) := by decide +kernel
theorem dX9_init_62 : decode cX9_init 62 = .ok (.getfield 19, 3) := by decide +kernel
theorem dX9_init_65 : decode cX9_init 65 = .ok (.invokespecial 37, 3) := by decide +kernel
theorem dX9_init_68 : decode cX9_init 68 = .ok (.putfield 40, 3) := by decide +kernel
theorem dX9_init_71 : decode cX9_init 71 = .ok (.aload_n 0, 1) := by decide +kernel
theorem dX9_init_72 : decode cX9_init 72 = .ok (.new 44, 3) := by decide +kernel
theorem dX9_init_75 : decode cX9_init 75 = .ok (.dup, 1) := by decide +kernel
theorem dX9_init_76 : decode cX9_init 76 = .ok (.invokespecial 46, 3) := by decide +kernel
theorem dX9_init_79 : decode cX9_init 79 = .ok (.putfield 47, 3) := by decide +kernel
theorem dX9_init_82 : decode cX9_init 82 = .ok (.aload_n 0, 1) := by decide +kernel
theorem dX9_init_83 : decode cX9_init 83 = .ok (.new 44, 3) := by decide +kernel
theorem dX9_init_86 : decode cX9_init 86 = .ok (.dup, 1) := by decide +kernel
theorem dX9_init_87 : decode cX9_init 87 = .ok (.invokespecial 46, 3) := by decide +kernel
theorem dX9_init_90 : decode cX9_init 90 = .ok (.putfield 51, 3) := by decide +kernel
theorem dX9_init_93 : decode cX9_init 93 = .ok (.aload_n 0, 1) := by decide +kernel
theorem dX9_init_94 : decode cX9_init 94 = .ok (.new 54, 3) := by decide +kernel
theorem dX9_init_97 : decode cX9_init 97 = .ok (.dup, 1) := by decide +kernel
theorem dX9_init_98 : decode cX9_init 98 = .ok (.bipush 8, 2) := by decide +kernel
theorem dX9_init_100 : decode cX9_init 100 = .ok (.invokespecial 56, 3) := by decide +kernel
theorem dX9_init_103 : decode cX9_init 103 = .ok (.putfield 59, 3) := by decide +kernel
theorem dX9_init_106 : decode cX9_init 106 = .ok (.aload_n 0, 1) := by decide +kernel
theorem dX9_init_107 : decode cX9_init 107 = .ok (.new 54, 3) := by decide +kernel
theorem dX9_init_110 : decode cX9_init 110 = .ok (.dup, 1) := by decide +kernel
theorem dX9_init_111 : decode cX9_init 111 = .ok (.iconst 2, 1) := by decide +kernel
theorem dX9_init_112 : decode cX9_init 112 = .ok (.invokespecial 56, 3) := by decide +kernel
theorem dX9_init_115 : decode cX9_init 115 = .ok (.putfield 63, 3) := by decide +kernel
theorem dX9_init_118 : decode cX9_init 118 = .ok (.aload_n 0, 1) := by decide +kernel
theorem dX9_init_119 : decode cX9_init 119 = .ok (.new 66, 3) := by decide +kernel
theorem dX9_init_122 : decode cX9_init 122 = .ok (.dup, 1) := by decide +kernel
theorem dX9_init_123 : decode cX9_init 123 = .ok (.invokespecial 68, 3) := by decide +kernel
theorem dX9_init_126 : decode cX9_init 126 = .ok (.putfield 69, 3) := by decide +kernel
theorem dX9_init_129 : decode cX9_init 129 = .ok (.aload_n 0, 1) := by decide +kernel
theorem dX9_init_130 : decode cX9_init 130 = .ok (.new 73, 3) := by decide +kernel
theorem dX9_init_133 : decode cX9_init 133 = .ok (.dup, 1) := by decide +kernel
theorem dX9_init_134 : decode cX9_init 134 = .ok (.invokespecial 75, 3) := by decide +kernel
theorem dX9_init_137 : decode cX9_init 137 = .ok (.putfield 76, 3) := by decide +kernel
theorem dX9_init_140 : decode cX9_init 140 = .ok (.iconst 0, 1) := by decide +kernel
theorem dX9_init_141 : decode cX9_init 141 = .ok (.istore_n 1, 1) := by decide +kernel
theorem dX9_init_142 : decode cX9_init 142 = .ok (.iload_n 1, 1) := by decide +kernel
theorem dX9_init_143 : decode cX9_init 143 = .ok (.ldc 80, 2) := by decide +kernel
theorem dX9_init_145 : decode cX9_init 145 = .ok (.invokevirtual 82, 3) := by decide +kernel
theorem dX9_init_148 : decode cX9_init 148 = .ok (.if_icmp .ge 22, 3) := by decide +kernel
theorem dX9_init_151 : decode cX9_init 151 = .ok (.aload_n 0, 1) := by decide +kernel
theorem dX9_init_152 : decode cX9_init 152 = .ok (.getfield 12, 3) := by decide +kernel
theorem dX9_init_155 : decode cX9_init 155 = .ok (.ldc 80, 2) := by decide +kernel
theorem dX9_init_157 : decode cX9_init 157 = .ok (.iload_n 1, 1) := by decide +kernel
theorem dX9_init_158 : decode cX9_init 158 = .ok (.invokevirtual 88, 3) := by decide +kernel
theorem dX9_init_161 : decode cX9_init 161 = .ok (.invokevirtual 92, 3) := by decide +kernel
theorem dX9_init_164 : decode cX9_init 164 = .ok (.iinc 1 1, 3) := by decide +kernel
theorem dX9_init_167 : decode cX9_init 167 = .ok (.goto (-25), 3) := by decide +kernel
theorem dX9_init_170 : decode cX9_init 170 = .ok (.aload_n 0, 1) := by decide +kernel
theorem dX9_init_171 : decode cX9_init 171 = .ok (.getfield 31, 3) := by decide +kernel
theorem dX9_init_174 : decode cX9_init 174 = .ok (.invokevirtual 95, 3) := by decide +kernel
theorem dX9_init_177 : decode cX9_init 177 = .ok (.pop, 1) := by decide +kernel
theorem dX9_init_178 : decode cX9_init 178 = .ok (.aload_n 0, 1) := by decide +kernel
theorem dX9_init_179 : decode cX9_init 179 = .ok (.invokevirtual 98, 3) := by decide +kernel
theorem dX9_init_182 : decode cX9_init 182 = .ok (.aload_n 0, 1) := by decide +kernel
theorem dX9_init_183 : decode cX9_init 183 = .ok (.getfield 12, 3) := by decide +kernel
theorem dX9_init_186 : decode cX9_init 186 = .ok (.invokevirtual 101, 3) := by decide +kernel
theorem dX9_init_189 : decode cX9_init 189 = .ok (.return_, 1) := by decide +kernel
theorem dX9_write_0 : decode cX9_write 0 = .ok (.iload_n 1, 1) := by decide +kernel
theorem dX9_write_1 : decode cX9_write 1 = .ok (.bipush 32, 2) := by decide +kernel
theorem dX9_write_3 : decode cX9_write 3 = .ok (.if_icmp .lt 9, 3) := by decide +kernel
theorem dX9_write_6 : decode cX9_write 6 = .ok (.iload_n 1, 1) := by decide +kernel
theorem dX9_write_7 : decode cX9_write 7 = .ok (.bipush 126, 2) := by decide +kernel
theorem dX9_write_9 : decode cX9_write 9 = .ok (.if_icmp .le 5, 3) := by decide +kernel
theorem dX9_write_12 : decode cX9_write 12 = .ok (.iconst (-1), 1) := by decide +kernel
theorem dX9_write_13 : decode cX9_write 13 = .ok (.ireturn, 1) := by decide +kernel
theorem dX9_write_14 : decode cX9_write 14 = .ok (.aload_n 0, 1) := by decide +kernel
theorem dX9_write_15 : decode cX9_write 15 = .ok (.getfield 12, 3) := by decide +kernel
theorem dX9_write_18 : decode cX9_write 18 = .ok (.getfield 104, 3) := by decide +kernel
theorem dX9_write_21 : decode cX9_write 21 = .ok (.sipush 200, 3) := by decide +kernel
theorem dX9_write_24 : decode cX9_write 24 = .ok (.if_icmp .lt 6, 3) := by decide +kernel
theorem dX9_write_27 : decode cX9_write 27 = .ok (.bipush (-3), 2) := by decide +kernel
theorem dX9_write_29 : decode cX9_write 29 = .ok (.ireturn, 1) := by decide +kernel
theorem dX9_write_30 : decode cX9_write 30 = .ok (.aload_n 0, 1) := by decide +kernel
theorem dX9_write_31 : decode cX9_write 31 = .ok (.getfield 12, 3) := by decide +kernel
theorem dX9_write_34 : decode cX9_write 34 = .ok (.iload_n 1, 1) := by decide +kernel
theorem dX9_write_35 : decode cX9_write 35 = .ok (.invokevirtual 92, 3) := by decide +kernel
theorem dX9_write_38 : decode cX9_write 38 = .ok (.aload_n 0, 1) := by decide +kernel
theorem dX9_write_39 : decode cX9_write 39 = .ok (.getfield 12, 3) := by decide +kernel
theorem dX9_write_42 : decode cX9_write 42 = .ok (.getfield 104, 3) := by decide +kernel
theorem dX9_write_45 : decode cX9_write 45 = .ok (.ireturn, 1) := by decide +kernel
theorem dX9_wipe_0 : decode cX9_wipe 0 = .ok (.aload_n 0, 1) := by decide +kernel
theorem dX9_wipe_1 : decode cX9_wipe 1 = .ok (.getfield 12, 3) := by decide +kernel
theorem dX9_wipe_4 : decode cX9_wipe 4 = .ok (.getfield 104, 3) := by decide +kernel
theorem dX9_wipe_7 : decode cX9_wipe 7 = .ok (.istore_n 1, 1) := by decide +kernel
theorem dX9_wipe_8 : decode cX9_wipe 8 = .ok (.aload_n 0, 1) := by decide +kernel
theorem dX9_wipe_9 : decode cX9_wipe 9 = .ok (.getfield 12, 3) := by decide +kernel
theorem dX9_wipe_12 : decode cX9_wipe 12 = .ok (.invokevirtual 101, 3) := by decide +kernel
theorem dX9_wipe_15 : decode cX9_wipe 15 = .ok (.iload_n 1, 1) := by decide +kernel
theorem dX9_wipe_16 : decode cX9_wipe 16 = .ok (.ireturn, 1) := by decide +kernel
theorem dX9_fault_0 : decode cX9_fault 0 = .ok (.aload_n 0, 1) := by decide +kernel
theorem dX9_fault_1 : decode cX9_fault 1 = .ok (.getfield 31, 3) := by decide +kernel
theorem dX9_fault_4 : decode cX9_fault 4 = .ok (.invokevirtual 95, 3) := by decide +kernel
theorem dX9_fault_7 : decode cX9_fault 7 = .ok (.ireturn, 1) := by decide +kernel
theorem dX9_lay_0 : decode cX9_lay 0 = .ok (.aload_n 0, 1) := by decide +kernel
theorem dX9_lay_1 : decode cX9_lay 1 = .ok (.getfield 31, 3) := by decide +kernel
theorem dX9_lay_4 : decode cX9_lay 4 = .ok (.invokevirtual 95, 3) := by decide +kernel
theorem dX9_lay_7 : decode cX9_lay 7 = .ok (.bipush (-4), 2) := by decide +kernel
theorem dX9_lay_9 : decode cX9_lay 9 = .ok (.if_icmp .ne 13, 3) := by decide +kernel
theorem dX9_lay_12 : decode cX9_lay 12 = .ok (.aload_n 0, 1) := by decide +kernel
theorem dX9_lay_13 : decode cX9_lay 13 = .ok (.getfield 23, 3) := by decide +kernel
theorem dX9_lay_16 : decode cX9_lay 16 = .ok (.getfield 107, 3) := by decide +kernel
theorem dX9_lay_19 : decode cX9_lay 19 = .ok (.ifCond .ne 6, 3) := by decide +kernel
theorem dX9_lay_22 : decode cX9_lay 22 = .ok (.bipush (-2), 2) := by decide +kernel
theorem dX9_lay_24 : decode cX9_lay 24 = .ok (.ireturn, 1) := by decide +kernel
theorem dX9_lay_25 : decode cX9_lay 25 = .ok (.aload_n 0, 1) := by decide +kernel
theorem dX9_lay_26 : decode cX9_lay 26 = .ok (.invokevirtual 98, 3) := by decide +kernel
theorem dX9_lay_29 : decode cX9_lay 29 = .ok (.aload_n 0, 1) := by decide +kernel
theorem dX9_lay_30 : decode cX9_lay 30 = .ok (.getfield 19, 3) := by decide +kernel
theorem dX9_lay_33 : decode cX9_lay 33 = .ok (.getfield 107, 3) := by decide +kernel
theorem dX9_lay_36 : decode cX9_lay 36 = .ok (.ireturn, 1) := by decide +kernel
theorem dX9_staff_0 : decode cX9_staff 0 = .ok (.aload_n 0, 1) := by decide +kernel
theorem dX9_staff_1 : decode cX9_staff 1 = .ok (.iload_n 1, 1) := by decide +kernel
theorem dX9_staff_2 : decode cX9_staff 2 = .ok (.invokevirtual 110, 3) := by decide +kernel
theorem dX9_staff_5 : decode cX9_staff 5 = .ok (.ifCond .ne 5, 3) := by decide +kernel
theorem dX9_staff_8 : decode cX9_staff 8 = .ok (.iconst (-1), 1) := by decide +kernel
theorem dX9_staff_9 : decode cX9_staff 9 = .ok (.ireturn, 1) := by decide +kernel
theorem dX9_staff_10 : decode cX9_staff 10 = .ok (.iload_n 2, 1) := by decide +kernel
theorem dX9_staff_11 : decode cX9_staff 11 = .ok (.tableswitch 122 0 6 #[41, 53, 65, 77, 89, 98, 110], 41) := by decide +kernel
theorem dX9_staff_52 : decode cX9_staff 52 = .ok (.aload_n 0, 1) := by decide +kernel
theorem dX9_staff_53 : decode cX9_staff 53 = .ok (.getfield 19, 3) := by decide +kernel
theorem dX9_staff_56 : decode cX9_staff 56 = .ok (.getfield 114, 3) := by decide +kernel
theorem dX9_staff_59 : decode cX9_staff 59 = .ok (.iload_n 1, 1) := by decide +kernel
theorem dX9_staff_60 : decode cX9_staff 60 = .ok (.invokevirtual 118, 3) := by decide +kernel
theorem dX9_staff_63 : decode cX9_staff 63 = .ok (.ireturn, 1) := by decide +kernel
theorem dX9_staff_64 : decode cX9_staff 64 = .ok (.aload_n 0, 1) := by decide +kernel
theorem dX9_staff_65 : decode cX9_staff 65 = .ok (.getfield 19, 3) := by decide +kernel
theorem dX9_staff_68 : decode cX9_staff 68 = .ok (.getfield 124, 3) := by decide +kernel
theorem dX9_staff_71 : decode cX9_staff 71 = .ok (.iload_n 1, 1) := by decide +kernel
theorem dX9_staff_72 : decode cX9_staff 72 = .ok (.invokevirtual 118, 3) := by decide +kernel
theorem dX9_staff_75 : decode cX9_staff 75 = .ok (.ireturn, 1) := by decide +kernel
theorem dX9_staff_76 : decode cX9_staff 76 = .ok (.aload_n 0, 1) := by decide +kernel
theorem dX9_staff_77 : decode cX9_staff 77 = .ok (.getfield 19, 3) := by decide +kernel
theorem dX9_staff_80 : decode cX9_staff 80 = .ok (.getfield 127, 3) := by decide +kernel
theorem dX9_staff_83 : decode cX9_staff 83 = .ok (.iload_n 1, 1) := by decide +kernel
theorem dX9_staff_84 : decode cX9_staff 84 = .ok (.invokevirtual 118, 3) := by decide +kernel
theorem dX9_staff_87 : decode cX9_staff 87 = .ok (.ireturn, 1) := by decide +kernel
theorem dX9_staff_88 : decode cX9_staff 88 = .ok (.aload_n 0, 1) := by decide +kernel
theorem dX9_staff_89 : decode cX9_staff 89 = .ok (.getfield 19, 3) := by decide +kernel
theorem dX9_staff_92 : decode cX9_staff 92 = .ok (.getfield 130, 3) := by decide +kernel
theorem dX9_staff_95 : decode cX9_staff 95 = .ok (.iload_n 1, 1) := by decide +kernel
theorem dX9_staff_96 : decode cX9_staff 96 = .ok (.invokevirtual 118, 3) := by decide +kernel
theorem dX9_staff_99 : decode cX9_staff 99 = .ok (.ireturn, 1) := by decide +kernel
theorem dX9_staff_100 : decode cX9_staff 100 = .ok (.aload_n 0, 1) := by decide +kernel
theorem dX9_staff_101 : decode cX9_staff 101 = .ok (.invokevirtual 133, 3) := by decide +kernel
theorem dX9_staff_104 : decode cX9_staff 104 = .ok (.iload_n 1, 1) := by decide +kernel
theorem dX9_staff_105 : decode cX9_staff 105 = .ok (.invokestatic 136, 3) := by decide +kernel
theorem dX9_staff_108 : decode cX9_staff 108 = .ok (.ireturn, 1) := by decide +kernel
theorem dX9_staff_109 : decode cX9_staff 109 = .ok (.aload_n 0, 1) := by decide +kernel
theorem dX9_staff_110 : decode cX9_staff 110 = .ok (.getfield 47, 3) := by decide +kernel
theorem dX9_staff_113 : decode cX9_staff 113 = .ok (.getfield 140, 3) := by decide +kernel
theorem dX9_staff_116 : decode cX9_staff 116 = .ok (.iload_n 1, 1) := by decide +kernel
theorem dX9_staff_117 : decode cX9_staff 117 = .ok (.invokevirtual 118, 3) := by decide +kernel
theorem dX9_staff_120 : decode cX9_staff 120 = .ok (.ireturn, 1) := by decide +kernel
theorem dX9_staff_121 : decode cX9_staff 121 = .ok (.aload_n 0, 1) := by decide +kernel
theorem dX9_staff_122 : decode cX9_staff 122 = .ok (.getfield 47, 3) := by decide +kernel
theorem dX9_staff_125 : decode cX9_staff 125 = .ok (.getfield 143, 3) := by decide +kernel
theorem dX9_staff_128 : decode cX9_staff 128 = .ok (.iload_n 1, 1) := by decide +kernel
theorem dX9_staff_129 : decode cX9_staff 129 = .ok (.invokestatic 136, 3) := by decide +kernel
theorem dX9_staff_132 : decode cX9_staff 132 = .ok (.ireturn, 1) := by decide +kernel
theorem dX9_staff_133 : decode cX9_staff 133 = .ok (.iconst (-1), 1) := by decide +kernel
theorem dX9_staff_134 : decode cX9_staff 134 = .ok (.ireturn, 1) := by decide +kernel
theorem dX9_customer_0 : decode cX9_customer 0 = .ok (.aload_n 0, 1) := by decide +kernel
theorem dX9_customer_1 : decode cX9_customer 1 = .ok (.iload_n 1, 1) := by decide +kernel
theorem dX9_customer_2 : decode cX9_customer 2 = .ok (.invokevirtual 146, 3) := by decide +kernel
theorem dX9_customer_5 : decode cX9_customer 5 = .ok (.ifCond .ne 5, 3) := by decide +kernel
theorem dX9_customer_8 : decode cX9_customer 8 = .ok (.iconst (-1), 1) := by decide +kernel
theorem dX9_customer_9 : decode cX9_customer 9 = .ok (.ireturn, 1) := by decide +kernel
theorem dX9_customer_10 : decode cX9_customer 10 = .ok (.iload_n 2, 1) := by decide +kernel
theorem dX9_customer_11 : decode cX9_customer 11 = .ok (.tableswitch 115 0 5 #[37, 49, 61, 73, 85, 109], 37) := by decide +kernel
theorem dX9_customer_48 : decode cX9_customer 48 = .ok (.aload_n 0, 1) := by decide +kernel
theorem dX9_customer_49 : decode cX9_customer 49 = .ok (.getfield 19, 3) := by decide +kernel
theorem dX9_customer_52 : decode cX9_customer 52 = .ok (.getfield 149, 3) := by decide +kernel
theorem dX9_customer_55 : decode cX9_customer 55 = .ok (.iload_n 1, 1) := by decide +kernel
theorem dX9_customer_56 : decode cX9_customer 56 = .ok (.invokevirtual 118, 3) := by decide +kernel
theorem dX9_customer_59 : decode cX9_customer 59 = .ok (.ireturn, 1) := by decide +kernel
theorem dX9_customer_60 : decode cX9_customer 60 = .ok (.aload_n 0, 1) := by decide +kernel
theorem dX9_customer_61 : decode cX9_customer 61 = .ok (.getfield 19, 3) := by decide +kernel
theorem dX9_customer_64 : decode cX9_customer 64 = .ok (.getfield 152, 3) := by decide +kernel
theorem dX9_customer_67 : decode cX9_customer 67 = .ok (.iload_n 1, 1) := by decide +kernel
theorem dX9_customer_68 : decode cX9_customer 68 = .ok (.invokevirtual 118, 3) := by decide +kernel
theorem dX9_customer_71 : decode cX9_customer 71 = .ok (.ireturn, 1) := by decide +kernel
theorem dX9_customer_72 : decode cX9_customer 72 = .ok (.aload_n 0, 1) := by decide +kernel
theorem dX9_customer_73 : decode cX9_customer 73 = .ok (.getfield 19, 3) := by decide +kernel
theorem dX9_customer_76 : decode cX9_customer 76 = .ok (.getfield 155, 3) := by decide +kernel
theorem dX9_customer_79 : decode cX9_customer 79 = .ok (.iload_n 1, 1) := by decide +kernel
theorem dX9_customer_80 : decode cX9_customer 80 = .ok (.invokevirtual 118, 3) := by decide +kernel
theorem dX9_customer_83 : decode cX9_customer 83 = .ok (.ireturn, 1) := by decide +kernel
theorem dX9_customer_84 : decode cX9_customer 84 = .ok (.aload_n 0, 1) := by decide +kernel
theorem dX9_customer_85 : decode cX9_customer 85 = .ok (.getfield 19, 3) := by decide +kernel
theorem dX9_customer_88 : decode cX9_customer 88 = .ok (.getfield 158, 3) := by decide +kernel
theorem dX9_customer_91 : decode cX9_customer 91 = .ok (.iload_n 1, 1) := by decide +kernel
theorem dX9_customer_92 : decode cX9_customer 92 = .ok (.invokevirtual 118, 3) := by decide +kernel
theorem dX9_customer_95 : decode cX9_customer 95 = .ok (.ireturn, 1) := by decide +kernel
theorem dX9_customer_96 : decode cX9_customer 96 = .ok (.aload_n 0, 1) := by decide +kernel
theorem dX9_customer_97 : decode cX9_customer 97 = .ok (.getfield 19, 3) := by decide +kernel
theorem dX9_customer_100 : decode cX9_customer 100 = .ok (.iload_n 1, 1) := by decide +kernel
theorem dX9_customer_101 : decode cX9_customer 101 = .ok (.aload_n 0, 1) := by decide +kernel
theorem dX9_customer_102 : decode cX9_customer 102 = .ok (.getfield 47, 3) := by decide +kernel
theorem dX9_customer_105 : decode cX9_customer 105 = .ok (.getfield 161, 3) := by decide +kernel
theorem dX9_customer_108 : decode cX9_customer 108 = .ok (.invokevirtual 163, 3) := by decide +kernel
theorem dX9_customer_111 : decode cX9_customer 111 = .ok (.ifCond .eq 7, 3) := by decide +kernel
theorem dX9_customer_114 : decode cX9_customer 114 = .ok (.iconst 1, 1) := by decide +kernel
theorem dX9_customer_115 : decode cX9_customer 115 = .ok (.goto 4, 3) := by decide +kernel
theorem dX9_customer_118 : decode cX9_customer 118 = .ok (.iconst 0, 1) := by decide +kernel
theorem dX9_customer_119 : decode cX9_customer 119 = .ok (.ireturn, 1) := by decide +kernel
theorem dX9_customer_120 : decode cX9_customer 120 = .ok (.aload_n 0, 1) := by decide +kernel
theorem dX9_customer_121 : decode cX9_customer 121 = .ok (.iload_n 1, 1) := by decide +kernel
theorem dX9_customer_122 : decode cX9_customer 122 = .ok (.invokevirtual 167, 3) := by decide +kernel
theorem dX9_customer_125 : decode cX9_customer 125 = .ok (.ireturn, 1) := by decide +kernel
theorem dX9_customer_126 : decode cX9_customer 126 = .ok (.iconst (-1), 1) := by decide +kernel
theorem dX9_customer_127 : decode cX9_customer 127 = .ok (.ireturn, 1) := by decide +kernel
theorem dX9_quarrel_0 : decode cX9_quarrel 0 = .ok (.aload_n 0, 1) := by decide +kernel
theorem dX9_quarrel_1 : decode cX9_quarrel 1 = .ok (.iload_n 1, 1) := by decide +kernel
theorem dX9_quarrel_2 : decode cX9_quarrel 2 = .ok (.iload_n 2, 1) := by decide +kernel
theorem dX9_quarrel_3 : decode cX9_quarrel 3 = .ok (.invokevirtual 170, 3) := by decide +kernel
theorem dX9_quarrel_6 : decode cX9_quarrel 6 = .ok (.ifCond .ne 5, 3) := by decide +kernel
theorem dX9_quarrel_9 : decode cX9_quarrel 9 = .ok (.iconst (-1), 1) := by decide +kernel
theorem dX9_quarrel_10 : decode cX9_quarrel 10 = .ok (.ireturn, 1) := by decide +kernel
theorem dX9_quarrel_11 : decode cX9_quarrel 11 = .ok (.aload_n 0, 1) := by decide +kernel
theorem dX9_quarrel_12 : decode cX9_quarrel 12 = .ok (.getfield 47, 3) := by decide +kernel
theorem dX9_quarrel_15 : decode cX9_quarrel 15 = .ok (.getfield 173, 3) := by decide +kernel
theorem dX9_quarrel_18 : decode cX9_quarrel 18 = .ok (.iload_n 1, 1) := by decide +kernel
theorem dX9_quarrel_19 : decode cX9_quarrel 19 = .ok (.iload_n 2, 1) := by decide +kernel
theorem dX9_quarrel_20 : decode cX9_quarrel 20 = .ok (.invokestatic 176, 3) := by decide +kernel
theorem dX9_quarrel_23 : decode cX9_quarrel 23 = .ok (.invokestatic 136, 3) := by decide +kernel
theorem dX9_quarrel_26 : decode cX9_quarrel 26 = .ok (.ireturn, 1) := by decide +kernel
theorem dX9_woken_0 : decode cX9_woken 0 = .ok (.aload_n 0, 1) := by decide +kernel
theorem dX9_woken_1 : decode cX9_woken 1 = .ok (.invokevirtual 179, 3) := by decide +kernel
theorem dX9_woken_4 : decode cX9_woken 4 = .ok (.aload_n 0, 1) := by decide +kernel
theorem dX9_woken_5 : decode cX9_woken 5 = .ok (.getfield 40, 3) := by decide +kernel
theorem dX9_woken_8 : decode cX9_woken 8 = .ok (.getfield 182, 3) := by decide +kernel
theorem dX9_woken_11 : decode cX9_woken 11 = .ok (.ireturn, 1) := by decide +kernel
theorem dX9_pass_0 : decode cX9_pass 0 = .ok (.iload_n 1, 1) := by decide +kernel
theorem dX9_pass_1 : decode cX9_pass 1 = .ok (.iconst 1, 1) := by decide +kernel
theorem dX9_pass_2 : decode cX9_pass 2 = .ok (.if_icmp .lt 9, 3) := by decide +kernel
theorem dX9_pass_5 : decode cX9_pass 5 = .ok (.iload_n 1, 1) := by decide +kernel
theorem dX9_pass_6 : decode cX9_pass 6 = .ok (.bipush 14, 2) := by decide +kernel
theorem dX9_pass_8 : decode cX9_pass 8 = .ok (.if_icmp .le 5, 3) := by decide +kernel
theorem dX9_pass_11 : decode cX9_pass 11 = .ok (.iconst (-1), 1) := by decide +kernel
theorem dX9_pass_12 : decode cX9_pass 12 = .ok (.ireturn, 1) := by decide +kernel
theorem dX9_pass_13 : decode cX9_pass 13 = .ok (.aload_n 0, 1) := by decide +kernel
theorem dX9_pass_14 : decode cX9_pass 14 = .ok (.getfield 59, 3) := by decide +kernel
theorem dX9_pass_17 : decode cX9_pass 17 = .ok (.aload_n 0, 1) := by decide +kernel
theorem dX9_pass_18 : decode cX9_pass 18 = .ok (.getfield 47, 3) := by decide +kernel
theorem dX9_pass_21 : decode cX9_pass 21 = .ok (.invokevirtual 185, 3) := by decide +kernel
theorem dX9_pass_24 : decode cX9_pass 24 = .ok (.aload_n 0, 1) := by decide +kernel
theorem dX9_pass_25 : decode cX9_pass 25 = .ok (.aload_n 0, 1) := by decide +kernel
theorem dX9_pass_26 : decode cX9_pass 26 = .ok (.getfield 47, 3) := by decide +kernel
theorem dX9_pass_29 : decode cX9_pass 29 = .ok (.iload_n 1, 1) := by decide +kernel
theorem dX9_pass_30 : decode cX9_pass 30 = .ok (.invokevirtual 189, 3) := by decide +kernel
theorem dX9_pass_33 : decode cX9_pass 33 = .ok (.aload_n 0, 1) := by decide +kernel
theorem dX9_pass_34 : decode cX9_pass 34 = .ok (.getfield 47, 3) := by decide +kernel
theorem dX9_pass_37 : decode cX9_pass 37 = .ok (.getfield 161, 3) := by decide +kernel
theorem dX9_pass_40 : decode cX9_pass 40 = .ok (.ireturn, 1) := by decide +kernel
theorem dX9_supper_0 : decode cX9_supper 0 = .ok (.aload_n 0, 1) := by decide +kernel
theorem dX9_supper_1 : decode cX9_supper 1 = .ok (.iload_n 1, 1) := by decide +kernel
theorem dX9_supper_2 : decode cX9_supper 2 = .ok (.invokevirtual 110, 3) := by decide +kernel
theorem dX9_supper_5 : decode cX9_supper 5 = .ok (.ifCond .ne 5, 3) := by decide +kernel
theorem dX9_supper_8 : decode cX9_supper 8 = .ok (.iconst (-1), 1) := by decide +kernel
theorem dX9_supper_9 : decode cX9_supper 9 = .ok (.ireturn, 1) := by decide +kernel
theorem dX9_supper_10 : decode cX9_supper 10 = .ok (.aload_n 0, 1) := by decide +kernel
theorem dX9_supper_11 : decode cX9_supper 11 = .ok (.getfield 47, 3) := by decide +kernel
theorem dX9_supper_14 : decode cX9_supper 14 = .ok (.getfield 143, 3) := by decide +kernel
theorem dX9_supper_17 : decode cX9_supper 17 = .ok (.iload_n 1, 1) := by decide +kernel
theorem dX9_supper_18 : decode cX9_supper 18 = .ok (.invokestatic 193, 3) := by decide +kernel
theorem dX9_supper_21 : decode cX9_supper 21 = .ok (.ifCond .eq 6, 3) := by decide +kernel
theorem dX9_supper_24 : decode cX9_supper 24 = .ok (.bipush (-2), 2) := by decide +kernel
theorem dX9_supper_26 : decode cX9_supper 26 = .ok (.ireturn, 1) := by decide +kernel
theorem dX9_supper_27 : decode cX9_supper 27 = .ok (.aload_n 0, 1) := by decide +kernel
theorem dX9_supper_28 : decode cX9_supper 28 = .ok (.getfield 59, 3) := by decide +kernel
theorem dX9_supper_31 : decode cX9_supper 31 = .ok (.aload_n 0, 1) := by decide +kernel
theorem dX9_supper_32 : decode cX9_supper 32 = .ok (.getfield 47, 3) := by decide +kernel
theorem dX9_supper_35 : decode cX9_supper 35 = .ok (.invokevirtual 185, 3) := by decide +kernel
theorem dX9_supper_38 : decode cX9_supper 38 = .ok (.aload_n 0, 1) := by decide +kernel
theorem dX9_supper_39 : decode cX9_supper 39 = .ok (.getfield 47, 3) := by decide +kernel
theorem dX9_supper_42 : decode cX9_supper 42 = .ok (.dup, 1) := by decide +kernel
theorem dX9_supper_43 : decode cX9_supper 43 = .ok (.getfield 143, 3) := by decide +kernel
theorem dX9_supper_46 : decode cX9_supper 46 = .ok (.iconst 1, 1) := by decide +kernel
theorem dX9_supper_47 : decode cX9_supper 47 = .ok (.iload_n 1, 1) := by decide +kernel
theorem dX9_supper_48 : decode cX9_supper 48 = .ok (.ishl, 1) := by decide +kernel
theorem dX9_supper_49 : decode cX9_supper 49 = .ok (.ior, 1) := by decide +kernel
theorem dX9_supper_50 : decode cX9_supper 50 = .ok (.putfield 143, 3) := by decide +kernel
theorem dX9_supper_53 : decode cX9_supper 53 = .ok (.aload_n 0, 1) := by decide +kernel
theorem dX9_supper_54 : decode cX9_supper 54 = .ok (.getfield 47, 3) := by decide +kernel
theorem dX9_supper_57 : decode cX9_supper 57 = .ok (.getfield 143, 3) := by decide +kernel
theorem dX9_supper_60 : decode cX9_supper 60 = .ok (.invokestatic 196, 3) := by decide +kernel
theorem dX9_supper_63 : decode cX9_supper 63 = .ok (.ireturn, 1) := by decide +kernel
theorem dX9_settle_0 : decode cX9_settle 0 = .ok (.aload_n 0, 1) := by decide +kernel
theorem dX9_settle_1 : decode cX9_settle 1 = .ok (.iload_n 1, 1) := by decide +kernel
theorem dX9_settle_2 : decode cX9_settle 2 = .ok (.iload_n 2, 1) := by decide +kernel
theorem dX9_settle_3 : decode cX9_settle 3 = .ok (.invokevirtual 170, 3) := by decide +kernel
theorem dX9_settle_6 : decode cX9_settle 6 = .ok (.ifCond .ne 5, 3) := by decide +kernel
theorem dX9_settle_9 : decode cX9_settle 9 = .ok (.iconst (-1), 1) := by decide +kernel
theorem dX9_settle_10 : decode cX9_settle 10 = .ok (.ireturn, 1) := by decide +kernel
theorem dX9_settle_11 : decode cX9_settle 11 = .ok (.iload_n 1, 1) := by decide +kernel
theorem dX9_settle_12 : decode cX9_settle 12 = .ok (.iload_n 2, 1) := by decide +kernel
theorem dX9_settle_13 : decode cX9_settle 13 = .ok (.invokestatic 176, 3) := by decide +kernel
theorem dX9_settle_16 : decode cX9_settle 16 = .ok (.istore_n 3, 1) := by decide +kernel
theorem dX9_settle_17 : decode cX9_settle 17 = .ok (.aload_n 0, 1) := by decide +kernel
theorem dX9_settle_18 : decode cX9_settle 18 = .ok (.getfield 47, 3) := by decide +kernel
theorem dX9_settle_21 : decode cX9_settle 21 = .ok (.getfield 173, 3) := by decide +kernel
theorem dX9_settle_24 : decode cX9_settle 24 = .ok (.iload_n 3, 1) := by decide +kernel
theorem dX9_settle_25 : decode cX9_settle 25 = .ok (.invokestatic 193, 3) := by decide +kernel
theorem dX9_settle_28 : decode cX9_settle 28 = .ok (.ifCond .ne 21, 3) := by decide +kernel
theorem dX9_settle_31 : decode cX9_settle 31 = .ok (.aload_n 0, 1) := by decide +kernel
theorem dX9_settle_32 : decode cX9_settle 32 = .ok (.getfield 47, 3) := by decide +kernel
theorem dX9_settle_35 : decode cX9_settle 35 = .ok (.getfield 173, 3) := by decide +kernel
theorem dX9_settle_38 : decode cX9_settle 38 = .ok (.invokestatic 196, 3) := by decide +kernel
theorem dX9_settle_41 : decode cX9_settle 41 = .ok (.bipush 6, 2) := by decide +kernel
theorem dX9_settle_43 : decode cX9_settle 43 = .ok (.if_icmp .lt 6, 3) := by decide +kernel
theorem dX9_settle_46 : decode cX9_settle 46 = .ok (.bipush (-3), 2) := by decide +kernel
theorem dX9_settle_48 : decode cX9_settle 48 = .ok (.ireturn, 1) := by decide +kernel
theorem dX9_settle_49 : decode cX9_settle 49 = .ok (.aload_n 0, 1) := by decide +kernel
theorem dX9_settle_50 : decode cX9_settle 50 = .ok (.getfield 59, 3) := by decide +kernel
theorem dX9_settle_53 : decode cX9_settle 53 = .ok (.aload_n 0, 1) := by decide +kernel
theorem dX9_settle_54 : decode cX9_settle 54 = .ok (.getfield 47, 3) := by decide +kernel
theorem dX9_settle_57 : decode cX9_settle 57 = .ok (.invokevirtual 185, 3) := by decide +kernel
theorem dX9_settle_60 : decode cX9_settle 60 = .ok (.aload_n 0, 1) := by decide +kernel
theorem dX9_settle_61 : decode cX9_settle 61 = .ok (.getfield 47, 3) := by decide +kernel
theorem dX9_settle_64 : decode cX9_settle 64 = .ok (.dup, 1) := by decide +kernel
theorem dX9_settle_65 : decode cX9_settle 65 = .ok (.getfield 173, 3) := by decide +kernel
theorem dX9_settle_68 : decode cX9_settle 68 = .ok (.iconst 1, 1) := by decide +kernel
theorem dX9_settle_69 : decode cX9_settle 69 = .ok (.iload_n 3, 1) := by decide +kernel
theorem dX9_settle_70 : decode cX9_settle 70 = .ok (.ishl, 1) := by decide +kernel
theorem dX9_settle_71 : decode cX9_settle 71 = .ok (.ixor, 1) := by decide +kernel
theorem dX9_settle_72 : decode cX9_settle 72 = .ok (.putfield 173, 3) := by decide +kernel
theorem dX9_settle_75 : decode cX9_settle 75 = .ok (.aload_n 0, 1) := by decide +kernel
theorem dX9_settle_76 : decode cX9_settle 76 = .ok (.getfield 47, 3) := by decide +kernel
theorem dX9_settle_79 : decode cX9_settle 79 = .ok (.getfield 173, 3) := by decide +kernel
theorem dX9_settle_82 : decode cX9_settle 82 = .ok (.iload_n 3, 1) := by decide +kernel
theorem dX9_settle_83 : decode cX9_settle 83 = .ok (.invokestatic 136, 3) := by decide +kernel
theorem dX9_settle_86 : decode cX9_settle 86 = .ok (.ireturn, 1) := by decide +kernel
theorem dX9_lull_0 : decode cX9_lull 0 = .ok (.aload_n 0, 1) := by decide +kernel
theorem dX9_lull_1 : decode cX9_lull 1 = .ok (.iload_n 1, 1) := by decide +kernel
theorem dX9_lull_2 : decode cX9_lull 2 = .ok (.invokevirtual 110, 3) := by decide +kernel
theorem dX9_lull_5 : decode cX9_lull 5 = .ok (.ifCond .ne 5, 3) := by decide +kernel
theorem dX9_lull_8 : decode cX9_lull 8 = .ok (.iconst (-1), 1) := by decide +kernel
theorem dX9_lull_9 : decode cX9_lull 9 = .ok (.ireturn, 1) := by decide +kernel
theorem dX9_lull_10 : decode cX9_lull 10 = .ok (.aload_n 0, 1) := by decide +kernel
theorem dX9_lull_11 : decode cX9_lull 11 = .ok (.getfield 47, 3) := by decide +kernel
theorem dX9_lull_14 : decode cX9_lull 14 = .ok (.getfield 140, 3) := by decide +kernel
theorem dX9_lull_17 : decode cX9_lull 17 = .ok (.iload_n 1, 1) := by decide +kernel
theorem dX9_lull_18 : decode cX9_lull 18 = .ok (.invokevirtual 118, 3) := by decide +kernel
theorem dX9_lull_21 : decode cX9_lull 21 = .ok (.istore_n 2, 1) := by decide +kernel
theorem dX9_lull_22 : decode cX9_lull 22 = .ok (.iload_n 2, 1) := by decide +kernel
theorem dX9_lull_23 : decode cX9_lull 23 = .ok (.ifCond .ne 6, 3) := by decide +kernel
theorem dX9_lull_26 : decode cX9_lull 26 = .ok (.bipush (-2), 2) := by decide +kernel
theorem dX9_lull_28 : decode cX9_lull 28 = .ok (.ireturn, 1) := by decide +kernel
theorem dX9_lull_29 : decode cX9_lull 29 = .ok (.aload_n 0, 1) := by decide +kernel
theorem dX9_lull_30 : decode cX9_lull 30 = .ok (.getfield 59, 3) := by decide +kernel
theorem dX9_lull_33 : decode cX9_lull 33 = .ok (.aload_n 0, 1) := by decide +kernel
theorem dX9_lull_34 : decode cX9_lull 34 = .ok (.getfield 47, 3) := by decide +kernel
theorem dX9_lull_37 : decode cX9_lull 37 = .ok (.invokevirtual 185, 3) := by decide +kernel
theorem dX9_lull_40 : decode cX9_lull 40 = .ok (.aload_n 0, 1) := by decide +kernel
theorem dX9_lull_41 : decode cX9_lull 41 = .ok (.getfield 47, 3) := by decide +kernel
theorem dX9_lull_44 : decode cX9_lull 44 = .ok (.getfield 140, 3) := by decide +kernel
theorem dX9_lull_47 : decode cX9_lull 47 = .ok (.iload_n 1, 1) := by decide +kernel
theorem dX9_lull_48 : decode cX9_lull 48 = .ok (.iconst 0, 1) := by decide +kernel
theorem dX9_lull_49 : decode cX9_lull 49 = .ok (.invokevirtual 201, 3) := by decide +kernel
theorem dX9_lull_52 : decode cX9_lull 52 = .ok (.iload_n 2, 1) := by decide +kernel
theorem dX9_lull_53 : decode cX9_lull 53 = .ok (.ireturn, 1) := by decide +kernel
theorem dX9_undo_0 : decode cX9_undo 0 = .ok (.aload_n 0, 1) := by decide +kernel
theorem dX9_undo_1 : decode cX9_undo 1 = .ok (.getfield 59, 3) := by decide +kernel
theorem dX9_undo_4 : decode cX9_undo 4 = .ok (.getfield 204, 3) := by decide +kernel
theorem dX9_undo_7 : decode cX9_undo 7 = .ok (.ifCond .ne 6, 3) := by decide +kernel
theorem dX9_undo_10 : decode cX9_undo 10 = .ok (.bipush (-2), 2) := by decide +kernel
theorem dX9_undo_12 : decode cX9_undo 12 = .ok (.ireturn, 1) := by decide +kernel
theorem dX9_undo_13 : decode cX9_undo 13 = .ok (.aload_n 0, 1) := by decide +kernel
theorem dX9_undo_14 : decode cX9_undo 14 = .ok (.getfield 59, 3) := by decide +kernel
theorem dX9_undo_17 : decode cX9_undo 17 = .ok (.aload_n 0, 1) := by decide +kernel
theorem dX9_undo_18 : decode cX9_undo 18 = .ok (.getfield 47, 3) := by decide +kernel
theorem dX9_undo_21 : decode cX9_undo 21 = .ok (.invokevirtual 207, 3) := by decide +kernel
theorem dX9_undo_24 : decode cX9_undo 24 = .ok (.aload_n 0, 1) := by decide +kernel
theorem dX9_undo_25 : decode cX9_undo 25 = .ok (.getfield 59, 3) := by decide +kernel
theorem dX9_undo_28 : decode cX9_undo 28 = .ok (.getfield 204, 3) := by decide +kernel
theorem dX9_undo_31 : decode cX9_undo 31 = .ok (.ireturn, 1) := by decide +kernel
theorem dX9_behind_0 : decode cX9_behind 0 = .ok (.iload_n 1, 1) := by decide +kernel
theorem dX9_behind_1 : decode cX9_behind 1 = .ok (.ifCond .lt 18, 3) := by decide +kernel
theorem dX9_behind_4 : decode cX9_behind 4 = .ok (.iload_n 1, 1) := by decide +kernel
theorem dX9_behind_5 : decode cX9_behind 5 = .ok (.bipush 28, 2) := by decide +kernel
theorem dX9_behind_7 : decode cX9_behind 7 = .ok (.if_icmp .gt 12, 3) := by decide +kernel
theorem dX9_behind_10 : decode cX9_behind 10 = .ok (.iload_n 2, 1) := by decide +kernel
theorem dX9_behind_11 : decode cX9_behind 11 = .ok (.ifCond .lt 8, 3) := by decide +kernel
theorem dX9_behind_14 : decode cX9_behind 14 = .ok (.iload_n 2, 1) := by decide +kernel
theorem dX9_behind_15 : decode cX9_behind 15 = .ok (.iconst 2, 1) := by decide +kernel
theorem dX9_behind_16 : decode cX9_behind 16 = .ok (.if_icmp .le 5, 3) := by decide +kernel
theorem dX9_behind_19 : decode cX9_behind 19 = .ok (.iconst (-1), 1) := by decide +kernel
theorem dX9_behind_20 : decode cX9_behind 20 = .ok (.ireturn, 1) := by decide +kernel
theorem dX9_behind_21 : decode cX9_behind 21 = .ok (.aload_n 0, 1) := by decide +kernel
theorem dX9_behind_22 : decode cX9_behind 22 = .ok (.getfield 51, 3) := by decide +kernel
theorem dX9_behind_25 : decode cX9_behind 25 = .ok (.aload_n 0, 1) := by decide +kernel
theorem dX9_behind_26 : decode cX9_behind 26 = .ok (.getfield 47, 3) := by decide +kernel
theorem dX9_behind_29 : decode cX9_behind 29 = .ok (.invokevirtual 210, 3) := by decide +kernel
theorem dX9_behind_32 : decode cX9_behind 32 = .ok (.aload_n 0, 1) := by decide +kernel
theorem dX9_behind_33 : decode cX9_behind 33 = .ok (.aload_n 0, 1) := by decide +kernel
theorem dX9_behind_34 : decode cX9_behind 34 = .ok (.getfield 51, 3) := by decide +kernel
theorem dX9_behind_37 : decode cX9_behind 37 = .ok (.iload_n 1, 1) := by decide +kernel
theorem dX9_behind_38 : decode cX9_behind 38 = .ok (.invokevirtual 189, 3) := by decide +kernel
theorem dX9_behind_41 : decode cX9_behind 41 = .ok (.iload_n 2, 1) := by decide +kernel
theorem dX9_behind_42 : decode cX9_behind 42 = .ok (.ifCond .ne 13, 3) := by decide +kernel
theorem dX9_behind_45 : decode cX9_behind 45 = .ok (.aload_n 0, 1) := by decide +kernel
theorem dX9_behind_46 : decode cX9_behind 46 = .ok (.getfield 51, 3) := by decide +kernel
theorem dX9_behind_49 : decode cX9_behind 49 = .ok (.getfield 213, 3) := by decide +kernel
theorem dX9_behind_52 : decode cX9_behind 52 = .ok (.goto 25, 3) := by decide +kernel
theorem dX9_behind_55 : decode cX9_behind 55 = .ok (.iload_n 2, 1) := by decide +kernel
theorem dX9_behind_56 : decode cX9_behind 56 = .ok (.iconst 1, 1) := by decide +kernel
theorem dX9_behind_57 : decode cX9_behind 57 = .ok (.if_icmp .ne 13, 3) := by decide +kernel
theorem dX9_behind_60 : decode cX9_behind 60 = .ok (.aload_n 0, 1) := by decide +kernel
theorem dX9_behind_61 : decode cX9_behind 61 = .ok (.getfield 51, 3) := by decide +kernel
theorem dX9_behind_64 : decode cX9_behind 64 = .ok (.getfield 216, 3) := by decide +kernel
theorem dX9_behind_67 : decode cX9_behind 67 = .ok (.goto 10, 3) := by decide +kernel
theorem dX9_behind_70 : decode cX9_behind 70 = .ok (.aload_n 0, 1) := by decide +kernel
theorem dX9_behind_71 : decode cX9_behind 71 = .ok (.getfield 51, 3) := by decide +kernel
theorem dX9_behind_74 : decode cX9_behind 74 = .ok (.getfield 219, 3) := by decide +kernel
theorem dX9_behind_77 : decode cX9_behind 77 = .ok (.ireturn, 1) := by decide +kernel
theorem dX9_ham_0 : decode cX9_ham 0 = .ok (.iload_n 1, 1) := by decide +kernel
theorem dX9_ham_1 : decode cX9_ham 1 = .ok (.ifCond .lt 8, 3) := by decide +kernel
theorem dX9_ham_4 : decode cX9_ham 4 = .ok (.iload_n 1, 1) := by decide +kernel
theorem dX9_ham_5 : decode cX9_ham 5 = .ok (.iconst 1, 1) := by decide +kernel
theorem dX9_ham_6 : decode cX9_ham 6 = .ok (.if_icmp .le 5, 3) := by decide +kernel
theorem dX9_ham_9 : decode cX9_ham 9 = .ok (.iconst (-1), 1) := by decide +kernel
theorem dX9_ham_10 : decode cX9_ham 10 = .ok (.ireturn, 1) := by decide +kernel
theorem dX9_ham_11 : decode cX9_ham 11 = .ok (.aload_n 0, 1) := by decide +kernel
theorem dX9_ham_12 : decode cX9_ham 12 = .ok (.getfield 51, 3) := by decide +kernel
theorem dX9_ham_15 : decode cX9_ham 15 = .ok (.aload_n 0, 1) := by decide +kernel
theorem dX9_ham_16 : decode cX9_ham 16 = .ok (.getfield 47, 3) := by decide +kernel
theorem dX9_ham_19 : decode cX9_ham 19 = .ok (.invokevirtual 210, 3) := by decide +kernel
theorem dX9_ham_22 : decode cX9_ham 22 = .ok (.iconst 1, 1) := by decide +kernel
theorem dX9_ham_23 : decode cX9_ham 23 = .ok (.istore_n 2, 1) := by decide +kernel
theorem dX9_ham_24 : decode cX9_ham 24 = .ok (.iload_n 2, 1) := by decide +kernel
theorem dX9_ham_25 : decode cX9_ham 25 = .ok (.bipush 28, 2) := by decide +kernel
theorem dX9_ham_27 : decode cX9_ham 27 = .ok (.if_icmp .gt 44, 3) := by decide +kernel
theorem dX9_ham_30 : decode cX9_ham 30 = .ok (.aload_n 0, 1) := by decide +kernel
theorem dX9_ham_31 : decode cX9_ham 31 = .ok (.aload_n 0, 1) := by decide +kernel
theorem dX9_ham_32 : decode cX9_ham 32 = .ok (.getfield 51, 3) := by decide +kernel
theorem dX9_ham_35 : decode cX9_ham 35 = .ok (.iconst 1, 1) := by decide +kernel
theorem dX9_ham_36 : decode cX9_ham 36 = .ok (.invokevirtual 189, 3) := by decide +kernel
theorem dX9_ham_39 : decode cX9_ham 39 = .ok (.aload_n 0, 1) := by decide +kernel
theorem dX9_ham_40 : decode cX9_ham 40 = .ok (.getfield 40, 3) := by decide +kernel
theorem dX9_ham_43 : decode cX9_ham 43 = .ok (.getfield 222, 3) := by decide +kernel
theorem dX9_ham_46 : decode cX9_ham 46 = .ok (.ifCond .le 19, 3) := by decide +kernel
theorem dX9_ham_49 : decode cX9_ham 49 = .ok (.iload_n 1, 1) := by decide +kernel
theorem dX9_ham_50 : decode cX9_ham 50 = .ok (.ifCond .ne 7, 3) := by decide +kernel
theorem dX9_ham_53 : decode cX9_ham 53 = .ok (.iload_n 2, 1) := by decide +kernel
theorem dX9_ham_54 : decode cX9_ham 54 = .ok (.goto 10, 3) := by decide +kernel
theorem dX9_ham_57 : decode cX9_ham 57 = .ok (.aload_n 0, 1) := by decide +kernel
theorem dX9_ham_58 : decode cX9_ham 58 = .ok (.getfield 40, 3) := by decide +kernel
theorem dX9_ham_61 : decode cX9_ham 61 = .ok (.getfield 223, 3) := by decide +kernel
theorem dX9_ham_64 : decode cX9_ham 64 = .ok (.ireturn, 1) := by decide +kernel
theorem dX9_ham_65 : decode cX9_ham 65 = .ok (.iinc 2 1, 3) := by decide +kernel
theorem dX9_ham_68 : decode cX9_ham 68 = .ok (.goto (-44), 3) := by decide +kernel
theorem dX9_ham_71 : decode cX9_ham 71 = .ok (.bipush (-4), 2) := by decide +kernel
theorem dX9_ham_73 : decode cX9_ham 73 = .ok (.ireturn, 1) := by decide +kernel
theorem dX9_suppers_0 : decode cX9_suppers 0 = .ok (.iload_n 1, 1) := by decide +kernel
theorem dX9_suppers_1 : decode cX9_suppers 1 = .ok (.ifCond .lt 8, 3) := by decide +kernel
theorem dX9_suppers_4 : decode cX9_suppers 4 = .ok (.iload_n 1, 1) := by decide +kernel
theorem dX9_suppers_5 : decode cX9_suppers 5 = .ok (.iconst 1, 1) := by decide +kernel
theorem dX9_suppers_6 : decode cX9_suppers 6 = .ok (.if_icmp .le 5, 3) := by decide +kernel
theorem dX9_suppers_9 : decode cX9_suppers 9 = .ok (.iconst (-1), 1) := by decide +kernel
theorem dX9_suppers_10 : decode cX9_suppers 10 = .ok (.ireturn, 1) := by decide +kernel
theorem dX9_suppers_11 : decode cX9_suppers 11 = .ok (.aload_n 0, 1) := by decide +kernel
theorem dX9_suppers_12 : decode cX9_suppers 12 = .ok (.getfield 76, 3) := by decide +kernel
theorem dX9_suppers_15 : decode cX9_suppers 15 = .ok (.invokevirtual 226, 3) := by decide +kernel
theorem dX9_suppers_18 : decode cX9_suppers 18 = .ok (.iconst 0, 1) := by decide +kernel
theorem dX9_suppers_19 : decode cX9_suppers 19 = .ok (.istore_n 2, 1) := by decide +kernel
theorem dX9_suppers_20 : decode cX9_suppers 20 = .ok (.iload_n 2, 1) := by decide +kernel
theorem dX9_suppers_21 : decode cX9_suppers 21 = .ok (.iconst 1, 1) := by decide +kernel
theorem dX9_suppers_22 : decode cX9_suppers 22 = .ok (.aload_n 0, 1) := by decide +kernel
theorem dX9_suppers_23 : decode cX9_suppers 23 = .ok (.getfield 19, 3) := by decide +kernel
theorem dX9_suppers_26 : decode cX9_suppers 26 = .ok (.getfield 107, 3) := by decide +kernel
theorem dX9_suppers_29 : decode cX9_suppers 29 = .ok (.ishl, 1) := by decide +kernel
theorem dX9_suppers_30 : decode cX9_suppers 30 = .ok (.if_icmp .ge 34, 3) := by decide +kernel
theorem dX9_suppers_33 : decode cX9_suppers 33 = .ok (.iload_n 2, 1) := by decide +kernel
theorem dX9_suppers_34 : decode cX9_suppers 34 = .ok (.aload_n 0, 1) := by decide +kernel
theorem dX9_suppers_35 : decode cX9_suppers 35 = .ok (.getfield 47, 3) := by decide +kernel
theorem dX9_suppers_38 : decode cX9_suppers 38 = .ok (.getfield 143, 3) := by decide +kernel
theorem dX9_suppers_41 : decode cX9_suppers 41 = .ok (.iand, 1) := by decide +kernel
theorem dX9_suppers_42 : decode cX9_suppers 42 = .ok (.ifCond .ne 16, 3) := by decide +kernel
theorem dX9_suppers_45 : decode cX9_suppers 45 = .ok (.aload_n 0, 1) := by decide +kernel
theorem dX9_suppers_46 : decode cX9_suppers 46 = .ok (.getfield 76, 3) := by decide +kernel
theorem dX9_suppers_49 : decode cX9_suppers 49 = .ok (.iload_n 2, 1) := by decide +kernel
theorem dX9_suppers_50 : decode cX9_suppers 50 = .ok (.aload_n 0, 1) := by decide +kernel
theorem dX9_suppers_51 : decode cX9_suppers 51 = .ok (.iload_n 2, 1) := by decide +kernel
theorem dX9_suppers_52 : decode cX9_suppers 52 = .ok (.invokevirtual 227, 3) := by decide +kernel
theorem dX9_suppers_55 : decode cX9_suppers 55 = .ok (.invokevirtual 230, 3) := by decide +kernel
theorem dX9_suppers_58 : decode cX9_suppers 58 = .ok (.iinc 2 1, 3) := by decide +kernel
theorem dX9_suppers_61 : decode cX9_suppers 61 = .ok (.goto (-41), 3) := by decide +kernel
theorem dX9_suppers_64 : decode cX9_suppers 64 = .ok (.iload_n 1, 1) := by decide +kernel
theorem dX9_suppers_65 : decode cX9_suppers 65 = .ok (.ifCond .ne 13, 3) := by decide +kernel
theorem dX9_suppers_68 : decode cX9_suppers 68 = .ok (.aload_n 0, 1) := by decide +kernel
theorem dX9_suppers_69 : decode cX9_suppers 69 = .ok (.getfield 76, 3) := by decide +kernel
theorem dX9_suppers_72 : decode cX9_suppers 72 = .ok (.getfield 233, 3) := by decide +kernel
theorem dX9_suppers_75 : decode cX9_suppers 75 = .ok (.goto 10, 3) := by decide +kernel
theorem dX9_suppers_78 : decode cX9_suppers 78 = .ok (.aload_n 0, 1) := by decide +kernel
theorem dX9_suppers_79 : decode cX9_suppers 79 = .ok (.getfield 76, 3) := by decide +kernel
theorem dX9_suppers_82 : decode cX9_suppers 82 = .ok (.getfield 236, 3) := by decide +kernel
theorem dX9_suppers_85 : decode cX9_suppers 85 = .ok (.ireturn, 1) := by decide +kernel
theorem dX9_apart_0 : decode cX9_apart 0 = .ok (.iload_n 1, 1) := by decide +kernel
theorem dX9_apart_1 : decode cX9_apart 1 = .ok (.iconst 1, 1) := by decide +kernel
theorem dX9_apart_2 : decode cX9_apart 2 = .ok (.if_icmp .lt 18, 3) := by decide +kernel
theorem dX9_apart_5 : decode cX9_apart 5 = .ok (.iload_n 1, 1) := by decide +kernel
theorem dX9_apart_6 : decode cX9_apart 6 = .ok (.bipush 14, 2) := by decide +kernel
theorem dX9_apart_8 : decode cX9_apart 8 = .ok (.if_icmp .gt 12, 3) := by decide +kernel
theorem dX9_apart_11 : decode cX9_apart 11 = .ok (.iload_n 2, 1) := by decide +kernel
theorem dX9_apart_12 : decode cX9_apart 12 = .ok (.ifCond .lt 8, 3) := by decide +kernel
theorem dX9_apart_15 : decode cX9_apart 15 = .ok (.iload_n 2, 1) := by decide +kernel
theorem dX9_apart_16 : decode cX9_apart 16 = .ok (.iconst 1, 1) := by decide +kernel
theorem dX9_apart_17 : decode cX9_apart 17 = .ok (.if_icmp .le 5, 3) := by decide +kernel
theorem dX9_apart_20 : decode cX9_apart 20 = .ok (.iconst (-1), 1) := by decide +kernel
theorem dX9_apart_21 : decode cX9_apart 21 = .ok (.ireturn, 1) := by decide +kernel
theorem dX9_apart_22 : decode cX9_apart 22 = .ok (.iconst 1, 1) := by decide +kernel
theorem dX9_apart_23 : decode cX9_apart 23 = .ok (.aload_n 0, 1) := by decide +kernel
theorem dX9_apart_24 : decode cX9_apart 24 = .ok (.getfield 47, 3) := by decide +kernel
theorem dX9_apart_27 : decode cX9_apart 27 = .ok (.getfield 173, 3) := by decide +kernel
theorem dX9_apart_30 : decode cX9_apart 30 = .ok (.invokestatic 196, 3) := by decide +kernel
theorem dX9_apart_33 : decode cX9_apart 33 = .ok (.ishl, 1) := by decide +kernel
theorem dX9_apart_34 : decode cX9_apart 34 = .ok (.istore_n 3, 1) := by decide +kernel
theorem dX9_apart_35 : decode cX9_apart 35 = .ok (.aload_n 0, 1) := by decide +kernel
theorem dX9_apart_36 : decode cX9_apart 36 = .ok (.getfield 76, 3) := by decide +kernel
theorem dX9_apart_39 : decode cX9_apart 39 = .ok (.invokevirtual 226, 3) := by decide +kernel
theorem dX9_apart_42 : decode cX9_apart 42 = .ok (.iconst 0, 1) := by decide +kernel
theorem dX9_apart_43 : decode cX9_apart 43 = .ok (.istore 4, 2) := by decide +kernel
theorem dX9_apart_45 : decode cX9_apart 45 = .ok (.iload 4, 2) := by decide +kernel
theorem dX9_apart_47 : decode cX9_apart 47 = .ok (.iload_n 3, 1) := by decide +kernel
theorem dX9_apart_48 : decode cX9_apart 48 = .ok (.if_icmp .ge 25, 3) := by decide +kernel
theorem dX9_apart_51 : decode cX9_apart 51 = .ok (.aload_n 0, 1) := by decide +kernel
theorem dX9_apart_52 : decode cX9_apart 52 = .ok (.getfield 76, 3) := by decide +kernel
theorem dX9_apart_55 : decode cX9_apart 55 = .ok (.iload 4, 2) := by decide +kernel
theorem dX9_apart_57 : decode cX9_apart 57 = .ok (.aload_n 0, 1) := by decide +kernel
theorem dX9_apart_58 : decode cX9_apart 58 = .ok (.iload 4, 2) := by decide +kernel
theorem dX9_apart_60 : decode cX9_apart 60 = .ok (.iload_n 1, 1) := by decide +kernel
theorem dX9_apart_61 : decode cX9_apart 61 = .ok (.invokevirtual 239, 3) := by decide +kernel
theorem dX9_apart_64 : decode cX9_apart 64 = .ok (.invokevirtual 230, 3) := by decide +kernel
theorem dX9_apart_67 : decode cX9_apart 67 = .ok (.iinc 4 1, 3) := by decide +kernel
theorem dX9_apart_70 : decode cX9_apart 70 = .ok (.goto (-25), 3) := by decide +kernel
theorem dX9_apart_73 : decode cX9_apart 73 = .ok (.iload_n 2, 1) := by decide +kernel
theorem dX9_apart_74 : decode cX9_apart 74 = .ok (.ifCond .ne 13, 3) := by decide +kernel
theorem dX9_apart_77 : decode cX9_apart 77 = .ok (.aload_n 0, 1) := by decide +kernel
theorem dX9_apart_78 : decode cX9_apart 78 = .ok (.getfield 76, 3) := by decide +kernel
theorem dX9_apart_81 : decode cX9_apart 81 = .ok (.getfield 236, 3) := by decide +kernel
theorem dX9_apart_84 : decode cX9_apart 84 = .ok (.goto 10, 3) := by decide +kernel
theorem dX9_apart_87 : decode cX9_apart 87 = .ok (.aload_n 0, 1) := by decide +kernel
theorem dX9_apart_88 : decode cX9_apart 88 = .ok (.getfield 76, 3) := by decide +kernel
theorem dX9_apart_91 : decode cX9_apart 91 = .ok (.getfield 233, 3) := by decide +kernel
theorem dX9_apart_94 : decode cX9_apart 94 = .ok (.ireturn, 1) := by decide +kernel
theorem dX9_ask_0 : decode cX9_ask 0 = .ok (.aload_n 0, 1) := by decide +kernel
theorem dX9_ask_1 : decode cX9_ask 1 = .ok (.iload_n 1, 1) := by decide +kernel
theorem dX9_ask_2 : decode cX9_ask 2 = .ok (.invokevirtual 146, 3) := by decide +kernel
theorem dX9_ask_5 : decode cX9_ask 5 = .ok (.ifCond .ne 5, 3) := by decide +kernel
theorem dX9_ask_8 : decode cX9_ask 8 = .ok (.iconst (-1), 1) := by decide +kernel
theorem dX9_ask_9 : decode cX9_ask 9 = .ok (.ireturn, 1) := by decide +kernel
theorem dX9_ask_10 : decode cX9_ask 10 = .ok (.aload_n 0, 1) := by decide +kernel
theorem dX9_ask_11 : decode cX9_ask 11 = .ok (.getfield 19, 3) := by decide +kernel
theorem dX9_ask_14 : decode cX9_ask 14 = .ok (.iload_n 1, 1) := by decide +kernel
theorem dX9_ask_15 : decode cX9_ask 15 = .ok (.aload_n 0, 1) := by decide +kernel
theorem dX9_ask_16 : decode cX9_ask 16 = .ok (.getfield 47, 3) := by decide +kernel
theorem dX9_ask_19 : decode cX9_ask 19 = .ok (.getfield 161, 3) := by decide +kernel
theorem dX9_ask_22 : decode cX9_ask 22 = .ok (.invokevirtual 163, 3) := by decide +kernel
theorem dX9_ask_25 : decode cX9_ask 25 = .ok (.ifCond .ne 6, 3) := by decide +kernel
theorem dX9_ask_28 : decode cX9_ask 28 = .ok (.bipush (-4), 2) := by decide +kernel
theorem dX9_ask_30 : decode cX9_ask 30 = .ok (.ireturn, 1) := by decide +kernel
theorem dX9_ask_31 : decode cX9_ask 31 = .ok (.aload_n 0, 1) := by decide +kernel
theorem dX9_ask_32 : decode cX9_ask 32 = .ok (.getfield 40, 3) := by decide +kernel
theorem dX9_ask_35 : decode cX9_ask 35 = .ok (.aload_n 0, 1) := by decide +kernel
theorem dX9_ask_36 : decode cX9_ask 36 = .ok (.getfield 47, 3) := by decide +kernel
theorem dX9_ask_39 : decode cX9_ask 39 = .ok (.aload_n 0, 1) := by decide +kernel
theorem dX9_ask_40 : decode cX9_ask 40 = .ok (.getfield 19, 3) := by decide +kernel
theorem dX9_ask_43 : decode cX9_ask 43 = .ok (.aload_n 0, 1) := by decide +kernel
theorem dX9_ask_44 : decode cX9_ask 44 = .ok (.getfield 47, 3) := by decide +kernel
theorem dX9_ask_47 : decode cX9_ask 47 = .ok (.getfield 161, 3) := by decide +kernel
theorem dX9_ask_50 : decode cX9_ask 50 = .ok (.invokevirtual 242, 3) := by decide +kernel
theorem dX9_ask_53 : decode cX9_ask 53 = .ok (.iload_n 1, 1) := by decide +kernel
theorem dX9_ask_54 : decode cX9_ask 54 = .ok (.invokevirtual 245, 3) := by decide +kernel
theorem dX9_ask_57 : decode cX9_ask 57 = .ok (.aload_n 0, 1) := by decide +kernel
theorem dX9_ask_58 : decode cX9_ask 58 = .ok (.getfield 40, 3) := by decide +kernel
theorem dX9_ask_61 : decode cX9_ask 61 = .ok (.aload_n 0, 1) := by decide +kernel
theorem dX9_ask_62 : decode cX9_ask 62 = .ok (.getfield 19, 3) := by decide +kernel
theorem dX9_ask_65 : decode cX9_ask 65 = .ok (.getfield 152, 3) := by decide +kernel
theorem dX9_ask_68 : decode cX9_ask 68 = .ok (.iload_n 1, 1) := by decide +kernel
theorem dX9_ask_69 : decode cX9_ask 69 = .ok (.invokevirtual 118, 3) := by decide +kernel
theorem dX9_ask_72 : decode cX9_ask 72 = .ok (.invokevirtual 249, 3) := by decide +kernel
theorem dX9_ask_75 : decode cX9_ask 75 = .ok (.istore_n 2, 1) := by decide +kernel
theorem dX9_ask_76 : decode cX9_ask 76 = .ok (.iload_n 2, 1) := by decide +kernel
theorem dX9_ask_77 : decode cX9_ask 77 = .ok (.bipush (-4), 2) := by decide +kernel
theorem dX9_ask_79 : decode cX9_ask 79 = .ok (.if_icmp .ne 6, 3) := by decide +kernel
theorem dX9_ask_82 : decode cX9_ask 82 = .ok (.bipush (-4), 2) := by decide +kernel
theorem dX9_ask_84 : decode cX9_ask 84 = .ok (.ireturn, 1) := by decide +kernel
theorem dX9_ask_85 : decode cX9_ask 85 = .ok (.iconst 0, 1) := by decide +kernel
theorem dX9_ask_86 : decode cX9_ask 86 = .ok (.istore_n 3, 1) := by decide +kernel
theorem dX9_ask_87 : decode cX9_ask 87 = .ok (.iload_n 3, 1) := by decide +kernel
theorem dX9_ask_88 : decode cX9_ask 88 = .ok (.iconst 3, 1) := by decide +kernel
theorem dX9_ask_89 : decode cX9_ask 89 = .ok (.if_icmp .gt 40, 3) := by decide +kernel
theorem dX9_ask_92 : decode cX9_ask 92 = .ok (.iload_n 3, 1) := by decide +kernel
theorem dX9_ask_93 : decode cX9_ask 93 = .ok (.aload_n 0, 1) := by decide +kernel
theorem dX9_ask_94 : decode cX9_ask 94 = .ok (.getfield 19, 3) := by decide +kernel
theorem dX9_ask_97 : decode cX9_ask 97 = .ok (.getfield 158, 3) := by decide +kernel
theorem dX9_ask_100 : decode cX9_ask 100 = .ok (.iload_n 1, 1) := by decide +kernel
theorem dX9_ask_101 : decode cX9_ask 101 = .ok (.invokevirtual 118, 3) := by decide +kernel
theorem dX9_ask_104 : decode cX9_ask 104 = .ok (.aload_n 0, 1) := by decide +kernel
theorem dX9_ask_105 : decode cX9_ask 105 = .ok (.getfield 19, 3) := by decide +kernel
theorem dX9_ask_108 : decode cX9_ask 108 = .ok (.getfield 114, 3) := by decide +kernel
theorem dX9_ask_111 : decode cX9_ask 111 = .ok (.iload_n 2, 1) := by decide +kernel
theorem dX9_ask_112 : decode cX9_ask 112 = .ok (.invokevirtual 118, 3) := by decide +kernel
theorem dX9_ask_115 : decode cX9_ask 115 = .ok (.invokestatic 252, 3) := by decide +kernel
theorem dX9_ask_118 : decode cX9_ask 118 = .ok (.ifCond .ne 5, 3) := by decide +kernel
theorem dX9_ask_121 : decode cX9_ask 121 = .ok (.iload_n 3, 1) := by decide +kernel
theorem dX9_ask_122 : decode cX9_ask 122 = .ok (.ireturn, 1) := by decide +kernel
theorem dX9_ask_123 : decode cX9_ask 123 = .ok (.iinc 3 1, 3) := by decide +kernel
theorem dX9_ask_126 : decode cX9_ask 126 = .ok (.goto (-39), 3) := by decide +kernel
theorem dX9_ask_129 : decode cX9_ask 129 = .ok (.bipush (-4), 2) := by decide +kernel
theorem dX9_ask_131 : decode cX9_ask 131 = .ok (.ireturn, 1) := by decide +kernel
theorem dX9_see_0 : decode cX9_see 0 = .ok (.aload_n 0, 1) := by decide +kernel
theorem dX9_see_1 : decode cX9_see 1 = .ok (.iload_n 1, 1) := by decide +kernel
theorem dX9_see_2 : decode cX9_see 2 = .ok (.invokevirtual 110, 3) := by decide +kernel
theorem dX9_see_5 : decode cX9_see 5 = .ok (.ifCond .eq 13, 3) := by decide +kernel
theorem dX9_see_8 : decode cX9_see 8 = .ok (.iload_n 2, 1) := by decide +kernel
theorem dX9_see_9 : decode cX9_see 9 = .ok (.ifCond .lt 9, 3) := by decide +kernel
theorem dX9_see_12 : decode cX9_see 12 = .ok (.iload_n 2, 1) := by decide +kernel
theorem dX9_see_13 : decode cX9_see 13 = .ok (.bipush 99, 2) := by decide +kernel
theorem dX9_see_15 : decode cX9_see 15 = .ok (.if_icmp .le 5, 3) := by decide +kernel
theorem dX9_see_18 : decode cX9_see 18 = .ok (.iconst (-1), 1) := by decide +kernel
theorem dX9_see_19 : decode cX9_see 19 = .ok (.ireturn, 1) := by decide +kernel
theorem dX9_see_20 : decode cX9_see 20 = .ok (.aload_n 0, 1) := by decide +kernel
theorem dX9_see_21 : decode cX9_see 21 = .ok (.getfield 69, 3) := by decide +kernel
theorem dX9_see_24 : decode cX9_see 24 = .ok (.getfield 256, 3) := by decide +kernel
theorem dX9_see_27 : decode cX9_see 27 = .ok (.bipush 8, 2) := by decide +kernel
theorem dX9_see_29 : decode cX9_see 29 = .ok (.if_icmp .lt 6, 3) := by decide +kernel
theorem dX9_see_32 : decode cX9_see 32 = .ok (.bipush (-3), 2) := by decide +kernel
theorem dX9_see_34 : decode cX9_see 34 = .ok (.ireturn, 1) := by decide +kernel
theorem dX9_see_35 : decode cX9_see 35 = .ok (.aload_n 0, 1) := by decide +kernel
theorem dX9_see_36 : decode cX9_see 36 = .ok (.getfield 69, 3) := by decide +kernel
theorem dX9_see_39 : decode cX9_see 39 = .ok (.iload_n 1, 1) := by decide +kernel
theorem dX9_see_40 : decode cX9_see 40 = .ok (.iload_n 2, 1) := by decide +kernel
theorem dX9_see_41 : decode cX9_see 41 = .ok (.iload_n 3, 1) := by decide +kernel
theorem dX9_see_42 : decode cX9_see 42 = .ok (.invokevirtual 257, 3) := by decide +kernel
theorem dX9_see_45 : decode cX9_see 45 = .ok (.aload_n 0, 1) := by decide +kernel
theorem dX9_see_46 : decode cX9_see 46 = .ok (.getfield 69, 3) := by decide +kernel
theorem dX9_see_49 : decode cX9_see 49 = .ok (.getfield 256, 3) := by decide +kernel
theorem dX9_see_52 : decode cX9_see 52 = .ok (.ireturn, 1) := by decide +kernel
theorem dX9_forget_0 : decode cX9_forget 0 = .ok (.aload_n 0, 1) := by decide +kernel
theorem dX9_forget_1 : decode cX9_forget 1 = .ok (.getfield 69, 3) := by decide +kernel
theorem dX9_forget_4 : decode cX9_forget 4 = .ok (.getfield 256, 3) := by decide +kernel
theorem dX9_forget_7 : decode cX9_forget 7 = .ok (.istore_n 1, 1) := by decide +kernel
theorem dX9_forget_8 : decode cX9_forget 8 = .ok (.aload_n 0, 1) := by decide +kernel
theorem dX9_forget_9 : decode cX9_forget 9 = .ok (.getfield 69, 3) := by decide +kernel
theorem dX9_forget_12 : decode cX9_forget 12 = .ok (.invokevirtual 260, 3) := by decide +kernel
theorem dX9_forget_15 : decode cX9_forget 15 = .ok (.iload_n 1, 1) := by decide +kernel
theorem dX9_forget_16 : decode cX9_forget 16 = .ok (.ireturn, 1) := by decide +kernel
theorem dX9_law_0 : decode cX9_law 0 = .ok (.aload_n 0, 1) := by decide +kernel
theorem dX9_law_1 : decode cX9_law 1 = .ok (.iload_n 1, 1) := by decide +kernel
theorem dX9_law_2 : decode cX9_law 2 = .ok (.invokevirtual 110, 3) := by decide +kernel
theorem dX9_law_5 : decode cX9_law 5 = .ok (.ifCond .eq 12, 3) := by decide +kernel
theorem dX9_law_8 : decode cX9_law 8 = .ok (.iload_n 2, 1) := by decide +kernel
theorem dX9_law_9 : decode cX9_law 9 = .ok (.ifCond .lt 8, 3) := by decide +kernel
theorem dX9_law_12 : decode cX9_law 12 = .ok (.iload_n 2, 1) := by decide +kernel
theorem dX9_law_13 : decode cX9_law 13 = .ok (.iconst 1, 1) := by decide +kernel
theorem dX9_law_14 : decode cX9_law 14 = .ok (.if_icmp .le 5, 3) := by decide +kernel
theorem dX9_law_17 : decode cX9_law 17 = .ok (.iconst (-1), 1) := by decide +kernel
theorem dX9_law_18 : decode cX9_law 18 = .ok (.ireturn, 1) := by decide +kernel
theorem dX9_law_19 : decode cX9_law 19 = .ok (.iconst 0, 1) := by decide +kernel
theorem dX9_law_20 : decode cX9_law 20 = .ok (.istore_n 3, 1) := by decide +kernel
theorem dX9_law_21 : decode cX9_law 21 = .ok (.bipush (-4), 2) := by decide +kernel
theorem dX9_law_23 : decode cX9_law 23 = .ok (.istore 4, 2) := by decide +kernel
theorem dX9_law_25 : decode cX9_law 25 = .ok (.iconst 1, 1) := by decide +kernel
theorem dX9_law_26 : decode cX9_law 26 = .ok (.istore 5, 2) := by decide +kernel
theorem dX9_law_28 : decode cX9_law 28 = .ok (.iload 5, 2) := by decide +kernel
theorem dX9_law_30 : decode cX9_law 30 = .ok (.bipush 10, 2) := by decide +kernel
theorem dX9_law_32 : decode cX9_law 32 = .ok (.if_icmp .gt 62, 3) := by decide +kernel
theorem dX9_law_35 : decode cX9_law 35 = .ok (.iconst 0, 1) := by decide +kernel
theorem dX9_law_36 : decode cX9_law 36 = .ok (.istore 6, 2) := by decide +kernel
theorem dX9_law_38 : decode cX9_law 38 = .ok (.iload 6, 2) := by decide +kernel
theorem dX9_law_40 : decode cX9_law 40 = .ok (.iload 5, 2) := by decide +kernel
theorem dX9_law_42 : decode cX9_law 42 = .ok (.if_icmp .ge 46, 3) := by decide +kernel
theorem dX9_law_45 : decode cX9_law 45 = .ok (.aload_n 0, 1) := by decide +kernel
theorem dX9_law_46 : decode cX9_law 46 = .ok (.getfield 69, 3) := by decide +kernel
theorem dX9_law_49 : decode cX9_law 49 = .ok (.iload_n 1, 1) := by decide +kernel
theorem dX9_law_50 : decode cX9_law 50 = .ok (.iload 5, 2) := by decide +kernel
theorem dX9_law_52 : decode cX9_law 52 = .ok (.iload 6, 2) := by decide +kernel
theorem dX9_law_54 : decode cX9_law 54 = .ok (.invokevirtual 261, 3) := by decide +kernel
theorem dX9_law_57 : decode cX9_law 57 = .ok (.ifCond .eq 25, 3) := by decide +kernel
theorem dX9_law_60 : decode cX9_law 60 = .ok (.iload_n 3, 1) := by decide +kernel
theorem dX9_law_61 : decode cX9_law 61 = .ok (.ifCond .ne 14, 3) := by decide +kernel
theorem dX9_law_64 : decode cX9_law 64 = .ok (.bipush 10, 2) := by decide +kernel
theorem dX9_law_66 : decode cX9_law 66 = .ok (.iload 5, 2) := by decide +kernel
theorem dX9_law_68 : decode cX9_law 68 = .ok (.imul, 1) := by decide +kernel
theorem dX9_law_69 : decode cX9_law 69 = .ok (.iload 6, 2) := by decide +kernel
theorem dX9_law_71 : decode cX9_law 71 = .ok (.iadd, 1) := by decide +kernel
theorem dX9_law_72 : decode cX9_law 72 = .ok (.goto 5, 3) := by decide +kernel
theorem dX9_law_75 : decode cX9_law 75 = .ok (.iload 4, 2) := by decide +kernel
theorem dX9_law_77 : decode cX9_law 77 = .ok (.istore 4, 2) := by decide +kernel
theorem dX9_law_79 : decode cX9_law 79 = .ok (.iinc 3 1, 3) := by decide +kernel
theorem dX9_law_82 : decode cX9_law 82 = .ok (.iinc 6 1, 3) := by decide +kernel
theorem dX9_law_85 : decode cX9_law 85 = .ok (.goto (-47), 3) := by decide +kernel
theorem dX9_law_88 : decode cX9_law 88 = .ok (.iinc 5 1, 3) := by decide +kernel
theorem dX9_law_91 : decode cX9_law 91 = .ok (.goto (-63), 3) := by decide +kernel
theorem dX9_law_94 : decode cX9_law 94 = .ok (.iload_n 2, 1) := by decide +kernel
theorem dX9_law_95 : decode cX9_law 95 = .ok (.ifCond .ne 7, 3) := by decide +kernel
theorem dX9_law_98 : decode cX9_law 98 = .ok (.iload_n 3, 1) := by decide +kernel
theorem dX9_law_99 : decode cX9_law 99 = .ok (.goto 5, 3) := by decide +kernel
theorem dX9_law_102 : decode cX9_law 102 = .ok (.iload 4, 2) := by decide +kernel
theorem dX9_law_104 : decode cX9_law 104 = .ok (.ireturn, 1) := by decide +kernel
theorem dX9_did_0 : decode cX9_did 0 = .ok (.aload_n 0, 1) := by decide +kernel
theorem dX9_did_1 : decode cX9_did 1 = .ok (.iload_n 1, 1) := by decide +kernel
theorem dX9_did_2 : decode cX9_did 2 = .ok (.invokevirtual 146, 3) := by decide +kernel
theorem dX9_did_5 : decode cX9_did 5 = .ok (.ifCond .ne 5, 3) := by decide +kernel
theorem dX9_did_8 : decode cX9_did 8 = .ok (.iconst (-1), 1) := by decide +kernel
theorem dX9_did_9 : decode cX9_did 9 = .ok (.ireturn, 1) := by decide +kernel
theorem dX9_did_10 : decode cX9_did 10 = .ok (.iconst 0, 1) := by decide +kernel
theorem dX9_did_11 : decode cX9_did 11 = .ok (.istore_n 2, 1) := by decide +kernel
theorem dX9_did_12 : decode cX9_did 12 = .ok (.iconst 0, 1) := by decide +kernel
theorem dX9_did_13 : decode cX9_did 13 = .ok (.istore_n 3, 1) := by decide +kernel
theorem dX9_did_14 : decode cX9_did 14 = .ok (.iload_n 3, 1) := by decide +kernel
theorem dX9_did_15 : decode cX9_did 15 = .ok (.aload_n 0, 1) := by decide +kernel
theorem dX9_did_16 : decode cX9_did 16 = .ok (.getfield 19, 3) := by decide +kernel
theorem dX9_did_19 : decode cX9_did 19 = .ok (.getfield 107, 3) := by decide +kernel
theorem dX9_did_22 : decode cX9_did 22 = .ok (.if_icmp .ge 55, 3) := by decide +kernel
theorem dX9_did_25 : decode cX9_did 25 = .ok (.aload_n 0, 1) := by decide +kernel
theorem dX9_did_26 : decode cX9_did 26 = .ok (.getfield 19, 3) := by decide +kernel
theorem dX9_did_29 : decode cX9_did 29 = .ok (.getfield 264, 3) := by decide +kernel
theorem dX9_did_32 : decode cX9_did 32 = .ok (.aload_n 0, 1) := by decide +kernel
theorem dX9_did_33 : decode cX9_did 33 = .ok (.getfield 19, 3) := by decide +kernel
theorem dX9_did_36 : decode cX9_did 36 = .ok (.getfield 152, 3) := by decide +kernel
theorem dX9_did_39 : decode cX9_did 39 = .ok (.iload_n 1, 1) := by decide +kernel
theorem dX9_did_40 : decode cX9_did 40 = .ok (.invokevirtual 118, 3) := by decide +kernel
theorem dX9_did_43 : decode cX9_did 43 = .ok (.invokevirtual 118, 3) := by decide +kernel
theorem dX9_did_46 : decode cX9_did 46 = .ok (.iload_n 3, 1) := by decide +kernel
theorem dX9_did_47 : decode cX9_did 47 = .ok (.invokestatic 193, 3) := by decide +kernel
theorem dX9_did_50 : decode cX9_did 50 = .ok (.ifCond .eq 21, 3) := by decide +kernel
theorem dX9_did_53 : decode cX9_did 53 = .ok (.aload_n 0, 1) := by decide +kernel
theorem dX9_did_54 : decode cX9_did 54 = .ok (.getfield 19, 3) := by decide +kernel
theorem dX9_did_57 : decode cX9_did 57 = .ok (.iload_n 1, 1) := by decide +kernel
theorem dX9_did_58 : decode cX9_did 58 = .ok (.iload_n 3, 1) := by decide +kernel
theorem dX9_did_59 : decode cX9_did 59 = .ok (.invokevirtual 267, 3) := by decide +kernel
theorem dX9_did_62 : decode cX9_did 62 = .ok (.ifCond .ne 9, 3) := by decide +kernel
theorem dX9_did_65 : decode cX9_did 65 = .ok (.iload_n 2, 1) := by decide +kernel
theorem dX9_did_66 : decode cX9_did 66 = .ok (.iconst 1, 1) := by decide +kernel
theorem dX9_did_67 : decode cX9_did 67 = .ok (.iload_n 3, 1) := by decide +kernel
theorem dX9_did_68 : decode cX9_did 68 = .ok (.ishl, 1) := by decide +kernel
theorem dX9_did_69 : decode cX9_did 69 = .ok (.ior, 1) := by decide +kernel
theorem dX9_did_70 : decode cX9_did 70 = .ok (.istore_n 2, 1) := by decide +kernel
theorem dX9_did_71 : decode cX9_did 71 = .ok (.iinc 3 1, 3) := by decide +kernel
theorem dX9_did_74 : decode cX9_did 74 = .ok (.goto (-60), 3) := by decide +kernel
theorem dX9_did_77 : decode cX9_did 77 = .ok (.iload_n 2, 1) := by decide +kernel
theorem dX9_did_78 : decode cX9_did 78 = .ok (.ireturn, 1) := by decide +kernel
theorem dX9_dogs_0 : decode cX9_dogs 0 = .ok (.iload_n 1, 1) := by decide +kernel
theorem dX9_dogs_1 : decode cX9_dogs 1 = .ok (.ifCond .lt 28, 3) := by decide +kernel
theorem dX9_dogs_4 : decode cX9_dogs 4 = .ok (.iload_n 1, 1) := by decide +kernel
theorem dX9_dogs_5 : decode cX9_dogs 5 = .ok (.bipush 6, 2) := by decide +kernel
theorem dX9_dogs_7 : decode cX9_dogs 7 = .ok (.if_icmp .gt 22, 3) := by decide +kernel
theorem dX9_dogs_10 : decode cX9_dogs 10 = .ok (.iload_n 2, 1) := by decide +kernel
theorem dX9_dogs_11 : decode cX9_dogs 11 = .ok (.ifCond .lt 18, 3) := by decide +kernel
theorem dX9_dogs_14 : decode cX9_dogs 14 = .ok (.iload_n 2, 1) := by decide +kernel
theorem dX9_dogs_15 : decode cX9_dogs 15 = .ok (.bipush 10, 2) := by decide +kernel
theorem dX9_dogs_17 : decode cX9_dogs 17 = .ok (.if_icmp .gt 12, 3) := by decide +kernel
theorem dX9_dogs_20 : decode cX9_dogs 20 = .ok (.iload_n 3, 1) := by decide +kernel
theorem dX9_dogs_21 : decode cX9_dogs 21 = .ok (.ifCond .lt 8, 3) := by decide +kernel
theorem dX9_dogs_24 : decode cX9_dogs 24 = .ok (.iload_n 3, 1) := by decide +kernel
theorem dX9_dogs_25 : decode cX9_dogs 25 = .ok (.iconst 1, 1) := by decide +kernel
theorem dX9_dogs_26 : decode cX9_dogs 26 = .ok (.if_icmp .le 5, 3) := by decide +kernel
theorem dX9_dogs_29 : decode cX9_dogs 29 = .ok (.iconst (-1), 1) := by decide +kernel
theorem dX9_dogs_30 : decode cX9_dogs 30 = .ok (.ireturn, 1) := by decide +kernel
theorem dX9_dogs_31 : decode cX9_dogs 31 = .ok (.iconst 0, 1) := by decide +kernel
theorem dX9_dogs_32 : decode cX9_dogs 32 = .ok (.istore 4, 2) := by decide +kernel
theorem dX9_dogs_34 : decode cX9_dogs 34 = .ok (.iconst 1, 1) := by decide +kernel
theorem dX9_dogs_35 : decode cX9_dogs 35 = .ok (.istore 5, 2) := by decide +kernel
theorem dX9_dogs_37 : decode cX9_dogs 37 = .ok (.iconst 0, 1) := by decide +kernel
theorem dX9_dogs_38 : decode cX9_dogs 38 = .ok (.istore 6, 2) := by decide +kernel
theorem dX9_dogs_40 : decode cX9_dogs 40 = .ok (.iload 6, 2) := by decide +kernel
theorem dX9_dogs_42 : decode cX9_dogs 42 = .ok (.iconst 1, 1) := by decide +kernel
theorem dX9_dogs_43 : decode cX9_dogs 43 = .ok (.iload_n 1, 1) := by decide +kernel
theorem dX9_dogs_44 : decode cX9_dogs 44 = .ok (.ishl, 1) := by decide +kernel
theorem dX9_dogs_45 : decode cX9_dogs 45 = .ok (.if_icmp .ge 31, 3) := by decide +kernel
theorem dX9_dogs_48 : decode cX9_dogs 48 = .ok (.aload_n 0, 1) := by decide +kernel
theorem dX9_dogs_49 : decode cX9_dogs 49 = .ok (.iload_n 1, 1) := by decide +kernel
theorem dX9_dogs_50 : decode cX9_dogs 50 = .ok (.iload 6, 2) := by decide +kernel
theorem dX9_dogs_52 : decode cX9_dogs 52 = .ok (.invokevirtual 270, 3) := by decide +kernel
theorem dX9_dogs_55 : decode cX9_dogs 55 = .ok (.ifCond .eq 15, 3) := by decide +kernel
theorem dX9_dogs_58 : decode cX9_dogs 58 = .ok (.iload 4, 2) := by decide +kernel
theorem dX9_dogs_60 : decode cX9_dogs 60 = .ok (.iload_n 1, 1) := by decide +kernel
theorem dX9_dogs_61 : decode cX9_dogs 61 = .ok (.iload_n 2, 1) := by decide +kernel
theorem dX9_dogs_62 : decode cX9_dogs 62 = .ok (.iload 6, 2) := by decide +kernel
theorem dX9_dogs_64 : decode cX9_dogs 64 = .ok (.invokestatic 273, 3) := by decide +kernel
theorem dX9_dogs_67 : decode cX9_dogs 67 = .ok (.iadd, 1) := by decide +kernel
theorem dX9_dogs_68 : decode cX9_dogs 68 = .ok (.istore 4, 2) := by decide +kernel
theorem dX9_dogs_70 : decode cX9_dogs 70 = .ok (.iinc 6 1, 3) := by decide +kernel
theorem dX9_dogs_73 : decode cX9_dogs 73 = .ok (.goto (-33), 3) := by decide +kernel
theorem dX9_dogs_76 : decode cX9_dogs 76 = .ok (.iconst 0, 1) := by decide +kernel
theorem dX9_dogs_77 : decode cX9_dogs 77 = .ok (.istore 6, 2) := by decide +kernel
theorem dX9_dogs_79 : decode cX9_dogs 79 = .ok (.iload 6, 2) := by decide +kernel
theorem dX9_dogs_81 : decode cX9_dogs 81 = .ok (.iload_n 1, 1) := by decide +kernel
theorem dX9_dogs_82 : decode cX9_dogs 82 = .ok (.if_icmp .ge 16, 3) := by decide +kernel
theorem dX9_dogs_85 : decode cX9_dogs 85 = .ok (.iload 5, 2) := by decide +kernel
theorem dX9_dogs_87 : decode cX9_dogs 87 = .ok (.bipush 10, 2) := by decide +kernel
theorem dX9_dogs_89 : decode cX9_dogs 89 = .ok (.imul, 1) := by decide +kernel
theorem dX9_dogs_90 : decode cX9_dogs 90 = .ok (.istore 5, 2) := by decide +kernel
theorem dX9_dogs_92 : decode cX9_dogs 92 = .ok (.iinc 6 1, 3) := by decide +kernel
theorem dX9_dogs_95 : decode cX9_dogs 95 = .ok (.goto (-16), 3) := by decide +kernel
theorem dX9_dogs_98 : decode cX9_dogs 98 = .ok (.iload_n 3, 1) := by decide +kernel
theorem dX9_dogs_99 : decode cX9_dogs 99 = .ok (.ifCond .ne 8, 3) := by decide +kernel
theorem dX9_dogs_102 : decode cX9_dogs 102 = .ok (.iload 4, 2) := by decide +kernel
theorem dX9_dogs_104 : decode cX9_dogs 104 = .ok (.goto 5, 3) := by decide +kernel
theorem dX9_dogs_107 : decode cX9_dogs 107 = .ok (.iload 5, 2) := by decide +kernel
theorem dX9_dogs_109 : decode cX9_dogs 109 = .ok (.iload 4, 2) := by decide +kernel
theorem dX9_dogs_111 : decode cX9_dogs 111 = .ok (.iload 5, 2) := by decide +kernel
theorem dX9_dogs_113 : decode cX9_dogs 113 = .ok (.iload_n 1, 1) := by decide +kernel
theorem dX9_dogs_114 : decode cX9_dogs 114 = .ok (.invokestatic 277, 3) := by decide +kernel
theorem dX9_dogs_117 : decode cX9_dogs 117 = .ok (.invokestatic 280, 3) := by decide +kernel
theorem dX9_dogs_120 : decode cX9_dogs 120 = .ok (.ireturn, 1) := by decide +kernel
theorem dX9_year_0 : decode cX9_year 0 = .ok (.iload_n 1, 1) := by decide +kernel
theorem dX9_year_1 : decode cX9_year 1 = .ok (.ifCond .lt 30, 3) := by decide +kernel
theorem dX9_year_4 : decode cX9_year 4 = .ok (.iload_n 1, 1) := by decide +kernel
theorem dX9_year_5 : decode cX9_year 5 = .ok (.sipush 9999, 3) := by decide +kernel
theorem dX9_year_8 : decode cX9_year 8 = .ok (.if_icmp .gt 23, 3) := by decide +kernel
theorem dX9_year_11 : decode cX9_year 11 = .ok (.iload_n 2, 1) := by decide +kernel
theorem dX9_year_12 : decode cX9_year 12 = .ok (.iconst 1, 1) := by decide +kernel
theorem dX9_year_13 : decode cX9_year 13 = .ok (.if_icmp .lt 18, 3) := by decide +kernel
theorem dX9_year_16 : decode cX9_year 16 = .ok (.iload_n 2, 1) := by decide +kernel
theorem dX9_year_17 : decode cX9_year 17 = .ok (.bipush 40, 2) := by decide +kernel
theorem dX9_year_19 : decode cX9_year 19 = .ok (.if_icmp .gt 12, 3) := by decide +kernel
theorem dX9_year_22 : decode cX9_year 22 = .ok (.iload_n 3, 1) := by decide +kernel
theorem dX9_year_23 : decode cX9_year 23 = .ok (.ifCond .lt 8, 3) := by decide +kernel
theorem dX9_year_26 : decode cX9_year 26 = .ok (.iload_n 3, 1) := by decide +kernel
theorem dX9_year_27 : decode cX9_year 27 = .ok (.iconst 1, 1) := by decide +kernel
theorem dX9_year_28 : decode cX9_year 28 = .ok (.if_icmp .le 5, 3) := by decide +kernel
theorem dX9_year_31 : decode cX9_year 31 = .ok (.iconst (-1), 1) := by decide +kernel
theorem dX9_year_32 : decode cX9_year 32 = .ok (.ireturn, 1) := by decide +kernel
theorem dX9_year_33 : decode cX9_year 33 = .ok (.aload_n 0, 1) := by decide +kernel
theorem dX9_year_34 : decode cX9_year 34 = .ok (.getfield 51, 3) := by decide +kernel
theorem dX9_year_37 : decode cX9_year 37 = .ok (.aload_n 0, 1) := by decide +kernel
theorem dX9_year_38 : decode cX9_year 38 = .ok (.getfield 47, 3) := by decide +kernel
theorem dX9_year_41 : decode cX9_year 41 = .ok (.invokevirtual 210, 3) := by decide +kernel
theorem dX9_year_44 : decode cX9_year 44 = .ok (.iconst 0, 1) := by decide +kernel
theorem dX9_year_45 : decode cX9_year 45 = .ok (.istore 4, 2) := by decide +kernel
theorem dX9_year_47 : decode cX9_year 47 = .ok (.iload 4, 2) := by decide +kernel
theorem dX9_year_49 : decode cX9_year 49 = .ok (.iload_n 2, 1) := by decide +kernel
theorem dX9_year_50 : decode cX9_year 50 = .ok (.if_icmp .ge 62, 3) := by decide +kernel
theorem dX9_year_53 : decode cX9_year 53 = .ok (.iload_n 1, 1) := by decide +kernel
theorem dX9_year_54 : decode cX9_year 54 = .ok (.iload 4, 2) := by decide +kernel
theorem dX9_year_56 : decode cX9_year 56 = .ok (.invokestatic 283, 3) := by decide +kernel
theorem dX9_year_59 : decode cX9_year 59 = .ok (.istore 5, 2) := by decide +kernel
theorem dX9_year_61 : decode cX9_year 61 = .ok (.iload 5, 2) := by decide +kernel
theorem dX9_year_63 : decode cX9_year 63 = .ok (.bipush 8, 2) := by decide +kernel
theorem dX9_year_65 : decode cX9_year 65 = .ok (.idiv, 1) := by decide +kernel
theorem dX9_year_66 : decode cX9_year 66 = .ok (.iconst 3, 1) := by decide +kernel
theorem dX9_year_67 : decode cX9_year 67 = .ok (.irem, 1) := by decide +kernel
theorem dX9_year_68 : decode cX9_year 68 = .ok (.ifCond .ne 29, 3) := by decide +kernel
theorem dX9_year_71 : decode cX9_year 71 = .ok (.aload_n 0, 1) := by decide +kernel
theorem dX9_year_72 : decode cX9_year 72 = .ok (.getfield 51, 3) := by decide +kernel
theorem dX9_year_75 : decode cX9_year 75 = .ok (.dup, 1) := by decide +kernel
theorem dX9_year_76 : decode cX9_year 76 = .ok (.getfield 143, 3) := by decide +kernel
theorem dX9_year_79 : decode cX9_year 79 = .ok (.iconst 1, 1) := by decide +kernel
theorem dX9_year_80 : decode cX9_year 80 = .ok (.iload 5, 2) := by decide +kernel
theorem dX9_year_82 : decode cX9_year 82 = .ok (.aload_n 0, 1) := by decide +kernel
theorem dX9_year_83 : decode cX9_year 83 = .ok (.getfield 19, 3) := by decide +kernel
theorem dX9_year_86 : decode cX9_year 86 = .ok (.getfield 107, 3) := by decide +kernel
theorem dX9_year_89 : decode cX9_year 89 = .ok (.invokestatic 286, 3) := by decide +kernel
theorem dX9_year_92 : decode cX9_year 92 = .ok (.ishl, 1) := by decide +kernel
theorem dX9_year_93 : decode cX9_year 93 = .ok (.ior, 1) := by decide +kernel
theorem dX9_year_94 : decode cX9_year 94 = .ok (.putfield 143, 3) := by decide +kernel
theorem dX9_year_97 : decode cX9_year 97 = .ok (.aload_n 0, 1) := by decide +kernel
theorem dX9_year_98 : decode cX9_year 98 = .ok (.aload_n 0, 1) := by decide +kernel
theorem dX9_year_99 : decode cX9_year 99 = .ok (.getfield 51, 3) := by decide +kernel
theorem dX9_year_102 : decode cX9_year 102 = .ok (.iconst 1, 1) := by decide +kernel
theorem dX9_year_103 : decode cX9_year 103 = .ok (.invokevirtual 189, 3) := by decide +kernel
theorem dX9_year_106 : decode cX9_year 106 = .ok (.iinc 4 1, 3) := by decide +kernel
theorem dX9_year_109 : decode cX9_year 109 = .ok (.goto (-62), 3) := by decide +kernel
theorem dX9_year_112 : decode cX9_year 112 = .ok (.iload_n 3, 1) := by decide +kernel
theorem dX9_year_113 : decode cX9_year 113 = .ok (.ifCond .ne 13, 3) := by decide +kernel
theorem dX9_year_116 : decode cX9_year 116 = .ok (.aload_n 0, 1) := by decide +kernel
theorem dX9_year_117 : decode cX9_year 117 = .ok (.getfield 51, 3) := by decide +kernel
theorem dX9_year_120 : decode cX9_year 120 = .ok (.getfield 213, 3) := by decide +kernel
theorem dX9_year_123 : decode cX9_year 123 = .ok (.goto 18, 3) := by decide +kernel
theorem dX9_year_126 : decode cX9_year 126 = .ok (.aload_n 0, 1) := by decide +kernel
theorem dX9_year_127 : decode cX9_year 127 = .ok (.getfield 51, 3) := by decide +kernel
theorem dX9_year_130 : decode cX9_year 130 = .ok (.getfield 219, 3) := by decide +kernel
theorem dX9_year_133 : decode cX9_year 133 = .ok (.aload_n 0, 1) := by decide +kernel
theorem dX9_year_134 : decode cX9_year 134 = .ok (.getfield 47, 3) := by decide +kernel
theorem dX9_year_137 : decode cX9_year 137 = .ok (.getfield 219, 3) := by decide +kernel
theorem dX9_year_140 : decode cX9_year 140 = .ok (.isub, 1) := by decide +kernel
theorem dX9_year_141 : decode cX9_year 141 = .ok (.ireturn, 1) := by decide +kernel
theorem dX9_keep_0 : decode cX9_keep 0 = .ok (.aload_n 0, 1) := by decide +kernel
theorem dX9_keep_1 : decode cX9_keep 1 = .ok (.getfield 63, 3) := by decide +kernel
theorem dX9_keep_4 : decode cX9_keep 4 = .ok (.getfield 204, 3) := by decide +kernel
theorem dX9_keep_7 : decode cX9_keep 7 = .ok (.iconst 2, 1) := by decide +kernel
theorem dX9_keep_8 : decode cX9_keep 8 = .ok (.if_icmp .lt 6, 3) := by decide +kernel
theorem dX9_keep_11 : decode cX9_keep 11 = .ok (.bipush (-3), 2) := by decide +kernel
theorem dX9_keep_13 : decode cX9_keep 13 = .ok (.ireturn, 1) := by decide +kernel
theorem dX9_keep_14 : decode cX9_keep 14 = .ok (.aload_n 0, 1) := by decide +kernel
theorem dX9_keep_15 : decode cX9_keep 15 = .ok (.getfield 63, 3) := by decide +kernel
theorem dX9_keep_18 : decode cX9_keep 18 = .ok (.aload_n 0, 1) := by decide +kernel
theorem dX9_keep_19 : decode cX9_keep 19 = .ok (.getfield 47, 3) := by decide +kernel
theorem dX9_keep_22 : decode cX9_keep 22 = .ok (.invokevirtual 185, 3) := by decide +kernel
theorem dX9_keep_25 : decode cX9_keep 25 = .ok (.aload_n 0, 1) := by decide +kernel
theorem dX9_keep_26 : decode cX9_keep 26 = .ok (.getfield 63, 3) := by decide +kernel
theorem dX9_keep_29 : decode cX9_keep 29 = .ok (.getfield 204, 3) := by decide +kernel
theorem dX9_keep_32 : decode cX9_keep 32 = .ok (.ireturn, 1) := by decide +kernel
theorem dX9_back_0 : decode cX9_back 0 = .ok (.aload_n 0, 1) := by decide +kernel
theorem dX9_back_1 : decode cX9_back 1 = .ok (.getfield 63, 3) := by decide +kernel
theorem dX9_back_4 : decode cX9_back 4 = .ok (.getfield 204, 3) := by decide +kernel
theorem dX9_back_7 : decode cX9_back 7 = .ok (.ifCond .ne 6, 3) := by decide +kernel
theorem dX9_back_10 : decode cX9_back 10 = .ok (.bipush (-2), 2) := by decide +kernel
theorem dX9_back_12 : decode cX9_back 12 = .ok (.ireturn, 1) := by decide +kernel
theorem dX9_back_13 : decode cX9_back 13 = .ok (.aload_n 0, 1) := by decide +kernel
theorem dX9_back_14 : decode cX9_back 14 = .ok (.getfield 63, 3) := by decide +kernel
theorem dX9_back_17 : decode cX9_back 17 = .ok (.aload_n 0, 1) := by decide +kernel
theorem dX9_back_18 : decode cX9_back 18 = .ok (.getfield 47, 3) := by decide +kernel
theorem dX9_back_21 : decode cX9_back 21 = .ok (.invokevirtual 207, 3) := by decide +kernel
theorem dX9_back_24 : decode cX9_back 24 = .ok (.aload_n 0, 1) := by decide +kernel
theorem dX9_back_25 : decode cX9_back 25 = .ok (.getfield 59, 3) := by decide +kernel
theorem dX9_back_28 : decode cX9_back 28 = .ok (.invokevirtual 289, 3) := by decide +kernel
theorem dX9_back_31 : decode cX9_back 31 = .ok (.aload_n 0, 1) := by decide +kernel
theorem dX9_back_32 : decode cX9_back 32 = .ok (.getfield 63, 3) := by decide +kernel
theorem dX9_back_35 : decode cX9_back 35 = .ok (.getfield 204, 3) := by decide +kernel
theorem dX9_back_38 : decode cX9_back 38 = .ok (.ireturn, 1) := by decide +kernel
theorem dX9_count_0 : decode cX9_count 0 = .ok (.iload_n 1, 1) := by decide +kernel
theorem dX9_count_1 : decode cX9_count 1 = .ok (.tableswitch 162 0 11 #[63, 71, 79, 90, 98, 106, 114, 122, 130, 138, 146, 154], 63) := by decide +kernel
theorem dX9_count_64 : decode cX9_count 64 = .ok (.aload_n 0, 1) := by decide +kernel
theorem dX9_count_65 : decode cX9_count 65 = .ok (.getfield 19, 3) := by decide +kernel
theorem dX9_count_68 : decode cX9_count 68 = .ok (.getfield 107, 3) := by decide +kernel
theorem dX9_count_71 : decode cX9_count 71 = .ok (.ireturn, 1) := by decide +kernel
theorem dX9_count_72 : decode cX9_count 72 = .ok (.aload_n 0, 1) := by decide +kernel
theorem dX9_count_73 : decode cX9_count 73 = .ok (.getfield 19, 3) := by decide +kernel
theorem dX9_count_76 : decode cX9_count 76 = .ok (.getfield 290, 3) := by decide +kernel
theorem dX9_count_79 : decode cX9_count 79 = .ok (.ireturn, 1) := by decide +kernel
theorem dX9_count_80 : decode cX9_count 80 = .ok (.aload_n 0, 1) := by decide +kernel
theorem dX9_count_81 : decode cX9_count 81 = .ok (.getfield 47, 3) := by decide +kernel
theorem dX9_count_84 : decode cX9_count 84 = .ok (.getfield 173, 3) := by decide +kernel
theorem dX9_count_87 : decode cX9_count 87 = .ok (.invokestatic 196, 3) := by decide +kernel
theorem dX9_count_90 : decode cX9_count 90 = .ok (.ireturn, 1) := by decide +kernel
theorem dX9_count_91 : decode cX9_count 91 = .ok (.aload_n 0, 1) := by decide +kernel
theorem dX9_count_92 : decode cX9_count 92 = .ok (.getfield 47, 3) := by decide +kernel
theorem dX9_count_95 : decode cX9_count 95 = .ok (.getfield 161, 3) := by decide +kernel
theorem dX9_count_98 : decode cX9_count 98 = .ok (.ireturn, 1) := by decide +kernel
theorem dX9_count_99 : decode cX9_count 99 = .ok (.aload_n 0, 1) := by decide +kernel
theorem dX9_count_100 : decode cX9_count 100 = .ok (.invokevirtual 133, 3) := by decide +kernel
theorem dX9_count_103 : decode cX9_count 103 = .ok (.invokestatic 196, 3) := by decide +kernel
theorem dX9_count_106 : decode cX9_count 106 = .ok (.ireturn, 1) := by decide +kernel
theorem dX9_count_107 : decode cX9_count 107 = .ok (.aload_n 0, 1) := by decide +kernel
theorem dX9_count_108 : decode cX9_count 108 = .ok (.getfield 47, 3) := by decide +kernel
theorem dX9_count_111 : decode cX9_count 111 = .ok (.getfield 213, 3) := by decide +kernel
theorem dX9_count_114 : decode cX9_count 114 = .ok (.ireturn, 1) := by decide +kernel
theorem dX9_count_115 : decode cX9_count 115 = .ok (.aload_n 0, 1) := by decide +kernel
theorem dX9_count_116 : decode cX9_count 116 = .ok (.getfield 47, 3) := by decide +kernel
theorem dX9_count_119 : decode cX9_count 119 = .ok (.getfield 216, 3) := by decide +kernel
theorem dX9_count_122 : decode cX9_count 122 = .ok (.ireturn, 1) := by decide +kernel
theorem dX9_count_123 : decode cX9_count 123 = .ok (.aload_n 0, 1) := by decide +kernel
theorem dX9_count_124 : decode cX9_count 124 = .ok (.getfield 47, 3) := by decide +kernel
theorem dX9_count_127 : decode cX9_count 127 = .ok (.getfield 219, 3) := by decide +kernel
theorem dX9_count_130 : decode cX9_count 130 = .ok (.ireturn, 1) := by decide +kernel
theorem dX9_count_131 : decode cX9_count 131 = .ok (.aload_n 0, 1) := by decide +kernel
theorem dX9_count_132 : decode cX9_count 132 = .ok (.getfield 69, 3) := by decide +kernel
theorem dX9_count_135 : decode cX9_count 135 = .ok (.getfield 256, 3) := by decide +kernel
theorem dX9_count_138 : decode cX9_count 138 = .ok (.ireturn, 1) := by decide +kernel
theorem dX9_count_139 : decode cX9_count 139 = .ok (.aload_n 0, 1) := by decide +kernel
theorem dX9_count_140 : decode cX9_count 140 = .ok (.getfield 59, 3) := by decide +kernel
theorem dX9_count_143 : decode cX9_count 143 = .ok (.getfield 204, 3) := by decide +kernel
theorem dX9_count_146 : decode cX9_count 146 = .ok (.ireturn, 1) := by decide +kernel
theorem dX9_count_147 : decode cX9_count 147 = .ok (.aload_n 0, 1) := by decide +kernel
theorem dX9_count_148 : decode cX9_count 148 = .ok (.getfield 63, 3) := by decide +kernel
theorem dX9_count_151 : decode cX9_count 151 = .ok (.getfield 204, 3) := by decide +kernel
theorem dX9_count_154 : decode cX9_count 154 = .ok (.ireturn, 1) := by decide +kernel
theorem dX9_count_155 : decode cX9_count 155 = .ok (.aload_n 0, 1) := by decide +kernel
theorem dX9_count_156 : decode cX9_count 156 = .ok (.getfield 12, 3) := by decide +kernel
theorem dX9_count_159 : decode cX9_count 159 = .ok (.getfield 104, 3) := by decide +kernel
theorem dX9_count_162 : decode cX9_count 162 = .ok (.ireturn, 1) := by decide +kernel
theorem dX9_count_163 : decode cX9_count 163 = .ok (.iconst (-1), 1) := by decide +kernel
theorem dX9_count_164 : decode cX9_count 164 = .ok (.ireturn, 1) := by decide +kernel
theorem dX9_openDraft_0 : decode cX9_openDraft 0 = .ok (.aload_n 0, 1) := by decide +kernel
theorem dX9_openDraft_1 : decode cX9_openDraft 1 = .ok (.getfield 19, 3) := by decide +kernel
theorem dX9_openDraft_4 : decode cX9_openDraft 4 = .ok (.aload_n 0, 1) := by decide +kernel
theorem dX9_openDraft_5 : decode cX9_openDraft 5 = .ok (.getfield 23, 3) := by decide +kernel
theorem dX9_openDraft_8 : decode cX9_openDraft 8 = .ok (.invokevirtual 293, 3) := by decide +kernel
theorem dX9_openDraft_11 : decode cX9_openDraft 11 = .ok (.aload_n 0, 1) := by decide +kernel
theorem dX9_openDraft_12 : decode cX9_openDraft 12 = .ok (.getfield 47, 3) := by decide +kernel
theorem dX9_openDraft_15 : decode cX9_openDraft 15 = .ok (.aload_n 0, 1) := by decide +kernel
theorem dX9_openDraft_16 : decode cX9_openDraft 16 = .ok (.getfield 19, 3) := by decide +kernel
theorem dX9_openDraft_19 : decode cX9_openDraft 19 = .ok (.getfield 295, 3) := by decide +kernel
theorem dX9_openDraft_22 : decode cX9_openDraft 22 = .ok (.invokevirtual 296, 3) := by decide +kernel
theorem dX9_openDraft_25 : decode cX9_openDraft 25 = .ok (.aload_n 0, 1) := by decide +kernel
theorem dX9_openDraft_26 : decode cX9_openDraft 26 = .ok (.getfield 59, 3) := by decide +kernel
theorem dX9_openDraft_29 : decode cX9_openDraft 29 = .ok (.invokevirtual 289, 3) := by decide +kernel
theorem dX9_openDraft_32 : decode cX9_openDraft 32 = .ok (.aload_n 0, 1) := by decide +kernel
theorem dX9_openDraft_33 : decode cX9_openDraft 33 = .ok (.getfield 63, 3) := by decide +kernel
theorem dX9_openDraft_36 : decode cX9_openDraft 36 = .ok (.invokevirtual 289, 3) := by decide +kernel
theorem dX9_openDraft_39 : decode cX9_openDraft 39 = .ok (.aload_n 0, 1) := by decide +kernel
theorem dX9_openDraft_40 : decode cX9_openDraft 40 = .ok (.getfield 69, 3) := by decide +kernel
theorem dX9_openDraft_43 : decode cX9_openDraft 43 = .ok (.invokevirtual 260, 3) := by decide +kernel
theorem dX9_openDraft_46 : decode cX9_openDraft 46 = .ok (.return_, 1) := by decide +kernel
theorem dX9_isStaff_0 : decode cX9_isStaff 0 = .ok (.iload_n 1, 1) := by decide +kernel
theorem dX9_isStaff_1 : decode cX9_isStaff 1 = .ok (.ifCond .lt 18, 3) := by decide +kernel
theorem dX9_isStaff_4 : decode cX9_isStaff 4 = .ok (.iload_n 1, 1) := by decide +kernel
theorem dX9_isStaff_5 : decode cX9_isStaff 5 = .ok (.aload_n 0, 1) := by decide +kernel
theorem dX9_isStaff_6 : decode cX9_isStaff 6 = .ok (.getfield 19, 3) := by decide +kernel
theorem dX9_isStaff_9 : decode cX9_isStaff 9 = .ok (.getfield 107, 3) := by decide +kernel
theorem dX9_isStaff_12 : decode cX9_isStaff 12 = .ok (.if_icmp .ge 7, 3) := by decide +kernel
theorem dX9_isStaff_15 : decode cX9_isStaff 15 = .ok (.iconst 1, 1) := by decide +kernel
theorem dX9_isStaff_16 : decode cX9_isStaff 16 = .ok (.goto 4, 3) := by decide +kernel
theorem dX9_isStaff_19 : decode cX9_isStaff 19 = .ok (.iconst 0, 1) := by decide +kernel
theorem dX9_isStaff_20 : decode cX9_isStaff 20 = .ok (.ireturn, 1) := by decide +kernel
theorem dX9_isCustomer_0 : decode cX9_isCustomer 0 = .ok (.iload_n 1, 1) := by decide +kernel
theorem dX9_isCustomer_1 : decode cX9_isCustomer 1 = .ok (.ifCond .lt 18, 3) := by decide +kernel
theorem dX9_isCustomer_4 : decode cX9_isCustomer 4 = .ok (.iload_n 1, 1) := by decide +kernel
theorem dX9_isCustomer_5 : decode cX9_isCustomer 5 = .ok (.aload_n 0, 1) := by decide +kernel
theorem dX9_isCustomer_6 : decode cX9_isCustomer 6 = .ok (.getfield 19, 3) := by decide +kernel
theorem dX9_isCustomer_9 : decode cX9_isCustomer 9 = .ok (.getfield 290, 3) := by decide +kernel
theorem dX9_isCustomer_12 : decode cX9_isCustomer 12 = .ok (.if_icmp .ge 7, 3) := by decide +kernel
theorem dX9_isCustomer_15 : decode cX9_isCustomer 15 = .ok (.iconst 1, 1) := by decide +kernel
theorem dX9_isCustomer_16 : decode cX9_isCustomer 16 = .ok (.goto 4, 3) := by decide +kernel
theorem dX9_isCustomer_19 : decode cX9_isCustomer 19 = .ok (.iconst 0, 1) := by decide +kernel
theorem dX9_isCustomer_20 : decode cX9_isCustomer 20 = .ok (.ireturn, 1) := by decide +kernel
theorem dX9_areTwoStaff_0 : decode cX9_areTwoStaff 0 = .ok (.aload_n 0, 1) := by decide +kernel
theorem dX9_areTwoStaff_1 : decode cX9_areTwoStaff 1 = .ok (.iload_n 1, 1) := by decide +kernel
theorem dX9_areTwoStaff_2 : decode cX9_areTwoStaff 2 = .ok (.invokevirtual 110, 3) := by decide +kernel
theorem dX9_areTwoStaff_5 : decode cX9_areTwoStaff 5 = .ok (.ifCond .eq 20, 3) := by decide +kernel
theorem dX9_areTwoStaff_8 : decode cX9_areTwoStaff 8 = .ok (.aload_n 0, 1) := by decide +kernel
theorem dX9_areTwoStaff_9 : decode cX9_areTwoStaff 9 = .ok (.iload_n 2, 1) := by decide +kernel
theorem dX9_areTwoStaff_10 : decode cX9_areTwoStaff 10 = .ok (.invokevirtual 110, 3) := by decide +kernel
theorem dX9_areTwoStaff_13 : decode cX9_areTwoStaff 13 = .ok (.ifCond .eq 12, 3) := by decide +kernel
theorem dX9_areTwoStaff_16 : decode cX9_areTwoStaff 16 = .ok (.iload_n 1, 1) := by decide +kernel
theorem dX9_areTwoStaff_17 : decode cX9_areTwoStaff 17 = .ok (.iload_n 2, 1) := by decide +kernel
theorem dX9_areTwoStaff_18 : decode cX9_areTwoStaff 18 = .ok (.if_icmp .eq 7, 3) := by decide +kernel
theorem dX9_areTwoStaff_21 : decode cX9_areTwoStaff 21 = .ok (.iconst 1, 1) := by decide +kernel
theorem dX9_areTwoStaff_22 : decode cX9_areTwoStaff 22 = .ok (.goto 4, 3) := by decide +kernel
theorem dX9_areTwoStaff_25 : decode cX9_areTwoStaff 25 = .ok (.iconst 0, 1) := by decide +kernel
theorem dX9_areTwoStaff_26 : decode cX9_areTwoStaff 26 = .ok (.ireturn, 1) := by decide +kernel
theorem dX9_goBy_0 : decode cX9_goBy 0 = .ok (.iconst 0, 1) := by decide +kernel
theorem dX9_goBy_1 : decode cX9_goBy 1 = .ok (.istore_n 3, 1) := by decide +kernel
theorem dX9_goBy_2 : decode cX9_goBy 2 = .ok (.iload_n 3, 1) := by decide +kernel
theorem dX9_goBy_3 : decode cX9_goBy 3 = .ok (.iload_n 2, 1) := by decide +kernel
theorem dX9_goBy_4 : decode cX9_goBy 4 = .ok (.if_icmp .ge 43, 3) := by decide +kernel
theorem dX9_goBy_7 : decode cX9_goBy 7 = .ok (.aload_n 0, 1) := by decide +kernel
theorem dX9_goBy_8 : decode cX9_goBy 8 = .ok (.getfield 40, 3) := by decide +kernel
theorem dX9_goBy_11 : decode cX9_goBy 11 = .ok (.aload_n 1, 1) := by decide +kernel
theorem dX9_goBy_12 : decode cX9_goBy 12 = .ok (.aload_n 0, 1) := by decide +kernel
theorem dX9_goBy_13 : decode cX9_goBy 13 = .ok (.getfield 19, 3) := by decide +kernel
theorem dX9_goBy_16 : decode cX9_goBy 16 = .ok (.aload_n 1, 1) := by decide +kernel
theorem dX9_goBy_17 : decode cX9_goBy 17 = .ok (.getfield 161, 3) := by decide +kernel
theorem dX9_goBy_20 : decode cX9_goBy 20 = .ok (.invokevirtual 242, 3) := by decide +kernel
theorem dX9_goBy_23 : decode cX9_goBy 23 = .ok (.aload_n 0, 1) := by decide +kernel
theorem dX9_goBy_24 : decode cX9_goBy 24 = .ok (.getfield 19, 3) := by decide +kernel
theorem dX9_goBy_27 : decode cX9_goBy 27 = .ok (.getfield 290, 3) := by decide +kernel
theorem dX9_goBy_30 : decode cX9_goBy 30 = .ok (.invokevirtual 245, 3) := by decide +kernel
theorem dX9_goBy_33 : decode cX9_goBy 33 = .ok (.aload_n 0, 1) := by decide +kernel
theorem dX9_goBy_34 : decode cX9_goBy 34 = .ok (.getfield 40, 3) := by decide +kernel
theorem dX9_goBy_37 : decode cX9_goBy 37 = .ok (.aload_n 1, 1) := by decide +kernel
theorem dX9_goBy_38 : decode cX9_goBy 38 = .ok (.invokevirtual 299, 3) := by decide +kernel
theorem dX9_goBy_41 : decode cX9_goBy 41 = .ok (.iinc 3 1, 3) := by decide +kernel
theorem dX9_goBy_44 : decode cX9_goBy 44 = .ok (.goto (-42), 3) := by decide +kernel
theorem dX9_goBy_47 : decode cX9_goBy 47 = .ok (.return_, 1) := by decide +kernel
theorem dX9_playTonight_0 : decode cX9_playTonight 0 = .ok (.aload_n 0, 1) := by decide +kernel
theorem dX9_playTonight_1 : decode cX9_playTonight 1 = .ok (.getfield 40, 3) := by decide +kernel
theorem dX9_playTonight_4 : decode cX9_playTonight 4 = .ok (.aload_n 0, 1) := by decide +kernel
theorem dX9_playTonight_5 : decode cX9_playTonight 5 = .ok (.getfield 47, 3) := by decide +kernel
theorem dX9_playTonight_8 : decode cX9_playTonight 8 = .ok (.aload_n 0, 1) := by decide +kernel
theorem dX9_playTonight_9 : decode cX9_playTonight 9 = .ok (.getfield 19, 3) := by decide +kernel
theorem dX9_playTonight_12 : decode cX9_playTonight 12 = .ok (.aload_n 0, 1) := by decide +kernel
theorem dX9_playTonight_13 : decode cX9_playTonight 13 = .ok (.getfield 47, 3) := by decide +kernel
theorem dX9_playTonight_16 : decode cX9_playTonight 16 = .ok (.getfield 161, 3) := by decide +kernel
theorem dX9_playTonight_19 : decode cX9_playTonight 19 = .ok (.invokevirtual 242, 3) := by decide +kernel
theorem dX9_playTonight_22 : decode cX9_playTonight 22 = .ok (.aload_n 0, 1) := by decide +kernel
theorem dX9_playTonight_23 : decode cX9_playTonight 23 = .ok (.getfield 19, 3) := by decide +kernel
theorem dX9_playTonight_26 : decode cX9_playTonight 26 = .ok (.getfield 290, 3) := by decide +kernel
theorem dX9_playTonight_29 : decode cX9_playTonight 29 = .ok (.invokevirtual 245, 3) := by decide +kernel
theorem dX9_playTonight_32 : decode cX9_playTonight 32 = .ok (.return_, 1) := by decide +kernel
theorem dX9_walkersTonight_0 : decode cX9_walkersTonight 0 = .ok (.aload_n 0, 1) := by decide +kernel
theorem dX9_walkersTonight_1 : decode cX9_walkersTonight 1 = .ok (.getfield 40, 3) := by decide +kernel
theorem dX9_walkersTonight_4 : decode cX9_walkersTonight 4 = .ok (.aload_n 0, 1) := by decide +kernel
theorem dX9_walkersTonight_5 : decode cX9_walkersTonight 5 = .ok (.getfield 47, 3) := by decide +kernel
theorem dX9_walkersTonight_8 : decode cX9_walkersTonight 8 = .ok (.aload_n 0, 1) := by decide +kernel
theorem dX9_walkersTonight_9 : decode cX9_walkersTonight 9 = .ok (.getfield 19, 3) := by decide +kernel
theorem dX9_walkersTonight_12 : decode cX9_walkersTonight 12 = .ok (.aload_n 0, 1) := by decide +kernel
theorem dX9_walkersTonight_13 : decode cX9_walkersTonight 13 = .ok (.getfield 47, 3) := by decide +kernel
theorem dX9_walkersTonight_16 : decode cX9_walkersTonight 16 = .ok (.getfield 161, 3) := by decide +kernel
theorem dX9_walkersTonight_19 : decode cX9_walkersTonight 19 = .ok (.invokevirtual 242, 3) := by decide +kernel
theorem dX9_walkersTonight_22 : decode cX9_walkersTonight 22 = .ok (.invokevirtual 302, 3) := by decide +kernel
theorem dX9_walkersTonight_25 : decode cX9_walkersTonight 25 = .ok (.aload_n 0, 1) := by decide +kernel
theorem dX9_walkersTonight_26 : decode cX9_walkersTonight 26 = .ok (.getfield 40, 3) := by decide +kernel
theorem dX9_walkersTonight_29 : decode cX9_walkersTonight 29 = .ok (.getfield 306, 3) := by decide +kernel
theorem dX9_walkersTonight_32 : decode cX9_walkersTonight 32 = .ok (.ireturn, 1) := by decide +kernel
theorem dX9_serverTonight_0 : decode cX9_serverTonight 0 = .ok (.aload_n 0, 1) := by decide +kernel
theorem dX9_serverTonight_1 : decode cX9_serverTonight 1 = .ok (.invokevirtual 179, 3) := by decide +kernel
theorem dX9_serverTonight_4 : decode cX9_serverTonight 4 = .ok (.aload_n 0, 1) := by decide +kernel
theorem dX9_serverTonight_5 : decode cX9_serverTonight 5 = .ok (.getfield 40, 3) := by decide +kernel
theorem dX9_serverTonight_8 : decode cX9_serverTonight 8 = .ok (.getfield 309, 3) := by decide +kernel
theorem dX9_serverTonight_11 : decode cX9_serverTonight 11 = .ok (.iload_n 1, 1) := by decide +kernel
theorem dX9_serverTonight_12 : decode cX9_serverTonight 12 = .ok (.invokevirtual 118, 3) := by decide +kernel
theorem dX9_serverTonight_15 : decode cX9_serverTonight 15 = .ok (.ireturn, 1) := by decide +kernel
theorem dX9_servedIfFed_0 : decode cX9_servedIfFed 0 = .ok (.aload_n 0, 1) := by decide +kernel
theorem dX9_servedIfFed_1 : decode cX9_servedIfFed 1 = .ok (.getfield 51, 3) := by decide +kernel
theorem dX9_servedIfFed_4 : decode cX9_servedIfFed 4 = .ok (.aload_n 0, 1) := by decide +kernel
theorem dX9_servedIfFed_5 : decode cX9_servedIfFed 5 = .ok (.getfield 47, 3) := by decide +kernel
theorem dX9_servedIfFed_8 : decode cX9_servedIfFed 8 = .ok (.invokevirtual 210, 3) := by decide +kernel
theorem dX9_servedIfFed_11 : decode cX9_servedIfFed 11 = .ok (.aload_n 0, 1) := by decide +kernel
theorem dX9_servedIfFed_12 : decode cX9_servedIfFed 12 = .ok (.getfield 51, 3) := by decide +kernel
theorem dX9_servedIfFed_15 : decode cX9_servedIfFed 15 = .ok (.dup, 1) := by decide +kernel
theorem dX9_servedIfFed_16 : decode cX9_servedIfFed 16 = .ok (.getfield 143, 3) := by decide +kernel
theorem dX9_servedIfFed_19 : decode cX9_servedIfFed 19 = .ok (.iload_n 1, 1) := by decide +kernel
theorem dX9_servedIfFed_20 : decode cX9_servedIfFed 20 = .ok (.ior, 1) := by decide +kernel
theorem dX9_servedIfFed_21 : decode cX9_servedIfFed 21 = .ok (.putfield 143, 3) := by decide +kernel
theorem dX9_servedIfFed_24 : decode cX9_servedIfFed 24 = .ok (.aload_n 0, 1) := by decide +kernel
theorem dX9_servedIfFed_25 : decode cX9_servedIfFed 25 = .ok (.getfield 40, 3) := by decide +kernel
theorem dX9_servedIfFed_28 : decode cX9_servedIfFed 28 = .ok (.aload_n 0, 1) := by decide +kernel
theorem dX9_servedIfFed_29 : decode cX9_servedIfFed 29 = .ok (.getfield 51, 3) := by decide +kernel
theorem dX9_servedIfFed_32 : decode cX9_servedIfFed 32 = .ok (.aload_n 0, 1) := by decide +kernel
theorem dX9_servedIfFed_33 : decode cX9_servedIfFed 33 = .ok (.getfield 19, 3) := by decide +kernel
theorem dX9_servedIfFed_36 : decode cX9_servedIfFed 36 = .ok (.aload_n 0, 1) := by decide +kernel
theorem dX9_servedIfFed_37 : decode cX9_servedIfFed 37 = .ok (.getfield 51, 3) := by decide +kernel
theorem dX9_servedIfFed_40 : decode cX9_servedIfFed 40 = .ok (.getfield 161, 3) := by decide +kernel
theorem dX9_servedIfFed_43 : decode cX9_servedIfFed 43 = .ok (.invokevirtual 242, 3) := by decide +kernel
theorem dX9_servedIfFed_46 : decode cX9_servedIfFed 46 = .ok (.aload_n 0, 1) := by decide +kernel
theorem dX9_servedIfFed_47 : decode cX9_servedIfFed 47 = .ok (.getfield 19, 3) := by decide +kernel
theorem dX9_servedIfFed_50 : decode cX9_servedIfFed 50 = .ok (.getfield 290, 3) := by decide +kernel
theorem dX9_servedIfFed_53 : decode cX9_servedIfFed 53 = .ok (.invokevirtual 245, 3) := by decide +kernel
theorem dX9_servedIfFed_56 : decode cX9_servedIfFed 56 = .ok (.aload_n 0, 1) := by decide +kernel
theorem dX9_servedIfFed_57 : decode cX9_servedIfFed 57 = .ok (.getfield 40, 3) := by decide +kernel
theorem dX9_servedIfFed_60 : decode cX9_servedIfFed 60 = .ok (.getfield 312, 3) := by decide +kernel
theorem dX9_servedIfFed_63 : decode cX9_servedIfFed 63 = .ok (.ireturn, 1) := by decide +kernel
theorem dX9_servedIfMadeUp_0 : decode cX9_servedIfMadeUp 0 = .ok (.aload_n 0, 1) := by decide +kernel
theorem dX9_servedIfMadeUp_1 : decode cX9_servedIfMadeUp 1 = .ok (.getfield 51, 3) := by decide +kernel
theorem dX9_servedIfMadeUp_4 : decode cX9_servedIfMadeUp 4 = .ok (.aload_n 0, 1) := by decide +kernel
theorem dX9_servedIfMadeUp_5 : decode cX9_servedIfMadeUp 5 = .ok (.getfield 47, 3) := by decide +kernel
theorem dX9_servedIfMadeUp_8 : decode cX9_servedIfMadeUp 8 = .ok (.invokevirtual 210, 3) := by decide +kernel
theorem dX9_servedIfMadeUp_11 : decode cX9_servedIfMadeUp 11 = .ok (.aload_n 0, 1) := by decide +kernel
theorem dX9_servedIfMadeUp_12 : decode cX9_servedIfMadeUp 12 = .ok (.getfield 51, 3) := by decide +kernel
theorem dX9_servedIfMadeUp_15 : decode cX9_servedIfMadeUp 15 = .ok (.aload_n 0, 1) := by decide +kernel
theorem dX9_servedIfMadeUp_16 : decode cX9_servedIfMadeUp 16 = .ok (.getfield 47, 3) := by decide +kernel
theorem dX9_servedIfMadeUp_19 : decode cX9_servedIfMadeUp 19 = .ok (.getfield 173, 3) := by decide +kernel
theorem dX9_servedIfMadeUp_22 : decode cX9_servedIfMadeUp 22 = .ok (.iload_n 1, 1) := by decide +kernel
theorem dX9_servedIfMadeUp_23 : decode cX9_servedIfMadeUp 23 = .ok (.invokestatic 313, 3) := by decide +kernel
theorem dX9_servedIfMadeUp_26 : decode cX9_servedIfMadeUp 26 = .ok (.putfield 173, 3) := by decide +kernel
theorem dX9_servedIfMadeUp_29 : decode cX9_servedIfMadeUp 29 = .ok (.iconst 0, 1) := by decide +kernel
theorem dX9_servedIfMadeUp_30 : decode cX9_servedIfMadeUp 30 = .ok (.istore_n 3, 1) := by decide +kernel
theorem dX9_servedIfMadeUp_31 : decode cX9_servedIfMadeUp 31 = .ok (.iconst 0, 1) := by decide +kernel
theorem dX9_servedIfMadeUp_32 : decode cX9_servedIfMadeUp 32 = .ok (.istore 4, 2) := by decide +kernel
theorem dX9_servedIfMadeUp_34 : decode cX9_servedIfMadeUp 34 = .ok (.iload 4, 2) := by decide +kernel
theorem dX9_servedIfMadeUp_36 : decode cX9_servedIfMadeUp 36 = .ok (.iload_n 2, 1) := by decide +kernel
theorem dX9_servedIfMadeUp_37 : decode cX9_servedIfMadeUp 37 = .ok (.if_icmp .ge 28, 3) := by decide +kernel
theorem dX9_servedIfMadeUp_40 : decode cX9_servedIfMadeUp 40 = .ok (.aload_n 0, 1) := by decide +kernel
theorem dX9_servedIfMadeUp_41 : decode cX9_servedIfMadeUp 41 = .ok (.aload_n 0, 1) := by decide +kernel
theorem dX9_servedIfMadeUp_42 : decode cX9_servedIfMadeUp 42 = .ok (.getfield 51, 3) := by decide +kernel
theorem dX9_servedIfMadeUp_45 : decode cX9_servedIfMadeUp 45 = .ok (.iconst 1, 1) := by decide +kernel
theorem dX9_servedIfMadeUp_46 : decode cX9_servedIfMadeUp 46 = .ok (.invokevirtual 189, 3) := by decide +kernel
theorem dX9_servedIfMadeUp_49 : decode cX9_servedIfMadeUp 49 = .ok (.iload_n 3, 1) := by decide +kernel
theorem dX9_servedIfMadeUp_50 : decode cX9_servedIfMadeUp 50 = .ok (.aload_n 0, 1) := by decide +kernel
theorem dX9_servedIfMadeUp_51 : decode cX9_servedIfMadeUp 51 = .ok (.getfield 40, 3) := by decide +kernel
theorem dX9_servedIfMadeUp_54 : decode cX9_servedIfMadeUp 54 = .ok (.getfield 312, 3) := by decide +kernel
theorem dX9_servedIfMadeUp_57 : decode cX9_servedIfMadeUp 57 = .ok (.iadd, 1) := by decide +kernel
theorem dX9_servedIfMadeUp_58 : decode cX9_servedIfMadeUp 58 = .ok (.istore_n 3, 1) := by decide +kernel
theorem dX9_servedIfMadeUp_59 : decode cX9_servedIfMadeUp 59 = .ok (.iinc 4 1, 3) := by decide +kernel
theorem dX9_servedIfMadeUp_62 : decode cX9_servedIfMadeUp 62 = .ok (.goto (-28), 3) := by decide +kernel
theorem dX9_servedIfMadeUp_65 : decode cX9_servedIfMadeUp 65 = .ok (.iload_n 3, 1) := by decide +kernel
theorem dX9_servedIfMadeUp_66 : decode cX9_servedIfMadeUp 66 = .ok (.ireturn, 1) := by decide +kernel
theorem dX9_without_0 : decode cX9_without 0 = .ok (.iload_n 0, 1) := by decide +kernel
theorem dX9_without_1 : decode cX9_without 1 = .ok (.istore_n 2, 1) := by decide +kernel
theorem dX9_without_2 : decode cX9_without 2 = .ok (.iconst 0, 1) := by decide +kernel
theorem dX9_without_3 : decode cX9_without 3 = .ok (.istore_n 3, 1) := by decide +kernel
theorem dX9_without_4 : decode cX9_without 4 = .ok (.iconst 0, 1) := by decide +kernel
theorem dX9_without_5 : decode cX9_without 5 = .ok (.istore 4, 2) := by decide +kernel
theorem dX9_without_7 : decode cX9_without 7 = .ok (.iload 4, 2) := by decide +kernel
theorem dX9_without_9 : decode cX9_without 9 = .ok (.bipush 30, 2) := by decide +kernel
theorem dX9_without_11 : decode cX9_without 11 = .ok (.if_icmp .ge 32, 3) := by decide +kernel
theorem dX9_without_14 : decode cX9_without 14 = .ok (.iload_n 0, 1) := by decide +kernel
theorem dX9_without_15 : decode cX9_without 15 = .ok (.iload 4, 2) := by decide +kernel
theorem dX9_without_17 : decode cX9_without 17 = .ok (.invokestatic 193, 3) := by decide +kernel
theorem dX9_without_20 : decode cX9_without 20 = .ok (.ifCond .eq 17, 3) := by decide +kernel
theorem dX9_without_23 : decode cX9_without 23 = .ok (.iload_n 2, 1) := by decide +kernel
theorem dX9_without_24 : decode cX9_without 24 = .ok (.iload_n 1, 1) := by decide +kernel
theorem dX9_without_25 : decode cX9_without 25 = .ok (.iload_n 3, 1) := by decide +kernel
theorem dX9_without_26 : decode cX9_without 26 = .ok (.invokestatic 136, 3) := by decide +kernel
theorem dX9_without_29 : decode cX9_without 29 = .ok (.iload 4, 2) := by decide +kernel
theorem dX9_without_31 : decode cX9_without 31 = .ok (.ishl, 1) := by decide +kernel
theorem dX9_without_32 : decode cX9_without 32 = .ok (.ixor, 1) := by decide +kernel
theorem dX9_without_33 : decode cX9_without 33 = .ok (.istore_n 2, 1) := by decide +kernel
theorem dX9_without_34 : decode cX9_without 34 = .ok (.iinc 3 1, 3) := by decide +kernel
theorem dX9_without_37 : decode cX9_without 37 = .ok (.iinc 4 1, 3) := by decide +kernel
theorem dX9_without_40 : decode cX9_without 40 = .ok (.goto (-33), 3) := by decide +kernel
theorem dX9_without_43 : decode cX9_without 43 = .ok (.iload_n 2, 1) := by decide +kernel
theorem dX9_without_44 : decode cX9_without 44 = .ok (.ireturn, 1) := by decide +kernel
theorem dX9_isWithoutHam_0 : decode cX9_isWithoutHam 0 = .ok (.aload_n 0, 1) := by decide +kernel
theorem dX9_isWithoutHam_1 : decode cX9_isWithoutHam 1 = .ok (.getfield 51, 3) := by decide +kernel
theorem dX9_isWithoutHam_4 : decode cX9_isWithoutHam 4 = .ok (.aload_n 0, 1) := by decide +kernel
theorem dX9_isWithoutHam_5 : decode cX9_isWithoutHam 5 = .ok (.getfield 47, 3) := by decide +kernel
theorem dX9_isWithoutHam_8 : decode cX9_isWithoutHam 8 = .ok (.invokevirtual 210, 3) := by decide +kernel
theorem dX9_isWithoutHam_11 : decode cX9_isWithoutHam 11 = .ok (.iconst 0, 1) := by decide +kernel
theorem dX9_isWithoutHam_12 : decode cX9_isWithoutHam 12 = .ok (.istore_n 3, 1) := by decide +kernel
theorem dX9_isWithoutHam_13 : decode cX9_isWithoutHam 13 = .ok (.iload_n 3, 1) := by decide +kernel
theorem dX9_isWithoutHam_14 : decode cX9_isWithoutHam 14 = .ok (.iload_n 1, 1) := by decide +kernel
theorem dX9_isWithoutHam_15 : decode cX9_isWithoutHam 15 = .ok (.if_icmp .ge 55, 3) := by decide +kernel
theorem dX9_isWithoutHam_18 : decode cX9_isWithoutHam 18 = .ok (.aload_n 0, 1) := by decide +kernel
theorem dX9_isWithoutHam_19 : decode cX9_isWithoutHam 19 = .ok (.getfield 40, 3) := by decide +kernel
theorem dX9_isWithoutHam_22 : decode cX9_isWithoutHam 22 = .ok (.aload_n 0, 1) := by decide +kernel
theorem dX9_isWithoutHam_23 : decode cX9_isWithoutHam 23 = .ok (.getfield 51, 3) := by decide +kernel
theorem dX9_isWithoutHam_26 : decode cX9_isWithoutHam 26 = .ok (.iload_n 2, 1) := by decide +kernel
theorem dX9_isWithoutHam_27 : decode cX9_isWithoutHam 27 = .ok (.iload_n 3, 1) := by decide +kernel
theorem dX9_isWithoutHam_28 : decode cX9_isWithoutHam 28 = .ok (.invokestatic 193, 3) := by decide +kernel
theorem dX9_isWithoutHam_31 : decode cX9_isWithoutHam 31 = .ok (.aload_n 0, 1) := by decide +kernel
theorem dX9_isWithoutHam_32 : decode cX9_isWithoutHam 32 = .ok (.getfield 19, 3) := by decide +kernel
theorem dX9_isWithoutHam_35 : decode cX9_isWithoutHam 35 = .ok (.getfield 290, 3) := by decide +kernel
theorem dX9_isWithoutHam_38 : decode cX9_isWithoutHam 38 = .ok (.invokevirtual 245, 3) := by decide +kernel
theorem dX9_isWithoutHam_41 : decode cX9_isWithoutHam 41 = .ok (.aload_n 0, 1) := by decide +kernel
theorem dX9_isWithoutHam_42 : decode cX9_isWithoutHam 42 = .ok (.getfield 40, 3) := by decide +kernel
theorem dX9_isWithoutHam_45 : decode cX9_isWithoutHam 45 = .ok (.getfield 222, 3) := by decide +kernel
theorem dX9_isWithoutHam_48 : decode cX9_isWithoutHam 48 = .ok (.ifCond .le 5, 3) := by decide +kernel
theorem dX9_isWithoutHam_51 : decode cX9_isWithoutHam 51 = .ok (.iconst 0, 1) := by decide +kernel
theorem dX9_isWithoutHam_52 : decode cX9_isWithoutHam 52 = .ok (.ireturn, 1) := by decide +kernel
theorem dX9_isWithoutHam_53 : decode cX9_isWithoutHam 53 = .ok (.aload_n 0, 1) := by decide +kernel
theorem dX9_isWithoutHam_54 : decode cX9_isWithoutHam 54 = .ok (.getfield 40, 3) := by decide +kernel
theorem dX9_isWithoutHam_57 : decode cX9_isWithoutHam 57 = .ok (.aload_n 0, 1) := by decide +kernel
theorem dX9_isWithoutHam_58 : decode cX9_isWithoutHam 58 = .ok (.getfield 51, 3) := by decide +kernel
theorem dX9_isWithoutHam_61 : decode cX9_isWithoutHam 61 = .ok (.invokevirtual 299, 3) := by decide +kernel
theorem dX9_isWithoutHam_64 : decode cX9_isWithoutHam 64 = .ok (.iinc 3 1, 3) := by decide +kernel
theorem dX9_isWithoutHam_67 : decode cX9_isWithoutHam 67 = .ok (.goto (-54), 3) := by decide +kernel
theorem dX9_isWithoutHam_70 : decode cX9_isWithoutHam 70 = .ok (.iconst 1, 1) := by decide +kernel
theorem dX9_isWithoutHam_71 : decode cX9_isWithoutHam 71 = .ok (.ireturn, 1) := by decide +kernel
theorem dX9_weight_0 : decode cX9_weight 0 = .ok (.iconst 1, 1) := by decide +kernel
theorem dX9_weight_1 : decode cX9_weight 1 = .ok (.istore_n 3, 1) := by decide +kernel
theorem dX9_weight_2 : decode cX9_weight 2 = .ok (.iconst 0, 1) := by decide +kernel
theorem dX9_weight_3 : decode cX9_weight 3 = .ok (.istore 4, 2) := by decide +kernel
theorem dX9_weight_5 : decode cX9_weight 5 = .ok (.iload 4, 2) := by decide +kernel
theorem dX9_weight_7 : decode cX9_weight 7 = .ok (.iload_n 0, 1) := by decide +kernel
theorem dX9_weight_8 : decode cX9_weight 8 = .ok (.if_icmp .ge 29, 3) := by decide +kernel
theorem dX9_weight_11 : decode cX9_weight 11 = .ok (.iload_n 3, 1) := by decide +kernel
theorem dX9_weight_12 : decode cX9_weight 12 = .ok (.iload_n 2, 1) := by decide +kernel
theorem dX9_weight_13 : decode cX9_weight 13 = .ok (.iload 4, 2) := by decide +kernel
theorem dX9_weight_15 : decode cX9_weight 15 = .ok (.invokestatic 193, 3) := by decide +kernel
theorem dX9_weight_18 : decode cX9_weight 18 = .ok (.ifCond .eq 7, 3) := by decide +kernel
theorem dX9_weight_21 : decode cX9_weight 21 = .ok (.iload_n 1, 1) := by decide +kernel
theorem dX9_weight_22 : decode cX9_weight 22 = .ok (.goto 7, 3) := by decide +kernel
theorem dX9_weight_25 : decode cX9_weight 25 = .ok (.bipush 10, 2) := by decide +kernel
theorem dX9_weight_27 : decode cX9_weight 27 = .ok (.iload_n 1, 1) := by decide +kernel
theorem dX9_weight_28 : decode cX9_weight 28 = .ok (.isub, 1) := by decide +kernel
theorem dX9_weight_29 : decode cX9_weight 29 = .ok (.imul, 1) := by decide +kernel
theorem dX9_weight_30 : decode cX9_weight 30 = .ok (.istore_n 3, 1) := by decide +kernel
theorem dX9_weight_31 : decode cX9_weight 31 = .ok (.iinc 4 1, 3) := by decide +kernel
theorem dX9_weight_34 : decode cX9_weight 34 = .ok (.goto (-29), 3) := by decide +kernel
theorem dX9_weight_37 : decode cX9_weight 37 = .ok (.iload_n 3, 1) := by decide +kernel
theorem dX9_weight_38 : decode cX9_weight 38 = .ok (.ireturn, 1) := by decide +kernel
theorem dX9_sharedDivisor_0 : decode cX9_sharedDivisor 0 = .ok (.iconst 1, 1) := by decide +kernel
theorem dX9_sharedDivisor_1 : decode cX9_sharedDivisor 1 = .ok (.istore_n 3, 1) := by decide +kernel
theorem dX9_sharedDivisor_2 : decode cX9_sharedDivisor 2 = .ok (.iconst 0, 1) := by decide +kernel
theorem dX9_sharedDivisor_3 : decode cX9_sharedDivisor 3 = .ok (.istore 4, 2) := by decide +kernel
theorem dX9_sharedDivisor_5 : decode cX9_sharedDivisor 5 = .ok (.iload 4, 2) := by decide +kernel
theorem dX9_sharedDivisor_7 : decode cX9_sharedDivisor 7 = .ok (.iload_n 2, 1) := by decide +kernel
theorem dX9_sharedDivisor_8 : decode cX9_sharedDivisor 8 = .ok (.if_icmp .ge 47, 3) := by decide +kernel
theorem dX9_sharedDivisor_11 : decode cX9_sharedDivisor 11 = .ok (.iload_n 3, 1) := by decide +kernel
theorem dX9_sharedDivisor_12 : decode cX9_sharedDivisor 12 = .ok (.iconst 2, 1) := by decide +kernel
theorem dX9_sharedDivisor_13 : decode cX9_sharedDivisor 13 = .ok (.iload_n 3, 1) := by decide +kernel
theorem dX9_sharedDivisor_14 : decode cX9_sharedDivisor 14 = .ok (.imul, 1) := by decide +kernel
theorem dX9_sharedDivisor_15 : decode cX9_sharedDivisor 15 = .ok (.iload_n 0, 1) := by decide +kernel
theorem dX9_sharedDivisor_16 : decode cX9_sharedDivisor 16 = .ok (.iload_n 1, 1) := by decide +kernel
theorem dX9_sharedDivisor_17 : decode cX9_sharedDivisor 17 = .ok (.invokestatic 316, 3) := by decide +kernel
theorem dX9_sharedDivisor_20 : decode cX9_sharedDivisor 20 = .ok (.ifCond .eq 7, 3) := by decide +kernel
theorem dX9_sharedDivisor_23 : decode cX9_sharedDivisor 23 = .ok (.iconst 2, 1) := by decide +kernel
theorem dX9_sharedDivisor_24 : decode cX9_sharedDivisor 24 = .ok (.goto 4, 3) := by decide +kernel
theorem dX9_sharedDivisor_27 : decode cX9_sharedDivisor 27 = .ok (.iconst 1, 1) := by decide +kernel
theorem dX9_sharedDivisor_28 : decode cX9_sharedDivisor 28 = .ok (.imul, 1) := by decide +kernel
theorem dX9_sharedDivisor_29 : decode cX9_sharedDivisor 29 = .ok (.istore_n 3, 1) := by decide +kernel
theorem dX9_sharedDivisor_30 : decode cX9_sharedDivisor 30 = .ok (.iload_n 3, 1) := by decide +kernel
theorem dX9_sharedDivisor_31 : decode cX9_sharedDivisor 31 = .ok (.iconst 5, 1) := by decide +kernel
theorem dX9_sharedDivisor_32 : decode cX9_sharedDivisor 32 = .ok (.iload_n 3, 1) := by decide +kernel
theorem dX9_sharedDivisor_33 : decode cX9_sharedDivisor 33 = .ok (.imul, 1) := by decide +kernel
theorem dX9_sharedDivisor_34 : decode cX9_sharedDivisor 34 = .ok (.iload_n 0, 1) := by decide +kernel
theorem dX9_sharedDivisor_35 : decode cX9_sharedDivisor 35 = .ok (.iload_n 1, 1) := by decide +kernel
theorem dX9_sharedDivisor_36 : decode cX9_sharedDivisor 36 = .ok (.invokestatic 316, 3) := by decide +kernel
theorem dX9_sharedDivisor_39 : decode cX9_sharedDivisor 39 = .ok (.ifCond .eq 7, 3) := by decide +kernel
theorem dX9_sharedDivisor_42 : decode cX9_sharedDivisor 42 = .ok (.iconst 5, 1) := by decide +kernel
theorem dX9_sharedDivisor_43 : decode cX9_sharedDivisor 43 = .ok (.goto 4, 3) := by decide +kernel
theorem dX9_sharedDivisor_46 : decode cX9_sharedDivisor 46 = .ok (.iconst 1, 1) := by decide +kernel
theorem dX9_sharedDivisor_47 : decode cX9_sharedDivisor 47 = .ok (.imul, 1) := by decide +kernel
theorem dX9_sharedDivisor_48 : decode cX9_sharedDivisor 48 = .ok (.istore_n 3, 1) := by decide +kernel
theorem dX9_sharedDivisor_49 : decode cX9_sharedDivisor 49 = .ok (.iinc 4 1, 3) := by decide +kernel
theorem dX9_sharedDivisor_52 : decode cX9_sharedDivisor 52 = .ok (.goto (-47), 3) := by decide +kernel
theorem dX9_sharedDivisor_55 : decode cX9_sharedDivisor 55 = .ok (.iload_n 3, 1) := by decide +kernel
theorem dX9_sharedDivisor_56 : decode cX9_sharedDivisor 56 = .ok (.ireturn, 1) := by decide +kernel
theorem dX9_dividesBoth_0 : decode cX9_dividesBoth 0 = .ok (.iload_n 0, 1) := by decide +kernel
theorem dX9_dividesBoth_1 : decode cX9_dividesBoth 1 = .ok (.ifCond .le 19, 3) := by decide +kernel
theorem dX9_dividesBoth_4 : decode cX9_dividesBoth 4 = .ok (.iload_n 1, 1) := by decide +kernel
theorem dX9_dividesBoth_5 : decode cX9_dividesBoth 5 = .ok (.iload_n 0, 1) := by decide +kernel
theorem dX9_dividesBoth_6 : decode cX9_dividesBoth 6 = .ok (.irem, 1) := by decide +kernel
theorem dX9_dividesBoth_7 : decode cX9_dividesBoth 7 = .ok (.ifCond .ne 13, 3) := by decide +kernel
theorem dX9_dividesBoth_10 : decode cX9_dividesBoth 10 = .ok (.iload_n 2, 1) := by decide +kernel
theorem dX9_dividesBoth_11 : decode cX9_dividesBoth 11 = .ok (.iload_n 0, 1) := by decide +kernel
theorem dX9_dividesBoth_12 : decode cX9_dividesBoth 12 = .ok (.irem, 1) := by decide +kernel
theorem dX9_dividesBoth_13 : decode cX9_dividesBoth 13 = .ok (.ifCond .ne 7, 3) := by decide +kernel
theorem dX9_dividesBoth_16 : decode cX9_dividesBoth 16 = .ok (.iconst 1, 1) := by decide +kernel
theorem dX9_dividesBoth_17 : decode cX9_dividesBoth 17 = .ok (.goto 4, 3) := by decide +kernel
theorem dX9_dividesBoth_20 : decode cX9_dividesBoth 20 = .ok (.iconst 0, 1) := by decide +kernel
theorem dX9_dividesBoth_21 : decode cX9_dividesBoth 21 = .ok (.ireturn, 1) := by decide +kernel
theorem dX9_draw_0 : decode cX9_draw 0 = .ok (.ldc2_w 319, 3) := by decide +kernel
theorem dX9_draw_3 : decode cX9_draw 3 = .ok (.iload_n 0, 1) := by decide +kernel
theorem dX9_draw_4 : decode cX9_draw 4 = .ok (.i2l, 1) := by decide +kernel
theorem dX9_draw_5 : decode cX9_draw 5 = .ok (.lmul, 1) := by decide +kernel
theorem dX9_draw_6 : decode cX9_draw 6 = .ok (.ldc2_w 321, 3) := by decide +kernel
theorem dX9_draw_9 : decode cX9_draw 9 = .ok (.iload_n 1, 1) := by decide +kernel
theorem dX9_draw_10 : decode cX9_draw 10 = .ok (.i2l, 1) := by decide +kernel
theorem dX9_draw_11 : decode cX9_draw 11 = .ok (.lmul, 1) := by decide +kernel
theorem dX9_draw_12 : decode cX9_draw 12 = .ok (.ladd, 1) := by decide +kernel
theorem dX9_draw_13 : decode cX9_draw 13 = .ok (.lconst 1, 1) := by decide +kernel
theorem dX9_draw_14 : decode cX9_draw 14 = .ok (.ladd, 1) := by decide +kernel
theorem dX9_draw_15 : decode cX9_draw 15 = .ok (.lstore_n 2, 1) := by decide +kernel
theorem dX9_draw_16 : decode cX9_draw 16 = .ok (.lload_n 2, 1) := by decide +kernel
theorem dX9_draw_17 : decode cX9_draw 17 = .ok (.lload_n 2, 1) := by decide +kernel
theorem dX9_draw_18 : decode cX9_draw 18 = .ok (.lmul, 1) := by decide +kernel
theorem dX9_draw_19 : decode cX9_draw 19 = .ok (.ldc2_w 323, 3) := by decide +kernel
theorem dX9_draw_22 : decode cX9_draw 22 = .ok (.lrem, 1) := by decide +kernel
theorem dX9_draw_23 : decode cX9_draw 23 = .ok (.ldc2_w 325, 3) := by decide +kernel
theorem dX9_draw_26 : decode cX9_draw 26 = .ok (.ldiv, 1) := by decide +kernel
theorem dX9_draw_27 : decode cX9_draw 27 = .ok (.l2i, 1) := by decide +kernel
theorem dX9_draw_28 : decode cX9_draw 28 = .ok (.ireturn, 1) := by decide +kernel
theorem dX9_wakes_0 : decode cX9_wakes 0 = .ok (.iload_n 0, 1) := by decide +kernel
theorem dX9_wakes_1 : decode cX9_wakes 1 = .ok (.tableswitch 70 0 2 #[27, 49, 59], 27) := by decide +kernel
theorem dX9_wakes_28 : decode cX9_wakes 28 = .ok (.iload_n 2, 1) := by decide +kernel
theorem dX9_wakes_29 : decode cX9_wakes 29 = .ok (.iconst 2, 1) := by decide +kernel
theorem dX9_wakes_30 : decode cX9_wakes 30 = .ok (.if_icmp .eq 14, 3) := by decide +kernel
theorem dX9_wakes_33 : decode cX9_wakes 33 = .ok (.iload_n 2, 1) := by decide +kernel
theorem dX9_wakes_34 : decode cX9_wakes 34 = .ok (.iconst 1, 1) := by decide +kernel
theorem dX9_wakes_35 : decode cX9_wakes 35 = .ok (.if_icmp .ne 13, 3) := by decide +kernel
theorem dX9_wakes_38 : decode cX9_wakes 38 = .ok (.iload_n 1, 1) := by decide +kernel
theorem dX9_wakes_39 : decode cX9_wakes 39 = .ok (.bipush 10, 2) := by decide +kernel
theorem dX9_wakes_41 : decode cX9_wakes 41 = .ok (.if_icmp .le 7, 3) := by decide +kernel
theorem dX9_wakes_44 : decode cX9_wakes 44 = .ok (.iconst 1, 1) := by decide +kernel
theorem dX9_wakes_45 : decode cX9_wakes 45 = .ok (.goto 4, 3) := by decide +kernel
theorem dX9_wakes_48 : decode cX9_wakes 48 = .ok (.iconst 0, 1) := by decide +kernel
theorem dX9_wakes_49 : decode cX9_wakes 49 = .ok (.ireturn, 1) := by decide +kernel
theorem dX9_wakes_50 : decode cX9_wakes 50 = .ok (.iload_n 2, 1) := by decide +kernel
theorem dX9_wakes_51 : decode cX9_wakes 51 = .ok (.ifCond .ne 7, 3) := by decide +kernel
theorem dX9_wakes_54 : decode cX9_wakes 54 = .ok (.iconst 1, 1) := by decide +kernel
theorem dX9_wakes_55 : decode cX9_wakes 55 = .ok (.goto 4, 3) := by decide +kernel
theorem dX9_wakes_58 : decode cX9_wakes 58 = .ok (.iconst 0, 1) := by decide +kernel
theorem dX9_wakes_59 : decode cX9_wakes 59 = .ok (.ireturn, 1) := by decide +kernel
theorem dX9_wakes_60 : decode cX9_wakes 60 = .ok (.iload_n 2, 1) := by decide +kernel
theorem dX9_wakes_61 : decode cX9_wakes 61 = .ok (.iconst 3, 1) := by decide +kernel
theorem dX9_wakes_62 : decode cX9_wakes 62 = .ok (.if_icmp .ne 7, 3) := by decide +kernel
theorem dX9_wakes_65 : decode cX9_wakes 65 = .ok (.iconst 1, 1) := by decide +kernel
theorem dX9_wakes_66 : decode cX9_wakes 66 = .ok (.goto 4, 3) := by decide +kernel
theorem dX9_wakes_69 : decode cX9_wakes 69 = .ok (.iconst 0, 1) := by decide +kernel
theorem dX9_wakes_70 : decode cX9_wakes 70 = .ok (.ireturn, 1) := by decide +kernel
theorem dX9_wakes_71 : decode cX9_wakes 71 = .ok (.iconst 0, 1) := by decide +kernel
theorem dX9_wakes_72 : decode cX9_wakes 72 = .ok (.ireturn, 1) := by decide +kernel
theorem dX9_pair_0 : decode cX9_pair 0 = .ok (.iload_n 0, 1) := by decide +kernel
theorem dX9_pair_1 : decode cX9_pair 1 = .ok (.iload_n 1, 1) := by decide +kernel
theorem dX9_pair_2 : decode cX9_pair 2 = .ok (.if_icmp .ge 12, 3) := by decide +kernel
theorem dX9_pair_5 : decode cX9_pair 5 = .ok (.bipush 6, 2) := by decide +kernel
theorem dX9_pair_7 : decode cX9_pair 7 = .ok (.iload_n 0, 1) := by decide +kernel
theorem dX9_pair_8 : decode cX9_pair 8 = .ok (.imul, 1) := by decide +kernel
theorem dX9_pair_9 : decode cX9_pair 9 = .ok (.iload_n 1, 1) := by decide +kernel
theorem dX9_pair_10 : decode cX9_pair 10 = .ok (.iadd, 1) := by decide +kernel
theorem dX9_pair_11 : decode cX9_pair 11 = .ok (.goto 9, 3) := by decide +kernel
theorem dX9_pair_14 : decode cX9_pair 14 = .ok (.bipush 6, 2) := by decide +kernel
theorem dX9_pair_16 : decode cX9_pair 16 = .ok (.iload_n 1, 1) := by decide +kernel
theorem dX9_pair_17 : decode cX9_pair 17 = .ok (.imul, 1) := by decide +kernel
theorem dX9_pair_18 : decode cX9_pair 18 = .ok (.iload_n 0, 1) := by decide +kernel
theorem dX9_pair_19 : decode cX9_pair 19 = .ok (.iadd, 1) := by decide +kernel
theorem dX9_pair_20 : decode cX9_pair 20 = .ok (.ireturn, 1) := by decide +kernel
theorem dX9_has_0 : decode cX9_has 0 = .ok (.iload_n 0, 1) := by decide +kernel
theorem dX9_has_1 : decode cX9_has 1 = .ok (.iload_n 1, 1) := by decide +kernel
theorem dX9_has_2 : decode cX9_has 2 = .ok (.ishr, 1) := by decide +kernel
theorem dX9_has_3 : decode cX9_has 3 = .ok (.iconst 1, 1) := by decide +kernel
theorem dX9_has_4 : decode cX9_has 4 = .ok (.iand, 1) := by decide +kernel
theorem dX9_has_5 : decode cX9_has 5 = .ok (.iconst 1, 1) := by decide +kernel
theorem dX9_has_6 : decode cX9_has 6 = .ok (.if_icmp .ne 7, 3) := by decide +kernel
theorem dX9_has_9 : decode cX9_has 9 = .ok (.iconst 1, 1) := by decide +kernel
theorem dX9_has_10 : decode cX9_has 10 = .ok (.goto 4, 3) := by decide +kernel
theorem dX9_has_13 : decode cX9_has 13 = .ok (.iconst 0, 1) := by decide +kernel
theorem dX9_has_14 : decode cX9_has 14 = .ok (.ireturn, 1) := by decide +kernel
theorem dX9_bit_0 : decode cX9_bit 0 = .ok (.iload_n 0, 1) := by decide +kernel
theorem dX9_bit_1 : decode cX9_bit 1 = .ok (.iload_n 1, 1) := by decide +kernel
theorem dX9_bit_2 : decode cX9_bit 2 = .ok (.ishr, 1) := by decide +kernel
theorem dX9_bit_3 : decode cX9_bit 3 = .ok (.iconst 1, 1) := by decide +kernel
theorem dX9_bit_4 : decode cX9_bit 4 = .ok (.iand, 1) := by decide +kernel
theorem dX9_bit_5 : decode cX9_bit 5 = .ok (.ireturn, 1) := by decide +kernel
theorem dX9_mod_0 : decode cX9_mod 0 = .ok (.iload_n 1, 1) := by decide +kernel
theorem dX9_mod_1 : decode cX9_mod 1 = .ok (.ifCond .le 9, 3) := by decide +kernel
theorem dX9_mod_4 : decode cX9_mod 4 = .ok (.iload_n 0, 1) := by decide +kernel
theorem dX9_mod_5 : decode cX9_mod 5 = .ok (.iload_n 1, 1) := by decide +kernel
theorem dX9_mod_6 : decode cX9_mod 6 = .ok (.irem, 1) := by decide +kernel
theorem dX9_mod_7 : decode cX9_mod 7 = .ok (.goto 4, 3) := by decide +kernel
theorem dX9_mod_10 : decode cX9_mod 10 = .ok (.iconst 0, 1) := by decide +kernel
theorem dX9_mod_11 : decode cX9_mod 11 = .ok (.ireturn, 1) := by decide +kernel
theorem dX9_quotient_0 : decode cX9_quotient 0 = .ok (.iload_n 1, 1) := by decide +kernel
theorem dX9_quotient_1 : decode cX9_quotient 1 = .ok (.ifCond .le 9, 3) := by decide +kernel
theorem dX9_quotient_4 : decode cX9_quotient 4 = .ok (.iload_n 0, 1) := by decide +kernel
theorem dX9_quotient_5 : decode cX9_quotient 5 = .ok (.iload_n 1, 1) := by decide +kernel
theorem dX9_quotient_6 : decode cX9_quotient 6 = .ok (.idiv, 1) := by decide +kernel
theorem dX9_quotient_7 : decode cX9_quotient 7 = .ok (.goto 4, 3) := by decide +kernel
theorem dX9_quotient_10 : decode cX9_quotient 10 = .ok (.iconst 0, 1) := by decide +kernel
theorem dX9_quotient_11 : decode cX9_quotient 11 = .ok (.ireturn, 1) := by decide +kernel
theorem dX9_isWithin_0 : decode cX9_isWithin 0 = .ok (.iload_n 0, 1) := by decide +kernel
theorem dX9_isWithin_1 : decode cX9_isWithin 1 = .ok (.iload_n 1, 1) := by decide +kernel
theorem dX9_isWithin_2 : decode cX9_isWithin 2 = .ok (.if_icmp .lt 12, 3) := by decide +kernel
theorem dX9_isWithin_5 : decode cX9_isWithin 5 = .ok (.iload_n 0, 1) := by decide +kernel
theorem dX9_isWithin_6 : decode cX9_isWithin 6 = .ok (.iload_n 2, 1) := by decide +kernel
theorem dX9_isWithin_7 : decode cX9_isWithin 7 = .ok (.if_icmp .gt 7, 3) := by decide +kernel
theorem dX9_isWithin_10 : decode cX9_isWithin 10 = .ok (.iconst 1, 1) := by decide +kernel
theorem dX9_isWithin_11 : decode cX9_isWithin 11 = .ok (.goto 4, 3) := by decide +kernel
theorem dX9_isWithin_14 : decode cX9_isWithin 14 = .ok (.iconst 0, 1) := by decide +kernel
theorem dX9_isWithin_15 : decode cX9_isWithin 15 = .ok (.ireturn, 1) := by decide +kernel
theorem dJ6_bitCount_0f7a4_0 : decode cJ6_bitCount_0f7a4 0 = .ok (.iload_n 0, 1) := by decide +kernel
theorem dJ6_bitCount_0f7a4_1 : decode cJ6_bitCount_0f7a4 1 = .ok (.iload_n 0, 1) := by decide +kernel
theorem dJ6_bitCount_0f7a4_2 : decode cJ6_bitCount_0f7a4 2 = .ok (.iconst 1, 1) := by decide +kernel
theorem dJ6_bitCount_0f7a4_3 : decode cJ6_bitCount_0f7a4 3 = .ok (.iushr, 1) := by decide +kernel
theorem dJ6_bitCount_0f7a4_4 : decode cJ6_bitCount_0f7a4 4 = .ok (.ldc_w 265, 3) := by decide +kernel
theorem dJ6_bitCount_0f7a4_7 : decode cJ6_bitCount_0f7a4 7 = .ok (.iand, 1) := by decide +kernel
theorem dJ6_bitCount_0f7a4_8 : decode cJ6_bitCount_0f7a4 8 = .ok (.isub, 1) := by decide +kernel
theorem dJ6_bitCount_0f7a4_9 : decode cJ6_bitCount_0f7a4 9 = .ok (.istore_n 0, 1) := by decide +kernel
theorem dJ6_bitCount_0f7a4_10 : decode cJ6_bitCount_0f7a4 10 = .ok (.iload_n 0, 1) := by decide +kernel
theorem dJ6_bitCount_0f7a4_11 : decode cJ6_bitCount_0f7a4 11 = .ok (.ldc_w 266, 3) := by decide +kernel
theorem dJ6_bitCount_0f7a4_14 : decode cJ6_bitCount_0f7a4 14 = .ok (.iand, 1) := by decide +kernel
theorem dJ6_bitCount_0f7a4_15 : decode cJ6_bitCount_0f7a4 15 = .ok (.iload_n 0, 1) := by decide +kernel
theorem dJ6_bitCount_0f7a4_16 : decode cJ6_bitCount_0f7a4 16 = .ok (.iconst 2, 1) := by decide +kernel
theorem dJ6_bitCount_0f7a4_17 : decode cJ6_bitCount_0f7a4 17 = .ok (.iushr, 1) := by decide +kernel
theorem dJ6_bitCount_0f7a4_18 : decode cJ6_bitCount_0f7a4 18 = .ok (.ldc_w 266, 3) := by decide +kernel
theorem dJ6_bitCount_0f7a4_21 : decode cJ6_bitCount_0f7a4 21 = .ok (.iand, 1) := by decide +kernel
theorem dJ6_bitCount_0f7a4_22 : decode cJ6_bitCount_0f7a4 22 = .ok (.iadd, 1) := by decide +kernel
theorem dJ6_bitCount_0f7a4_23 : decode cJ6_bitCount_0f7a4 23 = .ok (.istore_n 0, 1) := by decide +kernel
theorem dJ6_bitCount_0f7a4_24 : decode cJ6_bitCount_0f7a4 24 = .ok (.iload_n 0, 1) := by decide +kernel
theorem dJ6_bitCount_0f7a4_25 : decode cJ6_bitCount_0f7a4 25 = .ok (.iload_n 0, 1) := by decide +kernel
theorem dJ6_bitCount_0f7a4_26 : decode cJ6_bitCount_0f7a4 26 = .ok (.iconst 4, 1) := by decide +kernel
theorem dJ6_bitCount_0f7a4_27 : decode cJ6_bitCount_0f7a4 27 = .ok (.iushr, 1) := by decide +kernel
theorem dJ6_bitCount_0f7a4_28 : decode cJ6_bitCount_0f7a4 28 = .ok (.iadd, 1) := by decide +kernel
theorem dJ6_bitCount_0f7a4_29 : decode cJ6_bitCount_0f7a4 29 = .ok (.ldc_w 267, 3) := by decide +kernel
theorem dJ6_bitCount_0f7a4_32 : decode cJ6_bitCount_0f7a4 32 = .ok (.iand, 1) := by decide +kernel
theorem dJ6_bitCount_0f7a4_33 : decode cJ6_bitCount_0f7a4 33 = .ok (.istore_n 0, 1) := by decide +kernel
theorem dJ6_bitCount_0f7a4_34 : decode cJ6_bitCount_0f7a4 34 = .ok (.iload_n 0, 1) := by decide +kernel
theorem dJ6_bitCount_0f7a4_35 : decode cJ6_bitCount_0f7a4 35 = .ok (.iload_n 0, 1) := by decide +kernel
theorem dJ6_bitCount_0f7a4_36 : decode cJ6_bitCount_0f7a4 36 = .ok (.bipush 8, 2) := by decide +kernel
theorem dJ6_bitCount_0f7a4_38 : decode cJ6_bitCount_0f7a4 38 = .ok (.iushr, 1) := by decide +kernel
theorem dJ6_bitCount_0f7a4_39 : decode cJ6_bitCount_0f7a4 39 = .ok (.iadd, 1) := by decide +kernel
theorem dJ6_bitCount_0f7a4_40 : decode cJ6_bitCount_0f7a4 40 = .ok (.istore_n 0, 1) := by decide +kernel
theorem dJ6_bitCount_0f7a4_41 : decode cJ6_bitCount_0f7a4 41 = .ok (.iload_n 0, 1) := by decide +kernel
theorem dJ6_bitCount_0f7a4_42 : decode cJ6_bitCount_0f7a4 42 = .ok (.iload_n 0, 1) := by decide +kernel
theorem dJ6_bitCount_0f7a4_43 : decode cJ6_bitCount_0f7a4 43 = .ok (.bipush 16, 2) := by decide +kernel
theorem dJ6_bitCount_0f7a4_45 : decode cJ6_bitCount_0f7a4 45 = .ok (.iushr, 1) := by decide +kernel
theorem dJ6_bitCount_0f7a4_46 : decode cJ6_bitCount_0f7a4 46 = .ok (.iadd, 1) := by decide +kernel
theorem dJ6_bitCount_0f7a4_47 : decode cJ6_bitCount_0f7a4 47 = .ok (.istore_n 0, 1) := by decide +kernel
theorem dJ6_bitCount_0f7a4_48 : decode cJ6_bitCount_0f7a4 48 = .ok (.iload_n 0, 1) := by decide +kernel
theorem dJ6_bitCount_0f7a4_49 : decode cJ6_bitCount_0f7a4 49 = .ok (.bipush 63, 2) := by decide +kernel
theorem dJ6_bitCount_0f7a4_51 : decode cJ6_bitCount_0f7a4 51 = .ok (.iand, 1) := by decide +kernel
theorem dJ6_bitCount_0f7a4_52 : decode cJ6_bitCount_0f7a4 52 = .ok (.ireturn, 1) := by decide +kernel
theorem dJ0_length_8abf5_0 : decode cJ0_length_8abf5 0 = .ok (.aload_n 0, 1) := by decide +kernel
theorem dJ0_length_8abf5_1 : decode cJ0_length_8abf5 1 = .ok (.getfield 9, 3) := by decide +kernel
theorem dJ0_length_8abf5_4 : decode cJ0_length_8abf5 4 = .ok (.arraylength, 1) := by decide +kernel
theorem dJ0_length_8abf5_5 : decode cJ0_length_8abf5 5 = .ok (.aload_n 0, 1) := by decide +kernel
theorem dJ0_length_8abf5_6 : decode cJ0_length_8abf5 6 = .ok (.invokevirtual 335, 3) := by decide +kernel
theorem dJ0_length_8abf5_9 : decode cJ0_length_8abf5 9 = .ok (.ishr, 1) := by decide +kernel
theorem dJ0_length_8abf5_10 : decode cJ0_length_8abf5 10 = .ok (.ireturn, 1) := by decide +kernel
theorem dJ0_charAt_5068e_0 : decode cJ0_charAt_5068e 0 = .ok (.aload_n 0, 1) := by decide +kernel
theorem dJ0_charAt_5068e_1 : decode cJ0_charAt_5068e 1 = .ok (.invokevirtual 492, 3) := by decide +kernel
theorem dJ0_charAt_5068e_4 : decode cJ0_charAt_5068e 4 = .ok (.ifCond .eq 12, 3) := by decide +kernel
theorem dJ0_charAt_5068e_7 : decode cJ0_charAt_5068e 7 = .ok (.aload_n 0, 1) := by decide +kernel
theorem dJ0_charAt_5068e_8 : decode cJ0_charAt_5068e 8 = .ok (.getfield 9, 3) := by decide +kernel
theorem dJ0_charAt_5068e_11 : decode cJ0_charAt_5068e 11 = .ok (.iload_n 1, 1) := by decide +kernel
theorem dJ0_charAt_5068e_12 : decode cJ0_charAt_5068e 12 = .ok (.invokestatic 495, 3) := by decide +kernel
theorem dJ0_charAt_5068e_15 : decode cJ0_charAt_5068e 15 = .ok (.ireturn, 1) := by decide +kernel
theorem dJ0_charAt_5068e_16 : decode cJ0_charAt_5068e 16 = .ok (.aload_n 0, 1) := by decide +kernel
theorem dJ0_charAt_5068e_17 : decode cJ0_charAt_5068e 17 = .ok (.getfield 9, 3) := by decide +kernel
theorem dJ0_charAt_5068e_20 : decode cJ0_charAt_5068e 20 = .ok (.iload_n 1, 1) := by decide +kernel
theorem dJ0_charAt_5068e_21 : decode cJ0_charAt_5068e 21 = .ok (.invokestatic 498, 3) := by decide +kernel
theorem dJ0_charAt_5068e_24 : decode cJ0_charAt_5068e 24 = .ok (.ireturn, 1) := by decide +kernel
theorem dJ0_coder_7d493_0 : decode cJ0_coder_7d493 0 = .ok (.getstatic 38, 3) := by decide +kernel
theorem dJ0_coder_7d493_3 : decode cJ0_coder_7d493 3 = .ok (.ifCond .eq 10, 3) := by decide +kernel
theorem dJ0_coder_7d493_6 : decode cJ0_coder_7d493 6 = .ok (.aload_n 0, 1) := by decide +kernel
theorem dJ0_coder_7d493_7 : decode cJ0_coder_7d493 7 = .ok (.getfield 15, 3) := by decide +kernel
theorem dJ0_coder_7d493_10 : decode cJ0_coder_7d493 10 = .ok (.goto 4, 3) := by decide +kernel
theorem dJ0_coder_7d493_13 : decode cJ0_coder_7d493 13 = .ok (.iconst 1, 1) := by decide +kernel
theorem dJ0_coder_7d493_14 : decode cJ0_coder_7d493 14 = .ok (.ireturn, 1) := by decide +kernel
theorem dJ0_isLatin1_aae02_0 : decode cJ0_isLatin1_aae02 0 = .ok (.getstatic 38, 3) := by decide +kernel
theorem dJ0_isLatin1_aae02_3 : decode cJ0_isLatin1_aae02 3 = .ok (.ifCond .eq 14, 3) := by decide +kernel
theorem dJ0_isLatin1_aae02_6 : decode cJ0_isLatin1_aae02 6 = .ok (.aload_n 0, 1) := by decide +kernel
theorem dJ0_isLatin1_aae02_7 : decode cJ0_isLatin1_aae02 7 = .ok (.getfield 15, 3) := by decide +kernel
theorem dJ0_isLatin1_aae02_10 : decode cJ0_isLatin1_aae02 10 = .ok (.ifCond .ne 7, 3) := by decide +kernel
theorem dJ0_isLatin1_aae02_13 : decode cJ0_isLatin1_aae02 13 = .ok (.iconst 1, 1) := by decide +kernel
theorem dJ0_isLatin1_aae02_14 : decode cJ0_isLatin1_aae02 14 = .ok (.goto 4, 3) := by decide +kernel
theorem dJ0_isLatin1_aae02_17 : decode cJ0_isLatin1_aae02 17 = .ok (.iconst 0, 1) := by decide +kernel
theorem dJ0_isLatin1_aae02_18 : decode cJ0_isLatin1_aae02 18 = .ok (.ireturn, 1) := by decide +kernel
theorem dJ0_checkIndex_df160_0 : decode cJ0_checkIndex_df160 0 = .ok (.iload_n 0, 1) := by decide +kernel
theorem dJ0_checkIndex_df160_1 : decode cJ0_checkIndex_df160 1 = .ok (.iload_n 1, 1) := by decide +kernel
theorem dJ0_checkIndex_df160_2 : decode cJ0_checkIndex_df160 2 = .ok (.getstatic 1053, 3) := by decide +kernel
theorem dJ0_checkIndex_df160_5 : decode cJ0_checkIndex_df160 5 = .ok (.invokestatic 1059, 3) := by decide +kernel
theorem dJ0_checkIndex_df160_8 : decode cJ0_checkIndex_df160 8 = .ok (.pop, 1) := by decide +kernel
theorem dJ0_checkIndex_df160_9 : decode cJ0_checkIndex_df160 9 = .ok (.return_, 1) := by decide +kernel
theorem dJ1_charAt_3b067_0 : decode cJ1_charAt_3b067 0 = .ok (.iload_n 1, 1) := by decide +kernel
theorem dJ1_charAt_3b067_1 : decode cJ1_charAt_3b067 1 = .ok (.aload_n 0, 1) := by decide +kernel
theorem dJ1_charAt_3b067_2 : decode cJ1_charAt_3b067 2 = .ok (.arraylength, 1) := by decide +kernel
theorem dJ1_charAt_3b067_3 : decode cJ1_charAt_3b067 3 = .ok (.invokestatic 9, 3) := by decide +kernel
theorem dJ1_charAt_3b067_6 : decode cJ1_charAt_3b067 6 = .ok (.aload_n 0, 1) := by decide +kernel
theorem dJ1_charAt_3b067_7 : decode cJ1_charAt_3b067 7 = .ok (.iload_n 1, 1) := by decide +kernel
theorem dJ1_charAt_3b067_8 : decode cJ1_charAt_3b067 8 = .ok (.baload, 1) := by decide +kernel
theorem dJ1_charAt_3b067_9 : decode cJ1_charAt_3b067 9 = .ok (.sipush 255, 3) := by decide +kernel
theorem dJ1_charAt_3b067_12 : decode cJ1_charAt_3b067 12 = .ok (.iand, 1) := by decide +kernel
theorem dJ1_charAt_3b067_13 : decode cJ1_charAt_3b067 13 = .ok (.i2c, 1) := by decide +kernel
theorem dJ1_charAt_3b067_14 : decode cJ1_charAt_3b067 14 = .ok (.ireturn, 1) := by decide +kernel
theorem dJ3_checkIndex_8e157_0 : decode cJ3_checkIndex_8e157 0 = .ok (.iload_n 0, 1) := by decide +kernel
theorem dJ3_checkIndex_8e157_1 : decode cJ3_checkIndex_8e157 1 = .ok (.ifCond .lt 8, 3) := by decide +kernel
theorem dJ3_checkIndex_8e157_4 : decode cJ3_checkIndex_8e157 4 = .ok (.iload_n 0, 1) := by decide +kernel
theorem dJ3_checkIndex_8e157_5 : decode cJ3_checkIndex_8e157 5 = .ok (.iload_n 1, 1) := by decide +kernel
theorem dJ3_checkIndex_8e157_6 : decode cJ3_checkIndex_8e157 6 = .ok (.if_icmp .lt 10, 3) := by decide +kernel
theorem dJ3_checkIndex_8e157_9 : decode cJ3_checkIndex_8e157 9 = .ok (.aload_n 2, 1) := by decide +kernel
theorem dJ3_checkIndex_8e157_10 : decode cJ3_checkIndex_8e157 10 = .ok (.iload_n 0, 1) := by decide +kernel
theorem dJ3_checkIndex_8e157_11 : decode cJ3_checkIndex_8e157 11 = .ok (.iload_n 1, 1) := by decide +kernel
theorem dJ3_checkIndex_8e157_12 : decode cJ3_checkIndex_8e157 12 = .ok (.invokestatic 95, 3) := by decide +kernel
theorem dJ3_checkIndex_8e157_15 : decode cJ3_checkIndex_8e157 15 = .ok (.athrow, 1) := by decide +kernel
theorem dJ3_checkIndex_8e157_16 : decode cJ3_checkIndex_8e157 16 = .ok (.iload_n 0, 1) := by decide +kernel
theorem dJ3_checkIndex_8e157_17 : decode cJ3_checkIndex_8e157 17 = .ok (.ireturn, 1) := by decide +kernel
