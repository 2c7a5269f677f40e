theorem dX6_laneFor_1 : decode cX6_laneFor 1 = .ok (.getfield 19, 3) := by decide +kernel
theorem dX6_laneFor_4 : decode cX6_laneFor 4 = .ok (.iload_n 1, 1) := by decide +kernel
theorem dX6_laneFor_5 : decode cX6_laneFor 5 = .ok (.iconst 1, 1) := by decide +kernel
theorem dX6_laneFor_6 : decode cX6_laneFor 6 = .ok (.invokevirtual 280, 3) := by decide +kernel
theorem dX6_laneFor_9 : decode cX6_laneFor 9 = .ok (.iconst 2, 1) := by decide +kernel
theorem dX6_laneFor_10 : decode cX6_laneFor 10 = .ok (.if_icmp .eq 16, 3) := by decide +kernel
theorem dX6_laneFor_13 : decode cX6_laneFor 13 = .ok (.aload_n 0, 1) := by decide +kernel
theorem dX6_laneFor_14 : decode cX6_laneFor 14 = .ok (.getfield 19, 3) := by decide +kernel
theorem dX6_laneFor_17 : decode cX6_laneFor 17 = .ok (.iload_n 1, 1) := by decide +kernel
theorem dX6_laneFor_18 : decode cX6_laneFor 18 = .ok (.iconst 2, 1) := by decide +kernel
theorem dX6_laneFor_19 : decode cX6_laneFor 19 = .ok (.invokevirtual 280, 3) := by decide +kernel
theorem dX6_laneFor_22 : decode cX6_laneFor 22 = .ok (.iconst 2, 1) := by decide +kernel
theorem dX6_laneFor_23 : decode cX6_laneFor 23 = .ok (.if_icmp .ne 5, 3) := by decide +kernel
theorem dX6_laneFor_26 : decode cX6_laneFor 26 = .ok (.iconst 2, 1) := by decide +kernel
theorem dX6_laneFor_27 : decode cX6_laneFor 27 = .ok (.ireturn, 1) := by decide +kernel
theorem dX6_laneFor_28 : decode cX6_laneFor 28 = .ok (.aload_n 0, 1) := by decide +kernel
theorem dX6_laneFor_29 : decode cX6_laneFor 29 = .ok (.getfield 52, 3) := by decide +kernel
theorem dX6_laneFor_32 : decode cX6_laneFor 32 = .ok (.iconst 1, 1) := by decide +kernel
theorem dX6_laneFor_33 : decode cX6_laneFor 33 = .ok (.aaload, 1) := by decide +kernel
theorem dX6_laneFor_34 : decode cX6_laneFor 34 = .ok (.getfield 237, 3) := by decide +kernel
theorem dX6_laneFor_37 : decode cX6_laneFor 37 = .ok (.aload_n 0, 1) := by decide +kernel
theorem dX6_laneFor_38 : decode cX6_laneFor 38 = .ok (.getfield 52, 3) := by decide +kernel
theorem dX6_laneFor_41 : decode cX6_laneFor 41 = .ok (.iconst 0, 1) := by decide +kernel
theorem dX6_laneFor_42 : decode cX6_laneFor 42 = .ok (.aaload, 1) := by decide +kernel
theorem dX6_laneFor_43 : decode cX6_laneFor 43 = .ok (.getfield 237, 3) := by decide +kernel
theorem dX6_laneFor_46 : decode cX6_laneFor 46 = .ok (.if_icmp .ge 7, 3) := by decide +kernel
theorem dX6_laneFor_49 : decode cX6_laneFor 49 = .ok (.iconst 1, 1) := by decide +kernel
theorem dX6_laneFor_50 : decode cX6_laneFor 50 = .ok (.goto 4, 3) := by decide +kernel
theorem dX6_laneFor_53 : decode cX6_laneFor 53 = .ok (.iconst 0, 1) := by decide +kernel
theorem dX6_laneFor_54 : decode cX6_laneFor 54 = .ok (.ireturn, 1) := by decide +kernel
theorem dX6_letter_0 : decode cX6_letter 0 = .ok (.aload_n 0, 1) := by decide +kernel
theorem dX6_letter_1 : decode cX6_letter 1 = .ok (.getfield 10, 3) := by decide +kernel
theorem dX6_letter_4 : decode cX6_letter 4 = .ok (.invokevirtual 92, 3) := by decide +kernel
theorem dX6_letter_7 : decode cX6_letter 7 = .ok (.ireturn, 1) := by decide +kernel
theorem dX6_look_0 : decode cX6_look 0 = .ok (.aload_n 0, 1) := by decide +kernel
theorem dX6_look_1 : decode cX6_look 1 = .ok (.iload_n 1, 1) := by decide +kernel
theorem dX6_look_2 : decode cX6_look 2 = .ok (.invokevirtual 163, 3) := by decide +kernel
theorem dX6_look_5 : decode cX6_look 5 = .ok (.iload_n 2, 1) := by decide +kernel
theorem dX6_look_6 : decode cX6_look 6 = .ok (.tableswitch 132 0 5 #[38, 48, 58, 68, 78, 105], 38) := by decide +kernel
theorem dX6_look_44 : decode cX6_look 44 = .ok (.aload_n 0, 1) := by decide +kernel
theorem dX6_look_45 : decode cX6_look 45 = .ok (.getfield 46, 3) := by decide +kernel
theorem dX6_look_48 : decode cX6_look 48 = .ok (.getfield 211, 3) := by decide +kernel
theorem dX6_look_51 : decode cX6_look 51 = .ok (.iload_n 1, 1) := by decide +kernel
theorem dX6_look_52 : decode cX6_look 52 = .ok (.iaload, 1) := by decide +kernel
theorem dX6_look_53 : decode cX6_look 53 = .ok (.ireturn, 1) := by decide +kernel
theorem dX6_look_54 : decode cX6_look 54 = .ok (.aload_n 0, 1) := by decide +kernel
theorem dX6_look_55 : decode cX6_look 55 = .ok (.getfield 46, 3) := by decide +kernel
theorem dX6_look_58 : decode cX6_look 58 = .ok (.getfield 220, 3) := by decide +kernel
theorem dX6_look_61 : decode cX6_look 61 = .ok (.iload_n 1, 1) := by decide +kernel
theorem dX6_look_62 : decode cX6_look 62 = .ok (.iaload, 1) := by decide +kernel
theorem dX6_look_63 : decode cX6_look 63 = .ok (.ireturn, 1) := by decide +kernel
theorem dX6_look_64 : decode cX6_look 64 = .ok (.aload_n 0, 1) := by decide +kernel
theorem dX6_look_65 : decode cX6_look 65 = .ok (.getfield 46, 3) := by decide +kernel
theorem dX6_look_68 : decode cX6_look 68 = .ok (.getfield 181, 3) := by decide +kernel
theorem dX6_look_71 : decode cX6_look 71 = .ok (.iload_n 1, 1) := by decide +kernel
theorem dX6_look_72 : decode cX6_look 72 = .ok (.iaload, 1) := by decide +kernel
theorem dX6_look_73 : decode cX6_look 73 = .ok (.ireturn, 1) := by decide +kernel
theorem dX6_look_74 : decode cX6_look 74 = .ok (.aload_n 0, 1) := by decide +kernel
theorem dX6_look_75 : decode cX6_look 75 = .ok (.getfield 46, 3) := by decide +kernel
theorem dX6_look_78 : decode cX6_look 78 = .ok (.getfield 175, 3) := by decide +kernel
theorem dX6_look_81 : decode cX6_look 81 = .ok (.iload_n 1, 1) := by decide +kernel
theorem dX6_look_82 : decode cX6_look 82 = .ok (.iaload, 1) := by decide +kernel
theorem dX6_look_83 : decode cX6_look 83 = .ok (.ireturn, 1) := by decide +kernel
theorem dX6_look_84 : decode cX6_look 84 = .ok (.aload_n 0, 1) := by decide +kernel
theorem dX6_look_85 : decode cX6_look 85 = .ok (.getfield 46, 3) := by decide +kernel
theorem dX6_look_88 : decode cX6_look 88 = .ok (.getfield 175, 3) := by decide +kernel
theorem dX6_look_91 : decode cX6_look 91 = .ok (.iload_n 1, 1) := by decide +kernel
theorem dX6_look_92 : decode cX6_look 92 = .ok (.iaload, 1) := by decide +kernel
theorem dX6_look_93 : decode cX6_look 93 = .ok (.iconst 1, 1) := by decide +kernel
theorem dX6_look_94 : decode cX6_look 94 = .ok (.if_icmp .ne 15, 3) := by decide +kernel
theorem dX6_look_97 : decode cX6_look 97 = .ok (.aload_n 0, 1) := by decide +kernel
theorem dX6_look_98 : decode cX6_look 98 = .ok (.getfield 46, 3) := by decide +kernel
theorem dX6_look_101 : decode cX6_look 101 = .ok (.getfield 223, 3) := by decide +kernel
theorem dX6_look_104 : decode cX6_look 104 = .ok (.iload_n 1, 1) := by decide +kernel
theorem dX6_look_105 : decode cX6_look 105 = .ok (.iaload, 1) := by decide +kernel
theorem dX6_look_106 : decode cX6_look 106 = .ok (.goto 4, 3) := by decide +kernel
theorem dX6_look_109 : decode cX6_look 109 = .ok (.iconst (-1), 1) := by decide +kernel
theorem dX6_look_110 : decode cX6_look 110 = .ok (.ireturn, 1) := by decide +kernel
theorem dX6_look_111 : decode cX6_look 111 = .ok (.aload_n 0, 1) := by decide +kernel
theorem dX6_look_112 : decode cX6_look 112 = .ok (.getfield 46, 3) := by decide +kernel
theorem dX6_look_115 : decode cX6_look 115 = .ok (.getfield 175, 3) := by decide +kernel
theorem dX6_look_118 : decode cX6_look 118 = .ok (.iload_n 1, 1) := by decide +kernel
theorem dX6_look_119 : decode cX6_look 119 = .ok (.iaload, 1) := by decide +kernel
theorem dX6_look_120 : decode cX6_look 120 = .ok (.iconst 2, 1) := by decide +kernel
theorem dX6_look_121 : decode cX6_look 121 = .ok (.if_icmp .ne 15, 3) := by decide +kernel
theorem dX6_look_124 : decode cX6_look 124 = .ok (.aload_n 0, 1) := by decide +kernel
theorem dX6_look_125 : decode cX6_look 125 = .ok (.getfield 46, 3) := by decide +kernel
theorem dX6_look_128 : decode cX6_look 128 = .ok (.getfield 226, 3) := by decide +kernel
theorem dX6_look_131 : decode cX6_look 131 = .ok (.iload_n 1, 1) := by decide +kernel
theorem dX6_look_132 : decode cX6_look 132 = .ok (.iaload, 1) := by decide +kernel
theorem dX6_look_133 : decode cX6_look 133 = .ok (.goto 4, 3) := by decide +kernel
theorem dX6_look_136 : decode cX6_look 136 = .ok (.iconst (-1), 1) := by decide +kernel
theorem dX6_look_137 : decode cX6_look 137 = .ok (.ireturn, 1) := by decide +kernel
theorem dX6_look_138 : decode cX6_look 138 = .ok (.new 193, 3) := by decide +kernel
theorem dX6_look_141 : decode cX6_look 141 = .ok (.dup, 1) := by decide +kernel
theorem dX6_look_142 : decode cX6_look 142 = .ok (.ldc 229, 2) := by decide +kernel
theorem dX6_look_144 : decode cX6_look 144 = .ok (.invokespecial 197, 3) := by decide +kernel
theorem dX6_look_147 : decode cX6_look 147 = .ok (.athrow, 1) := by decide +kernel
theorem dX6_needBooking_0 : decode cX6_needBooking 0 = .ok (.iload_n 1, 1) := by decide +kernel
theorem dX6_needBooking_1 : decode cX6_needBooking 1 = .ok (.iconst 1, 1) := by decide +kernel
theorem dX6_needBooking_2 : decode cX6_needBooking 2 = .ok (.if_icmp .lt 14, 3) := by decide +kernel
theorem dX6_needBooking_5 : decode cX6_needBooking 5 = .ok (.iload_n 1, 1) := by decide +kernel
theorem dX6_needBooking_6 : decode cX6_needBooking 6 = .ok (.aload_n 0, 1) := by decide +kernel
theorem dX6_needBooking_7 : decode cX6_needBooking 7 = .ok (.getfield 46, 3) := by decide +kernel
theorem dX6_needBooking_10 : decode cX6_needBooking 10 = .ok (.getfield 145, 3) := by decide +kernel
theorem dX6_needBooking_13 : decode cX6_needBooking 13 = .ok (.if_icmp .le 14, 3) := by decide +kernel
theorem dX6_needBooking_16 : decode cX6_needBooking 16 = .ok (.new 193, 3) := by decide +kernel
theorem dX6_needBooking_19 : decode cX6_needBooking 19 = .ok (.dup, 1) := by decide +kernel
theorem dX6_needBooking_20 : decode cX6_needBooking 20 = .ok (.ldc_w 261, 3) := by decide +kernel
theorem dX6_needBooking_23 : decode cX6_needBooking 23 = .ok (.invokespecial 197, 3) := by decide +kernel
theorem dX6_needBooking_26 : decode cX6_needBooking 26 = .ok (.athrow, 1) := by decide +kernel
theorem dX6_needBooking_27 : decode cX6_needBooking 27 = .ok (.return_, 1) := by decide +kernel
theorem dX6_needBox_0 : decode cX6_needBox 0 = .ok (.iload_n 1, 1) := by decide +kernel
theorem dX6_needBox_1 : decode cX6_needBox 1 = .ok (.ifCond .lt 14, 3) := by decide +kernel
theorem dX6_needBox_4 : decode cX6_needBox 4 = .ok (.iload_n 1, 1) := by decide +kernel
theorem dX6_needBox_5 : decode cX6_needBox 5 = .ok (.aload_n 0, 1) := by decide +kernel
theorem dX6_needBox_6 : decode cX6_needBox 6 = .ok (.getfield 19, 3) := by decide +kernel
theorem dX6_needBox_9 : decode cX6_needBox 9 = .ok (.getfield 101, 3) := by decide +kernel
theorem dX6_needBox_12 : decode cX6_needBox 12 = .ok (.if_icmp .lt 14, 3) := by decide +kernel
theorem dX6_needBox_15 : decode cX6_needBox 15 = .ok (.new 193, 3) := by decide +kernel
theorem dX6_needBox_18 : decode cX6_needBox 18 = .ok (.dup, 1) := by decide +kernel
theorem dX6_needBox_19 : decode cX6_needBox 19 = .ok (.ldc_w 259, 3) := by decide +kernel
theorem dX6_needBox_22 : decode cX6_needBox 22 = .ok (.invokespecial 197, 3) := by decide +kernel
theorem dX6_needBox_25 : decode cX6_needBox 25 = .ok (.athrow, 1) := by decide +kernel
theorem dX6_needBox_26 : decode cX6_needBox 26 = .ok (.return_, 1) := by decide +kernel
theorem dX6_needSlot_0 : decode cX6_needSlot 0 = .ok (.aload_n 0, 1) := by decide +kernel
theorem dX6_needSlot_1 : decode cX6_needSlot 1 = .ok (.getfield 39, 3) := by decide +kernel
theorem dX6_needSlot_4 : decode cX6_needSlot 4 = .ok (.iload_n 1, 1) := by decide +kernel
theorem dX6_needSlot_5 : decode cX6_needSlot 5 = .ok (.invokevirtual 234, 3) := by decide +kernel
theorem dX6_needSlot_8 : decode cX6_needSlot 8 = .ok (.ifCond .ne 13, 3) := by decide +kernel
theorem dX6_needSlot_11 : decode cX6_needSlot 11 = .ok (.new 193, 3) := by decide +kernel
theorem dX6_needSlot_14 : decode cX6_needSlot 14 = .ok (.dup, 1) := by decide +kernel
theorem dX6_needSlot_15 : decode cX6_needSlot 15 = .ok (.ldc 255, 2) := by decide +kernel
theorem dX6_needSlot_17 : decode cX6_needSlot 17 = .ok (.invokespecial 197, 3) := by decide +kernel
theorem dX6_needSlot_20 : decode cX6_needSlot 20 = .ok (.athrow, 1) := by decide +kernel
theorem dX6_needSlot_21 : decode cX6_needSlot 21 = .ok (.return_, 1) := by decide +kernel
theorem dX6_needTime_0 : decode cX6_needTime 0 = .ok (.iload_n 1, 1) := by decide +kernel
theorem dX6_needTime_1 : decode cX6_needTime 1 = .ok (.aload_n 0, 1) := by decide +kernel
theorem dX6_needTime_2 : decode cX6_needTime 2 = .ok (.getfield 169, 3) := by decide +kernel
theorem dX6_needTime_5 : decode cX6_needTime 5 = .ok (.if_icmp .lt 9, 3) := by decide +kernel
theorem dX6_needTime_8 : decode cX6_needTime 8 = .ok (.iload_n 1, 1) := by decide +kernel
theorem dX6_needTime_9 : decode cX6_needTime 9 = .ok (.ldc 98, 2) := by decide +kernel
theorem dX6_needTime_11 : decode cX6_needTime 11 = .ok (.if_icmp .le 14, 3) := by decide +kernel
theorem dX6_needTime_14 : decode cX6_needTime 14 = .ok (.new 68, 3) := by decide +kernel
theorem dX6_needTime_17 : decode cX6_needTime 17 = .ok (.dup, 1) := by decide +kernel
theorem dX6_needTime_18 : decode cX6_needTime 18 = .ok (.ldc_w 263, 3) := by decide +kernel
theorem dX6_needTime_21 : decode cX6_needTime 21 = .ok (.invokespecial 72, 3) := by decide +kernel
theorem dX6_needTime_24 : decode cX6_needTime 24 = .ok (.athrow, 1) := by decide +kernel
theorem dX6_needTime_25 : decode cX6_needTime 25 = .ok (.return_, 1) := by decide +kernel
theorem dX6_needTruck_0 : decode cX6_needTruck 0 = .ok (.iload_n 1, 1) := by decide +kernel
theorem dX6_needTruck_1 : decode cX6_needTruck 1 = .ok (.ifCond .lt 9, 3) := by decide +kernel
theorem dX6_needTruck_4 : decode cX6_needTruck 4 = .ok (.iload_n 1, 1) := by decide +kernel
theorem dX6_needTruck_5 : decode cX6_needTruck 5 = .ok (.bipush 16, 2) := by decide +kernel
theorem dX6_needTruck_7 : decode cX6_needTruck 7 = .ok (.if_icmp .lt 14, 3) := by decide +kernel
theorem dX6_needTruck_10 : decode cX6_needTruck 10 = .ok (.new 193, 3) := by decide +kernel
theorem dX6_needTruck_13 : decode cX6_needTruck 13 = .ok (.dup, 1) := by decide +kernel
theorem dX6_needTruck_14 : decode cX6_needTruck 14 = .ok (.ldc_w 257, 3) := by decide +kernel
theorem dX6_needTruck_17 : decode cX6_needTruck 17 = .ok (.invokespecial 197, 3) := by decide +kernel
theorem dX6_needTruck_20 : decode cX6_needTruck 20 = .ok (.athrow, 1) := by decide +kernel
theorem dX6_needTruck_21 : decode cX6_needTruck 21 = .ok (.return_, 1) := by decide +kernel
theorem dX6_noShow_0 : decode cX6_noShow 0 = .ok (.aload_n 0, 1) := by decide +kernel
theorem dX6_noShow_1 : decode cX6_noShow 1 = .ok (.iload_n 1, 1) := by decide +kernel
theorem dX6_noShow_2 : decode cX6_noShow 2 = .ok (.invokevirtual 166, 3) := by decide +kernel
theorem dX6_noShow_5 : decode cX6_noShow 5 = .ok (.aload_n 0, 1) := by decide +kernel
theorem dX6_noShow_6 : decode cX6_noShow 6 = .ok (.iload_n 1, 1) := by decide +kernel
theorem dX6_noShow_7 : decode cX6_noShow 7 = .ok (.putfield 169, 3) := by decide +kernel
theorem dX6_noShow_10 : decode cX6_noShow 10 = .ok (.iconst 0, 1) := by decide +kernel
theorem dX6_noShow_11 : decode cX6_noShow 11 = .ok (.istore_n 2, 1) := by decide +kernel
theorem dX6_noShow_12 : decode cX6_noShow 12 = .ok (.iconst 1, 1) := by decide +kernel
theorem dX6_noShow_13 : decode cX6_noShow 13 = .ok (.istore_n 3, 1) := by decide +kernel
theorem dX6_noShow_14 : decode cX6_noShow 14 = .ok (.iload_n 3, 1) := by decide +kernel
theorem dX6_noShow_15 : decode cX6_noShow 15 = .ok (.aload_n 0, 1) := by decide +kernel
theorem dX6_noShow_16 : decode cX6_noShow 16 = .ok (.getfield 46, 3) := by decide +kernel
theorem dX6_noShow_19 : decode cX6_noShow 19 = .ok (.getfield 145, 3) := by decide +kernel
theorem dX6_noShow_22 : decode cX6_noShow 22 = .ok (.if_icmp .gt 45, 3) := by decide +kernel
theorem dX6_noShow_25 : decode cX6_noShow 25 = .ok (.aload_n 0, 1) := by decide +kernel
theorem dX6_noShow_26 : decode cX6_noShow 26 = .ok (.getfield 46, 3) := by decide +kernel
theorem dX6_noShow_29 : decode cX6_noShow 29 = .ok (.getfield 175, 3) := by decide +kernel
theorem dX6_noShow_32 : decode cX6_noShow 32 = .ok (.iload_n 3, 1) := by decide +kernel
theorem dX6_noShow_33 : decode cX6_noShow 33 = .ok (.iaload, 1) := by decide +kernel
theorem dX6_noShow_34 : decode cX6_noShow 34 = .ok (.ifCond .ne 27, 3) := by decide +kernel
theorem dX6_noShow_37 : decode cX6_noShow 37 = .ok (.aload_n 0, 1) := by decide +kernel
theorem dX6_noShow_38 : decode cX6_noShow 38 = .ok (.aload_n 0, 1) := by decide +kernel
theorem dX6_noShow_39 : decode cX6_noShow 39 = .ok (.getfield 46, 3) := by decide +kernel
theorem dX6_noShow_42 : decode cX6_noShow 42 = .ok (.getfield 211, 3) := by decide +kernel
theorem dX6_noShow_45 : decode cX6_noShow 45 = .ok (.iload_n 3, 1) := by decide +kernel
theorem dX6_noShow_46 : decode cX6_noShow 46 = .ok (.iaload, 1) := by decide +kernel
theorem dX6_noShow_47 : decode cX6_noShow 47 = .ok (.invokevirtual 214, 3) := by decide +kernel
theorem dX6_noShow_50 : decode cX6_noShow 50 = .ok (.ifCond .eq 11, 3) := by decide +kernel
theorem dX6_noShow_53 : decode cX6_noShow 53 = .ok (.aload_n 0, 1) := by decide +kernel
theorem dX6_noShow_54 : decode cX6_noShow 54 = .ok (.iload_n 3, 1) := by decide +kernel
theorem dX6_noShow_55 : decode cX6_noShow 55 = .ok (.invokevirtual 217, 3) := by decide +kernel
theorem dX6_noShow_58 : decode cX6_noShow 58 = .ok (.iinc 2 1, 3) := by decide +kernel
theorem dX6_noShow_61 : decode cX6_noShow 61 = .ok (.iinc 3 1, 3) := by decide +kernel
theorem dX6_noShow_64 : decode cX6_noShow 64 = .ok (.goto (-50), 3) := by decide +kernel
theorem dX6_noShow_67 : decode cX6_noShow 67 = .ok (.iload_n 2, 1) := by decide +kernel
theorem dX6_noShow_68 : decode cX6_noShow 68 = .ok (.ireturn, 1) := by decide +kernel
theorem dX6_otherSlot_0 : decode cX6_otherSlot 0 = .ok (.iconst (-1), 1) := by decide +kernel
theorem dX6_otherSlot_1 : decode cX6_otherSlot 1 = .ok (.aload_n 0, 1) := by decide +kernel
theorem dX6_otherSlot_2 : decode cX6_otherSlot 2 = .ok (.getfield 39, 3) := by decide +kernel
theorem dX6_otherSlot_5 : decode cX6_otherSlot 5 = .ok (.iload_n 1, 1) := by decide +kernel
theorem dX6_otherSlot_6 : decode cX6_otherSlot 6 = .ok (.invokevirtual 265, 3) := by decide +kernel
theorem dX6_otherSlot_9 : decode cX6_otherSlot 9 = .ok (.isub, 1) := by decide +kernel
theorem dX6_otherSlot_10 : decode cX6_otherSlot 10 = .ok (.ireturn, 1) := by decide +kernel
theorem dX6_queue_0 : decode cX6_queue 0 = .ok (.iload_n 1, 1) := by decide +kernel
theorem dX6_queue_1 : decode cX6_queue 1 = .ok (.invokestatic 190, 3) := by decide +kernel
theorem dX6_queue_4 : decode cX6_queue 4 = .ok (.ifCond .eq 16, 3) := by decide +kernel
theorem dX6_queue_7 : decode cX6_queue 7 = .ok (.aload_n 0, 1) := by decide +kernel
theorem dX6_queue_8 : decode cX6_queue 8 = .ok (.getfield 52, 3) := by decide +kernel
theorem dX6_queue_11 : decode cX6_queue 11 = .ok (.iload_n 1, 1) := by decide +kernel
theorem dX6_queue_12 : decode cX6_queue 12 = .ok (.aaload, 1) := by decide +kernel
theorem dX6_queue_13 : decode cX6_queue 13 = .ok (.iload_n 2, 1) := by decide +kernel
theorem dX6_queue_14 : decode cX6_queue 14 = .ok (.invokevirtual 199, 3) := by decide +kernel
theorem dX6_queue_17 : decode cX6_queue 17 = .ok (.goto 4, 3) := by decide +kernel
theorem dX6_queue_20 : decode cX6_queue 20 = .ok (.iconst (-1), 1) := by decide +kernel
theorem dX6_queue_21 : decode cX6_queue 21 = .ok (.ireturn, 1) := by decide +kernel
theorem dX6_sign_0 : decode cX6_sign 0 = .ok (.iload_n 1, 1) := by decide +kernel
theorem dX6_sign_1 : decode cX6_sign 1 = .ok (.invokestatic 61, 3) := by decide +kernel
theorem dX6_sign_4 : decode cX6_sign 4 = .ok (.ifCond .ne 20, 3) := by decide +kernel
theorem dX6_sign_7 : decode cX6_sign 7 = .ok (.iload_n 1, 1) := by decide +kernel
theorem dX6_sign_8 : decode cX6_sign 8 = .ok (.invokestatic 65, 3) := by decide +kernel
theorem dX6_sign_11 : decode cX6_sign 11 = .ok (.ifCond .ne 13, 3) := by decide +kernel
theorem dX6_sign_14 : decode cX6_sign 14 = .ok (.new 68, 3) := by decide +kernel
theorem dX6_sign_17 : decode cX6_sign 17 = .ok (.dup, 1) := by decide +kernel
theorem dX6_sign_18 : decode cX6_sign 18 = .ok (.ldc 70, 2) := by decide +kernel
theorem dX6_sign_20 : decode cX6_sign 20 = .ok (.invokespecial 72, 3) := by decide +kernel
theorem dX6_sign_23 : decode cX6_sign 23 = .ok (.athrow, 1) := by decide +kernel
theorem dX6_sign_24 : decode cX6_sign 24 = .ok (.aload_n 0, 1) := by decide +kernel
theorem dX6_sign_25 : decode cX6_sign 25 = .ok (.getfield 10, 3) := by decide +kernel
theorem dX6_sign_28 : decode cX6_sign 28 = .ok (.getfield 75, 3) := by decide +kernel
theorem dX6_sign_31 : decode cX6_sign 31 = .ok (.bipush 11, 2) := by decide +kernel
theorem dX6_sign_33 : decode cX6_sign 33 = .ok (.if_icmp .lt 13, 3) := by decide +kernel
theorem dX6_sign_36 : decode cX6_sign 36 = .ok (.new 78, 3) := by decide +kernel
theorem dX6_sign_39 : decode cX6_sign 39 = .ok (.dup, 1) := by decide +kernel
theorem dX6_sign_40 : decode cX6_sign 40 = .ok (.ldc 80, 2) := by decide +kernel
theorem dX6_sign_42 : decode cX6_sign 42 = .ok (.invokespecial 82, 3) := by decide +kernel
theorem dX6_sign_45 : decode cX6_sign 45 = .ok (.athrow, 1) := by decide +kernel
theorem dX6_sign_46 : decode cX6_sign 46 = .ok (.aload_n 0, 1) := by decide +kernel
theorem dX6_sign_47 : decode cX6_sign 47 = .ok (.getfield 10, 3) := by decide +kernel
theorem dX6_sign_50 : decode cX6_sign 50 = .ok (.iload_n 1, 1) := by decide +kernel
theorem dX6_sign_51 : decode cX6_sign 51 = .ok (.invokevirtual 83, 3) := by decide +kernel
theorem dX6_sign_54 : decode cX6_sign 54 = .ok (.ifCond .ne 13, 3) := by decide +kernel
theorem dX6_sign_57 : decode cX6_sign 57 = .ok (.new 68, 3) := by decide +kernel
theorem dX6_sign_60 : decode cX6_sign 60 = .ok (.dup, 1) := by decide +kernel
theorem dX6_sign_61 : decode cX6_sign 61 = .ok (.ldc 86, 2) := by decide +kernel
theorem dX6_sign_63 : decode cX6_sign 63 = .ok (.invokespecial 72, 3) := by decide +kernel
theorem dX6_sign_66 : decode cX6_sign 66 = .ok (.athrow, 1) := by decide +kernel
theorem dX6_sign_67 : decode cX6_sign 67 = .ok (.aload_n 0, 1) := by decide +kernel
theorem dX6_sign_68 : decode cX6_sign 68 = .ok (.getfield 10, 3) := by decide +kernel
theorem dX6_sign_71 : decode cX6_sign 71 = .ok (.iload_n 1, 1) := by decide +kernel
theorem dX6_sign_72 : decode cX6_sign 72 = .ok (.invokevirtual 88, 3) := by decide +kernel
theorem dX6_sign_75 : decode cX6_sign 75 = .ok (.aload_n 0, 1) := by decide +kernel
theorem dX6_sign_76 : decode cX6_sign 76 = .ok (.getfield 10, 3) := by decide +kernel
theorem dX6_sign_79 : decode cX6_sign 79 = .ok (.getfield 75, 3) := by decide +kernel
theorem dX6_sign_82 : decode cX6_sign 82 = .ok (.ireturn, 1) := by decide +kernel
theorem dX6_through_0 : decode cX6_through 0 = .ok (.aload_n 0, 1) := by decide +kernel
theorem dX6_through_1 : decode cX6_through 1 = .ok (.iload_n 1, 1) := by decide +kernel
theorem dX6_through_2 : decode cX6_through 2 = .ok (.invokevirtual 163, 3) := by decide +kernel
theorem dX6_through_5 : decode cX6_through 5 = .ok (.aload_n 0, 1) := by decide +kernel
theorem dX6_through_6 : decode cX6_through 6 = .ok (.iload_n 2, 1) := by decide +kernel
theorem dX6_through_7 : decode cX6_through 7 = .ok (.invokevirtual 166, 3) := by decide +kernel
theorem dX6_through_10 : decode cX6_through 10 = .ok (.aload_n 0, 1) := by decide +kernel
theorem dX6_through_11 : decode cX6_through 11 = .ok (.iload_n 2, 1) := by decide +kernel
theorem dX6_through_12 : decode cX6_through 12 = .ok (.putfield 169, 3) := by decide +kernel
theorem dX6_through_15 : decode cX6_through 15 = .ok (.aload_n 0, 1) := by decide +kernel
theorem dX6_through_16 : decode cX6_through 16 = .ok (.iload_n 1, 1) := by decide +kernel
theorem dX6_through_17 : decode cX6_through 17 = .ok (.invokevirtual 172, 3) := by decide +kernel
theorem dX6_through_20 : decode cX6_through 20 = .ok (.istore_n 3, 1) := by decide +kernel
theorem dX6_through_21 : decode cX6_through 21 = .ok (.iload_n 3, 1) := by decide +kernel
theorem dX6_through_22 : decode cX6_through 22 = .ok (.ifCond .eq 6, 3) := by decide +kernel
theorem dX6_through_25 : decode cX6_through 25 = .ok (.iload_n 3, 1) := by decide +kernel
theorem dX6_through_26 : decode cX6_through 26 = .ok (.ineg, 1) := by decide +kernel
theorem dX6_through_27 : decode cX6_through 27 = .ok (.ireturn, 1) := by decide +kernel
theorem dX6_through_28 : decode cX6_through 28 = .ok (.aload_n 0, 1) := by decide +kernel
theorem dX6_through_29 : decode cX6_through 29 = .ok (.getfield 46, 3) := by decide +kernel
theorem dX6_through_32 : decode cX6_through 32 = .ok (.getfield 175, 3) := by decide +kernel
theorem dX6_through_35 : decode cX6_through 35 = .ok (.iload_n 1, 1) := by decide +kernel
theorem dX6_through_36 : decode cX6_through 36 = .ok (.iconst 1, 1) := by decide +kernel
theorem dX6_through_37 : decode cX6_through 37 = .ok (.iastore, 1) := by decide +kernel
theorem dX6_through_38 : decode cX6_through 38 = .ok (.aload_n 0, 1) := by decide +kernel
theorem dX6_through_39 : decode cX6_through 39 = .ok (.getfield 46, 3) := by decide +kernel
theorem dX6_through_42 : decode cX6_through 42 = .ok (.getfield 178, 3) := by decide +kernel
theorem dX6_through_45 : decode cX6_through 45 = .ok (.iload_n 1, 1) := by decide +kernel
theorem dX6_through_46 : decode cX6_through 46 = .ok (.aload_n 0, 1) := by decide +kernel
theorem dX6_through_47 : decode cX6_through 47 = .ok (.getfield 169, 3) := by decide +kernel
theorem dX6_through_50 : decode cX6_through 50 = .ok (.iastore, 1) := by decide +kernel
theorem dX6_through_51 : decode cX6_through 51 = .ok (.aload_n 0, 1) := by decide +kernel
theorem dX6_through_52 : decode cX6_through 52 = .ok (.iload_n 1, 1) := by decide +kernel
theorem dX6_through_53 : decode cX6_through 53 = .ok (.aload_n 0, 1) := by decide +kernel
theorem dX6_through_54 : decode cX6_through 54 = .ok (.aload_n 0, 1) := by decide +kernel
theorem dX6_through_55 : decode cX6_through 55 = .ok (.getfield 46, 3) := by decide +kernel
theorem dX6_through_58 : decode cX6_through 58 = .ok (.getfield 181, 3) := by decide +kernel
theorem dX6_through_61 : decode cX6_through 61 = .ok (.iload_n 1, 1) := by decide +kernel
theorem dX6_through_62 : decode cX6_through 62 = .ok (.iaload, 1) := by decide +kernel
theorem dX6_through_63 : decode cX6_through 63 = .ok (.invokevirtual 184, 3) := by decide +kernel
theorem dX6_through_66 : decode cX6_through 66 = .ok (.invokevirtual 187, 3) := by decide +kernel
theorem dX6_through_69 : decode cX6_through 69 = .ok (.iconst 1, 1) := by decide +kernel
theorem dX6_through_70 : decode cX6_through 70 = .ok (.ireturn, 1) := by decide +kernel
theorem dX6_tolerance_0 : decode cX6_tolerance 0 = .ok (.iload_n 1, 1) := by decide +kernel
theorem dX6_tolerance_1 : decode cX6_tolerance 1 = .ok (.ifCond .lt 10, 3) := by decide +kernel
theorem dX6_tolerance_4 : decode cX6_tolerance 4 = .ok (.iload_n 1, 1) := by decide +kernel
theorem dX6_tolerance_5 : decode cX6_tolerance 5 = .ok (.sipush 1000, 3) := by decide +kernel
theorem dX6_tolerance_8 : decode cX6_tolerance 8 = .ok (.if_icmp .le 5, 3) := by decide +kernel
theorem dX6_tolerance_11 : decode cX6_tolerance 11 = .ok (.iconst 0, 1) := by decide +kernel
theorem dX6_tolerance_12 : decode cX6_tolerance 12 = .ok (.ireturn, 1) := by decide +kernel
theorem dX6_tolerance_13 : decode cX6_tolerance 13 = .ok (.aload_n 0, 1) := by decide +kernel
theorem dX6_tolerance_14 : decode cX6_tolerance 14 = .ok (.iload_n 1, 1) := by decide +kernel
theorem dX6_tolerance_15 : decode cX6_tolerance 15 = .ok (.putfield 57, 3) := by decide +kernel
theorem dX6_tolerance_18 : decode cX6_tolerance 18 = .ok (.iconst 1, 1) := by decide +kernel
theorem dX6_tolerance_19 : decode cX6_tolerance 19 = .ok (.ireturn, 1) := by decide +kernel
theorem dX6_weigh_0 : decode cX6_weigh 0 = .ok (.iload_n 1, 1) := by decide +kernel
theorem dX6_weigh_1 : decode cX6_weigh 1 = .ok (.invokestatic 190, 3) := by decide +kernel
theorem dX6_weigh_4 : decode cX6_weigh 4 = .ok (.ifCond .ne 13, 3) := by decide +kernel
theorem dX6_weigh_7 : decode cX6_weigh 7 = .ok (.new 193, 3) := by decide +kernel
theorem dX6_weigh_10 : decode cX6_weigh 10 = .ok (.dup, 1) := by decide +kernel
theorem dX6_weigh_11 : decode cX6_weigh 11 = .ok (.ldc 195, 2) := by decide +kernel
theorem dX6_weigh_13 : decode cX6_weigh 13 = .ok (.invokespecial 197, 3) := by decide +kernel
theorem dX6_weigh_16 : decode cX6_weigh 16 = .ok (.athrow, 1) := by decide +kernel
theorem dX6_weigh_17 : decode cX6_weigh 17 = .ok (.aload_n 0, 1) := by decide +kernel
theorem dX6_weigh_18 : decode cX6_weigh 18 = .ok (.iload_n 3, 1) := by decide +kernel
theorem dX6_weigh_19 : decode cX6_weigh 19 = .ok (.invokevirtual 166, 3) := by decide +kernel
theorem dX6_weigh_22 : decode cX6_weigh 22 = .ok (.iload_n 2, 1) := by decide +kernel
theorem dX6_weigh_23 : decode cX6_weigh 23 = .ok (.ifCond .lt 9, 3) := by decide +kernel
theorem dX6_weigh_26 : decode cX6_weigh 26 = .ok (.iload_n 2, 1) := by decide +kernel
theorem dX6_weigh_27 : decode cX6_weigh 27 = .ok (.ldc 198, 2) := by decide +kernel
theorem dX6_weigh_29 : decode cX6_weigh 29 = .ok (.if_icmp .le 13, 3) := by decide +kernel
theorem dX6_weigh_32 : decode cX6_weigh 32 = .ok (.new 68, 3) := by decide +kernel
theorem dX6_weigh_35 : decode cX6_weigh 35 = .ok (.dup, 1) := by decide +kernel
theorem dX6_weigh_36 : decode cX6_weigh 36 = .ok (.ldc 99, 2) := by decide +kernel
theorem dX6_weigh_38 : decode cX6_weigh 38 = .ok (.invokespecial 72, 3) := by decide +kernel
theorem dX6_weigh_41 : decode cX6_weigh 41 = .ok (.athrow, 1) := by decide +kernel
theorem dX6_weigh_42 : decode cX6_weigh 42 = .ok (.aload_n 0, 1) := by decide +kernel
theorem dX6_weigh_43 : decode cX6_weigh 43 = .ok (.iload_n 3, 1) := by decide +kernel
theorem dX6_weigh_44 : decode cX6_weigh 44 = .ok (.putfield 169, 3) := by decide +kernel
theorem dX6_weigh_47 : decode cX6_weigh 47 = .ok (.aload_n 0, 1) := by decide +kernel
theorem dX6_weigh_48 : decode cX6_weigh 48 = .ok (.getfield 52, 3) := by decide +kernel
theorem dX6_weigh_51 : decode cX6_weigh 51 = .ok (.iload_n 1, 1) := by decide +kernel
theorem dX6_weigh_52 : decode cX6_weigh 52 = .ok (.aaload, 1) := by decide +kernel
theorem dX6_weigh_53 : decode cX6_weigh 53 = .ok (.iconst 0, 1) := by decide +kernel
theorem dX6_weigh_54 : decode cX6_weigh 54 = .ok (.invokevirtual 199, 3) := by decide +kernel
theorem dX6_weigh_57 : decode cX6_weigh 57 = .ok (.istore 4, 2) := by decide +kernel
theorem dX6_weigh_59 : decode cX6_weigh 59 = .ok (.iload 4, 2) := by decide +kernel
theorem dX6_weigh_61 : decode cX6_weigh 61 = .ok (.iconst (-1), 1) := by decide +kernel
theorem dX6_weigh_62 : decode cX6_weigh 62 = .ok (.if_icmp .ne 5, 3) := by decide +kernel
theorem dX6_weigh_65 : decode cX6_weigh 65 = .ok (.iconst 0, 1) := by decide +kernel
theorem dX6_weigh_66 : decode cX6_weigh 66 = .ok (.ireturn, 1) := by decide +kernel
theorem dX6_weigh_67 : decode cX6_weigh 67 = .ok (.aload_n 0, 1) := by decide +kernel
theorem dX6_weigh_68 : decode cX6_weigh 68 = .ok (.getfield 52, 3) := by decide +kernel
theorem dX6_weigh_71 : decode cX6_weigh 71 = .ok (.iload_n 1, 1) := by decide +kernel
theorem dX6_weigh_72 : decode cX6_weigh 72 = .ok (.aaload, 1) := by decide +kernel
theorem dX6_weigh_73 : decode cX6_weigh 73 = .ok (.iload 4, 2) := by decide +kernel
theorem dX6_weigh_75 : decode cX6_weigh 75 = .ok (.invokevirtual 202, 3) := by decide +kernel
theorem dX6_weigh_78 : decode cX6_weigh 78 = .ok (.iload_n 1, 1) := by decide +kernel
theorem dX6_weigh_79 : decode cX6_weigh 79 = .ok (.iconst 2, 1) := by decide +kernel
theorem dX6_weigh_80 : decode cX6_weigh 80 = .ok (.if_icmp .eq 21, 3) := by decide +kernel
theorem dX6_weigh_83 : decode cX6_weigh 83 = .ok (.aload_n 0, 1) := by decide +kernel
theorem dX6_weigh_84 : decode cX6_weigh 84 = .ok (.aload_n 0, 1) := by decide +kernel
theorem dX6_weigh_85 : decode cX6_weigh 85 = .ok (.getfield 46, 3) := by decide +kernel
theorem dX6_weigh_88 : decode cX6_weigh 88 = .ok (.getfield 181, 3) := by decide +kernel
theorem dX6_weigh_91 : decode cX6_weigh 91 = .ok (.iload 4, 2) := by decide +kernel
theorem dX6_weigh_93 : decode cX6_weigh 93 = .ok (.iaload, 1) := by decide +kernel
theorem dX6_weigh_94 : decode cX6_weigh 94 = .ok (.iload_n 2, 1) := by decide +kernel
theorem dX6_weigh_95 : decode cX6_weigh 95 = .ok (.invokevirtual 205, 3) := by decide +kernel
theorem dX6_weigh_98 : decode cX6_weigh 98 = .ok (.ifCond .eq 12, 3) := by decide +kernel
theorem dX6_weigh_101 : decode cX6_weigh 101 = .ok (.aload_n 0, 1) := by decide +kernel
theorem dX6_weigh_102 : decode cX6_weigh 102 = .ok (.iload 4, 2) := by decide +kernel
theorem dX6_weigh_104 : decode cX6_weigh 104 = .ok (.invokevirtual 208, 3) := by decide +kernel
theorem dX6_weigh_107 : decode cX6_weigh 107 = .ok (.iload 4, 2) := by decide +kernel
theorem dX6_weigh_109 : decode cX6_weigh 109 = .ok (.ireturn, 1) := by decide +kernel
theorem dX6_weigh_110 : decode cX6_weigh 110 = .ok (.aload_n 0, 1) := by decide +kernel
theorem dX6_weigh_111 : decode cX6_weigh 111 = .ok (.iload 4, 2) := by decide +kernel
theorem dX6_weigh_113 : decode cX6_weigh 113 = .ok (.iconst 2, 1) := by decide +kernel
theorem dX6_weigh_114 : decode cX6_weigh 114 = .ok (.invokevirtual 187, 3) := by decide +kernel
theorem dX6_weigh_117 : decode cX6_weigh 117 = .ok (.iload 4, 2) := by decide +kernel
theorem dX6_weigh_119 : decode cX6_weigh 119 = .ok (.ineg, 1) := by decide +kernel
theorem dX6_weigh_120 : decode cX6_weigh 120 = .ok (.ireturn, 1) := by decide +kernel
theorem dX6_withdraw_0 : decode cX6_withdraw 0 = .ok (.aload_n 0, 1) := by decide +kernel
theorem dX6_withdraw_1 : decode cX6_withdraw 1 = .ok (.getfield 46, 3) := by decide +kernel
theorem dX6_withdraw_4 : decode cX6_withdraw 4 = .ok (.iload_n 1, 1) := by decide +kernel
theorem dX6_withdraw_5 : decode cX6_withdraw 5 = .ok (.invokevirtual 292, 3) := by decide +kernel
theorem dX6_withdraw_8 : decode cX6_withdraw 8 = .ok (.istore_n 2, 1) := by decide +kernel
theorem dX6_withdraw_9 : decode cX6_withdraw 9 = .ok (.iload_n 2, 1) := by decide +kernel
theorem dX6_withdraw_10 : decode cX6_withdraw 10 = .ok (.iconst (-1), 1) := by decide +kernel
theorem dX6_withdraw_11 : decode cX6_withdraw 11 = .ok (.if_icmp .ne 5, 3) := by decide +kernel
theorem dX6_withdraw_14 : decode cX6_withdraw 14 = .ok (.iconst 0, 1) := by decide +kernel
theorem dX6_withdraw_15 : decode cX6_withdraw 15 = .ok (.ireturn, 1) := by decide +kernel
theorem dX6_withdraw_16 : decode cX6_withdraw 16 = .ok (.aload_n 0, 1) := by decide +kernel
theorem dX6_withdraw_17 : decode cX6_withdraw 17 = .ok (.getfield 52, 3) := by decide +kernel
theorem dX6_withdraw_20 : decode cX6_withdraw 20 = .ok (.aload_n 0, 1) := by decide +kernel
theorem dX6_withdraw_21 : decode cX6_withdraw 21 = .ok (.getfield 46, 3) := by decide +kernel
theorem dX6_withdraw_24 : decode cX6_withdraw 24 = .ok (.getfield 223, 3) := by decide +kernel
theorem dX6_withdraw_27 : decode cX6_withdraw 27 = .ok (.iload_n 2, 1) := by decide +kernel
theorem dX6_withdraw_28 : decode cX6_withdraw 28 = .ok (.iaload, 1) := by decide +kernel
theorem dX6_withdraw_29 : decode cX6_withdraw 29 = .ok (.aaload, 1) := by decide +kernel
theorem dX6_withdraw_30 : decode cX6_withdraw 30 = .ok (.iload_n 2, 1) := by decide +kernel
theorem dX6_withdraw_31 : decode cX6_withdraw 31 = .ok (.invokevirtual 202, 3) := by decide +kernel
theorem dX6_withdraw_34 : decode cX6_withdraw 34 = .ok (.aload_n 0, 1) := by decide +kernel
theorem dX6_withdraw_35 : decode cX6_withdraw 35 = .ok (.iload_n 2, 1) := by decide +kernel
theorem dX6_withdraw_36 : decode cX6_withdraw 36 = .ok (.invokevirtual 217, 3) := by decide +kernel
theorem dX6_withdraw_39 : decode cX6_withdraw 39 = .ok (.iconst 1, 1) := by decide +kernel
theorem dX6_withdraw_40 : decode cX6_withdraw 40 = .ok (.ireturn, 1) := by decide +kernel
theorem dX0_add_0 : decode cX0_add 0 = .ok (.aload_n 0, 1) := by decide +kernel
theorem dX0_add_1 : decode cX0_add 1 = .ok (.getfield 33, 3) := by decide +kernel
theorem dX0_add_4 : decode cX0_add 4 = .ok (.bipush 60, 2) := by decide +kernel
theorem dX0_add_6 : decode cX0_add 6 = .ok (.if_icmp .lt 5, 3) := by decide +kernel
theorem dX0_add_9 : decode cX0_add 9 = .ok (.iconst (-1), 1) := by decide +kernel
theorem dX0_add_10 : decode cX0_add 10 = .ok (.ireturn, 1) := by decide +kernel
theorem dX0_add_11 : decode cX0_add 11 = .ok (.aload_n 0, 1) := by decide +kernel
theorem dX0_add_12 : decode cX0_add 12 = .ok (.dup, 1) := by decide +kernel
theorem dX0_add_13 : decode cX0_add 13 = .ok (.getfield 33, 3) := by decide +kernel
theorem dX0_add_16 : decode cX0_add 16 = .ok (.iconst 1, 1) := by decide +kernel
theorem dX0_add_17 : decode cX0_add 17 = .ok (.iadd, 1) := by decide +kernel
theorem dX0_add_18 : decode cX0_add 18 = .ok (.putfield 33, 3) := by decide +kernel
theorem dX0_add_21 : decode cX0_add 21 = .ok (.aload_n 0, 1) := by decide +kernel
theorem dX0_add_22 : decode cX0_add 22 = .ok (.getfield 9, 3) := by decide +kernel
theorem dX0_add_25 : decode cX0_add 25 = .ok (.aload_n 0, 1) := by decide +kernel
theorem dX0_add_26 : decode cX0_add 26 = .ok (.getfield 33, 3) := by decide +kernel
theorem dX0_add_29 : decode cX0_add 29 = .ok (.iload_n 1, 1) := by decide +kernel
theorem dX0_add_30 : decode cX0_add 30 = .ok (.iastore, 1) := by decide +kernel
theorem dX0_add_31 : decode cX0_add 31 = .ok (.aload_n 0, 1) := by decide +kernel
theorem dX0_add_32 : decode cX0_add 32 = .ok (.getfield 15, 3) := by decide +kernel
theorem dX0_add_35 : decode cX0_add 35 = .ok (.aload_n 0, 1) := by decide +kernel
theorem dX0_add_36 : decode cX0_add 36 = .ok (.getfield 33, 3) := by decide +kernel
theorem dX0_add_39 : decode cX0_add 39 = .ok (.iload_n 2, 1) := by decide +kernel
theorem dX0_add_40 : decode cX0_add 40 = .ok (.iastore, 1) := by decide +kernel
theorem dX0_add_41 : decode cX0_add 41 = .ok (.aload_n 0, 1) := by decide +kernel
theorem dX0_add_42 : decode cX0_add 42 = .ok (.getfield 18, 3) := by decide +kernel
theorem dX0_add_45 : decode cX0_add 45 = .ok (.aload_n 0, 1) := by decide +kernel
theorem dX0_add_46 : decode cX0_add 46 = .ok (.getfield 33, 3) := by decide +kernel
theorem dX0_add_49 : decode cX0_add 49 = .ok (.iload_n 3, 1) := by decide +kernel
theorem dX0_add_50 : decode cX0_add 50 = .ok (.iastore, 1) := by decide +kernel
theorem dX0_add_51 : decode cX0_add 51 = .ok (.aload_n 0, 1) := by decide +kernel
theorem dX0_add_52 : decode cX0_add 52 = .ok (.getfield 21, 3) := by decide +kernel
theorem dX0_add_55 : decode cX0_add 55 = .ok (.aload_n 0, 1) := by decide +kernel
theorem dX0_add_56 : decode cX0_add 56 = .ok (.getfield 33, 3) := by decide +kernel
theorem dX0_add_59 : decode cX0_add 59 = .ok (.iconst 0, 1) := by decide +kernel
theorem dX0_add_60 : decode cX0_add 60 = .ok (.iastore, 1) := by decide +kernel
theorem dX0_add_61 : decode cX0_add 61 = .ok (.aload_n 0, 1) := by decide +kernel
theorem dX0_add_62 : decode cX0_add 62 = .ok (.getfield 33, 3) := by decide +kernel
theorem dX0_add_65 : decode cX0_add 65 = .ok (.ireturn, 1) := by decide +kernel
theorem dX0_holdsBox_0 : decode cX0_holdsBox 0 = .ok (.iconst 1, 1) := by decide +kernel
theorem dX0_holdsBox_1 : decode cX0_holdsBox 1 = .ok (.istore_n 2, 1) := by decide +kernel
theorem dX0_holdsBox_2 : decode cX0_holdsBox 2 = .ok (.iload_n 2, 1) := by decide +kernel
theorem dX0_holdsBox_3 : decode cX0_holdsBox 3 = .ok (.aload_n 0, 1) := by decide +kernel
theorem dX0_holdsBox_4 : decode cX0_holdsBox 4 = .ok (.getfield 33, 3) := by decide +kernel
theorem dX0_holdsBox_7 : decode cX0_holdsBox 7 = .ok (.if_icmp .gt 31, 3) := by decide +kernel
theorem dX0_holdsBox_10 : decode cX0_holdsBox 10 = .ok (.aload_n 0, 1) := by decide +kernel
theorem dX0_holdsBox_11 : decode cX0_holdsBox 11 = .ok (.getfield 18, 3) := by decide +kernel
theorem dX0_holdsBox_14 : decode cX0_holdsBox 14 = .ok (.iload_n 2, 1) := by decide +kernel
theorem dX0_holdsBox_15 : decode cX0_holdsBox 15 = .ok (.iaload, 1) := by decide +kernel
theorem dX0_holdsBox_16 : decode cX0_holdsBox 16 = .ok (.iload_n 1, 1) := by decide +kernel
theorem dX0_holdsBox_17 : decode cX0_holdsBox 17 = .ok (.if_icmp .ne 15, 3) := by decide +kernel
theorem dX0_holdsBox_20 : decode cX0_holdsBox 20 = .ok (.aload_n 0, 1) := by decide +kernel
theorem dX0_holdsBox_21 : decode cX0_holdsBox 21 = .ok (.getfield 21, 3) := by decide +kernel
theorem dX0_holdsBox_24 : decode cX0_holdsBox 24 = .ok (.iload_n 2, 1) := by decide +kernel
theorem dX0_holdsBox_25 : decode cX0_holdsBox 25 = .ok (.iaload, 1) := by decide +kernel
theorem dX0_holdsBox_26 : decode cX0_holdsBox 26 = .ok (.iconst 3, 1) := by decide +kernel
theorem dX0_holdsBox_27 : decode cX0_holdsBox 27 = .ok (.if_icmp .eq 5, 3) := by decide +kernel
theorem dX0_holdsBox_30 : decode cX0_holdsBox 30 = .ok (.iconst 1, 1) := by decide +kernel
theorem dX0_holdsBox_31 : decode cX0_holdsBox 31 = .ok (.ireturn, 1) := by decide +kernel
theorem dX0_holdsBox_32 : decode cX0_holdsBox 32 = .ok (.iinc 2 1, 3) := by decide +kernel
theorem dX0_holdsBox_35 : decode cX0_holdsBox 35 = .ok (.goto (-33), 3) := by decide +kernel
theorem dX0_holdsBox_38 : decode cX0_holdsBox 38 = .ok (.iconst 0, 1) := by decide +kernel
theorem dX0_holdsBox_39 : decode cX0_holdsBox 39 = .ok (.ireturn, 1) := by decide +kernel
theorem dX0_holdsTruckIn_0 : decode cX0_holdsTruckIn 0 = .ok (.iconst 1, 1) := by decide +kernel
theorem dX0_holdsTruckIn_1 : decode cX0_holdsTruckIn 1 = .ok (.istore_n 2, 1) := by decide +kernel
theorem dX0_holdsTruckIn_2 : decode cX0_holdsTruckIn 2 = .ok (.iload_n 2, 1) := by decide +kernel
theorem dX0_holdsTruckIn_3 : decode cX0_holdsTruckIn 3 = .ok (.aload_n 0, 1) := by decide +kernel
theorem dX0_holdsTruckIn_4 : decode cX0_holdsTruckIn 4 = .ok (.getfield 33, 3) := by decide +kernel
theorem dX0_holdsTruckIn_7 : decode cX0_holdsTruckIn 7 = .ok (.if_icmp .gt 31, 3) := by decide +kernel
theorem dX0_holdsTruckIn_10 : decode cX0_holdsTruckIn 10 = .ok (.aload_n 0, 1) := by decide +kernel
theorem dX0_holdsTruckIn_11 : decode cX0_holdsTruckIn 11 = .ok (.getfield 15, 3) := by decide +kernel
theorem dX0_holdsTruckIn_14 : decode cX0_holdsTruckIn 14 = .ok (.iload_n 2, 1) := by decide +kernel
theorem dX0_holdsTruckIn_15 : decode cX0_holdsTruckIn 15 = .ok (.iaload, 1) := by decide +kernel
theorem dX0_holdsTruckIn_16 : decode cX0_holdsTruckIn 16 = .ok (.iload_n 1, 1) := by decide +kernel
theorem dX0_holdsTruckIn_17 : decode cX0_holdsTruckIn 17 = .ok (.if_icmp .ne 15, 3) := by decide +kernel
theorem dX0_holdsTruckIn_20 : decode cX0_holdsTruckIn 20 = .ok (.aload_n 0, 1) := by decide +kernel
theorem dX0_holdsTruckIn_21 : decode cX0_holdsTruckIn 21 = .ok (.getfield 21, 3) := by decide +kernel
theorem dX0_holdsTruckIn_24 : decode cX0_holdsTruckIn 24 = .ok (.iload_n 2, 1) := by decide +kernel
theorem dX0_holdsTruckIn_25 : decode cX0_holdsTruckIn 25 = .ok (.iaload, 1) := by decide +kernel
theorem dX0_holdsTruckIn_26 : decode cX0_holdsTruckIn 26 = .ok (.iconst 1, 1) := by decide +kernel
theorem dX0_holdsTruckIn_27 : decode cX0_holdsTruckIn 27 = .ok (.if_icmp .ne 5, 3) := by decide +kernel
theorem dX0_holdsTruckIn_30 : decode cX0_holdsTruckIn 30 = .ok (.iconst 1, 1) := by decide +kernel
theorem dX0_holdsTruckIn_31 : decode cX0_holdsTruckIn 31 = .ok (.ireturn, 1) := by decide +kernel
theorem dX0_holdsTruckIn_32 : decode cX0_holdsTruckIn 32 = .ok (.iinc 2 1, 3) := by decide +kernel
theorem dX0_holdsTruckIn_35 : decode cX0_holdsTruckIn 35 = .ok (.goto (-33), 3) := by decide +kernel
theorem dX0_holdsTruckIn_38 : decode cX0_holdsTruckIn 38 = .ok (.iconst 0, 1) := by decide +kernel
theorem dX0_holdsTruckIn_39 : decode cX0_holdsTruckIn 39 = .ok (.ireturn, 1) := by decide +kernel
theorem dX0_inWithBox_0 : decode cX0_inWithBox 0 = .ok (.iconst 1, 1) := by decide +kernel
theorem dX0_inWithBox_1 : decode cX0_inWithBox 1 = .ok (.istore_n 2, 1) := by decide +kernel
theorem dX0_inWithBox_2 : decode cX0_inWithBox 2 = .ok (.iload_n 2, 1) := by decide +kernel
theorem dX0_inWithBox_3 : decode cX0_inWithBox 3 = .ok (.aload_n 0, 1) := by decide +kernel
theorem dX0_inWithBox_4 : decode cX0_inWithBox 4 = .ok (.getfield 33, 3) := by decide +kernel
theorem dX0_inWithBox_7 : decode cX0_inWithBox 7 = .ok (.if_icmp .gt 31, 3) := by decide +kernel
theorem dX0_inWithBox_10 : decode cX0_inWithBox 10 = .ok (.aload_n 0, 1) := by decide +kernel
theorem dX0_inWithBox_11 : decode cX0_inWithBox 11 = .ok (.getfield 18, 3) := by decide +kernel
theorem dX0_inWithBox_14 : decode cX0_inWithBox 14 = .ok (.iload_n 2, 1) := by decide +kernel
theorem dX0_inWithBox_15 : decode cX0_inWithBox 15 = .ok (.iaload, 1) := by decide +kernel
theorem dX0_inWithBox_16 : decode cX0_inWithBox 16 = .ok (.iload_n 1, 1) := by decide +kernel
theorem dX0_inWithBox_17 : decode cX0_inWithBox 17 = .ok (.if_icmp .ne 15, 3) := by decide +kernel
theorem dX0_inWithBox_20 : decode cX0_inWithBox 20 = .ok (.aload_n 0, 1) := by decide +kernel
theorem dX0_inWithBox_21 : decode cX0_inWithBox 21 = .ok (.getfield 21, 3) := by decide +kernel
theorem dX0_inWithBox_24 : decode cX0_inWithBox 24 = .ok (.iload_n 2, 1) := by decide +kernel
theorem dX0_inWithBox_25 : decode cX0_inWithBox 25 = .ok (.iaload, 1) := by decide +kernel
theorem dX0_inWithBox_26 : decode cX0_inWithBox 26 = .ok (.iconst 1, 1) := by decide +kernel
theorem dX0_inWithBox_27 : decode cX0_inWithBox 27 = .ok (.if_icmp .ne 5, 3) := by decide +kernel
theorem dX0_inWithBox_30 : decode cX0_inWithBox 30 = .ok (.iload_n 2, 1) := by decide +kernel
theorem dX0_inWithBox_31 : decode cX0_inWithBox 31 = .ok (.ireturn, 1) := by decide +kernel
theorem dX0_inWithBox_32 : decode cX0_inWithBox 32 = .ok (.iinc 2 1, 3) := by decide +kernel
theorem dX0_inWithBox_35 : decode cX0_inWithBox 35 = .ok (.goto (-33), 3) := by decide +kernel
theorem dX0_inWithBox_38 : decode cX0_inWithBox 38 = .ok (.iconst (-1), 1) := by decide +kernel
theorem dX0_inWithBox_39 : decode cX0_inWithBox 39 = .ok (.ireturn, 1) := by decide +kernel
theorem dX1_add_0 : decode cX1_add 0 = .ok (.aload_n 0, 1) := by decide +kernel
theorem dX1_add_1 : decode cX1_add 1 = .ok (.getfield 25, 3) := by decide +kernel
theorem dX1_add_4 : decode cX1_add 4 = .ok (.bipush 20, 2) := by decide +kernel
theorem dX1_add_6 : decode cX1_add 6 = .ok (.if_icmp .lt 5, 3) := by decide +kernel
theorem dX1_add_9 : decode cX1_add 9 = .ok (.iconst (-1), 1) := by decide +kernel
theorem dX1_add_10 : decode cX1_add 10 = .ok (.ireturn, 1) := by decide +kernel
theorem dX1_add_11 : decode cX1_add 11 = .ok (.aload_n 0, 1) := by decide +kernel
theorem dX1_add_12 : decode cX1_add 12 = .ok (.getfield 25, 3) := by decide +kernel
theorem dX1_add_15 : decode cX1_add 15 = .ok (.istore 4, 2) := by decide +kernel
theorem dX1_add_17 : decode cX1_add 17 = .ok (.aload_n 0, 1) := by decide +kernel
theorem dX1_add_18 : decode cX1_add 18 = .ok (.dup, 1) := by decide +kernel
theorem dX1_add_19 : decode cX1_add 19 = .ok (.getfield 25, 3) := by decide +kernel
theorem dX1_add_22 : decode cX1_add 22 = .ok (.iconst 1, 1) := by decide +kernel
theorem dX1_add_23 : decode cX1_add 23 = .ok (.iadd, 1) := by decide +kernel
theorem dX1_add_24 : decode cX1_add 24 = .ok (.putfield 25, 3) := by decide +kernel
theorem dX1_add_27 : decode cX1_add 27 = .ok (.iconst 0, 1) := by decide +kernel
theorem dX1_add_28 : decode cX1_add 28 = .ok (.istore 5, 2) := by decide +kernel
theorem dX1_add_30 : decode cX1_add 30 = .ok (.iload 5, 2) := by decide +kernel
theorem dX1_add_32 : decode cX1_add 32 = .ok (.bipush 10, 2) := by decide +kernel
theorem dX1_add_34 : decode cX1_add 34 = .ok (.if_icmp .ge 33, 3) := by decide +kernel
theorem dX1_add_37 : decode cX1_add 37 = .ok (.iload 5, 2) := by decide +kernel
theorem dX1_add_39 : decode cX1_add 39 = .ok (.aload_n 1, 1) := by decide +kernel
theorem dX1_add_40 : decode cX1_add 40 = .ok (.arraylength, 1) := by decide +kernel
theorem dX1_add_41 : decode cX1_add 41 = .ok (.if_icmp .ge 26, 3) := by decide +kernel
theorem dX1_add_44 : decode cX1_add 44 = .ok (.aload_n 0, 1) := by decide +kernel
theorem dX1_add_45 : decode cX1_add 45 = .ok (.getfield 9, 3) := by decide +kernel
theorem dX1_add_48 : decode cX1_add 48 = .ok (.iload 4, 2) := by decide +kernel
theorem dX1_add_50 : decode cX1_add 50 = .ok (.bipush 10, 2) := by decide +kernel
theorem dX1_add_52 : decode cX1_add 52 = .ok (.imul, 1) := by decide +kernel
theorem dX1_add_53 : decode cX1_add 53 = .ok (.iload 5, 2) := by decide +kernel
theorem dX1_add_55 : decode cX1_add 55 = .ok (.iadd, 1) := by decide +kernel
theorem dX1_add_56 : decode cX1_add 56 = .ok (.aload_n 1, 1) := by decide +kernel
theorem dX1_add_57 : decode cX1_add 57 = .ok (.iload 5, 2) := by decide +kernel
theorem dX1_add_59 : decode cX1_add 59 = .ok (.iaload, 1) := by decide +kernel
theorem dX1_add_60 : decode cX1_add 60 = .ok (.iastore, 1) := by decide +kernel
theorem dX1_add_61 : decode cX1_add 61 = .ok (.iinc 5 1, 3) := by decide +kernel
theorem dX1_add_64 : decode cX1_add 64 = .ok (.goto (-34), 3) := by decide +kernel
theorem dX1_add_67 : decode cX1_add 67 = .ok (.aload_n 0, 1) := by decide +kernel
theorem dX1_add_68 : decode cX1_add 68 = .ok (.getfield 15, 3) := by decide +kernel
theorem dX1_add_71 : decode cX1_add 71 = .ok (.iload 4, 2) := by decide +kernel
theorem dX1_add_73 : decode cX1_add 73 = .ok (.iload_n 2, 1) := by decide +kernel
theorem dX1_add_74 : decode cX1_add 74 = .ok (.iastore, 1) := by decide +kernel
theorem dX1_add_75 : decode cX1_add 75 = .ok (.aload_n 0, 1) := by decide +kernel
theorem dX1_add_76 : decode cX1_add 76 = .ok (.getfield 18, 3) := by decide +kernel
theorem dX1_add_79 : decode cX1_add 79 = .ok (.iload 4, 2) := by decide +kernel
theorem dX1_add_81 : decode cX1_add 81 = .ok (.iload_n 3, 1) := by decide +kernel
theorem dX1_add_82 : decode cX1_add 82 = .ok (.bastore, 1) := by decide +kernel
theorem dX1_add_83 : decode cX1_add 83 = .ok (.aload_n 0, 1) := by decide +kernel
theorem dX1_add_84 : decode cX1_add 84 = .ok (.iload 4, 2) := by decide +kernel
theorem dX1_add_86 : decode cX1_add 86 = .ok (.iconst 0, 1) := by decide +kernel
theorem dX1_add_87 : decode cX1_add 87 = .ok (.iconst 0, 1) := by decide +kernel
theorem dX1_add_88 : decode cX1_add 88 = .ok (.invokevirtual 29, 3) := by decide +kernel
theorem dX1_add_91 : decode cX1_add 91 = .ok (.aload_n 0, 1) := by decide +kernel
theorem dX1_add_92 : decode cX1_add 92 = .ok (.iload 4, 2) := by decide +kernel
theorem dX1_add_94 : decode cX1_add 94 = .ok (.iconst 1, 1) := by decide +kernel
theorem dX1_add_95 : decode cX1_add 95 = .ok (.iconst 1, 1) := by decide +kernel
theorem dX1_add_96 : decode cX1_add 96 = .ok (.invokevirtual 29, 3) := by decide +kernel
theorem dX1_add_99 : decode cX1_add 99 = .ok (.aload_n 0, 1) := by decide +kernel
theorem dX1_add_100 : decode cX1_add 100 = .ok (.iload 4, 2) := by decide +kernel
theorem dX1_add_102 : decode cX1_add 102 = .ok (.iconst 2, 1) := by decide +kernel
theorem dX1_add_103 : decode cX1_add 103 = .ok (.iconst 1, 1) := by decide +kernel
theorem dX1_add_104 : decode cX1_add 104 = .ok (.invokevirtual 29, 3) := by decide +kernel
theorem dX1_add_107 : decode cX1_add 107 = .ok (.aload_n 0, 1) := by decide +kernel
theorem dX1_add_108 : decode cX1_add 108 = .ok (.iload 4, 2) := by decide +kernel
theorem dX1_add_110 : decode cX1_add 110 = .ok (.iconst 3, 1) := by decide +kernel
theorem dX1_add_111 : decode cX1_add 111 = .ok (.iconst 1, 1) := by decide +kernel
theorem dX1_add_112 : decode cX1_add 112 = .ok (.invokevirtual 29, 3) := by decide +kernel
theorem dX1_add_115 : decode cX1_add 115 = .ok (.iload 4, 2) := by decide +kernel
theorem dX1_add_117 : decode cX1_add 117 = .ok (.ireturn, 1) := by decide +kernel
theorem dX1_hasNumber_0 : decode cX1_hasNumber 0 = .ok (.iconst 0, 1) := by decide +kernel
theorem dX1_hasNumber_1 : decode cX1_hasNumber 1 = .ok (.istore_n 2, 1) := by decide +kernel
theorem dX1_hasNumber_2 : decode cX1_hasNumber 2 = .ok (.iload_n 2, 1) := by decide +kernel
theorem dX1_hasNumber_3 : decode cX1_hasNumber 3 = .ok (.aload_n 0, 1) := by decide +kernel
theorem dX1_hasNumber_4 : decode cX1_hasNumber 4 = .ok (.getfield 25, 3) := by decide +kernel
theorem dX1_hasNumber_7 : decode cX1_hasNumber 7 = .ok (.if_icmp .ge 20, 3) := by decide +kernel
theorem dX1_hasNumber_10 : decode cX1_hasNumber 10 = .ok (.aload_n 0, 1) := by decide +kernel
theorem dX1_hasNumber_11 : decode cX1_hasNumber 11 = .ok (.iload_n 2, 1) := by decide +kernel
theorem dX1_hasNumber_12 : decode cX1_hasNumber 12 = .ok (.aload_n 1, 1) := by decide +kernel
theorem dX1_hasNumber_13 : decode cX1_hasNumber 13 = .ok (.invokevirtual 33, 3) := by decide +kernel
theorem dX1_hasNumber_16 : decode cX1_hasNumber 16 = .ok (.ifCond .eq 5, 3) := by decide +kernel
theorem dX1_hasNumber_19 : decode cX1_hasNumber 19 = .ok (.iconst 1, 1) := by decide +kernel
theorem dX1_hasNumber_20 : decode cX1_hasNumber 20 = .ok (.ireturn, 1) := by decide +kernel
theorem dX1_hasNumber_21 : decode cX1_hasNumber 21 = .ok (.iinc 2 1, 3) := by decide +kernel
theorem dX1_hasNumber_24 : decode cX1_hasNumber 24 = .ok (.goto (-22), 3) := by decide +kernel
theorem dX1_hasNumber_27 : decode cX1_hasNumber 27 = .ok (.iconst 0, 1) := by decide +kernel
theorem dX1_hasNumber_28 : decode cX1_hasNumber 28 = .ok (.ireturn, 1) := by decide +kernel
theorem dX1_isNumberOf_0 : decode cX1_isNumberOf 0 = .ok (.iconst 0, 1) := by decide +kernel
theorem dX1_isNumberOf_1 : decode cX1_isNumberOf 1 = .ok (.istore_n 3, 1) := by decide +kernel
