theorem dL_at_0 : decode cL_at 0 = .ok (.aload_n 3, 1) := by decide +kernel
theorem dL_at_1 : decode cL_at 1 = .ok (.iconst 0, 1) := by decide +kernel
theorem dL_at_2 : decode cL_at 2 = .ok (.aload_n 0, 1) := by decide +kernel
theorem dL_at_3 : decode cL_at 3 = .ok (.iload_n 1, 1) := by decide +kernel
theorem dL_at_4 : decode cL_at 4 = .ok (.iload_n 2, 1) := by decide +kernel
theorem dL_at_5 : decode cL_at 5 = .ok (.invokevirtual 46, 3) := by decide +kernel
theorem dL_at_8 : decode cL_at 8 = .ok (.i2l, 1) := by decide +kernel
theorem dL_at_9 : decode cL_at 9 = .ok (.lastore, 1) := by decide +kernel
theorem dL_at_10 : decode cL_at 10 = .ok (.goto 7, 3) := by decide +kernel
theorem dL_at_13 : decode cL_at 13 = .ok (.astore 4, 2) := by decide +kernel
theorem dL_at_15 : decode cL_at 15 = .ok (.iconst 1, 1) := by decide +kernel
theorem dL_at_16 : decode cL_at 16 = .ok (.ireturn, 1) := by decide +kernel
theorem dL_at_17 : decode cL_at 17 = .ok (.iconst 0, 1) := by decide +kernel
theorem dL_at_18 : decode cL_at 18 = .ok (.ireturn, 1) := by decide +kernel
theorem dL_book_0 : decode cL_book 0 = .ok (.aload 4, 2) := by decide +kernel
theorem dL_book_2 : decode cL_book 2 = .ok (.iconst 0, 1) := by decide +kernel
theorem dL_book_3 : decode cL_book 3 = .ok (.aload_n 0, 1) := by decide +kernel
theorem dL_book_4 : decode cL_book 4 = .ok (.iload_n 1, 1) := by decide +kernel
theorem dL_book_5 : decode cL_book 5 = .ok (.iload_n 2, 1) := by decide +kernel
theorem dL_book_6 : decode cL_book 6 = .ok (.iload_n 3, 1) := by decide +kernel
theorem dL_book_7 : decode cL_book 7 = .ok (.invokevirtual 27, 3) := by decide +kernel
theorem dL_book_10 : decode cL_book 10 = .ok (.i2l, 1) := by decide +kernel
theorem dL_book_11 : decode cL_book 11 = .ok (.lastore, 1) := by decide +kernel
theorem dL_book_12 : decode cL_book 12 = .ok (.goto 11, 3) := by decide +kernel
theorem dL_book_15 : decode cL_book 15 = .ok (.astore 5, 2) := by decide +kernel
theorem dL_book_17 : decode cL_book 17 = .ok (.iconst 1, 1) := by decide +kernel
theorem dL_book_18 : decode cL_book 18 = .ok (.ireturn, 1) := by decide +kernel
theorem dL_book_19 : decode cL_book 19 = .ok (.astore 5, 2) := by decide +kernel
theorem dL_book_21 : decode cL_book 21 = .ok (.iconst 2, 1) := by decide +kernel
theorem dL_book_22 : decode cL_book 22 = .ok (.ireturn, 1) := by decide +kernel
theorem dL_book_23 : decode cL_book 23 = .ok (.iconst 0, 1) := by decide +kernel
theorem dL_book_24 : decode cL_book 24 = .ok (.ireturn, 1) := by decide +kernel
theorem dL_box_0 : decode cL_box 0 = .ok (.aload_n 3, 1) := by decide +kernel
theorem dL_box_1 : decode cL_box 1 = .ok (.iconst 0, 1) := by decide +kernel
theorem dL_box_2 : decode cL_box 2 = .ok (.aload_n 0, 1) := by decide +kernel
theorem dL_box_3 : decode cL_box 3 = .ok (.iload_n 1, 1) := by decide +kernel
theorem dL_box_4 : decode cL_box 4 = .ok (.iload_n 2, 1) := by decide +kernel
theorem dL_box_5 : decode cL_box 5 = .ok (.invokevirtual 17, 3) := by decide +kernel
theorem dL_box_8 : decode cL_box 8 = .ok (.i2l, 1) := by decide +kernel
theorem dL_box_9 : decode cL_box 9 = .ok (.lastore, 1) := by decide +kernel
theorem dL_box_10 : decode cL_box 10 = .ok (.goto 11, 3) := by decide +kernel
theorem dL_box_13 : decode cL_box 13 = .ok (.astore 4, 2) := by decide +kernel
theorem dL_box_15 : decode cL_box 15 = .ok (.iconst 1, 1) := by decide +kernel
theorem dL_box_16 : decode cL_box 16 = .ok (.ireturn, 1) := by decide +kernel
theorem dL_box_17 : decode cL_box 17 = .ok (.astore 4, 2) := by decide +kernel
theorem dL_box_19 : decode cL_box 19 = .ok (.iconst 2, 1) := by decide +kernel
theorem dL_box_20 : decode cL_box 20 = .ok (.ireturn, 1) := by decide +kernel
theorem dL_box_21 : decode cL_box 21 = .ok (.iconst 0, 1) := by decide +kernel
theorem dL_box_22 : decode cL_box 22 = .ok (.ireturn, 1) := by decide +kernel
theorem dL_change_0 : decode cL_change 0 = .ok (.aload_n 3, 1) := by decide +kernel
theorem dL_change_1 : decode cL_change 1 = .ok (.iconst 0, 1) := by decide +kernel
theorem dL_change_2 : decode cL_change 2 = .ok (.aload_n 0, 1) := by decide +kernel
theorem dL_change_3 : decode cL_change 3 = .ok (.iload_n 1, 1) := by decide +kernel
theorem dL_change_4 : decode cL_change 4 = .ok (.iload_n 2, 1) := by decide +kernel
theorem dL_change_5 : decode cL_change 5 = .ok (.invokevirtual 40, 3) := by decide +kernel
theorem dL_change_8 : decode cL_change 8 = .ok (.i2l, 1) := by decide +kernel
theorem dL_change_9 : decode cL_change 9 = .ok (.lastore, 1) := by decide +kernel
theorem dL_change_10 : decode cL_change 10 = .ok (.goto 7, 3) := by decide +kernel
theorem dL_change_13 : decode cL_change 13 = .ok (.astore 4, 2) := by decide +kernel
theorem dL_change_15 : decode cL_change 15 = .ok (.iconst 1, 1) := by decide +kernel
theorem dL_change_16 : decode cL_change 16 = .ok (.ireturn, 1) := by decide +kernel
theorem dL_change_17 : decode cL_change 17 = .ok (.iconst 0, 1) := by decide +kernel
theorem dL_change_18 : decode cL_change 18 = .ok (.ireturn, 1) := by decide +kernel
theorem dL_check_0 : decode cL_check 0 = .ok (.aload 4, 2) := by decide +kernel
theorem dL_check_2 : decode cL_check 2 = .ok (.iconst 0, 1) := by decide +kernel
theorem dL_check_3 : decode cL_check 3 = .ok (.aload_n 0, 1) := by decide +kernel
theorem dL_check_4 : decode cL_check 4 = .ok (.iload_n 1, 1) := by decide +kernel
theorem dL_check_5 : decode cL_check 5 = .ok (.iload_n 2, 1) := by decide +kernel
theorem dL_check_6 : decode cL_check 6 = .ok (.iload_n 3, 1) := by decide +kernel
theorem dL_check_7 : decode cL_check 7 = .ok (.invokevirtual 21, 3) := by decide +kernel
theorem dL_check_10 : decode cL_check 10 = .ok (.i2l, 1) := by decide +kernel
theorem dL_check_11 : decode cL_check 11 = .ok (.lastore, 1) := by decide +kernel
theorem dL_check_12 : decode cL_check 12 = .ok (.goto 11, 3) := by decide +kernel
theorem dL_check_15 : decode cL_check 15 = .ok (.astore 5, 2) := by decide +kernel
theorem dL_check_17 : decode cL_check 17 = .ok (.iconst 1, 1) := by decide +kernel
theorem dL_check_18 : decode cL_check 18 = .ok (.ireturn, 1) := by decide +kernel
theorem dL_check_19 : decode cL_check 19 = .ok (.astore 5, 2) := by decide +kernel
theorem dL_check_21 : decode cL_check 21 = .ok (.iconst 2, 1) := by decide +kernel
theorem dL_check_22 : decode cL_check 22 = .ok (.ireturn, 1) := by decide +kernel
theorem dL_check_23 : decode cL_check 23 = .ok (.iconst 0, 1) := by decide +kernel
theorem dL_check_24 : decode cL_check 24 = .ok (.ireturn, 1) := by decide +kernel
theorem dL_look_0 : decode cL_look 0 = .ok (.aload_n 3, 1) := by decide +kernel
theorem dL_look_1 : decode cL_look 1 = .ok (.iconst 0, 1) := by decide +kernel
theorem dL_look_2 : decode cL_look 2 = .ok (.aload_n 0, 1) := by decide +kernel
theorem dL_look_3 : decode cL_look 3 = .ok (.iload_n 1, 1) := by decide +kernel
theorem dL_look_4 : decode cL_look 4 = .ok (.iload_n 2, 1) := by decide +kernel
theorem dL_look_5 : decode cL_look 5 = .ok (.invokevirtual 43, 3) := by decide +kernel
theorem dL_look_8 : decode cL_look 8 = .ok (.i2l, 1) := by decide +kernel
theorem dL_look_9 : decode cL_look 9 = .ok (.lastore, 1) := by decide +kernel
theorem dL_look_10 : decode cL_look 10 = .ok (.goto 7, 3) := by decide +kernel
theorem dL_look_13 : decode cL_look 13 = .ok (.astore 4, 2) := by decide +kernel
theorem dL_look_15 : decode cL_look 15 = .ok (.iconst 1, 1) := by decide +kernel
theorem dL_look_16 : decode cL_look 16 = .ok (.ireturn, 1) := by decide +kernel
theorem dL_look_17 : decode cL_look 17 = .ok (.iconst 0, 1) := by decide +kernel
theorem dL_look_18 : decode cL_look 18 = .ok (.ireturn, 1) := by decide +kernel
theorem dL_noShow_0 : decode cL_noShow 0 = .ok (.aload_n 2, 1) := by decide +kernel
theorem dL_noShow_1 : decode cL_noShow 1 = .ok (.iconst 0, 1) := by decide +kernel
theorem dL_noShow_2 : decode cL_noShow 2 = .ok (.aload_n 0, 1) := by decide +kernel
theorem dL_noShow_3 : decode cL_noShow 3 = .ok (.iload_n 1, 1) := by decide +kernel
theorem dL_noShow_4 : decode cL_noShow 4 = .ok (.invokevirtual 37, 3) := by decide +kernel
theorem dL_noShow_7 : decode cL_noShow 7 = .ok (.i2l, 1) := by decide +kernel
theorem dL_noShow_8 : decode cL_noShow 8 = .ok (.lastore, 1) := by decide +kernel
theorem dL_noShow_9 : decode cL_noShow 9 = .ok (.goto 6, 3) := by decide +kernel
theorem dL_noShow_12 : decode cL_noShow 12 = .ok (.astore_n 3, 1) := by decide +kernel
theorem dL_noShow_13 : decode cL_noShow 13 = .ok (.iconst 1, 1) := by decide +kernel
theorem dL_noShow_14 : decode cL_noShow 14 = .ok (.ireturn, 1) := by decide +kernel
theorem dL_noShow_15 : decode cL_noShow 15 = .ok (.iconst 0, 1) := by decide +kernel
theorem dL_noShow_16 : decode cL_noShow 16 = .ok (.ireturn, 1) := by decide +kernel
theorem dL_sign_0 : decode cL_sign 0 = .ok (.aload_n 2, 1) := by decide +kernel
theorem dL_sign_1 : decode cL_sign 1 = .ok (.iconst 0, 1) := by decide +kernel
theorem dL_sign_2 : decode cL_sign 2 = .ok (.aload_n 0, 1) := by decide +kernel
theorem dL_sign_3 : decode cL_sign 3 = .ok (.iload_n 1, 1) := by decide +kernel
theorem dL_sign_4 : decode cL_sign 4 = .ok (.invokevirtual 7, 3) := by decide +kernel
theorem dL_sign_7 : decode cL_sign 7 = .ok (.i2l, 1) := by decide +kernel
theorem dL_sign_8 : decode cL_sign 8 = .ok (.lastore, 1) := by decide +kernel
theorem dL_sign_9 : decode cL_sign 9 = .ok (.goto 9, 3) := by decide +kernel
theorem dL_sign_12 : decode cL_sign 12 = .ok (.astore_n 3, 1) := by decide +kernel
theorem dL_sign_13 : decode cL_sign 13 = .ok (.iconst 1, 1) := by decide +kernel
theorem dL_sign_14 : decode cL_sign 14 = .ok (.ireturn, 1) := by decide +kernel
theorem dL_sign_15 : decode cL_sign 15 = .ok (.astore_n 3, 1) := by decide +kernel
theorem dL_sign_16 : decode cL_sign 16 = .ok (.iconst 2, 1) := by decide +kernel
theorem dL_sign_17 : decode cL_sign 17 = .ok (.ireturn, 1) := by decide +kernel
theorem dL_sign_18 : decode cL_sign 18 = .ok (.iconst 0, 1) := by decide +kernel
theorem dL_sign_19 : decode cL_sign 19 = .ok (.ireturn, 1) := by decide +kernel
theorem dL_through_0 : decode cL_through 0 = .ok (.aload_n 3, 1) := by decide +kernel
theorem dL_through_1 : decode cL_through 1 = .ok (.iconst 0, 1) := by decide +kernel
theorem dL_through_2 : decode cL_through 2 = .ok (.aload_n 0, 1) := by decide +kernel
theorem dL_through_3 : decode cL_through 3 = .ok (.iload_n 1, 1) := by decide +kernel
theorem dL_through_4 : decode cL_through 4 = .ok (.iload_n 2, 1) := by decide +kernel
theorem dL_through_5 : decode cL_through 5 = .ok (.invokevirtual 30, 3) := by decide +kernel
theorem dL_through_8 : decode cL_through 8 = .ok (.i2l, 1) := by decide +kernel
theorem dL_through_9 : decode cL_through 9 = .ok (.lastore, 1) := by decide +kernel
theorem dL_through_10 : decode cL_through 10 = .ok (.goto 11, 3) := by decide +kernel
theorem dL_through_13 : decode cL_through 13 = .ok (.astore 4, 2) := by decide +kernel
theorem dL_through_15 : decode cL_through 15 = .ok (.iconst 1, 1) := by decide +kernel
theorem dL_through_16 : decode cL_through 16 = .ok (.ireturn, 1) := by decide +kernel
theorem dL_through_17 : decode cL_through 17 = .ok (.astore 4, 2) := by decide +kernel
theorem dL_through_19 : decode cL_through 19 = .ok (.iconst 2, 1) := by decide +kernel
theorem dL_through_20 : decode cL_through 20 = .ok (.ireturn, 1) := by decide +kernel
theorem dL_through_21 : decode cL_through 21 = .ok (.iconst 0, 1) := by decide +kernel
theorem dL_through_22 : decode cL_through 22 = .ok (.ireturn, 1) := by decide +kernel
theorem dL_weigh_0 : decode cL_weigh 0 = .ok (.aload 4, 2) := by decide +kernel
theorem dL_weigh_2 : decode cL_weigh 2 = .ok (.iconst 0, 1) := by decide +kernel
theorem dL_weigh_3 : decode cL_weigh 3 = .ok (.aload_n 0, 1) := by decide +kernel
theorem dL_weigh_4 : decode cL_weigh 4 = .ok (.iload_n 1, 1) := by decide +kernel
theorem dL_weigh_5 : decode cL_weigh 5 = .ok (.iload_n 2, 1) := by decide +kernel
theorem dL_weigh_6 : decode cL_weigh 6 = .ok (.iload_n 3, 1) := by decide +kernel
theorem dL_weigh_7 : decode cL_weigh 7 = .ok (.invokevirtual 34, 3) := by decide +kernel
theorem dL_weigh_10 : decode cL_weigh 10 = .ok (.i2l, 1) := by decide +kernel
theorem dL_weigh_11 : decode cL_weigh 11 = .ok (.lastore, 1) := by decide +kernel
theorem dL_weigh_12 : decode cL_weigh 12 = .ok (.goto 11, 3) := by decide +kernel
theorem dL_weigh_15 : decode cL_weigh 15 = .ok (.astore 5, 2) := by decide +kernel
theorem dL_weigh_17 : decode cL_weigh 17 = .ok (.iconst 1, 1) := by decide +kernel
theorem dL_weigh_18 : decode cL_weigh 18 = .ok (.ireturn, 1) := by decide +kernel
theorem dL_weigh_19 : decode cL_weigh 19 = .ok (.astore 5, 2) := by decide +kernel
theorem dL_weigh_21 : decode cL_weigh 21 = .ok (.iconst 2, 1) := by decide +kernel
theorem dL_weigh_22 : decode cL_weigh 22 = .ok (.ireturn, 1) := by decide +kernel
theorem dL_weigh_23 : decode cL_weigh 23 = .ok (.iconst 0, 1) := by decide +kernel
theorem dL_weigh_24 : decode cL_weigh 24 = .ok (.ireturn, 1) := by decide +kernel
