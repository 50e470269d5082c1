theorem dX7_count_130 : decode cX7_count 130 = .ok (.ireturn, 1) := by decide +kernel
theorem dX7_isHouse_0 : decode cX7_isHouse 0 = .ok (.iload_n 0, 1) := by decide +kernel
theorem dX7_isHouse_1 : decode cX7_isHouse 1 = .ok (.ifCond .lt 13, 3) := by decide +kernel
theorem dX7_isHouse_4 : decode cX7_isHouse 4 = .ok (.iload_n 0, 1) := by decide +kernel
theorem dX7_isHouse_5 : decode cX7_isHouse 5 = .ok (.bipush 8, 2) := by decide +kernel
theorem dX7_isHouse_7 : decode cX7_isHouse 7 = .ok (.if_icmp .ge 7, 3) := by decide +kernel
theorem dX7_isHouse_10 : decode cX7_isHouse 10 = .ok (.iconst 1, 1) := by decide +kernel
theorem dX7_isHouse_11 : decode cX7_isHouse 11 = .ok (.goto 4, 3) := by decide +kernel
theorem dX7_isHouse_14 : decode cX7_isHouse 14 = .ok (.iconst 0, 1) := by decide +kernel
theorem dX7_isHouse_15 : decode cX7_isHouse 15 = .ok (.ireturn, 1) := by decide +kernel
theorem dX7_isRate_0 : decode cX7_isRate 0 = .ok (.iload_n 0, 1) := by decide +kernel
theorem dX7_isRate_1 : decode cX7_isRate 1 = .ok (.ifCond .lt 14, 3) := by decide +kernel
theorem dX7_isRate_4 : decode cX7_isRate 4 = .ok (.iload_n 0, 1) := by decide +kernel
theorem dX7_isRate_5 : decode cX7_isRate 5 = .ok (.sipush 999, 3) := by decide +kernel
theorem dX7_isRate_8 : decode cX7_isRate 8 = .ok (.if_icmp .gt 7, 3) := by decide +kernel
theorem dX7_isRate_11 : decode cX7_isRate 11 = .ok (.iconst 1, 1) := by decide +kernel
theorem dX7_isRate_12 : decode cX7_isRate 12 = .ok (.goto 4, 3) := by decide +kernel
theorem dX7_isRate_15 : decode cX7_isRate 15 = .ok (.iconst 0, 1) := by decide +kernel
theorem dX7_isRate_16 : decode cX7_isRate 16 = .ok (.ireturn, 1) := by decide +kernel
theorem dX7_isLots_0 : decode cX7_isLots 0 = .ok (.iload_n 0, 1) := by decide +kernel
theorem dX7_isLots_1 : decode cX7_isLots 1 = .ok (.iconst 1, 1) := by decide +kernel
theorem dX7_isLots_2 : decode cX7_isLots 2 = .ok (.if_icmp .lt 14, 3) := by decide +kernel
theorem dX7_isLots_5 : decode cX7_isLots 5 = .ok (.iload_n 0, 1) := by decide +kernel
theorem dX7_isLots_6 : decode cX7_isLots 6 = .ok (.sipush 1000, 3) := by decide +kernel
theorem dX7_isLots_9 : decode cX7_isLots 9 = .ok (.if_icmp .gt 7, 3) := by decide +kernel
theorem dX7_isLots_12 : decode cX7_isLots 12 = .ok (.iconst 1, 1) := by decide +kernel
theorem dX7_isLots_13 : decode cX7_isLots 13 = .ok (.goto 4, 3) := by decide +kernel
theorem dX7_isLots_16 : decode cX7_isLots 16 = .ok (.iconst 0, 1) := by decide +kernel
theorem dX7_isLots_17 : decode cX7_isLots 17 = .ok (.ireturn, 1) := by decide +kernel
theorem dX7_isLetter_0 : decode cX7_isLetter 0 = .ok (.iload_n 0, 1) := by decide +kernel
theorem dX7_isLetter_1 : decode cX7_isLetter 1 = .ok (.bipush 97, 2) := by decide +kernel
theorem dX7_isLetter_3 : decode cX7_isLetter 3 = .ok (.if_icmp .lt 13, 3) := by decide +kernel
theorem dX7_isLetter_6 : decode cX7_isLetter 6 = .ok (.iload_n 0, 1) := by decide +kernel
theorem dX7_isLetter_7 : decode cX7_isLetter 7 = .ok (.bipush 122, 2) := by decide +kernel
theorem dX7_isLetter_9 : decode cX7_isLetter 9 = .ok (.if_icmp .gt 7, 3) := by decide +kernel
theorem dX7_isLetter_12 : decode cX7_isLetter 12 = .ok (.iconst 1, 1) := by decide +kernel
theorem dX7_isLetter_13 : decode cX7_isLetter 13 = .ok (.goto 4, 3) := by decide +kernel
theorem dX7_isLetter_16 : decode cX7_isLetter 16 = .ok (.iconst 0, 1) := by decide +kernel
theorem dX7_isLetter_17 : decode cX7_isLetter 17 = .ok (.ireturn, 1) := by decide +kernel
theorem dX7_isDigit_0 : decode cX7_isDigit 0 = .ok (.iload_n 0, 1) := by decide +kernel
theorem dX7_isDigit_1 : decode cX7_isDigit 1 = .ok (.bipush 48, 2) := by decide +kernel
theorem dX7_isDigit_3 : decode cX7_isDigit 3 = .ok (.if_icmp .lt 13, 3) := by decide +kernel
theorem dX7_isDigit_6 : decode cX7_isDigit 6 = .ok (.iload_n 0, 1) := by decide +kernel
theorem dX7_isDigit_7 : decode cX7_isDigit 7 = .ok (.bipush 57, 2) := by decide +kernel
theorem dX7_isDigit_9 : decode cX7_isDigit 9 = .ok (.if_icmp .gt 7, 3) := by decide +kernel
theorem dX7_isDigit_12 : decode cX7_isDigit 12 = .ok (.iconst 1, 1) := by decide +kernel
theorem dX7_isDigit_13 : decode cX7_isDigit 13 = .ok (.goto 4, 3) := by decide +kernel
theorem dX7_isDigit_16 : decode cX7_isDigit 16 = .ok (.iconst 0, 1) := by decide +kernel
theorem dX7_isDigit_17 : decode cX7_isDigit 17 = .ok (.ireturn, 1) := by decide +kernel
theorem dX7_isBlank_0 : decode cX7_isBlank 0 = .ok (.iload_n 0, 1) := by decide +kernel
theorem dX7_isBlank_1 : decode cX7_isBlank 1 = .ok (.bipush 32, 2) := by decide +kernel
theorem dX7_isBlank_3 : decode cX7_isBlank 3 = .ok (.if_icmp .eq 9, 3) := by decide +kernel
theorem dX7_isBlank_6 : decode cX7_isBlank 6 = .ok (.iload_n 0, 1) := by decide +kernel
theorem dX7_isBlank_7 : decode cX7_isBlank 7 = .ok (.bipush 10, 2) := by decide +kernel
theorem dX7_isBlank_9 : decode cX7_isBlank 9 = .ok (.if_icmp .ne 7, 3) := by decide +kernel
theorem dX7_isBlank_12 : decode cX7_isBlank 12 = .ok (.iconst 1, 1) := by decide +kernel
theorem dX7_isBlank_13 : decode cX7_isBlank 13 = .ok (.goto 4, 3) := by decide +kernel
theorem dX7_isBlank_16 : decode cX7_isBlank 16 = .ok (.iconst 0, 1) := by decide +kernel
theorem dX7_isBlank_17 : decode cX7_isBlank 17 = .ok (.ireturn, 1) := by decide +kernel
theorem dX7_sumWhere_0 : decode cX7_sumWhere 0 = .ok (.iconst 0, 1) := by decide +kernel
theorem dX7_sumWhere_1 : decode cX7_sumWhere 1 = .ok (.istore 4, 2) := by decide +kernel
theorem dX7_sumWhere_3 : decode cX7_sumWhere 3 = .ok (.iconst 0, 1) := by decide +kernel
theorem dX7_sumWhere_4 : decode cX7_sumWhere 4 = .ok (.istore 5, 2) := by decide +kernel
theorem dX7_sumWhere_6 : decode cX7_sumWhere 6 = .ok (.iload 5, 2) := by decide +kernel
theorem dX7_sumWhere_8 : decode cX7_sumWhere 8 = .ok (.iload_n 3, 1) := by decide +kernel
theorem dX7_sumWhere_9 : decode cX7_sumWhere 9 = .ok (.if_icmp .ge 40, 3) := by decide +kernel
theorem dX7_sumWhere_12 : decode cX7_sumWhere 12 = .ok (.iload 5, 2) := by decide +kernel
theorem dX7_sumWhere_14 : decode cX7_sumWhere 14 = .ok (.aload_n 0, 1) := by decide +kernel
theorem dX7_sumWhere_15 : decode cX7_sumWhere 15 = .ok (.arraylength, 1) := by decide +kernel
theorem dX7_sumWhere_16 : decode cX7_sumWhere 16 = .ok (.if_icmp .ge 33, 3) := by decide +kernel
theorem dX7_sumWhere_19 : decode cX7_sumWhere 19 = .ok (.iload 5, 2) := by decide +kernel
theorem dX7_sumWhere_21 : decode cX7_sumWhere 21 = .ok (.aload_n 1, 1) := by decide +kernel
theorem dX7_sumWhere_22 : decode cX7_sumWhere 22 = .ok (.arraylength, 1) := by decide +kernel
theorem dX7_sumWhere_23 : decode cX7_sumWhere 23 = .ok (.if_icmp .ge 26, 3) := by decide +kernel
theorem dX7_sumWhere_26 : decode cX7_sumWhere 26 = .ok (.aload_n 1, 1) := by decide +kernel
theorem dX7_sumWhere_27 : decode cX7_sumWhere 27 = .ok (.iload 5, 2) := by decide +kernel
theorem dX7_sumWhere_29 : decode cX7_sumWhere 29 = .ok (.iaload, 1) := by decide +kernel
theorem dX7_sumWhere_30 : decode cX7_sumWhere 30 = .ok (.iload_n 2, 1) := by decide +kernel
theorem dX7_sumWhere_31 : decode cX7_sumWhere 31 = .ok (.if_icmp .ne 12, 3) := by decide +kernel
theorem dX7_sumWhere_34 : decode cX7_sumWhere 34 = .ok (.iload 4, 2) := by decide +kernel
theorem dX7_sumWhere_36 : decode cX7_sumWhere 36 = .ok (.aload_n 0, 1) := by decide +kernel
theorem dX7_sumWhere_37 : decode cX7_sumWhere 37 = .ok (.iload 5, 2) := by decide +kernel
theorem dX7_sumWhere_39 : decode cX7_sumWhere 39 = .ok (.iaload, 1) := by decide +kernel
theorem dX7_sumWhere_40 : decode cX7_sumWhere 40 = .ok (.iadd, 1) := by decide +kernel
theorem dX7_sumWhere_41 : decode cX7_sumWhere 41 = .ok (.istore 4, 2) := by decide +kernel
theorem dX7_sumWhere_43 : decode cX7_sumWhere 43 = .ok (.iinc 5 1, 3) := by decide +kernel
theorem dX7_sumWhere_46 : decode cX7_sumWhere 46 = .ok (.goto (-40), 3) := by decide +kernel
theorem dX7_sumWhere_49 : decode cX7_sumWhere 49 = .ok (.iload 4, 2) := by decide +kernel
theorem dX7_sumWhere_51 : decode cX7_sumWhere 51 = .ok (.ireturn, 1) := by decide +kernel
theorem dX7_standing_0 : decode cX7_standing 0 = .ok (.aload_n 0, 1) := by decide +kernel
theorem dX7_standing_1 : decode cX7_standing 1 = .ok (.getfield 21, 3) := by decide +kernel
theorem dX7_standing_4 : decode cX7_standing 4 = .ok (.invokevirtual 316, 3) := by decide +kernel
theorem dX7_standing_7 : decode cX7_standing 7 = .ok (.aload_n 0, 1) := by decide +kernel
theorem dX7_standing_8 : decode cX7_standing 8 = .ok (.getfield 21, 3) := by decide +kernel
theorem dX7_standing_11 : decode cX7_standing 11 = .ok (.areturn, 1) := by decide +kernel
theorem dX7_tried_0 : decode cX7_tried 0 = .ok (.aload_n 0, 1) := by decide +kernel
theorem dX7_tried_1 : decode cX7_tried 1 = .ok (.getfield 28, 3) := by decide +kernel
theorem dX7_tried_4 : decode cX7_tried 4 = .ok (.invokevirtual 316, 3) := by decide +kernel
theorem dX7_tried_7 : decode cX7_tried 7 = .ok (.aload_n 0, 1) := by decide +kernel
theorem dX7_tried_8 : decode cX7_tried 8 = .ok (.getfield 28, 3) := by decide +kernel
theorem dX7_tried_11 : decode cX7_tried 11 = .ok (.areturn, 1) := by decide +kernel
theorem dX7_tryTerm_0 : decode cX7_tryTerm 0 = .ok (.iload_n 1, 1) := by decide +kernel
theorem dX7_tryTerm_1 : decode cX7_tryTerm 1 = .ok (.ifCond .lt 19, 3) := by decide +kernel
theorem dX7_tryTerm_4 : decode cX7_tryTerm 4 = .ok (.iload_n 1, 1) := by decide +kernel
theorem dX7_tryTerm_5 : decode cX7_tryTerm 5 = .ok (.bipush 7, 2) := by decide +kernel
theorem dX7_tryTerm_7 : decode cX7_tryTerm 7 = .ok (.if_icmp .ge 13, 3) := by decide +kernel
theorem dX7_tryTerm_10 : decode cX7_tryTerm 10 = .ok (.aload_n 0, 1) := by decide +kernel
theorem dX7_tryTerm_11 : decode cX7_tryTerm 11 = .ok (.getfield 25, 3) := by decide +kernel
theorem dX7_tryTerm_14 : decode cX7_tryTerm 14 = .ok (.getfield 127, 3) := by decide +kernel
theorem dX7_tryTerm_17 : decode cX7_tryTerm 17 = .ok (.iload_n 1, 1) := by decide +kernel
theorem dX7_tryTerm_18 : decode cX7_tryTerm 18 = .ok (.iload_n 2, 1) := by decide +kernel
theorem dX7_tryTerm_19 : decode cX7_tryTerm 19 = .ok (.iastore, 1) := by decide +kernel
theorem dX7_tryTerm_20 : decode cX7_tryTerm 20 = .ok (.aload_n 0, 1) := by decide +kernel
theorem dX7_tryTerm_21 : decode cX7_tryTerm 21 = .ok (.invokevirtual 251, 3) := by decide +kernel
theorem dX7_tryTerm_24 : decode cX7_tryTerm 24 = .ok (.areturn, 1) := by decide +kernel
theorem dX7_tryRate_0 : decode cX7_tryRate 0 = .ok (.aload_n 0, 1) := by decide +kernel
theorem dX7_tryRate_1 : decode cX7_tryRate 1 = .ok (.getfield 25, 3) := by decide +kernel
theorem dX7_tryRate_4 : decode cX7_tryRate 4 = .ok (.iload_n 1, 1) := by decide +kernel
theorem dX7_tryRate_5 : decode cX7_tryRate 5 = .ok (.invokevirtual 103, 3) := by decide +kernel
theorem dX7_tryRate_8 : decode cX7_tryRate 8 = .ok (.ifCond .eq 13, 3) := by decide +kernel
theorem dX7_tryRate_11 : decode cX7_tryRate 11 = .ok (.aload_n 0, 1) := by decide +kernel
theorem dX7_tryRate_12 : decode cX7_tryRate 12 = .ok (.getfield 25, 3) := by decide +kernel
theorem dX7_tryRate_15 : decode cX7_tryRate 15 = .ok (.getfield 120, 3) := by decide +kernel
theorem dX7_tryRate_18 : decode cX7_tryRate 18 = .ok (.iload_n 1, 1) := by decide +kernel
theorem dX7_tryRate_19 : decode cX7_tryRate 19 = .ok (.iload_n 2, 1) := by decide +kernel
theorem dX7_tryRate_20 : decode cX7_tryRate 20 = .ok (.iastore, 1) := by decide +kernel
theorem dX7_tryRate_21 : decode cX7_tryRate 21 = .ok (.aload_n 0, 1) := by decide +kernel
theorem dX7_tryRate_22 : decode cX7_tryRate 22 = .ok (.invokevirtual 251, 3) := by decide +kernel
theorem dX7_tryRate_25 : decode cX7_tryRate 25 = .ok (.areturn, 1) := by decide +kernel
