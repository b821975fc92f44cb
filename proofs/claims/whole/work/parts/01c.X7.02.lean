theorem dX7_wasMendedInFirstAlone_1 : decode cX7_wasMendedInFirstAlone 1 = .ok (.getfield 10, 3) := by decide +kernel
theorem dX7_wasMendedInFirstAlone_4 : decode cX7_wasMendedInFirstAlone 4 = .ok (.iload_n 1, 1) := by decide +kernel
theorem dX7_wasMendedInFirstAlone_5 : decode cX7_wasMendedInFirstAlone 5 = .ok (.iload_n 2, 1) := by decide +kernel
theorem dX7_wasMendedInFirstAlone_6 : decode cX7_wasMendedInFirstAlone 6 = .ok (.invokevirtual 230, 3) := by decide +kernel
theorem dX7_wasMendedInFirstAlone_9 : decode cX7_wasMendedInFirstAlone 9 = .ok (.ifCond .ne 19, 3) := by decide +kernel
theorem dX7_wasMendedInFirstAlone_12 : decode cX7_wasMendedInFirstAlone 12 = .ok (.aload_n 0, 1) := by decide +kernel
theorem dX7_wasMendedInFirstAlone_13 : decode cX7_wasMendedInFirstAlone 13 = .ok (.getfield 10, 3) := by decide +kernel
theorem dX7_wasMendedInFirstAlone_16 : decode cX7_wasMendedInFirstAlone 16 = .ok (.iload_n 1, 1) := by decide +kernel
theorem dX7_wasMendedInFirstAlone_17 : decode cX7_wasMendedInFirstAlone 17 = .ok (.iload_n 3, 1) := by decide +kernel
theorem dX7_wasMendedInFirstAlone_18 : decode cX7_wasMendedInFirstAlone 18 = .ok (.invokevirtual 230, 3) := by decide +kernel
theorem dX7_wasMendedInFirstAlone_21 : decode cX7_wasMendedInFirstAlone 21 = .ok (.ifCond .eq 7, 3) := by decide +kernel
theorem dX7_wasMendedInFirstAlone_24 : decode cX7_wasMendedInFirstAlone 24 = .ok (.iconst 1, 1) := by decide +kernel
theorem dX7_wasMendedInFirstAlone_25 : decode cX7_wasMendedInFirstAlone 25 = .ok (.goto 4, 3) := by decide +kernel
theorem dX7_wasMendedInFirstAlone_28 : decode cX7_wasMendedInFirstAlone 28 = .ok (.iconst 0, 1) := by decide +kernel
theorem dX7_wasMendedInFirstAlone_29 : decode cX7_wasMendedInFirstAlone 29 = .ok (.ireturn, 1) := by decide +kernel
theorem dX7_isName_0 : decode cX7_isName 0 = .ok (.iload_n 0, 1) := by decide +kernel
theorem dX7_isName_1 : decode cX7_isName 1 = .ok (.bipush 97, 2) := by decide +kernel
theorem dX7_isName_3 : decode cX7_isName 3 = .ok (.if_icmp .lt 13, 3) := by decide +kernel
theorem dX7_isName_6 : decode cX7_isName 6 = .ok (.iload_n 0, 1) := by decide +kernel
theorem dX7_isName_7 : decode cX7_isName 7 = .ok (.bipush 122, 2) := by decide +kernel
theorem dX7_isName_9 : decode cX7_isName 9 = .ok (.if_icmp .gt 7, 3) := by decide +kernel
theorem dX7_isName_12 : decode cX7_isName 12 = .ok (.iconst 1, 1) := by decide +kernel
theorem dX7_isName_13 : decode cX7_isName 13 = .ok (.goto 4, 3) := by decide +kernel
theorem dX7_isName_16 : decode cX7_isName 16 = .ok (.iconst 0, 1) := by decide +kernel
theorem dX7_isName_17 : decode cX7_isName 17 = .ok (.ireturn, 1) := by decide +kernel
theorem dX7_isNumber_0 : decode cX7_isNumber 0 = .ok (.iload_n 0, 1) := by decide +kernel
theorem dX7_isNumber_1 : decode cX7_isNumber 1 = .ok (.bipush 48, 2) := by decide +kernel
theorem dX7_isNumber_3 : decode cX7_isNumber 3 = .ok (.if_icmp .lt 13, 3) := by decide +kernel
theorem dX7_isNumber_6 : decode cX7_isNumber 6 = .ok (.iload_n 0, 1) := by decide +kernel
theorem dX7_isNumber_7 : decode cX7_isNumber 7 = .ok (.bipush 57, 2) := by decide +kernel
theorem dX7_isNumber_9 : decode cX7_isNumber 9 = .ok (.if_icmp .gt 7, 3) := by decide +kernel
theorem dX7_isNumber_12 : decode cX7_isNumber 12 = .ok (.iconst 1, 1) := by decide +kernel
theorem dX7_isNumber_13 : decode cX7_isNumber 13 = .ok (.goto 4, 3) := by decide +kernel
theorem dX7_isNumber_16 : decode cX7_isNumber 16 = .ok (.iconst 0, 1) := by decide +kernel
theorem dX7_isNumber_17 : decode cX7_isNumber 17 = .ok (.ireturn, 1) := by decide +kernel
