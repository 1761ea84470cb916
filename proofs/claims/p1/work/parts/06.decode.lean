theorem dJ7_fill_53178_0 : decode cJ7_fill_53178 0 = .ok (.iconst 0, 1) := by decide +kernel
theorem dJ7_fill_53178_1 : decode cJ7_fill_53178 1 = .ok (.istore_n 2, 1) := by decide +kernel
theorem dJ7_fill_53178_2 : decode cJ7_fill_53178 2 = .ok (.aload_n 0, 1) := by decide +kernel
theorem dJ7_fill_53178_3 : decode cJ7_fill_53178 3 = .ok (.arraylength, 1) := by decide +kernel
theorem dJ7_fill_53178_4 : decode cJ7_fill_53178 4 = .ok (.istore_n 3, 1) := by decide +kernel
theorem dJ7_fill_53178_5 : decode cJ7_fill_53178 5 = .ok (.iload_n 2, 1) := by decide +kernel
theorem dJ7_fill_53178_6 : decode cJ7_fill_53178 6 = .ok (.iload_n 3, 1) := by decide +kernel
theorem dJ7_fill_53178_7 : decode cJ7_fill_53178 7 = .ok (.if_icmp .ge 13, 3) := by decide +kernel
theorem dJ7_fill_53178_10 : decode cJ7_fill_53178 10 = .ok (.aload_n 0, 1) := by decide +kernel
theorem dJ7_fill_53178_11 : decode cJ7_fill_53178 11 = .ok (.iload_n 2, 1) := by decide +kernel
theorem dJ7_fill_53178_12 : decode cJ7_fill_53178 12 = .ok (.iload_n 1, 1) := by decide +kernel
theorem dJ7_fill_53178_13 : decode cJ7_fill_53178 13 = .ok (.iastore, 1) := by decide +kernel
theorem dJ7_fill_53178_14 : decode cJ7_fill_53178 14 = .ok (.iinc 2 1, 3) := by decide +kernel
theorem dJ7_fill_53178_17 : decode cJ7_fill_53178 17 = .ok (.goto (-12), 3) := by decide +kernel
theorem dJ7_fill_53178_20 : decode cJ7_fill_53178 20 = .ok (.return_, 1) := by decide +kernel
theorem dJ9_floorMod_7cf53_0 : decode cJ9_floorMod_7cf53 0 = .ok (.iload_n 0, 1) := by decide +kernel
theorem dJ9_floorMod_7cf53_1 : decode cJ9_floorMod_7cf53 1 = .ok (.iload_n 1, 1) := by decide +kernel
theorem dJ9_floorMod_7cf53_2 : decode cJ9_floorMod_7cf53 2 = .ok (.irem, 1) := by decide +kernel
theorem dJ9_floorMod_7cf53_3 : decode cJ9_floorMod_7cf53 3 = .ok (.istore_n 2, 1) := by decide +kernel
theorem dJ9_floorMod_7cf53_4 : decode cJ9_floorMod_7cf53 4 = .ok (.iload_n 0, 1) := by decide +kernel
theorem dJ9_floorMod_7cf53_5 : decode cJ9_floorMod_7cf53 5 = .ok (.iload_n 1, 1) := by decide +kernel
theorem dJ9_floorMod_7cf53_6 : decode cJ9_floorMod_7cf53 6 = .ok (.ixor, 1) := by decide +kernel
theorem dJ9_floorMod_7cf53_7 : decode cJ9_floorMod_7cf53 7 = .ok (.ifCond .ge 11, 3) := by decide +kernel
theorem dJ9_floorMod_7cf53_18 : decode cJ9_floorMod_7cf53 18 = .ok (.iload_n 2, 1) := by decide +kernel
theorem dJ9_floorMod_7cf53_19 : decode cJ9_floorMod_7cf53 19 = .ok (.ireturn, 1) := by decide +kernel
theorem dL_append_0 : decode cL_append 0 = .ok (.aload_n 2, 1) := by decide +kernel
theorem dL_append_1 : decode cL_append 1 = .ok (.iconst 0, 1) := by decide +kernel
theorem dL_append_2 : decode cL_append 2 = .ok (.aload_n 0, 1) := by decide +kernel
theorem dL_append_3 : decode cL_append 3 = .ok (.iload_n 1, 1) := by decide +kernel
theorem dL_append_4 : decode cL_append 4 = .ok (.invokevirtual 132, 3) := by decide +kernel
theorem dL_append_7 : decode cL_append 7 = .ok (.i2l, 1) := by decide +kernel
theorem dL_append_8 : decode cL_append 8 = .ok (.lastore, 1) := by decide +kernel
theorem dL_append_9 : decode cL_append 9 = .ok (.goto 9, 3) := by decide +kernel
theorem dL_append_12 : decode cL_append 12 = .ok (.astore_n 3, 1) := by decide +kernel
theorem dL_append_13 : decode cL_append 13 = .ok (.iconst 1, 1) := by decide +kernel
theorem dL_append_14 : decode cL_append 14 = .ok (.ireturn, 1) := by decide +kernel
theorem dL_append_18 : decode cL_append 18 = .ok (.iconst 0, 1) := by decide +kernel
theorem dL_append_19 : decode cL_append 19 = .ok (.ireturn, 1) := by decide +kernel
theorem dL_errorPosition_0 : decode cL_errorPosition 0 = .ok (.aload_n 1, 1) := by decide +kernel
theorem dL_errorPosition_1 : decode cL_errorPosition 1 = .ok (.iconst 0, 1) := by decide +kernel
theorem dL_errorPosition_2 : decode cL_errorPosition 2 = .ok (.aload_n 0, 1) := by decide +kernel
theorem dL_errorPosition_3 : decode cL_errorPosition 3 = .ok (.invokevirtual 139, 3) := by decide +kernel
theorem dL_errorPosition_11 : decode cL_errorPosition 11 = .ok (.astore_n 2, 1) := by decide +kernel
theorem dL_errorPosition_12 : decode cL_errorPosition 12 = .ok (.iconst 1, 1) := by decide +kernel
theorem dL_errorPosition_13 : decode cL_errorPosition 13 = .ok (.ireturn, 1) := by decide +kernel
theorem dL_law_0 : decode cL_law 0 = .ok (.new 8, 3) := by decide +kernel
theorem dL_law_3 : decode cL_law 3 = .ok (.dup, 1) := by decide +kernel
theorem dL_law_4 : decode cL_law 4 = .ok (.invokespecial 152, 3) := by decide +kernel
theorem dL_law_7 : decode cL_law 7 = .ok (.astore_n 1, 1) := by decide +kernel
theorem dL_law_8 : decode cL_law 8 = .ok (.new 153, 3) := by decide +kernel
theorem dL_law_11 : decode cL_law 11 = .ok (.dup, 1) := by decide +kernel
theorem dL_law_12 : decode cL_law 12 = .ok (.invokespecial 155, 3) := by decide +kernel
theorem dL_law_15 : decode cL_law 15 = .ok (.astore_n 2, 1) := by decide +kernel
theorem dL_law_16 : decode cL_law 16 = .ok (.iconst 1, 1) := by decide +kernel
theorem dL_law_17 : decode cL_law 17 = .ok (.newarray .long, 2) := by decide +kernel
theorem dL_law_19 : decode cL_law 19 = .ok (.astore_n 3, 1) := by decide +kernel
theorem dL_law_20 : decode cL_law 20 = .ok (.iconst 1, 1) := by decide +kernel
theorem dL_law_21 : decode cL_law 21 = .ok (.newarray .double, 2) := by decide +kernel
theorem dL_law_23 : decode cL_law 23 = .ok (.astore 4, 2) := by decide +kernel
theorem dL_law_25 : decode cL_law 25 = .ok (.iconst 0, 1) := by decide +kernel
theorem dL_law_26 : decode cL_law 26 = .ok (.istore 5, 2) := by decide +kernel
theorem dL_law_28 : decode cL_law 28 = .ok (.iload 5, 2) := by decide +kernel
theorem dL_law_30 : decode cL_law 30 = .ok (.aload_n 0, 1) := by decide +kernel
theorem dL_law_31 : decode cL_law 31 = .ok (.arraylength, 1) := by decide +kernel
theorem dL_law_32 : decode cL_law 32 = .ok (.bipush 6, 2) := by decide +kernel
theorem dL_law_34 : decode cL_law 34 = .ok (.isub, 1) := by decide +kernel
theorem dL_law_35 : decode cL_law 35 = .ok (.if_icmp .gt 2929, 3) := by decide +kernel
theorem dL_law_240 : decode cL_law 240 = .ok (.aload_n 1, 1) := by decide +kernel
theorem dL_law_241 : decode cL_law 241 = .ok (.invokevirtual 156, 3) := by decide +kernel
theorem dL_law_244 : decode cL_law 244 = .ok (.aload_n 2, 1) := by decide +kernel
theorem dL_law_245 : decode cL_law 245 = .ok (.invokevirtual 159, 3) := by decide +kernel
theorem dL_law_248 : decode cL_law 248 = .ok (.if_icmp .eq 2710, 3) := by decide +kernel
theorem dL_law_1564 : decode cL_law 1564 = .ok (.aload_n 1, 1) := by decide +kernel
theorem dL_law_1565 : decode cL_law 1565 = .ok (.aload_n 0, 1) := by decide +kernel
theorem dL_law_1566 : decode cL_law 1566 = .ok (.iload 5, 2) := by decide +kernel
theorem dL_law_1568 : decode cL_law 1568 = .ok (.iconst 1, 1) := by decide +kernel
theorem dL_law_1569 : decode cL_law 1569 = .ok (.iadd, 1) := by decide +kernel
theorem dL_law_1570 : decode cL_law 1570 = .ok (.iaload, 1) := by decide +kernel
theorem dL_law_1571 : decode cL_law 1571 = .ok (.aload_n 3, 1) := by decide +kernel
theorem dL_law_1572 : decode cL_law 1572 = .ok (.invokestatic 227, 3) := by decide +kernel
theorem dL_law_1575 : decode cL_law 1575 = .ok (.istore 6, 2) := by decide +kernel
theorem dL_law_1577 : decode cL_law 1577 = .ok (.aload_n 2, 1) := by decide +kernel
theorem dL_law_1578 : decode cL_law 1578 = .ok (.aload_n 0, 1) := by decide +kernel
theorem dL_law_1579 : decode cL_law 1579 = .ok (.iload 5, 2) := by decide +kernel
theorem dL_law_1581 : decode cL_law 1581 = .ok (.iconst 1, 1) := by decide +kernel
theorem dL_law_1582 : decode cL_law 1582 = .ok (.iadd, 1) := by decide +kernel
theorem dL_law_1583 : decode cL_law 1583 = .ok (.iaload, 1) := by decide +kernel
theorem dL_law_1584 : decode cL_law 1584 = .ok (.invokevirtual 229, 3) := by decide +kernel
theorem dL_law_1587 : decode cL_law 1587 = .ok (.istore 7, 2) := by decide +kernel
theorem dL_law_1589 : decode cL_law 1589 = .ok (.aload_n 2, 1) := by decide +kernel
theorem dL_law_1590 : decode cL_law 1590 = .ok (.invokevirtual 166, 3) := by decide +kernel
theorem dL_law_1593 : decode cL_law 1593 = .ok (.iload 6, 2) := by decide +kernel
theorem dL_law_1595 : decode cL_law 1595 = .ok (.if_icmp .eq 5, 3) := by decide +kernel
theorem dL_law_1600 : decode cL_law 1600 = .ok (.iload 6, 2) := by decide +kernel
theorem dL_law_1602 : decode cL_law 1602 = .ok (.ifCond .ne 15, 3) := by decide +kernel
theorem dL_law_1605 : decode cL_law 1605 = .ok (.aload_n 3, 1) := by decide +kernel
theorem dL_law_1606 : decode cL_law 1606 = .ok (.iconst 0, 1) := by decide +kernel
theorem dL_law_1607 : decode cL_law 1607 = .ok (.laload, 1) := by decide +kernel
theorem dL_law_1608 : decode cL_law 1608 = .ok (.iload 7, 2) := by decide +kernel
theorem dL_law_1610 : decode cL_law 1610 = .ok (.i2l, 1) := by decide +kernel
theorem dL_law_1611 : decode cL_law 1611 = .ok (.lcmp, 1) := by decide +kernel
theorem dL_law_1612 : decode cL_law 1612 = .ok (.ifCond .eq 5, 3) := by decide +kernel
theorem dL_law_1617 : decode cL_law 1617 = .ok (.goto 1341, 3) := by decide +kernel
theorem dL_law_1704 : decode cL_law 1704 = .ok (.aload_n 1, 1) := by decide +kernel
theorem dL_law_1705 : decode cL_law 1705 = .ok (.aload_n 0, 1) := by decide +kernel
theorem dL_law_1706 : decode cL_law 1706 = .ok (.iload 5, 2) := by decide +kernel
theorem dL_law_1708 : decode cL_law 1708 = .ok (.iconst 1, 1) := by decide +kernel
theorem dL_law_1709 : decode cL_law 1709 = .ok (.iadd, 1) := by decide +kernel
theorem dL_law_1710 : decode cL_law 1710 = .ok (.iaload, 1) := by decide +kernel
theorem dL_law_1711 : decode cL_law 1711 = .ok (.aload_n 3, 1) := by decide +kernel
theorem dL_law_1712 : decode cL_law 1712 = .ok (.invokestatic 234, 3) := by decide +kernel
theorem dL_law_1715 : decode cL_law 1715 = .ok (.istore 6, 2) := by decide +kernel
theorem dL_law_1717 : decode cL_law 1717 = .ok (.aload_n 2, 1) := by decide +kernel
theorem dL_law_1718 : decode cL_law 1718 = .ok (.aload_n 0, 1) := by decide +kernel
theorem dL_law_1719 : decode cL_law 1719 = .ok (.iload 5, 2) := by decide +kernel
theorem dL_law_1721 : decode cL_law 1721 = .ok (.iconst 1, 1) := by decide +kernel
theorem dL_law_1722 : decode cL_law 1722 = .ok (.iadd, 1) := by decide +kernel
theorem dL_law_1723 : decode cL_law 1723 = .ok (.iaload, 1) := by decide +kernel
theorem dL_law_1724 : decode cL_law 1724 = .ok (.invokevirtual 236, 3) := by decide +kernel
theorem dL_law_1727 : decode cL_law 1727 = .ok (.istore 7, 2) := by decide +kernel
theorem dL_law_1729 : decode cL_law 1729 = .ok (.aload_n 2, 1) := by decide +kernel
theorem dL_law_1730 : decode cL_law 1730 = .ok (.invokevirtual 166, 3) := by decide +kernel
theorem dL_law_1733 : decode cL_law 1733 = .ok (.iload 6, 2) := by decide +kernel
theorem dL_law_1735 : decode cL_law 1735 = .ok (.if_icmp .eq 5, 3) := by decide +kernel
theorem dL_law_1740 : decode cL_law 1740 = .ok (.iload 6, 2) := by decide +kernel
theorem dL_law_1742 : decode cL_law 1742 = .ok (.ifCond .ne 15, 3) := by decide +kernel
theorem dL_law_1745 : decode cL_law 1745 = .ok (.aload_n 3, 1) := by decide +kernel
theorem dL_law_1746 : decode cL_law 1746 = .ok (.iconst 0, 1) := by decide +kernel
theorem dL_law_1747 : decode cL_law 1747 = .ok (.laload, 1) := by decide +kernel
theorem dL_law_1748 : decode cL_law 1748 = .ok (.iload 7, 2) := by decide +kernel
theorem dL_law_1750 : decode cL_law 1750 = .ok (.i2l, 1) := by decide +kernel
theorem dL_law_1751 : decode cL_law 1751 = .ok (.lcmp, 1) := by decide +kernel
theorem dL_law_1752 : decode cL_law 1752 = .ok (.ifCond .eq 5, 3) := by decide +kernel
theorem dL_law_1757 : decode cL_law 1757 = .ok (.goto 1201, 3) := by decide +kernel
theorem dL_law_2292 : decode cL_law 2292 = .ok (.aload_n 1, 1) := by decide +kernel
theorem dL_law_2293 : decode cL_law 2293 = .ok (.aload_n 0, 1) := by decide +kernel
theorem dL_law_2294 : decode cL_law 2294 = .ok (.iload 5, 2) := by decide +kernel
theorem dL_law_2296 : decode cL_law 2296 = .ok (.iconst 1, 1) := by decide +kernel
theorem dL_law_2297 : decode cL_law 2297 = .ok (.iadd, 1) := by decide +kernel
theorem dL_law_2298 : decode cL_law 2298 = .ok (.iaload, 1) := by decide +kernel
theorem dL_law_2299 : decode cL_law 2299 = .ok (.aload_n 0, 1) := by decide +kernel
theorem dL_law_2300 : decode cL_law 2300 = .ok (.iload 5, 2) := by decide +kernel
theorem dL_law_2302 : decode cL_law 2302 = .ok (.iconst 2, 1) := by decide +kernel
theorem dL_law_2303 : decode cL_law 2303 = .ok (.iadd, 1) := by decide +kernel
theorem dL_law_2304 : decode cL_law 2304 = .ok (.iaload, 1) := by decide +kernel
theorem dL_law_2305 : decode cL_law 2305 = .ok (.aload_n 3, 1) := by decide +kernel
theorem dL_law_2306 : decode cL_law 2306 = .ok (.invokestatic 261, 3) := by decide +kernel
theorem dL_law_2309 : decode cL_law 2309 = .ok (.istore 6, 2) := by decide +kernel
theorem dL_law_2311 : decode cL_law 2311 = .ok (.aload_n 2, 1) := by decide +kernel
theorem dL_law_2312 : decode cL_law 2312 = .ok (.aload_n 0, 1) := by decide +kernel
theorem dL_law_2313 : decode cL_law 2313 = .ok (.iload 5, 2) := by decide +kernel
theorem dL_law_2315 : decode cL_law 2315 = .ok (.iconst 1, 1) := by decide +kernel
theorem dL_law_2316 : decode cL_law 2316 = .ok (.iadd, 1) := by decide +kernel
theorem dL_law_2317 : decode cL_law 2317 = .ok (.iaload, 1) := by decide +kernel
theorem dL_law_2318 : decode cL_law 2318 = .ok (.aload_n 0, 1) := by decide +kernel
theorem dL_law_2319 : decode cL_law 2319 = .ok (.iload 5, 2) := by decide +kernel
theorem dL_law_2321 : decode cL_law 2321 = .ok (.iconst 2, 1) := by decide +kernel
theorem dL_law_2322 : decode cL_law 2322 = .ok (.iadd, 1) := by decide +kernel
theorem dL_law_2323 : decode cL_law 2323 = .ok (.iaload, 1) := by decide +kernel
theorem dL_law_2324 : decode cL_law 2324 = .ok (.invokevirtual 263, 3) := by decide +kernel
theorem dL_law_2327 : decode cL_law 2327 = .ok (.istore 7, 2) := by decide +kernel
theorem dL_law_2329 : decode cL_law 2329 = .ok (.aload_n 2, 1) := by decide +kernel
theorem dL_law_2330 : decode cL_law 2330 = .ok (.invokevirtual 166, 3) := by decide +kernel
theorem dL_law_2333 : decode cL_law 2333 = .ok (.iload 6, 2) := by decide +kernel
theorem dL_law_2335 : decode cL_law 2335 = .ok (.if_icmp .eq 5, 3) := by decide +kernel
theorem dL_law_2340 : decode cL_law 2340 = .ok (.iload 6, 2) := by decide +kernel
theorem dL_law_2342 : decode cL_law 2342 = .ok (.ifCond .ne 15, 3) := by decide +kernel
theorem dL_law_2357 : decode cL_law 2357 = .ok (.goto 601, 3) := by decide +kernel
theorem dL_law_2360 : decode cL_law 2360 = .ok (.aload_n 1, 1) := by decide +kernel
theorem dL_law_2361 : decode cL_law 2361 = .ok (.invokevirtual 264, 3) := by decide +kernel
theorem dL_law_2364 : decode cL_law 2364 = .ok (.aload_n 2, 1) := by decide +kernel
theorem dL_law_2365 : decode cL_law 2365 = .ok (.invokevirtual 267, 3) := by decide +kernel
theorem dL_law_2368 : decode cL_law 2368 = .ok (.if_icmp .eq 590, 3) := by decide +kernel
theorem dL_law_2429 : decode cL_law 2429 = .ok (.aload_n 1, 1) := by decide +kernel
theorem dL_law_2430 : decode cL_law 2430 = .ok (.aload 4, 2) := by decide +kernel
theorem dL_law_2432 : decode cL_law 2432 = .ok (.invokestatic 271, 3) := by decide +kernel
theorem dL_law_2435 : decode cL_law 2435 = .ok (.istore 6, 2) := by decide +kernel
theorem dL_law_2437 : decode cL_law 2437 = .ok (.aload_n 2, 1) := by decide +kernel
theorem dL_law_2438 : decode cL_law 2438 = .ok (.invokevirtual 274, 3) := by decide +kernel
theorem dL_law_2441 : decode cL_law 2441 = .ok (.dstore 7, 2) := by decide +kernel
theorem dL_law_2443 : decode cL_law 2443 = .ok (.aload_n 2, 1) := by decide +kernel
theorem dL_law_2444 : decode cL_law 2444 = .ok (.invokevirtual 166, 3) := by decide +kernel
theorem dL_law_2447 : decode cL_law 2447 = .ok (.iload 6, 2) := by decide +kernel
theorem dL_law_2449 : decode cL_law 2449 = .ok (.if_icmp .eq 5, 3) := by decide +kernel
theorem dL_law_2454 : decode cL_law 2454 = .ok (.iload 6, 2) := by decide +kernel
theorem dL_law_2456 : decode cL_law 2456 = .ok (.ifCond .ne 35, 3) := by decide +kernel
theorem dL_law_2491 : decode cL_law 2491 = .ok (.goto 467, 3) := by decide +kernel
theorem dL_law_2631 : decode cL_law 2631 = .ok (.aload_n 1, 1) := by decide +kernel
theorem dL_law_2632 : decode cL_law 2632 = .ok (.aload_n 0, 1) := by decide +kernel
theorem dL_law_2633 : decode cL_law 2633 = .ok (.iload 5, 2) := by decide +kernel
theorem dL_law_2635 : decode cL_law 2635 = .ok (.iconst 1, 1) := by decide +kernel
theorem dL_law_2636 : decode cL_law 2636 = .ok (.iadd, 1) := by decide +kernel
theorem dL_law_2637 : decode cL_law 2637 = .ok (.iaload, 1) := by decide +kernel
theorem dL_law_2638 : decode cL_law 2638 = .ok (.i2c, 1) := by decide +kernel
theorem dL_law_2639 : decode cL_law 2639 = .ok (.aload_n 3, 1) := by decide +kernel
theorem dL_law_2640 : decode cL_law 2640 = .ok (.invokestatic 285, 3) := by decide +kernel
theorem dL_law_2643 : decode cL_law 2643 = .ok (.istore 6, 2) := by decide +kernel
theorem dL_law_2645 : decode cL_law 2645 = .ok (.aload_n 2, 1) := by decide +kernel
theorem dL_law_2646 : decode cL_law 2646 = .ok (.aload_n 0, 1) := by decide +kernel
theorem dL_law_2647 : decode cL_law 2647 = .ok (.iload 5, 2) := by decide +kernel
theorem dL_law_2649 : decode cL_law 2649 = .ok (.iconst 1, 1) := by decide +kernel
theorem dL_law_2650 : decode cL_law 2650 = .ok (.iadd, 1) := by decide +kernel
theorem dL_law_2651 : decode cL_law 2651 = .ok (.iaload, 1) := by decide +kernel
theorem dL_law_2652 : decode cL_law 2652 = .ok (.i2c, 1) := by decide +kernel
theorem dL_law_2653 : decode cL_law 2653 = .ok (.invokevirtual 288, 3) := by decide +kernel
theorem dL_law_2656 : decode cL_law 2656 = .ok (.istore 7, 2) := by decide +kernel
theorem dL_law_2658 : decode cL_law 2658 = .ok (.aload_n 2, 1) := by decide +kernel
theorem dL_law_2659 : decode cL_law 2659 = .ok (.invokevirtual 166, 3) := by decide +kernel
theorem dL_law_2662 : decode cL_law 2662 = .ok (.iload 6, 2) := by decide +kernel
theorem dL_law_2664 : decode cL_law 2664 = .ok (.if_icmp .eq 5, 3) := by decide +kernel
theorem dL_law_2669 : decode cL_law 2669 = .ok (.iload 6, 2) := by decide +kernel
theorem dL_law_2671 : decode cL_law 2671 = .ok (.ifCond .ne 15, 3) := by decide +kernel
theorem dL_law_2674 : decode cL_law 2674 = .ok (.aload_n 3, 1) := by decide +kernel
theorem dL_law_2675 : decode cL_law 2675 = .ok (.iconst 0, 1) := by decide +kernel
theorem dL_law_2676 : decode cL_law 2676 = .ok (.laload, 1) := by decide +kernel
theorem dL_law_2677 : decode cL_law 2677 = .ok (.iload 7, 2) := by decide +kernel
theorem dL_law_2679 : decode cL_law 2679 = .ok (.i2l, 1) := by decide +kernel
theorem dL_law_2680 : decode cL_law 2680 = .ok (.lcmp, 1) := by decide +kernel
theorem dL_law_2681 : decode cL_law 2681 = .ok (.ifCond .eq 5, 3) := by decide +kernel
theorem dL_law_2686 : decode cL_law 2686 = .ok (.goto 272, 3) := by decide +kernel
theorem dL_law_2745 : decode cL_law 2745 = .ok (.aload_n 1, 1) := by decide +kernel
theorem dL_law_2746 : decode cL_law 2746 = .ok (.aload_n 3, 1) := by decide +kernel
theorem dL_law_2747 : decode cL_law 2747 = .ok (.invokestatic 292, 3) := by decide +kernel
theorem dL_law_2750 : decode cL_law 2750 = .ok (.istore 6, 2) := by decide +kernel
theorem dL_law_2752 : decode cL_law 2752 = .ok (.aload_n 2, 1) := by decide +kernel
theorem dL_law_2753 : decode cL_law 2753 = .ok (.invokevirtual 295, 3) := by decide +kernel
theorem dL_law_2756 : decode cL_law 2756 = .ok (.istore 7, 2) := by decide +kernel
theorem dL_law_2758 : decode cL_law 2758 = .ok (.aload_n 2, 1) := by decide +kernel
theorem dL_law_2759 : decode cL_law 2759 = .ok (.invokevirtual 166, 3) := by decide +kernel
theorem dL_law_2762 : decode cL_law 2762 = .ok (.iload 6, 2) := by decide +kernel
theorem dL_law_2764 : decode cL_law 2764 = .ok (.if_icmp .eq 5, 3) := by decide +kernel
theorem dL_law_2769 : decode cL_law 2769 = .ok (.iload 6, 2) := by decide +kernel
theorem dL_law_2771 : decode cL_law 2771 = .ok (.ifCond .ne 15, 3) := by decide +kernel
theorem dL_law_2786 : decode cL_law 2786 = .ok (.goto 172, 3) := by decide +kernel
theorem dL_law_2901 : decode cL_law 2901 = .ok (.aload_n 1, 1) := by decide +kernel
theorem dL_law_2902 : decode cL_law 2902 = .ok (.invokevirtual 302, 3) := by decide +kernel
theorem dL_law_2905 : decode cL_law 2905 = .ok (.aload_n 2, 1) := by decide +kernel
theorem dL_law_2906 : decode cL_law 2906 = .ok (.invokevirtual 305, 3) := by decide +kernel
theorem dL_law_2909 : decode cL_law 2909 = .ok (.if_icmp .eq 49, 3) := by decide +kernel
theorem dL_law_2958 : decode cL_law 2958 = .ok (.iinc 5 6, 3) := by decide +kernel
theorem dL_law_2961 : decode cL_law 2961 = .ok (.goto (-2933), 3) := by decide +kernel
theorem dL_law_2964 : decode cL_law 2964 = .ok (.iconst 1, 1) := by decide +kernel
theorem dL_law_2965 : decode cL_law 2965 = .ok (.ireturn, 1) := by decide +kernel
theorem dL_lostShare_0 : decode cL_lostShare 0 = .ok (.aload_n 1, 1) := by decide +kernel
theorem dL_lostShare_1 : decode cL_lostShare 1 = .ok (.iconst 0, 1) := by decide +kernel
theorem dL_lostShare_2 : decode cL_lostShare 2 = .ok (.aload_n 0, 1) := by decide +kernel
theorem dL_lostShare_3 : decode cL_lostShare 3 = .ok (.invokevirtual 120, 3) := by decide +kernel
theorem dL_lostShare_10 : decode cL_lostShare 10 = .ok (.astore_n 2, 1) := by decide +kernel
theorem dL_lostShare_11 : decode cL_lostShare 11 = .ok (.iconst 1, 1) := by decide +kernel
theorem dL_lostShare_12 : decode cL_lostShare 12 = .ok (.ireturn, 1) := by decide +kernel
theorem dL_noteOn_0 : decode cL_noteOn 0 = .ok (.aload_n 3, 1) := by decide +kernel
theorem dL_noteOn_1 : decode cL_noteOn 1 = .ok (.iconst 0, 1) := by decide +kernel
theorem dL_noteOn_2 : decode cL_noteOn 2 = .ok (.aload_n 0, 1) := by decide +kernel
theorem dL_noteOn_3 : decode cL_noteOn 3 = .ok (.iload_n 1, 1) := by decide +kernel
theorem dL_noteOn_4 : decode cL_noteOn 4 = .ok (.iload_n 2, 1) := by decide +kernel
theorem dL_noteOn_5 : decode cL_noteOn 5 = .ok (.invokevirtual 114, 3) := by decide +kernel
theorem dL_noteOn_13 : decode cL_noteOn 13 = .ok (.astore 4, 2) := by decide +kernel
theorem dL_noteOn_15 : decode cL_noteOn 15 = .ok (.iconst 1, 1) := by decide +kernel
theorem dL_noteOn_16 : decode cL_noteOn 16 = .ok (.ireturn, 1) := by decide +kernel
theorem dL_noteOn_17 : decode cL_noteOn 17 = .ok (.astore 4, 2) := by decide +kernel
theorem dL_noteOn_19 : decode cL_noteOn 19 = .ok (.iconst 2, 1) := by decide +kernel
theorem dL_noteOn_20 : decode cL_noteOn 20 = .ok (.ireturn, 1) := by decide +kernel
theorem dL_noteOn_21 : decode cL_noteOn 21 = .ok (.astore 4, 2) := by decide +kernel
theorem dL_noteOn_23 : decode cL_noteOn 23 = .ok (.iconst 3, 1) := by decide +kernel
theorem dL_noteOn_24 : decode cL_noteOn 24 = .ok (.ireturn, 1) := by decide +kernel
theorem dL_setSwing_0 : decode cL_setSwing 0 = .ok (.aload_n 2, 1) := by decide +kernel
theorem dL_setSwing_1 : decode cL_setSwing 1 = .ok (.iconst 0, 1) := by decide +kernel
theorem dL_setSwing_2 : decode cL_setSwing 2 = .ok (.aload_n 0, 1) := by decide +kernel
theorem dL_setSwing_3 : decode cL_setSwing 3 = .ok (.iload_n 1, 1) := by decide +kernel
theorem dL_setSwing_4 : decode cL_setSwing 4 = .ok (.invokevirtual 80, 3) := by decide +kernel
theorem dL_setSwing_7 : decode cL_setSwing 7 = .ok (.i2l, 1) := by decide +kernel
theorem dL_setSwing_8 : decode cL_setSwing 8 = .ok (.lastore, 1) := by decide +kernel
theorem dL_setSwing_9 : decode cL_setSwing 9 = .ok (.goto 6, 3) := by decide +kernel
theorem dL_setSwing_12 : decode cL_setSwing 12 = .ok (.astore_n 3, 1) := by decide +kernel
theorem dL_setSwing_13 : decode cL_setSwing 13 = .ok (.iconst 1, 1) := by decide +kernel
theorem dL_setSwing_14 : decode cL_setSwing 14 = .ok (.ireturn, 1) := by decide +kernel
theorem dL_setSwing_15 : decode cL_setSwing 15 = .ok (.iconst 0, 1) := by decide +kernel
theorem dL_setSwing_16 : decode cL_setSwing 16 = .ok (.ireturn, 1) := by decide +kernel
theorem dL_tickAt_0 : decode cL_tickAt 0 = .ok (.aload_n 2, 1) := by decide +kernel
theorem dL_tickAt_1 : decode cL_tickAt 1 = .ok (.iconst 0, 1) := by decide +kernel
theorem dL_tickAt_2 : decode cL_tickAt 2 = .ok (.aload_n 0, 1) := by decide +kernel
theorem dL_tickAt_3 : decode cL_tickAt 3 = .ok (.iload_n 1, 1) := by decide +kernel
theorem dL_tickAt_4 : decode cL_tickAt 4 = .ok (.invokevirtual 87, 3) := by decide +kernel
theorem dL_tickAt_7 : decode cL_tickAt 7 = .ok (.i2l, 1) := by decide +kernel
theorem dL_tickAt_8 : decode cL_tickAt 8 = .ok (.lastore, 1) := by decide +kernel
theorem dL_tickAt_9 : decode cL_tickAt 9 = .ok (.goto 6, 3) := by decide +kernel
theorem dL_tickAt_12 : decode cL_tickAt 12 = .ok (.astore_n 3, 1) := by decide +kernel
theorem dL_tickAt_13 : decode cL_tickAt 13 = .ok (.iconst 1, 1) := by decide +kernel
theorem dL_tickAt_14 : decode cL_tickAt 14 = .ok (.ireturn, 1) := by decide +kernel
theorem dL_tickAt_15 : decode cL_tickAt 15 = .ok (.iconst 0, 1) := by decide +kernel
theorem dL_tickAt_16 : decode cL_tickAt 16 = .ok (.ireturn, 1) := by decide +kernel
theorem dX0_greatestNumberAtOnce_0 : decode cX0_greatestNumberAtOnce 0 = .ok (.iconst 0, 1) := by decide +kernel
theorem dX0_greatestNumberAtOnce_1 : decode cX0_greatestNumberAtOnce 1 = .ok (.istore_n 1, 1) := by decide +kernel
theorem dX0_greatestNumberAtOnce_2 : decode cX0_greatestNumberAtOnce 2 = .ok (.iconst 0, 1) := by decide +kernel
theorem dX0_greatestNumberAtOnce_3 : decode cX0_greatestNumberAtOnce 3 = .ok (.istore_n 2, 1) := by decide +kernel
theorem dX0_greatestNumberAtOnce_4 : decode cX0_greatestNumberAtOnce 4 = .ok (.iconst 0, 1) := by decide +kernel
theorem dX0_greatestNumberAtOnce_5 : decode cX0_greatestNumberAtOnce 5 = .ok (.istore_n 3, 1) := by decide +kernel
theorem dX0_greatestNumberAtOnce_6 : decode cX0_greatestNumberAtOnce 6 = .ok (.iload_n 3, 1) := by decide +kernel
theorem dX0_greatestNumberAtOnce_7 : decode cX0_greatestNumberAtOnce 7 = .ok (.aload_n 0, 1) := by decide +kernel
theorem dX0_greatestNumberAtOnce_8 : decode cX0_greatestNumberAtOnce 8 = .ok (.getfield 24, 3) := by decide +kernel
theorem dX0_greatestNumberAtOnce_11 : decode cX0_greatestNumberAtOnce 11 = .ok (.if_icmp .ge 32, 3) := by decide +kernel
theorem dX0_greatestNumberAtOnce_43 : decode cX0_greatestNumberAtOnce 43 = .ok (.iload_n 2, 1) := by decide +kernel
theorem dX0_greatestNumberAtOnce_44 : decode cX0_greatestNumberAtOnce 44 = .ok (.ireturn, 1) := by decide +kernel
theorem dX0_init_0 : decode cX0_init 0 = .ok (.aload_n 0, 1) := by decide +kernel
theorem dX0_init_1 : decode cX0_init 1 = .ok (.invokespecial 3, 3) := by decide +kernel
theorem dX0_init_4 : decode cX0_init 4 = .ok (.aload_n 0, 1) := by decide +kernel
theorem dX0_init_5 : decode cX0_init 5 = .ok (.sipush 600, 3) := by decide +kernel
theorem dX0_init_8 : decode cX0_init 8 = .ok (.newarray .long, 2) := by decide +kernel
theorem dX0_init_10 : decode cX0_init 10 = .ok (.putfield 9, 3) := by decide +kernel
theorem dX0_init_13 : decode cX0_init 13 = .ok (.aload_n 0, 1) := by decide +kernel
theorem dX0_init_14 : decode cX0_init 14 = .ok (.new 15, 3) := by decide +kernel
theorem dX0_init_17 : decode cX0_init 17 = .ok (.dup, 1) := by decide +kernel
theorem dX0_init_18 : decode cX0_init 18 = .ok (.sipush 600, 3) := by decide +kernel
theorem dX0_init_21 : decode cX0_init 21 = .ok (.invokespecial 17, 3) := by decide +kernel
theorem dX0_init_24 : decode cX0_init 24 = .ok (.putfield 20, 3) := by decide +kernel
theorem dX0_init_27 : decode cX0_init 27 = .ok (.return_, 1) := by decide +kernel
theorem dX0_list_0 : decode cX0_list 0 = .ok (.aload_n 0, 1) := by decide +kernel
theorem dX0_list_1 : decode cX0_list 1 = .ok (.iconst 0, 1) := by decide +kernel
theorem dX0_list_2 : decode cX0_list 2 = .ok (.putfield 24, 3) := by decide +kernel
theorem dX0_list_5 : decode cX0_list 5 = .ok (.iconst 0, 1) := by decide +kernel
theorem dX0_list_6 : decode cX0_list 6 = .ok (.istore_n 2, 1) := by decide +kernel
theorem dX0_list_7 : decode cX0_list 7 = .ok (.iload_n 2, 1) := by decide +kernel
theorem dX0_list_8 : decode cX0_list 8 = .ok (.aload_n 1, 1) := by decide +kernel
theorem dX0_list_9 : decode cX0_list 9 = .ok (.invokevirtual 28, 3) := by decide +kernel
theorem dX0_list_12 : decode cX0_list 12 = .ok (.if_icmp .ge 45, 3) := by decide +kernel
theorem dX0_list_57 : decode cX0_list 57 = .ok (.aload_n 0, 1) := by decide +kernel
theorem dX0_list_58 : decode cX0_list 58 = .ok (.getfield 20, 3) := by decide +kernel
theorem dX0_list_61 : decode cX0_list 61 = .ok (.aload_n 0, 1) := by decide +kernel
theorem dX0_list_62 : decode cX0_list 62 = .ok (.getfield 9, 3) := by decide +kernel
theorem dX0_list_65 : decode cX0_list 65 = .ok (.aload_n 0, 1) := by decide +kernel
theorem dX0_list_66 : decode cX0_list 66 = .ok (.getfield 24, 3) := by decide +kernel
theorem dX0_list_69 : decode cX0_list 69 = .ok (.invokevirtual 42, 3) := by decide +kernel
theorem dX0_list_72 : decode cX0_list 72 = .ok (.return_, 1) := by decide +kernel
theorem dX10_append_0 : decode cX10_append 0 = .ok (.aload_n 0, 1) := by decide +kernel
theorem dX10_append_1 : decode cX10_append 1 = .ok (.iload_n 1, 1) := by decide +kernel
theorem dX10_append_2 : decode cX10_append 2 = .ok (.bipush 32, 2) := by decide +kernel
theorem dX10_append_4 : decode cX10_append 4 = .ok (.bipush 126, 2) := by decide +kernel
theorem dX10_append_6 : decode cX10_append 6 = .ok (.invokestatic 98, 3) := by decide +kernel
theorem dX10_append_9 : decode cX10_append 9 = .ok (.ifCond .ne 7, 3) := by decide +kernel
theorem dX10_append_12 : decode cX10_append 12 = .ok (.iconst 1, 1) := by decide +kernel
theorem dX10_append_13 : decode cX10_append 13 = .ok (.goto 17, 3) := by decide +kernel
theorem dX10_append_16 : decode cX10_append 16 = .ok (.aload_n 0, 1) := by decide +kernel
theorem dX10_append_17 : decode cX10_append 17 = .ok (.getfield 248, 3) := by decide +kernel
theorem dX10_append_20 : decode cX10_append 20 = .ok (.bipush 60, 2) := by decide +kernel
theorem dX10_append_22 : decode cX10_append 22 = .ok (.if_icmp .ne 7, 3) := by decide +kernel
theorem dX10_append_29 : decode cX10_append 29 = .ok (.iconst 0, 1) := by decide +kernel
theorem dX10_append_30 : decode cX10_append 30 = .ok (.putfield 86, 3) := by decide +kernel
theorem dX10_append_33 : decode cX10_append 33 = .ok (.aload_n 0, 1) := by decide +kernel
theorem dX10_append_34 : decode cX10_append 34 = .ok (.getfield 86, 3) := by decide +kernel
theorem dX10_append_37 : decode cX10_append 37 = .ok (.ifCond .le 5, 3) := by decide +kernel
theorem dX10_append_40 : decode cX10_append 40 = .ok (.iconst 0, 1) := by decide +kernel
theorem dX10_append_41 : decode cX10_append 41 = .ok (.ireturn, 1) := by decide +kernel
theorem dX10_append_42 : decode cX10_append 42 = .ok (.aload_n 0, 1) := by decide +kernel
theorem dX10_append_43 : decode cX10_append 43 = .ok (.getfield 70, 3) := by decide +kernel
theorem dX10_append_46 : decode cX10_append 46 = .ok (.aload_n 0, 1) := by decide +kernel
theorem dX10_append_47 : decode cX10_append 47 = .ok (.getfield 248, 3) := by decide +kernel
theorem dX10_append_50 : decode cX10_append 50 = .ok (.iload_n 1, 1) := by decide +kernel
theorem dX10_append_51 : decode cX10_append 51 = .ok (.iastore, 1) := by decide +kernel
theorem dX10_append_52 : decode cX10_append 52 = .ok (.aload_n 0, 1) := by decide +kernel
theorem dX10_append_53 : decode cX10_append 53 = .ok (.dup, 1) := by decide +kernel
theorem dX10_append_54 : decode cX10_append 54 = .ok (.getfield 248, 3) := by decide +kernel
theorem dX10_append_57 : decode cX10_append 57 = .ok (.iconst 1, 1) := by decide +kernel
theorem dX10_append_58 : decode cX10_append 58 = .ok (.iadd, 1) := by decide +kernel
theorem dX10_append_59 : decode cX10_append 59 = .ok (.putfield 248, 3) := by decide +kernel
theorem dX10_append_62 : decode cX10_append 62 = .ok (.aload_n 0, 1) := by decide +kernel
theorem dX10_append_63 : decode cX10_append 63 = .ok (.getfield 248, 3) := by decide +kernel
theorem dX10_append_66 : decode cX10_append 66 = .ok (.ireturn, 1) := by decide +kernel
theorem dX10_begin_0 : decode cX10_begin 0 = .ok (.iconst 0, 1) := by decide +kernel
theorem dX10_begin_1 : decode cX10_begin 1 = .ok (.istore_n 1, 1) := by decide +kernel
theorem dX10_begin_2 : decode cX10_begin 2 = .ok (.iload_n 1, 1) := by decide +kernel
theorem dX10_begin_3 : decode cX10_begin 3 = .ok (.sipush 497, 3) := by decide +kernel
theorem dX10_begin_6 : decode cX10_begin 6 = .ok (.if_icmp .ge 16, 3) := by decide +kernel
theorem dX10_begin_9 : decode cX10_begin 9 = .ok (.aload_n 0, 1) := by decide +kernel
theorem dX10_begin_10 : decode cX10_begin 10 = .ok (.getfield 9, 3) := by decide +kernel
theorem dX10_begin_13 : decode cX10_begin 13 = .ok (.iload_n 1, 1) := by decide +kernel
theorem dX10_begin_14 : decode cX10_begin 14 = .ok (.iconst 0, 1) := by decide +kernel
theorem dX10_begin_15 : decode cX10_begin 15 = .ok (.iastore, 1) := by decide +kernel
theorem dX10_begin_16 : decode cX10_begin 16 = .ok (.iinc 1 1, 3) := by decide +kernel
theorem dX10_begin_19 : decode cX10_begin 19 = .ok (.goto (-17), 3) := by decide +kernel
theorem dX10_begin_22 : decode cX10_begin 22 = .ok (.aload_n 0, 1) := by decide +kernel
theorem dX10_begin_23 : decode cX10_begin 23 = .ok (.getfield 9, 3) := by decide +kernel
theorem dX10_begin_26 : decode cX10_begin 26 = .ok (.sipush 453, 3) := by decide +kernel
theorem dX10_begin_29 : decode cX10_begin 29 = .ok (.iconst 1, 1) := by decide +kernel
theorem dX10_begin_30 : decode cX10_begin 30 = .ok (.iastore, 1) := by decide +kernel
theorem dX10_begin_31 : decode cX10_begin 31 = .ok (.aload_n 0, 1) := by decide +kernel
theorem dX10_begin_32 : decode cX10_begin 32 = .ok (.getfield 9, 3) := by decide +kernel
theorem dX10_begin_35 : decode cX10_begin 35 = .ok (.sipush 455, 3) := by decide +kernel
theorem dX10_begin_38 : decode cX10_begin 38 = .ok (.bipush 100, 2) := by decide +kernel
theorem dX10_begin_40 : decode cX10_begin 40 = .ok (.iastore, 1) := by decide +kernel
theorem dX10_begin_41 : decode cX10_begin 41 = .ok (.iconst 0, 1) := by decide +kernel
theorem dX10_begin_42 : decode cX10_begin 42 = .ok (.istore_n 1, 1) := by decide +kernel
theorem dX10_begin_43 : decode cX10_begin 43 = .ok (.iload_n 1, 1) := by decide +kernel
theorem dX10_begin_44 : decode cX10_begin 44 = .ok (.iconst 4, 1) := by decide +kernel
theorem dX10_begin_45 : decode cX10_begin 45 = .ok (.if_icmp .ge 40, 3) := by decide +kernel
theorem dX10_begin_48 : decode cX10_begin 48 = .ok (.aload_n 0, 1) := by decide +kernel
theorem dX10_begin_49 : decode cX10_begin 49 = .ok (.getfield 9, 3) := by decide +kernel
theorem dX10_begin_52 : decode cX10_begin 52 = .ok (.sipush 474, 3) := by decide +kernel
theorem dX10_begin_55 : decode cX10_begin 55 = .ok (.iconst 5, 1) := by decide +kernel
theorem dX10_begin_56 : decode cX10_begin 56 = .ok (.iload_n 1, 1) := by decide +kernel
theorem dX10_begin_57 : decode cX10_begin 57 = .ok (.imul, 1) := by decide +kernel
theorem dX10_begin_58 : decode cX10_begin 58 = .ok (.iadd, 1) := by decide +kernel
theorem dX10_begin_59 : decode cX10_begin 59 = .ok (.iconst 2, 1) := by decide +kernel
theorem dX10_begin_60 : decode cX10_begin 60 = .ok (.iadd, 1) := by decide +kernel
theorem dX10_begin_61 : decode cX10_begin 61 = .ok (.bipush 100, 2) := by decide +kernel
theorem dX10_begin_63 : decode cX10_begin 63 = .ok (.iastore, 1) := by decide +kernel
theorem dX10_begin_64 : decode cX10_begin 64 = .ok (.aload_n 0, 1) := by decide +kernel
theorem dX10_begin_65 : decode cX10_begin 65 = .ok (.getfield 9, 3) := by decide +kernel
theorem dX10_begin_68 : decode cX10_begin 68 = .ok (.sipush 474, 3) := by decide +kernel
theorem dX10_begin_71 : decode cX10_begin 71 = .ok (.iconst 5, 1) := by decide +kernel
theorem dX10_begin_72 : decode cX10_begin 72 = .ok (.iload_n 1, 1) := by decide +kernel
theorem dX10_begin_73 : decode cX10_begin 73 = .ok (.imul, 1) := by decide +kernel
theorem dX10_begin_74 : decode cX10_begin 74 = .ok (.iadd, 1) := by decide +kernel
theorem dX10_begin_75 : decode cX10_begin 75 = .ok (.iconst 4, 1) := by decide +kernel
theorem dX10_begin_76 : decode cX10_begin 76 = .ok (.iadd, 1) := by decide +kernel
theorem dX10_begin_77 : decode cX10_begin 77 = .ok (.iconst 5, 1) := by decide +kernel
theorem dX10_begin_78 : decode cX10_begin 78 = .ok (.iastore, 1) := by decide +kernel
theorem dX10_begin_79 : decode cX10_begin 79 = .ok (.iinc 1 1, 3) := by decide +kernel
theorem dX10_begin_82 : decode cX10_begin 82 = .ok (.goto (-39), 3) := by decide +kernel
theorem dX10_begin_85 : decode cX10_begin 85 = .ok (.aload_n 0, 1) := by decide +kernel
theorem dX10_begin_86 : decode cX10_begin 86 = .ok (.getfield 9, 3) := by decide +kernel
theorem dX10_begin_89 : decode cX10_begin 89 = .ok (.sipush 495, 3) := by decide +kernel
theorem dX10_begin_92 : decode cX10_begin 92 = .ok (.iconst 4, 1) := by decide +kernel
theorem dX10_begin_93 : decode cX10_begin 93 = .ok (.iastore, 1) := by decide +kernel
theorem dX10_begin_94 : decode cX10_begin 94 = .ok (.return_, 1) := by decide +kernel
theorem dX10_clear_0 : decode cX10_clear 0 = .ok (.aload_n 0, 1) := by decide +kernel
theorem dX10_clear_1 : decode cX10_clear 1 = .ok (.iconst 0, 1) := by decide +kernel
theorem dX10_clear_2 : decode cX10_clear 2 = .ok (.putfield 86, 3) := by decide +kernel
theorem dX10_clear_5 : decode cX10_clear 5 = .ok (.aload_n 0, 1) := by decide +kernel
theorem dX10_clear_6 : decode cX10_clear 6 = .ok (.getfield 9, 3) := by decide +kernel
theorem dX10_clear_9 : decode cX10_clear 9 = .ok (.sipush 392, 3) := by decide +kernel
theorem dX10_clear_12 : decode cX10_clear 12 = .ok (.iaload, 1) := by decide +kernel
theorem dX10_clear_13 : decode cX10_clear 13 = .ok (.istore_n 1, 1) := by decide +kernel
theorem dX10_clear_14 : decode cX10_clear 14 = .ok (.aload_n 0, 1) := by decide +kernel
theorem dX10_clear_15 : decode cX10_clear 15 = .ok (.invokevirtual 83, 3) := by decide +kernel
theorem dX10_clear_18 : decode cX10_clear 18 = .ok (.aload_n 0, 1) := by decide +kernel
theorem dX10_clear_19 : decode cX10_clear 19 = .ok (.iconst 0, 1) := by decide +kernel
theorem dX10_clear_20 : decode cX10_clear 20 = .ok (.putfield 89, 3) := by decide +kernel
theorem dX10_clear_23 : decode cX10_clear 23 = .ok (.iload_n 1, 1) := by decide +kernel
theorem dX10_clear_24 : decode cX10_clear 24 = .ok (.ireturn, 1) := by decide +kernel
theorem dX10_errorPosition_0 : decode cX10_errorPosition 0 = .ok (.aload_n 0, 1) := by decide +kernel
theorem dX10_errorPosition_1 : decode cX10_errorPosition 1 = .ok (.aload_n 0, 1) := by decide +kernel
theorem dX10_errorPosition_2 : decode cX10_errorPosition 2 = .ok (.getfield 73, 3) := by decide +kernel
theorem dX10_errorPosition_5 : decode cX10_errorPosition 5 = .ok (.ifCond .ge 7, 3) := by decide +kernel
theorem dX10_errorPosition_8 : decode cX10_errorPosition 8 = .ok (.iconst 1, 1) := by decide +kernel
theorem dX10_errorPosition_9 : decode cX10_errorPosition 9 = .ok (.goto 4, 3) := by decide +kernel
theorem dX10_errorPosition_13 : decode cX10_errorPosition 13 = .ok (.putfield 86, 3) := by decide +kernel
theorem dX10_errorPosition_16 : decode cX10_errorPosition 16 = .ok (.aload_n 0, 1) := by decide +kernel
theorem dX10_errorPosition_17 : decode cX10_errorPosition 17 = .ok (.getfield 86, 3) := by decide +kernel
theorem dX10_errorPosition_20 : decode cX10_errorPosition 20 = .ok (.ifCond .le 7, 3) := by decide +kernel
theorem dX10_errorPosition_23 : decode cX10_errorPosition 23 = .ok (.iconst 0, 1) := by decide +kernel
theorem dX10_errorPosition_24 : decode cX10_errorPosition 24 = .ok (.goto 7, 3) := by decide +kernel
theorem dX10_errorPosition_31 : decode cX10_errorPosition 31 = .ok (.ireturn, 1) := by decide +kernel
theorem dX10_giveVoices_0 : decode cX10_giveVoices 0 = .ok (.iconst 0, 1) := by decide +kernel
theorem dX10_giveVoices_1 : decode cX10_giveVoices 1 = .ok (.istore_n 1, 1) := by decide +kernel
theorem dX10_giveVoices_2 : decode cX10_giveVoices 2 = .ok (.iload_n 1, 1) := by decide +kernel
theorem dX10_giveVoices_3 : decode cX10_giveVoices 3 = .ok (.bipush 8, 2) := by decide +kernel
theorem dX10_giveVoices_5 : decode cX10_giveVoices 5 = .ok (.if_icmp .ge 16, 3) := by decide +kernel
theorem dX10_giveVoices_8 : decode cX10_giveVoices 8 = .ok (.aload_n 0, 1) := by decide +kernel
theorem dX10_giveVoices_9 : decode cX10_giveVoices 9 = .ok (.getfield 64, 3) := by decide +kernel
theorem dX10_giveVoices_12 : decode cX10_giveVoices 12 = .ok (.iload_n 1, 1) := by decide +kernel
theorem dX10_giveVoices_13 : decode cX10_giveVoices 13 = .ok (.iconst (-1), 1) := by decide +kernel
theorem dX10_giveVoices_14 : decode cX10_giveVoices 14 = .ok (.iastore, 1) := by decide +kernel
theorem dX10_giveVoices_15 : decode cX10_giveVoices 15 = .ok (.iinc 1 1, 3) := by decide +kernel
theorem dX10_giveVoices_18 : decode cX10_giveVoices 18 = .ok (.goto (-16), 3) := by decide +kernel
theorem dX10_giveVoices_21 : decode cX10_giveVoices 21 = .ok (.iconst 0, 1) := by decide +kernel
theorem dX10_giveVoices_22 : decode cX10_giveVoices 22 = .ok (.istore_n 1, 1) := by decide +kernel
theorem dX10_giveVoices_23 : decode cX10_giveVoices 23 = .ok (.iload_n 1, 1) := by decide +kernel
theorem dX10_giveVoices_24 : decode cX10_giveVoices 24 = .ok (.aload_n 0, 1) := by decide +kernel
theorem dX10_giveVoices_25 : decode cX10_giveVoices 25 = .ok (.getfield 176, 3) := by decide +kernel
theorem dX10_giveVoices_28 : decode cX10_giveVoices 28 = .ok (.if_icmp .ge 31, 3) := by decide +kernel
theorem dX10_giveVoices_59 : decode cX10_giveVoices 59 = .ok (.iconst 0, 1) := by decide +kernel
theorem dX10_giveVoices_60 : decode cX10_giveVoices 60 = .ok (.istore_n 1, 1) := by decide +kernel
theorem dX10_giveVoices_61 : decode cX10_giveVoices 61 = .ok (.iload_n 1, 1) := by decide +kernel
theorem dX10_giveVoices_62 : decode cX10_giveVoices 62 = .ok (.aload_n 0, 1) := by decide +kernel
theorem dX10_giveVoices_63 : decode cX10_giveVoices 63 = .ok (.getfield 176, 3) := by decide +kernel
theorem dX10_giveVoices_66 : decode cX10_giveVoices 66 = .ok (.if_icmp .ge 25, 3) := by decide +kernel
theorem dX10_giveVoices_91 : decode cX10_giveVoices 91 = .ok (.return_, 1) := by decide +kernel
theorem dX10_in_0 : decode cX10_in 0 = .ok (.iload_n 0, 1) := by decide +kernel
theorem dX10_in_1 : decode cX10_in 1 = .ok (.iload_n 1, 1) := by decide +kernel
theorem dX10_in_2 : decode cX10_in 2 = .ok (.if_icmp .lt 12, 3) := by decide +kernel
theorem dX10_in_5 : decode cX10_in 5 = .ok (.iload_n 0, 1) := by decide +kernel
theorem dX10_in_6 : decode cX10_in 6 = .ok (.iload_n 2, 1) := by decide +kernel
theorem dX10_in_7 : decode cX10_in 7 = .ok (.if_icmp .gt 7, 3) := by decide +kernel
theorem dX10_in_10 : decode cX10_in 10 = .ok (.iconst 1, 1) := by decide +kernel
theorem dX10_in_11 : decode cX10_in 11 = .ok (.goto 4, 3) := by decide +kernel
theorem dX10_in_14 : decode cX10_in 14 = .ok (.iconst 0, 1) := by decide +kernel
theorem dX10_in_15 : decode cX10_in 15 = .ok (.ireturn, 1) := by decide +kernel
theorem dX10_init_0 : decode cX10_init 0 = .ok (.aload_n 0, 1) := by decide +kernel
theorem dX10_init_1 : decode cX10_init 1 = .ok (.invokespecial 1, 3) := by decide +kernel
theorem dX10_init_4 : decode cX10_init 4 = .ok (.aload_n 0, 1) := by decide +kernel
theorem dX10_init_5 : decode cX10_init 5 = .ok (.sipush 497, 3) := by decide +kernel
theorem dX10_init_8 : decode cX10_init 8 = .ok (.newarray .int, 2) := by decide +kernel
theorem dX10_init_10 : decode cX10_init 10 = .ok (.putfield 9, 3) := by decide +kernel
theorem dX10_init_13 : decode cX10_init 13 = .ok (.aload_n 0, 1) := by decide +kernel
theorem dX10_init_14 : decode cX10_init 14 = .ok (.sipush 497, 3) := by decide +kernel
theorem dX10_init_17 : decode cX10_init 17 = .ok (.newarray .int, 2) := by decide +kernel
theorem dX10_init_19 : decode cX10_init 19 = .ok (.putfield 13, 3) := by decide +kernel
theorem dX10_init_22 : decode cX10_init 22 = .ok (.aload_n 0, 1) := by decide +kernel
theorem dX10_init_23 : decode cX10_init 23 = .ok (.sipush 497, 3) := by decide +kernel
theorem dX10_init_26 : decode cX10_init 26 = .ok (.newarray .int, 2) := by decide +kernel
theorem dX10_init_28 : decode cX10_init 28 = .ok (.putfield 16, 3) := by decide +kernel
theorem dX10_init_31 : decode cX10_init 31 = .ok (.aload_n 0, 1) := by decide +kernel
theorem dX10_init_32 : decode cX10_init 32 = .ok (.sipush 3976, 3) := by decide +kernel
theorem dX10_init_35 : decode cX10_init 35 = .ok (.newarray .int, 2) := by decide +kernel
theorem dX10_init_37 : decode cX10_init 37 = .ok (.putfield 19, 3) := by decide +kernel
theorem dX10_init_40 : decode cX10_init 40 = .ok (.aload_n 0, 1) := by decide +kernel
theorem dX10_init_41 : decode cX10_init 41 = .ok (.bipush 8, 2) := by decide +kernel
theorem dX10_init_43 : decode cX10_init 43 = .ok (.newarray .int, 2) := by decide +kernel
theorem dX10_init_45 : decode cX10_init 45 = .ok (.putfield 22, 3) := by decide +kernel
theorem dX10_init_48 : decode cX10_init 48 = .ok (.aload_n 0, 1) := by decide +kernel
theorem dX10_init_49 : decode cX10_init 49 = .ok (.bipush 8, 2) := by decide +kernel
theorem dX10_init_51 : decode cX10_init 51 = .ok (.newarray .int, 2) := by decide +kernel
theorem dX10_init_53 : decode cX10_init 53 = .ok (.putfield 25, 3) := by decide +kernel
theorem dX10_init_56 : decode cX10_init 56 = .ok (.aload_n 0, 1) := by decide +kernel
theorem dX10_init_57 : decode cX10_init 57 = .ok (.bipush 8, 2) := by decide +kernel
theorem dX10_init_59 : decode cX10_init 59 = .ok (.newarray .int, 2) := by decide +kernel
theorem dX10_init_61 : decode cX10_init 61 = .ok (.putfield 28, 3) := by decide +kernel
theorem dX10_init_64 : decode cX10_init 64 = .ok (.aload_n 0, 1) := by decide +kernel
theorem dX10_init_65 : decode cX10_init 65 = .ok (.bipush 8, 2) := by decide +kernel
theorem dX10_init_67 : decode cX10_init 67 = .ok (.newarray .int, 2) := by decide +kernel
theorem dX10_init_69 : decode cX10_init 69 = .ok (.putfield 31, 3) := by decide +kernel
theorem dX10_init_72 : decode cX10_init 72 = .ok (.aload_n 0, 1) := by decide +kernel
theorem dX10_init_73 : decode cX10_init 73 = .ok (.sipush 300, 3) := by decide +kernel
theorem dX10_init_76 : decode cX10_init 76 = .ok (.newarray .int, 2) := by decide +kernel
theorem dX10_init_78 : decode cX10_init 78 = .ok (.putfield 34, 3) := by decide +kernel
theorem dX10_init_81 : decode cX10_init 81 = .ok (.aload_n 0, 1) := by decide +kernel
theorem dX10_init_82 : decode cX10_init 82 = .ok (.sipush 300, 3) := by decide +kernel
theorem dX10_init_85 : decode cX10_init 85 = .ok (.newarray .int, 2) := by decide +kernel
theorem dX10_init_87 : decode cX10_init 87 = .ok (.putfield 37, 3) := by decide +kernel
theorem dX10_init_90 : decode cX10_init 90 = .ok (.aload_n 0, 1) := by decide +kernel
theorem dX10_init_91 : decode cX10_init 91 = .ok (.sipush 300, 3) := by decide +kernel
theorem dX10_init_94 : decode cX10_init 94 = .ok (.newarray .int, 2) := by decide +kernel
theorem dX10_init_96 : decode cX10_init 96 = .ok (.putfield 40, 3) := by decide +kernel
theorem dX10_init_99 : decode cX10_init 99 = .ok (.aload_n 0, 1) := by decide +kernel
theorem dX10_init_100 : decode cX10_init 100 = .ok (.sipush 300, 3) := by decide +kernel
theorem dX10_init_103 : decode cX10_init 103 = .ok (.newarray .int, 2) := by decide +kernel
theorem dX10_init_105 : decode cX10_init 105 = .ok (.putfield 43, 3) := by decide +kernel
theorem dX10_init_108 : decode cX10_init 108 = .ok (.aload_n 0, 1) := by decide +kernel
theorem dX10_init_109 : decode cX10_init 109 = .ok (.sipush 300, 3) := by decide +kernel
theorem dX10_init_112 : decode cX10_init 112 = .ok (.newarray .int, 2) := by decide +kernel
theorem dX10_init_114 : decode cX10_init 114 = .ok (.putfield 46, 3) := by decide +kernel
theorem dX10_init_117 : decode cX10_init 117 = .ok (.aload_n 0, 1) := by decide +kernel
theorem dX10_init_118 : decode cX10_init 118 = .ok (.sipush 300, 3) := by decide +kernel
theorem dX10_init_121 : decode cX10_init 121 = .ok (.newarray .int, 2) := by decide +kernel
theorem dX10_init_123 : decode cX10_init 123 = .ok (.putfield 49, 3) := by decide +kernel
theorem dX10_init_126 : decode cX10_init 126 = .ok (.aload_n 0, 1) := by decide +kernel
theorem dX10_init_127 : decode cX10_init 127 = .ok (.sipush 300, 3) := by decide +kernel
theorem dX10_init_130 : decode cX10_init 130 = .ok (.newarray .int, 2) := by decide +kernel
theorem dX10_init_132 : decode cX10_init 132 = .ok (.putfield 52, 3) := by decide +kernel
theorem dX10_init_135 : decode cX10_init 135 = .ok (.aload_n 0, 1) := by decide +kernel
theorem dX10_init_136 : decode cX10_init 136 = .ok (.sipush 300, 3) := by decide +kernel
theorem dX10_init_139 : decode cX10_init 139 = .ok (.newarray .int, 2) := by decide +kernel
theorem dX10_init_141 : decode cX10_init 141 = .ok (.putfield 55, 3) := by decide +kernel
theorem dX10_init_144 : decode cX10_init 144 = .ok (.aload_n 0, 1) := by decide +kernel
theorem dX10_init_145 : decode cX10_init 145 = .ok (.sipush 300, 3) := by decide +kernel
theorem dX10_init_148 : decode cX10_init 148 = .ok (.newarray .int, 2) := by decide +kernel
theorem dX10_init_150 : decode cX10_init 150 = .ok (.putfield 58, 3) := by decide +kernel
theorem dX10_init_153 : decode cX10_init 153 = .ok (.aload_n 0, 1) := by decide +kernel
theorem dX10_init_154 : decode cX10_init 154 = .ok (.sipush 300, 3) := by decide +kernel
theorem dX10_init_157 : decode cX10_init 157 = .ok (.newarray .int, 2) := by decide +kernel
theorem dX10_init_159 : decode cX10_init 159 = .ok (.putfield 61, 3) := by decide +kernel
theorem dX10_init_162 : decode cX10_init 162 = .ok (.aload_n 0, 1) := by decide +kernel
theorem dX10_init_163 : decode cX10_init 163 = .ok (.bipush 8, 2) := by decide +kernel
theorem dX10_init_165 : decode cX10_init 165 = .ok (.newarray .int, 2) := by decide +kernel
theorem dX10_init_167 : decode cX10_init 167 = .ok (.putfield 64, 3) := by decide +kernel
theorem dX10_init_170 : decode cX10_init 170 = .ok (.aload_n 0, 1) := by decide +kernel
theorem dX10_init_171 : decode cX10_init 171 = .ok (.sipush 600, 3) := by decide +kernel
theorem dX10_init_174 : decode cX10_init 174 = .ok (.newarray .int, 2) := by decide +kernel
theorem dX10_init_176 : decode cX10_init 176 = .ok (.putfield 67, 3) := by decide +kernel
theorem dX10_init_179 : decode cX10_init 179 = .ok (.aload_n 0, 1) := by decide +kernel
theorem dX10_init_180 : decode cX10_init 180 = .ok (.bipush 60, 2) := by decide +kernel
theorem dX10_init_182 : decode cX10_init 182 = .ok (.newarray .int, 2) := by decide +kernel
theorem dX10_init_184 : decode cX10_init 184 = .ok (.putfield 70, 3) := by decide +kernel
theorem dX10_init_187 : decode cX10_init 187 = .ok (.aload_n 0, 1) := by decide +kernel
theorem dX10_init_188 : decode cX10_init 188 = .ok (.iconst (-1), 1) := by decide +kernel
theorem dX10_init_189 : decode cX10_init 189 = .ok (.putfield 73, 3) := by decide +kernel
theorem dX10_init_192 : decode cX10_init 192 = .ok (.aload_n 0, 1) := by decide +kernel
theorem dX10_init_193 : decode cX10_init 193 = .ok (.sipush 240, 3) := by decide +kernel
theorem dX10_init_196 : decode cX10_init 196 = .ok (.newarray .int, 2) := by decide +kernel
theorem dX10_init_198 : decode cX10_init 198 = .ok (.putfield 77, 3) := by decide +kernel
theorem dX10_init_201 : decode cX10_init 201 = .ok (.aload_n 0, 1) := by decide +kernel
theorem dX10_init_202 : decode cX10_init 202 = .ok (.bipush 120, 2) := by decide +kernel
theorem dX10_init_204 : decode cX10_init 204 = .ok (.newarray .int, 2) := by decide +kernel
theorem dX10_init_206 : decode cX10_init 206 = .ok (.putfield 80, 3) := by decide +kernel
theorem dX10_init_209 : decode cX10_init 209 = .ok (.aload_n 0, 1) := by decide +kernel
theorem dX10_init_210 : decode cX10_init 210 = .ok (.invokevirtual 83, 3) := by decide +kernel
theorem dX10_init_213 : decode cX10_init 213 = .ok (.return_, 1) := by decide +kernel
theorem dX10_isVoice_0 : decode cX10_isVoice 0 = .ok (.iload_n 1, 1) := by decide +kernel
theorem dX10_isVoice_1 : decode cX10_isVoice 1 = .ok (.iconst 0, 1) := by decide +kernel
theorem dX10_isVoice_2 : decode cX10_isVoice 2 = .ok (.aload_n 0, 1) := by decide +kernel
theorem dX10_isVoice_3 : decode cX10_isVoice 3 = .ok (.getfield 9, 3) := by decide +kernel
theorem dX10_isVoice_6 : decode cX10_isVoice 6 = .ok (.sipush 495, 3) := by decide +kernel
theorem dX10_isVoice_9 : decode cX10_isVoice 9 = .ok (.iaload, 1) := by decide +kernel
theorem dX10_isVoice_10 : decode cX10_isVoice 10 = .ok (.iconst 1, 1) := by decide +kernel
theorem dX10_isVoice_11 : decode cX10_isVoice 11 = .ok (.isub, 1) := by decide +kernel
theorem dX10_isVoice_12 : decode cX10_isVoice 12 = .ok (.invokestatic 98, 3) := by decide +kernel
theorem dX10_isVoice_15 : decode cX10_isVoice 15 = .ok (.ireturn, 1) := by decide +kernel
theorem dX10_itemsAt_0 : decode cX10_itemsAt 0 = .ok (.iconst 0, 1) := by decide +kernel
theorem dX10_itemsAt_1 : decode cX10_itemsAt 1 = .ok (.bipush 49, 2) := by decide +kernel
theorem dX10_itemsAt_3 : decode cX10_itemsAt 3 = .ok (.iload_n 0, 1) := by decide +kernel
theorem dX10_itemsAt_4 : decode cX10_itemsAt 4 = .ok (.imul, 1) := by decide +kernel
theorem dX10_itemsAt_5 : decode cX10_itemsAt 5 = .ok (.iadd, 1) := by decide +kernel
theorem dX10_itemsAt_6 : decode cX10_itemsAt 6 = .ok (.ireturn, 1) := by decide +kernel
theorem dX10_keep_0 : decode cX10_keep 0 = .ok (.aload_n 0, 1) := by decide +kernel
theorem dX10_keep_1 : decode cX10_keep 1 = .ok (.getfield 89, 3) := by decide +kernel
theorem dX10_keep_4 : decode cX10_keep 4 = .ok (.bipush 8, 2) := by decide +kernel
theorem dX10_keep_6 : decode cX10_keep 6 = .ok (.if_icmp .ne 44, 3) := by decide +kernel
theorem dX10_keep_50 : decode cX10_keep 50 = .ok (.iconst 0, 1) := by decide +kernel
theorem dX10_keep_51 : decode cX10_keep 51 = .ok (.istore_n 1, 1) := by decide +kernel
theorem dX10_keep_52 : decode cX10_keep 52 = .ok (.iload_n 1, 1) := by decide +kernel
theorem dX10_keep_53 : decode cX10_keep 53 = .ok (.sipush 497, 3) := by decide +kernel
theorem dX10_keep_56 : decode cX10_keep 56 = .ok (.if_icmp .ge 30, 3) := by decide +kernel
theorem dX10_keep_59 : decode cX10_keep 59 = .ok (.aload_n 0, 1) := by decide +kernel
theorem dX10_keep_60 : decode cX10_keep 60 = .ok (.getfield 19, 3) := by decide +kernel
theorem dX10_keep_63 : decode cX10_keep 63 = .ok (.sipush 497, 3) := by decide +kernel
theorem dX10_keep_66 : decode cX10_keep 66 = .ok (.aload_n 0, 1) := by decide +kernel
theorem dX10_keep_67 : decode cX10_keep 67 = .ok (.getfield 89, 3) := by decide +kernel
theorem dX10_keep_70 : decode cX10_keep 70 = .ok (.imul, 1) := by decide +kernel
theorem dX10_keep_71 : decode cX10_keep 71 = .ok (.iload_n 1, 1) := by decide +kernel
theorem dX10_keep_72 : decode cX10_keep 72 = .ok (.iadd, 1) := by decide +kernel
theorem dX10_keep_73 : decode cX10_keep 73 = .ok (.aload_n 0, 1) := by decide +kernel
theorem dX10_keep_74 : decode cX10_keep 74 = .ok (.getfield 16, 3) := by decide +kernel
theorem dX10_keep_77 : decode cX10_keep 77 = .ok (.iload_n 1, 1) := by decide +kernel
theorem dX10_keep_78 : decode cX10_keep 78 = .ok (.iaload, 1) := by decide +kernel
theorem dX10_keep_79 : decode cX10_keep 79 = .ok (.iastore, 1) := by decide +kernel
theorem dX10_keep_80 : decode cX10_keep 80 = .ok (.iinc 1 1, 3) := by decide +kernel
theorem dX10_keep_83 : decode cX10_keep 83 = .ok (.goto (-31), 3) := by decide +kernel
theorem dX10_keep_86 : decode cX10_keep 86 = .ok (.aload_n 0, 1) := by decide +kernel
theorem dX10_keep_87 : decode cX10_keep 87 = .ok (.dup, 1) := by decide +kernel
theorem dX10_keep_88 : decode cX10_keep 88 = .ok (.getfield 89, 3) := by decide +kernel
theorem dX10_keep_91 : decode cX10_keep 91 = .ok (.iconst 1, 1) := by decide +kernel
theorem dX10_keep_92 : decode cX10_keep 92 = .ok (.iadd, 1) := by decide +kernel
theorem dX10_keep_93 : decode cX10_keep 93 = .ok (.putfield 89, 3) := by decide +kernel
theorem dX10_keep_96 : decode cX10_keep 96 = .ok (.return_, 1) := by decide +kernel
theorem dX10_keepNow_0 : decode cX10_keepNow 0 = .ok (.aload_n 0, 1) := by decide +kernel
theorem dX10_keepNow_1 : decode cX10_keepNow 1 = .ok (.invokevirtual 92, 3) := by decide +kernel
theorem dX10_keepNow_4 : decode cX10_keepNow 4 = .ok (.aload_n 0, 1) := by decide +kernel
theorem dX10_keepNow_5 : decode cX10_keepNow 5 = .ok (.invokevirtual 95, 3) := by decide +kernel
theorem dX10_keepNow_8 : decode cX10_keepNow 8 = .ok (.return_, 1) := by decide +kernel
theorem dX10_layLengths_0 : decode cX10_layLengths 0 = .ok (.iconst 0, 1) := by decide +kernel
theorem dX10_layLengths_1 : decode cX10_layLengths 1 = .ok (.istore_n 1, 1) := by decide +kernel
theorem dX10_layLengths_2 : decode cX10_layLengths 2 = .ok (.iload_n 1, 1) := by decide +kernel
theorem dX10_layLengths_3 : decode cX10_layLengths 3 = .ok (.bipush 8, 2) := by decide +kernel
theorem dX10_layLengths_5 : decode cX10_layLengths 5 = .ok (.if_icmp .ge 159, 3) := by decide +kernel
theorem dX10_layLengths_8 : decode cX10_layLengths 8 = .ok (.iconst 0, 1) := by decide +kernel
theorem dX10_layLengths_9 : decode cX10_layLengths 9 = .ok (.istore_n 2, 1) := by decide +kernel
theorem dX10_layLengths_10 : decode cX10_layLengths 10 = .ok (.iconst 0, 1) := by decide +kernel
theorem dX10_layLengths_11 : decode cX10_layLengths 11 = .ok (.istore_n 3, 1) := by decide +kernel
theorem dX10_layLengths_12 : decode cX10_layLengths 12 = .ok (.iconst 0, 1) := by decide +kernel
theorem dX10_layLengths_13 : decode cX10_layLengths 13 = .ok (.istore 4, 2) := by decide +kernel
theorem dX10_layLengths_15 : decode cX10_layLengths 15 = .ok (.iload 4, 2) := by decide +kernel
theorem dX10_layLengths_17 : decode cX10_layLengths 17 = .ok (.aload_n 0, 1) := by decide +kernel
theorem dX10_layLengths_18 : decode cX10_layLengths 18 = .ok (.iload_n 1, 1) := by decide +kernel
theorem dX10_layLengths_19 : decode cX10_layLengths 19 = .ok (.invokevirtual 106, 3) := by decide +kernel
theorem dX10_layLengths_22 : decode cX10_layLengths 22 = .ok (.if_icmp .ge 112, 3) := by decide +kernel
theorem dX10_layLengths_134 : decode cX10_layLengths 134 = .ok (.aload_n 0, 1) := by decide +kernel
theorem dX10_layLengths_135 : decode cX10_layLengths 135 = .ok (.getfield 22, 3) := by decide +kernel
theorem dX10_layLengths_138 : decode cX10_layLengths 138 = .ok (.iload_n 1, 1) := by decide +kernel
theorem dX10_layLengths_139 : decode cX10_layLengths 139 = .ok (.iload_n 2, 1) := by decide +kernel
theorem dX10_layLengths_140 : decode cX10_layLengths 140 = .ok (.ldc 113, 2) := by decide +kernel
theorem dX10_layLengths_142 : decode cX10_layLengths 142 = .ok (.invokestatic 114, 3) := by decide +kernel
theorem dX10_layLengths_145 : decode cX10_layLengths 145 = .ok (.iastore, 1) := by decide +kernel
theorem dX10_layLengths_146 : decode cX10_layLengths 146 = .ok (.aload_n 0, 1) := by decide +kernel
theorem dX10_layLengths_147 : decode cX10_layLengths 147 = .ok (.getfield 25, 3) := by decide +kernel
theorem dX10_layLengths_150 : decode cX10_layLengths 150 = .ok (.iload_n 1, 1) := by decide +kernel
theorem dX10_layLengths_151 : decode cX10_layLengths 151 = .ok (.iload_n 3, 1) := by decide +kernel
theorem dX10_layLengths_152 : decode cX10_layLengths 152 = .ok (.ldc 113, 2) := by decide +kernel
theorem dX10_layLengths_154 : decode cX10_layLengths 154 = .ok (.invokestatic 114, 3) := by decide +kernel
theorem dX10_layLengths_157 : decode cX10_layLengths 157 = .ok (.iastore, 1) := by decide +kernel
theorem dX10_layLengths_158 : decode cX10_layLengths 158 = .ok (.iinc 1 1, 3) := by decide +kernel
theorem dX10_layLengths_161 : decode cX10_layLengths 161 = .ok (.goto (-159), 3) := by decide +kernel
theorem dX10_layLengths_164 : decode cX10_layLengths 164 = .ok (.return_, 1) := by decide +kernel
theorem dX10_layNotes_0 : decode cX10_layNotes 0 = .ok (.aload_n 0, 1) := by decide +kernel
theorem dX10_layNotes_1 : decode cX10_layNotes 1 = .ok (.invokevirtual 120, 3) := by decide +kernel
theorem dX10_layNotes_4 : decode cX10_layNotes 4 = .ok (.aload_n 0, 1) := by decide +kernel
theorem dX10_layNotes_5 : decode cX10_layNotes 5 = .ok (.iconst 0, 1) := by decide +kernel
theorem dX10_layNotes_6 : decode cX10_layNotes 6 = .ok (.putfield 176, 3) := by decide +kernel
theorem dX10_layNotes_9 : decode cX10_layNotes 9 = .ok (.iconst 0, 1) := by decide +kernel
theorem dX10_layNotes_10 : decode cX10_layNotes 10 = .ok (.istore_n 1, 1) := by decide +kernel
theorem dX10_layNotes_11 : decode cX10_layNotes 11 = .ok (.iload_n 1, 1) := by decide +kernel
theorem dX10_layNotes_12 : decode cX10_layNotes 12 = .ok (.aload_n 0, 1) := by decide +kernel
theorem dX10_layNotes_13 : decode cX10_layNotes 13 = .ok (.getfield 9, 3) := by decide +kernel
theorem dX10_layNotes_16 : decode cX10_layNotes 16 = .ok (.sipush 392, 3) := by decide +kernel
theorem dX10_layNotes_19 : decode cX10_layNotes 19 = .ok (.iaload, 1) := by decide +kernel
theorem dX10_layNotes_20 : decode cX10_layNotes 20 = .ok (.if_icmp .ge 86, 3) := by decide +kernel
theorem dX10_layNotes_106 : decode cX10_layNotes 106 = .ok (.iconst 0, 1) := by decide +kernel
theorem dX10_layNotes_107 : decode cX10_layNotes 107 = .ok (.istore_n 1, 1) := by decide +kernel
theorem dX10_layNotes_108 : decode cX10_layNotes 108 = .ok (.iload_n 1, 1) := by decide +kernel
theorem dX10_layNotes_109 : decode cX10_layNotes 109 = .ok (.aload_n 0, 1) := by decide +kernel
theorem dX10_layNotes_110 : decode cX10_layNotes 110 = .ok (.getfield 176, 3) := by decide +kernel
theorem dX10_layNotes_113 : decode cX10_layNotes 113 = .ok (.if_icmp .ge 43, 3) := by decide +kernel
theorem dX10_layNotes_156 : decode cX10_layNotes 156 = .ok (.aload_n 0, 1) := by decide +kernel
theorem dX10_layNotes_157 : decode cX10_layNotes 157 = .ok (.invokevirtual 186, 3) := by decide +kernel
theorem dX10_layNotes_160 : decode cX10_layNotes 160 = .ok (.return_, 1) := by decide +kernel
theorem dX10_lostShare_0 : decode cX10_lostShare 0 = .ok (.aload_n 0, 1) := by decide +kernel
theorem dX10_lostShare_1 : decode cX10_lostShare 1 = .ok (.invokevirtual 217, 3) := by decide +kernel
theorem dX10_lostShare_4 : decode cX10_lostShare 4 = .ok (.aload_n 0, 1) := by decide +kernel
theorem dX10_lostShare_5 : decode cX10_lostShare 5 = .ok (.aload_n 0, 1) := by decide +kernel
theorem dX10_lostShare_6 : decode cX10_lostShare 6 = .ok (.getfield 176, 3) := by decide +kernel
theorem dX10_lostShare_9 : decode cX10_lostShare 9 = .ok (.ifCond .ne 7, 3) := by decide +kernel
theorem dX10_lostShare_12 : decode cX10_lostShare 12 = .ok (.iconst 1, 1) := by decide +kernel
theorem dX10_lostShare_13 : decode cX10_lostShare 13 = .ok (.goto 4, 3) := by decide +kernel
theorem dX10_lostShare_17 : decode cX10_lostShare 17 = .ok (.putfield 86, 3) := by decide +kernel
theorem dX10_lostShare_20 : decode cX10_lostShare 20 = .ok (.iconst 0, 1) := by decide +kernel
theorem dX10_lostShare_21 : decode cX10_lostShare 21 = .ok (.istore_n 1, 1) := by decide +kernel
theorem dX10_lostShare_22 : decode cX10_lostShare 22 = .ok (.iconst 0, 1) := by decide +kernel
theorem dX10_lostShare_23 : decode cX10_lostShare 23 = .ok (.istore_n 2, 1) := by decide +kernel
theorem dX10_lostShare_24 : decode cX10_lostShare 24 = .ok (.iload_n 2, 1) := by decide +kernel
theorem dX10_lostShare_25 : decode cX10_lostShare 25 = .ok (.aload_n 0, 1) := by decide +kernel
theorem dX10_lostShare_26 : decode cX10_lostShare 26 = .ok (.getfield 176, 3) := by decide +kernel
theorem dX10_lostShare_29 : decode cX10_lostShare 29 = .ok (.if_icmp .ge 35, 3) := by decide +kernel
theorem dX10_lostShare_64 : decode cX10_lostShare 64 = .ok (.aload_n 0, 1) := by decide +kernel
theorem dX10_lostShare_65 : decode cX10_lostShare 65 = .ok (.getfield 86, 3) := by decide +kernel
theorem dX10_lostShare_68 : decode cX10_lostShare 68 = .ok (.ifCond .le 7, 3) := by decide +kernel
theorem dX10_lostShare_71 : decode cX10_lostShare 71 = .ok (.dconst 0, 1) := by decide +kernel
theorem dX10_lostShare_72 : decode cX10_lostShare 72 = .ok (.goto 11, 3) := by decide +kernel
theorem dX10_lostShare_83 : decode cX10_lostShare 83 = .ok (.dreturn, 1) := by decide +kernel
theorem dX10_many_0 : decode cX10_many 0 = .ok (.aload_n 0, 1) := by decide +kernel
theorem dX10_many_1 : decode cX10_many 1 = .ok (.getfield 9, 3) := by decide +kernel
theorem dX10_many_4 : decode cX10_many 4 = .ok (.iload_n 1, 1) := by decide +kernel
theorem dX10_many_5 : decode cX10_many 5 = .ok (.invokestatic 102, 3) := by decide +kernel
theorem dX10_many_8 : decode cX10_many 8 = .ok (.iaload, 1) := by decide +kernel
theorem dX10_many_9 : decode cX10_many 9 = .ok (.ireturn, 1) := by decide +kernel
theorem dX10_noteOn_0 : decode cX10_noteOn 0 = .ok (.aload_n 0, 1) := by decide +kernel
theorem dX10_noteOn_1 : decode cX10_noteOn 1 = .ok (.aload_n 0, 1) := by decide +kernel
theorem dX10_noteOn_2 : decode cX10_noteOn 2 = .ok (.iload_n 1, 1) := by decide +kernel
theorem dX10_noteOn_3 : decode cX10_noteOn 3 = .ok (.invokevirtual 233, 3) := by decide +kernel
theorem dX10_noteOn_6 : decode cX10_noteOn 6 = .ok (.ifCond .ne 7, 3) := by decide +kernel
theorem dX10_noteOn_9 : decode cX10_noteOn 9 = .ok (.iconst 1, 1) := by decide +kernel
theorem dX10_noteOn_10 : decode cX10_noteOn 10 = .ok (.goto 18, 3) := by decide +kernel
theorem dX10_noteOn_13 : decode cX10_noteOn 13 = .ok (.iload_n 2, 1) := by decide +kernel
theorem dX10_noteOn_14 : decode cX10_noteOn 14 = .ok (.iconst 0, 1) := by decide +kernel
theorem dX10_noteOn_15 : decode cX10_noteOn 15 = .ok (.ldc 226, 2) := by decide +kernel
theorem dX10_noteOn_17 : decode cX10_noteOn 17 = .ok (.invokestatic 98, 3) := by decide +kernel
theorem dX10_noteOn_20 : decode cX10_noteOn 20 = .ok (.ifCond .ne 7, 3) := by decide +kernel
theorem dX10_noteOn_23 : decode cX10_noteOn 23 = .ok (.iconst 2, 1) := by decide +kernel
theorem dX10_noteOn_24 : decode cX10_noteOn 24 = .ok (.goto 4, 3) := by decide +kernel
theorem dX10_noteOn_27 : decode cX10_noteOn 27 = .ok (.iconst 0, 1) := by decide +kernel
theorem dX10_noteOn_28 : decode cX10_noteOn 28 = .ok (.putfield 86, 3) := by decide +kernel
theorem dX10_noteOn_31 : decode cX10_noteOn 31 = .ok (.aload_n 0, 1) := by decide +kernel
theorem dX10_noteOn_32 : decode cX10_noteOn 32 = .ok (.getfield 86, 3) := by decide +kernel
theorem dX10_noteOn_35 : decode cX10_noteOn 35 = .ok (.ifCond .le 5, 3) := by decide +kernel
theorem dX10_noteOn_38 : decode cX10_noteOn 38 = .ok (.iconst 0, 1) := by decide +kernel
theorem dX10_noteOn_39 : decode cX10_noteOn 39 = .ok (.ireturn, 1) := by decide +kernel
theorem dX10_noteOn_40 : decode cX10_noteOn 40 = .ok (.aload_n 0, 1) := by decide +kernel
theorem dX10_noteOn_41 : decode cX10_noteOn 41 = .ok (.invokevirtual 217, 3) := by decide +kernel
theorem dX10_noteOn_44 : decode cX10_noteOn 44 = .ok (.iconst 0, 1) := by decide +kernel
theorem dX10_noteOn_45 : decode cX10_noteOn 45 = .ok (.istore_n 3, 1) := by decide +kernel
theorem dX10_noteOn_46 : decode cX10_noteOn 46 = .ok (.iload_n 3, 1) := by decide +kernel
theorem dX10_noteOn_47 : decode cX10_noteOn 47 = .ok (.aload_n 0, 1) := by decide +kernel
theorem dX10_noteOn_48 : decode cX10_noteOn 48 = .ok (.getfield 176, 3) := by decide +kernel
theorem dX10_noteOn_51 : decode cX10_noteOn 51 = .ok (.if_icmp .ge 30, 3) := by decide +kernel
theorem dX10_noteOn_81 : decode cX10_noteOn 81 = .ok (.aload_n 0, 1) := by decide +kernel
theorem dX10_noteOn_82 : decode cX10_noteOn 82 = .ok (.iconst 3, 1) := by decide +kernel
theorem dX10_noteOn_83 : decode cX10_noteOn 83 = .ok (.invokevirtual 144, 3) := by decide +kernel
theorem dX10_noteOn_86 : decode cX10_noteOn 86 = .ok (.ireturn, 1) := by decide +kernel
theorem dX10_polyphony_0 : decode cX10_polyphony 0 = .ok (.aload_n 0, 1) := by decide +kernel
theorem dX10_polyphony_1 : decode cX10_polyphony 1 = .ok (.iconst 0, 1) := by decide +kernel
theorem dX10_polyphony_2 : decode cX10_polyphony 2 = .ok (.putfield 86, 3) := by decide +kernel
theorem dX10_polyphony_5 : decode cX10_polyphony 5 = .ok (.aload_n 0, 1) := by decide +kernel
theorem dX10_polyphony_6 : decode cX10_polyphony 6 = .ok (.invokevirtual 217, 3) := by decide +kernel
theorem dX10_polyphony_9 : decode cX10_polyphony 9 = .ok (.iconst 0, 1) := by decide +kernel
theorem dX10_polyphony_10 : decode cX10_polyphony 10 = .ok (.istore_n 1, 1) := by decide +kernel
theorem dX10_polyphony_11 : decode cX10_polyphony 11 = .ok (.iconst 0, 1) := by decide +kernel
theorem dX10_polyphony_12 : decode cX10_polyphony 12 = .ok (.istore_n 2, 1) := by decide +kernel
theorem dX10_polyphony_13 : decode cX10_polyphony 13 = .ok (.iload_n 2, 1) := by decide +kernel
theorem dX10_polyphony_14 : decode cX10_polyphony 14 = .ok (.aload_n 0, 1) := by decide +kernel
theorem dX10_polyphony_15 : decode cX10_polyphony 15 = .ok (.getfield 176, 3) := by decide +kernel
theorem dX10_polyphony_18 : decode cX10_polyphony 18 = .ok (.if_icmp .ge 58, 3) := by decide +kernel
theorem dX10_polyphony_76 : decode cX10_polyphony 76 = .ok (.iload_n 1, 1) := by decide +kernel
theorem dX10_polyphony_77 : decode cX10_polyphony 77 = .ok (.ireturn, 1) := by decide +kernel
theorem dX10_putAside_0 : decode cX10_putAside 0 = .ok (.iconst 0, 1) := by decide +kernel
theorem dX10_putAside_1 : decode cX10_putAside 1 = .ok (.istore_n 1, 1) := by decide +kernel
theorem dX10_putAside_2 : decode cX10_putAside 2 = .ok (.iload_n 1, 1) := by decide +kernel
theorem dX10_putAside_3 : decode cX10_putAside 3 = .ok (.sipush 497, 3) := by decide +kernel
theorem dX10_putAside_6 : decode cX10_putAside 6 = .ok (.if_icmp .ge 21, 3) := by decide +kernel
theorem dX10_putAside_9 : decode cX10_putAside 9 = .ok (.aload_n 0, 1) := by decide +kernel
theorem dX10_putAside_10 : decode cX10_putAside 10 = .ok (.getfield 16, 3) := by decide +kernel
theorem dX10_putAside_13 : decode cX10_putAside 13 = .ok (.iload_n 1, 1) := by decide +kernel
theorem dX10_putAside_14 : decode cX10_putAside 14 = .ok (.aload_n 0, 1) := by decide +kernel
theorem dX10_putAside_15 : decode cX10_putAside 15 = .ok (.getfield 9, 3) := by decide +kernel
theorem dX10_putAside_18 : decode cX10_putAside 18 = .ok (.iload_n 1, 1) := by decide +kernel
theorem dX10_putAside_19 : decode cX10_putAside 19 = .ok (.iaload, 1) := by decide +kernel
theorem dX10_putAside_20 : decode cX10_putAside 20 = .ok (.iastore, 1) := by decide +kernel
theorem dX10_putAside_21 : decode cX10_putAside 21 = .ok (.iinc 1 1, 3) := by decide +kernel
theorem dX10_putAside_24 : decode cX10_putAside 24 = .ok (.goto (-22), 3) := by decide +kernel
theorem dX10_putAside_27 : decode cX10_putAside 27 = .ok (.return_, 1) := by decide +kernel
theorem dX10_refuse_0 : decode cX10_refuse 0 = .ok (.aload_n 0, 1) := by decide +kernel
theorem dX10_refuse_1 : decode cX10_refuse 1 = .ok (.iload_n 1, 1) := by decide +kernel
theorem dX10_refuse_2 : decode cX10_refuse 2 = .ok (.putfield 86, 3) := by decide +kernel
theorem dX10_refuse_5 : decode cX10_refuse 5 = .ok (.iconst 0, 1) := by decide +kernel
theorem dX10_refuse_6 : decode cX10_refuse 6 = .ok (.ireturn, 1) := by decide +kernel
theorem dX10_save_0 : decode cX10_save 0 = .ok (.aload_n 0, 1) := by decide +kernel
theorem dX10_save_1 : decode cX10_save 1 = .ok (.iconst 0, 1) := by decide +kernel
theorem dX10_save_2 : decode cX10_save 2 = .ok (.putfield 86, 3) := by decide +kernel
theorem dX10_save_5 : decode cX10_save 5 = .ok (.iconst 0, 1) := by decide +kernel
theorem dX10_save_6 : decode cX10_save 6 = .ok (.istore_n 1, 1) := by decide +kernel
theorem dX10_save_7 : decode cX10_save 7 = .ok (.iload_n 1, 1) := by decide +kernel
theorem dX10_save_8 : decode cX10_save 8 = .ok (.sipush 497, 3) := by decide +kernel
theorem dX10_save_11 : decode cX10_save 11 = .ok (.if_icmp .ge 21, 3) := by decide +kernel
theorem dX10_save_14 : decode cX10_save 14 = .ok (.aload_n 0, 1) := by decide +kernel
theorem dX10_save_15 : decode cX10_save 15 = .ok (.getfield 13, 3) := by decide +kernel
theorem dX10_save_18 : decode cX10_save 18 = .ok (.iload_n 1, 1) := by decide +kernel
theorem dX10_save_19 : decode cX10_save 19 = .ok (.aload_n 0, 1) := by decide +kernel
theorem dX10_save_20 : decode cX10_save 20 = .ok (.getfield 9, 3) := by decide +kernel
theorem dX10_save_23 : decode cX10_save 23 = .ok (.iload_n 1, 1) := by decide +kernel
theorem dX10_save_24 : decode cX10_save 24 = .ok (.iaload, 1) := by decide +kernel
theorem dX10_save_25 : decode cX10_save 25 = .ok (.iastore, 1) := by decide +kernel
theorem dX10_save_26 : decode cX10_save 26 = .ok (.iinc 1 1, 3) := by decide +kernel
theorem dX10_save_29 : decode cX10_save 29 = .ok (.goto (-22), 3) := by decide +kernel
theorem dX10_save_32 : decode cX10_save 32 = .ok (.aload_n 0, 1) := by decide +kernel
theorem dX10_save_33 : decode cX10_save 33 = .ok (.iconst 1, 1) := by decide +kernel
theorem dX10_save_34 : decode cX10_save 34 = .ok (.putfield 289, 3) := by decide +kernel
theorem dX10_save_37 : decode cX10_save 37 = .ok (.aload_n 0, 1) := by decide +kernel
theorem dX10_save_38 : decode cX10_save 38 = .ok (.getfield 9, 3) := by decide +kernel
theorem dX10_save_41 : decode cX10_save 41 = .ok (.sipush 392, 3) := by decide +kernel
theorem dX10_save_44 : decode cX10_save 44 = .ok (.iaload, 1) := by decide +kernel
theorem dX10_save_45 : decode cX10_save 45 = .ok (.ireturn, 1) := by decide +kernel
theorem dX10_setSwing_0 : decode cX10_setSwing 0 = .ok (.aload_n 0, 1) := by decide +kernel
theorem dX10_setSwing_1 : decode cX10_setSwing 1 = .ok (.sipush 494, 3) := by decide +kernel
theorem dX10_setSwing_4 : decode cX10_setSwing 4 = .ok (.iload_n 1, 1) := by decide +kernel
theorem dX10_setSwing_5 : decode cX10_setSwing 5 = .ok (.iconst 0, 1) := by decide +kernel
theorem dX10_setSwing_6 : decode cX10_setSwing 6 = .ok (.bipush 50, 2) := by decide +kernel
theorem dX10_setSwing_8 : decode cX10_setSwing 8 = .ok (.iconst 1, 1) := by decide +kernel
theorem dX10_setSwing_9 : decode cX10_setSwing 9 = .ok (.invokevirtual 223, 3) := by decide +kernel
theorem dX10_setSwing_12 : decode cX10_setSwing 12 = .ok (.ireturn, 1) := by decide +kernel
theorem dX10_sets_0 : decode cX10_sets 0 = .ok (.aload_n 0, 1) := by decide +kernel
theorem dX10_sets_1 : decode cX10_sets 1 = .ok (.iload_n 2, 1) := by decide +kernel
theorem dX10_sets_2 : decode cX10_sets 2 = .ok (.iload_n 3, 1) := by decide +kernel
theorem dX10_sets_3 : decode cX10_sets 3 = .ok (.iload 4, 2) := by decide +kernel
theorem dX10_sets_5 : decode cX10_sets 5 = .ok (.invokestatic 98, 3) := by decide +kernel
theorem dX10_sets_8 : decode cX10_sets 8 = .ok (.ifCond .eq 7, 3) := by decide +kernel
theorem dX10_sets_11 : decode cX10_sets 11 = .ok (.iconst 0, 1) := by decide +kernel
theorem dX10_sets_12 : decode cX10_sets 12 = .ok (.goto 5, 3) := by decide +kernel
theorem dX10_sets_15 : decode cX10_sets 15 = .ok (.iload 5, 2) := by decide +kernel
theorem dX10_sets_17 : decode cX10_sets 17 = .ok (.putfield 86, 3) := by decide +kernel
theorem dX10_sets_20 : decode cX10_sets 20 = .ok (.aload_n 0, 1) := by decide +kernel
theorem dX10_sets_21 : decode cX10_sets 21 = .ok (.getfield 86, 3) := by decide +kernel
theorem dX10_sets_24 : decode cX10_sets 24 = .ok (.ifCond .le 5, 3) := by decide +kernel
theorem dX10_sets_27 : decode cX10_sets 27 = .ok (.iconst 0, 1) := by decide +kernel
theorem dX10_sets_28 : decode cX10_sets 28 = .ok (.ireturn, 1) := by decide +kernel
theorem dX10_sets_29 : decode cX10_sets 29 = .ok (.aload_n 0, 1) := by decide +kernel
theorem dX10_sets_30 : decode cX10_sets 30 = .ok (.invokevirtual 151, 3) := by decide +kernel
theorem dX10_sets_33 : decode cX10_sets 33 = .ok (.aload_n 0, 1) := by decide +kernel
theorem dX10_sets_34 : decode cX10_sets 34 = .ok (.getfield 9, 3) := by decide +kernel
theorem dX10_sets_37 : decode cX10_sets 37 = .ok (.iload_n 1, 1) := by decide +kernel
theorem dX10_sets_38 : decode cX10_sets 38 = .ok (.iaload, 1) := by decide +kernel
theorem dX10_sets_39 : decode cX10_sets 39 = .ok (.istore 6, 2) := by decide +kernel
theorem dX10_sets_41 : decode cX10_sets 41 = .ok (.aload_n 0, 1) := by decide +kernel
theorem dX10_sets_42 : decode cX10_sets 42 = .ok (.getfield 9, 3) := by decide +kernel
theorem dX10_sets_45 : decode cX10_sets 45 = .ok (.iload_n 1, 1) := by decide +kernel
theorem dX10_sets_46 : decode cX10_sets 46 = .ok (.iload_n 2, 1) := by decide +kernel
theorem dX10_sets_47 : decode cX10_sets 47 = .ok (.iastore, 1) := by decide +kernel
theorem dX10_sets_48 : decode cX10_sets 48 = .ok (.iload 6, 2) := by decide +kernel
theorem dX10_sets_50 : decode cX10_sets 50 = .ok (.ireturn, 1) := by decide +kernel
theorem dX10_thrown_0 : decode cX10_thrown 0 = .ok (.aload_n 0, 1) := by decide +kernel
theorem dX10_thrown_1 : decode cX10_thrown 1 = .ok (.getfield 86, 3) := by decide +kernel
theorem dX10_thrown_4 : decode cX10_thrown 4 = .ok (.ireturn, 1) := by decide +kernel
theorem dX10_tickAt_0 : decode cX10_tickAt 0 = .ok (.aload_n 0, 1) := by decide +kernel
theorem dX10_tickAt_1 : decode cX10_tickAt 1 = .ok (.iload_n 1, 1) := by decide +kernel
theorem dX10_tickAt_2 : decode cX10_tickAt 2 = .ok (.iconst 0, 1) := by decide +kernel
theorem dX10_tickAt_3 : decode cX10_tickAt 3 = .ok (.ldc 226, 2) := by decide +kernel
theorem dX10_tickAt_5 : decode cX10_tickAt 5 = .ok (.invokestatic 98, 3) := by decide +kernel
theorem dX10_tickAt_8 : decode cX10_tickAt 8 = .ok (.ifCond .eq 7, 3) := by decide +kernel
theorem dX10_tickAt_11 : decode cX10_tickAt 11 = .ok (.iconst 0, 1) := by decide +kernel
theorem dX10_tickAt_12 : decode cX10_tickAt 12 = .ok (.goto 4, 3) := by decide +kernel
theorem dX10_tickAt_15 : decode cX10_tickAt 15 = .ok (.iconst 1, 1) := by decide +kernel
theorem dX10_tickAt_16 : decode cX10_tickAt 16 = .ok (.putfield 86, 3) := by decide +kernel
theorem dX10_tickAt_19 : decode cX10_tickAt 19 = .ok (.aload_n 0, 1) := by decide +kernel
theorem dX10_tickAt_20 : decode cX10_tickAt 20 = .ok (.getfield 86, 3) := by decide +kernel
theorem dX10_tickAt_23 : decode cX10_tickAt 23 = .ok (.ifCond .le 5, 3) := by decide +kernel
theorem dX10_tickAt_26 : decode cX10_tickAt 26 = .ok (.iconst 0, 1) := by decide +kernel
theorem dX10_tickAt_27 : decode cX10_tickAt 27 = .ok (.ireturn, 1) := by decide +kernel
theorem dX10_tickAt_28 : decode cX10_tickAt 28 = .ok (.iconst 0, 1) := by decide +kernel
theorem dX10_tickAt_29 : decode cX10_tickAt 29 = .ok (.istore_n 2, 1) := by decide +kernel
theorem dX10_tickAt_30 : decode cX10_tickAt 30 = .ok (.sipush 30000, 3) := by decide +kernel
theorem dX10_tickAt_33 : decode cX10_tickAt 33 = .ok (.istore_n 3, 1) := by decide +kernel
theorem dX10_tickAt_34 : decode cX10_tickAt 34 = .ok (.iload_n 2, 1) := by decide +kernel
theorem dX10_tickAt_35 : decode cX10_tickAt 35 = .ok (.iload_n 3, 1) := by decide +kernel
theorem dX10_tickAt_36 : decode cX10_tickAt 36 = .ok (.if_icmp .ge 37, 3) := by decide +kernel
theorem dX10_tickAt_39 : decode cX10_tickAt 39 = .ok (.iload_n 2, 1) := by decide +kernel
theorem dX10_tickAt_40 : decode cX10_tickAt 40 = .ok (.iload_n 3, 1) := by decide +kernel
theorem dX10_tickAt_41 : decode cX10_tickAt 41 = .ok (.iadd, 1) := by decide +kernel
theorem dX10_tickAt_42 : decode cX10_tickAt 42 = .ok (.iconst 1, 1) := by decide +kernel
theorem dX10_tickAt_43 : decode cX10_tickAt 43 = .ok (.iadd, 1) := by decide +kernel
theorem dX10_tickAt_44 : decode cX10_tickAt 44 = .ok (.iconst 2, 1) := by decide +kernel
theorem dX10_tickAt_45 : decode cX10_tickAt 45 = .ok (.idiv, 1) := by decide +kernel
theorem dX10_tickAt_46 : decode cX10_tickAt 46 = .ok (.istore 4, 2) := by decide +kernel
theorem dX10_tickAt_48 : decode cX10_tickAt 48 = .ok (.aload_n 0, 1) := by decide +kernel
theorem dX10_tickAt_49 : decode cX10_tickAt 49 = .ok (.iload 4, 2) := by decide +kernel
theorem dX10_tickAt_51 : decode cX10_tickAt 51 = .ok (.iconst 1, 1) := by decide +kernel
theorem dX10_tickAt_52 : decode cX10_tickAt 52 = .ok (.invokevirtual 182, 3) := by decide +kernel
theorem dX10_tickAt_55 : decode cX10_tickAt 55 = .ok (.iload_n 1, 1) := by decide +kernel
theorem dX10_tickAt_56 : decode cX10_tickAt 56 = .ok (.if_icmp .gt 9, 3) := by decide +kernel
theorem dX10_tickAt_59 : decode cX10_tickAt 59 = .ok (.iload 4, 2) := by decide +kernel
theorem dX10_tickAt_61 : decode cX10_tickAt 61 = .ok (.istore_n 2, 1) := by decide +kernel
theorem dX10_tickAt_62 : decode cX10_tickAt 62 = .ok (.goto 8, 3) := by decide +kernel
theorem dX10_tickAt_65 : decode cX10_tickAt 65 = .ok (.iload 4, 2) := by decide +kernel
theorem dX10_tickAt_67 : decode cX10_tickAt 67 = .ok (.iconst 1, 1) := by decide +kernel
theorem dX10_tickAt_68 : decode cX10_tickAt 68 = .ok (.isub, 1) := by decide +kernel
theorem dX10_tickAt_69 : decode cX10_tickAt 69 = .ok (.istore_n 3, 1) := by decide +kernel
theorem dX10_tickAt_70 : decode cX10_tickAt 70 = .ok (.goto (-36), 3) := by decide +kernel
theorem dX10_tickAt_73 : decode cX10_tickAt 73 = .ok (.iload_n 2, 1) := by decide +kernel
theorem dX10_tickAt_74 : decode cX10_tickAt 74 = .ok (.ireturn, 1) := by decide +kernel
theorem dX10_time_0 : decode cX10_time 0 = .ok (.iconst 0, 1) := by decide +kernel
theorem dX10_time_1 : decode cX10_time 1 = .ok (.istore_n 3, 1) := by decide +kernel
theorem dX10_time_2 : decode cX10_time 2 = .ok (.iconst 0, 1) := by decide +kernel
theorem dX10_time_3 : decode cX10_time 3 = .ok (.istore 4, 2) := by decide +kernel
theorem dX10_time_5 : decode cX10_time 5 = .ok (.iload 4, 2) := by decide +kernel
theorem dX10_time_7 : decode cX10_time 7 = .ok (.aload_n 0, 1) := by decide +kernel
theorem dX10_time_8 : decode cX10_time 8 = .ok (.getfield 9, 3) := by decide +kernel
theorem dX10_time_11 : decode cX10_time 11 = .ok (.sipush 453, 3) := by decide +kernel
theorem dX10_time_14 : decode cX10_time 14 = .ok (.iaload, 1) := by decide +kernel
theorem dX10_time_15 : decode cX10_time 15 = .ok (.if_icmp .ge 92, 3) := by decide +kernel
theorem dX10_time_18 : decode cX10_time 18 = .ok (.aload_n 0, 1) := by decide +kernel
theorem dX10_time_19 : decode cX10_time 19 = .ok (.getfield 9, 3) := by decide +kernel
theorem dX10_time_22 : decode cX10_time 22 = .ok (.sipush 454, 3) := by decide +kernel
theorem dX10_time_25 : decode cX10_time 25 = .ok (.iconst 2, 1) := by decide +kernel
theorem dX10_time_26 : decode cX10_time 26 = .ok (.iload 4, 2) := by decide +kernel
theorem dX10_time_28 : decode cX10_time 28 = .ok (.imul, 1) := by decide +kernel
theorem dX10_time_29 : decode cX10_time 29 = .ok (.iadd, 1) := by decide +kernel
theorem dX10_time_30 : decode cX10_time 30 = .ok (.iaload, 1) := by decide +kernel
theorem dX10_time_31 : decode cX10_time 31 = .ok (.istore 5, 2) := by decide +kernel
theorem dX10_time_33 : decode cX10_time 33 = .ok (.iload 4, 2) := by decide +kernel
theorem dX10_time_35 : decode cX10_time 35 = .ok (.iconst 1, 1) := by decide +kernel
theorem dX10_time_36 : decode cX10_time 36 = .ok (.iadd, 1) := by decide +kernel
theorem dX10_time_37 : decode cX10_time 37 = .ok (.aload_n 0, 1) := by decide +kernel
theorem dX10_time_38 : decode cX10_time 38 = .ok (.getfield 9, 3) := by decide +kernel
theorem dX10_time_41 : decode cX10_time 41 = .ok (.sipush 453, 3) := by decide +kernel
theorem dX10_time_44 : decode cX10_time 44 = .ok (.iaload, 1) := by decide +kernel
theorem dX10_time_45 : decode cX10_time 45 = .ok (.if_icmp .ge 25, 3) := by decide +kernel
theorem dX10_time_70 : decode cX10_time 70 = .ok (.iload_n 1, 1) := by decide +kernel
theorem dX10_time_71 : decode cX10_time 71 = .ok (.istore 6, 2) := by decide +kernel
theorem dX10_time_73 : decode cX10_time 73 = .ok (.iload_n 3, 1) := by decide +kernel
theorem dX10_time_74 : decode cX10_time 74 = .ok (.iconst 0, 1) := by decide +kernel
theorem dX10_time_75 : decode cX10_time 75 = .ok (.iload 6, 2) := by decide +kernel
theorem dX10_time_77 : decode cX10_time 77 = .ok (.iload 5, 2) := by decide +kernel
theorem dX10_time_79 : decode cX10_time 79 = .ok (.isub, 1) := by decide +kernel
theorem dX10_time_80 : decode cX10_time 80 = .ok (.invokestatic 154, 3) := by decide +kernel
theorem dX10_time_83 : decode cX10_time 83 = .ok (.aload_n 0, 1) := by decide +kernel
theorem dX10_time_84 : decode cX10_time 84 = .ok (.getfield 9, 3) := by decide +kernel
theorem dX10_time_87 : decode cX10_time 87 = .ok (.sipush 454, 3) := by decide +kernel
theorem dX10_time_90 : decode cX10_time 90 = .ok (.iconst 2, 1) := by decide +kernel
theorem dX10_time_91 : decode cX10_time 91 = .ok (.iload 4, 2) := by decide +kernel
theorem dX10_time_93 : decode cX10_time 93 = .ok (.imul, 1) := by decide +kernel
theorem dX10_time_94 : decode cX10_time 94 = .ok (.iadd, 1) := by decide +kernel
theorem dX10_time_95 : decode cX10_time 95 = .ok (.iconst 1, 1) := by decide +kernel
theorem dX10_time_96 : decode cX10_time 96 = .ok (.iadd, 1) := by decide +kernel
theorem dX10_time_97 : decode cX10_time 97 = .ok (.iaload, 1) := by decide +kernel
theorem dX10_time_98 : decode cX10_time 98 = .ok (.imul, 1) := by decide +kernel
theorem dX10_time_99 : decode cX10_time 99 = .ok (.iadd, 1) := by decide +kernel
theorem dX10_time_100 : decode cX10_time 100 = .ok (.istore_n 3, 1) := by decide +kernel
theorem dX10_time_101 : decode cX10_time 101 = .ok (.iinc 4 1, 3) := by decide +kernel
theorem dX10_time_104 : decode cX10_time 104 = .ok (.goto (-99), 3) := by decide +kernel
theorem dX10_time_107 : decode cX10_time 107 = .ok (.iload_n 2, 1) := by decide +kernel
theorem dX10_time_108 : decode cX10_time 108 = .ok (.ifCond .ne 9, 3) := by decide +kernel
theorem dX10_time_117 : decode cX10_time 117 = .ok (.iload_n 3, 1) := by decide +kernel
theorem dX10_time_118 : decode cX10_time 118 = .ok (.goto 22, 3) := by decide +kernel
theorem dX10_time_140 : decode cX10_time 140 = .ok (.ireturn, 1) := by decide +kernel
theorem dX1_init_0 : decode cX1_init 0 = .ok (.aload_n 0, 1) := by decide +kernel
theorem dX1_init_1 : decode cX1_init 1 = .ok (.invokespecial 1, 3) := by decide +kernel
theorem dX1_init_4 : decode cX1_init 4 = .ok (.aload_n 0, 1) := by decide +kernel
theorem dX1_init_5 : decode cX1_init 5 = .ok (.iconst 0, 1) := by decide +kernel
theorem dX1_init_6 : decode cX1_init 6 = .ok (.iload_n 1, 1) := by decide +kernel
theorem dX1_init_7 : decode cX1_init 7 = .ok (.invokestatic 7, 3) := by decide +kernel
theorem dX1_init_10 : decode cX1_init 10 = .ok (.newarray .long, 2) := by decide +kernel
theorem dX1_init_12 : decode cX1_init 12 = .ok (.putfield 13, 3) := by decide +kernel
theorem dX1_init_15 : decode cX1_init 15 = .ok (.return_, 1) := by decide +kernel
theorem dX1_sort_0 : decode cX1_sort 0 = .ok (.iload_n 2, 1) := by decide +kernel
theorem dX1_sort_1 : decode cX1_sort 1 = .ok (.aload_n 1, 1) := by decide +kernel
theorem dX1_sort_2 : decode cX1_sort 2 = .ok (.arraylength, 1) := by decide +kernel
theorem dX1_sort_3 : decode cX1_sort 3 = .ok (.aload_n 0, 1) := by decide +kernel
theorem dX1_sort_4 : decode cX1_sort 4 = .ok (.getfield 13, 3) := by decide +kernel
theorem dX1_sort_7 : decode cX1_sort 7 = .ok (.arraylength, 1) := by decide +kernel
theorem dX1_sort_8 : decode cX1_sort 8 = .ok (.invokestatic 19, 3) := by decide +kernel
theorem dX1_sort_11 : decode cX1_sort 11 = .ok (.invokestatic 19, 3) := by decide +kernel
theorem dX1_sort_14 : decode cX1_sort 14 = .ok (.istore_n 3, 1) := by decide +kernel
theorem dX1_sort_15 : decode cX1_sort 15 = .ok (.iconst 1, 1) := by decide +kernel
theorem dX1_sort_16 : decode cX1_sort 16 = .ok (.istore 4, 2) := by decide +kernel
theorem dX1_sort_18 : decode cX1_sort 18 = .ok (.iload 4, 2) := by decide +kernel
theorem dX1_sort_20 : decode cX1_sort 20 = .ok (.iload_n 3, 1) := by decide +kernel
theorem dX1_sort_21 : decode cX1_sort 21 = .ok (.if_icmp .ge 59, 3) := by decide +kernel
theorem dX1_sort_80 : decode cX1_sort 80 = .ok (.return_, 1) := by decide +kernel
theorem dX2_empty_0 : decode cX2_empty 0 = .ok (.aload_n 0, 1) := by decide +kernel
theorem dX2_empty_1 : decode cX2_empty 1 = .ok (.iconst 0, 1) := by decide +kernel
theorem dX2_empty_2 : decode cX2_empty 2 = .ok (.putfield 7, 3) := by decide +kernel
theorem dX2_empty_5 : decode cX2_empty 5 = .ok (.return_, 1) := by decide +kernel
theorem dX2_init_0 : decode cX2_init 0 = .ok (.aload_n 0, 1) := by decide +kernel
theorem dX2_init_1 : decode cX2_init 1 = .ok (.invokespecial 1, 3) := by decide +kernel
theorem dX2_init_4 : decode cX2_init 4 = .ok (.aload_n 0, 1) := by decide +kernel
theorem dX2_init_5 : decode cX2_init 5 = .ok (.iconst 0, 1) := by decide +kernel
theorem dX2_init_6 : decode cX2_init 6 = .ok (.putfield 7, 3) := by decide +kernel
theorem dX2_init_9 : decode cX2_init 9 = .ok (.aload_n 0, 1) := by decide +kernel
theorem dX2_init_10 : decode cX2_init 10 = .ok (.iconst 0, 1) := by decide +kernel
theorem dX2_init_11 : decode cX2_init 11 = .ok (.iload_n 1, 1) := by decide +kernel
theorem dX2_init_12 : decode cX2_init 12 = .ok (.invokestatic 13, 3) := by decide +kernel
theorem dX2_init_15 : decode cX2_init 15 = .ok (.newarray .char, 2) := by decide +kernel
theorem dX2_init_17 : decode cX2_init 17 = .ok (.putfield 19, 3) := by decide +kernel
theorem dX2_init_20 : decode cX2_init 20 = .ok (.return_, 1) := by decide +kernel
theorem dX2_isFull_0 : decode cX2_isFull 0 = .ok (.aload_n 0, 1) := by decide +kernel
theorem dX2_isFull_1 : decode cX2_isFull 1 = .ok (.getfield 7, 3) := by decide +kernel
theorem dX2_isFull_4 : decode cX2_isFull 4 = .ok (.aload_n 0, 1) := by decide +kernel
theorem dX2_isFull_5 : decode cX2_isFull 5 = .ok (.getfield 19, 3) := by decide +kernel
theorem dX2_isFull_8 : decode cX2_isFull 8 = .ok (.arraylength, 1) := by decide +kernel
theorem dX2_isFull_9 : decode cX2_isFull 9 = .ok (.if_icmp .lt 7, 3) := by decide +kernel
theorem dX2_isFull_16 : decode cX2_isFull 16 = .ok (.iconst 0, 1) := by decide +kernel
theorem dX2_isFull_17 : decode cX2_isFull 17 = .ok (.ireturn, 1) := by decide +kernel
theorem dX2_put_0 : decode cX2_put 0 = .ok (.aload_n 0, 1) := by decide +kernel
theorem dX2_put_1 : decode cX2_put 1 = .ok (.getfield 7, 3) := by decide +kernel
theorem dX2_put_4 : decode cX2_put 4 = .ok (.ifCond .lt 35, 3) := by decide +kernel
theorem dX2_put_7 : decode cX2_put 7 = .ok (.aload_n 0, 1) := by decide +kernel
theorem dX2_put_8 : decode cX2_put 8 = .ok (.getfield 7, 3) := by decide +kernel
theorem dX2_put_11 : decode cX2_put 11 = .ok (.aload_n 0, 1) := by decide +kernel
theorem dX2_put_12 : decode cX2_put 12 = .ok (.getfield 19, 3) := by decide +kernel
theorem dX2_put_15 : decode cX2_put 15 = .ok (.arraylength, 1) := by decide +kernel
theorem dX2_put_16 : decode cX2_put 16 = .ok (.if_icmp .ge 23, 3) := by decide +kernel
theorem dX2_put_19 : decode cX2_put 19 = .ok (.aload_n 0, 1) := by decide +kernel
theorem dX2_put_20 : decode cX2_put 20 = .ok (.getfield 19, 3) := by decide +kernel
theorem dX2_put_23 : decode cX2_put 23 = .ok (.aload_n 0, 1) := by decide +kernel
theorem dX2_put_24 : decode cX2_put 24 = .ok (.getfield 7, 3) := by decide +kernel
theorem dX2_put_27 : decode cX2_put 27 = .ok (.iload_n 1, 1) := by decide +kernel
theorem dX2_put_28 : decode cX2_put 28 = .ok (.castore, 1) := by decide +kernel
theorem dX2_put_29 : decode cX2_put 29 = .ok (.aload_n 0, 1) := by decide +kernel
theorem dX2_put_30 : decode cX2_put 30 = .ok (.dup, 1) := by decide +kernel
theorem dX2_put_31 : decode cX2_put 31 = .ok (.getfield 7, 3) := by decide +kernel
theorem dX2_put_34 : decode cX2_put 34 = .ok (.iconst 1, 1) := by decide +kernel
theorem dX2_put_35 : decode cX2_put 35 = .ok (.iadd, 1) := by decide +kernel
theorem dX2_put_36 : decode cX2_put 36 = .ok (.putfield 7, 3) := by decide +kernel
theorem dX2_put_39 : decode cX2_put 39 = .ok (.return_, 1) := by decide +kernel
theorem dX2_size_0 : decode cX2_size 0 = .ok (.aload_n 0, 1) := by decide +kernel
theorem dX2_size_1 : decode cX2_size 1 = .ok (.getfield 7, 3) := by decide +kernel
theorem dX2_size_4 : decode cX2_size 4 = .ok (.ireturn, 1) := by decide +kernel
theorem dX3_copyFrom_0 : decode cX3_copyFrom 0 = .ok (.aload_n 1, 1) := by decide +kernel
theorem dX3_copyFrom_1 : decode cX3_copyFrom 1 = .ok (.getfield 9, 3) := by decide +kernel
theorem dX3_copyFrom_4 : decode cX3_copyFrom 4 = .ok (.aload_n 0, 1) := by decide +kernel
theorem dX3_copyFrom_5 : decode cX3_copyFrom 5 = .ok (.getfield 9, 3) := by decide +kernel
theorem dX3_copyFrom_8 : decode cX3_copyFrom 8 = .ok (.invokestatic 28, 3) := by decide +kernel
theorem dX3_copyFrom_11 : decode cX3_copyFrom 11 = .ok (.aload_n 1, 1) := by decide +kernel
theorem dX3_copyFrom_12 : decode cX3_copyFrom 12 = .ok (.getfield 15, 3) := by decide +kernel
theorem dX3_copyFrom_15 : decode cX3_copyFrom 15 = .ok (.aload_n 0, 1) := by decide +kernel
theorem dX3_copyFrom_16 : decode cX3_copyFrom 16 = .ok (.getfield 15, 3) := by decide +kernel
theorem dX3_copyFrom_19 : decode cX3_copyFrom 19 = .ok (.invokestatic 28, 3) := by decide +kernel
theorem dX3_copyFrom_22 : decode cX3_copyFrom 22 = .ok (.return_, 1) := by decide +kernel
theorem dX3_init_0 : decode cX3_init 0 = .ok (.aload_n 0, 1) := by decide +kernel
theorem dX3_init_1 : decode cX3_init 1 = .ok (.invokespecial 3, 3) := by decide +kernel
theorem dX3_init_4 : decode cX3_init 4 = .ok (.aload_n 0, 1) := by decide +kernel
theorem dX3_init_5 : decode cX3_init 5 = .ok (.sipush 384, 3) := by decide +kernel
theorem dX3_init_8 : decode cX3_init 8 = .ok (.newarray .int, 2) := by decide +kernel
theorem dX3_init_10 : decode cX3_init 10 = .ok (.putfield 9, 3) := by decide +kernel
theorem dX3_init_13 : decode cX3_init 13 = .ok (.aload_n 0, 1) := by decide +kernel
theorem dX3_init_14 : decode cX3_init 14 = .ok (.bipush 40, 2) := by decide +kernel
theorem dX3_init_16 : decode cX3_init 16 = .ok (.newarray .int, 2) := by decide +kernel
theorem dX3_init_18 : decode cX3_init 18 = .ok (.putfield 15, 3) := by decide +kernel
theorem dX3_init_21 : decode cX3_init 21 = .ok (.return_, 1) := by decide +kernel
theorem dX3_putFigure_0 : decode cX3_putFigure 0 = .ok (.iload_n 1, 1) := by decide +kernel
theorem dX3_putFigure_1 : decode cX3_putFigure 1 = .ok (.iconst 5, 1) := by decide +kernel
theorem dX3_putFigure_2 : decode cX3_putFigure 2 = .ok (.imul, 1) := by decide +kernel
theorem dX3_putFigure_3 : decode cX3_putFigure 3 = .ok (.iload_n 2, 1) := by decide +kernel
theorem dX3_putFigure_4 : decode cX3_putFigure 4 = .ok (.iadd, 1) := by decide +kernel
theorem dX3_putFigure_5 : decode cX3_putFigure 5 = .ok (.istore 4, 2) := by decide +kernel
theorem dX3_putFigure_7 : decode cX3_putFigure 7 = .ok (.iload 4, 2) := by decide +kernel
theorem dX3_putFigure_9 : decode cX3_putFigure 9 = .ok (.ifCond .lt 21, 3) := by decide +kernel
theorem dX3_putFigure_12 : decode cX3_putFigure 12 = .ok (.iload 4, 2) := by decide +kernel
theorem dX3_putFigure_14 : decode cX3_putFigure 14 = .ok (.aload_n 0, 1) := by decide +kernel
theorem dX3_putFigure_15 : decode cX3_putFigure 15 = .ok (.getfield 15, 3) := by decide +kernel
theorem dX3_putFigure_18 : decode cX3_putFigure 18 = .ok (.arraylength, 1) := by decide +kernel
theorem dX3_putFigure_19 : decode cX3_putFigure 19 = .ok (.if_icmp .ge 11, 3) := by decide +kernel
theorem dX3_putFigure_22 : decode cX3_putFigure 22 = .ok (.aload_n 0, 1) := by decide +kernel
theorem dX3_putFigure_23 : decode cX3_putFigure 23 = .ok (.getfield 15, 3) := by decide +kernel
theorem dX3_putFigure_26 : decode cX3_putFigure 26 = .ok (.iload 4, 2) := by decide +kernel
theorem dX3_putFigure_28 : decode cX3_putFigure 28 = .ok (.iload_n 3, 1) := by decide +kernel
theorem dX3_putFigure_29 : decode cX3_putFigure 29 = .ok (.iastore, 1) := by decide +kernel
theorem dX3_putFigure_30 : decode cX3_putFigure 30 = .ok (.return_, 1) := by decide +kernel
theorem dX3_reset_0 : decode cX3_reset 0 = .ok (.aload_n 0, 1) := by decide +kernel
theorem dX3_reset_1 : decode cX3_reset 1 = .ok (.getfield 15, 3) := by decide +kernel
theorem dX3_reset_4 : decode cX3_reset 4 = .ok (.iconst 0, 1) := by decide +kernel
theorem dX3_reset_5 : decode cX3_reset 5 = .ok (.invokestatic 18, 3) := by decide +kernel
theorem dX3_reset_8 : decode cX3_reset 8 = .ok (.iconst 0, 1) := by decide +kernel
theorem dX3_reset_9 : decode cX3_reset 9 = .ok (.istore_n 1, 1) := by decide +kernel
theorem dX3_reset_10 : decode cX3_reset 10 = .ok (.iload_n 1, 1) := by decide +kernel
theorem dX3_reset_11 : decode cX3_reset 11 = .ok (.bipush 8, 2) := by decide +kernel
theorem dX3_reset_13 : decode cX3_reset 13 = .ok (.if_icmp .ge 16, 3) := by decide +kernel
theorem dX3_reset_16 : decode cX3_reset 16 = .ok (.aload_n 0, 1) := by decide +kernel
theorem dX3_reset_17 : decode cX3_reset 17 = .ok (.iload_n 1, 1) := by decide +kernel
theorem dX3_reset_18 : decode cX3_reset 18 = .ok (.iconst 4, 1) := by decide +kernel
theorem dX3_reset_19 : decode cX3_reset 19 = .ok (.iconst 1, 1) := by decide +kernel
theorem dX3_reset_20 : decode cX3_reset 20 = .ok (.invokevirtual 24, 3) := by decide +kernel
theorem dX3_reset_23 : decode cX3_reset 23 = .ok (.iinc 1 1, 3) := by decide +kernel
theorem dX3_reset_26 : decode cX3_reset 26 = .ok (.goto (-16), 3) := by decide +kernel
theorem dX3_reset_29 : decode cX3_reset 29 = .ok (.return_, 1) := by decide +kernel
theorem dX4_init_0 : decode cX4_init 0 = .ok (.aload_n 0, 1) := by decide +kernel
theorem dX4_init_1 : decode cX4_init 1 = .ok (.invokespecial 3, 3) := by decide +kernel
theorem dX4_init_4 : decode cX4_init 4 = .ok (.aload_n 0, 1) := by decide +kernel
theorem dX4_init_5 : decode cX4_init 5 = .ok (.bipush 84, 2) := by decide +kernel
theorem dX4_init_7 : decode cX4_init 7 = .ok (.newarray .int, 2) := by decide +kernel
theorem dX4_init_9 : decode cX4_init 9 = .ok (.putfield 11, 3) := by decide +kernel
theorem dX4_init_12 : decode cX4_init 12 = .ok (.return_, 1) := by decide +kernel
theorem dX5_collectNotes_0 : decode cX5_collectNotes 0 = .ok (.aload_n 0, 1) := by decide +kernel
theorem dX5_collectNotes_1 : decode cX5_collectNotes 1 = .ok (.iconst 0, 1) := by decide +kernel
theorem dX5_collectNotes_2 : decode cX5_collectNotes 2 = .ok (.putfield 37, 3) := by decide +kernel
theorem dX5_collectNotes_5 : decode cX5_collectNotes 5 = .ok (.iconst 0, 1) := by decide +kernel
theorem dX5_collectNotes_6 : decode cX5_collectNotes 6 = .ok (.istore_n 2, 1) := by decide +kernel
theorem dX5_collectNotes_7 : decode cX5_collectNotes 7 = .ok (.iload_n 2, 1) := by decide +kernel
theorem dX5_collectNotes_8 : decode cX5_collectNotes 8 = .ok (.aload_n 1, 1) := by decide +kernel
theorem dX5_collectNotes_9 : decode cX5_collectNotes 9 = .ok (.invokevirtual 50, 3) := by decide +kernel
theorem dX5_collectNotes_12 : decode cX5_collectNotes 12 = .ok (.if_icmp .ge 15, 3) := by decide +kernel
theorem dX5_collectNotes_27 : decode cX5_collectNotes 27 = .ok (.return_, 1) := by decide +kernel
theorem dX5_init_0 : decode cX5_init 0 = .ok (.aload_n 0, 1) := by decide +kernel
theorem dX5_init_1 : decode cX5_init 1 = .ok (.invokespecial 3, 3) := by decide +kernel
theorem dX5_init_4 : decode cX5_init 4 = .ok (.aload_n 0, 1) := by decide +kernel
theorem dX5_init_5 : decode cX5_init 5 = .ok (.sipush 2700, 3) := by decide +kernel
theorem dX5_init_8 : decode cX5_init 8 = .ok (.newarray .int, 2) := by decide +kernel
theorem dX5_init_10 : decode cX5_init 10 = .ok (.putfield 9, 3) := by decide +kernel
theorem dX5_init_13 : decode cX5_init 13 = .ok (.aload_n 0, 1) := by decide +kernel
theorem dX5_init_14 : decode cX5_init 14 = .ok (.sipush 300, 3) := by decide +kernel
theorem dX5_init_17 : decode cX5_init 17 = .ok (.newarray .int, 2) := by decide +kernel
theorem dX5_init_19 : decode cX5_init 19 = .ok (.putfield 15, 3) := by decide +kernel
theorem dX5_init_22 : decode cX5_init 22 = .ok (.aload_n 0, 1) := by decide +kernel
theorem dX5_init_23 : decode cX5_init 23 = .ok (.sipush 300, 3) := by decide +kernel
theorem dX5_init_26 : decode cX5_init 26 = .ok (.newarray .int, 2) := by decide +kernel
theorem dX5_init_28 : decode cX5_init 28 = .ok (.putfield 18, 3) := by decide +kernel
theorem dX5_init_31 : decode cX5_init 31 = .ok (.aload_n 0, 1) := by decide +kernel
theorem dX5_init_32 : decode cX5_init 32 = .ok (.bipush 8, 2) := by decide +kernel
theorem dX5_init_34 : decode cX5_init 34 = .ok (.newarray .int, 2) := by decide +kernel
theorem dX5_init_36 : decode cX5_init 36 = .ok (.putfield 21, 3) := by decide +kernel
theorem dX5_init_39 : decode cX5_init 39 = .ok (.aload_n 0, 1) := by decide +kernel
theorem dX5_init_40 : decode cX5_init 40 = .ok (.sipush 300, 3) := by decide +kernel
theorem dX5_init_43 : decode cX5_init 43 = .ok (.newarray .long, 2) := by decide +kernel
theorem dX5_init_45 : decode cX5_init 45 = .ok (.putfield 24, 3) := by decide +kernel
theorem dX5_init_48 : decode cX5_init 48 = .ok (.aload_n 0, 1) := by decide +kernel
theorem dX5_init_49 : decode cX5_init 49 = .ok (.new 28, 3) := by decide +kernel
theorem dX5_init_52 : decode cX5_init 52 = .ok (.dup, 1) := by decide +kernel
theorem dX5_init_53 : decode cX5_init 53 = .ok (.sipush 300, 3) := by decide +kernel
theorem dX5_init_56 : decode cX5_init 56 = .ok (.invokespecial 30, 3) := by decide +kernel
theorem dX5_init_59 : decode cX5_init 59 = .ok (.putfield 33, 3) := by decide +kernel
theorem dX5_init_62 : decode cX5_init 62 = .ok (.return_, 1) := by decide +kernel
theorem dX5_noteCount_0 : decode cX5_noteCount 0 = .ok (.aload_n 0, 1) := by decide +kernel
theorem dX5_noteCount_1 : decode cX5_noteCount 1 = .ok (.getfield 37, 3) := by decide +kernel
theorem dX5_noteCount_4 : decode cX5_noteCount 4 = .ok (.ireturn, 1) := by decide +kernel
theorem dX5_noteWith_0 : decode cX5_noteWith 0 = .ok (.iconst 0, 1) := by decide +kernel
theorem dX5_noteWith_1 : decode cX5_noteWith 1 = .ok (.istore_n 3, 1) := by decide +kernel
theorem dX5_noteWith_2 : decode cX5_noteWith 2 = .ok (.iload_n 3, 1) := by decide +kernel
theorem dX5_noteWith_3 : decode cX5_noteWith 3 = .ok (.aload_n 0, 1) := by decide +kernel
theorem dX5_noteWith_4 : decode cX5_noteWith 4 = .ok (.getfield 37, 3) := by decide +kernel
theorem dX5_noteWith_7 : decode cX5_noteWith 7 = .ok (.if_icmp .ge 31, 3) := by decide +kernel
theorem dX5_noteWith_38 : decode cX5_noteWith 38 = .ok (.iconst (-1), 1) := by decide +kernel
theorem dX5_noteWith_39 : decode cX5_noteWith 39 = .ok (.ireturn, 1) := by decide +kernel
theorem dX5_numberNotes_0 : decode cX5_numberNotes 0 = .ok (.aload_n 0, 1) := by decide +kernel
theorem dX5_numberNotes_1 : decode cX5_numberNotes 1 = .ok (.getfield 33, 3) := by decide +kernel
theorem dX5_numberNotes_4 : decode cX5_numberNotes 4 = .ok (.aload_n 0, 1) := by decide +kernel
theorem dX5_numberNotes_5 : decode cX5_numberNotes 5 = .ok (.getfield 24, 3) := by decide +kernel
theorem dX5_numberNotes_8 : decode cX5_numberNotes 8 = .ok (.aload_n 0, 1) := by decide +kernel
theorem dX5_numberNotes_9 : decode cX5_numberNotes 9 = .ok (.getfield 37, 3) := by decide +kernel
theorem dX5_numberNotes_12 : decode cX5_numberNotes 12 = .ok (.invokevirtual 89, 3) := by decide +kernel
theorem dX5_numberNotes_15 : decode cX5_numberNotes 15 = .ok (.iconst 0, 1) := by decide +kernel
theorem dX5_numberNotes_16 : decode cX5_numberNotes 16 = .ok (.istore_n 2, 1) := by decide +kernel
theorem dX5_numberNotes_17 : decode cX5_numberNotes 17 = .ok (.iload_n 2, 1) := by decide +kernel
theorem dX5_numberNotes_18 : decode cX5_numberNotes 18 = .ok (.aload_n 0, 1) := by decide +kernel
theorem dX5_numberNotes_19 : decode cX5_numberNotes 19 = .ok (.getfield 37, 3) := by decide +kernel
theorem dX5_numberNotes_22 : decode cX5_numberNotes 22 = .ok (.if_icmp .ge 15, 3) := by decide +kernel
theorem dX5_numberNotes_37 : decode cX5_numberNotes 37 = .ok (.return_, 1) := by decide +kernel
theorem dX5_shareVoices_0 : decode cX5_shareVoices 0 = .ok (.aload_n 0, 1) := by decide +kernel
theorem dX5_shareVoices_1 : decode cX5_shareVoices 1 = .ok (.iconst 0, 1) := by decide +kernel
theorem dX5_shareVoices_2 : decode cX5_shareVoices 2 = .ok (.putfield 41, 3) := by decide +kernel
theorem dX5_shareVoices_5 : decode cX5_shareVoices 5 = .ok (.aload_n 0, 1) := by decide +kernel
theorem dX5_shareVoices_6 : decode cX5_shareVoices 6 = .ok (.iconst 0, 1) := by decide +kernel
theorem dX5_shareVoices_7 : decode cX5_shareVoices 7 = .ok (.putfield 44, 3) := by decide +kernel
theorem dX5_shareVoices_10 : decode cX5_shareVoices 10 = .ok (.aload_n 0, 1) := by decide +kernel
theorem dX5_shareVoices_11 : decode cX5_shareVoices 11 = .ok (.iconst 0, 1) := by decide +kernel
theorem dX5_shareVoices_12 : decode cX5_shareVoices 12 = .ok (.putfield 47, 3) := by decide +kernel
theorem dX5_shareVoices_15 : decode cX5_shareVoices 15 = .ok (.aload_n 0, 1) := by decide +kernel
theorem dX5_shareVoices_16 : decode cX5_shareVoices 16 = .ok (.getfield 21, 3) := by decide +kernel
theorem dX5_shareVoices_19 : decode cX5_shareVoices 19 = .ok (.iconst (-1), 1) := by decide +kernel
theorem dX5_shareVoices_20 : decode cX5_shareVoices 20 = .ok (.invokestatic 136, 3) := by decide +kernel
theorem dX5_shareVoices_23 : decode cX5_shareVoices 23 = .ok (.aload_n 0, 1) := by decide +kernel
theorem dX5_shareVoices_24 : decode cX5_shareVoices 24 = .ok (.getfield 15, 3) := by decide +kernel
theorem dX5_shareVoices_27 : decode cX5_shareVoices 27 = .ok (.iconst (-1), 1) := by decide +kernel
theorem dX5_shareVoices_28 : decode cX5_shareVoices 28 = .ok (.invokestatic 136, 3) := by decide +kernel
theorem dX5_shareVoices_31 : decode cX5_shareVoices 31 = .ok (.iconst 0, 1) := by decide +kernel
theorem dX5_shareVoices_32 : decode cX5_shareVoices 32 = .ok (.istore_n 2, 1) := by decide +kernel
theorem dX5_shareVoices_33 : decode cX5_shareVoices 33 = .ok (.iload_n 2, 1) := by decide +kernel
theorem dX5_shareVoices_34 : decode cX5_shareVoices 34 = .ok (.aload_n 0, 1) := by decide +kernel
theorem dX5_shareVoices_35 : decode cX5_shareVoices 35 = .ok (.getfield 37, 3) := by decide +kernel
theorem dX5_shareVoices_38 : decode cX5_shareVoices 38 = .ok (.if_icmp .ge 20, 3) := by decide +kernel
theorem dX5_shareVoices_58 : decode cX5_shareVoices 58 = .ok (.aload_n 0, 1) := by decide +kernel
theorem dX5_shareVoices_59 : decode cX5_shareVoices 59 = .ok (.getfield 33, 3) := by decide +kernel
theorem dX5_shareVoices_62 : decode cX5_shareVoices 62 = .ok (.aload_n 0, 1) := by decide +kernel
theorem dX5_shareVoices_63 : decode cX5_shareVoices 63 = .ok (.getfield 24, 3) := by decide +kernel
theorem dX5_shareVoices_66 : decode cX5_shareVoices 66 = .ok (.aload_n 0, 1) := by decide +kernel
theorem dX5_shareVoices_67 : decode cX5_shareVoices 67 = .ok (.getfield 37, 3) := by decide +kernel
theorem dX5_shareVoices_70 : decode cX5_shareVoices 70 = .ok (.invokevirtual 89, 3) := by decide +kernel
theorem dX5_shareVoices_73 : decode cX5_shareVoices 73 = .ok (.iconst 0, 1) := by decide +kernel
theorem dX5_shareVoices_74 : decode cX5_shareVoices 74 = .ok (.istore_n 2, 1) := by decide +kernel
theorem dX5_shareVoices_75 : decode cX5_shareVoices 75 = .ok (.iload_n 2, 1) := by decide +kernel
theorem dX5_shareVoices_76 : decode cX5_shareVoices 76 = .ok (.aload_n 0, 1) := by decide +kernel
theorem dX5_shareVoices_77 : decode cX5_shareVoices 77 = .ok (.getfield 37, 3) := by decide +kernel
theorem dX5_shareVoices_80 : decode cX5_shareVoices 80 = .ok (.if_icmp .ge 67, 3) := by decide +kernel
theorem dX5_shareVoices_147 : decode cX5_shareVoices 147 = .ok (.return_, 1) := by decide +kernel
theorem dX6_clipCount_0 : decode cX6_clipCount 0 = .ok (.aload_n 0, 1) := by decide +kernel
theorem dX6_clipCount_1 : decode cX6_clipCount 1 = .ok (.getfield 37, 3) := by decide +kernel
theorem dX6_clipCount_4 : decode cX6_clipCount 4 = .ok (.ireturn, 1) := by decide +kernel
theorem dX6_copyFrom_0 : decode cX6_copyFrom 0 = .ok (.aload_n 0, 1) := by decide +kernel
theorem dX6_copyFrom_1 : decode cX6_copyFrom 1 = .ok (.getfield 12, 3) := by decide +kernel
theorem dX6_copyFrom_4 : decode cX6_copyFrom 4 = .ok (.aload_n 1, 1) := by decide +kernel
theorem dX6_copyFrom_5 : decode cX6_copyFrom 5 = .ok (.getfield 12, 3) := by decide +kernel
theorem dX6_copyFrom_8 : decode cX6_copyFrom 8 = .ok (.invokevirtual 55, 3) := by decide +kernel
theorem dX6_copyFrom_11 : decode cX6_copyFrom 11 = .ok (.aload_n 0, 1) := by decide +kernel
theorem dX6_copyFrom_12 : decode cX6_copyFrom 12 = .ok (.getfield 21, 3) := by decide +kernel
theorem dX6_copyFrom_15 : decode cX6_copyFrom 15 = .ok (.aload_n 1, 1) := by decide +kernel
theorem dX6_copyFrom_16 : decode cX6_copyFrom 16 = .ok (.getfield 21, 3) := by decide +kernel
theorem dX6_copyFrom_19 : decode cX6_copyFrom 19 = .ok (.invokevirtual 59, 3) := by decide +kernel
theorem dX6_copyFrom_22 : decode cX6_copyFrom 22 = .ok (.aload_n 1, 1) := by decide +kernel
theorem dX6_copyFrom_23 : decode cX6_copyFrom 23 = .ok (.getfield 25, 3) := by decide +kernel
theorem dX6_copyFrom_26 : decode cX6_copyFrom 26 = .ok (.aload_n 0, 1) := by decide +kernel
theorem dX6_copyFrom_27 : decode cX6_copyFrom 27 = .ok (.getfield 25, 3) := by decide +kernel
theorem dX6_copyFrom_30 : decode cX6_copyFrom 30 = .ok (.invokestatic 62, 3) := by decide +kernel
theorem dX6_copyFrom_33 : decode cX6_copyFrom 33 = .ok (.aload_n 1, 1) := by decide +kernel
theorem dX6_copyFrom_34 : decode cX6_copyFrom 34 = .ok (.getfield 29, 3) := by decide +kernel
theorem dX6_copyFrom_37 : decode cX6_copyFrom 37 = .ok (.aload_n 0, 1) := by decide +kernel
theorem dX6_copyFrom_38 : decode cX6_copyFrom 38 = .ok (.getfield 29, 3) := by decide +kernel
theorem dX6_copyFrom_41 : decode cX6_copyFrom 41 = .ok (.invokestatic 62, 3) := by decide +kernel
theorem dX6_copyFrom_44 : decode cX6_copyFrom 44 = .ok (.aload_n 0, 1) := by decide +kernel
theorem dX6_copyFrom_45 : decode cX6_copyFrom 45 = .ok (.aload_n 1, 1) := by decide +kernel
theorem dX6_copyFrom_46 : decode cX6_copyFrom 46 = .ok (.getfield 37, 3) := by decide +kernel
theorem dX6_copyFrom_49 : decode cX6_copyFrom 49 = .ok (.putfield 37, 3) := by decide +kernel
theorem dX6_copyFrom_52 : decode cX6_copyFrom 52 = .ok (.aload_n 0, 1) := by decide +kernel
theorem dX6_copyFrom_53 : decode cX6_copyFrom 53 = .ok (.aload_n 1, 1) := by decide +kernel
theorem dX6_copyFrom_54 : decode cX6_copyFrom 54 = .ok (.getfield 41, 3) := by decide +kernel
theorem dX6_copyFrom_57 : decode cX6_copyFrom 57 = .ok (.putfield 41, 3) := by decide +kernel
theorem dX6_copyFrom_60 : decode cX6_copyFrom 60 = .ok (.aload_n 0, 1) := by decide +kernel
theorem dX6_copyFrom_61 : decode cX6_copyFrom 61 = .ok (.aload_n 1, 1) := by decide +kernel
theorem dX6_copyFrom_62 : decode cX6_copyFrom 62 = .ok (.getfield 44, 3) := by decide +kernel
theorem dX6_copyFrom_65 : decode cX6_copyFrom 65 = .ok (.putfield 44, 3) := by decide +kernel
theorem dX6_copyFrom_68 : decode cX6_copyFrom 68 = .ok (.return_, 1) := by decide +kernel
theorem dX6_init_0 : decode cX6_init 0 = .ok (.aload_n 0, 1) := by decide +kernel
theorem dX6_init_1 : decode cX6_init 1 = .ok (.invokespecial 3, 3) := by decide +kernel
theorem dX6_init_4 : decode cX6_init 4 = .ok (.aload_n 0, 1) := by decide +kernel
theorem dX6_init_5 : decode cX6_init 5 = .ok (.new 9, 3) := by decide +kernel
theorem dX6_init_8 : decode cX6_init 8 = .ok (.dup, 1) := by decide +kernel
theorem dX6_init_9 : decode cX6_init 9 = .ok (.invokespecial 11, 3) := by decide +kernel
theorem dX6_init_12 : decode cX6_init 12 = .ok (.putfield 12, 3) := by decide +kernel
theorem dX6_init_15 : decode cX6_init 15 = .ok (.aload_n 0, 1) := by decide +kernel
theorem dX6_init_16 : decode cX6_init 16 = .ok (.new 18, 3) := by decide +kernel
theorem dX6_init_19 : decode cX6_init 19 = .ok (.dup, 1) := by decide +kernel
theorem dX6_init_20 : decode cX6_init 20 = .ok (.invokespecial 20, 3) := by decide +kernel
theorem dX6_init_23 : decode cX6_init 23 = .ok (.putfield 21, 3) := by decide +kernel
theorem dX6_init_26 : decode cX6_init 26 = .ok (.aload_n 0, 1) := by decide +kernel
theorem dX6_init_27 : decode cX6_init 27 = .ok (.bipush 60, 2) := by decide +kernel
theorem dX6_init_29 : decode cX6_init 29 = .ok (.newarray .int, 2) := by decide +kernel
theorem dX6_init_31 : decode cX6_init 31 = .ok (.putfield 25, 3) := by decide +kernel
theorem dX6_init_34 : decode cX6_init 34 = .ok (.aload_n 0, 1) := by decide +kernel
theorem dX6_init_35 : decode cX6_init 35 = .ok (.bipush 20, 2) := by decide +kernel
theorem dX6_init_37 : decode cX6_init 37 = .ok (.newarray .int, 2) := by decide +kernel
theorem dX6_init_39 : decode cX6_init 39 = .ok (.putfield 29, 3) := by decide +kernel
theorem dX6_init_42 : decode cX6_init 42 = .ok (.aload_n 0, 1) := by decide +kernel
theorem dX6_init_43 : decode cX6_init 43 = .ok (.invokevirtual 32, 3) := by decide +kernel
theorem dX6_init_46 : decode cX6_init 46 = .ok (.return_, 1) := by decide +kernel
theorem dX6_putEnvelope_0 : decode cX6_putEnvelope 0 = .ok (.aload_n 0, 1) := by decide +kernel
theorem dX6_putEnvelope_1 : decode cX6_putEnvelope 1 = .ok (.iload_n 1, 1) := by decide +kernel
theorem dX6_putEnvelope_2 : decode cX6_putEnvelope 2 = .ok (.iconst 0, 1) := by decide +kernel
theorem dX6_putEnvelope_3 : decode cX6_putEnvelope 3 = .ok (.iload_n 2, 1) := by decide +kernel
theorem dX6_putEnvelope_4 : decode cX6_putEnvelope 4 = .ok (.invokevirtual 51, 3) := by decide +kernel
theorem dX6_putEnvelope_7 : decode cX6_putEnvelope 7 = .ok (.aload_n 0, 1) := by decide +kernel
theorem dX6_putEnvelope_8 : decode cX6_putEnvelope 8 = .ok (.iload_n 1, 1) := by decide +kernel
theorem dX6_putEnvelope_9 : decode cX6_putEnvelope 9 = .ok (.iconst 1, 1) := by decide +kernel
theorem dX6_putEnvelope_10 : decode cX6_putEnvelope 10 = .ok (.iload_n 3, 1) := by decide +kernel
theorem dX6_putEnvelope_11 : decode cX6_putEnvelope 11 = .ok (.invokevirtual 51, 3) := by decide +kernel
theorem dX6_putEnvelope_14 : decode cX6_putEnvelope 14 = .ok (.aload_n 0, 1) := by decide +kernel
theorem dX6_putEnvelope_15 : decode cX6_putEnvelope 15 = .ok (.iload_n 1, 1) := by decide +kernel
theorem dX6_putEnvelope_16 : decode cX6_putEnvelope 16 = .ok (.iconst 2, 1) := by decide +kernel
theorem dX6_putEnvelope_17 : decode cX6_putEnvelope 17 = .ok (.iload 4, 2) := by decide +kernel
theorem dX6_putEnvelope_19 : decode cX6_putEnvelope 19 = .ok (.invokevirtual 51, 3) := by decide +kernel
theorem dX6_putEnvelope_22 : decode cX6_putEnvelope 22 = .ok (.aload_n 0, 1) := by decide +kernel
theorem dX6_putEnvelope_23 : decode cX6_putEnvelope 23 = .ok (.iload_n 1, 1) := by decide +kernel
theorem dX6_putEnvelope_24 : decode cX6_putEnvelope 24 = .ok (.iconst 3, 1) := by decide +kernel
theorem dX6_putEnvelope_25 : decode cX6_putEnvelope 25 = .ok (.iload 5, 2) := by decide +kernel
theorem dX6_putEnvelope_27 : decode cX6_putEnvelope 27 = .ok (.invokevirtual 51, 3) := by decide +kernel
theorem dX6_putEnvelope_30 : decode cX6_putEnvelope 30 = .ok (.return_, 1) := by decide +kernel
theorem dX6_putInstrumentNumber_0 : decode cX6_putInstrumentNumber 0 = .ok (.aload_n 0, 1) := by decide +kernel
theorem dX6_putInstrumentNumber_1 : decode cX6_putInstrumentNumber 1 = .ok (.getfield 29, 3) := by decide +kernel
theorem dX6_putInstrumentNumber_4 : decode cX6_putInstrumentNumber 4 = .ok (.iload_n 1, 1) := by decide +kernel
theorem dX6_putInstrumentNumber_5 : decode cX6_putInstrumentNumber 5 = .ok (.iconst 5, 1) := by decide +kernel
theorem dX6_putInstrumentNumber_6 : decode cX6_putInstrumentNumber 6 = .ok (.imul, 1) := by decide +kernel
theorem dX6_putInstrumentNumber_7 : decode cX6_putInstrumentNumber 7 = .ok (.iload_n 2, 1) := by decide +kernel
theorem dX6_putInstrumentNumber_8 : decode cX6_putInstrumentNumber 8 = .ok (.iadd, 1) := by decide +kernel
theorem dX6_putInstrumentNumber_9 : decode cX6_putInstrumentNumber 9 = .ok (.iload_n 3, 1) := by decide +kernel
theorem dX6_putInstrumentNumber_10 : decode cX6_putInstrumentNumber 10 = .ok (.invokestatic 80, 3) := by decide +kernel
theorem dX6_putInstrumentNumber_13 : decode cX6_putInstrumentNumber 13 = .ok (.return_, 1) := by decide +kernel
theorem dX6_reset_0 : decode cX6_reset 0 = .ok (.aload_n 0, 1) := by decide +kernel
theorem dX6_reset_1 : decode cX6_reset 1 = .ok (.getfield 12, 3) := by decide +kernel
theorem dX6_reset_4 : decode cX6_reset 4 = .ok (.invokevirtual 35, 3) := by decide +kernel
theorem dX6_reset_7 : decode cX6_reset 7 = .ok (.aload_n 0, 1) := by decide +kernel
theorem dX6_reset_8 : decode cX6_reset 8 = .ok (.getfield 21, 3) := by decide +kernel
theorem dX6_reset_11 : decode cX6_reset 11 = .ok (.invokevirtual 36, 3) := by decide +kernel
theorem dX6_reset_14 : decode cX6_reset 14 = .ok (.aload_n 0, 1) := by decide +kernel
theorem dX6_reset_15 : decode cX6_reset 15 = .ok (.iconst 0, 1) := by decide +kernel
theorem dX6_reset_16 : decode cX6_reset 16 = .ok (.putfield 37, 3) := by decide +kernel
theorem dX6_reset_19 : decode cX6_reset 19 = .ok (.aload_n 0, 1) := by decide +kernel
theorem dX6_reset_20 : decode cX6_reset 20 = .ok (.iconst 4, 1) := by decide +kernel
theorem dX6_reset_21 : decode cX6_reset 21 = .ok (.putfield 41, 3) := by decide +kernel
theorem dX6_reset_24 : decode cX6_reset 24 = .ok (.aload_n 0, 1) := by decide +kernel
theorem dX6_reset_25 : decode cX6_reset 25 = .ok (.iconst 0, 1) := by decide +kernel
theorem dX6_reset_26 : decode cX6_reset 26 = .ok (.putfield 44, 3) := by decide +kernel
theorem dX6_reset_29 : decode cX6_reset 29 = .ok (.iconst 0, 1) := by decide +kernel
theorem dX6_reset_30 : decode cX6_reset 30 = .ok (.istore_n 1, 1) := by decide +kernel
theorem dX6_reset_31 : decode cX6_reset 31 = .ok (.iload_n 1, 1) := by decide +kernel
theorem dX6_reset_32 : decode cX6_reset 32 = .ok (.iconst 4, 1) := by decide +kernel
theorem dX6_reset_33 : decode cX6_reset 33 = .ok (.if_icmp .ge 26, 3) := by decide +kernel
theorem dX6_reset_36 : decode cX6_reset 36 = .ok (.aload_n 0, 1) := by decide +kernel
theorem dX6_reset_37 : decode cX6_reset 37 = .ok (.iload_n 1, 1) := by decide +kernel
theorem dX6_reset_38 : decode cX6_reset 38 = .ok (.iconst 0, 1) := by decide +kernel
theorem dX6_reset_39 : decode cX6_reset 39 = .ok (.iconst 0, 1) := by decide +kernel
theorem dX6_reset_40 : decode cX6_reset 40 = .ok (.bipush 100, 2) := by decide +kernel
theorem dX6_reset_42 : decode cX6_reset 42 = .ok (.iconst 0, 1) := by decide +kernel
theorem dX6_reset_43 : decode cX6_reset 43 = .ok (.invokevirtual 47, 3) := by decide +kernel
theorem dX6_reset_46 : decode cX6_reset 46 = .ok (.aload_n 0, 1) := by decide +kernel
theorem dX6_reset_47 : decode cX6_reset 47 = .ok (.iload_n 1, 1) := by decide +kernel
theorem dX6_reset_48 : decode cX6_reset 48 = .ok (.iconst 4, 1) := by decide +kernel
theorem dX6_reset_49 : decode cX6_reset 49 = .ok (.iconst 5, 1) := by decide +kernel
theorem dX6_reset_50 : decode cX6_reset 50 = .ok (.invokevirtual 51, 3) := by decide +kernel
theorem dX6_reset_53 : decode cX6_reset 53 = .ok (.iinc 1 1, 3) := by decide +kernel
theorem dX6_reset_56 : decode cX6_reset 56 = .ok (.goto (-25), 3) := by decide +kernel
theorem dX6_reset_59 : decode cX6_reset 59 = .ok (.return_, 1) := by decide +kernel
theorem dX7_copyFrom_0 : decode cX7_copyFrom 0 = .ok (.aload_n 1, 1) := by decide +kernel
theorem dX7_copyFrom_1 : decode cX7_copyFrom 1 = .ok (.getfield 9, 3) := by decide +kernel
theorem dX7_copyFrom_4 : decode cX7_copyFrom 4 = .ok (.aload_n 0, 1) := by decide +kernel
theorem dX7_copyFrom_5 : decode cX7_copyFrom 5 = .ok (.getfield 9, 3) := by decide +kernel
theorem dX7_copyFrom_8 : decode cX7_copyFrom 8 = .ok (.invokestatic 25, 3) := by decide +kernel
theorem dX7_copyFrom_11 : decode cX7_copyFrom 11 = .ok (.aload_n 1, 1) := by decide +kernel
theorem dX7_copyFrom_12 : decode cX7_copyFrom 12 = .ok (.getfield 15, 3) := by decide +kernel
theorem dX7_copyFrom_15 : decode cX7_copyFrom 15 = .ok (.aload_n 0, 1) := by decide +kernel
theorem dX7_copyFrom_16 : decode cX7_copyFrom 16 = .ok (.getfield 15, 3) := by decide +kernel
theorem dX7_copyFrom_19 : decode cX7_copyFrom 19 = .ok (.invokestatic 25, 3) := by decide +kernel
theorem dX7_copyFrom_22 : decode cX7_copyFrom 22 = .ok (.aload_n 0, 1) := by decide +kernel
theorem dX7_copyFrom_23 : decode cX7_copyFrom 23 = .ok (.aload_n 1, 1) := by decide +kernel
theorem dX7_copyFrom_24 : decode cX7_copyFrom 24 = .ok (.getfield 18, 3) := by decide +kernel
theorem dX7_copyFrom_27 : decode cX7_copyFrom 27 = .ok (.putfield 18, 3) := by decide +kernel
theorem dX7_copyFrom_30 : decode cX7_copyFrom 30 = .ok (.aload_n 0, 1) := by decide +kernel
theorem dX7_copyFrom_31 : decode cX7_copyFrom 31 = .ok (.aload_n 1, 1) := by decide +kernel
theorem dX7_copyFrom_32 : decode cX7_copyFrom 32 = .ok (.getfield 22, 3) := by decide +kernel
theorem dX7_copyFrom_35 : decode cX7_copyFrom 35 = .ok (.putfield 22, 3) := by decide +kernel
theorem dX7_copyFrom_38 : decode cX7_copyFrom 38 = .ok (.return_, 1) := by decide +kernel
theorem dX7_init_0 : decode cX7_init 0 = .ok (.aload_n 0, 1) := by decide +kernel
theorem dX7_init_1 : decode cX7_init 1 = .ok (.invokespecial 3, 3) := by decide +kernel
theorem dX7_init_4 : decode cX7_init 4 = .ok (.aload_n 0, 1) := by decide +kernel
theorem dX7_init_5 : decode cX7_init 5 = .ok (.bipush 10, 2) := by decide +kernel
theorem dX7_init_7 : decode cX7_init 7 = .ok (.newarray .int, 2) := by decide +kernel
theorem dX7_init_9 : decode cX7_init 9 = .ok (.putfield 9, 3) := by decide +kernel
theorem dX7_init_12 : decode cX7_init 12 = .ok (.aload_n 0, 1) := by decide +kernel
theorem dX7_init_13 : decode cX7_init 13 = .ok (.bipush 10, 2) := by decide +kernel
theorem dX7_init_15 : decode cX7_init 15 = .ok (.newarray .int, 2) := by decide +kernel
theorem dX7_init_17 : decode cX7_init 17 = .ok (.putfield 15, 3) := by decide +kernel
theorem dX7_init_20 : decode cX7_init 20 = .ok (.return_, 1) := by decide +kernel
theorem dX7_lastTickBy_0 : decode cX7_lastTickBy 0 = .ok (.iconst 0, 1) := by decide +kernel
theorem dX7_lastTickBy_1 : decode cX7_lastTickBy 1 = .ok (.istore_n 2, 1) := by decide +kernel
theorem dX7_lastTickBy_2 : decode cX7_lastTickBy 2 = .ok (.iconst 0, 1) := by decide +kernel
theorem dX7_lastTickBy_3 : decode cX7_lastTickBy 3 = .ok (.istore_n 3, 1) := by decide +kernel
theorem dX7_lastTickBy_4 : decode cX7_lastTickBy 4 = .ok (.iconst 0, 1) := by decide +kernel
theorem dX7_lastTickBy_5 : decode cX7_lastTickBy 5 = .ok (.istore 4, 2) := by decide +kernel
theorem dX7_lastTickBy_7 : decode cX7_lastTickBy 7 = .ok (.iload 4, 2) := by decide +kernel
theorem dX7_lastTickBy_9 : decode cX7_lastTickBy 9 = .ok (.aload_n 0, 1) := by decide +kernel
theorem dX7_lastTickBy_10 : decode cX7_lastTickBy 10 = .ok (.getfield 18, 3) := by decide +kernel
theorem dX7_lastTickBy_13 : decode cX7_lastTickBy 13 = .ok (.if_icmp .ge 88, 3) := by decide +kernel
theorem dX7_lastTickBy_16 : decode cX7_lastTickBy 16 = .ok (.iload_n 3, 1) := by decide +kernel
theorem dX7_lastTickBy_17 : decode cX7_lastTickBy 17 = .ok (.iload_n 1, 1) := by decide +kernel
theorem dX7_lastTickBy_18 : decode cX7_lastTickBy 18 = .ok (.if_icmp .gt 83, 3) := by decide +kernel
theorem dX7_lastTickBy_21 : decode cX7_lastTickBy 21 = .ok (.aload_n 0, 1) := by decide +kernel
theorem dX7_lastTickBy_22 : decode cX7_lastTickBy 22 = .ok (.iload 4, 2) := by decide +kernel
theorem dX7_lastTickBy_24 : decode cX7_lastTickBy 24 = .ok (.invokevirtual 29, 3) := by decide +kernel
theorem dX7_lastTickBy_27 : decode cX7_lastTickBy 27 = .ok (.istore 5, 2) := by decide +kernel
theorem dX7_lastTickBy_29 : decode cX7_lastTickBy 29 = .ok (.iload 4, 2) := by decide +kernel
theorem dX7_lastTickBy_31 : decode cX7_lastTickBy 31 = .ok (.iconst 1, 1) := by decide +kernel
theorem dX7_lastTickBy_32 : decode cX7_lastTickBy 32 = .ok (.iadd, 1) := by decide +kernel
theorem dX7_lastTickBy_33 : decode cX7_lastTickBy 33 = .ok (.aload_n 0, 1) := by decide +kernel
theorem dX7_lastTickBy_34 : decode cX7_lastTickBy 34 = .ok (.getfield 18, 3) := by decide +kernel
theorem dX7_lastTickBy_37 : decode cX7_lastTickBy 37 = .ok (.if_icmp .ge 14, 3) := by decide +kernel
theorem dX7_lastTickBy_51 : decode cX7_lastTickBy 51 = .ok (.sipush 30000, 3) := by decide +kernel
theorem dX7_lastTickBy_54 : decode cX7_lastTickBy 54 = .ok (.istore 6, 2) := by decide +kernel
theorem dX7_lastTickBy_56 : decode cX7_lastTickBy 56 = .ok (.aload_n 0, 1) := by decide +kernel
theorem dX7_lastTickBy_57 : decode cX7_lastTickBy 57 = .ok (.iload 4, 2) := by decide +kernel
theorem dX7_lastTickBy_59 : decode cX7_lastTickBy 59 = .ok (.invokevirtual 37, 3) := by decide +kernel
theorem dX7_lastTickBy_62 : decode cX7_lastTickBy 62 = .ok (.istore 7, 2) := by decide +kernel
theorem dX7_lastTickBy_64 : decode cX7_lastTickBy 64 = .ok (.iload 7, 2) := by decide +kernel
theorem dX7_lastTickBy_66 : decode cX7_lastTickBy 66 = .ok (.ifCond .le 18, 3) := by decide +kernel
theorem dX7_lastTickBy_69 : decode cX7_lastTickBy 69 = .ok (.iload 6, 2) := by decide +kernel
theorem dX7_lastTickBy_71 : decode cX7_lastTickBy 71 = .ok (.iload 5, 2) := by decide +kernel
theorem dX7_lastTickBy_73 : decode cX7_lastTickBy 73 = .ok (.iload_n 1, 1) := by decide +kernel
theorem dX7_lastTickBy_74 : decode cX7_lastTickBy 74 = .ok (.iload_n 3, 1) := by decide +kernel
theorem dX7_lastTickBy_75 : decode cX7_lastTickBy 75 = .ok (.isub, 1) := by decide +kernel
theorem dX7_lastTickBy_76 : decode cX7_lastTickBy 76 = .ok (.iload 7, 2) := by decide +kernel
theorem dX7_lastTickBy_78 : decode cX7_lastTickBy 78 = .ok (.idiv, 1) := by decide +kernel
theorem dX7_lastTickBy_79 : decode cX7_lastTickBy 79 = .ok (.iadd, 1) := by decide +kernel
theorem dX7_lastTickBy_80 : decode cX7_lastTickBy 80 = .ok (.invokestatic 46, 3) := by decide +kernel
theorem dX7_lastTickBy_83 : decode cX7_lastTickBy 83 = .ok (.istore_n 2, 1) := by decide +kernel
theorem dX7_lastTickBy_84 : decode cX7_lastTickBy 84 = .ok (.iload_n 3, 1) := by decide +kernel
theorem dX7_lastTickBy_85 : decode cX7_lastTickBy 85 = .ok (.iload 6, 2) := by decide +kernel
theorem dX7_lastTickBy_87 : decode cX7_lastTickBy 87 = .ok (.iload 5, 2) := by decide +kernel
theorem dX7_lastTickBy_89 : decode cX7_lastTickBy 89 = .ok (.isub, 1) := by decide +kernel
theorem dX7_lastTickBy_90 : decode cX7_lastTickBy 90 = .ok (.iload 7, 2) := by decide +kernel
theorem dX7_lastTickBy_92 : decode cX7_lastTickBy 92 = .ok (.imul, 1) := by decide +kernel
theorem dX7_lastTickBy_93 : decode cX7_lastTickBy 93 = .ok (.iadd, 1) := by decide +kernel
theorem dX7_lastTickBy_94 : decode cX7_lastTickBy 94 = .ok (.istore_n 3, 1) := by decide +kernel
theorem dX7_lastTickBy_95 : decode cX7_lastTickBy 95 = .ok (.iinc 4 1, 3) := by decide +kernel
theorem dX7_lastTickBy_98 : decode cX7_lastTickBy 98 = .ok (.goto (-91), 3) := by decide +kernel
theorem dX7_lastTickBy_101 : decode cX7_lastTickBy 101 = .ok (.iload_n 2, 1) := by decide +kernel
theorem dX7_lastTickBy_102 : decode cX7_lastTickBy 102 = .ok (.ireturn, 1) := by decide +kernel
theorem dX7_placePace_0 : decode cX7_placePace 0 = .ok (.iload_n 1, 1) := by decide +kernel
theorem dX7_placePace_1 : decode cX7_placePace 1 = .ok (.ifCond .lt 21, 3) := by decide +kernel
theorem dX7_placePace_4 : decode cX7_placePace 4 = .ok (.iload_n 1, 1) := by decide +kernel
theorem dX7_placePace_5 : decode cX7_placePace 5 = .ok (.aload_n 0, 1) := by decide +kernel
theorem dX7_placePace_6 : decode cX7_placePace 6 = .ok (.getfield 15, 3) := by decide +kernel
theorem dX7_placePace_9 : decode cX7_placePace 9 = .ok (.arraylength, 1) := by decide +kernel
theorem dX7_placePace_10 : decode cX7_placePace 10 = .ok (.if_icmp .ge 12, 3) := by decide +kernel
theorem dX7_placePace_13 : decode cX7_placePace 13 = .ok (.aload_n 0, 1) := by decide +kernel
theorem dX7_placePace_14 : decode cX7_placePace 14 = .ok (.getfield 15, 3) := by decide +kernel
theorem dX7_placePace_17 : decode cX7_placePace 17 = .ok (.iload_n 1, 1) := by decide +kernel
theorem dX7_placePace_18 : decode cX7_placePace 18 = .ok (.iaload, 1) := by decide +kernel
theorem dX7_placePace_19 : decode cX7_placePace 19 = .ok (.goto 4, 3) := by decide +kernel
theorem dX7_placePace_23 : decode cX7_placePace 23 = .ok (.ireturn, 1) := by decide +kernel
theorem dX7_placeTick_0 : decode cX7_placeTick 0 = .ok (.iload_n 1, 1) := by decide +kernel
theorem dX7_placeTick_1 : decode cX7_placeTick 1 = .ok (.ifCond .lt 21, 3) := by decide +kernel
theorem dX7_placeTick_4 : decode cX7_placeTick 4 = .ok (.iload_n 1, 1) := by decide +kernel
theorem dX7_placeTick_5 : decode cX7_placeTick 5 = .ok (.aload_n 0, 1) := by decide +kernel
theorem dX7_placeTick_6 : decode cX7_placeTick 6 = .ok (.getfield 9, 3) := by decide +kernel
theorem dX7_placeTick_9 : decode cX7_placeTick 9 = .ok (.arraylength, 1) := by decide +kernel
theorem dX7_placeTick_10 : decode cX7_placeTick 10 = .ok (.if_icmp .ge 12, 3) := by decide +kernel
theorem dX7_placeTick_13 : decode cX7_placeTick 13 = .ok (.aload_n 0, 1) := by decide +kernel
theorem dX7_placeTick_14 : decode cX7_placeTick 14 = .ok (.getfield 9, 3) := by decide +kernel
theorem dX7_placeTick_17 : decode cX7_placeTick 17 = .ok (.iload_n 1, 1) := by decide +kernel
theorem dX7_placeTick_18 : decode cX7_placeTick 18 = .ok (.iaload, 1) := by decide +kernel
theorem dX7_placeTick_19 : decode cX7_placeTick 19 = .ok (.goto 4, 3) := by decide +kernel
theorem dX7_placeTick_23 : decode cX7_placeTick 23 = .ok (.ireturn, 1) := by decide +kernel
theorem dX7_reset_0 : decode cX7_reset 0 = .ok (.aload_n 0, 1) := by decide +kernel
theorem dX7_reset_1 : decode cX7_reset 1 = .ok (.iconst 1, 1) := by decide +kernel
theorem dX7_reset_2 : decode cX7_reset 2 = .ok (.putfield 18, 3) := by decide +kernel
theorem dX7_reset_5 : decode cX7_reset 5 = .ok (.aload_n 0, 1) := by decide +kernel
theorem dX7_reset_6 : decode cX7_reset 6 = .ok (.iconst 0, 1) := by decide +kernel
theorem dX7_reset_7 : decode cX7_reset 7 = .ok (.putfield 22, 3) := by decide +kernel
theorem dX7_reset_10 : decode cX7_reset 10 = .ok (.aload_n 0, 1) := by decide +kernel
theorem dX7_reset_11 : decode cX7_reset 11 = .ok (.getfield 9, 3) := by decide +kernel
theorem dX7_reset_14 : decode cX7_reset 14 = .ok (.iconst 0, 1) := by decide +kernel
theorem dX7_reset_15 : decode cX7_reset 15 = .ok (.iconst 0, 1) := by decide +kernel
theorem dX7_reset_16 : decode cX7_reset 16 = .ok (.iastore, 1) := by decide +kernel
theorem dX7_reset_17 : decode cX7_reset 17 = .ok (.aload_n 0, 1) := by decide +kernel
theorem dX7_reset_18 : decode cX7_reset 18 = .ok (.getfield 15, 3) := by decide +kernel
theorem dX7_reset_21 : decode cX7_reset 21 = .ok (.iconst 0, 1) := by decide +kernel
theorem dX7_reset_22 : decode cX7_reset 22 = .ok (.bipush 100, 2) := by decide +kernel
theorem dX7_reset_24 : decode cX7_reset 24 = .ok (.iastore, 1) := by decide +kernel
theorem dX7_reset_25 : decode cX7_reset 25 = .ok (.return_, 1) := by decide +kernel
theorem dX8_acceptDraft_0 : decode cX8_acceptDraft 0 = .ok (.aload_n 0, 1) := by decide +kernel
theorem dX8_acceptDraft_1 : decode cX8_acceptDraft 1 = .ok (.aload_n 0, 1) := by decide +kernel
theorem dX8_acceptDraft_2 : decode cX8_acceptDraft 2 = .ok (.getfield 17, 3) := by decide +kernel
theorem dX8_acceptDraft_5 : decode cX8_acceptDraft 5 = .ok (.iconst 1, 1) := by decide +kernel
theorem dX8_acceptDraft_6 : decode cX8_acceptDraft 6 = .ok (.iadd, 1) := by decide +kernel
theorem dX8_acceptDraft_7 : decode cX8_acceptDraft 7 = .ok (.bipush 10, 2) := by decide +kernel
theorem dX8_acceptDraft_9 : decode cX8_acceptDraft 9 = .ok (.invokestatic 25, 3) := by decide +kernel
theorem dX8_acceptDraft_12 : decode cX8_acceptDraft 12 = .ok (.putfield 17, 3) := by decide +kernel
theorem dX8_acceptDraft_15 : decode cX8_acceptDraft 15 = .ok (.aload_n 0, 1) := by decide +kernel
theorem dX8_acceptDraft_16 : decode cX8_acceptDraft 16 = .ok (.aload_n 0, 1) := by decide +kernel
theorem dX8_acceptDraft_17 : decode cX8_acceptDraft 17 = .ok (.getfield 21, 3) := by decide +kernel
theorem dX8_acceptDraft_20 : decode cX8_acceptDraft 20 = .ok (.iconst 1, 1) := by decide +kernel
theorem dX8_acceptDraft_21 : decode cX8_acceptDraft 21 = .ok (.iadd, 1) := by decide +kernel
theorem dX8_acceptDraft_22 : decode cX8_acceptDraft 22 = .ok (.bipush 8, 2) := by decide +kernel
theorem dX8_acceptDraft_24 : decode cX8_acceptDraft 24 = .ok (.invokestatic 39, 3) := by decide +kernel
theorem dX8_acceptDraft_27 : decode cX8_acceptDraft 27 = .ok (.putfield 21, 3) := by decide +kernel
theorem dX8_acceptDraft_30 : decode cX8_acceptDraft 30 = .ok (.return_, 1) := by decide +kernel
theorem dX8_current_0 : decode cX8_current 0 = .ok (.aload_n 0, 1) := by decide +kernel
theorem dX8_current_1 : decode cX8_current 1 = .ok (.getfield 13, 3) := by decide +kernel
theorem dX8_current_4 : decode cX8_current 4 = .ok (.aload_n 0, 1) := by decide +kernel
theorem dX8_current_5 : decode cX8_current 5 = .ok (.getfield 17, 3) := by decide +kernel
theorem dX8_current_8 : decode cX8_current 8 = .ok (.bipush 10, 2) := by decide +kernel
theorem dX8_current_10 : decode cX8_current 10 = .ok (.invokestatic 25, 3) := by decide +kernel
theorem dX8_current_13 : decode cX8_current 13 = .ok (.aaload, 1) := by decide +kernel
theorem dX8_current_14 : decode cX8_current 14 = .ok (.areturn, 1) := by decide +kernel
theorem dX8_draft_0 : decode cX8_draft 0 = .ok (.aload_n 0, 1) := by decide +kernel
theorem dX8_draft_1 : decode cX8_draft 1 = .ok (.getfield 13, 3) := by decide +kernel
theorem dX8_draft_4 : decode cX8_draft 4 = .ok (.aload_n 0, 1) := by decide +kernel
theorem dX8_draft_5 : decode cX8_draft 5 = .ok (.getfield 17, 3) := by decide +kernel
theorem dX8_draft_8 : decode cX8_draft 8 = .ok (.iconst 1, 1) := by decide +kernel
theorem dX8_draft_9 : decode cX8_draft 9 = .ok (.iadd, 1) := by decide +kernel
theorem dX8_draft_10 : decode cX8_draft 10 = .ok (.bipush 10, 2) := by decide +kernel
theorem dX8_draft_12 : decode cX8_draft 12 = .ok (.invokestatic 25, 3) := by decide +kernel
theorem dX8_draft_15 : decode cX8_draft 15 = .ok (.aaload, 1) := by decide +kernel
theorem dX8_draft_16 : decode cX8_draft 16 = .ok (.astore_n 1, 1) := by decide +kernel
theorem dX8_draft_17 : decode cX8_draft 17 = .ok (.aload_n 1, 1) := by decide +kernel
theorem dX8_draft_18 : decode cX8_draft 18 = .ok (.aload_n 0, 1) := by decide +kernel
theorem dX8_draft_19 : decode cX8_draft 19 = .ok (.invokevirtual 31, 3) := by decide +kernel
theorem dX8_draft_22 : decode cX8_draft 22 = .ok (.invokevirtual 35, 3) := by decide +kernel
theorem dX8_draft_25 : decode cX8_draft 25 = .ok (.aload_n 1, 1) := by decide +kernel
theorem dX8_draft_26 : decode cX8_draft 26 = .ok (.areturn, 1) := by decide +kernel
theorem dX8_forget_0 : decode cX8_forget 0 = .ok (.aload_n 0, 1) := by decide +kernel
theorem dX8_forget_1 : decode cX8_forget 1 = .ok (.iconst 0, 1) := by decide +kernel
theorem dX8_forget_2 : decode cX8_forget 2 = .ok (.putfield 21, 3) := by decide +kernel
theorem dX8_forget_5 : decode cX8_forget 5 = .ok (.return_, 1) := by decide +kernel
theorem dX8_init_0 : decode cX8_init 0 = .ok (.aload_n 0, 1) := by decide +kernel
theorem dX8_init_1 : decode cX8_init 1 = .ok (.invokespecial 3, 3) := by decide +kernel
theorem dX8_init_4 : decode cX8_init 4 = .ok (.aload_n 0, 1) := by decide +kernel
theorem dX8_init_5 : decode cX8_init 5 = .ok (.bipush 10, 2) := by decide +kernel
theorem dX8_init_7 : decode cX8_init 7 = .ok (.anewarray 11, 3) := by decide +kernel
theorem dX8_init_10 : decode cX8_init 10 = .ok (.putfield 13, 3) := by decide +kernel
theorem dX8_init_13 : decode cX8_init 13 = .ok (.aload_n 0, 1) := by decide +kernel
theorem dX8_init_14 : decode cX8_init 14 = .ok (.iconst 0, 1) := by decide +kernel
theorem dX8_init_15 : decode cX8_init 15 = .ok (.putfield 17, 3) := by decide +kernel
theorem dX8_init_18 : decode cX8_init 18 = .ok (.aload_n 0, 1) := by decide +kernel
theorem dX8_init_19 : decode cX8_init 19 = .ok (.iconst 0, 1) := by decide +kernel
theorem dX8_init_20 : decode cX8_init 20 = .ok (.putfield 21, 3) := by decide +kernel
theorem dX8_init_23 : decode cX8_init 23 = .ok (.iconst 0, 1) := by decide +kernel
theorem dX8_init_24 : decode cX8_init 24 = .ok (.istore_n 1, 1) := by decide +kernel
theorem dX8_init_25 : decode cX8_init 25 = .ok (.iload_n 1, 1) := by decide +kernel
theorem dX8_init_26 : decode cX8_init 26 = .ok (.bipush 10, 2) := by decide +kernel
theorem dX8_init_28 : decode cX8_init 28 = .ok (.if_icmp .ge 22, 3) := by decide +kernel
theorem dX8_init_31 : decode cX8_init 31 = .ok (.aload_n 0, 1) := by decide +kernel
theorem dX8_init_32 : decode cX8_init 32 = .ok (.getfield 13, 3) := by decide +kernel
theorem dX8_init_35 : decode cX8_init 35 = .ok (.iload_n 1, 1) := by decide +kernel
theorem dX8_init_36 : decode cX8_init 36 = .ok (.new 11, 3) := by decide +kernel
theorem dX8_init_39 : decode cX8_init 39 = .ok (.dup, 1) := by decide +kernel
theorem dX8_init_40 : decode cX8_init 40 = .ok (.invokespecial 24, 3) := by decide +kernel
theorem dX8_init_43 : decode cX8_init 43 = .ok (.aastore, 1) := by decide +kernel
theorem dX8_init_44 : decode cX8_init 44 = .ok (.iinc 1 1, 3) := by decide +kernel
theorem dX8_init_47 : decode cX8_init 47 = .ok (.goto (-22), 3) := by decide +kernel
theorem dX8_init_50 : decode cX8_init 50 = .ok (.return_, 1) := by decide +kernel
theorem dX9_accept_0 : decode cX9_accept 0 = .ok (.aload_n 0, 1) := by decide +kernel
theorem dX9_accept_1 : decode cX9_accept 1 = .ok (.getfield 12, 3) := by decide +kernel
theorem dX9_accept_4 : decode cX9_accept 4 = .ok (.invokevirtual 406, 3) := by decide +kernel
theorem dX9_accept_7 : decode cX9_accept 7 = .ok (.aload_n 0, 1) := by decide +kernel
theorem dX9_accept_8 : decode cX9_accept 8 = .ok (.invokevirtual 84, 3) := by decide +kernel
theorem dX9_accept_11 : decode cX9_accept 11 = .ok (.return_, 1) := by decide +kernel
theorem dX9_append_0 : decode cX9_append 0 = .ok (.iload_n 1, 1) := by decide +kernel
theorem dX9_append_1 : decode cX9_append 1 = .ok (.bipush 32, 2) := by decide +kernel
theorem dX9_append_3 : decode cX9_append 3 = .ok (.bipush 126, 2) := by decide +kernel
theorem dX9_append_5 : decode cX9_append 5 = .ok (.invokestatic 93, 3) := by decide +kernel
theorem dX9_append_8 : decode cX9_append 8 = .ok (.aload_n 0, 1) := by decide +kernel
theorem dX9_append_9 : decode cX9_append 9 = .ok (.getfield 42, 3) := by decide +kernel
theorem dX9_append_12 : decode cX9_append 12 = .ok (.invokevirtual 341, 3) := by decide +kernel
theorem dX9_append_15 : decode cX9_append 15 = .ok (.ifCond .eq 14, 3) := by decide +kernel
theorem dX9_append_29 : decode cX9_append 29 = .ok (.aload_n 0, 1) := by decide +kernel
theorem dX9_append_30 : decode cX9_append 30 = .ok (.getfield 42, 3) := by decide +kernel
theorem dX9_append_33 : decode cX9_append 33 = .ok (.iload_n 1, 1) := by decide +kernel
theorem dX9_append_34 : decode cX9_append 34 = .ok (.invokevirtual 346, 3) := by decide +kernel
theorem dX9_append_37 : decode cX9_append 37 = .ok (.aload_n 0, 1) := by decide +kernel
theorem dX9_append_38 : decode cX9_append 38 = .ok (.getfield 42, 3) := by decide +kernel
theorem dX9_append_41 : decode cX9_append 41 = .ok (.invokevirtual 350, 3) := by decide +kernel
theorem dX9_append_44 : decode cX9_append 44 = .ok (.ireturn, 1) := by decide +kernel
theorem dX9_clear_0 : decode cX9_clear 0 = .ok (.aload_n 0, 1) := by decide +kernel
theorem dX9_clear_1 : decode cX9_clear 1 = .ok (.getfield 12, 3) := by decide +kernel
theorem dX9_clear_4 : decode cX9_clear 4 = .ok (.invokevirtual 70, 3) := by decide +kernel
theorem dX9_clear_7 : decode cX9_clear 7 = .ok (.astore_n 1, 1) := by decide +kernel
theorem dX9_clear_8 : decode cX9_clear 8 = .ok (.aload_n 1, 1) := by decide +kernel
theorem dX9_clear_9 : decode cX9_clear 9 = .ok (.invokevirtual 74, 3) := by decide +kernel
theorem dX9_clear_12 : decode cX9_clear 12 = .ok (.istore_n 2, 1) := by decide +kernel
theorem dX9_clear_13 : decode cX9_clear 13 = .ok (.aload_n 1, 1) := by decide +kernel
theorem dX9_clear_14 : decode cX9_clear 14 = .ok (.invokevirtual 78, 3) := by decide +kernel
theorem dX9_clear_17 : decode cX9_clear 17 = .ok (.aload_n 0, 1) := by decide +kernel
theorem dX9_clear_18 : decode cX9_clear 18 = .ok (.getfield 12, 3) := by decide +kernel
theorem dX9_clear_21 : decode cX9_clear 21 = .ok (.invokevirtual 81, 3) := by decide +kernel
theorem dX9_clear_24 : decode cX9_clear 24 = .ok (.aload_n 0, 1) := by decide +kernel
theorem dX9_clear_25 : decode cX9_clear 25 = .ok (.invokevirtual 84, 3) := by decide +kernel
theorem dX9_clear_28 : decode cX9_clear 28 = .ok (.aload_n 0, 1) := by decide +kernel
theorem dX9_clear_29 : decode cX9_clear 29 = .ok (.getfield 42, 3) := by decide +kernel
theorem dX9_clear_32 : decode cX9_clear 32 = .ok (.invokevirtual 87, 3) := by decide +kernel
theorem dX9_clear_35 : decode cX9_clear 35 = .ok (.aload_n 0, 1) := by decide +kernel
theorem dX9_clear_36 : decode cX9_clear 36 = .ok (.iconst (-1), 1) := by decide +kernel
theorem dX9_clear_37 : decode cX9_clear 37 = .ok (.putfield 66, 3) := by decide +kernel
theorem dX9_clear_40 : decode cX9_clear 40 = .ok (.iload_n 2, 1) := by decide +kernel
theorem dX9_clear_41 : decode cX9_clear 41 = .ok (.ireturn, 1) := by decide +kernel
theorem dX9_copyRow_0 : decode cX9_copyRow 0 = .ok (.aload_n 0, 1) := by decide +kernel
theorem dX9_copyRow_1 : decode cX9_copyRow 1 = .ok (.iconst 0, 1) := by decide +kernel
theorem dX9_copyRow_2 : decode cX9_copyRow 2 = .ok (.aload_n 1, 1) := by decide +kernel
theorem dX9_copyRow_3 : decode cX9_copyRow 3 = .ok (.iconst 0, 1) := by decide +kernel
theorem dX9_copyRow_4 : decode cX9_copyRow 4 = .ok (.aload_n 0, 1) := by decide +kernel
theorem dX9_copyRow_5 : decode cX9_copyRow 5 = .ok (.arraylength, 1) := by decide +kernel
theorem dX9_copyRow_6 : decode cX9_copyRow 6 = .ok (.aload_n 1, 1) := by decide +kernel
theorem dX9_copyRow_7 : decode cX9_copyRow 7 = .ok (.arraylength, 1) := by decide +kernel
theorem dX9_copyRow_8 : decode cX9_copyRow 8 = .ok (.invokestatic 433, 3) := by decide +kernel
theorem dX9_copyRow_11 : decode cX9_copyRow 11 = .ok (.invokestatic 427, 3) := by decide +kernel
theorem dX9_copyRow_14 : decode cX9_copyRow 14 = .ok (.return_, 1) := by decide +kernel
theorem dX9_errorPosition_0 : decode cX9_errorPosition 0 = .ok (.aload_n 0, 1) := by decide +kernel
theorem dX9_errorPosition_1 : decode cX9_errorPosition 1 = .ok (.getfield 66, 3) := by decide +kernel
theorem dX9_errorPosition_4 : decode cX9_errorPosition 4 = .ok (.iconst (-1), 1) := by decide +kernel
theorem dX9_errorPosition_5 : decode cX9_errorPosition 5 = .ok (.if_icmp .ne 14, 3) := by decide +kernel
theorem dX9_errorPosition_8 : decode cX9_errorPosition 8 = .ok (.new 135, 3) := by decide +kernel
theorem dX9_errorPosition_11 : decode cX9_errorPosition 11 = .ok (.dup, 1) := by decide +kernel
theorem dX9_errorPosition_12 : decode cX9_errorPosition 12 = .ok (.ldc_w 372, 3) := by decide +kernel
theorem dX9_errorPosition_15 : decode cX9_errorPosition 15 = .ok (.invokespecial 139, 3) := by decide +kernel
theorem dX9_errorPosition_18 : decode cX9_errorPosition 18 = .ok (.athrow, 1) := by decide +kernel
theorem dX9_eventsOf_0 : decode cX9_eventsOf 0 = .ok (.aload_n 0, 1) := by decide +kernel
theorem dX9_eventsOf_1 : decode cX9_eventsOf 1 = .ok (.getfield 63, 3) := by decide +kernel
theorem dX9_eventsOf_4 : decode cX9_eventsOf 4 = .ok (.ifCond .ne 16, 3) := by decide +kernel
theorem dX9_eventsOf_7 : decode cX9_eventsOf 7 = .ok (.aload_n 0, 1) := by decide +kernel
theorem dX9_eventsOf_8 : decode cX9_eventsOf 8 = .ok (.getfield 33, 3) := by decide +kernel
theorem dX9_eventsOf_11 : decode cX9_eventsOf 11 = .ok (.aload_n 1, 1) := by decide +kernel
theorem dX9_eventsOf_12 : decode cX9_eventsOf 12 = .ok (.invokevirtual 418, 3) := by decide +kernel
theorem dX9_eventsOf_15 : decode cX9_eventsOf 15 = .ok (.aload_n 0, 1) := by decide +kernel
theorem dX9_eventsOf_16 : decode cX9_eventsOf 16 = .ok (.iconst 1, 1) := by decide +kernel
theorem dX9_eventsOf_17 : decode cX9_eventsOf 17 = .ok (.putfield 63, 3) := by decide +kernel
theorem dX9_eventsOf_20 : decode cX9_eventsOf 20 = .ok (.aload_n 0, 1) := by decide +kernel
theorem dX9_eventsOf_21 : decode cX9_eventsOf 21 = .ok (.getfield 33, 3) := by decide +kernel
theorem dX9_eventsOf_24 : decode cX9_eventsOf 24 = .ok (.areturn, 1) := by decide +kernel
theorem dX9_init_0 : decode cX9_init 0 = .ok (.aload_n 0, 1) := by decide +kernel
theorem dX9_init_1 : decode cX9_init 1 = .ok (.invokespecial 3, 3) := by decide +kernel
theorem dX9_init_4 : decode cX9_init 4 = .ok (.aload_n 0, 1) := by decide +kernel
theorem dX9_init_5 : decode cX9_init 5 = .ok (.new 9, 3) := by decide +kernel
theorem dX9_init_8 : decode cX9_init 8 = .ok (.dup, 1) := by decide +kernel
theorem dX9_init_9 : decode cX9_init 9 = .ok (.invokespecial 11, 3) := by decide +kernel
theorem dX9_init_12 : decode cX9_init 12 = .ok (.putfield 12, 3) := by decide +kernel
theorem dX9_init_15 : decode cX9_init 15 = .ok (.aload_n 0, 1) := by decide +kernel
theorem dX9_init_16 : decode cX9_init 16 = .ok (.new 16, 3) := by decide +kernel
theorem dX9_init_19 : decode cX9_init 19 = .ok (.dup, 1) := by decide +kernel
theorem dX9_init_20 : decode cX9_init 20 = .ok (.invokespecial 18, 3) := by decide +kernel
theorem dX9_init_23 : decode cX9_init 23 = .ok (.putfield 19, 3) := by decide +kernel
theorem dX9_init_26 : decode cX9_init 26 = .ok (.aload_n 0, 1) := by decide +kernel
theorem dX9_init_27 : decode cX9_init 27 = .ok (.new 23, 3) := by decide +kernel
theorem dX9_init_30 : decode cX9_init 30 = .ok (.dup, 1) := by decide +kernel
theorem dX9_init_31 : decode cX9_init 31 = .ok (.invokespecial 25, 3) := by decide +kernel
theorem dX9_init_34 : decode cX9_init 34 = .ok (.putfield 26, 3) := by decide +kernel
theorem dX9_init_37 : decode cX9_init 37 = .ok (.aload_n 0, 1) := by decide +kernel
theorem dX9_init_38 : decode cX9_init 38 = .ok (.new 30, 3) := by decide +kernel
theorem dX9_init_41 : decode cX9_init 41 = .ok (.dup, 1) := by decide +kernel
theorem dX9_init_42 : decode cX9_init 42 = .ok (.invokespecial 32, 3) := by decide +kernel
theorem dX9_init_45 : decode cX9_init 45 = .ok (.putfield 33, 3) := by decide +kernel
theorem dX9_init_48 : decode cX9_init 48 = .ok (.aload_n 0, 1) := by decide +kernel
theorem dX9_init_49 : decode cX9_init 49 = .ok (.new 37, 3) := by decide +kernel
theorem dX9_init_52 : decode cX9_init 52 = .ok (.dup, 1) := by decide +kernel
theorem dX9_init_53 : decode cX9_init 53 = .ok (.bipush 60, 2) := by decide +kernel
theorem dX9_init_55 : decode cX9_init 55 = .ok (.invokespecial 39, 3) := by decide +kernel
theorem dX9_init_58 : decode cX9_init 58 = .ok (.putfield 42, 3) := by decide +kernel
theorem dX9_init_61 : decode cX9_init 61 = .ok (.aload_n 0, 1) := by decide +kernel
theorem dX9_init_62 : decode cX9_init 62 = .ok (.new 37, 3) := by decide +kernel
theorem dX9_init_65 : decode cX9_init 65 = .ok (.dup, 1) := by decide +kernel
theorem dX9_init_66 : decode cX9_init 66 = .ok (.sipush 128, 3) := by decide +kernel
theorem dX9_init_69 : decode cX9_init 69 = .ok (.invokespecial 39, 3) := by decide +kernel
theorem dX9_init_72 : decode cX9_init 72 = .ok (.putfield 46, 3) := by decide +kernel
theorem dX9_init_75 : decode cX9_init 75 = .ok (.aload_n 0, 1) := by decide +kernel
theorem dX9_init_76 : decode cX9_init 76 = .ok (.new 49, 3) := by decide +kernel
theorem dX9_init_79 : decode cX9_init 79 = .ok (.dup, 1) := by decide +kernel
theorem dX9_init_80 : decode cX9_init 80 = .ok (.invokespecial 51, 3) := by decide +kernel
theorem dX9_init_83 : decode cX9_init 83 = .ok (.putfield 52, 3) := by decide +kernel
theorem dX9_init_86 : decode cX9_init 86 = .ok (.aload_n 0, 1) := by decide +kernel
theorem dX9_init_87 : decode cX9_init 87 = .ok (.iconst 0, 1) := by decide +kernel
theorem dX9_init_88 : decode cX9_init 88 = .ok (.putfield 56, 3) := by decide +kernel
theorem dX9_init_91 : decode cX9_init 91 = .ok (.aload_n 0, 1) := by decide +kernel
theorem dX9_init_92 : decode cX9_init 92 = .ok (.iconst 0, 1) := by decide +kernel
theorem dX9_init_93 : decode cX9_init 93 = .ok (.putfield 60, 3) := by decide +kernel
theorem dX9_init_96 : decode cX9_init 96 = .ok (.aload_n 0, 1) := by decide +kernel
theorem dX9_init_97 : decode cX9_init 97 = .ok (.iconst 0, 1) := by decide +kernel
theorem dX9_init_98 : decode cX9_init 98 = .ok (.putfield 63, 3) := by decide +kernel
theorem dX9_init_101 : decode cX9_init 101 = .ok (.aload_n 0, 1) := by decide +kernel
theorem dX9_init_102 : decode cX9_init 102 = .ok (.iconst (-1), 1) := by decide +kernel
theorem dX9_init_103 : decode cX9_init 103 = .ok (.putfield 66, 3) := by decide +kernel
theorem dX9_init_106 : decode cX9_init 106 = .ok (.return_, 1) := by decide +kernel
theorem dX9_lostShare_0 : decode cX9_lostShare 0 = .ok (.aload_n 0, 1) := by decide +kernel
theorem dX9_lostShare_1 : decode cX9_lostShare 1 = .ok (.invokevirtual 177, 3) := by decide +kernel
theorem dX9_lostShare_4 : decode cX9_lostShare 4 = .ok (.astore_n 1, 1) := by decide +kernel
theorem dX9_lostShare_5 : decode cX9_lostShare 5 = .ok (.aload_n 1, 1) := by decide +kernel
theorem dX9_lostShare_6 : decode cX9_lostShare 6 = .ok (.invokevirtual 181, 3) := by decide +kernel
theorem dX9_lostShare_9 : decode cX9_lostShare 9 = .ok (.istore_n 2, 1) := by decide +kernel
theorem dX9_lostShare_10 : decode cX9_lostShare 10 = .ok (.iload_n 2, 1) := by decide +kernel
theorem dX9_lostShare_11 : decode cX9_lostShare 11 = .ok (.ifCond .gt 14, 3) := by decide +kernel
theorem dX9_lostShare_14 : decode cX9_lostShare 14 = .ok (.new 312, 3) := by decide +kernel
theorem dX9_lostShare_17 : decode cX9_lostShare 17 = .ok (.dup, 1) := by decide +kernel
theorem dX9_lostShare_18 : decode cX9_lostShare 18 = .ok (.ldc_w 314, 3) := by decide +kernel
theorem dX9_lostShare_21 : decode cX9_lostShare 21 = .ok (.invokespecial 316, 3) := by decide +kernel
theorem dX9_lostShare_24 : decode cX9_lostShare 24 = .ok (.athrow, 1) := by decide +kernel
theorem dX9_noteOn_0 : decode cX9_noteOn 0 = .ok (.aload_n 0, 1) := by decide +kernel
theorem dX9_noteOn_1 : decode cX9_noteOn 1 = .ok (.iload_n 1, 1) := by decide +kernel
theorem dX9_noteOn_2 : decode cX9_noteOn 2 = .ok (.invokevirtual 294, 3) := by decide +kernel
theorem dX9_noteOn_5 : decode cX9_noteOn 5 = .ok (.iload_n 2, 1) := by decide +kernel
theorem dX9_noteOn_6 : decode cX9_noteOn 6 = .ok (.invokestatic 259, 3) := by decide +kernel
theorem dX9_noteOn_9 : decode cX9_noteOn 9 = .ok (.aload_n 0, 1) := by decide +kernel
theorem dX9_noteOn_10 : decode cX9_noteOn 10 = .ok (.invokevirtual 177, 3) := by decide +kernel
theorem dX9_noteOn_13 : decode cX9_noteOn 13 = .ok (.iload_n 1, 1) := by decide +kernel
theorem dX9_noteOn_14 : decode cX9_noteOn 14 = .ok (.iload_n 2, 1) := by decide +kernel
theorem dX9_noteOn_15 : decode cX9_noteOn 15 = .ok (.invokevirtual 297, 3) := by decide +kernel
theorem dX9_noteOn_18 : decode cX9_noteOn 18 = .ok (.istore_n 3, 1) := by decide +kernel
theorem dX9_noteOn_19 : decode cX9_noteOn 19 = .ok (.iload_n 3, 1) := by decide +kernel
theorem dX9_noteOn_20 : decode cX9_noteOn 20 = .ok (.iconst (-1), 1) := by decide +kernel
theorem dX9_noteOn_21 : decode cX9_noteOn 21 = .ok (.if_icmp .ne 14, 3) := by decide +kernel
theorem dX9_noteOn_24 : decode cX9_noteOn 24 = .ok (.new 135, 3) := by decide +kernel
theorem dX9_noteOn_27 : decode cX9_noteOn 27 = .ok (.dup, 1) := by decide +kernel
theorem dX9_noteOn_28 : decode cX9_noteOn 28 = .ok (.ldc_w 300, 3) := by decide +kernel
theorem dX9_noteOn_31 : decode cX9_noteOn 31 = .ok (.invokespecial 139, 3) := by decide +kernel
theorem dX9_noteOn_34 : decode cX9_noteOn 34 = .ok (.athrow, 1) := by decide +kernel
theorem dX9_outdate_0 : decode cX9_outdate 0 = .ok (.aload_n 0, 1) := by decide +kernel
theorem dX9_outdate_1 : decode cX9_outdate 1 = .ok (.iconst 0, 1) := by decide +kernel
theorem dX9_outdate_2 : decode cX9_outdate 2 = .ok (.putfield 60, 3) := by decide +kernel
theorem dX9_outdate_5 : decode cX9_outdate 5 = .ok (.aload_n 0, 1) := by decide +kernel
theorem dX9_outdate_6 : decode cX9_outdate 6 = .ok (.iconst 0, 1) := by decide +kernel
theorem dX9_outdate_7 : decode cX9_outdate 7 = .ok (.putfield 63, 3) := by decide +kernel
theorem dX9_outdate_10 : decode cX9_outdate 10 = .ok (.return_, 1) := by decide +kernel
theorem dX9_polyphony_0 : decode cX9_polyphony 0 = .ok (.aload_n 0, 1) := by decide +kernel
theorem dX9_polyphony_1 : decode cX9_polyphony 1 = .ok (.aload_n 0, 1) := by decide +kernel
theorem dX9_polyphony_2 : decode cX9_polyphony 2 = .ok (.invokevirtual 177, 3) := by decide +kernel
theorem dX9_polyphony_5 : decode cX9_polyphony 5 = .ok (.invokevirtual 302, 3) := by decide +kernel
theorem dX9_polyphony_8 : decode cX9_polyphony 8 = .ok (.invokevirtual 306, 3) := by decide +kernel
theorem dX9_polyphony_11 : decode cX9_polyphony 11 = .ok (.ireturn, 1) := by decide +kernel
theorem dX9_putAt_0 : decode cX9_putAt 0 = .ok (.iload_n 1, 1) := by decide +kernel
theorem dX9_putAt_1 : decode cX9_putAt 1 = .ok (.ifCond .lt 13, 3) := by decide +kernel
theorem dX9_putAt_4 : decode cX9_putAt 4 = .ok (.iload_n 1, 1) := by decide +kernel
theorem dX9_putAt_5 : decode cX9_putAt 5 = .ok (.aload_n 0, 1) := by decide +kernel
theorem dX9_putAt_6 : decode cX9_putAt 6 = .ok (.arraylength, 1) := by decide +kernel
theorem dX9_putAt_7 : decode cX9_putAt 7 = .ok (.if_icmp .ge 7, 3) := by decide +kernel
theorem dX9_putAt_10 : decode cX9_putAt 10 = .ok (.aload_n 0, 1) := by decide +kernel
theorem dX9_putAt_11 : decode cX9_putAt 11 = .ok (.iload_n 1, 1) := by decide +kernel
theorem dX9_putAt_12 : decode cX9_putAt 12 = .ok (.iload_n 2, 1) := by decide +kernel
theorem dX9_putAt_13 : decode cX9_putAt 13 = .ok (.iastore, 1) := by decide +kernel
theorem dX9_putAt_14 : decode cX9_putAt 14 = .ok (.return_, 1) := by decide +kernel
theorem dX9_requireIndex_0 : decode cX9_requireIndex 0 = .ok (.iload_n 0, 1) := by decide +kernel
theorem dX9_requireIndex_1 : decode cX9_requireIndex 1 = .ok (.ifCond .lt 8, 3) := by decide +kernel
theorem dX9_requireIndex_4 : decode cX9_requireIndex 4 = .ok (.iload_n 0, 1) := by decide +kernel
theorem dX9_requireIndex_5 : decode cX9_requireIndex 5 = .ok (.iload_n 1, 1) := by decide +kernel
theorem dX9_requireIndex_6 : decode cX9_requireIndex 6 = .ok (.if_icmp .lt 14, 3) := by decide +kernel
theorem dX9_requireIndex_9 : decode cX9_requireIndex 9 = .ok (.new 320, 3) := by decide +kernel
theorem dX9_requireIndex_12 : decode cX9_requireIndex 12 = .ok (.dup, 1) := by decide +kernel
theorem dX9_requireIndex_13 : decode cX9_requireIndex 13 = .ok (.ldc_w 425, 3) := by decide +kernel
theorem dX9_requireIndex_16 : decode cX9_requireIndex 16 = .ok (.invokespecial 324, 3) := by decide +kernel
theorem dX9_requireIndex_19 : decode cX9_requireIndex 19 = .ok (.athrow, 1) := by decide +kernel
theorem dX9_requireIndex_20 : decode cX9_requireIndex 20 = .ok (.return_, 1) := by decide +kernel
theorem dX9_requireRange_0 : decode cX9_requireRange 0 = .ok (.iload_n 0, 1) := by decide +kernel
theorem dX9_requireRange_1 : decode cX9_requireRange 1 = .ok (.iload_n 1, 1) := by decide +kernel
theorem dX9_requireRange_2 : decode cX9_requireRange 2 = .ok (.if_icmp .lt 8, 3) := by decide +kernel
theorem dX9_requireRange_5 : decode cX9_requireRange 5 = .ok (.iload_n 0, 1) := by decide +kernel
theorem dX9_requireRange_6 : decode cX9_requireRange 6 = .ok (.iload_n 2, 1) := by decide +kernel
theorem dX9_requireRange_7 : decode cX9_requireRange 7 = .ok (.if_icmp .le 14, 3) := by decide +kernel
theorem dX9_requireRange_10 : decode cX9_requireRange 10 = .ok (.new 211, 3) := by decide +kernel
theorem dX9_requireRange_13 : decode cX9_requireRange 13 = .ok (.dup, 1) := by decide +kernel
theorem dX9_requireRange_14 : decode cX9_requireRange 14 = .ok (.ldc_w 422, 3) := by decide +kernel
theorem dX9_requireRange_17 : decode cX9_requireRange 17 = .ok (.invokespecial 215, 3) := by decide +kernel
theorem dX9_requireRange_20 : decode cX9_requireRange 20 = .ok (.athrow, 1) := by decide +kernel
theorem dX9_requireRange_21 : decode cX9_requireRange 21 = .ok (.return_, 1) := by decide +kernel
theorem dX9_requireTime_0 : decode cX9_requireTime 0 = .ok (.iload_n 0, 1) := by decide +kernel
theorem dX9_requireTime_1 : decode cX9_requireTime 1 = .ok (.iconst 0, 1) := by decide +kernel
theorem dX9_requireTime_2 : decode cX9_requireTime 2 = .ok (.ldc_w 424, 3) := by decide +kernel
theorem dX9_requireTime_5 : decode cX9_requireTime 5 = .ok (.invokestatic 93, 3) := by decide +kernel
theorem dX9_requireTime_8 : decode cX9_requireTime 8 = .ok (.return_, 1) := by decide +kernel
theorem dX9_requireVoice_0 : decode cX9_requireVoice 0 = .ok (.iload_n 1, 1) := by decide +kernel
theorem dX9_requireVoice_1 : decode cX9_requireVoice 1 = .ok (.aload_n 0, 1) := by decide +kernel
theorem dX9_requireVoice_2 : decode cX9_requireVoice 2 = .ok (.getfield 12, 3) := by decide +kernel
theorem dX9_requireVoice_5 : decode cX9_requireVoice 5 = .ok (.invokevirtual 70, 3) := by decide +kernel
theorem dX9_requireVoice_8 : decode cX9_requireVoice 8 = .ok (.getfield 190, 3) := by decide +kernel
theorem dX9_requireVoice_11 : decode cX9_requireVoice 11 = .ok (.invokestatic 216, 3) := by decide +kernel
theorem dX9_requireVoice_14 : decode cX9_requireVoice 14 = .ok (.return_, 1) := by decide +kernel
theorem dX9_save_0 : decode cX9_save 0 = .ok (.aload_n 0, 1) := by decide +kernel
theorem dX9_save_1 : decode cX9_save 1 = .ok (.getfield 19, 3) := by decide +kernel
theorem dX9_save_4 : decode cX9_save 4 = .ok (.aload_n 0, 1) := by decide +kernel
theorem dX9_save_5 : decode cX9_save 5 = .ok (.getfield 12, 3) := by decide +kernel
theorem dX9_save_8 : decode cX9_save 8 = .ok (.invokevirtual 70, 3) := by decide +kernel
theorem dX9_save_11 : decode cX9_save 11 = .ok (.invokevirtual 392, 3) := by decide +kernel
theorem dX9_save_14 : decode cX9_save 14 = .ok (.aload_n 0, 1) := by decide +kernel
theorem dX9_save_15 : decode cX9_save 15 = .ok (.iconst 1, 1) := by decide +kernel
theorem dX9_save_16 : decode cX9_save 16 = .ok (.putfield 56, 3) := by decide +kernel
theorem dX9_save_19 : decode cX9_save 19 = .ok (.aload_n 0, 1) := by decide +kernel
theorem dX9_save_20 : decode cX9_save 20 = .ok (.getfield 19, 3) := by decide +kernel
theorem dX9_save_23 : decode cX9_save 23 = .ok (.invokevirtual 74, 3) := by decide +kernel
theorem dX9_save_26 : decode cX9_save 26 = .ok (.ireturn, 1) := by decide +kernel
theorem dX9_setSwing_0 : decode cX9_setSwing 0 = .ok (.iload_n 1, 1) := by decide +kernel
theorem dX9_setSwing_1 : decode cX9_setSwing 1 = .ok (.iconst 0, 1) := by decide +kernel
theorem dX9_setSwing_2 : decode cX9_setSwing 2 = .ok (.bipush 50, 2) := by decide +kernel
theorem dX9_setSwing_4 : decode cX9_setSwing 4 = .ok (.invokestatic 93, 3) := by decide +kernel
theorem dX9_setSwing_7 : decode cX9_setSwing 7 = .ok (.aload_n 0, 1) := by decide +kernel
theorem dX9_setSwing_8 : decode cX9_setSwing 8 = .ok (.getfield 12, 3) := by decide +kernel
theorem dX9_setSwing_11 : decode cX9_setSwing 11 = .ok (.invokevirtual 105, 3) := by decide +kernel
theorem dX9_setSwing_14 : decode cX9_setSwing 14 = .ok (.astore_n 2, 1) := by decide +kernel
theorem dX9_setSwing_15 : decode cX9_setSwing 15 = .ok (.aload_n 2, 1) := by decide +kernel
theorem dX9_setSwing_16 : decode cX9_setSwing 16 = .ok (.getfield 193, 3) := by decide +kernel
theorem dX9_setSwing_19 : decode cX9_setSwing 19 = .ok (.getfield 202, 3) := by decide +kernel
theorem dX9_setSwing_22 : decode cX9_setSwing 22 = .ok (.istore_n 3, 1) := by decide +kernel
theorem dX9_setSwing_23 : decode cX9_setSwing 23 = .ok (.aload_n 2, 1) := by decide +kernel
theorem dX9_setSwing_24 : decode cX9_setSwing 24 = .ok (.getfield 193, 3) := by decide +kernel
theorem dX9_setSwing_27 : decode cX9_setSwing 27 = .ok (.iload_n 1, 1) := by decide +kernel
theorem dX9_setSwing_28 : decode cX9_setSwing 28 = .ok (.putfield 202, 3) := by decide +kernel
theorem dX9_setSwing_31 : decode cX9_setSwing 31 = .ok (.aload_n 0, 1) := by decide +kernel
theorem dX9_setSwing_32 : decode cX9_setSwing 32 = .ok (.invokevirtual 121, 3) := by decide +kernel
theorem dX9_setSwing_35 : decode cX9_setSwing 35 = .ok (.iload_n 3, 1) := by decide +kernel
theorem dX9_setSwing_36 : decode cX9_setSwing 36 = .ok (.ireturn, 1) := by decide +kernel
theorem dX9_tickAt_0 : decode cX9_tickAt 0 = .ok (.iload_n 1, 1) := by decide +kernel
theorem dX9_tickAt_1 : decode cX9_tickAt 1 = .ok (.invokestatic 259, 3) := by decide +kernel
theorem dX9_tickAt_4 : decode cX9_tickAt 4 = .ok (.aload_n 0, 1) := by decide +kernel
theorem dX9_tickAt_5 : decode cX9_tickAt 5 = .ok (.getfield 12, 3) := by decide +kernel
theorem dX9_tickAt_8 : decode cX9_tickAt 8 = .ok (.invokevirtual 70, 3) := by decide +kernel
theorem dX9_tickAt_11 : decode cX9_tickAt 11 = .ok (.getfield 193, 3) := by decide +kernel
theorem dX9_tickAt_14 : decode cX9_tickAt 14 = .ok (.iload_n 1, 1) := by decide +kernel
theorem dX9_tickAt_15 : decode cX9_tickAt 15 = .ok (.invokevirtual 262, 3) := by decide +kernel
theorem dX9_tickAt_18 : decode cX9_tickAt 18 = .ok (.ireturn, 1) := by decide +kernel
theorem dX9_upToDateScore_0 : decode cX9_upToDateScore 0 = .ok (.aload_n 0, 1) := by decide +kernel
theorem dX9_upToDateScore_1 : decode cX9_upToDateScore 1 = .ok (.getfield 60, 3) := by decide +kernel
theorem dX9_upToDateScore_4 : decode cX9_upToDateScore 4 = .ok (.ifCond .ne 40, 3) := by decide +kernel
theorem dX9_upToDateScore_7 : decode cX9_upToDateScore 7 = .ok (.aload_n 0, 1) := by decide +kernel
theorem dX9_upToDateScore_8 : decode cX9_upToDateScore 8 = .ok (.getfield 12, 3) := by decide +kernel
theorem dX9_upToDateScore_11 : decode cX9_upToDateScore 11 = .ok (.invokevirtual 70, 3) := by decide +kernel
theorem dX9_upToDateScore_14 : decode cX9_upToDateScore 14 = .ok (.astore_n 1, 1) := by decide +kernel
theorem dX9_upToDateScore_15 : decode cX9_upToDateScore 15 = .ok (.aload_n 0, 1) := by decide +kernel
theorem dX9_upToDateScore_16 : decode cX9_upToDateScore 16 = .ok (.getfield 26, 3) := by decide +kernel
theorem dX9_upToDateScore_19 : decode cX9_upToDateScore 19 = .ok (.aload_n 1, 1) := by decide +kernel
theorem dX9_upToDateScore_20 : decode cX9_upToDateScore 20 = .ok (.invokevirtual 409, 3) := by decide +kernel
theorem dX9_upToDateScore_23 : decode cX9_upToDateScore 23 = .ok (.aload_n 0, 1) := by decide +kernel
theorem dX9_upToDateScore_24 : decode cX9_upToDateScore 24 = .ok (.getfield 26, 3) := by decide +kernel
theorem dX9_upToDateScore_27 : decode cX9_upToDateScore 27 = .ok (.aload_n 1, 1) := by decide +kernel
theorem dX9_upToDateScore_28 : decode cX9_upToDateScore 28 = .ok (.invokevirtual 412, 3) := by decide +kernel
theorem dX9_upToDateScore_31 : decode cX9_upToDateScore 31 = .ok (.aload_n 0, 1) := by decide +kernel
theorem dX9_upToDateScore_32 : decode cX9_upToDateScore 32 = .ok (.getfield 26, 3) := by decide +kernel
theorem dX9_upToDateScore_35 : decode cX9_upToDateScore 35 = .ok (.aload_n 1, 1) := by decide +kernel
theorem dX9_upToDateScore_36 : decode cX9_upToDateScore 36 = .ok (.invokevirtual 415, 3) := by decide +kernel
theorem dX9_upToDateScore_39 : decode cX9_upToDateScore 39 = .ok (.aload_n 0, 1) := by decide +kernel
theorem dX9_upToDateScore_40 : decode cX9_upToDateScore 40 = .ok (.iconst 1, 1) := by decide +kernel
theorem dX9_upToDateScore_41 : decode cX9_upToDateScore 41 = .ok (.putfield 60, 3) := by decide +kernel
theorem dX9_upToDateScore_44 : decode cX9_upToDateScore 44 = .ok (.aload_n 0, 1) := by decide +kernel
theorem dX9_upToDateScore_45 : decode cX9_upToDateScore 45 = .ok (.getfield 26, 3) := by decide +kernel
theorem dX9_upToDateScore_48 : decode cX9_upToDateScore 48 = .ok (.areturn, 1) := by decide +kernel
