theorem dX8_netOf_120 : decode cX8_netOf 120 = .ok (.bipush 8, 2) := by decide +kernel
theorem dX8_netOf_122 : decode cX8_netOf 122 = .ok (.invokevirtual 80, 3) := by decide +kernel
theorem dX8_netOf_125 : decode cX8_netOf 125 = .ok (.ireturn, 1) := by decide +kernel
theorem dX8_pinOf_0 : decode cX8_pinOf 0 = .ok (.aload_n 0, 1) := by decide +kernel
theorem dX8_pinOf_1 : decode cX8_pinOf 1 = .ok (.aload_n 0, 1) := by decide +kernel
theorem dX8_pinOf_2 : decode cX8_pinOf 2 = .ok (.iload_n 1, 1) := by decide +kernel
theorem dX8_pinOf_3 : decode cX8_pinOf 3 = .ok (.invokevirtual 112, 3) := by decide +kernel
theorem dX8_pinOf_6 : decode cX8_pinOf 6 = .ok (.ifCond .eq 23, 3) := by decide +kernel
theorem dX8_pinOf_9 : decode cX8_pinOf 9 = .ok (.iload_n 2, 1) := by decide +kernel
theorem dX8_pinOf_10 : decode cX8_pinOf 10 = .ok (.iconst 0, 1) := by decide +kernel
theorem dX8_pinOf_11 : decode cX8_pinOf 11 = .ok (.aload_n 0, 1) := by decide +kernel
theorem dX8_pinOf_12 : decode cX8_pinOf 12 = .ok (.iload_n 1, 1) := by decide +kernel
theorem dX8_pinOf_13 : decode cX8_pinOf 13 = .ok (.iconst 1, 1) := by decide +kernel
theorem dX8_pinOf_14 : decode cX8_pinOf 14 = .ok (.invokevirtual 80, 3) := by decide +kernel
theorem dX8_pinOf_17 : decode cX8_pinOf 17 = .ok (.iconst 1, 1) := by decide +kernel
theorem dX8_pinOf_18 : decode cX8_pinOf 18 = .ok (.isub, 1) := by decide +kernel
theorem dX8_pinOf_19 : decode cX8_pinOf 19 = .ok (.invokestatic 68, 3) := by decide +kernel
theorem dX8_pinOf_22 : decode cX8_pinOf 22 = .ok (.ifCond .eq 7, 3) := by decide +kernel
theorem dX8_pinOf_25 : decode cX8_pinOf 25 = .ok (.iconst 0, 1) := by decide +kernel
theorem dX8_pinOf_26 : decode cX8_pinOf 26 = .ok (.goto 4, 3) := by decide +kernel
theorem dX8_pinOf_29 : decode cX8_pinOf 29 = .ok (.iconst 1, 1) := by decide +kernel
theorem dX8_pinOf_30 : decode cX8_pinOf 30 = .ok (.invokevirtual 183, 3) := by decide +kernel
theorem dX8_pinOf_33 : decode cX8_pinOf 33 = .ok (.ifCond .eq 7, 3) := by decide +kernel
theorem dX8_pinOf_36 : decode cX8_pinOf 36 = .ok (.iconst 0, 1) := by decide +kernel
theorem dX8_pinOf_37 : decode cX8_pinOf 37 = .ok (.goto 11, 3) := by decide +kernel
theorem dX8_pinOf_40 : decode cX8_pinOf 40 = .ok (.aload_n 0, 1) := by decide +kernel
theorem dX8_pinOf_41 : decode cX8_pinOf 41 = .ok (.iload_n 1, 1) := by decide +kernel
theorem dX8_pinOf_42 : decode cX8_pinOf 42 = .ok (.iconst 2, 1) := by decide +kernel
theorem dX8_pinOf_43 : decode cX8_pinOf 43 = .ok (.iload_n 2, 1) := by decide +kernel
theorem dX8_pinOf_44 : decode cX8_pinOf 44 = .ok (.iadd, 1) := by decide +kernel
theorem dX8_pinOf_45 : decode cX8_pinOf 45 = .ok (.invokevirtual 80, 3) := by decide +kernel
theorem dX8_pinOf_48 : decode cX8_pinOf 48 = .ok (.ireturn, 1) := by decide +kernel
theorem dX8_at_0 : decode cX8_at 0 = .ok (.aload_n 0, 1) := by decide +kernel
theorem dX8_at_1 : decode cX8_at 1 = .ok (.iload_n 1, 1) := by decide +kernel
theorem dX8_at_2 : decode cX8_at 2 = .ok (.iload_n 2, 1) := by decide +kernel
theorem dX8_at_3 : decode cX8_at 3 = .ok (.iload_n 3, 1) := by decide +kernel
theorem dX8_at_4 : decode cX8_at 4 = .ok (.invokestatic 119, 3) := by decide +kernel
theorem dX8_at_7 : decode cX8_at 7 = .ok (.ifCond .eq 7, 3) := by decide +kernel
theorem dX8_at_10 : decode cX8_at 10 = .ok (.iconst 0, 1) := by decide +kernel
theorem dX8_at_11 : decode cX8_at 11 = .ok (.goto 4, 3) := by decide +kernel
theorem dX8_at_14 : decode cX8_at 14 = .ok (.iconst 1, 1) := by decide +kernel
theorem dX8_at_15 : decode cX8_at 15 = .ok (.invokevirtual 183, 3) := by decide +kernel
theorem dX8_at_18 : decode cX8_at 18 = .ok (.ifCond .eq 5, 3) := by decide +kernel
theorem dX8_at_21 : decode cX8_at 21 = .ok (.iconst 0, 1) := by decide +kernel
theorem dX8_at_22 : decode cX8_at 22 = .ok (.ireturn, 1) := by decide +kernel
theorem dX8_at_23 : decode cX8_at 23 = .ok (.iload_n 1, 1) := by decide +kernel
theorem dX8_at_24 : decode cX8_at 24 = .ok (.iload_n 2, 1) := by decide +kernel
theorem dX8_at_25 : decode cX8_at 25 = .ok (.iload_n 3, 1) := by decide +kernel
theorem dX8_at_26 : decode cX8_at 26 = .ok (.invokestatic 115, 3) := by decide +kernel
theorem dX8_at_29 : decode cX8_at 29 = .ok (.istore 4, 2) := by decide +kernel
theorem dX8_at_31 : decode cX8_at 31 = .ok (.aload_n 0, 1) := by decide +kernel
theorem dX8_at_32 : decode cX8_at 32 = .ok (.iload 4, 2) := by decide +kernel
theorem dX8_at_34 : decode cX8_at 34 = .ok (.invokevirtual 76, 3) := by decide +kernel
theorem dX8_at_37 : decode cX8_at 37 = .ok (.iconst 1, 1) := by decide +kernel
theorem dX8_at_38 : decode cX8_at 38 = .ok (.if_icmp .ne 8, 3) := by decide +kernel
theorem dX8_at_41 : decode cX8_at 41 = .ok (.bipush (-2), 2) := by decide +kernel
theorem dX8_at_43 : decode cX8_at 43 = .ok (.goto 9, 3) := by decide +kernel
theorem dX8_at_46 : decode cX8_at 46 = .ok (.aload_n 0, 1) := by decide +kernel
theorem dX8_at_47 : decode cX8_at 47 = .ok (.iload 4, 2) := by decide +kernel
theorem dX8_at_49 : decode cX8_at 49 = .ok (.invokevirtual 87, 3) := by decide +kernel
theorem dX8_at_52 : decode cX8_at 52 = .ok (.ireturn, 1) := by decide +kernel
theorem dX8_isHole_0 : decode cX8_isHole 0 = .ok (.aload_n 0, 1) := by decide +kernel
theorem dX8_isHole_1 : decode cX8_isHole 1 = .ok (.iload_n 1, 1) := by decide +kernel
theorem dX8_isHole_2 : decode cX8_isHole 2 = .ok (.iload_n 2, 1) := by decide +kernel
theorem dX8_isHole_3 : decode cX8_isHole 3 = .ok (.invokestatic 72, 3) := by decide +kernel
theorem dX8_isHole_6 : decode cX8_isHole 6 = .ok (.ifCond .eq 7, 3) := by decide +kernel
theorem dX8_isHole_9 : decode cX8_isHole 9 = .ok (.iconst 0, 1) := by decide +kernel
theorem dX8_isHole_10 : decode cX8_isHole 10 = .ok (.goto 4, 3) := by decide +kernel
theorem dX8_isHole_13 : decode cX8_isHole 13 = .ok (.iconst 1, 1) := by decide +kernel
theorem dX8_isHole_14 : decode cX8_isHole 14 = .ok (.invokevirtual 183, 3) := by decide +kernel
theorem dX8_isHole_17 : decode cX8_isHole 17 = .ok (.ifCond .ne 25, 3) := by decide +kernel
theorem dX8_isHole_20 : decode cX8_isHole 20 = .ok (.aload_n 0, 1) := by decide +kernel
theorem dX8_isHole_21 : decode cX8_isHole 21 = .ok (.getfield 7, 3) := by decide +kernel
theorem dX8_isHole_24 : decode cX8_isHole 24 = .ok (.sipush 151, 3) := by decide +kernel
theorem dX8_isHole_27 : decode cX8_isHole 27 = .ok (.iload_n 1, 1) := by decide +kernel
theorem dX8_isHole_28 : decode cX8_isHole 28 = .ok (.iload_n 2, 1) := by decide +kernel
theorem dX8_isHole_29 : decode cX8_isHole 29 = .ok (.iconst 0, 1) := by decide +kernel
theorem dX8_isHole_30 : decode cX8_isHole 30 = .ok (.invokestatic 115, 3) := by decide +kernel
theorem dX8_isHole_33 : decode cX8_isHole 33 = .ok (.iadd, 1) := by decide +kernel
theorem dX8_isHole_34 : decode cX8_isHole 34 = .ok (.iaload, 1) := by decide +kernel
theorem dX8_isHole_35 : decode cX8_isHole 35 = .ok (.ifCond .le 7, 3) := by decide +kernel
theorem dX8_isHole_38 : decode cX8_isHole 38 = .ok (.iconst 1, 1) := by decide +kernel
theorem dX8_isHole_39 : decode cX8_isHole 39 = .ok (.goto 4, 3) := by decide +kernel
theorem dX8_isHole_42 : decode cX8_isHole 42 = .ok (.iconst 0, 1) := by decide +kernel
theorem dX8_isHole_43 : decode cX8_isHole 43 = .ok (.ireturn, 1) := by decide +kernel
theorem dX8_price_0 : decode cX8_price 0 = .ok (.aload_n 0, 1) := by decide +kernel
theorem dX8_price_1 : decode cX8_price 1 = .ok (.aload_n 0, 1) := by decide +kernel
theorem dX8_price_2 : decode cX8_price 2 = .ok (.iload_n 1, 1) := by decide +kernel
theorem dX8_price_3 : decode cX8_price 3 = .ok (.invokevirtual 112, 3) := by decide +kernel
theorem dX8_price_6 : decode cX8_price 6 = .ok (.ifCond .eq 17, 3) := by decide +kernel
theorem dX8_price_9 : decode cX8_price 9 = .ok (.iload_n 2, 1) := by decide +kernel
theorem dX8_price_10 : decode cX8_price 10 = .ok (.iload_n 3, 1) := by decide +kernel
theorem dX8_price_11 : decode cX8_price 11 = .ok (.iload 4, 2) := by decide +kernel
theorem dX8_price_13 : decode cX8_price 13 = .ok (.invokestatic 119, 3) := by decide +kernel
theorem dX8_price_16 : decode cX8_price 16 = .ok (.ifCond .eq 7, 3) := by decide +kernel
theorem dX8_price_19 : decode cX8_price 19 = .ok (.iconst 0, 1) := by decide +kernel
theorem dX8_price_20 : decode cX8_price 20 = .ok (.goto 4, 3) := by decide +kernel
theorem dX8_price_23 : decode cX8_price 23 = .ok (.iconst 1, 1) := by decide +kernel
theorem dX8_price_24 : decode cX8_price 24 = .ok (.invokevirtual 183, 3) := by decide +kernel
theorem dX8_price_27 : decode cX8_price 27 = .ok (.ifCond .eq 7, 3) := by decide +kernel
theorem dX8_price_30 : decode cX8_price 30 = .ok (.iconst 0, 1) := by decide +kernel
theorem dX8_price_31 : decode cX8_price 31 = .ok (.goto 15, 3) := by decide +kernel
theorem dX8_price_34 : decode cX8_price 34 = .ok (.aload_n 0, 1) := by decide +kernel
theorem dX8_price_35 : decode cX8_price 35 = .ok (.iload_n 1, 1) := by decide +kernel
theorem dX8_price_36 : decode cX8_price 36 = .ok (.iload_n 2, 1) := by decide +kernel
theorem dX8_price_37 : decode cX8_price 37 = .ok (.iload_n 3, 1) := by decide +kernel
theorem dX8_price_38 : decode cX8_price 38 = .ok (.iload 4, 2) := by decide +kernel
theorem dX8_price_40 : decode cX8_price 40 = .ok (.invokestatic 115, 3) := by decide +kernel
theorem dX8_price_43 : decode cX8_price 43 = .ok (.invokevirtual 129, 3) := by decide +kernel
theorem dX8_price_46 : decode cX8_price 46 = .ok (.ireturn, 1) := by decide +kernel
theorem dX8_hasNoWay_0 : decode cX8_hasNoWay 0 = .ok (.aload_n 0, 1) := by decide +kernel
theorem dX8_hasNoWay_1 : decode cX8_hasNoWay 1 = .ok (.iload_n 1, 1) := by decide +kernel
theorem dX8_hasNoWay_2 : decode cX8_hasNoWay 2 = .ok (.bipush 6, 2) := by decide +kernel
theorem dX8_hasNoWay_4 : decode cX8_hasNoWay 4 = .ok (.invokevirtual 80, 3) := by decide +kernel
theorem dX8_hasNoWay_7 : decode cX8_hasNoWay 7 = .ok (.iconst 1, 1) := by decide +kernel
theorem dX8_hasNoWay_8 : decode cX8_hasNoWay 8 = .ok (.if_icmp .eq 22, 3) := by decide +kernel
theorem dX8_hasNoWay_11 : decode cX8_hasNoWay 11 = .ok (.aload_n 0, 1) := by decide +kernel
theorem dX8_hasNoWay_12 : decode cX8_hasNoWay 12 = .ok (.iload_n 1, 1) := by decide +kernel
theorem dX8_hasNoWay_13 : decode cX8_hasNoWay 13 = .ok (.iconst 1, 1) := by decide +kernel
theorem dX8_hasNoWay_14 : decode cX8_hasNoWay 14 = .ok (.invokevirtual 80, 3) := by decide +kernel
theorem dX8_hasNoWay_17 : decode cX8_hasNoWay 17 = .ok (.iconst 2, 1) := by decide +kernel
theorem dX8_hasNoWay_18 : decode cX8_hasNoWay 18 = .ok (.if_icmp .lt 12, 3) := by decide +kernel
theorem dX8_hasNoWay_21 : decode cX8_hasNoWay 21 = .ok (.aload_n 0, 1) := by decide +kernel
theorem dX8_hasNoWay_22 : decode cX8_hasNoWay 22 = .ok (.iload_n 1, 1) := by decide +kernel
theorem dX8_hasNoWay_23 : decode cX8_hasNoWay 23 = .ok (.iload_n 2, 1) := by decide +kernel
theorem dX8_hasNoWay_24 : decode cX8_hasNoWay 24 = .ok (.invokevirtual 154, 3) := by decide +kernel
theorem dX8_hasNoWay_27 : decode cX8_hasNoWay 27 = .ok (.ifCond .le 7, 3) := by decide +kernel
theorem dX8_hasNoWay_30 : decode cX8_hasNoWay 30 = .ok (.iconst 1, 1) := by decide +kernel
theorem dX8_hasNoWay_31 : decode cX8_hasNoWay 31 = .ok (.goto 4, 3) := by decide +kernel
theorem dX8_hasNoWay_34 : decode cX8_hasNoWay 34 = .ok (.iconst 0, 1) := by decide +kernel
theorem dX8_hasNoWay_35 : decode cX8_hasNoWay 35 = .ok (.ireturn, 1) := by decide +kernel
theorem dX8_wouldCost_0 : decode cX8_wouldCost 0 = .ok (.aload_n 0, 1) := by decide +kernel
theorem dX8_wouldCost_1 : decode cX8_wouldCost 1 = .ok (.aload_n 0, 1) := by decide +kernel
theorem dX8_wouldCost_2 : decode cX8_wouldCost 2 = .ok (.iload_n 1, 1) := by decide +kernel
theorem dX8_wouldCost_3 : decode cX8_wouldCost 3 = .ok (.invokevirtual 112, 3) := by decide +kernel
theorem dX8_wouldCost_6 : decode cX8_wouldCost 6 = .ok (.ifCond .ne 7, 3) := by decide +kernel
theorem dX8_wouldCost_9 : decode cX8_wouldCost 9 = .ok (.iconst 1, 1) := by decide +kernel
theorem dX8_wouldCost_10 : decode cX8_wouldCost 10 = .ok (.goto 17, 3) := by decide +kernel
theorem dX8_wouldCost_13 : decode cX8_wouldCost 13 = .ok (.aload_n 0, 1) := by decide +kernel
theorem dX8_wouldCost_14 : decode cX8_wouldCost 14 = .ok (.iload_n 1, 1) := by decide +kernel
theorem dX8_wouldCost_15 : decode cX8_wouldCost 15 = .ok (.iconst 0, 1) := by decide +kernel
theorem dX8_wouldCost_16 : decode cX8_wouldCost 16 = .ok (.invokevirtual 186, 3) := by decide +kernel
theorem dX8_wouldCost_19 : decode cX8_wouldCost 19 = .ok (.ifCond .eq 7, 3) := by decide +kernel
theorem dX8_wouldCost_22 : decode cX8_wouldCost 22 = .ok (.iconst 2, 1) := by decide +kernel
theorem dX8_wouldCost_23 : decode cX8_wouldCost 23 = .ok (.goto 4, 3) := by decide +kernel
theorem dX8_wouldCost_26 : decode cX8_wouldCost 26 = .ok (.iconst 0, 1) := by decide +kernel
theorem dX8_wouldCost_27 : decode cX8_wouldCost 27 = .ok (.invokevirtual 183, 3) := by decide +kernel
theorem dX8_wouldCost_30 : decode cX8_wouldCost 30 = .ok (.ifCond .eq 7, 3) := by decide +kernel
theorem dX8_wouldCost_33 : decode cX8_wouldCost 33 = .ok (.iconst 0, 1) := by decide +kernel
theorem dX8_wouldCost_34 : decode cX8_wouldCost 34 = .ok (.goto 7, 3) := by decide +kernel
theorem dX8_wouldCost_37 : decode cX8_wouldCost 37 = .ok (.aload_n 0, 1) := by decide +kernel
theorem dX8_wouldCost_38 : decode cX8_wouldCost 38 = .ok (.getfield 139, 3) := by decide +kernel
theorem dX8_wouldCost_41 : decode cX8_wouldCost 41 = .ok (.ireturn, 1) := by decide +kernel
theorem dX8_wouldRip_0 : decode cX8_wouldRip 0 = .ok (.aload_n 0, 1) := by decide +kernel
theorem dX8_wouldRip_1 : decode cX8_wouldRip 1 = .ok (.aload_n 0, 1) := by decide +kernel
theorem dX8_wouldRip_2 : decode cX8_wouldRip 2 = .ok (.iload_n 1, 1) := by decide +kernel
theorem dX8_wouldRip_3 : decode cX8_wouldRip 3 = .ok (.invokevirtual 112, 3) := by decide +kernel
theorem dX8_wouldRip_6 : decode cX8_wouldRip 6 = .ok (.ifCond .ne 7, 3) := by decide +kernel
theorem dX8_wouldRip_9 : decode cX8_wouldRip 9 = .ok (.iconst 1, 1) := by decide +kernel
theorem dX8_wouldRip_10 : decode cX8_wouldRip 10 = .ok (.goto 17, 3) := by decide +kernel
theorem dX8_wouldRip_13 : decode cX8_wouldRip 13 = .ok (.aload_n 0, 1) := by decide +kernel
theorem dX8_wouldRip_14 : decode cX8_wouldRip 14 = .ok (.iload_n 1, 1) := by decide +kernel
theorem dX8_wouldRip_15 : decode cX8_wouldRip 15 = .ok (.iconst 1, 1) := by decide +kernel
theorem dX8_wouldRip_16 : decode cX8_wouldRip 16 = .ok (.invokevirtual 186, 3) := by decide +kernel
theorem dX8_wouldRip_19 : decode cX8_wouldRip 19 = .ok (.ifCond .eq 7, 3) := by decide +kernel
theorem dX8_wouldRip_22 : decode cX8_wouldRip 22 = .ok (.iconst 2, 1) := by decide +kernel
theorem dX8_wouldRip_23 : decode cX8_wouldRip 23 = .ok (.goto 4, 3) := by decide +kernel
theorem dX8_wouldRip_26 : decode cX8_wouldRip 26 = .ok (.iconst 0, 1) := by decide +kernel
theorem dX8_wouldRip_27 : decode cX8_wouldRip 27 = .ok (.invokevirtual 183, 3) := by decide +kernel
theorem dX8_wouldRip_30 : decode cX8_wouldRip 30 = .ok (.ifCond .eq 7, 3) := by decide +kernel
theorem dX8_wouldRip_33 : decode cX8_wouldRip 33 = .ok (.iconst 0, 1) := by decide +kernel
theorem dX8_wouldRip_34 : decode cX8_wouldRip 34 = .ok (.goto 8, 3) := by decide +kernel
theorem dX8_wouldRip_37 : decode cX8_wouldRip 37 = .ok (.aload_n 0, 1) := by decide +kernel
theorem dX8_wouldRip_38 : decode cX8_wouldRip 38 = .ok (.iload_n 1, 1) := by decide +kernel
theorem dX8_wouldRip_39 : decode cX8_wouldRip 39 = .ok (.invokevirtual 171, 3) := by decide +kernel
theorem dX8_wouldRip_42 : decode cX8_wouldRip 42 = .ok (.ireturn, 1) := by decide +kernel
theorem dX8_reach_0 : decode cX8_reach 0 = .ok (.aload_n 0, 1) := by decide +kernel
theorem dX8_reach_1 : decode cX8_reach 1 = .ok (.aload_n 0, 1) := by decide +kernel
theorem dX8_reach_2 : decode cX8_reach 2 = .ok (.iload_n 1, 1) := by decide +kernel
theorem dX8_reach_3 : decode cX8_reach 3 = .ok (.invokevirtual 112, 3) := by decide +kernel
theorem dX8_reach_6 : decode cX8_reach 6 = .ok (.ifCond .eq 23, 3) := by decide +kernel
theorem dX8_reach_9 : decode cX8_reach 9 = .ok (.iload_n 2, 1) := by decide +kernel
theorem dX8_reach_10 : decode cX8_reach 10 = .ok (.iconst 0, 1) := by decide +kernel
theorem dX8_reach_11 : decode cX8_reach 11 = .ok (.aload_n 0, 1) := by decide +kernel
theorem dX8_reach_12 : decode cX8_reach 12 = .ok (.iload_n 1, 1) := by decide +kernel
theorem dX8_reach_13 : decode cX8_reach 13 = .ok (.iconst 1, 1) := by decide +kernel
theorem dX8_reach_14 : decode cX8_reach 14 = .ok (.invokevirtual 80, 3) := by decide +kernel
theorem dX8_reach_17 : decode cX8_reach 17 = .ok (.iconst 1, 1) := by decide +kernel
theorem dX8_reach_18 : decode cX8_reach 18 = .ok (.isub, 1) := by decide +kernel
theorem dX8_reach_19 : decode cX8_reach 19 = .ok (.invokestatic 68, 3) := by decide +kernel
theorem dX8_reach_22 : decode cX8_reach 22 = .ok (.ifCond .eq 7, 3) := by decide +kernel
theorem dX8_reach_25 : decode cX8_reach 25 = .ok (.iconst 0, 1) := by decide +kernel
theorem dX8_reach_26 : decode cX8_reach 26 = .ok (.goto 4, 3) := by decide +kernel
theorem dX8_reach_29 : decode cX8_reach 29 = .ok (.iconst 1, 1) := by decide +kernel
theorem dX8_reach_30 : decode cX8_reach 30 = .ok (.invokevirtual 183, 3) := by decide +kernel
theorem dX8_reach_33 : decode cX8_reach 33 = .ok (.ifCond .eq 5, 3) := by decide +kernel
theorem dX8_reach_36 : decode cX8_reach 36 = .ok (.iconst 0, 1) := by decide +kernel
theorem dX8_reach_37 : decode cX8_reach 37 = .ok (.ireturn, 1) := by decide +kernel
theorem dX8_reach_38 : decode cX8_reach 38 = .ok (.iconst 0, 1) := by decide +kernel
theorem dX8_reach_39 : decode cX8_reach 39 = .ok (.istore_n 3, 1) := by decide +kernel
theorem dX8_reach_40 : decode cX8_reach 40 = .ok (.iload_n 3, 1) := by decide +kernel
theorem dX8_reach_41 : decode cX8_reach 41 = .ok (.bipush 96, 2) := by decide +kernel
theorem dX8_reach_43 : decode cX8_reach 43 = .ok (.if_icmp .ge 16, 3) := by decide +kernel
theorem dX8_reach_46 : decode cX8_reach 46 = .ok (.aload_n 0, 1) := by decide +kernel
theorem dX8_reach_47 : decode cX8_reach 47 = .ok (.getfield 36, 3) := by decide +kernel
theorem dX8_reach_50 : decode cX8_reach 50 = .ok (.iload_n 3, 1) := by decide +kernel
theorem dX8_reach_51 : decode cX8_reach 51 = .ok (.iconst 0, 1) := by decide +kernel
theorem dX8_reach_52 : decode cX8_reach 52 = .ok (.iastore, 1) := by decide +kernel
theorem dX8_reach_53 : decode cX8_reach 53 = .ok (.iinc 3 1, 3) := by decide +kernel
theorem dX8_reach_56 : decode cX8_reach 56 = .ok (.goto (-16), 3) := by decide +kernel
theorem dX8_reach_59 : decode cX8_reach 59 = .ok (.aload_n 0, 1) := by decide +kernel
theorem dX8_reach_60 : decode cX8_reach 60 = .ok (.aload_n 0, 1) := by decide +kernel
theorem dX8_reach_61 : decode cX8_reach 61 = .ok (.iload_n 1, 1) := by decide +kernel
theorem dX8_reach_62 : decode cX8_reach 62 = .ok (.iconst 2, 1) := by decide +kernel
theorem dX8_reach_63 : decode cX8_reach 63 = .ok (.iload_n 2, 1) := by decide +kernel
theorem dX8_reach_64 : decode cX8_reach 64 = .ok (.iadd, 1) := by decide +kernel
theorem dX8_reach_65 : decode cX8_reach 65 = .ok (.invokevirtual 80, 3) := by decide +kernel
theorem dX8_reach_68 : decode cX8_reach 68 = .ok (.invokevirtual 142, 3) := by decide +kernel
theorem dX8_reach_71 : decode cX8_reach 71 = .ok (.aload_n 0, 1) := by decide +kernel
theorem dX8_reach_72 : decode cX8_reach 72 = .ok (.iload_n 1, 1) := by decide +kernel
theorem dX8_reach_73 : decode cX8_reach 73 = .ok (.iconst 0, 1) := by decide +kernel
theorem dX8_reach_74 : decode cX8_reach 74 = .ok (.invokevirtual 146, 3) := by decide +kernel
theorem dX8_reach_77 : decode cX8_reach 77 = .ok (.iconst 0, 1) := by decide +kernel
theorem dX8_reach_78 : decode cX8_reach 78 = .ok (.istore_n 3, 1) := by decide +kernel
theorem dX8_reach_79 : decode cX8_reach 79 = .ok (.iconst 0, 1) := by decide +kernel
theorem dX8_reach_80 : decode cX8_reach 80 = .ok (.istore 4, 2) := by decide +kernel
theorem dX8_reach_82 : decode cX8_reach 82 = .ok (.iload 4, 2) := by decide +kernel
theorem dX8_reach_84 : decode cX8_reach 84 = .ok (.bipush 96, 2) := by decide +kernel
theorem dX8_reach_86 : decode cX8_reach 86 = .ok (.if_icmp .ge 29, 3) := by decide +kernel
theorem dX8_reach_89 : decode cX8_reach 89 = .ok (.iload_n 3, 1) := by decide +kernel
theorem dX8_reach_90 : decode cX8_reach 90 = .ok (.aload_n 0, 1) := by decide +kernel
theorem dX8_reach_91 : decode cX8_reach 91 = .ok (.getfield 33, 3) := by decide +kernel
theorem dX8_reach_94 : decode cX8_reach 94 = .ok (.iload 4, 2) := by decide +kernel
theorem dX8_reach_96 : decode cX8_reach 96 = .ok (.iaload, 1) := by decide +kernel
theorem dX8_reach_97 : decode cX8_reach 97 = .ok (.ldc 132, 2) := by decide +kernel
theorem dX8_reach_99 : decode cX8_reach 99 = .ok (.if_icmp .ge 7, 3) := by decide +kernel
theorem dX8_reach_102 : decode cX8_reach 102 = .ok (.iconst 1, 1) := by decide +kernel
theorem dX8_reach_103 : decode cX8_reach 103 = .ok (.goto 4, 3) := by decide +kernel
theorem dX8_reach_106 : decode cX8_reach 106 = .ok (.iconst 0, 1) := by decide +kernel
theorem dX8_reach_107 : decode cX8_reach 107 = .ok (.iadd, 1) := by decide +kernel
theorem dX8_reach_108 : decode cX8_reach 108 = .ok (.istore_n 3, 1) := by decide +kernel
theorem dX8_reach_109 : decode cX8_reach 109 = .ok (.iinc 4 1, 3) := by decide +kernel
theorem dX8_reach_112 : decode cX8_reach 112 = .ok (.goto (-30), 3) := by decide +kernel
theorem dX8_reach_115 : decode cX8_reach 115 = .ok (.iload_n 3, 1) := by decide +kernel
theorem dX8_reach_116 : decode cX8_reach 116 = .ok (.ireturn, 1) := by decide +kernel
theorem dX8_cellsOf_0 : decode cX8_cellsOf 0 = .ok (.aload_n 0, 1) := by decide +kernel
theorem dX8_cellsOf_1 : decode cX8_cellsOf 1 = .ok (.aload_n 0, 1) := by decide +kernel
theorem dX8_cellsOf_2 : decode cX8_cellsOf 2 = .ok (.iload_n 1, 1) := by decide +kernel
theorem dX8_cellsOf_3 : decode cX8_cellsOf 3 = .ok (.invokevirtual 112, 3) := by decide +kernel
theorem dX8_cellsOf_6 : decode cX8_cellsOf 6 = .ok (.ifCond .eq 7, 3) := by decide +kernel
theorem dX8_cellsOf_9 : decode cX8_cellsOf 9 = .ok (.iconst 0, 1) := by decide +kernel
theorem dX8_cellsOf_10 : decode cX8_cellsOf 10 = .ok (.goto 4, 3) := by decide +kernel
theorem dX8_cellsOf_13 : decode cX8_cellsOf 13 = .ok (.iconst 1, 1) := by decide +kernel
theorem dX8_cellsOf_14 : decode cX8_cellsOf 14 = .ok (.invokevirtual 183, 3) := by decide +kernel
theorem dX8_cellsOf_17 : decode cX8_cellsOf 17 = .ok (.ifCond .eq 5, 3) := by decide +kernel
theorem dX8_cellsOf_20 : decode cX8_cellsOf 20 = .ok (.iconst 0, 1) := by decide +kernel
theorem dX8_cellsOf_21 : decode cX8_cellsOf 21 = .ok (.ireturn, 1) := by decide +kernel
theorem dX8_cellsOf_22 : decode cX8_cellsOf 22 = .ok (.iconst 0, 1) := by decide +kernel
theorem dX8_cellsOf_23 : decode cX8_cellsOf 23 = .ok (.istore_n 2, 1) := by decide +kernel
theorem dX8_cellsOf_24 : decode cX8_cellsOf 24 = .ok (.iconst 0, 1) := by decide +kernel
theorem dX8_cellsOf_25 : decode cX8_cellsOf 25 = .ok (.istore_n 3, 1) := by decide +kernel
theorem dX8_cellsOf_26 : decode cX8_cellsOf 26 = .ok (.iload_n 3, 1) := by decide +kernel
theorem dX8_cellsOf_27 : decode cX8_cellsOf 27 = .ok (.bipush 96, 2) := by decide +kernel
theorem dX8_cellsOf_29 : decode cX8_cellsOf 29 = .ok (.if_icmp .ge 26, 3) := by decide +kernel
theorem dX8_cellsOf_32 : decode cX8_cellsOf 32 = .ok (.iload_n 2, 1) := by decide +kernel
theorem dX8_cellsOf_33 : decode cX8_cellsOf 33 = .ok (.aload_n 0, 1) := by decide +kernel
theorem dX8_cellsOf_34 : decode cX8_cellsOf 34 = .ok (.iload_n 3, 1) := by decide +kernel
theorem dX8_cellsOf_35 : decode cX8_cellsOf 35 = .ok (.invokevirtual 87, 3) := by decide +kernel
theorem dX8_cellsOf_38 : decode cX8_cellsOf 38 = .ok (.iload_n 1, 1) := by decide +kernel
theorem dX8_cellsOf_39 : decode cX8_cellsOf 39 = .ok (.if_icmp .ne 7, 3) := by decide +kernel
theorem dX8_cellsOf_42 : decode cX8_cellsOf 42 = .ok (.iconst 1, 1) := by decide +kernel
theorem dX8_cellsOf_43 : decode cX8_cellsOf 43 = .ok (.goto 4, 3) := by decide +kernel
theorem dX8_cellsOf_46 : decode cX8_cellsOf 46 = .ok (.iconst 0, 1) := by decide +kernel
theorem dX8_cellsOf_47 : decode cX8_cellsOf 47 = .ok (.iadd, 1) := by decide +kernel
theorem dX8_cellsOf_48 : decode cX8_cellsOf 48 = .ok (.istore_n 2, 1) := by decide +kernel
theorem dX8_cellsOf_49 : decode cX8_cellsOf 49 = .ok (.iinc 3 1, 3) := by decide +kernel
theorem dX8_cellsOf_52 : decode cX8_cellsOf 52 = .ok (.goto (-26), 3) := by decide +kernel
theorem dX8_cellsOf_55 : decode cX8_cellsOf 55 = .ok (.iload_n 2, 1) := by decide +kernel
theorem dX8_cellsOf_56 : decode cX8_cellsOf 56 = .ok (.ireturn, 1) := by decide +kernel
theorem dX8_cellsAgain_0 : decode cX8_cellsAgain 0 = .ok (.aload_n 0, 1) := by decide +kernel
theorem dX8_cellsAgain_1 : decode cX8_cellsAgain 1 = .ok (.aload_n 0, 1) := by decide +kernel
theorem dX8_cellsAgain_2 : decode cX8_cellsAgain 2 = .ok (.iload_n 1, 1) := by decide +kernel
theorem dX8_cellsAgain_3 : decode cX8_cellsAgain 3 = .ok (.invokevirtual 112, 3) := by decide +kernel
theorem dX8_cellsAgain_6 : decode cX8_cellsAgain 6 = .ok (.ifCond .eq 7, 3) := by decide +kernel
theorem dX8_cellsAgain_9 : decode cX8_cellsAgain 9 = .ok (.iconst 0, 1) := by decide +kernel
theorem dX8_cellsAgain_10 : decode cX8_cellsAgain 10 = .ok (.goto 4, 3) := by decide +kernel
theorem dX8_cellsAgain_13 : decode cX8_cellsAgain 13 = .ok (.iconst 1, 1) := by decide +kernel
theorem dX8_cellsAgain_14 : decode cX8_cellsAgain 14 = .ok (.invokevirtual 183, 3) := by decide +kernel
theorem dX8_cellsAgain_17 : decode cX8_cellsAgain 17 = .ok (.ifCond .eq 7, 3) := by decide +kernel
theorem dX8_cellsAgain_20 : decode cX8_cellsAgain 20 = .ok (.iconst 0, 1) := by decide +kernel
theorem dX8_cellsAgain_21 : decode cX8_cellsAgain 21 = .ok (.goto 17, 3) := by decide +kernel
theorem dX8_cellsAgain_24 : decode cX8_cellsAgain 24 = .ok (.iconst 2, 1) := by decide +kernel
theorem dX8_cellsAgain_25 : decode cX8_cellsAgain 25 = .ok (.aload_n 0, 1) := by decide +kernel
theorem dX8_cellsAgain_26 : decode cX8_cellsAgain 26 = .ok (.iload_n 1, 1) := by decide +kernel
theorem dX8_cellsAgain_27 : decode cX8_cellsAgain 27 = .ok (.iconst 1, 1) := by decide +kernel
theorem dX8_cellsAgain_28 : decode cX8_cellsAgain 28 = .ok (.invokevirtual 80, 3) := by decide +kernel
theorem dX8_cellsAgain_31 : decode cX8_cellsAgain 31 = .ok (.imul, 1) := by decide +kernel
theorem dX8_cellsAgain_32 : decode cX8_cellsAgain 32 = .ok (.aload_n 0, 1) := by decide +kernel
theorem dX8_cellsAgain_33 : decode cX8_cellsAgain 33 = .ok (.iload_n 1, 1) := by decide +kernel
theorem dX8_cellsAgain_34 : decode cX8_cellsAgain 34 = .ok (.invokevirtual 180, 3) := by decide +kernel
theorem dX8_cellsAgain_37 : decode cX8_cellsAgain 37 = .ok (.iadd, 1) := by decide +kernel
theorem dX8_cellsAgain_38 : decode cX8_cellsAgain 38 = .ok (.ireturn, 1) := by decide +kernel
theorem dX8_holes_0 : decode cX8_holes 0 = .ok (.aload_n 0, 1) := by decide +kernel
theorem dX8_holes_1 : decode cX8_holes 1 = .ok (.iconst 0, 1) := by decide +kernel
theorem dX8_holes_2 : decode cX8_holes 2 = .ok (.putfield 45, 3) := by decide +kernel
theorem dX8_holes_5 : decode cX8_holes 5 = .ok (.aload_n 0, 1) := by decide +kernel
theorem dX8_holes_6 : decode cX8_holes 6 = .ok (.invokevirtual 162, 3) := by decide +kernel
theorem dX8_holes_9 : decode cX8_holes 9 = .ok (.ireturn, 1) := by decide +kernel
theorem dX8_holesAgain_0 : decode cX8_holesAgain 0 = .ok (.aload_n 0, 1) := by decide +kernel
theorem dX8_holesAgain_1 : decode cX8_holesAgain 1 = .ok (.iconst 0, 1) := by decide +kernel
theorem dX8_holesAgain_2 : decode cX8_holesAgain 2 = .ok (.putfield 45, 3) := by decide +kernel
theorem dX8_holesAgain_5 : decode cX8_holesAgain 5 = .ok (.iconst 0, 1) := by decide +kernel
theorem dX8_holesAgain_6 : decode cX8_holesAgain 6 = .ok (.istore_n 1, 1) := by decide +kernel
theorem dX8_holesAgain_7 : decode cX8_holesAgain 7 = .ok (.iconst 0, 1) := by decide +kernel
theorem dX8_holesAgain_8 : decode cX8_holesAgain 8 = .ok (.istore_n 2, 1) := by decide +kernel
theorem dX8_holesAgain_9 : decode cX8_holesAgain 9 = .ok (.iload_n 2, 1) := by decide +kernel
theorem dX8_holesAgain_10 : decode cX8_holesAgain 10 = .ok (.aload_n 0, 1) := by decide +kernel
theorem dX8_holesAgain_11 : decode cX8_holesAgain 11 = .ok (.getfield 7, 3) := by decide +kernel
theorem dX8_holesAgain_14 : decode cX8_holesAgain 14 = .ok (.iconst 0, 1) := by decide +kernel
theorem dX8_holesAgain_15 : decode cX8_holesAgain 15 = .ok (.iaload, 1) := by decide +kernel
theorem dX8_holesAgain_16 : decode cX8_holesAgain 16 = .ok (.if_icmp .ge 17, 3) := by decide +kernel
theorem dX8_holesAgain_19 : decode cX8_holesAgain 19 = .ok (.iload_n 1, 1) := by decide +kernel
theorem dX8_holesAgain_20 : decode cX8_holesAgain 20 = .ok (.aload_n 0, 1) := by decide +kernel
theorem dX8_holesAgain_21 : decode cX8_holesAgain 21 = .ok (.iload_n 2, 1) := by decide +kernel
theorem dX8_holesAgain_22 : decode cX8_holesAgain 22 = .ok (.invokevirtual 174, 3) := by decide +kernel
theorem dX8_holesAgain_25 : decode cX8_holesAgain 25 = .ok (.iadd, 1) := by decide +kernel
theorem dX8_holesAgain_26 : decode cX8_holesAgain 26 = .ok (.istore_n 1, 1) := by decide +kernel
theorem dX8_holesAgain_27 : decode cX8_holesAgain 27 = .ok (.iinc 2 1, 3) := by decide +kernel
theorem dX8_holesAgain_30 : decode cX8_holesAgain 30 = .ok (.goto (-21), 3) := by decide +kernel
theorem dX8_holesAgain_33 : decode cX8_holesAgain 33 = .ok (.iload_n 1, 1) := by decide +kernel
theorem dX8_holesAgain_34 : decode cX8_holesAgain 34 = .ok (.ireturn, 1) := by decide +kernel
theorem dX8_touches_0 : decode cX8_touches 0 = .ok (.aload_n 0, 1) := by decide +kernel
theorem dX8_touches_1 : decode cX8_touches 1 = .ok (.aload_n 0, 1) := by decide +kernel
theorem dX8_touches_2 : decode cX8_touches 2 = .ok (.iload_n 1, 1) := by decide +kernel
theorem dX8_touches_3 : decode cX8_touches 3 = .ok (.invokevirtual 112, 3) := by decide +kernel
theorem dX8_touches_6 : decode cX8_touches 6 = .ok (.ifCond .eq 7, 3) := by decide +kernel
theorem dX8_touches_9 : decode cX8_touches 9 = .ok (.iconst 0, 1) := by decide +kernel
theorem dX8_touches_10 : decode cX8_touches 10 = .ok (.goto 4, 3) := by decide +kernel
theorem dX8_touches_13 : decode cX8_touches 13 = .ok (.iconst 1, 1) := by decide +kernel
theorem dX8_touches_14 : decode cX8_touches 14 = .ok (.invokevirtual 183, 3) := by decide +kernel
theorem dX8_touches_17 : decode cX8_touches 17 = .ok (.ifCond .eq 5, 3) := by decide +kernel
theorem dX8_touches_20 : decode cX8_touches 20 = .ok (.iconst 0, 1) := by decide +kernel
theorem dX8_touches_21 : decode cX8_touches 21 = .ok (.ireturn, 1) := by decide +kernel
theorem dX8_touches_22 : decode cX8_touches 22 = .ok (.iconst 0, 1) := by decide +kernel
theorem dX8_touches_23 : decode cX8_touches 23 = .ok (.istore_n 2, 1) := by decide +kernel
theorem dX8_touches_24 : decode cX8_touches 24 = .ok (.iconst 0, 1) := by decide +kernel
theorem dX8_touches_25 : decode cX8_touches 25 = .ok (.istore_n 3, 1) := by decide +kernel
theorem dX8_touches_26 : decode cX8_touches 26 = .ok (.iload_n 3, 1) := by decide +kernel
theorem dX8_touches_27 : decode cX8_touches 27 = .ok (.bipush 96, 2) := by decide +kernel
theorem dX8_touches_29 : decode cX8_touches 29 = .ok (.if_icmp .ge 73, 3) := by decide +kernel
theorem dX8_touches_32 : decode cX8_touches 32 = .ok (.iconst 0, 1) := by decide +kernel
theorem dX8_touches_33 : decode cX8_touches 33 = .ok (.istore 4, 2) := by decide +kernel
theorem dX8_touches_35 : decode cX8_touches 35 = .ok (.iload 4, 2) := by decide +kernel
theorem dX8_touches_37 : decode cX8_touches 37 = .ok (.iconst 4, 1) := by decide +kernel
theorem dX8_touches_38 : decode cX8_touches 38 = .ok (.if_icmp .ge 58, 3) := by decide +kernel
theorem dX8_touches_41 : decode cX8_touches 41 = .ok (.aload_n 0, 1) := by decide +kernel
theorem dX8_touches_42 : decode cX8_touches 42 = .ok (.iload_n 3, 1) := by decide +kernel
theorem dX8_touches_43 : decode cX8_touches 43 = .ok (.invokevirtual 87, 3) := by decide +kernel
theorem dX8_touches_46 : decode cX8_touches 46 = .ok (.iload_n 1, 1) := by decide +kernel
theorem dX8_touches_47 : decode cX8_touches 47 = .ok (.if_icmp .ne 49, 3) := by decide +kernel
theorem dX8_touches_50 : decode cX8_touches 50 = .ok (.iload_n 3, 1) := by decide +kernel
theorem dX8_touches_51 : decode cX8_touches 51 = .ok (.iload 4, 2) := by decide +kernel
theorem dX8_touches_53 : decode cX8_touches 53 = .ok (.invokestatic 84, 3) := by decide +kernel
theorem dX8_touches_56 : decode cX8_touches 56 = .ok (.istore 5, 2) := by decide +kernel
theorem dX8_touches_58 : decode cX8_touches 58 = .ok (.iload_n 2, 1) := by decide +kernel
theorem dX8_touches_59 : decode cX8_touches 59 = .ok (.iload 5, 2) := by decide +kernel
theorem dX8_touches_61 : decode cX8_touches 61 = .ok (.ifCond .lt 26, 3) := by decide +kernel
theorem dX8_touches_64 : decode cX8_touches 64 = .ok (.aload_n 0, 1) := by decide +kernel
theorem dX8_touches_65 : decode cX8_touches 65 = .ok (.iload 5, 2) := by decide +kernel
theorem dX8_touches_67 : decode cX8_touches 67 = .ok (.invokevirtual 87, 3) := by decide +kernel
theorem dX8_touches_70 : decode cX8_touches 70 = .ok (.ifCond .lt 17, 3) := by decide +kernel
theorem dX8_touches_73 : decode cX8_touches 73 = .ok (.aload_n 0, 1) := by decide +kernel
theorem dX8_touches_74 : decode cX8_touches 74 = .ok (.iload 5, 2) := by decide +kernel
theorem dX8_touches_76 : decode cX8_touches 76 = .ok (.invokevirtual 87, 3) := by decide +kernel
theorem dX8_touches_79 : decode cX8_touches 79 = .ok (.iload_n 1, 1) := by decide +kernel
theorem dX8_touches_80 : decode cX8_touches 80 = .ok (.if_icmp .eq 7, 3) := by decide +kernel
theorem dX8_touches_83 : decode cX8_touches 83 = .ok (.iconst 1, 1) := by decide +kernel
theorem dX8_touches_84 : decode cX8_touches 84 = .ok (.goto 4, 3) := by decide +kernel
theorem dX8_touches_87 : decode cX8_touches 87 = .ok (.iconst 0, 1) := by decide +kernel
theorem dX8_touches_88 : decode cX8_touches 88 = .ok (.iadd, 1) := by decide +kernel
theorem dX8_touches_89 : decode cX8_touches 89 = .ok (.istore_n 2, 1) := by decide +kernel
theorem dX8_touches_90 : decode cX8_touches 90 = .ok (.iinc 4 1, 3) := by decide +kernel
theorem dX8_touches_93 : decode cX8_touches 93 = .ok (.goto (-58), 3) := by decide +kernel
theorem dX8_touches_96 : decode cX8_touches 96 = .ok (.iinc 3 1, 3) := by decide +kernel
theorem dX8_touches_99 : decode cX8_touches 99 = .ok (.goto (-73), 3) := by decide +kernel
theorem dX8_touches_102 : decode cX8_touches 102 = .ok (.iload_n 2, 1) := by decide +kernel
theorem dX8_touches_103 : decode cX8_touches 103 = .ok (.ireturn, 1) := by decide +kernel
theorem dX8_isAhead_0 : decode cX8_isAhead 0 = .ok (.aload_n 0, 1) := by decide +kernel
theorem dX8_isAhead_1 : decode cX8_isAhead 1 = .ok (.iload_n 1, 1) := by decide +kernel
theorem dX8_isAhead_2 : decode cX8_isAhead 2 = .ok (.bipush 7, 2) := by decide +kernel
theorem dX8_isAhead_4 : decode cX8_isAhead 4 = .ok (.invokevirtual 80, 3) := by decide +kernel
theorem dX8_isAhead_7 : decode cX8_isAhead 7 = .ok (.aload_n 0, 1) := by decide +kernel
theorem dX8_isAhead_8 : decode cX8_isAhead 8 = .ok (.iload_n 2, 1) := by decide +kernel
theorem dX8_isAhead_9 : decode cX8_isAhead 9 = .ok (.bipush 7, 2) := by decide +kernel
theorem dX8_isAhead_11 : decode cX8_isAhead 11 = .ok (.invokevirtual 80, 3) := by decide +kernel
theorem dX8_isAhead_14 : decode cX8_isAhead 14 = .ok (.if_icmp .eq 26, 3) := by decide +kernel
theorem dX8_isAhead_17 : decode cX8_isAhead 17 = .ok (.aload_n 0, 1) := by decide +kernel
theorem dX8_isAhead_18 : decode cX8_isAhead 18 = .ok (.iload_n 1, 1) := by decide +kernel
theorem dX8_isAhead_19 : decode cX8_isAhead 19 = .ok (.bipush 7, 2) := by decide +kernel
theorem dX8_isAhead_21 : decode cX8_isAhead 21 = .ok (.invokevirtual 80, 3) := by decide +kernel
theorem dX8_isAhead_24 : decode cX8_isAhead 24 = .ok (.aload_n 0, 1) := by decide +kernel
theorem dX8_isAhead_25 : decode cX8_isAhead 25 = .ok (.iload_n 2, 1) := by decide +kernel
theorem dX8_isAhead_26 : decode cX8_isAhead 26 = .ok (.bipush 7, 2) := by decide +kernel
theorem dX8_isAhead_28 : decode cX8_isAhead 28 = .ok (.invokevirtual 80, 3) := by decide +kernel
theorem dX8_isAhead_31 : decode cX8_isAhead 31 = .ok (.if_icmp .le 7, 3) := by decide +kernel
theorem dX8_isAhead_34 : decode cX8_isAhead 34 = .ok (.iconst 1, 1) := by decide +kernel
theorem dX8_isAhead_35 : decode cX8_isAhead 35 = .ok (.goto 4, 3) := by decide +kernel
theorem dX8_isAhead_38 : decode cX8_isAhead 38 = .ok (.iconst 0, 1) := by decide +kernel
theorem dX8_isAhead_39 : decode cX8_isAhead 39 = .ok (.ireturn, 1) := by decide +kernel
theorem dX8_isAhead_40 : decode cX8_isAhead 40 = .ok (.aload_n 0, 1) := by decide +kernel
theorem dX8_isAhead_41 : decode cX8_isAhead 41 = .ok (.iload_n 1, 1) := by decide +kernel
theorem dX8_isAhead_42 : decode cX8_isAhead 42 = .ok (.bipush 8, 2) := by decide +kernel
theorem dX8_isAhead_44 : decode cX8_isAhead 44 = .ok (.invokevirtual 80, 3) := by decide +kernel
theorem dX8_isAhead_47 : decode cX8_isAhead 47 = .ok (.aload_n 0, 1) := by decide +kernel
theorem dX8_isAhead_48 : decode cX8_isAhead 48 = .ok (.iload_n 2, 1) := by decide +kernel
theorem dX8_isAhead_49 : decode cX8_isAhead 49 = .ok (.bipush 8, 2) := by decide +kernel
theorem dX8_isAhead_51 : decode cX8_isAhead 51 = .ok (.invokevirtual 80, 3) := by decide +kernel
theorem dX8_isAhead_54 : decode cX8_isAhead 54 = .ok (.if_icmp .eq 28, 3) := by decide +kernel
theorem dX8_isAhead_57 : decode cX8_isAhead 57 = .ok (.aload_n 0, 1) := by decide +kernel
theorem dX8_isAhead_58 : decode cX8_isAhead 58 = .ok (.iload_n 1, 1) := by decide +kernel
theorem dX8_isAhead_59 : decode cX8_isAhead 59 = .ok (.bipush 8, 2) := by decide +kernel
theorem dX8_isAhead_61 : decode cX8_isAhead 61 = .ok (.invokevirtual 80, 3) := by decide +kernel
theorem dX8_isAhead_64 : decode cX8_isAhead 64 = .ok (.aload_n 0, 1) := by decide +kernel
theorem dX8_isAhead_65 : decode cX8_isAhead 65 = .ok (.iload_n 2, 1) := by decide +kernel
theorem dX8_isAhead_66 : decode cX8_isAhead 66 = .ok (.bipush 8, 2) := by decide +kernel
theorem dX8_isAhead_68 : decode cX8_isAhead 68 = .ok (.invokevirtual 80, 3) := by decide +kernel
theorem dX8_isAhead_71 : decode cX8_isAhead 71 = .ok (.if_icmp .le 7, 3) := by decide +kernel
theorem dX8_isAhead_74 : decode cX8_isAhead 74 = .ok (.iconst 1, 1) := by decide +kernel
theorem dX8_isAhead_75 : decode cX8_isAhead 75 = .ok (.goto 17, 3) := by decide +kernel
theorem dX8_isAhead_78 : decode cX8_isAhead 78 = .ok (.iconst 0, 1) := by decide +kernel
theorem dX8_isAhead_79 : decode cX8_isAhead 79 = .ok (.goto 13, 3) := by decide +kernel
theorem dX8_isAhead_82 : decode cX8_isAhead 82 = .ok (.iload_n 1, 1) := by decide +kernel
theorem dX8_isAhead_83 : decode cX8_isAhead 83 = .ok (.iload_n 2, 1) := by decide +kernel
theorem dX8_isAhead_84 : decode cX8_isAhead 84 = .ok (.if_icmp .ge 7, 3) := by decide +kernel
theorem dX8_isAhead_87 : decode cX8_isAhead 87 = .ok (.iconst 1, 1) := by decide +kernel
theorem dX8_isAhead_88 : decode cX8_isAhead 88 = .ok (.goto 4, 3) := by decide +kernel
theorem dX8_isAhead_91 : decode cX8_isAhead 91 = .ok (.iconst 0, 1) := by decide +kernel
theorem dX8_isAhead_92 : decode cX8_isAhead 92 = .ok (.ireturn, 1) := by decide +kernel
theorem dX8_ranked_0 : decode cX8_ranked 0 = .ok (.aload_n 0, 1) := by decide +kernel
theorem dX8_ranked_1 : decode cX8_ranked 1 = .ok (.aload_n 0, 1) := by decide +kernel
theorem dX8_ranked_2 : decode cX8_ranked 2 = .ok (.iload_n 1, 1) := by decide +kernel
theorem dX8_ranked_3 : decode cX8_ranked 3 = .ok (.invokevirtual 112, 3) := by decide +kernel
theorem dX8_ranked_6 : decode cX8_ranked 6 = .ok (.ifCond .eq 7, 3) := by decide +kernel
theorem dX8_ranked_9 : decode cX8_ranked 9 = .ok (.iconst 0, 1) := by decide +kernel
theorem dX8_ranked_10 : decode cX8_ranked 10 = .ok (.goto 4, 3) := by decide +kernel
theorem dX8_ranked_13 : decode cX8_ranked 13 = .ok (.iconst 1, 1) := by decide +kernel
theorem dX8_ranked_14 : decode cX8_ranked 14 = .ok (.invokevirtual 183, 3) := by decide +kernel
theorem dX8_ranked_17 : decode cX8_ranked 17 = .ok (.ifCond .eq 5, 3) := by decide +kernel
theorem dX8_ranked_20 : decode cX8_ranked 20 = .ok (.iconst 0, 1) := by decide +kernel
theorem dX8_ranked_21 : decode cX8_ranked 21 = .ok (.ireturn, 1) := by decide +kernel
theorem dX8_ranked_22 : decode cX8_ranked 22 = .ok (.iconst 0, 1) := by decide +kernel
theorem dX8_ranked_23 : decode cX8_ranked 23 = .ok (.istore_n 2, 1) := by decide +kernel
theorem dX8_ranked_24 : decode cX8_ranked 24 = .ok (.iload_n 2, 1) := by decide +kernel
theorem dX8_ranked_25 : decode cX8_ranked 25 = .ok (.aload_n 0, 1) := by decide +kernel
theorem dX8_ranked_26 : decode cX8_ranked 26 = .ok (.getfield 7, 3) := by decide +kernel
theorem dX8_ranked_29 : decode cX8_ranked 29 = .ok (.iconst 0, 1) := by decide +kernel
theorem dX8_ranked_30 : decode cX8_ranked 30 = .ok (.iaload, 1) := by decide +kernel
theorem dX8_ranked_31 : decode cX8_ranked 31 = .ok (.if_icmp .ge 56, 3) := by decide +kernel
theorem dX8_ranked_34 : decode cX8_ranked 34 = .ok (.iconst 0, 1) := by decide +kernel
theorem dX8_ranked_35 : decode cX8_ranked 35 = .ok (.istore_n 3, 1) := by decide +kernel
theorem dX8_ranked_36 : decode cX8_ranked 36 = .ok (.iconst 0, 1) := by decide +kernel
theorem dX8_ranked_37 : decode cX8_ranked 37 = .ok (.istore 4, 2) := by decide +kernel
theorem dX8_ranked_39 : decode cX8_ranked 39 = .ok (.iload 4, 2) := by decide +kernel
theorem dX8_ranked_41 : decode cX8_ranked 41 = .ok (.aload_n 0, 1) := by decide +kernel
theorem dX8_ranked_42 : decode cX8_ranked 42 = .ok (.getfield 7, 3) := by decide +kernel
theorem dX8_ranked_45 : decode cX8_ranked 45 = .ok (.iconst 0, 1) := by decide +kernel
theorem dX8_ranked_46 : decode cX8_ranked 46 = .ok (.iaload, 1) := by decide +kernel
theorem dX8_ranked_47 : decode cX8_ranked 47 = .ok (.if_icmp .ge 27, 3) := by decide +kernel
theorem dX8_ranked_50 : decode cX8_ranked 50 = .ok (.iload_n 3, 1) := by decide +kernel
theorem dX8_ranked_51 : decode cX8_ranked 51 = .ok (.aload_n 0, 1) := by decide +kernel
theorem dX8_ranked_52 : decode cX8_ranked 52 = .ok (.iload 4, 2) := by decide +kernel
theorem dX8_ranked_54 : decode cX8_ranked 54 = .ok (.iload_n 2, 1) := by decide +kernel
theorem dX8_ranked_55 : decode cX8_ranked 55 = .ok (.invokevirtual 189, 3) := by decide +kernel
theorem dX8_ranked_58 : decode cX8_ranked 58 = .ok (.ifCond .eq 7, 3) := by decide +kernel
theorem dX8_ranked_61 : decode cX8_ranked 61 = .ok (.iconst 1, 1) := by decide +kernel
theorem dX8_ranked_62 : decode cX8_ranked 62 = .ok (.goto 4, 3) := by decide +kernel
theorem dX8_ranked_65 : decode cX8_ranked 65 = .ok (.iconst 0, 1) := by decide +kernel
theorem dX8_ranked_66 : decode cX8_ranked 66 = .ok (.iadd, 1) := by decide +kernel
theorem dX8_ranked_67 : decode cX8_ranked 67 = .ok (.istore_n 3, 1) := by decide +kernel
theorem dX8_ranked_68 : decode cX8_ranked 68 = .ok (.iinc 4 1, 3) := by decide +kernel
theorem dX8_ranked_71 : decode cX8_ranked 71 = .ok (.goto (-32), 3) := by decide +kernel
theorem dX8_ranked_74 : decode cX8_ranked 74 = .ok (.iload_n 3, 1) := by decide +kernel
theorem dX8_ranked_75 : decode cX8_ranked 75 = .ok (.iload_n 1, 1) := by decide +kernel
theorem dX8_ranked_76 : decode cX8_ranked 76 = .ok (.if_icmp .ne 5, 3) := by decide +kernel
theorem dX8_ranked_79 : decode cX8_ranked 79 = .ok (.iload_n 2, 1) := by decide +kernel
theorem dX8_ranked_80 : decode cX8_ranked 80 = .ok (.ireturn, 1) := by decide +kernel
theorem dX8_ranked_81 : decode cX8_ranked 81 = .ok (.iinc 2 1, 3) := by decide +kernel
theorem dX8_ranked_84 : decode cX8_ranked 84 = .ok (.goto (-60), 3) := by decide +kernel
theorem dX8_ranked_87 : decode cX8_ranked 87 = .ok (.iconst 0, 1) := by decide +kernel
theorem dX8_ranked_88 : decode cX8_ranked 88 = .ok (.ireturn, 1) := by decide +kernel
theorem dX8_append_0 : decode cX8_append 0 = .ok (.aload_n 0, 1) := by decide +kernel
theorem dX8_append_1 : decode cX8_append 1 = .ok (.aload_n 0, 1) := by decide +kernel
theorem dX8_append_2 : decode cX8_append 2 = .ok (.getfield 192, 3) := by decide +kernel
theorem dX8_append_5 : decode cX8_append 5 = .ok (.bipush 60, 2) := by decide +kernel
theorem dX8_append_7 : decode cX8_append 7 = .ok (.if_icmp .ne 7, 3) := by decide +kernel
theorem dX8_append_10 : decode cX8_append 10 = .ok (.iconst 1, 1) := by decide +kernel
theorem dX8_append_11 : decode cX8_append 11 = .ok (.goto 4, 3) := by decide +kernel
theorem dX8_append_14 : decode cX8_append 14 = .ok (.iconst 0, 1) := by decide +kernel
theorem dX8_append_15 : decode cX8_append 15 = .ok (.invokevirtual 183, 3) := by decide +kernel
theorem dX8_append_18 : decode cX8_append 18 = .ok (.ifCond .eq 5, 3) := by decide +kernel
theorem dX8_append_21 : decode cX8_append 21 = .ok (.iconst 0, 1) := by decide +kernel
theorem dX8_append_22 : decode cX8_append 22 = .ok (.ireturn, 1) := by decide +kernel
theorem dX8_append_23 : decode cX8_append 23 = .ok (.aload_n 0, 1) := by decide +kernel
theorem dX8_append_24 : decode cX8_append 24 = .ok (.getfield 22, 3) := by decide +kernel
theorem dX8_append_27 : decode cX8_append 27 = .ok (.aload_n 0, 1) := by decide +kernel
theorem dX8_append_28 : decode cX8_append 28 = .ok (.getfield 192, 3) := by decide +kernel
theorem dX8_append_31 : decode cX8_append 31 = .ok (.iload_n 1, 1) := by decide +kernel
theorem dX8_append_32 : decode cX8_append 32 = .ok (.iastore, 1) := by decide +kernel
theorem dX8_append_33 : decode cX8_append 33 = .ok (.aload_n 0, 1) := by decide +kernel
theorem dX8_append_34 : decode cX8_append 34 = .ok (.dup, 1) := by decide +kernel
theorem dX8_append_35 : decode cX8_append 35 = .ok (.getfield 192, 3) := by decide +kernel
theorem dX8_append_38 : decode cX8_append 38 = .ok (.iconst 1, 1) := by decide +kernel
theorem dX8_append_39 : decode cX8_append 39 = .ok (.iadd, 1) := by decide +kernel
theorem dX8_append_40 : decode cX8_append 40 = .ok (.putfield 192, 3) := by decide +kernel
theorem dX8_append_43 : decode cX8_append 43 = .ok (.aload_n 0, 1) := by decide +kernel
theorem dX8_append_44 : decode cX8_append 44 = .ok (.getfield 192, 3) := by decide +kernel
theorem dX8_append_47 : decode cX8_append 47 = .ok (.ireturn, 1) := by decide +kernel
theorem dX8_here_0 : decode cX8_here 0 = .ok (.aload_n 0, 1) := by decide +kernel
theorem dX8_here_1 : decode cX8_here 1 = .ok (.getfield 195, 3) := by decide +kernel
theorem dX8_here_4 : decode cX8_here 4 = .ok (.aload_n 0, 1) := by decide +kernel
theorem dX8_here_5 : decode cX8_here 5 = .ok (.getfield 192, 3) := by decide +kernel
theorem dX8_here_8 : decode cX8_here 8 = .ok (.if_icmp .ge 15, 3) := by decide +kernel
theorem dX8_here_11 : decode cX8_here 11 = .ok (.aload_n 0, 1) := by decide +kernel
theorem dX8_here_12 : decode cX8_here 12 = .ok (.getfield 22, 3) := by decide +kernel
theorem dX8_here_15 : decode cX8_here 15 = .ok (.aload_n 0, 1) := by decide +kernel
theorem dX8_here_16 : decode cX8_here 16 = .ok (.getfield 195, 3) := by decide +kernel
theorem dX8_here_19 : decode cX8_here 19 = .ok (.iaload, 1) := by decide +kernel
theorem dX8_here_20 : decode cX8_here 20 = .ok (.goto 4, 3) := by decide +kernel
theorem dX8_here_23 : decode cX8_here 23 = .ok (.iconst (-1), 1) := by decide +kernel
theorem dX8_here_24 : decode cX8_here 24 = .ok (.ireturn, 1) := by decide +kernel
theorem dX8_skips_0 : decode cX8_skips 0 = .ok (.aload_n 0, 1) := by decide +kernel
theorem dX8_skips_1 : decode cX8_skips 1 = .ok (.invokevirtual 198, 3) := by decide +kernel
theorem dX8_skips_4 : decode cX8_skips 4 = .ok (.iload_n 1, 1) := by decide +kernel
theorem dX8_skips_5 : decode cX8_skips 5 = .ok (.if_icmp .eq 5, 3) := by decide +kernel
theorem dX8_skips_8 : decode cX8_skips 8 = .ok (.iconst 0, 1) := by decide +kernel
theorem dX8_skips_9 : decode cX8_skips 9 = .ok (.ireturn, 1) := by decide +kernel
theorem dX8_skips_10 : decode cX8_skips 10 = .ok (.aload_n 0, 1) := by decide +kernel
theorem dX8_skips_11 : decode cX8_skips 11 = .ok (.dup, 1) := by decide +kernel
theorem dX8_skips_12 : decode cX8_skips 12 = .ok (.getfield 195, 3) := by decide +kernel
theorem dX8_skips_15 : decode cX8_skips 15 = .ok (.iconst 1, 1) := by decide +kernel
theorem dX8_skips_16 : decode cX8_skips 16 = .ok (.iadd, 1) := by decide +kernel
theorem dX8_skips_17 : decode cX8_skips 17 = .ok (.putfield 195, 3) := by decide +kernel
theorem dX8_skips_20 : decode cX8_skips 20 = .ok (.iconst 1, 1) := by decide +kernel
theorem dX8_skips_21 : decode cX8_skips 21 = .ok (.ireturn, 1) := by decide +kernel
theorem dX8_figures_0 : decode cX8_figures 0 = .ok (.iconst 0, 1) := by decide +kernel
theorem dX8_figures_1 : decode cX8_figures 1 = .ok (.istore_n 3, 1) := by decide +kernel
theorem dX8_figures_2 : decode cX8_figures 2 = .ok (.iload_n 3, 1) := by decide +kernel
theorem dX8_figures_3 : decode cX8_figures 3 = .ok (.iload_n 2, 1) := by decide +kernel
theorem dX8_figures_4 : decode cX8_figures 4 = .ok (.if_icmp .ge 50, 3) := by decide +kernel
theorem dX8_figures_7 : decode cX8_figures 7 = .ok (.aload_n 0, 1) := by decide +kernel
theorem dX8_figures_8 : decode cX8_figures 8 = .ok (.invokevirtual 198, 3) := by decide +kernel
theorem dX8_figures_11 : decode cX8_figures 11 = .ok (.bipush 48, 2) := by decide +kernel
theorem dX8_figures_13 : decode cX8_figures 13 = .ok (.bipush 57, 2) := by decide +kernel
theorem dX8_figures_15 : decode cX8_figures 15 = .ok (.invokestatic 68, 3) := by decide +kernel
theorem dX8_figures_18 : decode cX8_figures 18 = .ok (.ifCond .ne 5, 3) := by decide +kernel
theorem dX8_figures_21 : decode cX8_figures 21 = .ok (.iconst 0, 1) := by decide +kernel
theorem dX8_figures_22 : decode cX8_figures 22 = .ok (.ireturn, 1) := by decide +kernel
theorem dX8_figures_23 : decode cX8_figures 23 = .ok (.aload_n 0, 1) := by decide +kernel
theorem dX8_figures_24 : decode cX8_figures 24 = .ok (.getfield 42, 3) := by decide +kernel
theorem dX8_figures_27 : decode cX8_figures 27 = .ok (.iload_n 1, 1) := by decide +kernel
theorem dX8_figures_28 : decode cX8_figures 28 = .ok (.iload_n 3, 1) := by decide +kernel
theorem dX8_figures_29 : decode cX8_figures 29 = .ok (.iadd, 1) := by decide +kernel
theorem dX8_figures_30 : decode cX8_figures 30 = .ok (.aload_n 0, 1) := by decide +kernel
theorem dX8_figures_31 : decode cX8_figures 31 = .ok (.invokevirtual 198, 3) := by decide +kernel
theorem dX8_figures_34 : decode cX8_figures 34 = .ok (.bipush 48, 2) := by decide +kernel
theorem dX8_figures_36 : decode cX8_figures 36 = .ok (.isub, 1) := by decide +kernel
theorem dX8_figures_37 : decode cX8_figures 37 = .ok (.iastore, 1) := by decide +kernel
theorem dX8_figures_38 : decode cX8_figures 38 = .ok (.aload_n 0, 1) := by decide +kernel
theorem dX8_figures_39 : decode cX8_figures 39 = .ok (.dup, 1) := by decide +kernel
theorem dX8_figures_40 : decode cX8_figures 40 = .ok (.getfield 195, 3) := by decide +kernel
theorem dX8_figures_43 : decode cX8_figures 43 = .ok (.iconst 1, 1) := by decide +kernel
theorem dX8_figures_44 : decode cX8_figures 44 = .ok (.iadd, 1) := by decide +kernel
theorem dX8_figures_45 : decode cX8_figures 45 = .ok (.putfield 195, 3) := by decide +kernel
theorem dX8_figures_48 : decode cX8_figures 48 = .ok (.iinc 3 1, 3) := by decide +kernel
theorem dX8_figures_51 : decode cX8_figures 51 = .ok (.goto (-49), 3) := by decide +kernel
theorem dX8_figures_54 : decode cX8_figures 54 = .ok (.iconst 1, 1) := by decide +kernel
theorem dX8_figures_55 : decode cX8_figures 55 = .ok (.ireturn, 1) := by decide +kernel
theorem dX8_commandHere_0 : decode cX8_commandHere 0 = .ok (.iconst 4, 1) := by decide +kernel
theorem dX8_commandHere_1 : decode cX8_commandHere 1 = .ok (.aload_n 0, 1) := by decide +kernel
theorem dX8_commandHere_2 : decode cX8_commandHere 2 = .ok (.getfield 201, 3) := by decide +kernel
theorem dX8_commandHere_5 : decode cX8_commandHere 5 = .ok (.imul, 1) := by decide +kernel
theorem dX8_commandHere_6 : decode cX8_commandHere 6 = .ok (.istore_n 1, 1) := by decide +kernel
theorem dX8_commandHere_7 : decode cX8_commandHere 7 = .ok (.aload_n 0, 1) := by decide +kernel
theorem dX8_commandHere_8 : decode cX8_commandHere 8 = .ok (.getfield 42, 3) := by decide +kernel
theorem dX8_commandHere_11 : decode cX8_commandHere 11 = .ok (.iload_n 1, 1) := by decide +kernel
theorem dX8_commandHere_12 : decode cX8_commandHere 12 = .ok (.aload_n 0, 1) := by decide +kernel
theorem dX8_commandHere_13 : decode cX8_commandHere 13 = .ok (.invokevirtual 198, 3) := by decide +kernel
theorem dX8_commandHere_16 : decode cX8_commandHere 16 = .ok (.iastore, 1) := by decide +kernel
theorem dX8_commandHere_17 : decode cX8_commandHere 17 = .ok (.aload_n 0, 1) := by decide +kernel
theorem dX8_commandHere_18 : decode cX8_commandHere 18 = .ok (.bipush 112, 2) := by decide +kernel
theorem dX8_commandHere_20 : decode cX8_commandHere 20 = .ok (.invokevirtual 204, 3) := by decide +kernel
theorem dX8_commandHere_23 : decode cX8_commandHere 23 = .ok (.ifCond .eq 40, 3) := by decide +kernel
theorem dX8_commandHere_26 : decode cX8_commandHere 26 = .ok (.aload_n 0, 1) := by decide +kernel
theorem dX8_commandHere_27 : decode cX8_commandHere 27 = .ok (.iload_n 1, 1) := by decide +kernel
theorem dX8_commandHere_28 : decode cX8_commandHere 28 = .ok (.iconst 1, 1) := by decide +kernel
theorem dX8_commandHere_29 : decode cX8_commandHere 29 = .ok (.iadd, 1) := by decide +kernel
theorem dX8_commandHere_30 : decode cX8_commandHere 30 = .ok (.iconst 1, 1) := by decide +kernel
theorem dX8_commandHere_31 : decode cX8_commandHere 31 = .ok (.invokevirtual 207, 3) := by decide +kernel
theorem dX8_commandHere_34 : decode cX8_commandHere 34 = .ok (.ifCond .eq 27, 3) := by decide +kernel
theorem dX8_commandHere_37 : decode cX8_commandHere 37 = .ok (.aload_n 0, 1) := by decide +kernel
theorem dX8_commandHere_38 : decode cX8_commandHere 38 = .ok (.bipush 64, 2) := by decide +kernel
theorem dX8_commandHere_40 : decode cX8_commandHere 40 = .ok (.invokevirtual 204, 3) := by decide +kernel
theorem dX8_commandHere_43 : decode cX8_commandHere 43 = .ok (.ifCond .eq 18, 3) := by decide +kernel
theorem dX8_commandHere_46 : decode cX8_commandHere 46 = .ok (.aload_n 0, 1) := by decide +kernel
theorem dX8_commandHere_47 : decode cX8_commandHere 47 = .ok (.iload_n 1, 1) := by decide +kernel
theorem dX8_commandHere_48 : decode cX8_commandHere 48 = .ok (.iconst 2, 1) := by decide +kernel
theorem dX8_commandHere_49 : decode cX8_commandHere 49 = .ok (.iadd, 1) := by decide +kernel
theorem dX8_commandHere_50 : decode cX8_commandHere 50 = .ok (.iconst 2, 1) := by decide +kernel
theorem dX8_commandHere_51 : decode cX8_commandHere 51 = .ok (.invokevirtual 207, 3) := by decide +kernel
theorem dX8_commandHere_54 : decode cX8_commandHere 54 = .ok (.ifCond .eq 7, 3) := by decide +kernel
theorem dX8_commandHere_57 : decode cX8_commandHere 57 = .ok (.iconst 1, 1) := by decide +kernel
theorem dX8_commandHere_58 : decode cX8_commandHere 58 = .ok (.goto 4, 3) := by decide +kernel
theorem dX8_commandHere_61 : decode cX8_commandHere 61 = .ok (.iconst 0, 1) := by decide +kernel
theorem dX8_commandHere_62 : decode cX8_commandHere 62 = .ok (.ireturn, 1) := by decide +kernel
theorem dX8_commandHere_63 : decode cX8_commandHere 63 = .ok (.aload_n 0, 1) := by decide +kernel
theorem dX8_commandHere_64 : decode cX8_commandHere 64 = .ok (.bipush 119, 2) := by decide +kernel
theorem dX8_commandHere_66 : decode cX8_commandHere 66 = .ok (.invokevirtual 204, 3) := by decide +kernel
theorem dX8_commandHere_69 : decode cX8_commandHere 69 = .ok (.ifCond .eq 12, 3) := by decide +kernel
theorem dX8_commandHere_72 : decode cX8_commandHere 72 = .ok (.aload_n 0, 1) := by decide +kernel
theorem dX8_commandHere_73 : decode cX8_commandHere 73 = .ok (.iload_n 1, 1) := by decide +kernel
theorem dX8_commandHere_74 : decode cX8_commandHere 74 = .ok (.iconst 1, 1) := by decide +kernel
theorem dX8_commandHere_75 : decode cX8_commandHere 75 = .ok (.iadd, 1) := by decide +kernel
theorem dX8_commandHere_76 : decode cX8_commandHere 76 = .ok (.iconst 3, 1) := by decide +kernel
theorem dX8_commandHere_77 : decode cX8_commandHere 77 = .ok (.invokevirtual 207, 3) := by decide +kernel
theorem dX8_commandHere_80 : decode cX8_commandHere 80 = .ok (.ireturn, 1) := by decide +kernel
theorem dX8_commandHere_81 : decode cX8_commandHere 81 = .ok (.aload_n 0, 1) := by decide +kernel
theorem dX8_commandHere_82 : decode cX8_commandHere 82 = .ok (.bipush 114, 2) := by decide +kernel
theorem dX8_commandHere_84 : decode cX8_commandHere 84 = .ok (.invokevirtual 204, 3) := by decide +kernel
theorem dX8_commandHere_87 : decode cX8_commandHere 87 = .ok (.ifCond .ne 21, 3) := by decide +kernel
theorem dX8_commandHere_90 : decode cX8_commandHere 90 = .ok (.aload_n 0, 1) := by decide +kernel
theorem dX8_commandHere_91 : decode cX8_commandHere 91 = .ok (.bipush 104, 2) := by decide +kernel
theorem dX8_commandHere_93 : decode cX8_commandHere 93 = .ok (.invokevirtual 204, 3) := by decide +kernel
theorem dX8_commandHere_96 : decode cX8_commandHere 96 = .ok (.ifCond .ne 12, 3) := by decide +kernel
theorem dX8_commandHere_99 : decode cX8_commandHere 99 = .ok (.aload_n 0, 1) := by decide +kernel
theorem dX8_commandHere_100 : decode cX8_commandHere 100 = .ok (.bipush 120, 2) := by decide +kernel
theorem dX8_commandHere_102 : decode cX8_commandHere 102 = .ok (.invokevirtual 204, 3) := by decide +kernel
theorem dX8_commandHere_105 : decode cX8_commandHere 105 = .ok (.ifCond .eq 18, 3) := by decide +kernel
theorem dX8_commandHere_108 : decode cX8_commandHere 108 = .ok (.aload_n 0, 1) := by decide +kernel
theorem dX8_commandHere_109 : decode cX8_commandHere 109 = .ok (.iload_n 1, 1) := by decide +kernel
theorem dX8_commandHere_110 : decode cX8_commandHere 110 = .ok (.iconst 1, 1) := by decide +kernel
theorem dX8_commandHere_111 : decode cX8_commandHere 111 = .ok (.iadd, 1) := by decide +kernel
theorem dX8_commandHere_112 : decode cX8_commandHere 112 = .ok (.iconst 1, 1) := by decide +kernel
theorem dX8_commandHere_113 : decode cX8_commandHere 113 = .ok (.invokevirtual 207, 3) := by decide +kernel
theorem dX8_commandHere_116 : decode cX8_commandHere 116 = .ok (.ifCond .eq 7, 3) := by decide +kernel
theorem dX8_commandHere_119 : decode cX8_commandHere 119 = .ok (.iconst 1, 1) := by decide +kernel
theorem dX8_commandHere_120 : decode cX8_commandHere 120 = .ok (.goto 4, 3) := by decide +kernel
theorem dX8_commandHere_123 : decode cX8_commandHere 123 = .ok (.iconst 0, 1) := by decide +kernel
theorem dX8_commandHere_124 : decode cX8_commandHere 124 = .ok (.ireturn, 1) := by decide +kernel
theorem dX8_isText_0 : decode cX8_isText 0 = .ok (.aload_n 0, 1) := by decide +kernel
theorem dX8_isText_1 : decode cX8_isText 1 = .ok (.iconst 0, 1) := by decide +kernel
theorem dX8_isText_2 : decode cX8_isText 2 = .ok (.putfield 195, 3) := by decide +kernel
theorem dX8_isText_5 : decode cX8_isText 5 = .ok (.aload_n 0, 1) := by decide +kernel
theorem dX8_isText_6 : decode cX8_isText 6 = .ok (.iconst 0, 1) := by decide +kernel
theorem dX8_isText_7 : decode cX8_isText 7 = .ok (.putfield 201, 3) := by decide +kernel
theorem dX8_isText_10 : decode cX8_isText 10 = .ok (.aload_n 0, 1) := by decide +kernel
theorem dX8_isText_11 : decode cX8_isText 11 = .ok (.invokevirtual 210, 3) := by decide +kernel
theorem dX8_isText_14 : decode cX8_isText 14 = .ok (.ifCond .ne 5, 3) := by decide +kernel
theorem dX8_isText_17 : decode cX8_isText 17 = .ok (.iconst 0, 1) := by decide +kernel
theorem dX8_isText_18 : decode cX8_isText 18 = .ok (.ireturn, 1) := by decide +kernel
theorem dX8_isText_19 : decode cX8_isText 19 = .ok (.aload_n 0, 1) := by decide +kernel
theorem dX8_isText_20 : decode cX8_isText 20 = .ok (.dup, 1) := by decide +kernel
theorem dX8_isText_21 : decode cX8_isText 21 = .ok (.getfield 201, 3) := by decide +kernel
theorem dX8_isText_24 : decode cX8_isText 24 = .ok (.iconst 1, 1) := by decide +kernel
theorem dX8_isText_25 : decode cX8_isText 25 = .ok (.iadd, 1) := by decide +kernel
theorem dX8_isText_26 : decode cX8_isText 26 = .ok (.putfield 201, 3) := by decide +kernel
theorem dX8_isText_29 : decode cX8_isText 29 = .ok (.aload_n 0, 1) := by decide +kernel
theorem dX8_isText_30 : decode cX8_isText 30 = .ok (.bipush 59, 2) := by decide +kernel
theorem dX8_isText_32 : decode cX8_isText 32 = .ok (.invokevirtual 204, 3) := by decide +kernel
theorem dX8_isText_35 : decode cX8_isText 35 = .ok (.ifCond .ne (-25), 3) := by decide +kernel
theorem dX8_isText_38 : decode cX8_isText 38 = .ok (.aload_n 0, 1) := by decide +kernel
theorem dX8_isText_39 : decode cX8_isText 39 = .ok (.getfield 195, 3) := by decide +kernel
theorem dX8_isText_42 : decode cX8_isText 42 = .ok (.aload_n 0, 1) := by decide +kernel
theorem dX8_isText_43 : decode cX8_isText 43 = .ok (.getfield 192, 3) := by decide +kernel
theorem dX8_isText_46 : decode cX8_isText 46 = .ok (.if_icmp .ne 7, 3) := by decide +kernel
theorem dX8_isText_49 : decode cX8_isText 49 = .ok (.iconst 1, 1) := by decide +kernel
theorem dX8_isText_50 : decode cX8_isText 50 = .ok (.goto 4, 3) := by decide +kernel
theorem dX8_isText_53 : decode cX8_isText 53 = .ok (.iconst 0, 1) := by decide +kernel
theorem dX8_isText_54 : decode cX8_isText 54 = .ok (.ireturn, 1) := by decide +kernel
theorem dX8_carries_0 : decode cX8_carries 0 = .ok (.aload_n 0, 1) := by decide +kernel
theorem dX8_carries_1 : decode cX8_carries 1 = .ok (.getfield 42, 3) := by decide +kernel
theorem dX8_carries_4 : decode cX8_carries 4 = .ok (.iload_n 1, 1) := by decide +kernel
theorem dX8_carries_5 : decode cX8_carries 5 = .ok (.iaload, 1) := by decide +kernel
theorem dX8_carries_6 : decode cX8_carries 6 = .ok (.lookupswitch 126 #[(104, 113), (112, 42), (114, 100), (119, 71)], 42) := by decide +kernel
theorem dX8_carries_48 : decode cX8_carries 48 = .ok (.aload_n 0, 1) := by decide +kernel
theorem dX8_carries_49 : decode cX8_carries 49 = .ok (.aload_n 0, 1) := by decide +kernel
theorem dX8_carries_50 : decode cX8_carries 50 = .ok (.getfield 42, 3) := by decide +kernel
theorem dX8_carries_53 : decode cX8_carries 53 = .ok (.iload_n 1, 1) := by decide +kernel
theorem dX8_carries_54 : decode cX8_carries 54 = .ok (.iconst 1, 1) := by decide +kernel
theorem dX8_carries_55 : decode cX8_carries 55 = .ok (.iadd, 1) := by decide +kernel
theorem dX8_carries_56 : decode cX8_carries 56 = .ok (.iaload, 1) := by decide +kernel
theorem dX8_carries_57 : decode cX8_carries 57 = .ok (.aload_n 0, 1) := by decide +kernel
theorem dX8_carries_58 : decode cX8_carries 58 = .ok (.getfield 42, 3) := by decide +kernel
theorem dX8_carries_61 : decode cX8_carries 61 = .ok (.iload_n 1, 1) := by decide +kernel
theorem dX8_carries_62 : decode cX8_carries 62 = .ok (.iconst 2, 1) := by decide +kernel
theorem dX8_carries_63 : decode cX8_carries 63 = .ok (.iadd, 1) := by decide +kernel
theorem dX8_carries_64 : decode cX8_carries 64 = .ok (.iaload, 1) := by decide +kernel
theorem dX8_carries_65 : decode cX8_carries 65 = .ok (.aload_n 0, 1) := by decide +kernel
theorem dX8_carries_66 : decode cX8_carries 66 = .ok (.getfield 42, 3) := by decide +kernel
theorem dX8_carries_69 : decode cX8_carries 69 = .ok (.iload_n 1, 1) := by decide +kernel
theorem dX8_carries_70 : decode cX8_carries 70 = .ok (.iconst 3, 1) := by decide +kernel
theorem dX8_carries_71 : decode cX8_carries 71 = .ok (.iadd, 1) := by decide +kernel
theorem dX8_carries_72 : decode cX8_carries 72 = .ok (.iaload, 1) := by decide +kernel
theorem dX8_carries_73 : decode cX8_carries 73 = .ok (.invokevirtual 214, 3) := by decide +kernel
theorem dX8_carries_76 : decode cX8_carries 76 = .ok (.ireturn, 1) := by decide +kernel
theorem dX8_carries_77 : decode cX8_carries 77 = .ok (.aload_n 0, 1) := by decide +kernel
theorem dX8_carries_78 : decode cX8_carries 78 = .ok (.aload_n 0, 1) := by decide +kernel
theorem dX8_carries_79 : decode cX8_carries 79 = .ok (.getfield 42, 3) := by decide +kernel
theorem dX8_carries_82 : decode cX8_carries 82 = .ok (.iload_n 1, 1) := by decide +kernel
theorem dX8_carries_83 : decode cX8_carries 83 = .ok (.iconst 1, 1) := by decide +kernel
theorem dX8_carries_84 : decode cX8_carries 84 = .ok (.iadd, 1) := by decide +kernel
theorem dX8_carries_85 : decode cX8_carries 85 = .ok (.iaload, 1) := by decide +kernel
theorem dX8_carries_86 : decode cX8_carries 86 = .ok (.aload_n 0, 1) := by decide +kernel
theorem dX8_carries_87 : decode cX8_carries 87 = .ok (.getfield 42, 3) := by decide +kernel
theorem dX8_carries_90 : decode cX8_carries 90 = .ok (.iload_n 1, 1) := by decide +kernel
theorem dX8_carries_91 : decode cX8_carries 91 = .ok (.iconst 2, 1) := by decide +kernel
theorem dX8_carries_92 : decode cX8_carries 92 = .ok (.iadd, 1) := by decide +kernel
theorem dX8_carries_93 : decode cX8_carries 93 = .ok (.iaload, 1) := by decide +kernel
theorem dX8_carries_94 : decode cX8_carries 94 = .ok (.aload_n 0, 1) := by decide +kernel
theorem dX8_carries_95 : decode cX8_carries 95 = .ok (.getfield 42, 3) := by decide +kernel
theorem dX8_carries_98 : decode cX8_carries 98 = .ok (.iload_n 1, 1) := by decide +kernel
theorem dX8_carries_99 : decode cX8_carries 99 = .ok (.iconst 3, 1) := by decide +kernel
theorem dX8_carries_100 : decode cX8_carries 100 = .ok (.iadd, 1) := by decide +kernel
theorem dX8_carries_101 : decode cX8_carries 101 = .ok (.iaload, 1) := by decide +kernel
theorem dX8_carries_102 : decode cX8_carries 102 = .ok (.invokevirtual 217, 3) := by decide +kernel
theorem dX8_carries_105 : decode cX8_carries 105 = .ok (.ireturn, 1) := by decide +kernel
theorem dX8_carries_106 : decode cX8_carries 106 = .ok (.aload_n 0, 1) := by decide +kernel
theorem dX8_carries_107 : decode cX8_carries 107 = .ok (.aload_n 0, 1) := by decide +kernel
theorem dX8_carries_108 : decode cX8_carries 108 = .ok (.getfield 42, 3) := by decide +kernel
theorem dX8_carries_111 : decode cX8_carries 111 = .ok (.iload_n 1, 1) := by decide +kernel
theorem dX8_carries_112 : decode cX8_carries 112 = .ok (.iconst 1, 1) := by decide +kernel
theorem dX8_carries_113 : decode cX8_carries 113 = .ok (.iadd, 1) := by decide +kernel
theorem dX8_carries_114 : decode cX8_carries 114 = .ok (.iaload, 1) := by decide +kernel
theorem dX8_carries_115 : decode cX8_carries 115 = .ok (.invokevirtual 220, 3) := by decide +kernel
theorem dX8_carries_118 : decode cX8_carries 118 = .ok (.ireturn, 1) := by decide +kernel
theorem dX8_carries_119 : decode cX8_carries 119 = .ok (.aload_n 0, 1) := by decide +kernel
theorem dX8_carries_120 : decode cX8_carries 120 = .ok (.aload_n 0, 1) := by decide +kernel
theorem dX8_carries_121 : decode cX8_carries 121 = .ok (.getfield 42, 3) := by decide +kernel
theorem dX8_carries_124 : decode cX8_carries 124 = .ok (.iload_n 1, 1) := by decide +kernel
theorem dX8_carries_125 : decode cX8_carries 125 = .ok (.iconst 1, 1) := by decide +kernel
theorem dX8_carries_126 : decode cX8_carries 126 = .ok (.iadd, 1) := by decide +kernel
theorem dX8_carries_127 : decode cX8_carries 127 = .ok (.iaload, 1) := by decide +kernel
theorem dX8_carries_128 : decode cX8_carries 128 = .ok (.invokevirtual 223, 3) := by decide +kernel
theorem dX8_carries_131 : decode cX8_carries 131 = .ok (.ireturn, 1) := by decide +kernel
theorem dX8_carries_132 : decode cX8_carries 132 = .ok (.aload_n 0, 1) := by decide +kernel
theorem dX8_carries_133 : decode cX8_carries 133 = .ok (.aload_n 0, 1) := by decide +kernel
theorem dX8_carries_134 : decode cX8_carries 134 = .ok (.getfield 42, 3) := by decide +kernel
theorem dX8_carries_137 : decode cX8_carries 137 = .ok (.iload_n 1, 1) := by decide +kernel
theorem dX8_carries_138 : decode cX8_carries 138 = .ok (.iconst 1, 1) := by decide +kernel
theorem dX8_carries_139 : decode cX8_carries 139 = .ok (.iadd, 1) := by decide +kernel
theorem dX8_carries_140 : decode cX8_carries 140 = .ok (.iaload, 1) := by decide +kernel
theorem dX8_carries_141 : decode cX8_carries 141 = .ok (.invokevirtual 226, 3) := by decide +kernel
theorem dX8_carries_144 : decode cX8_carries 144 = .ok (.ireturn, 1) := by decide +kernel
theorem dX8_commands_0 : decode cX8_commands 0 = .ok (.aload_n 0, 1) := by decide +kernel
theorem dX8_commands_1 : decode cX8_commands 1 = .ok (.invokevirtual 229, 3) := by decide +kernel
theorem dX8_commands_4 : decode cX8_commands 4 = .ok (.istore_n 1, 1) := by decide +kernel
theorem dX8_commands_5 : decode cX8_commands 5 = .ok (.aload_n 0, 1) := by decide +kernel
theorem dX8_commands_6 : decode cX8_commands 6 = .ok (.iload_n 1, 1) := by decide +kernel
theorem dX8_commands_7 : decode cX8_commands 7 = .ok (.ifCond .eq 7, 3) := by decide +kernel
theorem dX8_commands_10 : decode cX8_commands 10 = .ok (.iconst (-1), 1) := by decide +kernel
theorem dX8_commands_11 : decode cX8_commands 11 = .ok (.goto 7, 3) := by decide +kernel
theorem dX8_commands_14 : decode cX8_commands 14 = .ok (.aload_n 0, 1) := by decide +kernel
theorem dX8_commands_15 : decode cX8_commands 15 = .ok (.getfield 195, 3) := by decide +kernel
theorem dX8_commands_18 : decode cX8_commands 18 = .ok (.putfield 25, 3) := by decide +kernel
theorem dX8_commands_21 : decode cX8_commands 21 = .ok (.aload_n 0, 1) := by decide +kernel
theorem dX8_commands_22 : decode cX8_commands 22 = .ok (.iconst 0, 1) := by decide +kernel
theorem dX8_commands_23 : decode cX8_commands 23 = .ok (.putfield 192, 3) := by decide +kernel
theorem dX8_commands_26 : decode cX8_commands 26 = .ok (.aload_n 0, 1) := by decide +kernel
theorem dX8_commands_27 : decode cX8_commands 27 = .ok (.iload_n 1, 1) := by decide +kernel
theorem dX8_commands_28 : decode cX8_commands 28 = .ok (.ifCond .eq 7, 3) := by decide +kernel
theorem dX8_commands_31 : decode cX8_commands 31 = .ok (.iconst 0, 1) := by decide +kernel
theorem dX8_commands_32 : decode cX8_commands 32 = .ok (.goto 4, 3) := by decide +kernel
theorem dX8_commands_35 : decode cX8_commands 35 = .ok (.iconst 1, 1) := by decide +kernel
theorem dX8_commands_36 : decode cX8_commands 36 = .ok (.invokevirtual 183, 3) := by decide +kernel
theorem dX8_commands_39 : decode cX8_commands 39 = .ok (.ifCond .eq 5, 3) := by decide +kernel
theorem dX8_commands_42 : decode cX8_commands 42 = .ok (.iconst 0, 1) := by decide +kernel
theorem dX8_commands_43 : decode cX8_commands 43 = .ok (.ireturn, 1) := by decide +kernel
theorem dX8_commands_44 : decode cX8_commands 44 = .ok (.aload_n 0, 1) := by decide +kernel
theorem dX8_commands_45 : decode cX8_commands 45 = .ok (.getfield 7, 3) := by decide +kernel
theorem dX8_commands_48 : decode cX8_commands 48 = .ok (.iconst 0, 1) := by decide +kernel
theorem dX8_commands_49 : decode cX8_commands 49 = .ok (.aload_n 0, 1) := by decide +kernel
theorem dX8_commands_50 : decode cX8_commands 50 = .ok (.getfield 19, 3) := by decide +kernel
theorem dX8_commands_53 : decode cX8_commands 53 = .ok (.iconst 0, 1) := by decide +kernel
theorem dX8_commands_54 : decode cX8_commands 54 = .ok (.invokestatic 64, 3) := by decide +kernel
theorem dX8_commands_57 : decode cX8_commands 57 = .ok (.aload_n 0, 1) := by decide +kernel
theorem dX8_commands_58 : decode cX8_commands 58 = .ok (.iconst 1, 1) := by decide +kernel
theorem dX8_commands_59 : decode cX8_commands 59 = .ok (.putfield 57, 3) := by decide +kernel
theorem dX8_commands_62 : decode cX8_commands 62 = .ok (.iconst 0, 1) := by decide +kernel
theorem dX8_commands_63 : decode cX8_commands 63 = .ok (.istore_n 2, 1) := by decide +kernel
theorem dX8_commands_64 : decode cX8_commands 64 = .ok (.iconst 0, 1) := by decide +kernel
theorem dX8_commands_65 : decode cX8_commands 65 = .ok (.istore_n 3, 1) := by decide +kernel
theorem dX8_commands_66 : decode cX8_commands 66 = .ok (.iload_n 2, 1) := by decide +kernel
theorem dX8_commands_67 : decode cX8_commands 67 = .ok (.aload_n 0, 1) := by decide +kernel
theorem dX8_commands_68 : decode cX8_commands 68 = .ok (.getfield 201, 3) := by decide +kernel
theorem dX8_commands_71 : decode cX8_commands 71 = .ok (.if_icmp .ge 24, 3) := by decide +kernel
theorem dX8_commands_74 : decode cX8_commands 74 = .ok (.aload_n 0, 1) := by decide +kernel
theorem dX8_commands_75 : decode cX8_commands 75 = .ok (.getfield 45, 3) := by decide +kernel
theorem dX8_commands_78 : decode cX8_commands 78 = .ok (.ifCond .ne 17, 3) := by decide +kernel
theorem dX8_commands_81 : decode cX8_commands 81 = .ok (.aload_n 0, 1) := by decide +kernel
theorem dX8_commands_82 : decode cX8_commands 82 = .ok (.iconst 4, 1) := by decide +kernel
theorem dX8_commands_83 : decode cX8_commands 83 = .ok (.iload_n 2, 1) := by decide +kernel
theorem dX8_commands_84 : decode cX8_commands 84 = .ok (.imul, 1) := by decide +kernel
theorem dX8_commands_85 : decode cX8_commands 85 = .ok (.invokevirtual 232, 3) := by decide +kernel
theorem dX8_commands_88 : decode cX8_commands 88 = .ok (.istore_n 3, 1) := by decide +kernel
theorem dX8_commands_89 : decode cX8_commands 89 = .ok (.iinc 2 1, 3) := by decide +kernel
theorem dX8_commands_92 : decode cX8_commands 92 = .ok (.goto (-26), 3) := by decide +kernel
theorem dX8_commands_95 : decode cX8_commands 95 = .ok (.aload_n 0, 1) := by decide +kernel
theorem dX8_commands_96 : decode cX8_commands 96 = .ok (.iconst 0, 1) := by decide +kernel
theorem dX8_commands_97 : decode cX8_commands 97 = .ok (.putfield 57, 3) := by decide +kernel
theorem dX8_commands_100 : decode cX8_commands 100 = .ok (.aload_n 0, 1) := by decide +kernel
theorem dX8_commands_101 : decode cX8_commands 101 = .ok (.getfield 45, 3) := by decide +kernel
theorem dX8_commands_104 : decode cX8_commands 104 = .ok (.ifCond .le 38, 3) := by decide +kernel
theorem dX8_commands_107 : decode cX8_commands 107 = .ok (.aload_n 0, 1) := by decide +kernel
theorem dX8_commands_108 : decode cX8_commands 108 = .ok (.getfield 19, 3) := by decide +kernel
theorem dX8_commands_111 : decode cX8_commands 111 = .ok (.iconst 0, 1) := by decide +kernel
theorem dX8_commands_112 : decode cX8_commands 112 = .ok (.aload_n 0, 1) := by decide +kernel
theorem dX8_commands_113 : decode cX8_commands 113 = .ok (.getfield 7, 3) := by decide +kernel
theorem dX8_commands_116 : decode cX8_commands 116 = .ok (.iconst 0, 1) := by decide +kernel
theorem dX8_commands_117 : decode cX8_commands 117 = .ok (.invokestatic 64, 3) := by decide +kernel
theorem dX8_commands_120 : decode cX8_commands 120 = .ok (.aload_n 0, 1) := by decide +kernel
theorem dX8_commands_121 : decode cX8_commands 121 = .ok (.iload_n 2, 1) := by decide +kernel
theorem dX8_commands_122 : decode cX8_commands 122 = .ok (.iconst 1, 1) := by decide +kernel
theorem dX8_commands_123 : decode cX8_commands 123 = .ok (.isub, 1) := by decide +kernel
theorem dX8_commands_124 : decode cX8_commands 124 = .ok (.putfield 54, 3) := by decide +kernel
theorem dX8_commands_127 : decode cX8_commands 127 = .ok (.aload_n 0, 1) := by decide +kernel
theorem dX8_commands_128 : decode cX8_commands 128 = .ok (.iconst 2, 1) := by decide +kernel
theorem dX8_commands_129 : decode cX8_commands 129 = .ok (.putfield 45, 3) := by decide +kernel
theorem dX8_commands_132 : decode cX8_commands 132 = .ok (.iload_n 3, 1) := by decide +kernel
theorem dX8_commands_133 : decode cX8_commands 133 = .ok (.ifCond .ge 7, 3) := by decide +kernel
theorem dX8_commands_136 : decode cX8_commands 136 = .ok (.iload_n 3, 1) := by decide +kernel
theorem dX8_commands_137 : decode cX8_commands 137 = .ok (.goto 4, 3) := by decide +kernel
theorem dX8_commands_140 : decode cX8_commands 140 = .ok (.iconst 0, 1) := by decide +kernel
theorem dX8_commands_141 : decode cX8_commands 141 = .ok (.ireturn, 1) := by decide +kernel
theorem dX8_commands_142 : decode cX8_commands 142 = .ok (.aload_n 0, 1) := by decide +kernel
theorem dX8_commands_143 : decode cX8_commands 143 = .ok (.aload_n 0, 1) := by decide +kernel
theorem dX8_commands_144 : decode cX8_commands 144 = .ok (.getfield 19, 3) := by decide +kernel
theorem dX8_commands_147 : decode cX8_commands 147 = .ok (.invokevirtual 104, 3) := by decide +kernel
theorem dX8_commands_150 : decode cX8_commands 150 = .ok (.aload_n 0, 1) := by decide +kernel
theorem dX8_commands_151 : decode cX8_commands 151 = .ok (.getfield 201, 3) := by decide +kernel
theorem dX8_commands_154 : decode cX8_commands 154 = .ok (.ireturn, 1) := by decide +kernel
theorem dX8_faultPosition_0 : decode cX8_faultPosition 0 = .ok (.aload_n 0, 1) := by decide +kernel
theorem dX8_faultPosition_1 : decode cX8_faultPosition 1 = .ok (.iconst 0, 1) := by decide +kernel
theorem dX8_faultPosition_2 : decode cX8_faultPosition 2 = .ok (.putfield 45, 3) := by decide +kernel
theorem dX8_faultPosition_5 : decode cX8_faultPosition 5 = .ok (.aload_n 0, 1) := by decide +kernel
theorem dX8_faultPosition_6 : decode cX8_faultPosition 6 = .ok (.getfield 25, 3) := by decide +kernel
theorem dX8_faultPosition_9 : decode cX8_faultPosition 9 = .ok (.ireturn, 1) := by decide +kernel
theorem dX8_reason_0 : decode cX8_reason 0 = .ok (.aload_n 0, 1) := by decide +kernel
theorem dX8_reason_1 : decode cX8_reason 1 = .ok (.iload_n 1, 1) := by decide +kernel
theorem dX8_reason_2 : decode cX8_reason 2 = .ok (.iconst 0, 1) := by decide +kernel
theorem dX8_reason_3 : decode cX8_reason 3 = .ok (.iconst 2, 1) := by decide +kernel
theorem dX8_reason_4 : decode cX8_reason 4 = .ok (.invokestatic 68, 3) := by decide +kernel
theorem dX8_reason_7 : decode cX8_reason 7 = .ok (.ifCond .ne 7, 3) := by decide +kernel
theorem dX8_reason_10 : decode cX8_reason 10 = .ok (.iconst 1, 1) := by decide +kernel
theorem dX8_reason_11 : decode cX8_reason 11 = .ok (.goto 15, 3) := by decide +kernel
theorem dX8_reason_14 : decode cX8_reason 14 = .ok (.aload_n 0, 1) := by decide +kernel
theorem dX8_reason_15 : decode cX8_reason 15 = .ok (.getfield 48, 3) := by decide +kernel
theorem dX8_reason_18 : decode cX8_reason 18 = .ok (.ifCond .ne 7, 3) := by decide +kernel
theorem dX8_reason_21 : decode cX8_reason 21 = .ok (.iconst 2, 1) := by decide +kernel
theorem dX8_reason_22 : decode cX8_reason 22 = .ok (.goto 4, 3) := by decide +kernel
theorem dX8_reason_25 : decode cX8_reason 25 = .ok (.iconst 0, 1) := by decide +kernel
theorem dX8_reason_26 : decode cX8_reason 26 = .ok (.invokevirtual 183, 3) := by decide +kernel
theorem dX8_reason_29 : decode cX8_reason 29 = .ok (.ifCond .eq 5, 3) := by decide +kernel
theorem dX8_reason_32 : decode cX8_reason 32 = .ok (.iconst 0, 1) := by decide +kernel
theorem dX8_reason_33 : decode cX8_reason 33 = .ok (.ireturn, 1) := by decide +kernel
theorem dX8_reason_34 : decode cX8_reason 34 = .ok (.iload_n 1, 1) := by decide +kernel
theorem dX8_reason_35 : decode cX8_reason 35 = .ok (.ifCond .ne 10, 3) := by decide +kernel
theorem dX8_reason_38 : decode cX8_reason 38 = .ok (.aload_n 0, 1) := by decide +kernel
theorem dX8_reason_39 : decode cX8_reason 39 = .ok (.getfield 48, 3) := by decide +kernel
theorem dX8_reason_42 : decode cX8_reason 42 = .ok (.goto 19, 3) := by decide +kernel
theorem dX8_reason_45 : decode cX8_reason 45 = .ok (.iload_n 1, 1) := by decide +kernel
theorem dX8_reason_46 : decode cX8_reason 46 = .ok (.iconst 1, 1) := by decide +kernel
theorem dX8_reason_47 : decode cX8_reason 47 = .ok (.if_icmp .ne 10, 3) := by decide +kernel
theorem dX8_reason_50 : decode cX8_reason 50 = .ok (.aload_n 0, 1) := by decide +kernel
theorem dX8_reason_51 : decode cX8_reason 51 = .ok (.getfield 51, 3) := by decide +kernel
theorem dX8_reason_54 : decode cX8_reason 54 = .ok (.goto 7, 3) := by decide +kernel
theorem dX8_reason_57 : decode cX8_reason 57 = .ok (.aload_n 0, 1) := by decide +kernel
theorem dX8_reason_58 : decode cX8_reason 58 = .ok (.getfield 54, 3) := by decide +kernel
theorem dX8_reason_61 : decode cX8_reason 61 = .ok (.ireturn, 1) := by decide +kernel
theorem dX8_writes_0 : decode cX8_writes 0 = .ok (.aload_n 0, 1) := by decide +kernel
theorem dX8_writes_1 : decode cX8_writes 1 = .ok (.getfield 29, 3) := by decide +kernel
theorem dX8_writes_4 : decode cX8_writes 4 = .ok (.aload_n 0, 1) := by decide +kernel
theorem dX8_writes_5 : decode cX8_writes 5 = .ok (.getfield 235, 3) := by decide +kernel
theorem dX8_writes_8 : decode cX8_writes 8 = .ok (.iload_n 1, 1) := by decide +kernel
theorem dX8_writes_9 : decode cX8_writes 9 = .ok (.i2c, 1) := by decide +kernel
theorem dX8_writes_10 : decode cX8_writes 10 = .ok (.castore, 1) := by decide +kernel
theorem dX8_writes_11 : decode cX8_writes 11 = .ok (.aload_n 0, 1) := by decide +kernel
theorem dX8_writes_12 : decode cX8_writes 12 = .ok (.dup, 1) := by decide +kernel
theorem dX8_writes_13 : decode cX8_writes 13 = .ok (.getfield 235, 3) := by decide +kernel
theorem dX8_writes_16 : decode cX8_writes 16 = .ok (.iconst 1, 1) := by decide +kernel
theorem dX8_writes_17 : decode cX8_writes 17 = .ok (.iadd, 1) := by decide +kernel
theorem dX8_writes_18 : decode cX8_writes 18 = .ok (.putfield 235, 3) := by decide +kernel
theorem dX8_writes_21 : decode cX8_writes 21 = .ok (.return_, 1) := by decide +kernel
theorem dX8_line_0 : decode cX8_line 0 = .ok (.aload_n 0, 1) := by decide +kernel
theorem dX8_line_1 : decode cX8_line 1 = .ok (.iload_n 1, 1) := by decide +kernel
theorem dX8_line_2 : decode cX8_line 2 = .ok (.iconst 0, 1) := by decide +kernel
theorem dX8_line_3 : decode cX8_line 3 = .ok (.iload_n 2, 1) := by decide +kernel
theorem dX8_line_4 : decode cX8_line 4 = .ok (.invokestatic 119, 3) := by decide +kernel
theorem dX8_line_7 : decode cX8_line 7 = .ok (.ifCond .eq 7, 3) := by decide +kernel
theorem dX8_line_10 : decode cX8_line 10 = .ok (.iconst 0, 1) := by decide +kernel
theorem dX8_line_11 : decode cX8_line 11 = .ok (.goto 4, 3) := by decide +kernel
theorem dX8_line_14 : decode cX8_line 14 = .ok (.iconst 1, 1) := by decide +kernel
theorem dX8_line_15 : decode cX8_line 15 = .ok (.invokevirtual 183, 3) := by decide +kernel
theorem dX8_line_18 : decode cX8_line 18 = .ok (.ifCond .eq 5, 3) := by decide +kernel
theorem dX8_line_21 : decode cX8_line 21 = .ok (.iconst 0, 1) := by decide +kernel
theorem dX8_line_22 : decode cX8_line 22 = .ok (.ireturn, 1) := by decide +kernel
theorem dX8_line_23 : decode cX8_line 23 = .ok (.aload_n 0, 1) := by decide +kernel
theorem dX8_line_24 : decode cX8_line 24 = .ok (.iconst 0, 1) := by decide +kernel
theorem dX8_line_25 : decode cX8_line 25 = .ok (.putfield 235, 3) := by decide +kernel
theorem dX8_line_28 : decode cX8_line 28 = .ok (.iconst 0, 1) := by decide +kernel
theorem dX8_line_29 : decode cX8_line 29 = .ok (.istore_n 3, 1) := by decide +kernel
theorem dX8_line_30 : decode cX8_line 30 = .ok (.iload_n 3, 1) := by decide +kernel
theorem dX8_line_31 : decode cX8_line 31 = .ok (.bipush 8, 2) := by decide +kernel
theorem dX8_line_33 : decode cX8_line 33 = .ok (.if_icmp .ge 97, 3) := by decide +kernel
theorem dX8_line_36 : decode cX8_line 36 = .ok (.iload_n 1, 1) := by decide +kernel
theorem dX8_line_37 : decode cX8_line 37 = .ok (.iload_n 3, 1) := by decide +kernel
theorem dX8_line_38 : decode cX8_line 38 = .ok (.iload_n 2, 1) := by decide +kernel
theorem dX8_line_39 : decode cX8_line 39 = .ok (.invokestatic 115, 3) := by decide +kernel
theorem dX8_line_42 : decode cX8_line 42 = .ok (.istore 4, 2) := by decide +kernel
theorem dX8_line_44 : decode cX8_line 44 = .ok (.aload_n 0, 1) := by decide +kernel
theorem dX8_line_45 : decode cX8_line 45 = .ok (.aload_n 0, 1) := by decide +kernel
theorem dX8_line_46 : decode cX8_line 46 = .ok (.iload 4, 2) := by decide +kernel
theorem dX8_line_48 : decode cX8_line 48 = .ok (.invokevirtual 76, 3) := by decide +kernel
theorem dX8_line_51 : decode cX8_line 51 = .ok (.ifCond .ne 8, 3) := by decide +kernel
theorem dX8_line_54 : decode cX8_line 54 = .ok (.bipush 46, 2) := by decide +kernel
theorem dX8_line_56 : decode cX8_line 56 = .ok (.goto 41, 3) := by decide +kernel
theorem dX8_line_59 : decode cX8_line 59 = .ok (.aload_n 0, 1) := by decide +kernel
theorem dX8_line_60 : decode cX8_line 60 = .ok (.iload 4, 2) := by decide +kernel
theorem dX8_line_62 : decode cX8_line 62 = .ok (.invokevirtual 76, 3) := by decide +kernel
theorem dX8_line_65 : decode cX8_line 65 = .ok (.iconst 1, 1) := by decide +kernel
theorem dX8_line_66 : decode cX8_line 66 = .ok (.if_icmp .ne 8, 3) := by decide +kernel
theorem dX8_line_69 : decode cX8_line 69 = .ok (.bipush 35, 2) := by decide +kernel
theorem dX8_line_71 : decode cX8_line 71 = .ok (.goto 26, 3) := by decide +kernel
theorem dX8_line_74 : decode cX8_line 74 = .ok (.aload_n 0, 1) := by decide +kernel
theorem dX8_line_75 : decode cX8_line 75 = .ok (.iload 4, 2) := by decide +kernel
theorem dX8_line_77 : decode cX8_line 77 = .ok (.invokevirtual 93, 3) := by decide +kernel
theorem dX8_line_80 : decode cX8_line 80 = .ok (.ifCond .eq 8, 3) := by decide +kernel
theorem dX8_line_83 : decode cX8_line 83 = .ok (.bipush 65, 2) := by decide +kernel
theorem dX8_line_85 : decode cX8_line 85 = .ok (.goto 5, 3) := by decide +kernel
theorem dX8_line_88 : decode cX8_line 88 = .ok (.bipush 97, 2) := by decide +kernel
theorem dX8_line_90 : decode cX8_line 90 = .ok (.aload_n 0, 1) := by decide +kernel
theorem dX8_line_91 : decode cX8_line 91 = .ok (.iload 4, 2) := by decide +kernel
theorem dX8_line_93 : decode cX8_line 93 = .ok (.invokevirtual 87, 3) := by decide +kernel
theorem dX8_line_96 : decode cX8_line 96 = .ok (.iadd, 1) := by decide +kernel
theorem dX8_line_97 : decode cX8_line 97 = .ok (.invokevirtual 238, 3) := by decide +kernel
theorem dX8_line_100 : decode cX8_line 100 = .ok (.aload_n 0, 1) := by decide +kernel
theorem dX8_line_101 : decode cX8_line 101 = .ok (.getfield 7, 3) := by decide +kernel
theorem dX8_line_104 : decode cX8_line 104 = .ok (.sipush 151, 3) := by decide +kernel
theorem dX8_line_107 : decode cX8_line 107 = .ok (.iload_n 1, 1) := by decide +kernel
theorem dX8_line_108 : decode cX8_line 108 = .ok (.iload_n 3, 1) := by decide +kernel
theorem dX8_line_109 : decode cX8_line 109 = .ok (.iconst 0, 1) := by decide +kernel
theorem dX8_line_110 : decode cX8_line 110 = .ok (.invokestatic 115, 3) := by decide +kernel
theorem dX8_line_113 : decode cX8_line 113 = .ok (.iadd, 1) := by decide +kernel
theorem dX8_line_114 : decode cX8_line 114 = .ok (.iaload, 1) := by decide +kernel
theorem dX8_line_115 : decode cX8_line 115 = .ok (.ifCond .le 9, 3) := by decide +kernel
theorem dX8_line_118 : decode cX8_line 118 = .ok (.aload_n 0, 1) := by decide +kernel
theorem dX8_line_119 : decode cX8_line 119 = .ok (.bipush 111, 2) := by decide +kernel
theorem dX8_line_121 : decode cX8_line 121 = .ok (.invokevirtual 238, 3) := by decide +kernel
theorem dX8_line_124 : decode cX8_line 124 = .ok (.iinc 3 1, 3) := by decide +kernel
theorem dX8_line_127 : decode cX8_line 127 = .ok (.goto (-97), 3) := by decide +kernel
theorem dX8_line_130 : decode cX8_line 130 = .ok (.aload_n 0, 1) := by decide +kernel
theorem dX8_line_131 : decode cX8_line 131 = .ok (.getfield 235, 3) := by decide +kernel
theorem dX8_line_134 : decode cX8_line 134 = .ok (.ireturn, 1) := by decide +kernel
theorem dX8_character_0 : decode cX8_character 0 = .ok (.aload_n 0, 1) := by decide +kernel
theorem dX8_character_1 : decode cX8_character 1 = .ok (.iload_n 1, 1) := by decide +kernel
theorem dX8_character_2 : decode cX8_character 2 = .ok (.iconst 0, 1) := by decide +kernel
theorem dX8_character_3 : decode cX8_character 3 = .ok (.aload_n 0, 1) := by decide +kernel
theorem dX8_character_4 : decode cX8_character 4 = .ok (.getfield 235, 3) := by decide +kernel
theorem dX8_character_7 : decode cX8_character 7 = .ok (.iconst 1, 1) := by decide +kernel
theorem dX8_character_8 : decode cX8_character 8 = .ok (.isub, 1) := by decide +kernel
theorem dX8_character_9 : decode cX8_character 9 = .ok (.invokestatic 68, 3) := by decide +kernel
theorem dX8_character_12 : decode cX8_character 12 = .ok (.ifCond .eq 7, 3) := by decide +kernel
theorem dX8_character_15 : decode cX8_character 15 = .ok (.iconst 0, 1) := by decide +kernel
theorem dX8_character_16 : decode cX8_character 16 = .ok (.goto 4, 3) := by decide +kernel
theorem dX8_character_19 : decode cX8_character 19 = .ok (.iconst 1, 1) := by decide +kernel
theorem dX8_character_20 : decode cX8_character 20 = .ok (.invokevirtual 183, 3) := by decide +kernel
theorem dX8_character_23 : decode cX8_character 23 = .ok (.ifCond .eq 8, 3) := by decide +kernel
theorem dX8_character_26 : decode cX8_character 26 = .ok (.bipush 32, 2) := by decide +kernel
theorem dX8_character_28 : decode cX8_character 28 = .ok (.goto 9, 3) := by decide +kernel
theorem dX8_character_31 : decode cX8_character 31 = .ok (.aload_n 0, 1) := by decide +kernel
theorem dX8_character_32 : decode cX8_character 32 = .ok (.getfield 29, 3) := by decide +kernel
theorem dX8_character_35 : decode cX8_character 35 = .ok (.iload_n 1, 1) := by decide +kernel
theorem dX8_character_36 : decode cX8_character 36 = .ok (.caload, 1) := by decide +kernel
theorem dX8_character_37 : decode cX8_character 37 = .ok (.ireturn, 1) := by decide +kernel
theorem dX8_sumOf_0 : decode cX8_sumOf 0 = .ok (.iconst 0, 1) := by decide +kernel
theorem dX8_sumOf_1 : decode cX8_sumOf 1 = .ok (.istore_n 2, 1) := by decide +kernel
theorem dX8_sumOf_2 : decode cX8_sumOf 2 = .ok (.iconst 0, 1) := by decide +kernel
theorem dX8_sumOf_3 : decode cX8_sumOf 3 = .ok (.istore_n 3, 1) := by decide +kernel
theorem dX8_sumOf_4 : decode cX8_sumOf 4 = .ok (.iload_n 3, 1) := by decide +kernel
theorem dX8_sumOf_5 : decode cX8_sumOf 5 = .ok (.aload_n 0, 1) := by decide +kernel
theorem dX8_sumOf_6 : decode cX8_sumOf 6 = .ok (.getfield 7, 3) := by decide +kernel
theorem dX8_sumOf_9 : decode cX8_sumOf 9 = .ok (.iconst 0, 1) := by decide +kernel
theorem dX8_sumOf_10 : decode cX8_sumOf 10 = .ok (.iaload, 1) := by decide +kernel
theorem dX8_sumOf_11 : decode cX8_sumOf 11 = .ok (.if_icmp .ge 18, 3) := by decide +kernel
theorem dX8_sumOf_14 : decode cX8_sumOf 14 = .ok (.iload_n 2, 1) := by decide +kernel
theorem dX8_sumOf_15 : decode cX8_sumOf 15 = .ok (.aload_n 0, 1) := by decide +kernel
theorem dX8_sumOf_16 : decode cX8_sumOf 16 = .ok (.iload_n 3, 1) := by decide +kernel
theorem dX8_sumOf_17 : decode cX8_sumOf 17 = .ok (.iload_n 1, 1) := by decide +kernel
theorem dX8_sumOf_18 : decode cX8_sumOf 18 = .ok (.invokevirtual 80, 3) := by decide +kernel
theorem dX8_sumOf_21 : decode cX8_sumOf 21 = .ok (.iadd, 1) := by decide +kernel
theorem dX8_sumOf_22 : decode cX8_sumOf 22 = .ok (.istore_n 2, 1) := by decide +kernel
theorem dX8_sumOf_23 : decode cX8_sumOf 23 = .ok (.iinc 3 1, 3) := by decide +kernel
theorem dX8_sumOf_26 : decode cX8_sumOf 26 = .ok (.goto (-22), 3) := by decide +kernel
theorem dX8_sumOf_29 : decode cX8_sumOf 29 = .ok (.iload_n 2, 1) := by decide +kernel
theorem dX8_sumOf_30 : decode cX8_sumOf 30 = .ok (.ireturn, 1) := by decide +kernel
theorem dX8_freeMany_0 : decode cX8_freeMany 0 = .ok (.iconst 0, 1) := by decide +kernel
theorem dX8_freeMany_1 : decode cX8_freeMany 1 = .ok (.istore_n 1, 1) := by decide +kernel
theorem dX8_freeMany_2 : decode cX8_freeMany 2 = .ok (.iconst 0, 1) := by decide +kernel
theorem dX8_freeMany_3 : decode cX8_freeMany 3 = .ok (.istore_n 2, 1) := by decide +kernel
theorem dX8_freeMany_4 : decode cX8_freeMany 4 = .ok (.iload_n 2, 1) := by decide +kernel
theorem dX8_freeMany_5 : decode cX8_freeMany 5 = .ok (.bipush 96, 2) := by decide +kernel
theorem dX8_freeMany_7 : decode cX8_freeMany 7 = .ok (.if_icmp .ge 25, 3) := by decide +kernel
theorem dX8_freeMany_10 : decode cX8_freeMany 10 = .ok (.iload_n 1, 1) := by decide +kernel
theorem dX8_freeMany_11 : decode cX8_freeMany 11 = .ok (.aload_n 0, 1) := by decide +kernel
theorem dX8_freeMany_12 : decode cX8_freeMany 12 = .ok (.iload_n 2, 1) := by decide +kernel
theorem dX8_freeMany_13 : decode cX8_freeMany 13 = .ok (.invokevirtual 76, 3) := by decide +kernel
theorem dX8_freeMany_16 : decode cX8_freeMany 16 = .ok (.ifCond .ne 7, 3) := by decide +kernel
theorem dX8_freeMany_19 : decode cX8_freeMany 19 = .ok (.iconst 1, 1) := by decide +kernel
theorem dX8_freeMany_20 : decode cX8_freeMany 20 = .ok (.goto 4, 3) := by decide +kernel
theorem dX8_freeMany_23 : decode cX8_freeMany 23 = .ok (.iconst 0, 1) := by decide +kernel
theorem dX8_freeMany_24 : decode cX8_freeMany 24 = .ok (.iadd, 1) := by decide +kernel
theorem dX8_freeMany_25 : decode cX8_freeMany 25 = .ok (.istore_n 1, 1) := by decide +kernel
theorem dX8_freeMany_26 : decode cX8_freeMany 26 = .ok (.iinc 2 1, 3) := by decide +kernel
theorem dX8_freeMany_29 : decode cX8_freeMany 29 = .ok (.goto (-25), 3) := by decide +kernel
theorem dX8_freeMany_32 : decode cX8_freeMany 32 = .ok (.iload_n 1, 1) := by decide +kernel
theorem dX8_freeMany_33 : decode cX8_freeMany 33 = .ok (.ireturn, 1) := by decide +kernel
theorem dX8_wires_0 : decode cX8_wires 0 = .ok (.iconst 0, 1) := by decide +kernel
theorem dX8_wires_1 : decode cX8_wires 1 = .ok (.istore_n 1, 1) := by decide +kernel
theorem dX8_wires_2 : decode cX8_wires 2 = .ok (.iconst 0, 1) := by decide +kernel
theorem dX8_wires_3 : decode cX8_wires 3 = .ok (.istore_n 2, 1) := by decide +kernel
theorem dX8_wires_4 : decode cX8_wires 4 = .ok (.iload_n 2, 1) := by decide +kernel
theorem dX8_wires_5 : decode cX8_wires 5 = .ok (.bipush 96, 2) := by decide +kernel
theorem dX8_wires_7 : decode cX8_wires 7 = .ok (.if_icmp .ge 34, 3) := by decide +kernel
theorem dX8_wires_10 : decode cX8_wires 10 = .ok (.iload_n 1, 1) := by decide +kernel
theorem dX8_wires_11 : decode cX8_wires 11 = .ok (.aload_n 0, 1) := by decide +kernel
theorem dX8_wires_12 : decode cX8_wires 12 = .ok (.iload_n 2, 1) := by decide +kernel
theorem dX8_wires_13 : decode cX8_wires 13 = .ok (.invokevirtual 76, 3) := by decide +kernel
theorem dX8_wires_16 : decode cX8_wires 16 = .ok (.iconst 2, 1) := by decide +kernel
theorem dX8_wires_17 : decode cX8_wires 17 = .ok (.if_icmp .lt 15, 3) := by decide +kernel
theorem dX8_wires_20 : decode cX8_wires 20 = .ok (.aload_n 0, 1) := by decide +kernel
theorem dX8_wires_21 : decode cX8_wires 21 = .ok (.iload_n 2, 1) := by decide +kernel
theorem dX8_wires_22 : decode cX8_wires 22 = .ok (.invokevirtual 93, 3) := by decide +kernel
theorem dX8_wires_25 : decode cX8_wires 25 = .ok (.ifCond .ne 7, 3) := by decide +kernel
theorem dX8_wires_28 : decode cX8_wires 28 = .ok (.iconst 1, 1) := by decide +kernel
theorem dX8_wires_29 : decode cX8_wires 29 = .ok (.goto 4, 3) := by decide +kernel
theorem dX8_wires_32 : decode cX8_wires 32 = .ok (.iconst 0, 1) := by decide +kernel
theorem dX8_wires_33 : decode cX8_wires 33 = .ok (.iadd, 1) := by decide +kernel
theorem dX8_wires_34 : decode cX8_wires 34 = .ok (.istore_n 1, 1) := by decide +kernel
theorem dX8_wires_35 : decode cX8_wires 35 = .ok (.iinc 2 1, 3) := by decide +kernel
theorem dX8_wires_38 : decode cX8_wires 38 = .ok (.goto (-34), 3) := by decide +kernel
theorem dX8_wires_41 : decode cX8_wires 41 = .ok (.iload_n 1, 1) := by decide +kernel
theorem dX8_wires_42 : decode cX8_wires 42 = .ok (.ireturn, 1) := by decide +kernel
theorem dX8_meanCost_0 : decode cX8_meanCost 0 = .ok (.aload_n 0, 1) := by decide +kernel
theorem dX8_meanCost_1 : decode cX8_meanCost 1 = .ok (.aload_n 0, 1) := by decide +kernel
theorem dX8_meanCost_2 : decode cX8_meanCost 2 = .ok (.bipush 6, 2) := by decide +kernel
theorem dX8_meanCost_4 : decode cX8_meanCost 4 = .ok (.invokevirtual 241, 3) := by decide +kernel
theorem dX8_meanCost_7 : decode cX8_meanCost 7 = .ok (.ifCond .ne 7, 3) := by decide +kernel
theorem dX8_meanCost_10 : decode cX8_meanCost 10 = .ok (.iconst 1, 1) := by decide +kernel
theorem dX8_meanCost_11 : decode cX8_meanCost 11 = .ok (.goto 4, 3) := by decide +kernel
theorem dX8_meanCost_14 : decode cX8_meanCost 14 = .ok (.iconst 0, 1) := by decide +kernel
theorem dX8_meanCost_15 : decode cX8_meanCost 15 = .ok (.invokevirtual 183, 3) := by decide +kernel
theorem dX8_meanCost_18 : decode cX8_meanCost 18 = .ok (.ifCond .eq 7, 3) := by decide +kernel
theorem dX8_meanCost_21 : decode cX8_meanCost 21 = .ok (.fconst 0, 1) := by decide +kernel
theorem dX8_meanCost_22 : decode cX8_meanCost 22 = .ok (.goto 18, 3) := by decide +kernel
theorem dX8_meanCost_25 : decode cX8_meanCost 25 = .ok (.aload_n 0, 1) := by decide +kernel
theorem dX8_meanCost_26 : decode cX8_meanCost 26 = .ok (.bipush 7, 2) := by decide +kernel
theorem dX8_meanCost_28 : decode cX8_meanCost 28 = .ok (.invokevirtual 241, 3) := by decide +kernel
theorem dX8_meanCost_31 : decode cX8_meanCost 31 = .ok (.i2f, 1) := by decide +kernel
theorem dX8_meanCost_32 : decode cX8_meanCost 32 = .ok (.aload_n 0, 1) := by decide +kernel
theorem dX8_meanCost_33 : decode cX8_meanCost 33 = .ok (.bipush 6, 2) := by decide +kernel
theorem dX8_meanCost_35 : decode cX8_meanCost 35 = .ok (.invokevirtual 241, 3) := by decide +kernel
theorem dX8_meanCost_38 : decode cX8_meanCost 38 = .ok (.i2f, 1) := by decide +kernel
theorem dX8_meanCost_39 : decode cX8_meanCost 39 = .ok (.fdiv, 1) := by decide +kernel
theorem dX8_meanCost_40 : decode cX8_meanCost 40 = .ok (.freturn, 1) := by decide +kernel
theorem dX8_filledShare_0 : decode cX8_filledShare 0 = .ok (.aload_n 0, 1) := by decide +kernel
theorem dX8_filledShare_1 : decode cX8_filledShare 1 = .ok (.iconst 0, 1) := by decide +kernel
theorem dX8_filledShare_2 : decode cX8_filledShare 2 = .ok (.putfield 45, 3) := by decide +kernel
theorem dX8_filledShare_5 : decode cX8_filledShare 5 = .ok (.bipush 96, 2) := by decide +kernel
theorem dX8_filledShare_7 : decode cX8_filledShare 7 = .ok (.aload_n 0, 1) := by decide +kernel
theorem dX8_filledShare_8 : decode cX8_filledShare 8 = .ok (.invokevirtual 244, 3) := by decide +kernel
theorem dX8_filledShare_11 : decode cX8_filledShare 11 = .ok (.isub, 1) := by decide +kernel
theorem dX8_filledShare_12 : decode cX8_filledShare 12 = .ok (.i2d, 1) := by decide +kernel
theorem dX8_filledShare_13 : decode cX8_filledShare 13 = .ok (.ldc2_w 247, 3) := by decide +kernel
theorem dX8_filledShare_16 : decode cX8_filledShare 16 = .ok (.ddiv, 1) := by decide +kernel
theorem dX8_filledShare_17 : decode cX8_filledShare 17 = .ok (.dreturn, 1) := by decide +kernel
theorem dX8_account_0 : decode cX8_account 0 = .ok (.aload_n 0, 1) := by decide +kernel
theorem dX8_account_1 : decode cX8_account 1 = .ok (.iload_n 1, 1) := by decide +kernel
theorem dX8_account_2 : decode cX8_account 2 = .ok (.iconst 0, 1) := by decide +kernel
theorem dX8_account_3 : decode cX8_account 3 = .ok (.bipush 9, 2) := by decide +kernel
theorem dX8_account_5 : decode cX8_account 5 = .ok (.invokestatic 68, 3) := by decide +kernel
theorem dX8_account_8 : decode cX8_account 8 = .ok (.ifCond .eq 7, 3) := by decide +kernel
theorem dX8_account_11 : decode cX8_account 11 = .ok (.iconst 0, 1) := by decide +kernel
theorem dX8_account_12 : decode cX8_account 12 = .ok (.goto 4, 3) := by decide +kernel
theorem dX8_account_15 : decode cX8_account 15 = .ok (.iconst 1, 1) := by decide +kernel
theorem dX8_account_16 : decode cX8_account 16 = .ok (.invokevirtual 183, 3) := by decide +kernel
theorem dX8_account_19 : decode cX8_account 19 = .ok (.ifCond .eq 5, 3) := by decide +kernel
theorem dX8_account_22 : decode cX8_account 22 = .ok (.iconst 0, 1) := by decide +kernel
theorem dX8_account_23 : decode cX8_account 23 = .ok (.ireturn, 1) := by decide +kernel
theorem dX8_account_24 : decode cX8_account 24 = .ok (.iload_n 1, 1) := by decide +kernel
theorem dX8_account_25 : decode cX8_account 25 = .ok (.tableswitch 105 0 8 #[51, 58, 65, 71, 76, 81, 86, 93, 100], 51) := by decide +kernel
theorem dX8_account_76 : decode cX8_account 76 = .ok (.aload_n 0, 1) := by decide +kernel
theorem dX8_account_77 : decode cX8_account 77 = .ok (.getfield 7, 3) := by decide +kernel
theorem dX8_account_80 : decode cX8_account 80 = .ok (.iconst 0, 1) := by decide +kernel
theorem dX8_account_81 : decode cX8_account 81 = .ok (.iaload, 1) := by decide +kernel
theorem dX8_account_82 : decode cX8_account 82 = .ok (.ireturn, 1) := by decide +kernel
theorem dX8_account_83 : decode cX8_account 83 = .ok (.aload_n 0, 1) := by decide +kernel
theorem dX8_account_84 : decode cX8_account 84 = .ok (.bipush 6, 2) := by decide +kernel
theorem dX8_account_86 : decode cX8_account 86 = .ok (.invokevirtual 241, 3) := by decide +kernel
theorem dX8_account_89 : decode cX8_account 89 = .ok (.ireturn, 1) := by decide +kernel
theorem dX8_account_90 : decode cX8_account 90 = .ok (.aload_n 0, 1) := by decide +kernel
theorem dX8_account_91 : decode cX8_account 91 = .ok (.iconst 1, 1) := by decide +kernel
theorem dX8_account_92 : decode cX8_account 92 = .ok (.invokevirtual 241, 3) := by decide +kernel
theorem dX8_account_95 : decode cX8_account 95 = .ok (.ireturn, 1) := by decide +kernel
theorem dX8_account_96 : decode cX8_account 96 = .ok (.aload_n 0, 1) := by decide +kernel
theorem dX8_account_97 : decode cX8_account 97 = .ok (.invokevirtual 122, 3) := by decide +kernel
theorem dX8_account_100 : decode cX8_account 100 = .ok (.ireturn, 1) := by decide +kernel
theorem dX8_account_101 : decode cX8_account 101 = .ok (.aload_n 0, 1) := by decide +kernel
theorem dX8_account_102 : decode cX8_account 102 = .ok (.invokevirtual 244, 3) := by decide +kernel
theorem dX8_account_105 : decode cX8_account 105 = .ok (.ireturn, 1) := by decide +kernel
theorem dX8_account_106 : decode cX8_account 106 = .ok (.aload_n 0, 1) := by decide +kernel
theorem dX8_account_107 : decode cX8_account 107 = .ok (.invokevirtual 249, 3) := by decide +kernel
theorem dX8_account_110 : decode cX8_account 110 = .ok (.ireturn, 1) := by decide +kernel
theorem dX8_account_111 : decode cX8_account 111 = .ok (.aload_n 0, 1) := by decide +kernel
theorem dX8_account_112 : decode cX8_account 112 = .ok (.bipush 7, 2) := by decide +kernel
theorem dX8_account_114 : decode cX8_account 114 = .ok (.invokevirtual 241, 3) := by decide +kernel
theorem dX8_account_117 : decode cX8_account 117 = .ok (.ireturn, 1) := by decide +kernel
theorem dX8_account_118 : decode cX8_account 118 = .ok (.aload_n 0, 1) := by decide +kernel
theorem dX8_account_119 : decode cX8_account 119 = .ok (.bipush 8, 2) := by decide +kernel
theorem dX8_account_121 : decode cX8_account 121 = .ok (.invokevirtual 241, 3) := by decide +kernel
theorem dX8_account_124 : decode cX8_account 124 = .ok (.ireturn, 1) := by decide +kernel
theorem dX8_account_125 : decode cX8_account 125 = .ok (.aload_n 0, 1) := by decide +kernel
theorem dX8_account_126 : decode cX8_account 126 = .ok (.getfield 61, 3) := by decide +kernel
theorem dX8_account_129 : decode cX8_account 129 = .ok (.ireturn, 1) := by decide +kernel
theorem dX8_account_130 : decode cX8_account 130 = .ok (.aload_n 0, 1) := by decide +kernel
theorem dX8_account_131 : decode cX8_account 131 = .ok (.getfield 192, 3) := by decide +kernel
theorem dX8_account_134 : decode cX8_account 134 = .ok (.ireturn, 1) := by decide +kernel
theorem dX8_undo_0 : decode cX8_undo 0 = .ok (.aload_n 0, 1) := by decide +kernel
theorem dX8_undo_1 : decode cX8_undo 1 = .ok (.aload_n 0, 1) := by decide +kernel
theorem dX8_undo_2 : decode cX8_undo 2 = .ok (.getfield 61, 3) := by decide +kernel
theorem dX8_undo_5 : decode cX8_undo 5 = .ok (.ifCond .ne 7, 3) := by decide +kernel
theorem dX8_undo_8 : decode cX8_undo 8 = .ok (.iconst 1, 1) := by decide +kernel
theorem dX8_undo_9 : decode cX8_undo 9 = .ok (.goto 4, 3) := by decide +kernel
theorem dX8_undo_12 : decode cX8_undo 12 = .ok (.iconst 0, 1) := by decide +kernel
theorem dX8_undo_13 : decode cX8_undo 13 = .ok (.invokevirtual 183, 3) := by decide +kernel
theorem dX8_undo_16 : decode cX8_undo 16 = .ok (.ifCond .eq 5, 3) := by decide +kernel
theorem dX8_undo_19 : decode cX8_undo 19 = .ok (.iconst 0, 1) := by decide +kernel
theorem dX8_undo_20 : decode cX8_undo 20 = .ok (.ireturn, 1) := by decide +kernel
theorem dX8_undo_21 : decode cX8_undo 21 = .ok (.aload_n 0, 1) := by decide +kernel
theorem dX8_undo_22 : decode cX8_undo 22 = .ok (.dup, 1) := by decide +kernel
theorem dX8_undo_23 : decode cX8_undo 23 = .ok (.getfield 61, 3) := by decide +kernel
theorem dX8_undo_26 : decode cX8_undo 26 = .ok (.iconst 1, 1) := by decide +kernel
theorem dX8_undo_27 : decode cX8_undo 27 = .ok (.isub, 1) := by decide +kernel
theorem dX8_undo_28 : decode cX8_undo 28 = .ok (.putfield 61, 3) := by decide +kernel
theorem dX8_undo_31 : decode cX8_undo 31 = .ok (.aload_n 0, 1) := by decide +kernel
theorem dX8_undo_32 : decode cX8_undo 32 = .ok (.getfield 13, 3) := by decide +kernel
theorem dX8_undo_35 : decode cX8_undo 35 = .ok (.sipush 199, 3) := by decide +kernel
theorem dX8_undo_38 : decode cX8_undo 38 = .ok (.aload_n 0, 1) := by decide +kernel
theorem dX8_undo_39 : decode cX8_undo 39 = .ok (.getfield 61, 3) := by decide +kernel
theorem dX8_undo_42 : decode cX8_undo 42 = .ok (.imul, 1) := by decide +kernel
theorem dX8_undo_43 : decode cX8_undo 43 = .ok (.aload_n 0, 1) := by decide +kernel
theorem dX8_undo_44 : decode cX8_undo 44 = .ok (.getfield 7, 3) := by decide +kernel
theorem dX8_undo_47 : decode cX8_undo 47 = .ok (.iconst 0, 1) := by decide +kernel
theorem dX8_undo_48 : decode cX8_undo 48 = .ok (.invokestatic 64, 3) := by decide +kernel
theorem dX8_undo_51 : decode cX8_undo 51 = .ok (.aload_n 0, 1) := by decide +kernel
theorem dX8_undo_52 : decode cX8_undo 52 = .ok (.getfield 61, 3) := by decide +kernel
theorem dX8_undo_55 : decode cX8_undo 55 = .ok (.ireturn, 1) := by decide +kernel
theorem dX8_save_0 : decode cX8_save 0 = .ok (.aload_n 0, 1) := by decide +kernel
theorem dX8_save_1 : decode cX8_save 1 = .ok (.iconst 0, 1) := by decide +kernel
theorem dX8_save_2 : decode cX8_save 2 = .ok (.putfield 45, 3) := by decide +kernel
theorem dX8_save_5 : decode cX8_save 5 = .ok (.aload_n 0, 1) := by decide +kernel
theorem dX8_save_6 : decode cX8_save 6 = .ok (.iconst 1, 1) := by decide +kernel
theorem dX8_save_7 : decode cX8_save 7 = .ok (.putfield 252, 3) := by decide +kernel
theorem dX8_save_10 : decode cX8_save 10 = .ok (.aload_n 0, 1) := by decide +kernel
theorem dX8_save_11 : decode cX8_save 11 = .ok (.getfield 7, 3) := by decide +kernel
theorem dX8_save_14 : decode cX8_save 14 = .ok (.iconst 0, 1) := by decide +kernel
theorem dX8_save_15 : decode cX8_save 15 = .ok (.aload_n 0, 1) := by decide +kernel
theorem dX8_save_16 : decode cX8_save 16 = .ok (.getfield 16, 3) := by decide +kernel
theorem dX8_save_19 : decode cX8_save 19 = .ok (.iconst 0, 1) := by decide +kernel
theorem dX8_save_20 : decode cX8_save 20 = .ok (.invokestatic 64, 3) := by decide +kernel
theorem dX8_save_23 : decode cX8_save 23 = .ok (.aload_n 0, 1) := by decide +kernel
theorem dX8_save_24 : decode cX8_save 24 = .ok (.getfield 7, 3) := by decide +kernel
theorem dX8_save_27 : decode cX8_save 27 = .ok (.iconst 0, 1) := by decide +kernel
theorem dX8_save_28 : decode cX8_save 28 = .ok (.iaload, 1) := by decide +kernel
theorem dX8_save_29 : decode cX8_save 29 = .ok (.ireturn, 1) := by decide +kernel
theorem dX8_restore_0 : decode cX8_restore 0 = .ok (.aload_n 0, 1) := by decide +kernel
theorem dX8_restore_1 : decode cX8_restore 1 = .ok (.aload_n 0, 1) := by decide +kernel
theorem dX8_restore_2 : decode cX8_restore 2 = .ok (.getfield 252, 3) := by decide +kernel
theorem dX8_restore_5 : decode cX8_restore 5 = .ok (.ifCond .eq 7, 3) := by decide +kernel
theorem dX8_restore_8 : decode cX8_restore 8 = .ok (.iconst 0, 1) := by decide +kernel
theorem dX8_restore_9 : decode cX8_restore 9 = .ok (.goto 4, 3) := by decide +kernel
theorem dX8_restore_12 : decode cX8_restore 12 = .ok (.iconst 1, 1) := by decide +kernel
theorem dX8_restore_13 : decode cX8_restore 13 = .ok (.invokevirtual 183, 3) := by decide +kernel
theorem dX8_restore_16 : decode cX8_restore 16 = .ok (.ifCond .eq 5, 3) := by decide +kernel
theorem dX8_restore_19 : decode cX8_restore 19 = .ok (.iconst 0, 1) := by decide +kernel
theorem dX8_restore_20 : decode cX8_restore 20 = .ok (.ireturn, 1) := by decide +kernel
theorem dX8_restore_21 : decode cX8_restore 21 = .ok (.aload_n 0, 1) := by decide +kernel
theorem dX8_restore_22 : decode cX8_restore 22 = .ok (.getfield 16, 3) := by decide +kernel
theorem dX8_restore_25 : decode cX8_restore 25 = .ok (.iconst 0, 1) := by decide +kernel
theorem dX8_restore_26 : decode cX8_restore 26 = .ok (.aload_n 0, 1) := by decide +kernel
theorem dX8_restore_27 : decode cX8_restore 27 = .ok (.getfield 7, 3) := by decide +kernel
theorem dX8_restore_30 : decode cX8_restore 30 = .ok (.iconst 0, 1) := by decide +kernel
theorem dX8_restore_31 : decode cX8_restore 31 = .ok (.invokestatic 64, 3) := by decide +kernel
theorem dX8_restore_34 : decode cX8_restore 34 = .ok (.aload_n 0, 1) := by decide +kernel
theorem dX8_restore_35 : decode cX8_restore 35 = .ok (.iconst 0, 1) := by decide +kernel
theorem dX8_restore_36 : decode cX8_restore 36 = .ok (.putfield 61, 3) := by decide +kernel
theorem dX8_restore_39 : decode cX8_restore 39 = .ok (.aload_n 0, 1) := by decide +kernel
theorem dX8_restore_40 : decode cX8_restore 40 = .ok (.getfield 7, 3) := by decide +kernel
theorem dX8_restore_43 : decode cX8_restore 43 = .ok (.iconst 0, 1) := by decide +kernel
theorem dX8_restore_44 : decode cX8_restore 44 = .ok (.iaload, 1) := by decide +kernel
theorem dX8_restore_45 : decode cX8_restore 45 = .ok (.ireturn, 1) := by decide +kernel
