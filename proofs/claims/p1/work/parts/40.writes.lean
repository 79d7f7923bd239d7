theorem dX7_putBytes_0 : decode cX7_putBytes 0 = .ok (.bipush 24, 2) := by decide +kernel
theorem dX7_putBytes_2 : decode cX7_putBytes 2 = .ok (.istore_n 2, 1) := by decide +kernel
theorem dX7_putBytes_3 : decode cX7_putBytes 3 = .ok (.iload_n 2, 1) := by decide +kernel
theorem dX7_putBytes_4 : decode cX7_putBytes 4 = .ok (.ifCond .lt 50, 3) := by decide +kernel
theorem dX7_putBytes_7 : decode cX7_putBytes 7 = .ok (.aload_n 0, 1) := by decide +kernel
theorem dX7_putBytes_8 : decode cX7_putBytes 8 = .ok (.getfield 38, 3) := by decide +kernel
theorem dX7_putBytes_11 : decode cX7_putBytes 11 = .ok (.aload_n 0, 1) := by decide +kernel
theorem dX7_putBytes_12 : decode cX7_putBytes 12 = .ok (.getfield 9, 3) := by decide +kernel
theorem dX7_putBytes_15 : decode cX7_putBytes 15 = .ok (.arraylength, 1) := by decide +kernel
theorem dX7_putBytes_16 : decode cX7_putBytes 16 = .ok (.invokestatic 156, 3) := by decide +kernel
theorem dX7_putBytes_19 : decode cX7_putBytes 19 = .ok (.ifCond .eq 29, 3) := by decide +kernel
theorem dX7_putBytes_22 : decode cX7_putBytes 22 = .ok (.aload_n 0, 1) := by decide +kernel
theorem dX7_putBytes_23 : decode cX7_putBytes 23 = .ok (.getfield 9, 3) := by decide +kernel
theorem dX7_putBytes_26 : decode cX7_putBytes 26 = .ok (.aload_n 0, 1) := by decide +kernel
theorem dX7_putBytes_27 : decode cX7_putBytes 27 = .ok (.getfield 38, 3) := by decide +kernel
theorem dX7_putBytes_30 : decode cX7_putBytes 30 = .ok (.iload_n 1, 1) := by decide +kernel
theorem dX7_putBytes_31 : decode cX7_putBytes 31 = .ok (.iload_n 2, 1) := by decide +kernel
theorem dX7_putBytes_32 : decode cX7_putBytes 32 = .ok (.iushr, 1) := by decide +kernel
theorem dX7_putBytes_33 : decode cX7_putBytes 33 = .ok (.sipush 255, 3) := by decide +kernel
theorem dX7_putBytes_36 : decode cX7_putBytes 36 = .ok (.iand, 1) := by decide +kernel
theorem dX7_putBytes_37 : decode cX7_putBytes 37 = .ok (.iastore, 1) := by decide +kernel
theorem dX7_putBytes_38 : decode cX7_putBytes 38 = .ok (.aload_n 0, 1) := by decide +kernel
theorem dX7_putBytes_39 : decode cX7_putBytes 39 = .ok (.dup, 1) := by decide +kernel
theorem dX7_putBytes_40 : decode cX7_putBytes 40 = .ok (.getfield 38, 3) := by decide +kernel
theorem dX7_putBytes_43 : decode cX7_putBytes 43 = .ok (.iconst 1, 1) := by decide +kernel
theorem dX7_putBytes_44 : decode cX7_putBytes 44 = .ok (.iadd, 1) := by decide +kernel
theorem dX7_putBytes_45 : decode cX7_putBytes 45 = .ok (.putfield 38, 3) := by decide +kernel
theorem dX7_putBytes_48 : decode cX7_putBytes 48 = .ok (.iinc 2 (-8), 3) := by decide +kernel
theorem dX7_putBytes_51 : decode cX7_putBytes 51 = .ok (.goto (-48), 3) := by decide +kernel
theorem dX7_putBytes_54 : decode cX7_putBytes 54 = .ok (.return_, 1) := by decide +kernel
theorem dX7_feed_0 : decode cX7_feed 0 = .ok (.aload_n 0, 1) := by decide +kernel
theorem dX7_feed_1 : decode cX7_feed 1 = .ok (.getfield 38, 3) := by decide +kernel
theorem dX7_feed_4 : decode cX7_feed 4 = .ok (.bipush 20, 2) := by decide +kernel
theorem dX7_feed_6 : decode cX7_feed 6 = .ok (.iadd, 1) := by decide +kernel
theorem dX7_feed_7 : decode cX7_feed 7 = .ok (.sipush 500, 3) := by decide +kernel
theorem dX7_feed_10 : decode cX7_feed 10 = .ok (.if_icmp .le 5, 3) := by decide +kernel
theorem dX7_feed_15 : decode cX7_feed 15 = .ok (.aload_n 0, 1) := by decide +kernel
theorem dX7_feed_16 : decode cX7_feed 16 = .ok (.iload_n 1, 1) := by decide +kernel
theorem dX7_feed_17 : decode cX7_feed 17 = .ok (.invokevirtual 42, 3) := by decide +kernel
theorem dX7_feed_20 : decode cX7_feed 20 = .ok (.aload_n 0, 1) := by decide +kernel
theorem dX7_feed_21 : decode cX7_feed 21 = .ok (.iload_n 2, 1) := by decide +kernel
theorem dX7_feed_22 : decode cX7_feed 22 = .ok (.invokevirtual 42, 3) := by decide +kernel
theorem dX7_feed_25 : decode cX7_feed 25 = .ok (.aload_n 0, 1) := by decide +kernel
theorem dX7_feed_26 : decode cX7_feed 26 = .ok (.iload_n 3, 1) := by decide +kernel
theorem dX7_feed_27 : decode cX7_feed 27 = .ok (.invokevirtual 42, 3) := by decide +kernel
theorem dX7_feed_30 : decode cX7_feed 30 = .ok (.aload_n 0, 1) := by decide +kernel
theorem dX7_feed_31 : decode cX7_feed 31 = .ok (.iload 4, 2) := by decide +kernel
theorem dX7_feed_33 : decode cX7_feed 33 = .ok (.invokevirtual 42, 3) := by decide +kernel
theorem dX7_feed_36 : decode cX7_feed 36 = .ok (.aload_n 0, 1) := by decide +kernel
theorem dX7_feed_37 : decode cX7_feed 37 = .ok (.iload 5, 2) := by decide +kernel
theorem dX7_feed_39 : decode cX7_feed 39 = .ok (.invokevirtual 42, 3) := by decide +kernel
theorem dX7_feed_42 : decode cX7_feed 42 = .ok (.aload_n 0, 1) := by decide +kernel
theorem dX7_feed_43 : decode cX7_feed 43 = .ok (.getfield 38, 3) := by decide +kernel
theorem dX7_feed_46 : decode cX7_feed 46 = .ok (.ireturn, 1) := by decide +kernel
theorem dX7_end_0 : decode cX7_end 0 = .ok (.iload_n 1, 1) := by decide +kernel
theorem dX7_end_1 : decode cX7_end 1 = .ok (.ifCond .lt 11, 3) := by decide +kernel
theorem dX7_end_12 : decode cX7_end 12 = .ok (.iconst (-1), 1) := by decide +kernel
theorem dX7_end_13 : decode cX7_end 13 = .ok (.ireturn, 1) := by decide +kernel
theorem dX7_end_4 : decode cX7_end 4 = .ok (.iload_n 1, 1) := by decide +kernel
theorem dX7_end_5 : decode cX7_end 5 = .ok (.aload_n 0, 1) := by decide +kernel
theorem dX7_end_6 : decode cX7_end 6 = .ok (.getfield 38, 3) := by decide +kernel
theorem dX7_end_9 : decode cX7_end 9 = .ok (.if_icmp .le 5, 3) := by decide +kernel
theorem dX7_end_14 : decode cX7_end 14 = .ok (.aload_n 0, 1) := by decide +kernel
theorem dX7_end_15 : decode cX7_end 15 = .ok (.iload_n 1, 1) := by decide +kernel
theorem dX7_end_16 : decode cX7_end 16 = .ok (.putfield 38, 3) := by decide +kernel
theorem dX7_end_19 : decode cX7_end 19 = .ok (.iload_n 1, 1) := by decide +kernel
theorem dX7_end_20 : decode cX7_end 20 = .ok (.ireturn, 1) := by decide +kernel
theorem dX2_make_0 : decode cX2_make 0 = .ok (.aload_n 0, 1) := by decide +kernel
theorem dX2_make_1 : decode cX2_make 1 = .ok (.iload_n 1, 1) := by decide +kernel
theorem dX2_make_2 : decode cX2_make 2 = .ok (.putfield 28, 3) := by decide +kernel
theorem dX2_make_5 : decode cX2_make 5 = .ok (.aload_n 0, 1) := by decide +kernel
theorem dX2_make_6 : decode cX2_make 6 = .ok (.iload_n 2, 1) := by decide +kernel
theorem dX2_make_7 : decode cX2_make 7 = .ok (.putfield 31, 3) := by decide +kernel
theorem dX2_make_10 : decode cX2_make 10 = .ok (.return_, 1) := by decide +kernel
theorem dX6_makeParty_0 : decode cX6_makeParty 0 = .ok (.aload_n 0, 1) := by decide +kernel
theorem dX6_makeParty_1 : decode cX6_makeParty 1 = .ok (.getfield 58, 3) := by decide +kernel
theorem dX6_makeParty_4 : decode cX6_makeParty 4 = .ok (.bipush 6, 2) := by decide +kernel
theorem dX6_makeParty_6 : decode cX6_makeParty 6 = .ok (.invokestatic 77, 3) := by decide +kernel
theorem dX6_makeParty_9 : decode cX6_makeParty 9 = .ok (.ifCond .ne 5, 3) := by decide +kernel
theorem dX6_makeParty_14 : decode cX6_makeParty 14 = .ok (.aload_n 0, 1) := by decide +kernel
theorem dX6_makeParty_15 : decode cX6_makeParty 15 = .ok (.getfield 38, 3) := by decide +kernel
theorem dX6_makeParty_18 : decode cX6_makeParty 18 = .ok (.aload_n 0, 1) := by decide +kernel
theorem dX6_makeParty_19 : decode cX6_makeParty 19 = .ok (.getfield 58, 3) := by decide +kernel
theorem dX6_makeParty_22 : decode cX6_makeParty 22 = .ok (.aaload, 1) := by decide +kernel
theorem dX6_makeParty_23 : decode cX6_makeParty 23 = .ok (.iload_n 1, 1) := by decide +kernel
theorem dX6_makeParty_24 : decode cX6_makeParty 24 = .ok (.iload_n 2, 1) := by decide +kernel
theorem dX6_makeParty_25 : decode cX6_makeParty 25 = .ok (.invokevirtual 81, 3) := by decide +kernel
theorem dX6_makeParty_28 : decode cX6_makeParty 28 = .ok (.aload_n 0, 1) := by decide +kernel
theorem dX6_makeParty_29 : decode cX6_makeParty 29 = .ok (.dup, 1) := by decide +kernel
theorem dX6_makeParty_30 : decode cX6_makeParty 30 = .ok (.getfield 58, 3) := by decide +kernel
theorem dX6_makeParty_33 : decode cX6_makeParty 33 = .ok (.iconst 1, 1) := by decide +kernel
theorem dX6_makeParty_34 : decode cX6_makeParty 34 = .ok (.iadd, 1) := by decide +kernel
theorem dX6_makeParty_35 : decode cX6_makeParty 35 = .ok (.putfield 58, 3) := by decide +kernel
theorem dX6_makeParty_38 : decode cX6_makeParty 38 = .ok (.aload_n 0, 1) := by decide +kernel
theorem dX6_makeParty_39 : decode cX6_makeParty 39 = .ok (.getfield 58, 3) := by decide +kernel
theorem dX6_makeParty_42 : decode cX6_makeParty 42 = .ok (.iconst 1, 1) := by decide +kernel
theorem dX6_makeParty_43 : decode cX6_makeParty 43 = .ok (.isub, 1) := by decide +kernel
theorem dX6_makeParty_44 : decode cX6_makeParty 44 = .ok (.ireturn, 1) := by decide +kernel
theorem dX7_party_0 : decode cX7_party 0 = .ok (.iload_n 1, 1) := by decide +kernel
theorem dX7_party_1 : decode cX7_party 1 = .ok (.iconst 1, 1) := by decide +kernel
theorem dX7_party_2 : decode cX7_party 2 = .ok (.if_icmp .lt 21, 3) := by decide +kernel
theorem dX7_party_23 : decode cX7_party 23 = .ok (.iconst (-1), 1) := by decide +kernel
theorem dX7_party_24 : decode cX7_party 24 = .ok (.ireturn, 1) := by decide +kernel
theorem dX7_party_5 : decode cX7_party 5 = .ok (.iload_n 1, 1) := by decide +kernel
theorem dX7_party_6 : decode cX7_party 6 = .ok (.bipush 6, 2) := by decide +kernel
theorem dX7_party_8 : decode cX7_party 8 = .ok (.if_icmp .gt 15, 3) := by decide +kernel
theorem dX7_party_11 : decode cX7_party 11 = .ok (.iload_n 2, 1) := by decide +kernel
theorem dX7_party_12 : decode cX7_party 12 = .ok (.iconst 1, 1) := by decide +kernel
theorem dX7_party_13 : decode cX7_party 13 = .ok (.if_icmp .lt 10, 3) := by decide +kernel
theorem dX7_party_16 : decode cX7_party 16 = .ok (.iload_n 2, 1) := by decide +kernel
theorem dX7_party_17 : decode cX7_party 17 = .ok (.sipush 200, 3) := by decide +kernel
theorem dX7_party_20 : decode cX7_party 20 = .ok (.if_icmp .le 5, 3) := by decide +kernel
theorem dX7_party_25 : decode cX7_party 25 = .ok (.aload_n 0, 1) := by decide +kernel
theorem dX7_party_26 : decode cX7_party 26 = .ok (.getfield 30, 3) := by decide +kernel
theorem dX7_party_29 : decode cX7_party 29 = .ok (.iload_n 1, 1) := by decide +kernel
theorem dX7_party_30 : decode cX7_party 30 = .ok (.iload_n 2, 1) := by decide +kernel
theorem dX7_party_31 : decode cX7_party 31 = .ok (.invokevirtual 46, 3) := by decide +kernel
theorem dX7_party_34 : decode cX7_party 34 = .ok (.ireturn, 1) := by decide +kernel
theorem dX4_freshRun_0 : decode cX4_freshRun 0 = .ok (.aload_n 0, 1) := by decide +kernel
theorem dX4_freshRun_1 : decode cX4_freshRun 1 = .ok (.getfield 30, 3) := by decide +kernel
theorem dX4_freshRun_4 : decode cX4_freshRun 4 = .ok (.istore_n 3, 1) := by decide +kernel
theorem dX4_freshRun_5 : decode cX4_freshRun 5 = .ok (.iload_n 3, 1) := by decide +kernel
theorem dX4_freshRun_6 : decode cX4_freshRun 6 = .ok (.aload_n 0, 1) := by decide +kernel
theorem dX4_freshRun_7 : decode cX4_freshRun 7 = .ok (.getfield 46, 3) := by decide +kernel
theorem dX4_freshRun_10 : decode cX4_freshRun 10 = .ok (.invokestatic 49, 3) := by decide +kernel
theorem dX4_freshRun_13 : decode cX4_freshRun 13 = .ok (.ifCond .eq 16, 3) := by decide +kernel
theorem dX4_freshRun_29 : decode cX4_freshRun 29 = .ok (.aload_n 0, 1) := by decide +kernel
theorem dX4_freshRun_30 : decode cX4_freshRun 30 = .ok (.getfield 46, 3) := by decide +kernel
theorem dX4_freshRun_33 : decode cX4_freshRun 33 = .ok (.istore_n 3, 1) := by decide +kernel
theorem dX4_freshRun_34 : decode cX4_freshRun 34 = .ok (.aload_n 0, 1) := by decide +kernel
theorem dX4_freshRun_35 : decode cX4_freshRun 35 = .ok (.dup, 1) := by decide +kernel
theorem dX4_freshRun_36 : decode cX4_freshRun 36 = .ok (.getfield 46, 3) := by decide +kernel
theorem dX4_freshRun_39 : decode cX4_freshRun 39 = .ok (.iconst 1, 1) := by decide +kernel
theorem dX4_freshRun_40 : decode cX4_freshRun 40 = .ok (.iadd, 1) := by decide +kernel
theorem dX4_freshRun_41 : decode cX4_freshRun 41 = .ok (.putfield 46, 3) := by decide +kernel
theorem dX4_freshRun_44 : decode cX4_freshRun 44 = .ok (.iload_n 3, 1) := by decide +kernel
theorem dX4_freshRun_45 : decode cX4_freshRun 45 = .ok (.aload_n 0, 1) := by decide +kernel
theorem dX4_freshRun_46 : decode cX4_freshRun 46 = .ok (.getfield 21, 3) := by decide +kernel
theorem dX4_freshRun_49 : decode cX4_freshRun 49 = .ok (.arraylength, 1) := by decide +kernel
theorem dX4_freshRun_50 : decode cX4_freshRun 50 = .ok (.if_icmp .lt 54, 3) := by decide +kernel
theorem dX4_freshRun_104 : decode cX4_freshRun 104 = .ok (.aload_n 0, 1) := by decide +kernel
theorem dX4_freshRun_105 : decode cX4_freshRun 105 = .ok (.getfield 21, 3) := by decide +kernel
theorem dX4_freshRun_108 : decode cX4_freshRun 108 = .ok (.iload_n 3, 1) := by decide +kernel
theorem dX4_freshRun_109 : decode cX4_freshRun 109 = .ok (.iload_n 1, 1) := by decide +kernel
theorem dX4_freshRun_110 : decode cX4_freshRun 110 = .ok (.iastore, 1) := by decide +kernel
theorem dX4_freshRun_111 : decode cX4_freshRun 111 = .ok (.aload_n 0, 1) := by decide +kernel
theorem dX4_freshRun_112 : decode cX4_freshRun 112 = .ok (.getfield 24, 3) := by decide +kernel
theorem dX4_freshRun_115 : decode cX4_freshRun 115 = .ok (.iload_n 3, 1) := by decide +kernel
theorem dX4_freshRun_116 : decode cX4_freshRun 116 = .ok (.iload_n 2, 1) := by decide +kernel
theorem dX4_freshRun_117 : decode cX4_freshRun 117 = .ok (.iastore, 1) := by decide +kernel
theorem dX4_freshRun_118 : decode cX4_freshRun 118 = .ok (.aload_n 0, 1) := by decide +kernel
theorem dX4_freshRun_119 : decode cX4_freshRun 119 = .ok (.getfield 27, 3) := by decide +kernel
theorem dX4_freshRun_122 : decode cX4_freshRun 122 = .ok (.iload_n 3, 1) := by decide +kernel
theorem dX4_freshRun_123 : decode cX4_freshRun 123 = .ok (.iconst (-1), 1) := by decide +kernel
theorem dX4_freshRun_124 : decode cX4_freshRun 124 = .ok (.iastore, 1) := by decide +kernel
theorem dX4_freshRun_125 : decode cX4_freshRun 125 = .ok (.iload_n 3, 1) := by decide +kernel
theorem dX4_freshRun_126 : decode cX4_freshRun 126 = .ok (.ireturn, 1) := by decide +kernel
theorem dX4_add_0 : decode cX4_add 0 = .ok (.iload_n 1, 1) := by decide +kernel
theorem dX4_add_1 : decode cX4_add 1 = .ok (.bipush 22, 2) := by decide +kernel
theorem dX4_add_3 : decode cX4_add 3 = .ok (.invokestatic 49, 3) := by decide +kernel
theorem dX4_add_6 : decode cX4_add 6 = .ok (.ifCond .eq 7, 3) := by decide +kernel
theorem dX4_add_9 : decode cX4_add 9 = .ok (.iload_n 3, 1) := by decide +kernel
theorem dX4_add_10 : decode cX4_add 10 = .ok (.ifCond .gt 4, 3) := by decide +kernel
theorem dX4_add_14 : decode cX4_add 14 = .ok (.aload_n 0, 1) := by decide +kernel
theorem dX4_add_15 : decode cX4_add 15 = .ok (.getfield 18, 3) := by decide +kernel
theorem dX4_add_18 : decode cX4_add 18 = .ok (.iload_n 1, 1) := by decide +kernel
theorem dX4_add_19 : decode cX4_add 19 = .ok (.dup2, 1) := by decide +kernel
theorem dX4_add_20 : decode cX4_add 20 = .ok (.iaload, 1) := by decide +kernel
theorem dX4_add_21 : decode cX4_add 21 = .ok (.iload_n 3, 1) := by decide +kernel
theorem dX4_add_22 : decode cX4_add 22 = .ok (.iadd, 1) := by decide +kernel
theorem dX4_add_23 : decode cX4_add 23 = .ok (.iastore, 1) := by decide +kernel
theorem dX4_add_24 : decode cX4_add 24 = .ok (.aload_n 0, 1) := by decide +kernel
theorem dX4_add_25 : decode cX4_add 25 = .ok (.getfield 15, 3) := by decide +kernel
theorem dX4_add_28 : decode cX4_add 28 = .ok (.iload_n 1, 1) := by decide +kernel
theorem dX4_add_29 : decode cX4_add 29 = .ok (.iaload, 1) := by decide +kernel
theorem dX4_add_30 : decode cX4_add 30 = .ok (.istore 4, 2) := by decide +kernel
theorem dX4_add_32 : decode cX4_add 32 = .ok (.iload 4, 2) := by decide +kernel
theorem dX4_add_34 : decode cX4_add 34 = .ok (.aload_n 0, 1) := by decide +kernel
theorem dX4_add_35 : decode cX4_add 35 = .ok (.getfield 46, 3) := by decide +kernel
theorem dX4_add_38 : decode cX4_add 38 = .ok (.invokestatic 49, 3) := by decide +kernel
theorem dX4_add_41 : decode cX4_add 41 = .ok (.ifCond .eq 26, 3) := by decide +kernel
theorem dX4_add_67 : decode cX4_add 67 = .ok (.aload_n 0, 1) := by decide +kernel
theorem dX4_add_68 : decode cX4_add 68 = .ok (.iload_n 2, 1) := by decide +kernel
theorem dX4_add_69 : decode cX4_add 69 = .ok (.iload_n 3, 1) := by decide +kernel
theorem dX4_add_70 : decode cX4_add 70 = .ok (.invokevirtual 57, 3) := by decide +kernel
theorem dX4_add_73 : decode cX4_add 73 = .ok (.istore 5, 2) := by decide +kernel
theorem dX4_add_75 : decode cX4_add 75 = .ok (.iload 4, 2) := by decide +kernel
theorem dX4_add_77 : decode cX4_add 77 = .ok (.aload_n 0, 1) := by decide +kernel
theorem dX4_add_78 : decode cX4_add 78 = .ok (.getfield 46, 3) := by decide +kernel
theorem dX4_add_81 : decode cX4_add 81 = .ok (.invokestatic 49, 3) := by decide +kernel
theorem dX4_add_84 : decode cX4_add 84 = .ok (.ifCond .eq 15, 3) := by decide +kernel
theorem dX4_add_99 : decode cX4_add 99 = .ok (.aload_n 0, 1) := by decide +kernel
theorem dX4_add_100 : decode cX4_add 100 = .ok (.getfield 9, 3) := by decide +kernel
theorem dX4_add_103 : decode cX4_add 103 = .ok (.iload_n 1, 1) := by decide +kernel
theorem dX4_add_104 : decode cX4_add 104 = .ok (.iload 5, 2) := by decide +kernel
theorem dX4_add_106 : decode cX4_add 106 = .ok (.iastore, 1) := by decide +kernel
theorem dX4_add_107 : decode cX4_add 107 = .ok (.aload_n 0, 1) := by decide +kernel
theorem dX4_add_108 : decode cX4_add 108 = .ok (.getfield 15, 3) := by decide +kernel
theorem dX4_add_111 : decode cX4_add 111 = .ok (.iload_n 1, 1) := by decide +kernel
theorem dX4_add_112 : decode cX4_add 112 = .ok (.iload 5, 2) := by decide +kernel
theorem dX4_add_114 : decode cX4_add 114 = .ok (.iastore, 1) := by decide +kernel
theorem dX4_add_115 : decode cX4_add 115 = .ok (.return_, 1) := by decide +kernel
theorem dX0_write_0 : decode cX0_write 0 = .ok (.aload_n 0, 1) := by decide +kernel
theorem dX0_write_1 : decode cX0_write 1 = .ok (.invokevirtual 19, 3) := by decide +kernel
theorem dX0_write_4 : decode cX0_write 4 = .ok (.bipush 6, 2) := by decide +kernel
theorem dX0_write_6 : decode cX0_write 6 = .ok (.imul, 1) := by decide +kernel
theorem dX0_write_7 : decode cX0_write 7 = .ok (.istore 7, 2) := by decide +kernel
theorem dX0_write_9 : decode cX0_write 9 = .ok (.aload_n 0, 1) := by decide +kernel
theorem dX0_write_10 : decode cX0_write 10 = .ok (.dup, 1) := by decide +kernel
theorem dX0_write_11 : decode cX0_write 11 = .ok (.getfield 15, 3) := by decide +kernel
theorem dX0_write_14 : decode cX0_write 14 = .ok (.iconst 1, 1) := by decide +kernel
theorem dX0_write_15 : decode cX0_write 15 = .ok (.iadd, 1) := by decide +kernel
theorem dX0_write_16 : decode cX0_write 16 = .ok (.putfield 15, 3) := by decide +kernel
theorem dX0_write_19 : decode cX0_write 19 = .ok (.iload 7, 2) := by decide +kernel
theorem dX0_write_21 : decode cX0_write 21 = .ok (.bipush 6, 2) := by decide +kernel
theorem dX0_write_23 : decode cX0_write 23 = .ok (.iadd, 1) := by decide +kernel
theorem dX0_write_24 : decode cX0_write 24 = .ok (.aload_n 0, 1) := by decide +kernel
theorem dX0_write_25 : decode cX0_write 25 = .ok (.getfield 9, 3) := by decide +kernel
theorem dX0_write_28 : decode cX0_write 28 = .ok (.arraylength, 1) := by decide +kernel
theorem dX0_write_29 : decode cX0_write 29 = .ok (.if_icmp .le 4, 3) := by decide +kernel
theorem dX0_write_33 : decode cX0_write 33 = .ok (.aload_n 0, 1) := by decide +kernel
theorem dX0_write_34 : decode cX0_write 34 = .ok (.getfield 9, 3) := by decide +kernel
theorem dX0_write_37 : decode cX0_write 37 = .ok (.iload 7, 2) := by decide +kernel
theorem dX0_write_39 : decode cX0_write 39 = .ok (.iload_n 1, 1) := by decide +kernel
theorem dX0_write_40 : decode cX0_write 40 = .ok (.iastore, 1) := by decide +kernel
theorem dX0_write_41 : decode cX0_write 41 = .ok (.aload_n 0, 1) := by decide +kernel
theorem dX0_write_42 : decode cX0_write 42 = .ok (.getfield 9, 3) := by decide +kernel
theorem dX0_write_45 : decode cX0_write 45 = .ok (.iload 7, 2) := by decide +kernel
theorem dX0_write_47 : decode cX0_write 47 = .ok (.iconst 1, 1) := by decide +kernel
theorem dX0_write_48 : decode cX0_write 48 = .ok (.iadd, 1) := by decide +kernel
theorem dX0_write_49 : decode cX0_write 49 = .ok (.iload_n 2, 1) := by decide +kernel
theorem dX0_write_50 : decode cX0_write 50 = .ok (.iastore, 1) := by decide +kernel
theorem dX0_write_51 : decode cX0_write 51 = .ok (.aload_n 0, 1) := by decide +kernel
theorem dX0_write_52 : decode cX0_write 52 = .ok (.getfield 9, 3) := by decide +kernel
theorem dX0_write_55 : decode cX0_write 55 = .ok (.iload 7, 2) := by decide +kernel
theorem dX0_write_57 : decode cX0_write 57 = .ok (.iconst 2, 1) := by decide +kernel
theorem dX0_write_58 : decode cX0_write 58 = .ok (.iadd, 1) := by decide +kernel
theorem dX0_write_59 : decode cX0_write 59 = .ok (.iload_n 3, 1) := by decide +kernel
theorem dX0_write_60 : decode cX0_write 60 = .ok (.iastore, 1) := by decide +kernel
theorem dX0_write_61 : decode cX0_write 61 = .ok (.aload_n 0, 1) := by decide +kernel
theorem dX0_write_62 : decode cX0_write 62 = .ok (.getfield 9, 3) := by decide +kernel
theorem dX0_write_65 : decode cX0_write 65 = .ok (.iload 7, 2) := by decide +kernel
theorem dX0_write_67 : decode cX0_write 67 = .ok (.iconst 3, 1) := by decide +kernel
theorem dX0_write_68 : decode cX0_write 68 = .ok (.iadd, 1) := by decide +kernel
theorem dX0_write_69 : decode cX0_write 69 = .ok (.iload 4, 2) := by decide +kernel
theorem dX0_write_71 : decode cX0_write 71 = .ok (.iastore, 1) := by decide +kernel
theorem dX0_write_72 : decode cX0_write 72 = .ok (.aload_n 0, 1) := by decide +kernel
theorem dX0_write_73 : decode cX0_write 73 = .ok (.getfield 9, 3) := by decide +kernel
theorem dX0_write_76 : decode cX0_write 76 = .ok (.iload 7, 2) := by decide +kernel
theorem dX0_write_78 : decode cX0_write 78 = .ok (.iconst 4, 1) := by decide +kernel
theorem dX0_write_79 : decode cX0_write 79 = .ok (.iadd, 1) := by decide +kernel
theorem dX0_write_80 : decode cX0_write 80 = .ok (.iload 5, 2) := by decide +kernel
theorem dX0_write_82 : decode cX0_write 82 = .ok (.iastore, 1) := by decide +kernel
theorem dX0_write_83 : decode cX0_write 83 = .ok (.aload_n 0, 1) := by decide +kernel
theorem dX0_write_84 : decode cX0_write 84 = .ok (.getfield 9, 3) := by decide +kernel
theorem dX0_write_87 : decode cX0_write 87 = .ok (.iload 7, 2) := by decide +kernel
theorem dX0_write_89 : decode cX0_write 89 = .ok (.iconst 5, 1) := by decide +kernel
theorem dX0_write_90 : decode cX0_write 90 = .ok (.iadd, 1) := by decide +kernel
theorem dX0_write_91 : decode cX0_write 91 = .ok (.iload 6, 2) := by decide +kernel
theorem dX0_write_93 : decode cX0_write 93 = .ok (.iastore, 1) := by decide +kernel
theorem dX0_write_94 : decode cX0_write 94 = .ok (.return_, 1) := by decide +kernel
theorem dX6_makeLot_0 : decode cX6_makeLot 0 = .ok (.aload_n 0, 1) := by decide +kernel
theorem dX6_makeLot_1 : decode cX6_makeLot 1 = .ok (.getfield 55, 3) := by decide +kernel
theorem dX6_makeLot_4 : decode cX6_makeLot 4 = .ok (.bipush 20, 2) := by decide +kernel
theorem dX6_makeLot_6 : decode cX6_makeLot 6 = .ok (.invokestatic 77, 3) := by decide +kernel
theorem dX6_makeLot_9 : decode cX6_makeLot 9 = .ok (.ifCond .ne 5, 3) := by decide +kernel
theorem dX6_makeLot_14 : decode cX6_makeLot 14 = .ok (.aload_n 0, 1) := by decide +kernel
theorem dX6_makeLot_15 : decode cX6_makeLot 15 = .ok (.getfield 55, 3) := by decide +kernel
theorem dX6_makeLot_18 : decode cX6_makeLot 18 = .ok (.istore_n 2, 1) := by decide +kernel
theorem dX6_makeLot_19 : decode cX6_makeLot 19 = .ok (.aload_n 0, 1) := by decide +kernel
theorem dX6_makeLot_20 : decode cX6_makeLot 20 = .ok (.dup, 1) := by decide +kernel
theorem dX6_makeLot_21 : decode cX6_makeLot 21 = .ok (.getfield 55, 3) := by decide +kernel
theorem dX6_makeLot_24 : decode cX6_makeLot 24 = .ok (.iconst 1, 1) := by decide +kernel
theorem dX6_makeLot_25 : decode cX6_makeLot 25 = .ok (.iadd, 1) := by decide +kernel
theorem dX6_makeLot_26 : decode cX6_makeLot 26 = .ok (.putfield 55, 3) := by decide +kernel
theorem dX6_makeLot_29 : decode cX6_makeLot 29 = .ok (.aload_n 0, 1) := by decide +kernel
theorem dX6_makeLot_30 : decode cX6_makeLot 30 = .ok (.getfield 33, 3) := by decide +kernel
theorem dX6_makeLot_33 : decode cX6_makeLot 33 = .ok (.iload_n 2, 1) := by decide +kernel
theorem dX6_makeLot_34 : decode cX6_makeLot 34 = .ok (.iload_n 1, 1) := by decide +kernel
theorem dX6_makeLot_35 : decode cX6_makeLot 35 = .ok (.iastore, 1) := by decide +kernel
theorem dX6_makeLot_36 : decode cX6_makeLot 36 = .ok (.aload_n 0, 1) := by decide +kernel
theorem dX6_makeLot_37 : decode cX6_makeLot 37 = .ok (.getfield 12, 3) := by decide +kernel
theorem dX6_makeLot_40 : decode cX6_makeLot 40 = .ok (.iconst 0, 1) := by decide +kernel
theorem dX6_makeLot_41 : decode cX6_makeLot 41 = .ok (.iload_n 2, 1) := by decide +kernel
theorem dX6_makeLot_42 : decode cX6_makeLot 42 = .ok (.iload_n 1, 1) := by decide +kernel
theorem dX6_makeLot_43 : decode cX6_makeLot 43 = .ok (.invokevirtual 85, 3) := by decide +kernel
theorem dX6_makeLot_46 : decode cX6_makeLot 46 = .ok (.aload_n 0, 1) := by decide +kernel
theorem dX6_makeLot_47 : decode cX6_makeLot 47 = .ok (.getfield 21, 3) := by decide +kernel
theorem dX6_makeLot_50 : decode cX6_makeLot 50 = .ok (.iconst 0, 1) := by decide +kernel
theorem dX6_makeLot_51 : decode cX6_makeLot 51 = .ok (.aload_n 0, 1) := by decide +kernel
theorem dX6_makeLot_52 : decode cX6_makeLot 52 = .ok (.getfield 51, 3) := by decide +kernel
theorem dX6_makeLot_55 : decode cX6_makeLot 55 = .ok (.iconst (-1), 1) := by decide +kernel
theorem dX6_makeLot_56 : decode cX6_makeLot 56 = .ok (.iconst 0, 1) := by decide +kernel
theorem dX6_makeLot_57 : decode cX6_makeLot 57 = .ok (.iload_n 2, 1) := by decide +kernel
theorem dX6_makeLot_58 : decode cX6_makeLot 58 = .ok (.iload_n 1, 1) := by decide +kernel
theorem dX6_makeLot_59 : decode cX6_makeLot 59 = .ok (.invokevirtual 89, 3) := by decide +kernel
theorem dX6_makeLot_62 : decode cX6_makeLot 62 = .ok (.iload_n 2, 1) := by decide +kernel
theorem dX6_makeLot_63 : decode cX6_makeLot 63 = .ok (.ireturn, 1) := by decide +kernel
theorem dX7_land_0 : decode cX7_land 0 = .ok (.iload_n 1, 1) := by decide +kernel
theorem dX7_land_1 : decode cX7_land 1 = .ok (.iconst 1, 1) := by decide +kernel
theorem dX7_land_2 : decode cX7_land 2 = .ok (.if_icmp .lt 10, 3) := by decide +kernel
theorem dX7_land_12 : decode cX7_land 12 = .ok (.iconst (-1), 1) := by decide +kernel
theorem dX7_land_13 : decode cX7_land 13 = .ok (.ireturn, 1) := by decide +kernel
theorem dX7_land_5 : decode cX7_land 5 = .ok (.iload_n 1, 1) := by decide +kernel
theorem dX7_land_6 : decode cX7_land 6 = .ok (.sipush 500, 3) := by decide +kernel
theorem dX7_land_9 : decode cX7_land 9 = .ok (.if_icmp .le 5, 3) := by decide +kernel
theorem dX7_land_14 : decode cX7_land 14 = .ok (.aload_n 0, 1) := by decide +kernel
theorem dX7_land_15 : decode cX7_land 15 = .ok (.getfield 30, 3) := by decide +kernel
theorem dX7_land_18 : decode cX7_land 18 = .ok (.iload_n 1, 1) := by decide +kernel
theorem dX7_land_19 : decode cX7_land 19 = .ok (.invokevirtual 81, 3) := by decide +kernel
theorem dX7_land_22 : decode cX7_land 22 = .ok (.ireturn, 1) := by decide +kernel
theorem dX6_setStorm_0 : decode cX6_setStorm 0 = .ok (.iload_n 1, 1) := by decide +kernel
theorem dX6_setStorm_1 : decode cX6_setStorm 1 = .ok (.sipush 400, 3) := by decide +kernel
theorem dX6_setStorm_4 : decode cX6_setStorm 4 = .ok (.invokestatic 77, 3) := by decide +kernel
theorem dX6_setStorm_7 : decode cX6_setStorm 7 = .ok (.ifCond .eq 13, 3) := by decide +kernel
theorem dX6_setStorm_20 : decode cX6_setStorm 20 = .ok (.iconst 0, 1) := by decide +kernel
theorem dX6_setStorm_21 : decode cX6_setStorm 21 = .ok (.ireturn, 1) := by decide +kernel
theorem dX6_setStorm_10 : decode cX6_setStorm 10 = .ok (.aload_n 0, 1) := by decide +kernel
theorem dX6_setStorm_11 : decode cX6_setStorm 11 = .ok (.getfield 25, 3) := by decide +kernel
theorem dX6_setStorm_14 : decode cX6_setStorm 14 = .ok (.iload_n 1, 1) := by decide +kernel
theorem dX6_setStorm_15 : decode cX6_setStorm 15 = .ok (.baload, 1) := by decide +kernel
theorem dX6_setStorm_16 : decode cX6_setStorm 16 = .ok (.iload_n 2, 1) := by decide +kernel
theorem dX6_setStorm_17 : decode cX6_setStorm 17 = .ok (.if_icmp .ne 5, 3) := by decide +kernel
theorem dX6_setStorm_22 : decode cX6_setStorm 22 = .ok (.aload_n 0, 1) := by decide +kernel
theorem dX6_setStorm_23 : decode cX6_setStorm 23 = .ok (.getfield 25, 3) := by decide +kernel
theorem dX6_setStorm_26 : decode cX6_setStorm 26 = .ok (.iload_n 1, 1) := by decide +kernel
theorem dX6_setStorm_27 : decode cX6_setStorm 27 = .ok (.iload_n 2, 1) := by decide +kernel
theorem dX6_setStorm_28 : decode cX6_setStorm 28 = .ok (.bastore, 1) := by decide +kernel
theorem dX6_setStorm_29 : decode cX6_setStorm 29 = .ok (.iconst 1, 1) := by decide +kernel
theorem dX6_setStorm_30 : decode cX6_setStorm 30 = .ok (.ireturn, 1) := by decide +kernel
theorem dX7_storm_0 : decode cX7_storm 0 = .ok (.iload_n 1, 1) := by decide +kernel
theorem dX7_storm_1 : decode cX7_storm 1 = .ok (.aload_n 0, 1) := by decide +kernel
theorem dX7_storm_2 : decode cX7_storm 2 = .ok (.getfield 30, 3) := by decide +kernel
theorem dX7_storm_5 : decode cX7_storm 5 = .ok (.getfield 85, 3) := by decide +kernel
theorem dX7_storm_8 : decode cX7_storm 8 = .ok (.if_icmp .lt 19, 3) := by decide +kernel
theorem dX7_storm_27 : decode cX7_storm 27 = .ok (.iconst 0, 1) := by decide +kernel
theorem dX7_storm_28 : decode cX7_storm 28 = .ok (.ireturn, 1) := by decide +kernel
theorem dX7_storm_11 : decode cX7_storm 11 = .ok (.aload_n 0, 1) := by decide +kernel
theorem dX7_storm_12 : decode cX7_storm 12 = .ok (.getfield 30, 3) := by decide +kernel
theorem dX7_storm_15 : decode cX7_storm 15 = .ok (.iload_n 1, 1) := by decide +kernel
theorem dX7_storm_16 : decode cX7_storm 16 = .ok (.iload_n 2, 1) := by decide +kernel
theorem dX7_storm_17 : decode cX7_storm 17 = .ok (.invokevirtual 88, 3) := by decide +kernel
theorem dX7_storm_20 : decode cX7_storm 20 = .ok (.ifCond .eq 7, 3) := by decide +kernel
theorem dX7_storm_23 : decode cX7_storm 23 = .ok (.iconst 1, 1) := by decide +kernel
theorem dX7_storm_24 : decode cX7_storm 24 = .ok (.goto 4, 3) := by decide +kernel
theorem dX1_passDay_0 : decode cX1_passDay 0 = .ok (.iconst 0, 1) := by decide +kernel
theorem dX1_passDay_1 : decode cX1_passDay 1 = .ok (.istore_n 2, 1) := by decide +kernel
theorem dX1_passDay_2 : decode cX1_passDay 2 = .ok (.iload_n 2, 1) := by decide +kernel
theorem dX1_passDay_3 : decode cX1_passDay 3 = .ok (.bipush 6, 2) := by decide +kernel
theorem dX1_passDay_5 : decode cX1_passDay 5 = .ok (.if_icmp .ge 32, 3) := by decide +kernel
theorem dX1_passDay_8 : decode cX1_passDay 8 = .ok (.aload_n 1, 1) := by decide +kernel
theorem dX1_passDay_9 : decode cX1_passDay 9 = .ok (.iload_n 2, 1) := by decide +kernel
theorem dX1_passDay_10 : decode cX1_passDay 10 = .ok (.invokevirtual 15, 3) := by decide +kernel
theorem dX1_passDay_13 : decode cX1_passDay 13 = .ok (.astore_n 3, 1) := by decide +kernel
theorem dX1_passDay_14 : decode cX1_passDay 14 = .ok (.aload_n 3, 1) := by decide +kernel
theorem dX1_passDay_15 : decode cX1_passDay 15 = .ok (.ifnull 16, 3) := by decide +kernel
theorem dX1_passDay_31 : decode cX1_passDay 31 = .ok (.iinc 2 1, 3) := by decide +kernel
theorem dX1_passDay_34 : decode cX1_passDay 34 = .ok (.goto (-32), 3) := by decide +kernel
theorem dX1_passDay_37 : decode cX1_passDay 37 = .ok (.iconst 0, 1) := by decide +kernel
theorem dX1_passDay_38 : decode cX1_passDay 38 = .ok (.istore_n 2, 1) := by decide +kernel
theorem dX1_passDay_39 : decode cX1_passDay 39 = .ok (.iload_n 2, 1) := by decide +kernel
theorem dX1_passDay_40 : decode cX1_passDay 40 = .ok (.bipush 6, 2) := by decide +kernel
theorem dX1_passDay_42 : decode cX1_passDay 42 = .ok (.if_icmp .ge 31, 3) := by decide +kernel
theorem dX1_passDay_45 : decode cX1_passDay 45 = .ok (.aload_n 1, 1) := by decide +kernel
theorem dX1_passDay_46 : decode cX1_passDay 46 = .ok (.iload_n 2, 1) := by decide +kernel
theorem dX1_passDay_47 : decode cX1_passDay 47 = .ok (.invokevirtual 15, 3) := by decide +kernel
theorem dX1_passDay_50 : decode cX1_passDay 50 = .ok (.astore_n 3, 1) := by decide +kernel
theorem dX1_passDay_51 : decode cX1_passDay 51 = .ok (.aload_n 3, 1) := by decide +kernel
theorem dX1_passDay_52 : decode cX1_passDay 52 = .ok (.ifnull 15, 3) := by decide +kernel
theorem dX1_passDay_67 : decode cX1_passDay 67 = .ok (.iinc 2 1, 3) := by decide +kernel
theorem dX1_passDay_70 : decode cX1_passDay 70 = .ok (.goto (-31), 3) := by decide +kernel
theorem dX1_passDay_73 : decode cX1_passDay 73 = .ok (.aload_n 1, 1) := by decide +kernel
theorem dX1_passDay_74 : decode cX1_passDay 74 = .ok (.dup, 1) := by decide +kernel
theorem dX1_passDay_75 : decode cX1_passDay 75 = .ok (.getfield 35, 3) := by decide +kernel
theorem dX1_passDay_78 : decode cX1_passDay 78 = .ok (.iconst 1, 1) := by decide +kernel
theorem dX1_passDay_79 : decode cX1_passDay 79 = .ok (.iadd, 1) := by decide +kernel
theorem dX1_passDay_80 : decode cX1_passDay 80 = .ok (.putfield 35, 3) := by decide +kernel
theorem dX1_passDay_83 : decode cX1_passDay 83 = .ok (.return_, 1) := by decide +kernel
theorem dX7_days_0 : decode cX7_days 0 = .ok (.aload_n 0, 1) := by decide +kernel
theorem dX7_days_1 : decode cX7_days 1 = .ok (.getfield 30, 3) := by decide +kernel
theorem dX7_days_4 : decode cX7_days 4 = .ok (.iload_n 1, 1) := by decide +kernel
theorem dX7_days_5 : decode cX7_days 5 = .ok (.invokevirtual 92, 3) := by decide +kernel
theorem dX7_days_8 : decode cX7_days 8 = .ok (.ifCond .ne 5, 3) := by decide +kernel
theorem dX7_days_13 : decode cX7_days 13 = .ok (.iconst 0, 1) := by decide +kernel
theorem dX7_days_14 : decode cX7_days 14 = .ok (.istore_n 2, 1) := by decide +kernel
theorem dX7_days_15 : decode cX7_days 15 = .ok (.iload_n 2, 1) := by decide +kernel
theorem dX7_days_16 : decode cX7_days 16 = .ok (.iload_n 1, 1) := by decide +kernel
theorem dX7_days_17 : decode cX7_days 17 = .ok (.if_icmp .ge 20, 3) := by decide +kernel
theorem dX7_days_37 : decode cX7_days 37 = .ok (.aload_n 0, 1) := by decide +kernel
theorem dX7_days_38 : decode cX7_days 38 = .ok (.getfield 30, 3) := by decide +kernel
theorem dX7_days_41 : decode cX7_days 41 = .ok (.getfield 85, 3) := by decide +kernel
theorem dX7_days_44 : decode cX7_days 44 = .ok (.ireturn, 1) := by decide +kernel
theorem dX7_days_20 : decode cX7_days 20 = .ok (.aload_n 0, 1) := by decide +kernel
theorem dX7_days_21 : decode cX7_days 21 = .ok (.getfield 23, 3) := by decide +kernel
theorem dX7_days_24 : decode cX7_days 24 = .ok (.aload_n 0, 1) := by decide +kernel
theorem dX7_days_25 : decode cX7_days 25 = .ok (.getfield 30, 3) := by decide +kernel
theorem dX7_days_28 : decode cX7_days 28 = .ok (.invokevirtual 96, 3) := by decide +kernel
theorem dX7_days_31 : decode cX7_days 31 = .ok (.iinc 2 1, 3) := by decide +kernel
theorem dX7_days_34 : decode cX7_days 34 = .ok (.goto (-19), 3) := by decide +kernel
theorem dX7_days_11 : decode cX7_days 11 = .ok (.iconst (-1), 1) := by decide +kernel
theorem dX7_days_12 : decode cX7_days 12 = .ok (.ireturn, 1) := by decide +kernel
def xAhead (n w : Int32) : Int32 := if cp 0 n = 0 then -2 else if w < 0 then -2 else if 2 < w then -2 else if w = 0 then -1 else 0
theorem wi_n {k : Nat} (h : k < 500) : wi (nI k) 500 = 1 := by
  unfold wi
  rw [if_neg (nI_pos (by omega)), if_pos (show nI k < 500 from nI_lt (b := 500) h (by decide))]
theorem cp_in {n : Int32} (h : ¬ cp 0 n = 0) : ∃ j : Nat, j ≤ 50 ∧ n = nI j := by
  unfold cp at h
  by_cases h1 : n < 1
  · rw [if_pos h1] at h; exact absurd rfl h
  · rw [if_neg h1] at h
    by_cases h2 : 50 < n
    · rw [if_pos h2] at h; exact absurd rfl h
    · rw [Int32.lt_iff_toInt_lt] at h1 h2
      have e1 : (1 : Int32).toInt = 1 := rfl
      have e50 : (50 : Int32).toInt = 50 := rfl
      obtain ⟨j, hj, e⟩ := nI_of (x := n) (by rw [Int32.lt_iff_toInt_lt]; have e0 : (0 : Int32).toInt = 0 := rfl; omega)
      refine ⟨j, ?_, e⟩
      have := nI_toInt hj
      rw [← e] at this
      omega

theorem one_of {k b : Int32} (h : ¬ (if wi k 400 = 0 then (0 : Int32) else if 0 = b then 0 else 1) = 0) : (if wi k 400 = 0 then (0 : Int32) else if 0 = b then 0 else 1) = 1 := by
  by_cases h1 : wi k 400 = 0
  · rw [if_pos h1] at h; exact absurd rfl h
  · rw [if_neg h1] at h ⊢
    by_cases h2 : 0 = b
    · rw [if_pos h2] at h; exact absurd rfl h
    · rw [if_neg h2]

def vs_putB : List Cond := [.code yX7_putBytes cX7_putBytes 3 none, .fieldLink RX7 38 "DepotMarch" "tapeLength" "I", .fieldLink RX7 9 "DepotMarch" "tape" "[I", .code yX7_within cX7_within 2 (some .boolean), .methodLink RX7 156 yX7_within, .static yX7_within, .initialized RX7] ++ (wsX70)
theorem in_putB_X7 : ∀ w ∈ u_ws RX7 TX7 7, w ∈ vs_putB := fun w h => List.mem_append_right _ (h)
set_option maxRecDepth 20000 in
theorem gg_putB_within : GoodIn vs_putB vs_within := goodIn_r _ [3] (by decide +kernel) (by decide +kernel)
set_option maxRecDepth 20000 in
theorem g156_putB_within : GoodIn vs_putB (va_wsS RX7 156 yX7_within vs_within) := goodIn_app (goodIn_of _ (by decide +kernel)) gg_putB_within
set_option maxHeartbeats 4000000 in
set_option maxRecDepth 100000 in
theorem c_putB (l : Launch) (dC : Nat → ClassId) (dI : Nat → Nat → Nat) (cI cZ cB cJ cP cW : ClassId) (q : Nat → Nat) (k : Nat) (f : Nat → Int32) (v : Int32) (sz : Nat) (hk : k + 4 ≤ 500) : Met l yX7_putBytes vs_putB ({ frames := 2, cells := 0, slots := 0, locals := 120 }) (va_Pc [.ref (q 32), .int v] (fun U => U.heap.size = sz ∧ EV dC dI cI cZ cB cJ cP cW U ∧ va_P (dC, dI) vwCl [((q 32), .inr (7, [.ref (q 33), .int (nI k), .ref (q 34), .ref (q 40), .ref (q 0), .ref (q 42), .null])), ((q 33), .inl (cI, 500, .inl f))] U.heap ∧ va_D (fun _ => True) [((q 32), .inr (7, [.ref (q 33), .int (nI k), .ref (q 34), .ref (q 40), .ref (q 0), .ref (q 42), .null])), ((q 33), .inl (cI, 500, .inl f))])) (va_Qv (fun (u : Nat → Int32) => True) (fun u t => va_P (dC, dI) vwCl [((q 32), .inr (7, [.ref (q 33), .int (nI (k + 4)), .ref (q 34), .ref (q 40), .ref (q 0), .ref (q 42), .null])), ((q 33), .inl (cI, 500, .inl u))] t.heap ∧ va_D (va_A [((q 32), .inr (7, [.ref (q 33), .int (nI k), .ref (q 34), .ref (q 40), .ref (q 0), .ref (q 42), .null])), ((q 33), .inl (cI, 500, .inl f))] sz) [((q 32), .inr (7, [.ref (q 33), .int (nI (k + 4)), .ref (q 34), .ref (q 40), .ref (q 0), .ref (q 42), .null])), ((q 33), .inl (cI, 500, .inl u))]) (va_A [((q 32), .inr (7, [.ref (q 33), .int (nI k), .ref (q 34), .ref (q 40), .ref (q 0), .ref (q 42), .null])), ((q 33), .inl (cI, 500, .inl f))] sz)) 0 0 (va_A [((q 32), .inr (7, [.ref (q 33), .int (nI k), .ref (q 34), .ref (q 40), .ref (q 0), .ref (q 42), .null])), ((q 33), .inl (cI, 500, .inl f))] sz) := by
  refine Met.ofW (cc := cX7_putBytes) (maxL := 3) (ret := none) (by decide) rfl ?_
  intro p e s m args below meth c s₁ B hml hv
  obtain ⟨rfl, hsz, hE, hP, hD0⟩ := hv
  have hx := B.exec
  have hb := B.bytes
  have hr := B.returns
  have hts := atoms_spec (ws := vs_putB) B.pre
  have hown : s.vm.findClass RX7 = some m.cls := findClass_of_methodNamed B.named
  have hlocks := B.notSynchronized
  have hK := hE.2
  subst hsz
  have hD := hD0.self (sz := s.heap.size)
  generalize hAe : va_A [((q 32), .inr (7, [.ref (q 33), .int (nI k), .ref (q 34), .ref (q 40), .ref (q 0), .ref (q 42), .null])), ((q 33), .inl (cI, 500, .inl f))] s.heap.size = A at hD ⊢
  have hA : ∀ q : Nat, s.heap.size ≤ q → A q := fun q h => by rw [← hAe]; exact Or.inr h
  have hS : va_S A s.heap s.heap [] := va_S.rf
  have hl := lv_entry ([.ref (q 32), .int v]) (n := 3) (Nat.le_of_ble_eq_true rfl)
  rw [lg_entry_eq]
  generalize (lg_sl ([.ref (q 32), .int v]) ++ List.replicate (3 - (lg_sl ([.ref (q 32), .int v])).length) Slot.unset).toArray = ls at hl ⊢
  have hl : lv_has ls 3 [(0, .ref (q 32)), (1, .int v)] := hl
  refine lv_bipush (v := 24) hx hb dX7_putBytes_0 (by decide) ?_
  refine lv_istore_n (lv' := [(2, .int 24), (0, .ref (q 32)), (1, .int v)]) hx hb dX7_putBytes_2 rfl hl (by decide) rfl (fun ls hl => ?_)
  refine lv_iload_n hx hb dX7_putBytes_3 rfl (lv_at hl 0 rfl) ?_
  refine lv_if_lt (tgt := 54) hx hb dX7_putBytes_4 (by decide) (fun c9 => absurd c9 (by decide)) (fun _ => ?_)
  refine lv_aload_n hx hb dX7_putBytes_7 rfl (lv_at hl 1 rfl) ?_
  refine va_get (D := (dC, dI)) (ci := 7) (v := .int (nI k)) (C := RX7) (T := TX7) (N := 7) hx hb hts in_putB_X7 hown hK hP 0 rfl rfl 1 (by decide) (hts (.fieldLink RX7 38 "DepotMarch" "tapeLength" "I") (by decide +kernel)) (fun _ h9 => h9) rfl dX7_putBytes_8 ?_
  refine lv_aload_n hx hb dX7_putBytes_11 rfl (lv_at hl 1 rfl) ?_
  refine va_get (D := (dC, dI)) (ci := 7) (v := .ref (q 33)) (C := RX7) (T := TX7) (N := 7) hx hb hts in_putB_X7 hown hK hP 0 rfl rfl 0 (by decide) (hts (.fieldLink RX7 9 "DepotMarch" "tape" "[I") (by decide +kernel)) (fun _ h9 => h9) rfl dX7_putBytes_12 ?_
  refine va_alen hx hb hK hP 1 0 rfl rfl (v := 500) rfl dX7_putBytes_15 ?_
  refine vp_callSi (va_Run.run (va_runS (As := [.int (nI k), .int 500]) (rest := []) ⟨hx, hb, hml, hown, hts⟩ (c_within l dC dI cI cZ cB cJ cP cW (nI k) 500) (va_cwS 2 hts g156_putB_within rfl rfl rfl (by decide +kernel) ⟨Nat.le_of_ble_eq_true rfl, Nat.le_of_ble_eq_true rfl⟩) ⟨fbR, fun U hU hW => ⟨rfl, hE.warm hW, by rw [hU]; exact (fun k q h => by simp at h)⟩⟩ rfl rfl hl.1 rfl (lv_room (Nat.le_of_ble_eq_true rfl)) dX7_putBytes_16 ⟨Nat.le_of_ble_eq_true rfl, Nat.le_of_ble_eq_true rfl⟩)) (fun r2 hr2 => ?_)
  obtain rfl : r2 = 1 := hr2.trans (wi_n (by omega))
  refine lv_if_eq (tgt := 48) hx hb dX7_putBytes_19 (by decide) (fun c9 => absurd c9 (by decide)) (fun _ => ?_)
  refine lv_aload_n hx hb dX7_putBytes_22 rfl (lv_at hl 1 rfl) ?_
  refine va_get (D := (dC, dI)) (ci := 7) (v := .ref (q 33)) (C := RX7) (T := TX7) (N := 7) hx hb hts in_putB_X7 hown hK hP 0 rfl rfl 0 (by decide) (hts (.fieldLink RX7 9 "DepotMarch" "tape" "[I") (by decide +kernel)) (fun _ h9 => h9) rfl dX7_putBytes_23 ?_
  refine lv_aload_n hx hb dX7_putBytes_26 rfl (lv_at hl 1 rfl) ?_
  refine va_get (D := (dC, dI)) (ci := 7) (v := .int (nI k)) (C := RX7) (T := TX7) (N := 7) hx hb hts in_putB_X7 hown hK hP 0 rfl rfl 1 (by decide) (hts (.fieldLink RX7 38 "DepotMarch" "tapeLength" "I") (by decide +kernel)) (fun _ h9 => h9) rfl dX7_putBytes_27 ?_
  refine lv_iload_n hx hb dX7_putBytes_30 rfl (lv_at hl 2 rfl) ?_
  refine lv_iload_n hx hb dX7_putBytes_31 rfl (lv_at hl 0 rfl) ?_
  refine lv_iushr (v := _) hx hb dX7_putBytes_32 rfl ?_
  refine lv_topi (fun x4 ex4 => ?_)
  refine lv_sipush (v := 255) hx hb dX7_putBytes_33 (by decide) ?_
  refine lv_iand hx hb dX7_putBytes_36 ?_
  refine lv_topi (fun x5 ex5 => ?_)
  refine va_iast hx hb hK hP hD hS 1 0 rfl rfl (vp_in_nI (by omega) (by omega)) dX7_putBytes_37 (fun H6 locs hP hD hS => ?_)
  have hP : va_P (dC, dI) vwCl [((q 32), .inr (7, [.ref (q 33), .int (nI k), .ref (q 34), .ref (q 40), .ref (q 0), .ref (q 42), .null])), ((q 33), .inl (cI, 500, .inl (upd f (nI k).toNatClampNeg x5)))] H6 := hP
  have hD : va_D A [((q 32), .inr (7, [.ref (q 33), .int (nI k), .ref (q 34), .ref (q 40), .ref (q 0), .ref (q 42), .null])), ((q 33), .inl (cI, 500, .inl (upd f (nI k).toNatClampNeg x5)))] := hD
  refine lv_aload_n hx hb dX7_putBytes_38 rfl (lv_at hl 1 rfl) ?_
  refine lv_dup hx hb dX7_putBytes_39 rfl ?_
  refine va_get (D := (dC, dI)) (ci := 7) (v := .int (nI k)) (C := RX7) (T := TX7) (N := 7) hx hb hts in_putB_X7 hown hK hP 0 rfl rfl 1 (by decide) (hts (.fieldLink RX7 38 "DepotMarch" "tapeLength" "I") (by decide +kernel)) (fun _ h9 => h9) rfl dX7_putBytes_40 ?_
  refine lv_iconst (v := 1) hx hb dX7_putBytes_43 (by decide) ?_
  refine lv_iadd hx hb dX7_putBytes_44 ?_
  refine lv_topi (fun x7 ex7 => ?_)
  obtain rfl : x7 = (nI (k + 1)) := ex7.trans (nI_1 _)
  refine va_put (D := (dC, dI)) (ci := 7) (v := .int (nI (k + 1))) (ty := .int) (C := RX7) (T := TX7) (N := 7) hx hb hts in_putB_X7 tyX7 tyX7_ok nmX7 hown hK hP hD hS 0 rfl rfl 1 (by decide) (hts (.fieldLink RX7 38 "DepotMarch" "tapeLength" "I") (by decide +kernel)) (fun _ h9 => h9) rfl (by decide +kernel) rfl rfl (Nat.le_of_ble_eq_true rfl) dX7_putBytes_45 (fun H8 locs hP hD hS => ?_)
  have hP : va_P (dC, dI) vwCl [((q 32), .inr (7, [.ref (q 33), .int (nI (k + 1)), .ref (q 34), .ref (q 40), .ref (q 0), .ref (q 42), .null])), ((q 33), .inl (cI, 500, .inl (upd f (nI k).toNatClampNeg x5)))] H8 := hP
  have hD : va_D A [((q 32), .inr (7, [.ref (q 33), .int (nI (k + 1)), .ref (q 34), .ref (q 40), .ref (q 0), .ref (q 42), .null])), ((q 33), .inl (cI, 500, .inl (upd f (nI k).toNatClampNeg x5)))] := hD
  refine lv_iinc (v := 16) (lv' := [(2, .int 16), (0, .ref (q 32)), (1, .int v)]) hx hb dX7_putBytes_48 hl (k := 0) rfl (by decide) (by decide) rfl (fun ls hl => ?_)
  refine lv_goto (tgt := 3) hx hb dX7_putBytes_51 (by decide) ?_
  refine lv_iload_n hx hb dX7_putBytes_3 rfl (lv_at hl 0 rfl) ?_
  refine lv_if_lt (tgt := 54) hx hb dX7_putBytes_4 (by decide) (fun c9 => absurd c9 (by decide)) (fun _ => ?_)
  refine lv_aload_n hx hb dX7_putBytes_7 rfl (lv_at hl 1 rfl) ?_
  refine va_get (D := (dC, dI)) (ci := 7) (v := .int (nI (k + 1))) (C := RX7) (T := TX7) (N := 7) hx hb hts in_putB_X7 hown hK hP 0 rfl rfl 1 (by decide) (hts (.fieldLink RX7 38 "DepotMarch" "tapeLength" "I") (by decide +kernel)) (fun _ h9 => h9) rfl dX7_putBytes_8 ?_
  refine lv_aload_n hx hb dX7_putBytes_11 rfl (lv_at hl 1 rfl) ?_
  refine va_get (D := (dC, dI)) (ci := 7) (v := .ref (q 33)) (C := RX7) (T := TX7) (N := 7) hx hb hts in_putB_X7 hown hK hP 0 rfl rfl 0 (by decide) (hts (.fieldLink RX7 9 "DepotMarch" "tape" "[I") (by decide +kernel)) (fun _ h9 => h9) rfl dX7_putBytes_12 ?_
  refine va_alen hx hb hK hP 1 0 rfl rfl (v := 500) rfl dX7_putBytes_15 ?_
  refine vp_callSi (va_Run.run (va_runS (As := [.int (nI (k + 1)), .int 500]) (rest := []) ⟨hx, hb, hml, hown, hts⟩ (c_within l dC dI cI cZ cB cJ cP cW (nI (k + 1)) 500) (va_cwS 2 hts g156_putB_within rfl rfl rfl (by decide +kernel) ⟨Nat.le_of_ble_eq_true rfl, Nat.le_of_ble_eq_true rfl⟩) ⟨fbR, fun U hU hW => ⟨rfl, hE.warm hW, by rw [hU]; exact (fun k q h => by simp at h)⟩⟩ rfl rfl hl.1 rfl (lv_room (Nat.le_of_ble_eq_true rfl)) dX7_putBytes_16 ⟨Nat.le_of_ble_eq_true rfl, Nat.le_of_ble_eq_true rfl⟩)) (fun r10 hr10 => ?_)
  obtain rfl : r10 = 1 := hr10.trans (wi_n (by omega))
  refine lv_if_eq (tgt := 48) hx hb dX7_putBytes_19 (by decide) (fun c9 => absurd c9 (by decide)) (fun _ => ?_)
  refine lv_aload_n hx hb dX7_putBytes_22 rfl (lv_at hl 1 rfl) ?_
  refine va_get (D := (dC, dI)) (ci := 7) (v := .ref (q 33)) (C := RX7) (T := TX7) (N := 7) hx hb hts in_putB_X7 hown hK hP 0 rfl rfl 0 (by decide) (hts (.fieldLink RX7 9 "DepotMarch" "tape" "[I") (by decide +kernel)) (fun _ h9 => h9) rfl dX7_putBytes_23 ?_
  refine lv_aload_n hx hb dX7_putBytes_26 rfl (lv_at hl 1 rfl) ?_
  refine va_get (D := (dC, dI)) (ci := 7) (v := .int (nI (k + 1))) (C := RX7) (T := TX7) (N := 7) hx hb hts in_putB_X7 hown hK hP 0 rfl rfl 1 (by decide) (hts (.fieldLink RX7 38 "DepotMarch" "tapeLength" "I") (by decide +kernel)) (fun _ h9 => h9) rfl dX7_putBytes_27 ?_
  refine lv_iload_n hx hb dX7_putBytes_30 rfl (lv_at hl 2 rfl) ?_
  refine lv_iload_n hx hb dX7_putBytes_31 rfl (lv_at hl 0 rfl) ?_
  refine lv_iushr (v := _) hx hb dX7_putBytes_32 rfl ?_
  refine lv_topi (fun x12 ex12 => ?_)
  refine lv_sipush (v := 255) hx hb dX7_putBytes_33 (by decide) ?_
  refine lv_iand hx hb dX7_putBytes_36 ?_
  refine lv_topi (fun x13 ex13 => ?_)
  refine va_iast hx hb hK hP hD hS 1 0 rfl rfl (vp_in_nI (by omega) (by omega)) dX7_putBytes_37 (fun H14 locs hP hD hS => ?_)
  have hP : va_P (dC, dI) vwCl [((q 32), .inr (7, [.ref (q 33), .int (nI (k + 1)), .ref (q 34), .ref (q 40), .ref (q 0), .ref (q 42), .null])), ((q 33), .inl (cI, 500, .inl (upd (upd f (nI k).toNatClampNeg x5) (nI (k + 1)).toNatClampNeg x13)))] H14 := hP
  have hD : va_D A [((q 32), .inr (7, [.ref (q 33), .int (nI (k + 1)), .ref (q 34), .ref (q 40), .ref (q 0), .ref (q 42), .null])), ((q 33), .inl (cI, 500, .inl (upd (upd f (nI k).toNatClampNeg x5) (nI (k + 1)).toNatClampNeg x13)))] := hD
  refine lv_aload_n hx hb dX7_putBytes_38 rfl (lv_at hl 1 rfl) ?_
  refine lv_dup hx hb dX7_putBytes_39 rfl ?_
  refine va_get (D := (dC, dI)) (ci := 7) (v := .int (nI (k + 1))) (C := RX7) (T := TX7) (N := 7) hx hb hts in_putB_X7 hown hK hP 0 rfl rfl 1 (by decide) (hts (.fieldLink RX7 38 "DepotMarch" "tapeLength" "I") (by decide +kernel)) (fun _ h9 => h9) rfl dX7_putBytes_40 ?_
  refine lv_iconst (v := 1) hx hb dX7_putBytes_43 (by decide) ?_
  refine lv_iadd hx hb dX7_putBytes_44 ?_
  refine lv_topi (fun x15 ex15 => ?_)
  obtain rfl : x15 = (nI (k + 2)) := ex15.trans (nI_1 _)
  refine va_put (D := (dC, dI)) (ci := 7) (v := .int (nI (k + 2))) (ty := .int) (C := RX7) (T := TX7) (N := 7) hx hb hts in_putB_X7 tyX7 tyX7_ok nmX7 hown hK hP hD hS 0 rfl rfl 1 (by decide) (hts (.fieldLink RX7 38 "DepotMarch" "tapeLength" "I") (by decide +kernel)) (fun _ h9 => h9) rfl (by decide +kernel) rfl rfl (Nat.le_of_ble_eq_true rfl) dX7_putBytes_45 (fun H16 locs hP hD hS => ?_)
  have hP : va_P (dC, dI) vwCl [((q 32), .inr (7, [.ref (q 33), .int (nI (k + 2)), .ref (q 34), .ref (q 40), .ref (q 0), .ref (q 42), .null])), ((q 33), .inl (cI, 500, .inl (upd (upd f (nI k).toNatClampNeg x5) (nI (k + 1)).toNatClampNeg x13)))] H16 := hP
  have hD : va_D A [((q 32), .inr (7, [.ref (q 33), .int (nI (k + 2)), .ref (q 34), .ref (q 40), .ref (q 0), .ref (q 42), .null])), ((q 33), .inl (cI, 500, .inl (upd (upd f (nI k).toNatClampNeg x5) (nI (k + 1)).toNatClampNeg x13)))] := hD
  refine lv_iinc (v := 8) (lv' := [(2, .int 8), (0, .ref (q 32)), (1, .int v)]) hx hb dX7_putBytes_48 hl (k := 0) rfl (by decide) (by decide) rfl (fun ls hl => ?_)
  refine lv_goto (tgt := 3) hx hb dX7_putBytes_51 (by decide) ?_
  refine lv_iload_n hx hb dX7_putBytes_3 rfl (lv_at hl 0 rfl) ?_
  refine lv_if_lt (tgt := 54) hx hb dX7_putBytes_4 (by decide) (fun c9 => absurd c9 (by decide)) (fun _ => ?_)
  refine lv_aload_n hx hb dX7_putBytes_7 rfl (lv_at hl 1 rfl) ?_
  refine va_get (D := (dC, dI)) (ci := 7) (v := .int (nI (k + 2))) (C := RX7) (T := TX7) (N := 7) hx hb hts in_putB_X7 hown hK hP 0 rfl rfl 1 (by decide) (hts (.fieldLink RX7 38 "DepotMarch" "tapeLength" "I") (by decide +kernel)) (fun _ h9 => h9) rfl dX7_putBytes_8 ?_
  refine lv_aload_n hx hb dX7_putBytes_11 rfl (lv_at hl 1 rfl) ?_
  refine va_get (D := (dC, dI)) (ci := 7) (v := .ref (q 33)) (C := RX7) (T := TX7) (N := 7) hx hb hts in_putB_X7 hown hK hP 0 rfl rfl 0 (by decide) (hts (.fieldLink RX7 9 "DepotMarch" "tape" "[I") (by decide +kernel)) (fun _ h9 => h9) rfl dX7_putBytes_12 ?_
  refine va_alen hx hb hK hP 1 0 rfl rfl (v := 500) rfl dX7_putBytes_15 ?_
  refine vp_callSi (va_Run.run (va_runS (As := [.int (nI (k + 2)), .int 500]) (rest := []) ⟨hx, hb, hml, hown, hts⟩ (c_within l dC dI cI cZ cB cJ cP cW (nI (k + 2)) 500) (va_cwS 2 hts g156_putB_within rfl rfl rfl (by decide +kernel) ⟨Nat.le_of_ble_eq_true rfl, Nat.le_of_ble_eq_true rfl⟩) ⟨fbR, fun U hU hW => ⟨rfl, hE.warm hW, by rw [hU]; exact (fun k q h => by simp at h)⟩⟩ rfl rfl hl.1 rfl (lv_room (Nat.le_of_ble_eq_true rfl)) dX7_putBytes_16 ⟨Nat.le_of_ble_eq_true rfl, Nat.le_of_ble_eq_true rfl⟩)) (fun r18 hr18 => ?_)
  obtain rfl : r18 = 1 := hr18.trans (wi_n (by omega))
  refine lv_if_eq (tgt := 48) hx hb dX7_putBytes_19 (by decide) (fun c9 => absurd c9 (by decide)) (fun _ => ?_)
  refine lv_aload_n hx hb dX7_putBytes_22 rfl (lv_at hl 1 rfl) ?_
  refine va_get (D := (dC, dI)) (ci := 7) (v := .ref (q 33)) (C := RX7) (T := TX7) (N := 7) hx hb hts in_putB_X7 hown hK hP 0 rfl rfl 0 (by decide) (hts (.fieldLink RX7 9 "DepotMarch" "tape" "[I") (by decide +kernel)) (fun _ h9 => h9) rfl dX7_putBytes_23 ?_
  refine lv_aload_n hx hb dX7_putBytes_26 rfl (lv_at hl 1 rfl) ?_
  refine va_get (D := (dC, dI)) (ci := 7) (v := .int (nI (k + 2))) (C := RX7) (T := TX7) (N := 7) hx hb hts in_putB_X7 hown hK hP 0 rfl rfl 1 (by decide) (hts (.fieldLink RX7 38 "DepotMarch" "tapeLength" "I") (by decide +kernel)) (fun _ h9 => h9) rfl dX7_putBytes_27 ?_
  refine lv_iload_n hx hb dX7_putBytes_30 rfl (lv_at hl 2 rfl) ?_
  refine lv_iload_n hx hb dX7_putBytes_31 rfl (lv_at hl 0 rfl) ?_
  refine lv_iushr (v := _) hx hb dX7_putBytes_32 rfl ?_
  refine lv_topi (fun x20 ex20 => ?_)
  refine lv_sipush (v := 255) hx hb dX7_putBytes_33 (by decide) ?_
  refine lv_iand hx hb dX7_putBytes_36 ?_
  refine lv_topi (fun x21 ex21 => ?_)
  refine va_iast hx hb hK hP hD hS 1 0 rfl rfl (vp_in_nI (by omega) (by omega)) dX7_putBytes_37 (fun H22 locs hP hD hS => ?_)
  have hP : va_P (dC, dI) vwCl [((q 32), .inr (7, [.ref (q 33), .int (nI (k + 2)), .ref (q 34), .ref (q 40), .ref (q 0), .ref (q 42), .null])), ((q 33), .inl (cI, 500, .inl (upd (upd (upd f (nI k).toNatClampNeg x5) (nI (k + 1)).toNatClampNeg x13) (nI (k + 2)).toNatClampNeg x21)))] H22 := hP
  have hD : va_D A [((q 32), .inr (7, [.ref (q 33), .int (nI (k + 2)), .ref (q 34), .ref (q 40), .ref (q 0), .ref (q 42), .null])), ((q 33), .inl (cI, 500, .inl (upd (upd (upd f (nI k).toNatClampNeg x5) (nI (k + 1)).toNatClampNeg x13) (nI (k + 2)).toNatClampNeg x21)))] := hD
  refine lv_aload_n hx hb dX7_putBytes_38 rfl (lv_at hl 1 rfl) ?_
  refine lv_dup hx hb dX7_putBytes_39 rfl ?_
  refine va_get (D := (dC, dI)) (ci := 7) (v := .int (nI (k + 2))) (C := RX7) (T := TX7) (N := 7) hx hb hts in_putB_X7 hown hK hP 0 rfl rfl 1 (by decide) (hts (.fieldLink RX7 38 "DepotMarch" "tapeLength" "I") (by decide +kernel)) (fun _ h9 => h9) rfl dX7_putBytes_40 ?_
  refine lv_iconst (v := 1) hx hb dX7_putBytes_43 (by decide) ?_
  refine lv_iadd hx hb dX7_putBytes_44 ?_
  refine lv_topi (fun x23 ex23 => ?_)
  obtain rfl : x23 = (nI (k + 3)) := ex23.trans (nI_1 _)
  refine va_put (D := (dC, dI)) (ci := 7) (v := .int (nI (k + 3))) (ty := .int) (C := RX7) (T := TX7) (N := 7) hx hb hts in_putB_X7 tyX7 tyX7_ok nmX7 hown hK hP hD hS 0 rfl rfl 1 (by decide) (hts (.fieldLink RX7 38 "DepotMarch" "tapeLength" "I") (by decide +kernel)) (fun _ h9 => h9) rfl (by decide +kernel) rfl rfl (Nat.le_of_ble_eq_true rfl) dX7_putBytes_45 (fun H24 locs hP hD hS => ?_)
  have hP : va_P (dC, dI) vwCl [((q 32), .inr (7, [.ref (q 33), .int (nI (k + 3)), .ref (q 34), .ref (q 40), .ref (q 0), .ref (q 42), .null])), ((q 33), .inl (cI, 500, .inl (upd (upd (upd f (nI k).toNatClampNeg x5) (nI (k + 1)).toNatClampNeg x13) (nI (k + 2)).toNatClampNeg x21)))] H24 := hP
  have hD : va_D A [((q 32), .inr (7, [.ref (q 33), .int (nI (k + 3)), .ref (q 34), .ref (q 40), .ref (q 0), .ref (q 42), .null])), ((q 33), .inl (cI, 500, .inl (upd (upd (upd f (nI k).toNatClampNeg x5) (nI (k + 1)).toNatClampNeg x13) (nI (k + 2)).toNatClampNeg x21)))] := hD
  refine lv_iinc (v := 0) (lv' := [(2, .int 0), (0, .ref (q 32)), (1, .int v)]) hx hb dX7_putBytes_48 hl (k := 0) rfl (by decide) (by decide) rfl (fun ls hl => ?_)
  refine lv_goto (tgt := 3) hx hb dX7_putBytes_51 (by decide) ?_
  refine lv_iload_n hx hb dX7_putBytes_3 rfl (lv_at hl 0 rfl) ?_
  refine lv_if_lt (tgt := 54) hx hb dX7_putBytes_4 (by decide) (fun c9 => absurd c9 (by decide)) (fun _ => ?_)
  refine lv_aload_n hx hb dX7_putBytes_7 rfl (lv_at hl 1 rfl) ?_
  refine va_get (D := (dC, dI)) (ci := 7) (v := .int (nI (k + 3))) (C := RX7) (T := TX7) (N := 7) hx hb hts in_putB_X7 hown hK hP 0 rfl rfl 1 (by decide) (hts (.fieldLink RX7 38 "DepotMarch" "tapeLength" "I") (by decide +kernel)) (fun _ h9 => h9) rfl dX7_putBytes_8 ?_
  refine lv_aload_n hx hb dX7_putBytes_11 rfl (lv_at hl 1 rfl) ?_
  refine va_get (D := (dC, dI)) (ci := 7) (v := .ref (q 33)) (C := RX7) (T := TX7) (N := 7) hx hb hts in_putB_X7 hown hK hP 0 rfl rfl 0 (by decide) (hts (.fieldLink RX7 9 "DepotMarch" "tape" "[I") (by decide +kernel)) (fun _ h9 => h9) rfl dX7_putBytes_12 ?_
  refine va_alen hx hb hK hP 1 0 rfl rfl (v := 500) rfl dX7_putBytes_15 ?_
  refine vp_callSi (va_Run.run (va_runS (As := [.int (nI (k + 3)), .int 500]) (rest := []) ⟨hx, hb, hml, hown, hts⟩ (c_within l dC dI cI cZ cB cJ cP cW (nI (k + 3)) 500) (va_cwS 2 hts g156_putB_within rfl rfl rfl (by decide +kernel) ⟨Nat.le_of_ble_eq_true rfl, Nat.le_of_ble_eq_true rfl⟩) ⟨fbR, fun U hU hW => ⟨rfl, hE.warm hW, by rw [hU]; exact (fun k q h => by simp at h)⟩⟩ rfl rfl hl.1 rfl (lv_room (Nat.le_of_ble_eq_true rfl)) dX7_putBytes_16 ⟨Nat.le_of_ble_eq_true rfl, Nat.le_of_ble_eq_true rfl⟩)) (fun r26 hr26 => ?_)
  obtain rfl : r26 = 1 := hr26.trans (wi_n (by omega))
  refine lv_if_eq (tgt := 48) hx hb dX7_putBytes_19 (by decide) (fun c9 => absurd c9 (by decide)) (fun _ => ?_)
  refine lv_aload_n hx hb dX7_putBytes_22 rfl (lv_at hl 1 rfl) ?_
  refine va_get (D := (dC, dI)) (ci := 7) (v := .ref (q 33)) (C := RX7) (T := TX7) (N := 7) hx hb hts in_putB_X7 hown hK hP 0 rfl rfl 0 (by decide) (hts (.fieldLink RX7 9 "DepotMarch" "tape" "[I") (by decide +kernel)) (fun _ h9 => h9) rfl dX7_putBytes_23 ?_
  refine lv_aload_n hx hb dX7_putBytes_26 rfl (lv_at hl 1 rfl) ?_
  refine va_get (D := (dC, dI)) (ci := 7) (v := .int (nI (k + 3))) (C := RX7) (T := TX7) (N := 7) hx hb hts in_putB_X7 hown hK hP 0 rfl rfl 1 (by decide) (hts (.fieldLink RX7 38 "DepotMarch" "tapeLength" "I") (by decide +kernel)) (fun _ h9 => h9) rfl dX7_putBytes_27 ?_
  refine lv_iload_n hx hb dX7_putBytes_30 rfl (lv_at hl 2 rfl) ?_
  refine lv_iload_n hx hb dX7_putBytes_31 rfl (lv_at hl 0 rfl) ?_
  refine lv_iushr (v := _) hx hb dX7_putBytes_32 rfl ?_
  refine lv_topi (fun x28 ex28 => ?_)
  refine lv_sipush (v := 255) hx hb dX7_putBytes_33 (by decide) ?_
  refine lv_iand hx hb dX7_putBytes_36 ?_
  refine lv_topi (fun x29 ex29 => ?_)
  refine va_iast hx hb hK hP hD hS 1 0 rfl rfl (vp_in_nI (by omega) (by omega)) dX7_putBytes_37 (fun H30 locs hP hD hS => ?_)
  have hP : va_P (dC, dI) vwCl [((q 32), .inr (7, [.ref (q 33), .int (nI (k + 3)), .ref (q 34), .ref (q 40), .ref (q 0), .ref (q 42), .null])), ((q 33), .inl (cI, 500, .inl (upd (upd (upd (upd f (nI k).toNatClampNeg x5) (nI (k + 1)).toNatClampNeg x13) (nI (k + 2)).toNatClampNeg x21) (nI (k + 3)).toNatClampNeg x29)))] H30 := hP
  have hD : va_D A [((q 32), .inr (7, [.ref (q 33), .int (nI (k + 3)), .ref (q 34), .ref (q 40), .ref (q 0), .ref (q 42), .null])), ((q 33), .inl (cI, 500, .inl (upd (upd (upd (upd f (nI k).toNatClampNeg x5) (nI (k + 1)).toNatClampNeg x13) (nI (k + 2)).toNatClampNeg x21) (nI (k + 3)).toNatClampNeg x29)))] := hD
  refine lv_aload_n hx hb dX7_putBytes_38 rfl (lv_at hl 1 rfl) ?_
  refine lv_dup hx hb dX7_putBytes_39 rfl ?_
  refine va_get (D := (dC, dI)) (ci := 7) (v := .int (nI (k + 3))) (C := RX7) (T := TX7) (N := 7) hx hb hts in_putB_X7 hown hK hP 0 rfl rfl 1 (by decide) (hts (.fieldLink RX7 38 "DepotMarch" "tapeLength" "I") (by decide +kernel)) (fun _ h9 => h9) rfl dX7_putBytes_40 ?_
  refine lv_iconst (v := 1) hx hb dX7_putBytes_43 (by decide) ?_
  refine lv_iadd hx hb dX7_putBytes_44 ?_
  refine lv_topi (fun x31 ex31 => ?_)
  obtain rfl : x31 = (nI (k + 4)) := ex31.trans (nI_1 _)
  refine va_put (D := (dC, dI)) (ci := 7) (v := .int (nI (k + 4))) (ty := .int) (C := RX7) (T := TX7) (N := 7) hx hb hts in_putB_X7 tyX7 tyX7_ok nmX7 hown hK hP hD hS 0 rfl rfl 1 (by decide) (hts (.fieldLink RX7 38 "DepotMarch" "tapeLength" "I") (by decide +kernel)) (fun _ h9 => h9) rfl (by decide +kernel) rfl rfl (Nat.le_of_ble_eq_true rfl) dX7_putBytes_45 (fun H32 locs hP hD hS => ?_)
  have hP : va_P (dC, dI) vwCl [((q 32), .inr (7, [.ref (q 33), .int (nI (k + 4)), .ref (q 34), .ref (q 40), .ref (q 0), .ref (q 42), .null])), ((q 33), .inl (cI, 500, .inl (upd (upd (upd (upd f (nI k).toNatClampNeg x5) (nI (k + 1)).toNatClampNeg x13) (nI (k + 2)).toNatClampNeg x21) (nI (k + 3)).toNatClampNeg x29)))] H32 := hP
  have hD : va_D A [((q 32), .inr (7, [.ref (q 33), .int (nI (k + 4)), .ref (q 34), .ref (q 40), .ref (q 0), .ref (q 42), .null])), ((q 33), .inl (cI, 500, .inl (upd (upd (upd (upd f (nI k).toNatClampNeg x5) (nI (k + 1)).toNatClampNeg x13) (nI (k + 2)).toNatClampNeg x21) (nI (k + 3)).toNatClampNeg x29)))] := hD
  refine lv_iinc (v := (-8)) (lv' := [(2, .int (-8)), (0, .ref (q 32)), (1, .int v)]) hx hb dX7_putBytes_48 hl (k := 0) rfl (by decide) (by decide) rfl (fun ls hl => ?_)
  refine lv_goto (tgt := 3) hx hb dX7_putBytes_51 (by decide) ?_
  refine lv_iload_n hx hb dX7_putBytes_3 rfl (lv_at hl 0 rfl) ?_
  refine lv_if_lt (tgt := 54) hx hb dX7_putBytes_4 (by decide) (fun _ => ?_) (fun c9 => absurd (by decide) c9)
  have hP9 := hP.sub (ws' := [((q 32), .inr (7, [.ref (q 33), .int (nI (k + 4)), .ref (q 34), .ref (q 40), .ref (q 0), .ref (q 42), .null])), ((q 33), .inl (cI, 500, .inl (upd (upd (upd (upd f (nI k).toNatClampNeg x5) (nI (k + 1)).toNatClampNeg x13) (nI (k + 2)).toNatClampNeg x21) (nI (k + 3)).toNatClampNeg x29)))]) [0, 1] rfl
  have hD9 := hD.sub (ws' := [((q 32), .inr (7, [.ref (q 33), .int (nI (k + 4)), .ref (q 34), .ref (q 40), .ref (q 0), .ref (q 42), .null])), ((q 33), .inl (cI, 500, .inl (upd (upd (upd (upd f (nI k).toNatClampNeg x5) (nI (k + 1)).toNatClampNeg x13) (nI (k + 2)).toNatClampNeg x21) (nI (k + 3)).toNatClampNeg x29)))]) [0, 1] (by decide) rfl
  refine W.widen (k := 0) (n := 0) (by decide) (by decide) ?_
  exact W.vret hx hb hr (fun t ht hW => ⟨⟨(upd (upd (upd (upd f (nI k).toNatClampNeg x5) (nI (k + 1)).toNatClampNeg x13) (nI (k + 2)).toNatClampNeg x21) (nI (k + 3)).toNatClampNeg x29), rfl, trivial, by rw [ht]; exact hP9, hD9⟩, hS.F ht⟩) hS.2.2 dX7_putBytes_54

def vs_x_feed : List Cond := [.code yX7_feed cX7_feed 6 (some .int), .fieldLink RX7 38 "DepotMarch" "tapeLength" "I", .code yX7_putBytes cX7_putBytes 3 none, .fieldLink RX7 9 "DepotMarch" "tape" "[I", .code yX7_within cX7_within 2 (some .boolean), .methodLink RX7 156 yX7_within, .static yX7_within, .initialized RX7, .methodLink RX7 42 yX7_putBytes, .instanceMethod yX7_putBytes, .selects RX7 yX7_putBytes yX7_putBytes] ++ (wsX70)
theorem in_x_feed_X7 : ∀ w ∈ u_ws RX7 TX7 7, w ∈ vs_x_feed := fun w h => List.mem_append_right _ (h)
set_option maxRecDepth 20000 in
theorem gg_x_feed_putB : GoodIn vs_x_feed vs_putB := goodIn_r _ [2, 1, 3, 4, 5, 6, 7, 11, 12, 13, 14, 15, 16, 17] (by decide +kernel) (by decide +kernel)
set_option maxRecDepth 20000 in
theorem g42_x_feed_putB : GoodIn vs_x_feed (wsV RX7 42 RX7 yX7_putBytes vs_putB) := goodIn_app (goodIn_of _ (by decide +kernel)) gg_x_feed_putB
set_option maxHeartbeats 4000000 in
set_option maxRecDepth 100000 in
theorem c_x_feed (l : Launch) (dC : Nat → ClassId) (dI : Nat → Nat → Nat) (cI cZ cB cJ cP cW : ClassId) (q : Nat → Nat) (v1 : Int32) (v2 : Int32) (v3 : Int32) (v4 : Int32) (v5 : Int32) (sz : Nat) : Met l yX7_feed vs_x_feed ({ frames := 6, cells := 0, slots := 0, locals := 360 }) (va_Pc [.ref (q 32), .int v1, .int v2, .int v3, .int v4, .int v5] (fun U => U.heap.size = sz ∧ EV dC dI cI cZ cB cJ cP cW U ∧ va_P (dC, dI) vwCl [((q 32), .inr (7, [.ref (q 33), .int 0, .ref (q 34), .ref (q 40), .ref (q 0), .ref (q 42), .null])), ((q 33), .inl (cI, 500, .inl (fun _ => 0)))] U.heap ∧ va_D (fun _ => True) [((q 32), .inr (7, [.ref (q 33), .int 0, .ref (q 34), .ref (q 40), .ref (q 0), .ref (q 42), .null])), ((q 33), .inl (cI, 500, .inl (fun _ => 0)))])) (va_Qi (fun (r : Int32) (u : Unit) => r = 20) (fun u t => va_P (dC, dI) vwCl [] t.heap ∧ va_D (va_A [((q 32), .inr (7, [.ref (q 33), .int 0, .ref (q 34), .ref (q 40), .ref (q 0), .ref (q 42), .null])), ((q 33), .inl (cI, 500, .inl (fun _ => 0)))] sz) []) (va_A [((q 32), .inr (7, [.ref (q 33), .int 0, .ref (q 34), .ref (q 40), .ref (q 0), .ref (q 42), .null])), ((q 33), .inl (cI, 500, .inl (fun _ => 0)))] sz)) 0 0 (va_A [((q 32), .inr (7, [.ref (q 33), .int 0, .ref (q 34), .ref (q 40), .ref (q 0), .ref (q 42), .null])), ((q 33), .inl (cI, 500, .inl (fun _ => 0)))] sz) := by
  refine Met.ofW (cc := cX7_feed) (maxL := 6) (ret := (some .int)) (by decide) rfl ?_
  intro p e s m args below meth c s₁ B hml hv
  obtain ⟨rfl, hsz, hE, hP, hD0⟩ := hv
  have hx := B.exec
  have hb := B.bytes
  have hr := B.returns
  have hts := atoms_spec (ws := vs_x_feed) B.pre
  have hown : s.vm.findClass RX7 = some m.cls := findClass_of_methodNamed B.named
  have hlocks := B.notSynchronized
  have hK := hE.2
  subst hsz
  have hD := hD0.self (sz := s.heap.size)
  generalize hAe : va_A [((q 32), .inr (7, [.ref (q 33), .int 0, .ref (q 34), .ref (q 40), .ref (q 0), .ref (q 42), .null])), ((q 33), .inl (cI, 500, .inl (fun _ => 0)))] s.heap.size = A at hD ⊢
  have hA : ∀ q : Nat, s.heap.size ≤ q → A q := fun q h => by rw [← hAe]; exact Or.inr h
  have hS : va_S A s.heap s.heap [] := va_S.rf
  have hl := lv_entry ([.ref (q 32), .int v1, .int v2, .int v3, .int v4, .int v5]) (n := 6) (Nat.le_of_ble_eq_true rfl)
  rw [lg_entry_eq]
  generalize (lg_sl ([.ref (q 32), .int v1, .int v2, .int v3, .int v4, .int v5]) ++ List.replicate (6 - (lg_sl ([.ref (q 32), .int v1, .int v2, .int v3, .int v4, .int v5])).length) Slot.unset).toArray = ls at hl ⊢
  have hl : lv_has ls 6 [(0, .ref (q 32)), (1, .int v1), (2, .int v2), (3, .int v3), (4, .int v4), (5, .int v5)] := hl
  refine lv_aload_n hx hb dX7_feed_0 rfl (lv_at hl 0 rfl) ?_
  refine va_get (D := (dC, dI)) (ci := 7) (v := .int 0) (C := RX7) (T := TX7) (N := 7) hx hb hts in_x_feed_X7 hown hK hP 0 rfl rfl 1 (by decide) (hts (.fieldLink RX7 38 "DepotMarch" "tapeLength" "I") (by decide +kernel)) (fun _ h9 => h9) rfl dX7_feed_1 ?_
  refine lv_bipush (v := 20) hx hb dX7_feed_4 (by decide) ?_
  refine lv_iadd hx hb dX7_feed_6 ?_
  refine lv_topi (fun x1 ex1 => ?_)
  obtain rfl : x1 = 20 := ex1.trans (by decide)
  refine lv_sipush (v := 500) hx hb dX7_feed_7 (by decide) ?_
  refine lv_icmp_le (tgt := 15) hx hb dX7_feed_10 (by decide) (fun _ => ?_) (fun c9 => absurd (by decide) c9)
  refine lv_aload_n hx hb dX7_feed_15 rfl (lv_at hl 0 rfl) ?_
  refine lv_iload_n hx hb dX7_feed_16 rfl (lv_at hl 1 rfl) ?_
  have hPc := hP.sub (ws' := [((q 32), .inr (7, [.ref (q 33), .int 0, .ref (q 34), .ref (q 40), .ref (q 0), .ref (q 42), .null])), ((q 33), .inl (cI, 500, .inl (fun _ => 0)))]) [0, 1] rfl
  have hDc := hD.sub (ws' := [((q 32), .inr (7, [.ref (q 33), .int 0, .ref (q 34), .ref (q 40), .ref (q 0), .ref (q 42), .null])), ((q 33), .inl (cI, 500, .inl (fun _ => 0)))]) [0, 1] (by decide) rfl
  have hFc := va_free (wc := [((q 32), .inr (7, [.ref (q 33), .int 0, .ref (q 34), .ref (q 40), .ref (q 0), .ref (q 42), .null])), ((q 33), .inl (cI, 500, .inl (fun _ => 0)))]) hD hS hA [0, 1] rfl
  refine va_callv (va_runV (As := [.int v1]) (rest := []) ⟨hx, hb, hml, hown, hts⟩ ((c_putB l dC dI cI cZ cB cJ cP cW q 0 (fun _ => 0) v1 s.heap.size) (by decide)) (cwV 1 hts g42_x_feed_putB rfl rfl rfl (by decide +kernel) ⟨Nat.le_of_ble_eq_true rfl, Nat.le_of_ble_eq_true rfl⟩) ⟨fbM, va_recv hK hPc (ci := 7) (q0 := 0) rfl rfl, fun U hU hW => ⟨rfl, by rw [hU], hE.warm hW, by rw [hU]; exact hPc, hDc.weaken (fun _ _ _ _ => trivial)⟩⟩ rfl rfl hl.1 rfl (lv_room (Nat.le_of_ble_eq_true rfl)) dX7_feed_17 ⟨Nat.le_of_ble_eq_true rfl, Nat.le_of_ble_eq_true rfl⟩) hS (fun q _ h => hFc q h) hFc (fun u4 t H5 locs ht hvm hr3 hB hz1 hk1 hS => ?_)
  obtain ⟨hP1, hD1⟩ := hB
  rw [ht] at hP1
  obtain ⟨hP, hD⟩ := va_join (wr := []) (w1 := [((q 32), .inr (7, [.ref (q 33), .int 4, .ref (q 34), .ref (q 40), .ref (q 0), .ref (q 42), .null])), ((q 33), .inl (cI, 500, .inl u4))]) hP hD [0, 1] [] rfl rfl (by decide) (by decide) hk1 hFc hP1 hD1
  have hP : va_P (dC, dI) vwCl [((q 32), .inr (7, [.ref (q 33), .int 4, .ref (q 34), .ref (q 40), .ref (q 0), .ref (q 42), .null])), ((q 33), .inl (cI, 500, .inl u4))] H5 := hP
  have hD : va_D A [((q 32), .inr (7, [.ref (q 33), .int 4, .ref (q 34), .ref (q 40), .ref (q 0), .ref (q 42), .null])), ((q 33), .inl (cI, 500, .inl u4))] := hD
  refine lv_aload_n hx hb dX7_feed_20 rfl (lv_at hl 0 rfl) ?_
  refine lv_iload_n hx hb dX7_feed_21 rfl (lv_at hl 2 rfl) ?_
  have hPc := hP.sub (ws' := [((q 32), .inr (7, [.ref (q 33), .int 4, .ref (q 34), .ref (q 40), .ref (q 0), .ref (q 42), .null])), ((q 33), .inl (cI, 500, .inl u4))]) [0, 1] rfl
  have hDc := hD.sub (ws' := [((q 32), .inr (7, [.ref (q 33), .int 4, .ref (q 34), .ref (q 40), .ref (q 0), .ref (q 42), .null])), ((q 33), .inl (cI, 500, .inl u4))]) [0, 1] (by decide) rfl
  have hFc := va_free (wc := [((q 32), .inr (7, [.ref (q 33), .int 4, .ref (q 34), .ref (q 40), .ref (q 0), .ref (q 42), .null])), ((q 33), .inl (cI, 500, .inl u4))]) hD hS hA [0, 1] rfl
  refine va_callv (va_runV (As := [.int v2]) (rest := []) ⟨hx, hb, hml, hown, hts⟩ ((c_putB l dC dI cI cZ cB cJ cP cW q 4 u4 v2 H5.size) (by decide)) (cwV 1 hts g42_x_feed_putB rfl rfl rfl (by decide +kernel) ⟨Nat.le_of_ble_eq_true rfl, Nat.le_of_ble_eq_true rfl⟩) ⟨fbM, va_recv hK hPc (ci := 7) (q0 := 0) rfl rfl, fun U hU hW => ⟨rfl, by rw [hU], hE.warm hW, by rw [hU]; exact hPc, hDc.weaken (fun _ _ _ _ => trivial)⟩⟩ rfl rfl hl.1 rfl (lv_room (Nat.le_of_ble_eq_true rfl)) dX7_feed_22 ⟨Nat.le_of_ble_eq_true rfl, Nat.le_of_ble_eq_true rfl⟩) hS (fun q _ h => hFc q h) hFc (fun u7 t H8 locs ht hvm hr6 hB hz1 hk1 hS => ?_)
  obtain ⟨hP1, hD1⟩ := hB
  rw [ht] at hP1
  obtain ⟨hP, hD⟩ := va_join (wr := []) (w1 := [((q 32), .inr (7, [.ref (q 33), .int 8, .ref (q 34), .ref (q 40), .ref (q 0), .ref (q 42), .null])), ((q 33), .inl (cI, 500, .inl u7))]) hP hD [0, 1] [] rfl rfl (by decide) (by decide) hk1 hFc hP1 hD1
  have hP : va_P (dC, dI) vwCl [((q 32), .inr (7, [.ref (q 33), .int 8, .ref (q 34), .ref (q 40), .ref (q 0), .ref (q 42), .null])), ((q 33), .inl (cI, 500, .inl u7))] H8 := hP
  have hD : va_D A [((q 32), .inr (7, [.ref (q 33), .int 8, .ref (q 34), .ref (q 40), .ref (q 0), .ref (q 42), .null])), ((q 33), .inl (cI, 500, .inl u7))] := hD
  refine lv_aload_n hx hb dX7_feed_25 rfl (lv_at hl 0 rfl) ?_
  refine lv_iload_n hx hb dX7_feed_26 rfl (lv_at hl 3 rfl) ?_
  have hPc := hP.sub (ws' := [((q 32), .inr (7, [.ref (q 33), .int 8, .ref (q 34), .ref (q 40), .ref (q 0), .ref (q 42), .null])), ((q 33), .inl (cI, 500, .inl u7))]) [0, 1] rfl
  have hDc := hD.sub (ws' := [((q 32), .inr (7, [.ref (q 33), .int 8, .ref (q 34), .ref (q 40), .ref (q 0), .ref (q 42), .null])), ((q 33), .inl (cI, 500, .inl u7))]) [0, 1] (by decide) rfl
  have hFc := va_free (wc := [((q 32), .inr (7, [.ref (q 33), .int 8, .ref (q 34), .ref (q 40), .ref (q 0), .ref (q 42), .null])), ((q 33), .inl (cI, 500, .inl u7))]) hD hS hA [0, 1] rfl
  refine va_callv (va_runV (As := [.int v3]) (rest := []) ⟨hx, hb, hml, hown, hts⟩ ((c_putB l dC dI cI cZ cB cJ cP cW q 8 u7 v3 H8.size) (by decide)) (cwV 1 hts g42_x_feed_putB rfl rfl rfl (by decide +kernel) ⟨Nat.le_of_ble_eq_true rfl, Nat.le_of_ble_eq_true rfl⟩) ⟨fbM, va_recv hK hPc (ci := 7) (q0 := 0) rfl rfl, fun U hU hW => ⟨rfl, by rw [hU], hE.warm hW, by rw [hU]; exact hPc, hDc.weaken (fun _ _ _ _ => trivial)⟩⟩ rfl rfl hl.1 rfl (lv_room (Nat.le_of_ble_eq_true rfl)) dX7_feed_27 ⟨Nat.le_of_ble_eq_true rfl, Nat.le_of_ble_eq_true rfl⟩) hS (fun q _ h => hFc q h) hFc (fun u10 t H11 locs ht hvm hr9 hB hz1 hk1 hS => ?_)
  obtain ⟨hP1, hD1⟩ := hB
  rw [ht] at hP1
  obtain ⟨hP, hD⟩ := va_join (wr := []) (w1 := [((q 32), .inr (7, [.ref (q 33), .int 12, .ref (q 34), .ref (q 40), .ref (q 0), .ref (q 42), .null])), ((q 33), .inl (cI, 500, .inl u10))]) hP hD [0, 1] [] rfl rfl (by decide) (by decide) hk1 hFc hP1 hD1
  have hP : va_P (dC, dI) vwCl [((q 32), .inr (7, [.ref (q 33), .int 12, .ref (q 34), .ref (q 40), .ref (q 0), .ref (q 42), .null])), ((q 33), .inl (cI, 500, .inl u10))] H11 := hP
  have hD : va_D A [((q 32), .inr (7, [.ref (q 33), .int 12, .ref (q 34), .ref (q 40), .ref (q 0), .ref (q 42), .null])), ((q 33), .inl (cI, 500, .inl u10))] := hD
  refine lv_aload_n hx hb dX7_feed_30 rfl (lv_at hl 0 rfl) ?_
  refine lv_iload hx hb dX7_feed_31 (lv_at hl 4 rfl) ?_
  have hPc := hP.sub (ws' := [((q 32), .inr (7, [.ref (q 33), .int 12, .ref (q 34), .ref (q 40), .ref (q 0), .ref (q 42), .null])), ((q 33), .inl (cI, 500, .inl u10))]) [0, 1] rfl
  have hDc := hD.sub (ws' := [((q 32), .inr (7, [.ref (q 33), .int 12, .ref (q 34), .ref (q 40), .ref (q 0), .ref (q 42), .null])), ((q 33), .inl (cI, 500, .inl u10))]) [0, 1] (by decide) rfl
  have hFc := va_free (wc := [((q 32), .inr (7, [.ref (q 33), .int 12, .ref (q 34), .ref (q 40), .ref (q 0), .ref (q 42), .null])), ((q 33), .inl (cI, 500, .inl u10))]) hD hS hA [0, 1] rfl
  refine va_callv (va_runV (As := [.int v4]) (rest := []) ⟨hx, hb, hml, hown, hts⟩ ((c_putB l dC dI cI cZ cB cJ cP cW q 12 u10 v4 H11.size) (by decide)) (cwV 1 hts g42_x_feed_putB rfl rfl rfl (by decide +kernel) ⟨Nat.le_of_ble_eq_true rfl, Nat.le_of_ble_eq_true rfl⟩) ⟨fbM, va_recv hK hPc (ci := 7) (q0 := 0) rfl rfl, fun U hU hW => ⟨rfl, by rw [hU], hE.warm hW, by rw [hU]; exact hPc, hDc.weaken (fun _ _ _ _ => trivial)⟩⟩ rfl rfl hl.1 rfl (lv_room (Nat.le_of_ble_eq_true rfl)) dX7_feed_33 ⟨Nat.le_of_ble_eq_true rfl, Nat.le_of_ble_eq_true rfl⟩) hS (fun q _ h => hFc q h) hFc (fun u13 t H14 locs ht hvm hr12 hB hz1 hk1 hS => ?_)
  obtain ⟨hP1, hD1⟩ := hB
  rw [ht] at hP1
  obtain ⟨hP, hD⟩ := va_join (wr := []) (w1 := [((q 32), .inr (7, [.ref (q 33), .int 16, .ref (q 34), .ref (q 40), .ref (q 0), .ref (q 42), .null])), ((q 33), .inl (cI, 500, .inl u13))]) hP hD [0, 1] [] rfl rfl (by decide) (by decide) hk1 hFc hP1 hD1
  have hP : va_P (dC, dI) vwCl [((q 32), .inr (7, [.ref (q 33), .int 16, .ref (q 34), .ref (q 40), .ref (q 0), .ref (q 42), .null])), ((q 33), .inl (cI, 500, .inl u13))] H14 := hP
  have hD : va_D A [((q 32), .inr (7, [.ref (q 33), .int 16, .ref (q 34), .ref (q 40), .ref (q 0), .ref (q 42), .null])), ((q 33), .inl (cI, 500, .inl u13))] := hD
  refine lv_aload_n hx hb dX7_feed_36 rfl (lv_at hl 0 rfl) ?_
  refine lv_iload hx hb dX7_feed_37 (lv_at hl 5 rfl) ?_
  have hPc := hP.sub (ws' := [((q 32), .inr (7, [.ref (q 33), .int 16, .ref (q 34), .ref (q 40), .ref (q 0), .ref (q 42), .null])), ((q 33), .inl (cI, 500, .inl u13))]) [0, 1] rfl
  have hDc := hD.sub (ws' := [((q 32), .inr (7, [.ref (q 33), .int 16, .ref (q 34), .ref (q 40), .ref (q 0), .ref (q 42), .null])), ((q 33), .inl (cI, 500, .inl u13))]) [0, 1] (by decide) rfl
  have hFc := va_free (wc := [((q 32), .inr (7, [.ref (q 33), .int 16, .ref (q 34), .ref (q 40), .ref (q 0), .ref (q 42), .null])), ((q 33), .inl (cI, 500, .inl u13))]) hD hS hA [0, 1] rfl
  refine va_callv (va_runV (As := [.int v5]) (rest := []) ⟨hx, hb, hml, hown, hts⟩ ((c_putB l dC dI cI cZ cB cJ cP cW q 16 u13 v5 H14.size) (by decide)) (cwV 1 hts g42_x_feed_putB rfl rfl rfl (by decide +kernel) ⟨Nat.le_of_ble_eq_true rfl, Nat.le_of_ble_eq_true rfl⟩) ⟨fbM, va_recv hK hPc (ci := 7) (q0 := 0) rfl rfl, fun U hU hW => ⟨rfl, by rw [hU], hE.warm hW, by rw [hU]; exact hPc, hDc.weaken (fun _ _ _ _ => trivial)⟩⟩ rfl rfl hl.1 rfl (lv_room (Nat.le_of_ble_eq_true rfl)) dX7_feed_39 ⟨Nat.le_of_ble_eq_true rfl, Nat.le_of_ble_eq_true rfl⟩) hS (fun q _ h => hFc q h) hFc (fun u16 t H17 locs ht hvm hr15 hB hz1 hk1 hS => ?_)
  obtain ⟨hP1, hD1⟩ := hB
  rw [ht] at hP1
  obtain ⟨hP, hD⟩ := va_join (wr := []) (w1 := [((q 32), .inr (7, [.ref (q 33), .int 20, .ref (q 34), .ref (q 40), .ref (q 0), .ref (q 42), .null])), ((q 33), .inl (cI, 500, .inl u16))]) hP hD [0, 1] [] rfl rfl (by decide) (by decide) hk1 hFc hP1 hD1
  have hP : va_P (dC, dI) vwCl [((q 32), .inr (7, [.ref (q 33), .int 20, .ref (q 34), .ref (q 40), .ref (q 0), .ref (q 42), .null])), ((q 33), .inl (cI, 500, .inl u16))] H17 := hP
  have hD : va_D A [((q 32), .inr (7, [.ref (q 33), .int 20, .ref (q 34), .ref (q 40), .ref (q 0), .ref (q 42), .null])), ((q 33), .inl (cI, 500, .inl u16))] := hD
  refine lv_aload_n hx hb dX7_feed_42 rfl (lv_at hl 0 rfl) ?_
  refine va_get (D := (dC, dI)) (ci := 7) (v := .int 20) (C := RX7) (T := TX7) (N := 7) hx hb hts in_x_feed_X7 hown hK hP 0 rfl rfl 1 (by decide) (hts (.fieldLink RX7 38 "DepotMarch" "tapeLength" "I") (by decide +kernel)) (fun _ h9 => h9) rfl dX7_feed_43 ?_
  have hP9 := hP.sub (ws' := []) [] rfl
  have hD9 := hD.sub (ws' := []) [] (by decide) rfl
  refine W.widen (k := 0) (n := 0) (by decide) (by decide) ?_
  exact W.iret (v := 20) hx hb hr (fun t ht hW => ⟨⟨20, (), rfl, rfl, by rw [ht]; exact hP9, hD9⟩, hS.F ht⟩) hS.2.2 dX7_feed_46

def vs_x_end : List Cond := [.code yX7_end cX7_end 2 (some .int), .fieldLink RX7 38 "DepotMarch" "tapeLength" "I"] ++ (wsX70)
theorem in_x_end_X7 : ∀ w ∈ u_ws RX7 TX7 7, w ∈ vs_x_end := fun w h => List.mem_append_right _ (h)
set_option maxHeartbeats 4000000 in
set_option maxRecDepth 100000 in
theorem c_x_end (l : Launch) (dC : Nat → ClassId) (dI : Nat → Nat → Nat) (cI cZ cB cJ cP cW : ClassId) (q : Nat → Nat) (n : Int32) (sz : Nat) : Met l yX7_end vs_x_end ({ frames := 6, cells := 0, slots := 0, locals := 360 }) (va_Pc [.ref (q 32), .int n] (fun U => U.heap.size = sz ∧ EV dC dI cI cZ cB cJ cP cW U ∧ va_P (dC, dI) vwCl [((q 32), .inr (7, [.ref (q 33), .int 0, .ref (q 34), .ref (q 40), .ref (q 0), .ref (q 42), .null]))] U.heap ∧ va_D (fun _ => True) [((q 32), .inr (7, [.ref (q 33), .int 0, .ref (q 34), .ref (q 40), .ref (q 0), .ref (q 42), .null]))])) (va_Qi (fun (r : Int32) (u : Unit) => r = if n < 0 then -1 else if 0 < n then -1 else n) (fun u t => va_P (dC, dI) vwCl [] t.heap ∧ va_D (va_A [((q 32), .inr (7, [.ref (q 33), .int 0, .ref (q 34), .ref (q 40), .ref (q 0), .ref (q 42), .null]))] sz) []) (va_A [((q 32), .inr (7, [.ref (q 33), .int 0, .ref (q 34), .ref (q 40), .ref (q 0), .ref (q 42), .null]))] sz)) 0 0 (va_A [((q 32), .inr (7, [.ref (q 33), .int 0, .ref (q 34), .ref (q 40), .ref (q 0), .ref (q 42), .null]))] sz) := by
  refine Met.ofW (cc := cX7_end) (maxL := 2) (ret := (some .int)) (by decide) rfl ?_
  intro p e s m args below meth c s₁ B hml hv
  obtain ⟨rfl, hsz, hE, hP, hD0⟩ := hv
  have hx := B.exec
  have hb := B.bytes
  have hr := B.returns
  have hts := atoms_spec (ws := vs_x_end) B.pre
  have hown : s.vm.findClass RX7 = some m.cls := findClass_of_methodNamed B.named
  have hlocks := B.notSynchronized
  have hK := hE.2
  subst hsz
  have hD := hD0.self (sz := s.heap.size)
  generalize hAe : va_A [((q 32), .inr (7, [.ref (q 33), .int 0, .ref (q 34), .ref (q 40), .ref (q 0), .ref (q 42), .null]))] s.heap.size = A at hD ⊢
  have hA : ∀ q : Nat, s.heap.size ≤ q → A q := fun q h => by rw [← hAe]; exact Or.inr h
  have hS : va_S A s.heap s.heap [] := va_S.rf
  have hl := lv_entry ([.ref (q 32), .int n]) (n := 2) (Nat.le_of_ble_eq_true rfl)
  rw [lg_entry_eq]
  generalize (lg_sl ([.ref (q 32), .int n]) ++ List.replicate (2 - (lg_sl ([.ref (q 32), .int n])).length) Slot.unset).toArray = ls at hl ⊢
  have hl : lv_has ls 2 [(0, .ref (q 32)), (1, .int n)] := hl
  refine lv_iload_n hx hb dX7_end_0 rfl (lv_at hl 1 rfl) ?_
  refine lv_if_lt (tgt := 12) hx hb dX7_end_1 (by decide) (fun c1 => ?_) (fun c1 => ?_)
  · refine lv_iconst (v := (-1)) hx hb dX7_end_12 (by decide) ?_
    have hP9 := hP.sub (ws' := []) [] rfl
    have hD9 := hD.sub (ws' := []) [] (by decide) rfl
    refine W.widen (k := 0) (n := 0) (by decide) (by decide) ?_
    exact W.iret (v := (-1)) hx hb hr (fun t ht hW => ⟨⟨(-1), (), rfl, (by simp [c1]), by rw [ht]; exact hP9, hD9⟩, hS.F ht⟩) hS.2.2 dX7_end_13
  · refine lv_iload_n hx hb dX7_end_4 rfl (lv_at hl 1 rfl) ?_
    refine lv_aload_n hx hb dX7_end_5 rfl (lv_at hl 0 rfl) ?_
    refine va_get (D := (dC, dI)) (ci := 7) (v := .int 0) (C := RX7) (T := TX7) (N := 7) hx hb hts in_x_end_X7 hown hK hP 0 rfl rfl 1 (by decide) (hts (.fieldLink RX7 38 "DepotMarch" "tapeLength" "I") (by decide +kernel)) (fun _ h9 => h9) rfl dX7_end_6 ?_
    refine lv_icmp_le (tgt := 14) hx hb dX7_end_9 (by decide) (fun c2 => ?_) (fun c2 => ?_)
    · refine lv_aload_n hx hb dX7_end_14 rfl (lv_at hl 0 rfl) ?_
      refine lv_iload_n hx hb dX7_end_15 rfl (lv_at hl 1 rfl) ?_
      refine va_put (D := (dC, dI)) (ci := 7) (v := .int n) (ty := .int) (C := RX7) (T := TX7) (N := 7) hx hb hts in_x_end_X7 tyX7 tyX7_ok nmX7 hown hK hP hD hS 0 rfl rfl 1 (by decide) (hts (.fieldLink RX7 38 "DepotMarch" "tapeLength" "I") (by decide +kernel)) (fun _ h9 => h9) rfl (by decide +kernel) rfl rfl (Nat.le_of_ble_eq_true rfl) dX7_end_16 (fun H3 locs hP hD hS => ?_)
      have hP : va_P (dC, dI) vwCl [((q 32), .inr (7, [.ref (q 33), .int n, .ref (q 34), .ref (q 40), .ref (q 0), .ref (q 42), .null]))] H3 := hP
      have hD : va_D A [((q 32), .inr (7, [.ref (q 33), .int n, .ref (q 34), .ref (q 40), .ref (q 0), .ref (q 42), .null]))] := hD
      refine lv_iload_n hx hb dX7_end_19 rfl (lv_at hl 1 rfl) ?_
      have hP9 := hP.sub (ws' := []) [] rfl
      have hD9 := hD.sub (ws' := []) [] (by decide) rfl
      refine W.widen (k := 0) (n := 0) (by decide) (by decide) ?_
      exact W.iret (v := n) hx hb hr (fun t ht hW => ⟨⟨n, (), rfl, (by simp [c1, (Int32.not_lt.mpr c2)]), by rw [ht]; exact hP9, hD9⟩, hS.F ht⟩) hS.2.2 dX7_end_20
    · refine lv_iconst (v := (-1)) hx hb dX7_end_12 (by decide) ?_
      have hP9 := hP.sub (ws' := []) [] rfl
      have hD9 := hD.sub (ws' := []) [] (by decide) rfl
      refine W.widen (k := 0) (n := 0) (by decide) (by decide) ?_
      exact W.iret (v := (-1)) hx hb hr (fun t ht hW => ⟨⟨(-1), (), rfl, (by simp [c1, (Int32.not_le.mp c2)]), by rw [ht]; exact hP9, hD9⟩, hS.F ht⟩) hS.2.2 dX7_end_13

def vs_make : List Cond := [.code yX2_make cX2_make 3 none, .fieldLink RX2 28 "DepotMarch$Party" "men" "I", .fieldLink RX2 31 "DepotMarch$Party" "carry" "I"] ++ (wsX20)
theorem in_make_X2 : ∀ w ∈ u_ws RX2 TX2 11, w ∈ vs_make := fun w h => List.mem_append_right _ (h)
set_option maxHeartbeats 4000000 in
set_option maxRecDepth 100000 in
theorem c_make (l : Launch) (dC : Nat → ClassId) (dI : Nat → Nat → Nat) (cI cZ cB cJ cP cW : ClassId) (q : Nat → Nat) (z : Nat) (a1 : Int32) (a2 : Int32) (sz : Nat) : Met l yX2_make vs_make ({ frames := 1, cells := 0, slots := 0, locals := 60 }) (va_Pc [.ref (q 14), .int a1, .int a2] (fun U => U.heap.size = sz ∧ EV dC dI cI cZ cB cJ cP cW U ∧ va_P (dC, dI) vwCl [((q 14), .inr (2, [.int 0, .int 0, .int 0, .int 0, .int 0, .int 0, .int 0, .int 0, .ref z, .ref (q 15), .ref (q 16)]))] U.heap ∧ va_D (fun _ => True) [((q 14), .inr (2, [.int 0, .int 0, .int 0, .int 0, .int 0, .int 0, .int 0, .int 0, .ref z, .ref (q 15), .ref (q 16)]))])) (va_Qv (fun (u : Unit) => True) (fun u t => va_P (dC, dI) vwCl [] t.heap ∧ va_D (va_A [((q 14), .inr (2, [.int 0, .int 0, .int 0, .int 0, .int 0, .int 0, .int 0, .int 0, .ref z, .ref (q 15), .ref (q 16)]))] sz) []) (va_A [((q 14), .inr (2, [.int 0, .int 0, .int 0, .int 0, .int 0, .int 0, .int 0, .int 0, .ref z, .ref (q 15), .ref (q 16)]))] sz)) 0 0 (va_A [((q 14), .inr (2, [.int 0, .int 0, .int 0, .int 0, .int 0, .int 0, .int 0, .int 0, .ref z, .ref (q 15), .ref (q 16)]))] sz) := by
  refine Met.ofW (cc := cX2_make) (maxL := 3) (ret := none) (by decide) rfl ?_
  intro p e s m args below meth c s₁ B hml hv
  obtain ⟨rfl, hsz, hE, hP, hD0⟩ := hv
  have hx := B.exec
  have hb := B.bytes
  have hr := B.returns
  have hts := atoms_spec (ws := vs_make) B.pre
  have hown : s.vm.findClass RX2 = some m.cls := findClass_of_methodNamed B.named
  have hlocks := B.notSynchronized
  have hK := hE.2
  subst hsz
  have hD := hD0.self (sz := s.heap.size)
  generalize hAe : va_A [((q 14), .inr (2, [.int 0, .int 0, .int 0, .int 0, .int 0, .int 0, .int 0, .int 0, .ref z, .ref (q 15), .ref (q 16)]))] s.heap.size = A at hD ⊢
  have hA : ∀ q : Nat, s.heap.size ≤ q → A q := fun q h => by rw [← hAe]; exact Or.inr h
  have hS : va_S A s.heap s.heap [] := va_S.rf
  have hl := lv_entry ([.ref (q 14), .int a1, .int a2]) (n := 3) (Nat.le_of_ble_eq_true rfl)
  rw [lg_entry_eq]
  generalize (lg_sl ([.ref (q 14), .int a1, .int a2]) ++ List.replicate (3 - (lg_sl ([.ref (q 14), .int a1, .int a2])).length) Slot.unset).toArray = ls at hl ⊢
  have hl : lv_has ls 3 [(0, .ref (q 14)), (1, .int a1), (2, .int a2)] := hl
  refine lv_aload_n hx hb dX2_make_0 rfl (lv_at hl 0 rfl) ?_
  refine lv_iload_n hx hb dX2_make_1 rfl (lv_at hl 1 rfl) ?_
  refine va_put (D := (dC, dI)) (ci := 2) (v := .int a1) (ty := .int) (C := RX2) (T := TX2) (N := 11) hx hb hts in_make_X2 tyX2 tyX2_ok nmX2 hown hK hP hD hS 0 rfl rfl 1 (by decide) (hts (.fieldLink RX2 28 "DepotMarch$Party" "men" "I") (by decide +kernel)) (fun _ h9 => h9) rfl (by decide +kernel) rfl rfl (Nat.le_of_ble_eq_true rfl) dX2_make_2 (fun H1 locs hP hD hS => ?_)
  have hP : va_P (dC, dI) vwCl [((q 14), .inr (2, [.int 0, .int a1, .int 0, .int 0, .int 0, .int 0, .int 0, .int 0, .ref z, .ref (q 15), .ref (q 16)]))] H1 := hP
  have hD : va_D A [((q 14), .inr (2, [.int 0, .int a1, .int 0, .int 0, .int 0, .int 0, .int 0, .int 0, .ref z, .ref (q 15), .ref (q 16)]))] := hD
  refine lv_aload_n hx hb dX2_make_5 rfl (lv_at hl 0 rfl) ?_
  refine lv_iload_n hx hb dX2_make_6 rfl (lv_at hl 2 rfl) ?_
  refine va_put (D := (dC, dI)) (ci := 2) (v := .int a2) (ty := .int) (C := RX2) (T := TX2) (N := 11) hx hb hts in_make_X2 tyX2 tyX2_ok nmX2 hown hK hP hD hS 0 rfl rfl 2 (by decide) (hts (.fieldLink RX2 31 "DepotMarch$Party" "carry" "I") (by decide +kernel)) (fun _ h9 => h9) rfl (by decide +kernel) rfl rfl (Nat.le_of_ble_eq_true rfl) dX2_make_7 (fun H2 locs hP hD hS => ?_)
  have hP : va_P (dC, dI) vwCl [((q 14), .inr (2, [.int 0, .int a1, .int a2, .int 0, .int 0, .int 0, .int 0, .int 0, .ref z, .ref (q 15), .ref (q 16)]))] H2 := hP
  have hD : va_D A [((q 14), .inr (2, [.int 0, .int a1, .int a2, .int 0, .int 0, .int 0, .int 0, .int 0, .ref z, .ref (q 15), .ref (q 16)]))] := hD
  have hP9 := hP.sub (ws' := []) [] rfl
  have hD9 := hD.sub (ws' := []) [] (by decide) rfl
  refine W.widen (k := 0) (n := 0) (by decide) (by decide) ?_
  exact W.vret hx hb hr (fun t ht hW => ⟨⟨(), rfl, trivial, by rw [ht]; exact hP9, hD9⟩, hS.F ht⟩) hS.2.2 dX2_make_10

def vs_makeParty : List Cond := [.code yX6_makeParty cX6_makeParty 3 (some .int), .fieldLink RX6 58 "DepotMarch$World" "parties" "I", .code yX7_within cX7_within 2 (some .boolean), .initialized RX7, .static yX7_within, .fieldLink RX6 38 "DepotMarch$World" "party" "[LDepotMarch$Party;", .code yX2_make cX2_make 3 none, .fieldLink RX2 28 "DepotMarch$Party" "men" "I", .fieldLink RX2 31 "DepotMarch$Party" "carry" "I", .methodLink RX6 81 yX2_make, .instanceMethod yX2_make, .selects RX2 yX2_make yX2_make, .initialized RX2] ++ (wsX60 ++ (wsX20))
theorem in_makeParty_X6 : ∀ w ∈ u_ws RX6 TX6 9, w ∈ vs_makeParty := fun w h => List.mem_append_right _ (List.mem_append_left _ h)
theorem in_makeParty_X2 : ∀ w ∈ u_ws RX2 TX2 11, w ∈ vs_makeParty := fun w h => List.mem_append_right _ (List.mem_append_right _ (h))
set_option maxRecDepth 20000 in
theorem gg_makeParty_within : GoodIn vs_makeParty vs_within := goodIn_r _ [2] (by decide +kernel) (by decide +kernel)
set_option maxRecDepth 20000 in
theorem gg_makeParty_make : GoodIn vs_makeParty vs_make := goodIn_r _ [6, 7, 8, 22, 23, 24, 25, 26, 27, 28, 29, 30, 31, 32] (by decide +kernel) (by decide +kernel)
set_option maxRecDepth 20000 in
theorem g81_makeParty_make : GoodIn vs_makeParty (wsV RX6 81 RX2 yX2_make vs_make) := goodIn_app (goodIn_of _ (by decide +kernel)) gg_makeParty_make
set_option maxHeartbeats 4000000 in
set_option maxRecDepth 100000 in
theorem c_makeParty (l : Launch) (dC : Nat → ClassId) (dI : Nat → Nat → Nat) (cI cZ cB cJ cP cW : ClassId) (q : Nat → Nat) (z : Nat) (a1 : Int32) (a2 : Int32) (sz : Nat) : Met l yX6_makeParty vs_makeParty ({ frames := 3, cells := 0, slots := 0, locals := 180 }) (va_Pc [.ref (q 0), .int a1, .int a2] (fun U => U.heap.size = sz ∧ EV dC dI cI cZ cB cJ cP cW U ∧ va_P (dC, dI) vwCl [((q 0), .inr (6, [.int 0, .int 0, .int 0, .ref (q 1), .ref (q 8), .ref (q 10), .ref (q 11), .ref (q 12), .ref (q 13)])), ((q 13), .inl (cP, 6, .inr (.inr (.inr (.inr (va_up (va_up (va_up (va_up (va_up (va_up (fun _ => none) 0 (some (q 14))) 1 (some (q 17))) 2 (some (q 20))) 3 (some (q 23))) 4 (some (q 26))) 5 (some (q 29)))))))), ((q 14), .inr (2, [.int 0, .int 0, .int 0, .int 0, .int 0, .int 0, .int 0, .int 0, .ref z, .ref (q 15), .ref (q 16)]))] U.heap ∧ va_D (fun _ => True) [((q 0), .inr (6, [.int 0, .int 0, .int 0, .ref (q 1), .ref (q 8), .ref (q 10), .ref (q 11), .ref (q 12), .ref (q 13)])), ((q 13), .inl (cP, 6, .inr (.inr (.inr (.inr (va_up (va_up (va_up (va_up (va_up (va_up (fun _ => none) 0 (some (q 14))) 1 (some (q 17))) 2 (some (q 20))) 3 (some (q 23))) 4 (some (q 26))) 5 (some (q 29)))))))), ((q 14), .inr (2, [.int 0, .int 0, .int 0, .int 0, .int 0, .int 0, .int 0, .int 0, .ref z, .ref (q 15), .ref (q 16)]))])) (va_Qi (fun (r : Int32) (u : Unit) => r = 0) (fun u t => va_P (dC, dI) vwCl [] t.heap ∧ va_D (va_A [((q 0), .inr (6, [.int 0, .int 0, .int 0, .ref (q 1), .ref (q 8), .ref (q 10), .ref (q 11), .ref (q 12), .ref (q 13)])), ((q 13), .inl (cP, 6, .inr (.inr (.inr (.inr (va_up (va_up (va_up (va_up (va_up (va_up (fun _ => none) 0 (some (q 14))) 1 (some (q 17))) 2 (some (q 20))) 3 (some (q 23))) 4 (some (q 26))) 5 (some (q 29)))))))), ((q 14), .inr (2, [.int 0, .int 0, .int 0, .int 0, .int 0, .int 0, .int 0, .int 0, .ref z, .ref (q 15), .ref (q 16)]))] sz) []) (va_A [((q 0), .inr (6, [.int 0, .int 0, .int 0, .ref (q 1), .ref (q 8), .ref (q 10), .ref (q 11), .ref (q 12), .ref (q 13)])), ((q 13), .inl (cP, 6, .inr (.inr (.inr (.inr (va_up (va_up (va_up (va_up (va_up (va_up (fun _ => none) 0 (some (q 14))) 1 (some (q 17))) 2 (some (q 20))) 3 (some (q 23))) 4 (some (q 26))) 5 (some (q 29)))))))), ((q 14), .inr (2, [.int 0, .int 0, .int 0, .int 0, .int 0, .int 0, .int 0, .int 0, .ref z, .ref (q 15), .ref (q 16)]))] sz)) 0 0 (va_A [((q 0), .inr (6, [.int 0, .int 0, .int 0, .ref (q 1), .ref (q 8), .ref (q 10), .ref (q 11), .ref (q 12), .ref (q 13)])), ((q 13), .inl (cP, 6, .inr (.inr (.inr (.inr (va_up (va_up (va_up (va_up (va_up (va_up (fun _ => none) 0 (some (q 14))) 1 (some (q 17))) 2 (some (q 20))) 3 (some (q 23))) 4 (some (q 26))) 5 (some (q 29)))))))), ((q 14), .inr (2, [.int 0, .int 0, .int 0, .int 0, .int 0, .int 0, .int 0, .int 0, .ref z, .ref (q 15), .ref (q 16)]))] sz) := by
  refine Met.ofW (cc := cX6_makeParty) (maxL := 3) (ret := (some .int)) (by decide) rfl ?_
  intro p e s m args below meth c s₁ B hml hv
  obtain ⟨rfl, hsz, hE, hP, hD0⟩ := hv
  have hx := B.exec
  have hb := B.bytes
  have hr := B.returns
  have hts := atoms_spec (ws := vs_makeParty) B.pre
  have hown : s.vm.findClass RX6 = some m.cls := findClass_of_methodNamed B.named
  have hlocks := B.notSynchronized
  have hK := hE.2
  subst hsz
  have hD := hD0.self (sz := s.heap.size)
  generalize hAe : va_A [((q 0), .inr (6, [.int 0, .int 0, .int 0, .ref (q 1), .ref (q 8), .ref (q 10), .ref (q 11), .ref (q 12), .ref (q 13)])), ((q 13), .inl (cP, 6, .inr (.inr (.inr (.inr (va_up (va_up (va_up (va_up (va_up (va_up (fun _ => none) 0 (some (q 14))) 1 (some (q 17))) 2 (some (q 20))) 3 (some (q 23))) 4 (some (q 26))) 5 (some (q 29)))))))), ((q 14), .inr (2, [.int 0, .int 0, .int 0, .int 0, .int 0, .int 0, .int 0, .int 0, .ref z, .ref (q 15), .ref (q 16)]))] s.heap.size = A at hD ⊢
  have hA : ∀ q : Nat, s.heap.size ≤ q → A q := fun q h => by rw [← hAe]; exact Or.inr h
  have hS : va_S A s.heap s.heap [] := va_S.rf
  have hl := lv_entry ([.ref (q 0), .int a1, .int a2]) (n := 3) (Nat.le_of_ble_eq_true rfl)
  rw [lg_entry_eq]
  generalize (lg_sl ([.ref (q 0), .int a1, .int a2]) ++ List.replicate (3 - (lg_sl ([.ref (q 0), .int a1, .int a2])).length) Slot.unset).toArray = ls at hl ⊢
  have hl : lv_has ls 3 [(0, .ref (q 0)), (1, .int a1), (2, .int a2)] := hl
  refine lv_aload_n hx hb dX6_makeParty_0 rfl (lv_at hl 0 rfl) ?_
  refine va_get (D := (dC, dI)) (ci := 6) (v := .int 0) (C := RX6) (T := TX6) (N := 9) hx hb hts in_makeParty_X6 hown hK hP 0 rfl rfl 2 (by decide) (hts (.fieldLink RX6 58 "DepotMarch$World" "parties" "I") (by decide +kernel)) (fun _ h9 => h9) rfl dX6_makeParty_1 ?_
  refine lv_bipush (v := 6) hx hb dX6_makeParty_4 (by decide) ?_
  refine vp_callSi (va_Run.run (va_runSN (As := [.int 0, .int 6]) (rest := []) ⟨hx, hb, hml, hown, hts⟩ (c_within l dC dI cI cZ cB cJ cP cW 0 6) ⟨(va_cnB 2 hts gg_makeParty_within rfl rfl rfl hE.1.n_World_77 (hts (.initialized RX7) (by decide +kernel)) (by decide +kernel) ⟨Nat.le_of_ble_eq_true rfl, Nat.le_of_ble_eq_true rfl⟩), (hts (.static yX7_within) (by decide +kernel)), trivial⟩ ⟨fbR, fun U hU hW => ⟨rfl, hE.warm hW, by rw [hU]; exact (fun k q h => by simp at h)⟩⟩ rfl rfl hl.1 rfl (lv_room (Nat.le_of_ble_eq_true rfl)) dX6_makeParty_6 ⟨Nat.le_of_ble_eq_true rfl, Nat.le_of_ble_eq_true rfl⟩)) (fun r1 hr1 => ?_)
  obtain rfl : r1 = 1 := hr1.trans (by decide)
  refine lv_if_ne (tgt := 14) hx hb dX6_makeParty_9 (by decide) (fun _ => ?_) (fun c9 => absurd c9 (by decide))
  refine lv_aload_n hx hb dX6_makeParty_14 rfl (lv_at hl 0 rfl) ?_
  refine va_get (D := (dC, dI)) (ci := 6) (v := .ref (q 13)) (C := RX6) (T := TX6) (N := 9) hx hb hts in_makeParty_X6 hown hK hP 0 rfl rfl 8 (by decide) (hts (.fieldLink RX6 38 "DepotMarch$World" "party" "[LDepotMarch$Party;") (by decide +kernel)) (fun _ h9 => h9) rfl dX6_makeParty_15 ?_
  refine lv_aload_n hx hb dX6_makeParty_18 rfl (lv_at hl 0 rfl) ?_
  refine va_get (D := (dC, dI)) (ci := 6) (v := .int 0) (C := RX6) (T := TX6) (N := 9) hx hb hts in_makeParty_X6 hown hK hP 0 rfl rfl 2 (by decide) (hts (.fieldLink RX6 58 "DepotMarch$World" "parties" "I") (by decide +kernel)) (fun _ h9 => h9) rfl dX6_makeParty_19 ?_
  refine va_aldq hx hb hK hP 1 4 rfl rfl (vpd rfl) dX6_makeParty_22 ?_
  refine W.eq (g2 := F0 m 23 ls [.ref (q 14)]) rfl ?_
  refine lv_iload_n hx hb dX6_makeParty_23 rfl (lv_at hl 1 rfl) ?_
  refine lv_iload_n hx hb dX6_makeParty_24 rfl (lv_at hl 2 rfl) ?_
  have hPc := hP.sub (ws' := [((q 14), .inr (2, [.int 0, .int 0, .int 0, .int 0, .int 0, .int 0, .int 0, .int 0, .ref z, .ref (q 15), .ref (q 16)]))]) [2] rfl
  have hDc := hD.sub (ws' := [((q 14), .inr (2, [.int 0, .int 0, .int 0, .int 0, .int 0, .int 0, .int 0, .int 0, .ref z, .ref (q 15), .ref (q 16)]))]) [2] (by decide) rfl
  have hFc := va_free (wc := [((q 14), .inr (2, [.int 0, .int 0, .int 0, .int 0, .int 0, .int 0, .int 0, .int 0, .ref z, .ref (q 15), .ref (q 16)]))]) hD hS hA [2] rfl
  refine va_callv (va_runV (As := [.int a1, .int a2]) (rest := []) ⟨hx, hb, hml, hown, hts⟩ (c_make l dC dI cI cZ cB cJ cP cW q z a1 a2 s.heap.size) (cwV 2 hts g81_makeParty_make rfl rfl rfl (by decide +kernel) ⟨Nat.le_of_ble_eq_true rfl, Nat.le_of_ble_eq_true rfl⟩) ⟨fbM, va_recv hK hPc (ci := 2) (q0 := 0) rfl rfl, fun U hU hW => ⟨rfl, by rw [hU], hE.warm hW, by rw [hU]; exact hPc, hDc.weaken (fun _ _ _ _ => trivial)⟩⟩ rfl rfl hl.1 rfl (lv_room (Nat.le_of_ble_eq_true rfl)) dX6_makeParty_25 ⟨Nat.le_of_ble_eq_true rfl, Nat.le_of_ble_eq_true rfl⟩) hS (fun q _ h => hFc q h) hFc (fun u4 t H5 locs ht hvm hr3 hB hz1 hk1 hS => ?_)
  obtain ⟨hP1, hD1⟩ := hB
  rw [ht] at hP1
  obtain ⟨hP, hD⟩ := va_join (wr := [((q 0), .inr (6, [.int 0, .int 0, .int 0, .ref (q 1), .ref (q 8), .ref (q 10), .ref (q 11), .ref (q 12), .ref (q 13)])), ((q 13), .inl (cP, 6, .inr (.inr (.inr (.inr (va_up (va_up (va_up (va_up (va_up (va_up (fun _ => none) 0 (some (q 14))) 1 (some (q 17))) 2 (some (q 20))) 3 (some (q 23))) 4 (some (q 26))) 5 (some (q 29))))))))]) (w1 := []) hP hD [2] [0, 1] rfl rfl (by decide) (by decide) hk1 hFc hP1 hD1
  have hP : va_P (dC, dI) vwCl [((q 0), .inr (6, [.int 0, .int 0, .int 0, .ref (q 1), .ref (q 8), .ref (q 10), .ref (q 11), .ref (q 12), .ref (q 13)])), ((q 13), .inl (cP, 6, .inr (.inr (.inr (.inr (va_up (va_up (va_up (va_up (va_up (va_up (fun _ => none) 0 (some (q 14))) 1 (some (q 17))) 2 (some (q 20))) 3 (some (q 23))) 4 (some (q 26))) 5 (some (q 29))))))))] H5 := hP
  have hD : va_D A [((q 0), .inr (6, [.int 0, .int 0, .int 0, .ref (q 1), .ref (q 8), .ref (q 10), .ref (q 11), .ref (q 12), .ref (q 13)])), ((q 13), .inl (cP, 6, .inr (.inr (.inr (.inr (va_up (va_up (va_up (va_up (va_up (va_up (fun _ => none) 0 (some (q 14))) 1 (some (q 17))) 2 (some (q 20))) 3 (some (q 23))) 4 (some (q 26))) 5 (some (q 29))))))))] := hD
  refine lv_aload_n hx hb dX6_makeParty_28 rfl (lv_at hl 0 rfl) ?_
  refine lv_dup hx hb dX6_makeParty_29 rfl ?_
  refine va_get (D := (dC, dI)) (ci := 6) (v := .int 0) (C := RX6) (T := TX6) (N := 9) hx hb hts in_makeParty_X6 hown hK hP 0 rfl rfl 2 (by decide) (hts (.fieldLink RX6 58 "DepotMarch$World" "parties" "I") (by decide +kernel)) (fun _ h9 => h9) rfl dX6_makeParty_30 ?_
  refine lv_iconst (v := 1) hx hb dX6_makeParty_33 (by decide) ?_
  refine lv_iadd hx hb dX6_makeParty_34 ?_
  refine lv_topi (fun x6 ex6 => ?_)
  obtain rfl : x6 = 1 := ex6.trans (by decide)
  refine va_put (D := (dC, dI)) (ci := 6) (v := .int 1) (ty := .int) (C := RX6) (T := TX6) (N := 9) hx hb hts in_makeParty_X6 tyX6 tyX6_ok nmX6 hown hK hP hD hS 0 rfl rfl 2 (by decide) (hts (.fieldLink RX6 58 "DepotMarch$World" "parties" "I") (by decide +kernel)) (fun _ h9 => h9) rfl (by decide +kernel) rfl rfl (Nat.le_of_ble_eq_true rfl) dX6_makeParty_35 (fun H7 locs hP hD hS => ?_)
  have hP : va_P (dC, dI) vwCl [((q 0), .inr (6, [.int 0, .int 0, .int 1, .ref (q 1), .ref (q 8), .ref (q 10), .ref (q 11), .ref (q 12), .ref (q 13)])), ((q 13), .inl (cP, 6, .inr (.inr (.inr (.inr (va_up (va_up (va_up (va_up (va_up (va_up (fun _ => none) 0 (some (q 14))) 1 (some (q 17))) 2 (some (q 20))) 3 (some (q 23))) 4 (some (q 26))) 5 (some (q 29))))))))] H7 := hP
  have hD : va_D A [((q 0), .inr (6, [.int 0, .int 0, .int 1, .ref (q 1), .ref (q 8), .ref (q 10), .ref (q 11), .ref (q 12), .ref (q 13)])), ((q 13), .inl (cP, 6, .inr (.inr (.inr (.inr (va_up (va_up (va_up (va_up (va_up (va_up (fun _ => none) 0 (some (q 14))) 1 (some (q 17))) 2 (some (q 20))) 3 (some (q 23))) 4 (some (q 26))) 5 (some (q 29))))))))] := hD
  refine lv_aload_n hx hb dX6_makeParty_38 rfl (lv_at hl 0 rfl) ?_
  refine va_get (D := (dC, dI)) (ci := 6) (v := .int 1) (C := RX6) (T := TX6) (N := 9) hx hb hts in_makeParty_X6 hown hK hP 0 rfl rfl 2 (by decide) (hts (.fieldLink RX6 58 "DepotMarch$World" "parties" "I") (by decide +kernel)) (fun _ h9 => h9) rfl dX6_makeParty_39 ?_
  refine lv_iconst (v := 1) hx hb dX6_makeParty_42 (by decide) ?_
  refine lv_isub hx hb dX6_makeParty_43 ?_
  refine lv_topi (fun x8 ex8 => ?_)
  obtain rfl : x8 = 0 := ex8.trans (by decide)
  have hP9 := hP.sub (ws' := []) [] rfl
  have hD9 := hD.sub (ws' := []) [] (by decide) rfl
  refine W.widen (k := 0) (n := 0) (by decide) (by decide) ?_
  exact W.iret (v := 0) hx hb hr (fun t ht hW => ⟨⟨0, (), rfl, rfl, by rw [ht]; exact hP9, hD9⟩, hS.F ht⟩) hS.2.2 dX6_makeParty_44

def vs_x_party : List Cond := [.code yX7_party cX7_party 3 (some .int), .fieldLink RX7 30 "DepotMarch" "world" "LDepotMarch$World;", .code yX6_makeParty cX6_makeParty 3 (some .int), .fieldLink RX6 58 "DepotMarch$World" "parties" "I", .code yX7_within cX7_within 2 (some .boolean), .initialized RX7, .static yX7_within, .fieldLink RX6 38 "DepotMarch$World" "party" "[LDepotMarch$Party;", .code yX2_make cX2_make 3 none, .fieldLink RX2 28 "DepotMarch$Party" "men" "I", .fieldLink RX2 31 "DepotMarch$Party" "carry" "I", .methodLink RX6 81 yX2_make, .instanceMethod yX2_make, .selects RX2 yX2_make yX2_make, .initialized RX2, .methodLink RX7 46 yX6_makeParty, .instanceMethod yX6_makeParty, .selects RX6 yX6_makeParty yX6_makeParty, .initialized RX6] ++ (wsX70 ++ (wsX60 ++ (wsX20)))
theorem in_x_party_X7 : ∀ w ∈ u_ws RX7 TX7 7, w ∈ vs_x_party := fun w h => List.mem_append_right _ (List.mem_append_left _ h)
theorem in_x_party_X6 : ∀ w ∈ u_ws RX6 TX6 9, w ∈ vs_x_party := fun w h => List.mem_append_right _ (List.mem_append_right _ (List.mem_append_left _ h))
theorem in_x_party_X2 : ∀ w ∈ u_ws RX2 TX2 11, w ∈ vs_x_party := fun w h => List.mem_append_right _ (List.mem_append_right _ (List.mem_append_right _ (h)))
set_option maxRecDepth 20000 in
theorem gg_x_party_makeParty : GoodIn vs_x_party vs_makeParty := goodIn_r _ [2, 3, 4, 5, 6, 7, 8, 9, 10, 11, 12, 13, 14, 26, 27, 28, 29, 30, 31, 32, 33, 34, 35, 36, 37, 38, 39, 40, 41, 42, 43, 44, 45] (by decide +kernel) (by decide +kernel)
set_option maxRecDepth 20000 in
theorem g46_x_party_makeParty : GoodIn vs_x_party (wsV RX7 46 RX6 yX6_makeParty vs_makeParty) := goodIn_app (goodIn_of _ (by decide +kernel)) gg_x_party_makeParty
set_option maxHeartbeats 4000000 in
set_option maxRecDepth 100000 in
theorem c_x_party (l : Launch) (dC : Nat → ClassId) (dI : Nat → Nat → Nat) (cI cZ cB cJ cP cW : ClassId) (q : Nat → Nat) (z : Nat) (a1 : Int32) (a2 : Int32) (sz : Nat) : Met l yX7_party vs_x_party ({ frames := 6, cells := 0, slots := 0, locals := 360 }) (va_Pc [.ref (q 32), .int a1, .int a2] (fun U => U.heap.size = sz ∧ EV dC dI cI cZ cB cJ cP cW U ∧ va_P (dC, dI) vwCl [((q 32), .inr (7, [.ref (q 33), .int 0, .ref (q 34), .ref (q 40), .ref (q 0), .ref (q 42), .null])), ((q 0), .inr (6, [.int 0, .int 0, .int 0, .ref (q 1), .ref (q 8), .ref (q 10), .ref (q 11), .ref (q 12), .ref (q 13)])), ((q 13), .inl (cP, 6, .inr (.inr (.inr (.inr (va_up (va_up (va_up (va_up (va_up (va_up (fun _ => none) 0 (some (q 14))) 1 (some (q 17))) 2 (some (q 20))) 3 (some (q 23))) 4 (some (q 26))) 5 (some (q 29)))))))), ((q 14), .inr (2, [.int 0, .int 0, .int 0, .int 0, .int 0, .int 0, .int 0, .int 0, .ref z, .ref (q 15), .ref (q 16)]))] U.heap ∧ va_D (fun _ => True) [((q 32), .inr (7, [.ref (q 33), .int 0, .ref (q 34), .ref (q 40), .ref (q 0), .ref (q 42), .null])), ((q 0), .inr (6, [.int 0, .int 0, .int 0, .ref (q 1), .ref (q 8), .ref (q 10), .ref (q 11), .ref (q 12), .ref (q 13)])), ((q 13), .inl (cP, 6, .inr (.inr (.inr (.inr (va_up (va_up (va_up (va_up (va_up (va_up (fun _ => none) 0 (some (q 14))) 1 (some (q 17))) 2 (some (q 20))) 3 (some (q 23))) 4 (some (q 26))) 5 (some (q 29)))))))), ((q 14), .inr (2, [.int 0, .int 0, .int 0, .int 0, .int 0, .int 0, .int 0, .int 0, .ref z, .ref (q 15), .ref (q 16)]))])) (va_Qi (fun (r : Int32) (u : Unit) => r = if a1 < 1 then -1 else if 6 < a1 then -1 else if a2 < 1 then -1 else if 200 < a2 then -1 else 0) (fun u t => va_P (dC, dI) vwCl [] t.heap ∧ va_D (va_A [((q 32), .inr (7, [.ref (q 33), .int 0, .ref (q 34), .ref (q 40), .ref (q 0), .ref (q 42), .null])), ((q 0), .inr (6, [.int 0, .int 0, .int 0, .ref (q 1), .ref (q 8), .ref (q 10), .ref (q 11), .ref (q 12), .ref (q 13)])), ((q 13), .inl (cP, 6, .inr (.inr (.inr (.inr (va_up (va_up (va_up (va_up (va_up (va_up (fun _ => none) 0 (some (q 14))) 1 (some (q 17))) 2 (some (q 20))) 3 (some (q 23))) 4 (some (q 26))) 5 (some (q 29)))))))), ((q 14), .inr (2, [.int 0, .int 0, .int 0, .int 0, .int 0, .int 0, .int 0, .int 0, .ref z, .ref (q 15), .ref (q 16)]))] sz) []) (va_A [((q 32), .inr (7, [.ref (q 33), .int 0, .ref (q 34), .ref (q 40), .ref (q 0), .ref (q 42), .null])), ((q 0), .inr (6, [.int 0, .int 0, .int 0, .ref (q 1), .ref (q 8), .ref (q 10), .ref (q 11), .ref (q 12), .ref (q 13)])), ((q 13), .inl (cP, 6, .inr (.inr (.inr (.inr (va_up (va_up (va_up (va_up (va_up (va_up (fun _ => none) 0 (some (q 14))) 1 (some (q 17))) 2 (some (q 20))) 3 (some (q 23))) 4 (some (q 26))) 5 (some (q 29)))))))), ((q 14), .inr (2, [.int 0, .int 0, .int 0, .int 0, .int 0, .int 0, .int 0, .int 0, .ref z, .ref (q 15), .ref (q 16)]))] sz)) 0 0 (va_A [((q 32), .inr (7, [.ref (q 33), .int 0, .ref (q 34), .ref (q 40), .ref (q 0), .ref (q 42), .null])), ((q 0), .inr (6, [.int 0, .int 0, .int 0, .ref (q 1), .ref (q 8), .ref (q 10), .ref (q 11), .ref (q 12), .ref (q 13)])), ((q 13), .inl (cP, 6, .inr (.inr (.inr (.inr (va_up (va_up (va_up (va_up (va_up (va_up (fun _ => none) 0 (some (q 14))) 1 (some (q 17))) 2 (some (q 20))) 3 (some (q 23))) 4 (some (q 26))) 5 (some (q 29)))))))), ((q 14), .inr (2, [.int 0, .int 0, .int 0, .int 0, .int 0, .int 0, .int 0, .int 0, .ref z, .ref (q 15), .ref (q 16)]))] sz) := by
  refine Met.ofW (cc := cX7_party) (maxL := 3) (ret := (some .int)) (by decide) rfl ?_
  intro p e s m args below meth c s₁ B hml hv
  obtain ⟨rfl, hsz, hE, hP, hD0⟩ := hv
  have hx := B.exec
  have hb := B.bytes
  have hr := B.returns
  have hts := atoms_spec (ws := vs_x_party) B.pre
  have hown : s.vm.findClass RX7 = some m.cls := findClass_of_methodNamed B.named
  have hlocks := B.notSynchronized
  have hK := hE.2
  subst hsz
  have hD := hD0.self (sz := s.heap.size)
  generalize hAe : va_A [((q 32), .inr (7, [.ref (q 33), .int 0, .ref (q 34), .ref (q 40), .ref (q 0), .ref (q 42), .null])), ((q 0), .inr (6, [.int 0, .int 0, .int 0, .ref (q 1), .ref (q 8), .ref (q 10), .ref (q 11), .ref (q 12), .ref (q 13)])), ((q 13), .inl (cP, 6, .inr (.inr (.inr (.inr (va_up (va_up (va_up (va_up (va_up (va_up (fun _ => none) 0 (some (q 14))) 1 (some (q 17))) 2 (some (q 20))) 3 (some (q 23))) 4 (some (q 26))) 5 (some (q 29)))))))), ((q 14), .inr (2, [.int 0, .int 0, .int 0, .int 0, .int 0, .int 0, .int 0, .int 0, .ref z, .ref (q 15), .ref (q 16)]))] s.heap.size = A at hD ⊢
  have hA : ∀ q : Nat, s.heap.size ≤ q → A q := fun q h => by rw [← hAe]; exact Or.inr h
  have hS : va_S A s.heap s.heap [] := va_S.rf
  have hl := lv_entry ([.ref (q 32), .int a1, .int a2]) (n := 3) (Nat.le_of_ble_eq_true rfl)
  rw [lg_entry_eq]
  generalize (lg_sl ([.ref (q 32), .int a1, .int a2]) ++ List.replicate (3 - (lg_sl ([.ref (q 32), .int a1, .int a2])).length) Slot.unset).toArray = ls at hl ⊢
  have hl : lv_has ls 3 [(0, .ref (q 32)), (1, .int a1), (2, .int a2)] := hl
  refine lv_iload_n hx hb dX7_party_0 rfl (lv_at hl 1 rfl) ?_
  refine lv_iconst (v := 1) hx hb dX7_party_1 (by decide) ?_
  refine lv_icmp_lt (tgt := 23) hx hb dX7_party_2 (by decide) (fun c1 => ?_) (fun c1 => ?_)
  · refine lv_iconst (v := (-1)) hx hb dX7_party_23 (by decide) ?_
    have hP9 := hP.sub (ws' := []) [] rfl
    have hD9 := hD.sub (ws' := []) [] (by decide) rfl
    refine W.widen (k := 0) (n := 0) (by decide) (by decide) ?_
    exact W.iret (v := (-1)) hx hb hr (fun t ht hW => ⟨⟨(-1), (), rfl, (by simp [c1]), by rw [ht]; exact hP9, hD9⟩, hS.F ht⟩) hS.2.2 dX7_party_24
  · refine lv_iload_n hx hb dX7_party_5 rfl (lv_at hl 1 rfl) ?_
    refine lv_bipush (v := 6) hx hb dX7_party_6 (by decide) ?_
    refine lv_icmp_gt (tgt := 23) hx hb dX7_party_8 (by decide) (fun c2 => ?_) (fun c2 => ?_)
    · refine lv_iconst (v := (-1)) hx hb dX7_party_23 (by decide) ?_
      have hP9 := hP.sub (ws' := []) [] rfl
      have hD9 := hD.sub (ws' := []) [] (by decide) rfl
      refine W.widen (k := 0) (n := 0) (by decide) (by decide) ?_
      exact W.iret (v := (-1)) hx hb hr (fun t ht hW => ⟨⟨(-1), (), rfl, (by simp [c1, c2]), by rw [ht]; exact hP9, hD9⟩, hS.F ht⟩) hS.2.2 dX7_party_24
    · refine lv_iload_n hx hb dX7_party_11 rfl (lv_at hl 2 rfl) ?_
      refine lv_iconst (v := 1) hx hb dX7_party_12 (by decide) ?_
      refine lv_icmp_lt (tgt := 23) hx hb dX7_party_13 (by decide) (fun c3 => ?_) (fun c3 => ?_)
      · refine lv_iconst (v := (-1)) hx hb dX7_party_23 (by decide) ?_
        have hP9 := hP.sub (ws' := []) [] rfl
        have hD9 := hD.sub (ws' := []) [] (by decide) rfl
        refine W.widen (k := 0) (n := 0) (by decide) (by decide) ?_
        exact W.iret (v := (-1)) hx hb hr (fun t ht hW => ⟨⟨(-1), (), rfl, (by simp [c1, c2, c3]), by rw [ht]; exact hP9, hD9⟩, hS.F ht⟩) hS.2.2 dX7_party_24
      · refine lv_iload_n hx hb dX7_party_16 rfl (lv_at hl 2 rfl) ?_
        refine lv_sipush (v := 200) hx hb dX7_party_17 (by decide) ?_
        refine lv_icmp_le (tgt := 25) hx hb dX7_party_20 (by decide) (fun c4 => ?_) (fun c4 => ?_)
        · refine lv_aload_n hx hb dX7_party_25 rfl (lv_at hl 0 rfl) ?_
          refine va_get (D := (dC, dI)) (ci := 7) (v := .ref (q 0)) (C := RX7) (T := TX7) (N := 7) hx hb hts in_x_party_X7 hown hK hP 0 rfl rfl 4 (by decide) (hts (.fieldLink RX7 30 "DepotMarch" "world" "LDepotMarch$World;") (by decide +kernel)) (fun _ h9 => h9) rfl dX7_party_26 ?_
          refine lv_iload_n hx hb dX7_party_29 rfl (lv_at hl 1 rfl) ?_
          refine lv_iload_n hx hb dX7_party_30 rfl (lv_at hl 2 rfl) ?_
          have hPc := hP.sub (ws' := [((q 0), .inr (6, [.int 0, .int 0, .int 0, .ref (q 1), .ref (q 8), .ref (q 10), .ref (q 11), .ref (q 12), .ref (q 13)])), ((q 13), .inl (cP, 6, .inr (.inr (.inr (.inr (va_up (va_up (va_up (va_up (va_up (va_up (fun _ => none) 0 (some (q 14))) 1 (some (q 17))) 2 (some (q 20))) 3 (some (q 23))) 4 (some (q 26))) 5 (some (q 29)))))))), ((q 14), .inr (2, [.int 0, .int 0, .int 0, .int 0, .int 0, .int 0, .int 0, .int 0, .ref z, .ref (q 15), .ref (q 16)]))]) [1, 2, 3] rfl
          have hDc := hD.sub (ws' := [((q 0), .inr (6, [.int 0, .int 0, .int 0, .ref (q 1), .ref (q 8), .ref (q 10), .ref (q 11), .ref (q 12), .ref (q 13)])), ((q 13), .inl (cP, 6, .inr (.inr (.inr (.inr (va_up (va_up (va_up (va_up (va_up (va_up (fun _ => none) 0 (some (q 14))) 1 (some (q 17))) 2 (some (q 20))) 3 (some (q 23))) 4 (some (q 26))) 5 (some (q 29)))))))), ((q 14), .inr (2, [.int 0, .int 0, .int 0, .int 0, .int 0, .int 0, .int 0, .int 0, .ref z, .ref (q 15), .ref (q 16)]))]) [1, 2, 3] (by decide) rfl
          have hFc := va_free (wc := [((q 0), .inr (6, [.int 0, .int 0, .int 0, .ref (q 1), .ref (q 8), .ref (q 10), .ref (q 11), .ref (q 12), .ref (q 13)])), ((q 13), .inl (cP, 6, .inr (.inr (.inr (.inr (va_up (va_up (va_up (va_up (va_up (va_up (fun _ => none) 0 (some (q 14))) 1 (some (q 17))) 2 (some (q 20))) 3 (some (q 23))) 4 (some (q 26))) 5 (some (q 29)))))))), ((q 14), .inr (2, [.int 0, .int 0, .int 0, .int 0, .int 0, .int 0, .int 0, .int 0, .ref z, .ref (q 15), .ref (q 16)]))]) hD hS hA [1, 2, 3] rfl
          refine va_calli (va_runV (As := [.int a1, .int a2]) (rest := []) ⟨hx, hb, hml, hown, hts⟩ (c_makeParty l dC dI cI cZ cB cJ cP cW q z a1 a2 s.heap.size) (cwV 2 hts g46_x_party_makeParty rfl rfl rfl (by decide +kernel) ⟨Nat.le_of_ble_eq_true rfl, Nat.le_of_ble_eq_true rfl⟩) ⟨fbM, va_recv hK hPc (ci := 6) (q0 := 0) rfl rfl, fun U hU hW => ⟨rfl, by rw [hU], hE.warm hW, by rw [hU]; exact hPc, hDc.weaken (fun _ _ _ _ => trivial)⟩⟩ rfl rfl hl.1 rfl (lv_room (Nat.le_of_ble_eq_true rfl)) dX7_party_31 ⟨Nat.le_of_ble_eq_true rfl, Nat.le_of_ble_eq_true rfl⟩) hS (fun q _ h => hFc q h) hFc (fun r5 u6 t H7 locs ht hvm hr5 hB hz1 hk1 hS => ?_)
          obtain ⟨hP1, hD1⟩ := hB
          rw [ht] at hP1
          obtain ⟨hP, hD⟩ := va_join (wr := [((q 32), .inr (7, [.ref (q 33), .int 0, .ref (q 34), .ref (q 40), .ref (q 0), .ref (q 42), .null]))]) (w1 := []) hP hD [1, 2, 3] [0] rfl rfl (by decide) (by decide) hk1 hFc hP1 hD1
          have hP : va_P (dC, dI) vwCl [((q 32), .inr (7, [.ref (q 33), .int 0, .ref (q 34), .ref (q 40), .ref (q 0), .ref (q 42), .null]))] H7 := hP
          have hD : va_D A [((q 32), .inr (7, [.ref (q 33), .int 0, .ref (q 34), .ref (q 40), .ref (q 0), .ref (q 42), .null]))] := hD
          obtain rfl : r5 = 0 := hr5
          have hP9 := hP.sub (ws' := []) [] rfl
          have hD9 := hD.sub (ws' := []) [] (by decide) rfl
          refine W.widen (k := 0) (n := 0) (by decide) (by decide) ?_
          exact W.iret (v := 0) hx hb hr (fun t ht hW => ⟨⟨0, (), rfl, (by simp [c1, c2, c3, (Int32.not_lt.mpr c4)]), by rw [ht]; exact hP9, hD9⟩, hS.F ht⟩) hS.2.2 dX7_party_34
        · refine lv_iconst (v := (-1)) hx hb dX7_party_23 (by decide) ?_
          have hP9 := hP.sub (ws' := []) [] rfl
          have hD9 := hD.sub (ws' := []) [] (by decide) rfl
          refine W.widen (k := 0) (n := 0) (by decide) (by decide) ?_
          exact W.iret (v := (-1)) hx hb hr (fun t ht hW => ⟨⟨(-1), (), rfl, (by simp [c1, c2, c3, (Int32.not_le.mp c4)]), by rw [ht]; exact hP9, hD9⟩, hS.F ht⟩) hS.2.2 dX7_party_24

def vs_fresh : List Cond := [.code yX4_freshRun cX4_freshRun 4 (some .int), .fieldLink RX4 30 "DepotMarch$Rows" "free" "I", .fieldLink RX4 46 "DepotMarch$Rows" "used" "I", .code yX7_within cX7_within 2 (some .boolean), .initialized RX7, .static yX7_within, .fieldLink RX4 21 "DepotMarch$Rows" "lotOf" "[I", .fieldLink RX4 24 "DepotMarch$Rows" "rations" "[I", .fieldLink RX4 27 "DepotMarch$Rows" "next" "[I"] ++ (wsX40)
theorem in_fresh_X4 : ∀ w ∈ u_ws RX4 TX4 8, w ∈ vs_fresh := fun w h => List.mem_append_right _ (h)
set_option maxRecDepth 20000 in
theorem gg_fresh_within : GoodIn vs_fresh vs_within := goodIn_r _ [3] (by decide +kernel) (by decide +kernel)
set_option maxHeartbeats 4000000 in
set_option maxRecDepth 100000 in
theorem c_fresh (l : Launch) (dC : Nat → ClassId) (dI : Nat → Nat → Nat) (cI cZ cB cJ cP cW : ClassId) (q : Nat → Nat) (v : Int32) (sz : Nat) : Met l yX4_freshRun vs_fresh ({ frames := 2, cells := 0, slots := 0, locals := 120 }) (va_Pc [.ref (q 1), .int 0, .int v] (fun U => U.heap.size = sz ∧ EV dC dI cI cZ cB cJ cP cW U ∧ va_P (dC, dI) vwCl [((q 1), .inr (4, [.ref (q 2), .ref (q 3), .ref (q 4), .ref (q 5), .ref (q 6), .ref (q 7), .int 0, .int (-1)])), ((q 5), .inl (cI, 64, .inl (fun _ => 0))), ((q 6), .inl (cI, 64, .inl (fun _ => 0))), ((q 7), .inl (cI, 64, .inl (fun _ => 0)))] U.heap ∧ va_D (fun _ => True) [((q 1), .inr (4, [.ref (q 2), .ref (q 3), .ref (q 4), .ref (q 5), .ref (q 6), .ref (q 7), .int 0, .int (-1)])), ((q 5), .inl (cI, 64, .inl (fun _ => 0))), ((q 6), .inl (cI, 64, .inl (fun _ => 0))), ((q 7), .inl (cI, 64, .inl (fun _ => 0)))])) (va_Qi (fun (r : Int32) (u : Unit) => r = 0) (fun u t => va_P (dC, dI) vwCl [((q 1), .inr (4, [.ref (q 2), .ref (q 3), .ref (q 4), .ref (q 5), .ref (q 6), .ref (q 7), .int 1, .int (-1)]))] t.heap ∧ va_D (va_A [((q 1), .inr (4, [.ref (q 2), .ref (q 3), .ref (q 4), .ref (q 5), .ref (q 6), .ref (q 7), .int 0, .int (-1)])), ((q 5), .inl (cI, 64, .inl (fun _ => 0))), ((q 6), .inl (cI, 64, .inl (fun _ => 0))), ((q 7), .inl (cI, 64, .inl (fun _ => 0)))] sz) [((q 1), .inr (4, [.ref (q 2), .ref (q 3), .ref (q 4), .ref (q 5), .ref (q 6), .ref (q 7), .int 1, .int (-1)]))]) (va_A [((q 1), .inr (4, [.ref (q 2), .ref (q 3), .ref (q 4), .ref (q 5), .ref (q 6), .ref (q 7), .int 0, .int (-1)])), ((q 5), .inl (cI, 64, .inl (fun _ => 0))), ((q 6), .inl (cI, 64, .inl (fun _ => 0))), ((q 7), .inl (cI, 64, .inl (fun _ => 0)))] sz)) 0 0 (va_A [((q 1), .inr (4, [.ref (q 2), .ref (q 3), .ref (q 4), .ref (q 5), .ref (q 6), .ref (q 7), .int 0, .int (-1)])), ((q 5), .inl (cI, 64, .inl (fun _ => 0))), ((q 6), .inl (cI, 64, .inl (fun _ => 0))), ((q 7), .inl (cI, 64, .inl (fun _ => 0)))] sz) := by
  refine Met.ofW (cc := cX4_freshRun) (maxL := 4) (ret := (some .int)) (by decide) rfl ?_
  intro p e s m args below meth c s₁ B hml hv
  obtain ⟨rfl, hsz, hE, hP, hD0⟩ := hv
  have hx := B.exec
  have hb := B.bytes
  have hr := B.returns
  have hts := atoms_spec (ws := vs_fresh) B.pre
  have hown : s.vm.findClass RX4 = some m.cls := findClass_of_methodNamed B.named
  have hlocks := B.notSynchronized
  have hK := hE.2
  subst hsz
  have hD := hD0.self (sz := s.heap.size)
  generalize hAe : va_A [((q 1), .inr (4, [.ref (q 2), .ref (q 3), .ref (q 4), .ref (q 5), .ref (q 6), .ref (q 7), .int 0, .int (-1)])), ((q 5), .inl (cI, 64, .inl (fun _ => 0))), ((q 6), .inl (cI, 64, .inl (fun _ => 0))), ((q 7), .inl (cI, 64, .inl (fun _ => 0)))] s.heap.size = A at hD ⊢
  have hA : ∀ q : Nat, s.heap.size ≤ q → A q := fun q h => by rw [← hAe]; exact Or.inr h
  have hS : va_S A s.heap s.heap [] := va_S.rf
  have hl := lv_entry ([.ref (q 1), .int 0, .int v]) (n := 4) (Nat.le_of_ble_eq_true rfl)
  rw [lg_entry_eq]
  generalize (lg_sl ([.ref (q 1), .int 0, .int v]) ++ List.replicate (4 - (lg_sl ([.ref (q 1), .int 0, .int v])).length) Slot.unset).toArray = ls at hl ⊢
  have hl : lv_has ls 4 [(0, .ref (q 1)), (1, .int 0), (2, .int v)] := hl
  refine lv_aload_n hx hb dX4_freshRun_0 rfl (lv_at hl 0 rfl) ?_
  refine va_get (D := (dC, dI)) (ci := 4) (v := .int (-1)) (C := RX4) (T := TX4) (N := 8) hx hb hts in_fresh_X4 hown hK hP 0 rfl rfl 7 (by decide) (hts (.fieldLink RX4 30 "DepotMarch$Rows" "free" "I") (by decide +kernel)) (fun _ h9 => h9) rfl dX4_freshRun_1 ?_
  refine lv_istore_n (lv' := [(3, .int (-1)), (0, .ref (q 1)), (1, .int 0), (2, .int v)]) hx hb dX4_freshRun_4 rfl hl (by decide) rfl (fun ls hl => ?_)
  refine lv_iload_n hx hb dX4_freshRun_5 rfl (lv_at hl 0 rfl) ?_
  refine lv_aload_n hx hb dX4_freshRun_6 rfl (lv_at hl 1 rfl) ?_
  refine va_get (D := (dC, dI)) (ci := 4) (v := .int 0) (C := RX4) (T := TX4) (N := 8) hx hb hts in_fresh_X4 hown hK hP 0 rfl rfl 6 (by decide) (hts (.fieldLink RX4 46 "DepotMarch$Rows" "used" "I") (by decide +kernel)) (fun _ h9 => h9) rfl dX4_freshRun_7 ?_
  refine vp_callSi (va_Run.run (va_runSN (As := [.int (-1), .int 0]) (rest := []) ⟨hx, hb, hml, hown, hts⟩ (c_within l dC dI cI cZ cB cJ cP cW (-1) 0) ⟨(va_cnB 2 hts gg_fresh_within rfl rfl rfl hE.1.n_Rows_49 (hts (.initialized RX7) (by decide +kernel)) (by decide +kernel) ⟨Nat.le_of_ble_eq_true rfl, Nat.le_of_ble_eq_true rfl⟩), (hts (.static yX7_within) (by decide +kernel)), trivial⟩ ⟨fbR, fun U hU hW => ⟨rfl, hE.warm hW, by rw [hU]; exact (fun k q h => by simp at h)⟩⟩ rfl rfl hl.1 rfl (lv_room (Nat.le_of_ble_eq_true rfl)) dX4_freshRun_10 ⟨Nat.le_of_ble_eq_true rfl, Nat.le_of_ble_eq_true rfl⟩)) (fun r1 hr1 => ?_)
  obtain rfl : r1 = 0 := hr1.trans (wi_0 _)
  refine lv_if_eq (tgt := 29) hx hb dX4_freshRun_13 (by decide) (fun _ => ?_) (fun c9 => absurd (by decide) c9)
  refine lv_aload_n hx hb dX4_freshRun_29 rfl (lv_at hl 1 rfl) ?_
  refine va_get (D := (dC, dI)) (ci := 4) (v := .int 0) (C := RX4) (T := TX4) (N := 8) hx hb hts in_fresh_X4 hown hK hP 0 rfl rfl 6 (by decide) (hts (.fieldLink RX4 46 "DepotMarch$Rows" "used" "I") (by decide +kernel)) (fun _ h9 => h9) rfl dX4_freshRun_30 ?_
  refine lv_istore_n (lv' := [(3, .int 0), (0, .ref (q 1)), (1, .int 0), (2, .int v)]) hx hb dX4_freshRun_33 rfl hl (by decide) rfl (fun ls hl => ?_)
  refine lv_aload_n hx hb dX4_freshRun_34 rfl (lv_at hl 1 rfl) ?_
  refine lv_dup hx hb dX4_freshRun_35 rfl ?_
  refine va_get (D := (dC, dI)) (ci := 4) (v := .int 0) (C := RX4) (T := TX4) (N := 8) hx hb hts in_fresh_X4 hown hK hP 0 rfl rfl 6 (by decide) (hts (.fieldLink RX4 46 "DepotMarch$Rows" "used" "I") (by decide +kernel)) (fun _ h9 => h9) rfl dX4_freshRun_36 ?_
  refine lv_iconst (v := 1) hx hb dX4_freshRun_39 (by decide) ?_
  refine lv_iadd hx hb dX4_freshRun_40 ?_
  refine lv_topi (fun x3 ex3 => ?_)
  obtain rfl : x3 = 1 := ex3.trans (by decide)
  refine va_put (D := (dC, dI)) (ci := 4) (v := .int 1) (ty := .int) (C := RX4) (T := TX4) (N := 8) hx hb hts in_fresh_X4 tyX4 tyX4_ok nmX4 hown hK hP hD hS 0 rfl rfl 6 (by decide) (hts (.fieldLink RX4 46 "DepotMarch$Rows" "used" "I") (by decide +kernel)) (fun _ h9 => h9) rfl (by decide +kernel) rfl rfl (Nat.le_of_ble_eq_true rfl) dX4_freshRun_41 (fun H4 locs hP hD hS => ?_)
  have hP : va_P (dC, dI) vwCl [((q 1), .inr (4, [.ref (q 2), .ref (q 3), .ref (q 4), .ref (q 5), .ref (q 6), .ref (q 7), .int 1, .int (-1)])), ((q 5), .inl (cI, 64, .inl (fun _ => 0))), ((q 6), .inl (cI, 64, .inl (fun _ => 0))), ((q 7), .inl (cI, 64, .inl (fun _ => 0)))] H4 := hP
  have hD : va_D A [((q 1), .inr (4, [.ref (q 2), .ref (q 3), .ref (q 4), .ref (q 5), .ref (q 6), .ref (q 7), .int 1, .int (-1)])), ((q 5), .inl (cI, 64, .inl (fun _ => 0))), ((q 6), .inl (cI, 64, .inl (fun _ => 0))), ((q 7), .inl (cI, 64, .inl (fun _ => 0)))] := hD
  refine lv_iload_n hx hb dX4_freshRun_44 rfl (lv_at hl 0 rfl) ?_
  refine lv_aload_n hx hb dX4_freshRun_45 rfl (lv_at hl 1 rfl) ?_
  refine va_get (D := (dC, dI)) (ci := 4) (v := .ref (q 5)) (C := RX4) (T := TX4) (N := 8) hx hb hts in_fresh_X4 hown hK hP 0 rfl rfl 3 (by decide) (hts (.fieldLink RX4 21 "DepotMarch$Rows" "lotOf" "[I") (by decide +kernel)) (fun _ h9 => h9) rfl dX4_freshRun_46 ?_
  refine va_alen hx hb hK hP 1 0 rfl rfl (v := 64) rfl dX4_freshRun_49 ?_
  refine lv_icmp_lt (tgt := 104) hx hb dX4_freshRun_50 (by decide) (fun _ => ?_) (fun c9 => absurd (by decide) c9)
  refine lv_aload_n hx hb dX4_freshRun_104 rfl (lv_at hl 1 rfl) ?_
  refine va_get (D := (dC, dI)) (ci := 4) (v := .ref (q 5)) (C := RX4) (T := TX4) (N := 8) hx hb hts in_fresh_X4 hown hK hP 0 rfl rfl 3 (by decide) (hts (.fieldLink RX4 21 "DepotMarch$Rows" "lotOf" "[I") (by decide +kernel)) (fun _ h9 => h9) rfl dX4_freshRun_105 ?_
  refine lv_iload_n hx hb dX4_freshRun_108 rfl (lv_at hl 0 rfl) ?_
  refine lv_iload_n hx hb dX4_freshRun_109 rfl (lv_at hl 2 rfl) ?_
  refine va_iast hx hb hK hP hD hS 1 0 rfl rfl (vpd rfl) dX4_freshRun_110 (fun H6 locs hP hD hS => ?_)
  have hP : va_P (dC, dI) vwCl [((q 1), .inr (4, [.ref (q 2), .ref (q 3), .ref (q 4), .ref (q 5), .ref (q 6), .ref (q 7), .int 1, .int (-1)])), ((q 5), .inl (cI, 64, .inl (upd (fun _ => 0) 0 0))), ((q 6), .inl (cI, 64, .inl (fun _ => 0))), ((q 7), .inl (cI, 64, .inl (fun _ => 0)))] H6 := hP
  have hD : va_D A [((q 1), .inr (4, [.ref (q 2), .ref (q 3), .ref (q 4), .ref (q 5), .ref (q 6), .ref (q 7), .int 1, .int (-1)])), ((q 5), .inl (cI, 64, .inl (upd (fun _ => 0) 0 0))), ((q 6), .inl (cI, 64, .inl (fun _ => 0))), ((q 7), .inl (cI, 64, .inl (fun _ => 0)))] := hD
  refine lv_aload_n hx hb dX4_freshRun_111 rfl (lv_at hl 1 rfl) ?_
  refine va_get (D := (dC, dI)) (ci := 4) (v := .ref (q 6)) (C := RX4) (T := TX4) (N := 8) hx hb hts in_fresh_X4 hown hK hP 0 rfl rfl 4 (by decide) (hts (.fieldLink RX4 24 "DepotMarch$Rows" "rations" "[I") (by decide +kernel)) (fun _ h9 => h9) rfl dX4_freshRun_112 ?_
  refine lv_iload_n hx hb dX4_freshRun_115 rfl (lv_at hl 0 rfl) ?_
  refine lv_iload_n hx hb dX4_freshRun_116 rfl (lv_at hl 3 rfl) ?_
  refine va_iast hx hb hK hP hD hS 2 0 rfl rfl (vpd rfl) dX4_freshRun_117 (fun H7 locs hP hD hS => ?_)
  have hP : va_P (dC, dI) vwCl [((q 1), .inr (4, [.ref (q 2), .ref (q 3), .ref (q 4), .ref (q 5), .ref (q 6), .ref (q 7), .int 1, .int (-1)])), ((q 5), .inl (cI, 64, .inl (upd (fun _ => 0) 0 0))), ((q 6), .inl (cI, 64, .inl (upd (fun _ => 0) 0 v))), ((q 7), .inl (cI, 64, .inl (fun _ => 0)))] H7 := hP
  have hD : va_D A [((q 1), .inr (4, [.ref (q 2), .ref (q 3), .ref (q 4), .ref (q 5), .ref (q 6), .ref (q 7), .int 1, .int (-1)])), ((q 5), .inl (cI, 64, .inl (upd (fun _ => 0) 0 0))), ((q 6), .inl (cI, 64, .inl (upd (fun _ => 0) 0 v))), ((q 7), .inl (cI, 64, .inl (fun _ => 0)))] := hD
  refine lv_aload_n hx hb dX4_freshRun_118 rfl (lv_at hl 1 rfl) ?_
  refine va_get (D := (dC, dI)) (ci := 4) (v := .ref (q 7)) (C := RX4) (T := TX4) (N := 8) hx hb hts in_fresh_X4 hown hK hP 0 rfl rfl 5 (by decide) (hts (.fieldLink RX4 27 "DepotMarch$Rows" "next" "[I") (by decide +kernel)) (fun _ h9 => h9) rfl dX4_freshRun_119 ?_
  refine lv_iload_n hx hb dX4_freshRun_122 rfl (lv_at hl 0 rfl) ?_
  refine lv_iconst (v := (-1)) hx hb dX4_freshRun_123 (by decide) ?_
  refine va_iast hx hb hK hP hD hS 3 0 rfl rfl (vpd rfl) dX4_freshRun_124 (fun H8 locs hP hD hS => ?_)
  have hP : va_P (dC, dI) vwCl [((q 1), .inr (4, [.ref (q 2), .ref (q 3), .ref (q 4), .ref (q 5), .ref (q 6), .ref (q 7), .int 1, .int (-1)])), ((q 5), .inl (cI, 64, .inl (upd (fun _ => 0) 0 0))), ((q 6), .inl (cI, 64, .inl (upd (fun _ => 0) 0 v))), ((q 7), .inl (cI, 64, .inl (upd (fun _ => 0) 0 (-1))))] H8 := hP
  have hD : va_D A [((q 1), .inr (4, [.ref (q 2), .ref (q 3), .ref (q 4), .ref (q 5), .ref (q 6), .ref (q 7), .int 1, .int (-1)])), ((q 5), .inl (cI, 64, .inl (upd (fun _ => 0) 0 0))), ((q 6), .inl (cI, 64, .inl (upd (fun _ => 0) 0 v))), ((q 7), .inl (cI, 64, .inl (upd (fun _ => 0) 0 (-1))))] := hD
  refine lv_iload_n hx hb dX4_freshRun_125 rfl (lv_at hl 0 rfl) ?_
  have hP9 := hP.sub (ws' := [((q 1), .inr (4, [.ref (q 2), .ref (q 3), .ref (q 4), .ref (q 5), .ref (q 6), .ref (q 7), .int 1, .int (-1)]))]) [0] rfl
  have hD9 := hD.sub (ws' := [((q 1), .inr (4, [.ref (q 2), .ref (q 3), .ref (q 4), .ref (q 5), .ref (q 6), .ref (q 7), .int 1, .int (-1)]))]) [0] (by decide) rfl
  refine W.widen (k := 0) (n := 0) (by decide) (by decide) ?_
  exact W.iret (v := 0) hx hb hr (fun t ht hW => ⟨⟨0, (), rfl, rfl, by rw [ht]; exact hP9, hD9⟩, hS.F ht⟩) hS.2.2 dX4_freshRun_126

def vs_add : List Cond := [.code yX4_add cX4_add 6 none, .code yX7_within cX7_within 2 (some .boolean), .initialized RX7, .static yX7_within, .fieldLink RX4 18 "DepotMarch$Rows" "amounts" "[I", .fieldLink RX4 15 "DepotMarch$Rows" "last" "[I", .fieldLink RX4 46 "DepotMarch$Rows" "used" "I", .code yX4_freshRun cX4_freshRun 4 (some .int), .fieldLink RX4 30 "DepotMarch$Rows" "free" "I", .fieldLink RX4 21 "DepotMarch$Rows" "lotOf" "[I", .fieldLink RX4 24 "DepotMarch$Rows" "rations" "[I", .fieldLink RX4 27 "DepotMarch$Rows" "next" "[I", .methodLink RX4 57 yX4_freshRun, .instanceMethod yX4_freshRun, .selects RX4 yX4_freshRun yX4_freshRun, .initialized RX4, .fieldLink RX4 9 "DepotMarch$Rows" "first" "[I"] ++ (wsX40)
theorem in_add_X4 : ∀ w ∈ u_ws RX4 TX4 8, w ∈ vs_add := fun w h => List.mem_append_right _ (h)
set_option maxRecDepth 20000 in
theorem gg_add_within : GoodIn vs_add vs_within := goodIn_r _ [1] (by decide +kernel) (by decide +kernel)
set_option maxRecDepth 20000 in
theorem gg_add_fresh : GoodIn vs_add vs_fresh := goodIn_r _ [7, 8, 6, 1, 2, 3, 9, 10, 11, 17, 18, 19, 20, 21, 22, 23, 24] (by decide +kernel) (by decide +kernel)
set_option maxRecDepth 20000 in
theorem g57_add_fresh : GoodIn vs_add (wsV RX4 57 RX4 yX4_freshRun vs_fresh) := goodIn_app (goodIn_of _ (by decide +kernel)) gg_add_fresh
set_option maxHeartbeats 4000000 in
set_option maxRecDepth 100000 in
theorem c_add (l : Launch) (dC : Nat → ClassId) (dI : Nat → Nat → Nat) (cI cZ cB cJ cP cW : ClassId) (q : Nat → Nat) (v : Int32) (sz : Nat) (hv : 0 < v) : Met l yX4_add vs_add ({ frames := 3, cells := 0, slots := 0, locals := 180 }) (va_Pc [.ref (q 1), .int 0, .int 0, .int v] (fun U => U.heap.size = sz ∧ EV dC dI cI cZ cB cJ cP cW U ∧ va_P (dC, dI) vwCl [((q 1), .inr (4, [.ref (q 2), .ref (q 3), .ref (q 4), .ref (q 5), .ref (q 6), .ref (q 7), .int 0, .int (-1)])), ((q 2), .inl (cI, 22, .inl (fun _ => (-1)))), ((q 3), .inl (cI, 22, .inl (fun _ => (-1)))), ((q 4), .inl (cI, 22, .inl (fun _ => 0))), ((q 5), .inl (cI, 64, .inl (fun _ => 0))), ((q 6), .inl (cI, 64, .inl (fun _ => 0))), ((q 7), .inl (cI, 64, .inl (fun _ => 0)))] U.heap ∧ va_D (fun _ => True) [((q 1), .inr (4, [.ref (q 2), .ref (q 3), .ref (q 4), .ref (q 5), .ref (q 6), .ref (q 7), .int 0, .int (-1)])), ((q 2), .inl (cI, 22, .inl (fun _ => (-1)))), ((q 3), .inl (cI, 22, .inl (fun _ => (-1)))), ((q 4), .inl (cI, 22, .inl (fun _ => 0))), ((q 5), .inl (cI, 64, .inl (fun _ => 0))), ((q 6), .inl (cI, 64, .inl (fun _ => 0))), ((q 7), .inl (cI, 64, .inl (fun _ => 0)))])) (va_Qv (fun (u : Unit) => True) (fun u t => va_P (dC, dI) vwCl [] t.heap ∧ va_D (va_A [((q 1), .inr (4, [.ref (q 2), .ref (q 3), .ref (q 4), .ref (q 5), .ref (q 6), .ref (q 7), .int 0, .int (-1)])), ((q 2), .inl (cI, 22, .inl (fun _ => (-1)))), ((q 3), .inl (cI, 22, .inl (fun _ => (-1)))), ((q 4), .inl (cI, 22, .inl (fun _ => 0))), ((q 5), .inl (cI, 64, .inl (fun _ => 0))), ((q 6), .inl (cI, 64, .inl (fun _ => 0))), ((q 7), .inl (cI, 64, .inl (fun _ => 0)))] sz) []) (va_A [((q 1), .inr (4, [.ref (q 2), .ref (q 3), .ref (q 4), .ref (q 5), .ref (q 6), .ref (q 7), .int 0, .int (-1)])), ((q 2), .inl (cI, 22, .inl (fun _ => (-1)))), ((q 3), .inl (cI, 22, .inl (fun _ => (-1)))), ((q 4), .inl (cI, 22, .inl (fun _ => 0))), ((q 5), .inl (cI, 64, .inl (fun _ => 0))), ((q 6), .inl (cI, 64, .inl (fun _ => 0))), ((q 7), .inl (cI, 64, .inl (fun _ => 0)))] sz)) 0 0 (va_A [((q 1), .inr (4, [.ref (q 2), .ref (q 3), .ref (q 4), .ref (q 5), .ref (q 6), .ref (q 7), .int 0, .int (-1)])), ((q 2), .inl (cI, 22, .inl (fun _ => (-1)))), ((q 3), .inl (cI, 22, .inl (fun _ => (-1)))), ((q 4), .inl (cI, 22, .inl (fun _ => 0))), ((q 5), .inl (cI, 64, .inl (fun _ => 0))), ((q 6), .inl (cI, 64, .inl (fun _ => 0))), ((q 7), .inl (cI, 64, .inl (fun _ => 0)))] sz) := by
  refine Met.ofW (cc := cX4_add) (maxL := 6) (ret := none) (by decide) rfl ?_
  intro p e s m args below meth c s₁ B hml hv
  obtain ⟨rfl, hsz, hE, hP, hD0⟩ := hv
  have hx := B.exec
  have hb := B.bytes
  have hr := B.returns
  have hts := atoms_spec (ws := vs_add) B.pre
  have hown : s.vm.findClass RX4 = some m.cls := findClass_of_methodNamed B.named
  have hlocks := B.notSynchronized
  have hK := hE.2
  subst hsz
  have hD := hD0.self (sz := s.heap.size)
  generalize hAe : va_A [((q 1), .inr (4, [.ref (q 2), .ref (q 3), .ref (q 4), .ref (q 5), .ref (q 6), .ref (q 7), .int 0, .int (-1)])), ((q 2), .inl (cI, 22, .inl (fun _ => (-1)))), ((q 3), .inl (cI, 22, .inl (fun _ => (-1)))), ((q 4), .inl (cI, 22, .inl (fun _ => 0))), ((q 5), .inl (cI, 64, .inl (fun _ => 0))), ((q 6), .inl (cI, 64, .inl (fun _ => 0))), ((q 7), .inl (cI, 64, .inl (fun _ => 0)))] s.heap.size = A at hD ⊢
  have hA : ∀ q : Nat, s.heap.size ≤ q → A q := fun q h => by rw [← hAe]; exact Or.inr h
  have hS : va_S A s.heap s.heap [] := va_S.rf
  have hl := lv_entry ([.ref (q 1), .int 0, .int 0, .int v]) (n := 6) (Nat.le_of_ble_eq_true rfl)
  rw [lg_entry_eq]
  generalize (lg_sl ([.ref (q 1), .int 0, .int 0, .int v]) ++ List.replicate (6 - (lg_sl ([.ref (q 1), .int 0, .int 0, .int v])).length) Slot.unset).toArray = ls at hl ⊢
  have hl : lv_has ls 6 [(0, .ref (q 1)), (1, .int 0), (2, .int 0), (3, .int v)] := hl
  refine lv_iload_n hx hb dX4_add_0 rfl (lv_at hl 1 rfl) ?_
  refine lv_bipush (v := 22) hx hb dX4_add_1 (by decide) ?_
  refine vp_callSi (va_Run.run (va_runSN (As := [.int 0, .int 22]) (rest := []) ⟨hx, hb, hml, hown, hts⟩ (c_within l dC dI cI cZ cB cJ cP cW 0 22) ⟨(va_cnB 2 hts gg_add_within rfl rfl rfl hE.1.n_Rows_49 (hts (.initialized RX7) (by decide +kernel)) (by decide +kernel) ⟨Nat.le_of_ble_eq_true rfl, Nat.le_of_ble_eq_true rfl⟩), (hts (.static yX7_within) (by decide +kernel)), trivial⟩ ⟨fbR, fun U hU hW => ⟨rfl, hE.warm hW, by rw [hU]; exact (fun k q h => by simp at h)⟩⟩ rfl rfl hl.1 rfl (lv_room (Nat.le_of_ble_eq_true rfl)) dX4_add_3 ⟨Nat.le_of_ble_eq_true rfl, Nat.le_of_ble_eq_true rfl⟩)) (fun r1 hr1 => ?_)
  obtain rfl : r1 = 1 := hr1.trans (by decide)
  refine lv_if_eq (tgt := 13) hx hb dX4_add_6 (by decide) (fun c9 => absurd c9 (by decide)) (fun _ => ?_)
  refine lv_iload_n hx hb dX4_add_9 rfl (lv_at hl 3 rfl) ?_
  refine lv_if_gt (tgt := 14) hx hb dX4_add_10 (by decide) (fun _ => ?_) (fun c9 => absurd hv c9)
  refine lv_aload_n hx hb dX4_add_14 rfl (lv_at hl 0 rfl) ?_
  refine va_get (D := (dC, dI)) (ci := 4) (v := .ref (q 4)) (C := RX4) (T := TX4) (N := 8) hx hb hts in_add_X4 hown hK hP 0 rfl rfl 2 (by decide) (hts (.fieldLink RX4 18 "DepotMarch$Rows" "amounts" "[I") (by decide +kernel)) (fun _ h9 => h9) rfl dX4_add_15 ?_
  refine lv_iload_n hx hb dX4_add_18 rfl (lv_at hl 1 rfl) ?_
  refine lv_dup2_11 hx hb dX4_add_19 rfl rfl ?_
  refine va_iald hx hb hK hP 3 0 rfl rfl (vpd rfl) dX4_add_20 ?_
  refine lv_topi (fun x4 ex4 => ?_)
  obtain rfl : x4 = 0 := ex4.trans rfl
  refine lv_iload_n hx hb dX4_add_21 rfl (lv_at hl 3 rfl) ?_
  refine lv_iadd hx hb dX4_add_22 ?_
  refine lv_topi (fun x5 ex5 => ?_)
  refine va_iast hx hb hK hP hD hS 3 0 rfl rfl (vpd rfl) dX4_add_23 (fun H6 locs hP hD hS => ?_)
  have hP : va_P (dC, dI) vwCl [((q 1), .inr (4, [.ref (q 2), .ref (q 3), .ref (q 4), .ref (q 5), .ref (q 6), .ref (q 7), .int 0, .int (-1)])), ((q 2), .inl (cI, 22, .inl (fun _ => (-1)))), ((q 3), .inl (cI, 22, .inl (fun _ => (-1)))), ((q 4), .inl (cI, 22, .inl (upd (fun _ => 0) 0 x5))), ((q 5), .inl (cI, 64, .inl (fun _ => 0))), ((q 6), .inl (cI, 64, .inl (fun _ => 0))), ((q 7), .inl (cI, 64, .inl (fun _ => 0)))] H6 := hP
  have hD : va_D A [((q 1), .inr (4, [.ref (q 2), .ref (q 3), .ref (q 4), .ref (q 5), .ref (q 6), .ref (q 7), .int 0, .int (-1)])), ((q 2), .inl (cI, 22, .inl (fun _ => (-1)))), ((q 3), .inl (cI, 22, .inl (fun _ => (-1)))), ((q 4), .inl (cI, 22, .inl (upd (fun _ => 0) 0 x5))), ((q 5), .inl (cI, 64, .inl (fun _ => 0))), ((q 6), .inl (cI, 64, .inl (fun _ => 0))), ((q 7), .inl (cI, 64, .inl (fun _ => 0)))] := hD
  refine lv_aload_n hx hb dX4_add_24 rfl (lv_at hl 0 rfl) ?_
  refine va_get (D := (dC, dI)) (ci := 4) (v := .ref (q 3)) (C := RX4) (T := TX4) (N := 8) hx hb hts in_add_X4 hown hK hP 0 rfl rfl 1 (by decide) (hts (.fieldLink RX4 15 "DepotMarch$Rows" "last" "[I") (by decide +kernel)) (fun _ h9 => h9) rfl dX4_add_25 ?_
  refine lv_iload_n hx hb dX4_add_28 rfl (lv_at hl 1 rfl) ?_
  refine va_iald hx hb hK hP 2 0 rfl rfl (vpd rfl) dX4_add_29 ?_
  refine lv_topi (fun x7 ex7 => ?_)
  obtain rfl : x7 = (-1) := ex7.trans rfl
  refine lv_istore (lv' := [(4, .int (-1)), (0, .ref (q 1)), (1, .int 0), (2, .int 0), (3, .int v)]) hx hb dX4_add_30 hl (by decide) rfl (fun ls hl => ?_)
  refine lv_iload hx hb dX4_add_32 (lv_at hl 0 rfl) ?_
  refine lv_aload_n hx hb dX4_add_34 rfl (lv_at hl 1 rfl) ?_
  refine va_get (D := (dC, dI)) (ci := 4) (v := .int 0) (C := RX4) (T := TX4) (N := 8) hx hb hts in_add_X4 hown hK hP 0 rfl rfl 6 (by decide) (hts (.fieldLink RX4 46 "DepotMarch$Rows" "used" "I") (by decide +kernel)) (fun _ h9 => h9) rfl dX4_add_35 ?_
  refine vp_callSi (va_Run.run (va_runSN (As := [.int (-1), .int 0]) (rest := []) ⟨hx, hb, hml, hown, hts⟩ (c_within l dC dI cI cZ cB cJ cP cW (-1) 0) ⟨(va_cnB 2 hts gg_add_within rfl rfl rfl hE.1.n_Rows_49 (hts (.initialized RX7) (by decide +kernel)) (by decide +kernel) ⟨Nat.le_of_ble_eq_true rfl, Nat.le_of_ble_eq_true rfl⟩), (hts (.static yX7_within) (by decide +kernel)), trivial⟩ ⟨fbR, fun U hU hW => ⟨rfl, hE.warm hW, by rw [hU]; exact (fun k q h => by simp at h)⟩⟩ rfl rfl hl.1 rfl (lv_room (Nat.le_of_ble_eq_true rfl)) dX4_add_38 ⟨Nat.le_of_ble_eq_true rfl, Nat.le_of_ble_eq_true rfl⟩)) (fun r8 hr8 => ?_)
  obtain rfl : r8 = 0 := hr8.trans (wi_0 _)
  refine lv_if_eq (tgt := 67) hx hb dX4_add_41 (by decide) (fun _ => ?_) (fun c9 => absurd (by decide) c9)
  refine lv_aload_n hx hb dX4_add_67 rfl (lv_at hl 1 rfl) ?_
  refine lv_iload_n hx hb dX4_add_68 rfl (lv_at hl 3 rfl) ?_
  refine lv_iload_n hx hb dX4_add_69 rfl (lv_at hl 4 rfl) ?_
  have hPc := hP.sub (ws' := [((q 1), .inr (4, [.ref (q 2), .ref (q 3), .ref (q 4), .ref (q 5), .ref (q 6), .ref (q 7), .int 0, .int (-1)])), ((q 5), .inl (cI, 64, .inl (fun _ => 0))), ((q 6), .inl (cI, 64, .inl (fun _ => 0))), ((q 7), .inl (cI, 64, .inl (fun _ => 0)))]) [0, 4, 5, 6] rfl
  have hDc := hD.sub (ws' := [((q 1), .inr (4, [.ref (q 2), .ref (q 3), .ref (q 4), .ref (q 5), .ref (q 6), .ref (q 7), .int 0, .int (-1)])), ((q 5), .inl (cI, 64, .inl (fun _ => 0))), ((q 6), .inl (cI, 64, .inl (fun _ => 0))), ((q 7), .inl (cI, 64, .inl (fun _ => 0)))]) [0, 4, 5, 6] (by decide) rfl
  have hFc := va_free (wc := [((q 1), .inr (4, [.ref (q 2), .ref (q 3), .ref (q 4), .ref (q 5), .ref (q 6), .ref (q 7), .int 0, .int (-1)])), ((q 5), .inl (cI, 64, .inl (fun _ => 0))), ((q 6), .inl (cI, 64, .inl (fun _ => 0))), ((q 7), .inl (cI, 64, .inl (fun _ => 0)))]) hD hS hA [0, 4, 5, 6] rfl
  refine va_calli (va_runV (As := [.int 0, .int v]) (rest := []) ⟨hx, hb, hml, hown, hts⟩ (c_fresh l dC dI cI cZ cB cJ cP cW q v H6.size) (cwV 2 hts g57_add_fresh rfl rfl rfl (by decide +kernel) ⟨Nat.le_of_ble_eq_true rfl, Nat.le_of_ble_eq_true rfl⟩) ⟨fbM, va_recv hK hPc (ci := 4) (q0 := 0) rfl rfl, fun U hU hW => ⟨rfl, by rw [hU], hE.warm hW, by rw [hU]; exact hPc, hDc.weaken (fun _ _ _ _ => trivial)⟩⟩ rfl rfl hl.1 rfl (lv_room (Nat.le_of_ble_eq_true rfl)) dX4_add_70 ⟨Nat.le_of_ble_eq_true rfl, Nat.le_of_ble_eq_true rfl⟩) hS (fun q _ h => hFc q h) hFc (fun r10 u11 t H12 locs ht hvm hr10 hB hz1 hk1 hS => ?_)
  obtain ⟨hP1, hD1⟩ := hB
  rw [ht] at hP1
  obtain ⟨hP, hD⟩ := va_join (wr := [((q 2), .inl (cI, 22, .inl (fun _ => (-1)))), ((q 3), .inl (cI, 22, .inl (fun _ => (-1)))), ((q 4), .inl (cI, 22, .inl (upd (fun _ => 0) 0 x5)))]) (w1 := [((q 1), .inr (4, [.ref (q 2), .ref (q 3), .ref (q 4), .ref (q 5), .ref (q 6), .ref (q 7), .int 1, .int (-1)]))]) hP hD [0, 4, 5, 6] [1, 2, 3] rfl rfl (by decide) (by decide) hk1 hFc hP1 hD1
  have hP : va_P (dC, dI) vwCl [((q 2), .inl (cI, 22, .inl (fun _ => (-1)))), ((q 3), .inl (cI, 22, .inl (fun _ => (-1)))), ((q 4), .inl (cI, 22, .inl (upd (fun _ => 0) 0 x5))), ((q 1), .inr (4, [.ref (q 2), .ref (q 3), .ref (q 4), .ref (q 5), .ref (q 6), .ref (q 7), .int 1, .int (-1)]))] H12 := hP
  have hD : va_D A [((q 2), .inl (cI, 22, .inl (fun _ => (-1)))), ((q 3), .inl (cI, 22, .inl (fun _ => (-1)))), ((q 4), .inl (cI, 22, .inl (upd (fun _ => 0) 0 x5))), ((q 1), .inr (4, [.ref (q 2), .ref (q 3), .ref (q 4), .ref (q 5), .ref (q 6), .ref (q 7), .int 1, .int (-1)]))] := hD
  obtain rfl : r10 = 0 := hr10
  refine lv_istore (lv' := [(5, .int 0), (4, .int (-1)), (0, .ref (q 1)), (1, .int 0), (2, .int 0), (3, .int v)]) hx hb dX4_add_73 hl (by decide) rfl (fun ls hl => ?_)
  refine lv_iload hx hb dX4_add_75 (lv_at hl 1 rfl) ?_
  refine lv_aload_n hx hb dX4_add_77 rfl (lv_at hl 2 rfl) ?_
  refine va_get (D := (dC, dI)) (ci := 4) (v := .int 1) (C := RX4) (T := TX4) (N := 8) hx hb hts in_add_X4 hown hK hP 3 rfl rfl 6 (by decide) (hts (.fieldLink RX4 46 "DepotMarch$Rows" "used" "I") (by decide +kernel)) (fun _ h9 => h9) rfl dX4_add_78 ?_
  refine vp_callSi (va_Run.run (va_runSN (As := [.int (-1), .int 1]) (rest := []) ⟨hx, hb, hml, hown, hts⟩ (c_within l dC dI cI cZ cB cJ cP cW (-1) 1) ⟨(va_cnB 2 hts gg_add_within rfl rfl rfl hE.1.n_Rows_49 (hts (.initialized RX7) (by decide +kernel)) (by decide +kernel) ⟨Nat.le_of_ble_eq_true rfl, Nat.le_of_ble_eq_true rfl⟩), (hts (.static yX7_within) (by decide +kernel)), trivial⟩ ⟨fbR, fun U hU hW => ⟨rfl, hE.warm hW, by rw [hU]; exact (fun k q h => by simp at h)⟩⟩ rfl rfl hl.1 rfl (lv_room (Nat.le_of_ble_eq_true rfl)) dX4_add_81 ⟨Nat.le_of_ble_eq_true rfl, Nat.le_of_ble_eq_true rfl⟩)) (fun r13 hr13 => ?_)
  obtain rfl : r13 = 0 := hr13.trans (by decide)
  refine lv_if_eq (tgt := 99) hx hb dX4_add_84 (by decide) (fun _ => ?_) (fun c9 => absurd (by decide) c9)
  refine lv_aload_n hx hb dX4_add_99 rfl (lv_at hl 2 rfl) ?_
  refine va_get (D := (dC, dI)) (ci := 4) (v := .ref (q 2)) (C := RX4) (T := TX4) (N := 8) hx hb hts in_add_X4 hown hK hP 3 rfl rfl 0 (by decide) (hts (.fieldLink RX4 9 "DepotMarch$Rows" "first" "[I") (by decide +kernel)) (fun _ h9 => h9) rfl dX4_add_100 ?_
  refine lv_iload_n hx hb dX4_add_103 rfl (lv_at hl 3 rfl) ?_
  refine lv_iload hx hb dX4_add_104 (lv_at hl 0 rfl) ?_
  refine va_iast hx hb hK hP hD hS 0 0 rfl rfl (vpd rfl) dX4_add_106 (fun H15 locs hP hD hS => ?_)
  have hP : va_P (dC, dI) vwCl [((q 2), .inl (cI, 22, .inl (upd (fun _ => (-1)) 0 0))), ((q 3), .inl (cI, 22, .inl (fun _ => (-1)))), ((q 4), .inl (cI, 22, .inl (upd (fun _ => 0) 0 x5))), ((q 1), .inr (4, [.ref (q 2), .ref (q 3), .ref (q 4), .ref (q 5), .ref (q 6), .ref (q 7), .int 1, .int (-1)]))] H15 := hP
  have hD : va_D A [((q 2), .inl (cI, 22, .inl (upd (fun _ => (-1)) 0 0))), ((q 3), .inl (cI, 22, .inl (fun _ => (-1)))), ((q 4), .inl (cI, 22, .inl (upd (fun _ => 0) 0 x5))), ((q 1), .inr (4, [.ref (q 2), .ref (q 3), .ref (q 4), .ref (q 5), .ref (q 6), .ref (q 7), .int 1, .int (-1)]))] := hD
  refine lv_aload_n hx hb dX4_add_107 rfl (lv_at hl 2 rfl) ?_
  refine va_get (D := (dC, dI)) (ci := 4) (v := .ref (q 3)) (C := RX4) (T := TX4) (N := 8) hx hb hts in_add_X4 hown hK hP 3 rfl rfl 1 (by decide) (hts (.fieldLink RX4 15 "DepotMarch$Rows" "last" "[I") (by decide +kernel)) (fun _ h9 => h9) rfl dX4_add_108 ?_
  refine lv_iload_n hx hb dX4_add_111 rfl (lv_at hl 3 rfl) ?_
  refine lv_iload hx hb dX4_add_112 (lv_at hl 0 rfl) ?_
  refine va_iast hx hb hK hP hD hS 1 0 rfl rfl (vpd rfl) dX4_add_114 (fun H16 locs hP hD hS => ?_)
  have hP : va_P (dC, dI) vwCl [((q 2), .inl (cI, 22, .inl (upd (fun _ => (-1)) 0 0))), ((q 3), .inl (cI, 22, .inl (upd (fun _ => (-1)) 0 0))), ((q 4), .inl (cI, 22, .inl (upd (fun _ => 0) 0 x5))), ((q 1), .inr (4, [.ref (q 2), .ref (q 3), .ref (q 4), .ref (q 5), .ref (q 6), .ref (q 7), .int 1, .int (-1)]))] H16 := hP
  have hD : va_D A [((q 2), .inl (cI, 22, .inl (upd (fun _ => (-1)) 0 0))), ((q 3), .inl (cI, 22, .inl (upd (fun _ => (-1)) 0 0))), ((q 4), .inl (cI, 22, .inl (upd (fun _ => 0) 0 x5))), ((q 1), .inr (4, [.ref (q 2), .ref (q 3), .ref (q 4), .ref (q 5), .ref (q 6), .ref (q 7), .int 1, .int (-1)]))] := hD
  have hP9 := hP.sub (ws' := []) [] rfl
  have hD9 := hD.sub (ws' := []) [] (by decide) rfl
  refine W.widen (k := 0) (n := 0) (by decide) (by decide) ?_
  exact W.vret hx hb hr (fun t ht hW => ⟨⟨(), rfl, trivial, by rw [ht]; exact hP9, hD9⟩, hS.F ht⟩) hS.2.2 dX4_add_115

def vs_write : List Cond := [.code yX0_write cX0_write 8 none, .code yX0_kept cX0_kept 1 (some .int), .fieldLink RX0 15 "DepotMarch$Book" "lines" "I", .methodLink RX0 29 Lib.Math.min.name, .static Lib.Math.min.name, .initialized "java/lang/Math", .code Lib.Math.min.name Lib.Math.min.code 2 (some .int), .methodLink RX0 19 yX0_kept, .instanceMethod yX0_kept, .selects RX0 yX0_kept yX0_kept, .initialized RX0, .fieldLink RX0 9 "DepotMarch$Book" "numbers" "[I"] ++ (wsX00)
theorem in_write_X0 : ∀ w ∈ u_ws RX0 TX0 2, w ∈ vs_write := fun w h => List.mem_append_right _ (h)
set_option maxRecDepth 20000 in
theorem gg_write_kept : GoodIn vs_write vs_kept := goodIn_r _ [1, 2, 3, 4, 5, 6, 12, 13] (by decide +kernel) (by decide +kernel)
set_option maxRecDepth 20000 in
theorem g19_write_kept : GoodIn vs_write (wsV RX0 19 RX0 yX0_kept vs_kept) := goodIn_app (goodIn_of _ (by decide +kernel)) gg_write_kept
set_option maxHeartbeats 4000000 in
set_option maxRecDepth 100000 in
theorem c_write (l : Launch) (dC : Nat → ClassId) (dI : Nat → Nat → Nat) (cI cZ cB cJ cP cW : ClassId) (q : Nat → Nat) (v : Int32) (sz : Nat) : Met l yX0_write vs_write ({ frames := 3, cells := 0, slots := 0, locals := 180 }) (va_Pc [.ref (q 8), .int 0, .int 0, .int (-1), .int 0, .int 0, .int v] (fun U => U.heap.size = sz ∧ EV dC dI cI cZ cB cJ cP cW U ∧ va_P (dC, dI) vwCl [((q 8), .inr (0, [.int 0, .ref (q 9)])), ((q 9), .inl (cI, 3600, .inl (fun _ => 0)))] U.heap ∧ va_D (fun _ => True) [((q 8), .inr (0, [.int 0, .ref (q 9)])), ((q 9), .inl (cI, 3600, .inl (fun _ => 0)))])) (va_Qv (fun (u : Unit) => True) (fun u t => va_P (dC, dI) vwCl [] t.heap ∧ va_D (va_A [((q 8), .inr (0, [.int 0, .ref (q 9)])), ((q 9), .inl (cI, 3600, .inl (fun _ => 0)))] sz) []) (va_A [((q 8), .inr (0, [.int 0, .ref (q 9)])), ((q 9), .inl (cI, 3600, .inl (fun _ => 0)))] sz)) 0 0 (va_A [((q 8), .inr (0, [.int 0, .ref (q 9)])), ((q 9), .inl (cI, 3600, .inl (fun _ => 0)))] sz) := by
  refine Met.ofW (cc := cX0_write) (maxL := 8) (ret := none) (by decide) rfl ?_
  intro p e s m args below meth c s₁ B hml hv
  obtain ⟨rfl, hsz, hE, hP, hD0⟩ := hv
  have hx := B.exec
  have hb := B.bytes
  have hr := B.returns
  have hts := atoms_spec (ws := vs_write) B.pre
  have hown : s.vm.findClass RX0 = some m.cls := findClass_of_methodNamed B.named
  have hlocks := B.notSynchronized
  have hK := hE.2
  subst hsz
  have hD := hD0.self (sz := s.heap.size)
  generalize hAe : va_A [((q 8), .inr (0, [.int 0, .ref (q 9)])), ((q 9), .inl (cI, 3600, .inl (fun _ => 0)))] s.heap.size = A at hD ⊢
  have hA : ∀ q : Nat, s.heap.size ≤ q → A q := fun q h => by rw [← hAe]; exact Or.inr h
  have hS : va_S A s.heap s.heap [] := va_S.rf
  have hl := lv_entry ([.ref (q 8), .int 0, .int 0, .int (-1), .int 0, .int 0, .int v]) (n := 8) (Nat.le_of_ble_eq_true rfl)
  rw [lg_entry_eq]
  generalize (lg_sl ([.ref (q 8), .int 0, .int 0, .int (-1), .int 0, .int 0, .int v]) ++ List.replicate (8 - (lg_sl ([.ref (q 8), .int 0, .int 0, .int (-1), .int 0, .int 0, .int v])).length) Slot.unset).toArray = ls at hl ⊢
  have hl : lv_has ls 8 [(0, .ref (q 8)), (1, .int 0), (2, .int 0), (3, .int (-1)), (4, .int 0), (5, .int 0), (6, .int v)] := hl
  refine lv_aload_n hx hb dX0_write_0 rfl (lv_at hl 0 rfl) ?_
  have hPc := hP.sub (ws' := [((q 8), .inr (0, [.int 0, .ref (q 9)]))]) [0] rfl
  refine vp_callSi (va_Run.run (va_runV (As := []) (rest := []) ⟨hx, hb, hml, hown, hts⟩ (c_kept l dC dI cI cZ cB cJ cP cW q) (cwV 0 hts g19_write_kept rfl rfl rfl (by decide +kernel) ⟨Nat.le_of_ble_eq_true rfl, Nat.le_of_ble_eq_true rfl⟩) ⟨fbR, va_recv hK hPc (ci := 0) (q0 := 0) rfl rfl, fun U hU hW => ⟨rfl, hE.warm hW, by rw [hU]; exact hPc⟩⟩ rfl rfl hl.1 rfl (lv_room (Nat.le_of_ble_eq_true rfl)) dX0_write_1 ⟨Nat.le_of_ble_eq_true rfl, Nat.le_of_ble_eq_true rfl⟩)) (fun r1 hr1 => ?_)
  obtain rfl : r1 = 0 := hr1
  refine lv_bipush (v := 6) hx hb dX0_write_4 (by decide) ?_
  refine lv_imul hx hb dX0_write_6 ?_
  refine lv_topi (fun x2 ex2 => ?_)
  obtain rfl : x2 = 0 := ex2.trans (by decide)
  refine lv_istore (lv' := [(7, .int 0), (0, .ref (q 8)), (1, .int 0), (2, .int 0), (3, .int (-1)), (4, .int 0), (5, .int 0), (6, .int v)]) hx hb dX0_write_7 hl (by decide) rfl (fun ls hl => ?_)
  refine lv_aload_n hx hb dX0_write_9 rfl (lv_at hl 1 rfl) ?_
  refine lv_dup hx hb dX0_write_10 rfl ?_
  refine va_get (D := (dC, dI)) (ci := 0) (v := .int 0) (C := RX0) (T := TX0) (N := 2) hx hb hts in_write_X0 hown hK hP 0 rfl rfl 0 (by decide) (hts (.fieldLink RX0 15 "DepotMarch$Book" "lines" "I") (by decide +kernel)) (fun _ h9 => h9) rfl dX0_write_11 ?_
  refine lv_iconst (v := 1) hx hb dX0_write_14 (by decide) ?_
  refine lv_iadd hx hb dX0_write_15 ?_
  refine lv_topi (fun x3 ex3 => ?_)
  obtain rfl : x3 = 1 := ex3.trans (by decide)
  refine va_put (D := (dC, dI)) (ci := 0) (v := .int 1) (ty := .int) (C := RX0) (T := TX0) (N := 2) hx hb hts in_write_X0 tyX0 tyX0_ok nmX0 hown hK hP hD hS 0 rfl rfl 0 (by decide) (hts (.fieldLink RX0 15 "DepotMarch$Book" "lines" "I") (by decide +kernel)) (fun _ h9 => h9) rfl (by decide +kernel) rfl rfl (Nat.le_of_ble_eq_true rfl) dX0_write_16 (fun H4 locs hP hD hS => ?_)
  have hP : va_P (dC, dI) vwCl [((q 8), .inr (0, [.int 1, .ref (q 9)])), ((q 9), .inl (cI, 3600, .inl (fun _ => 0)))] H4 := hP
  have hD : va_D A [((q 8), .inr (0, [.int 1, .ref (q 9)])), ((q 9), .inl (cI, 3600, .inl (fun _ => 0)))] := hD
  refine lv_iload hx hb dX0_write_19 (lv_at hl 0 rfl) ?_
  refine lv_bipush (v := 6) hx hb dX0_write_21 (by decide) ?_
  refine lv_iadd hx hb dX0_write_23 ?_
  refine lv_topi (fun x5 ex5 => ?_)
  obtain rfl : x5 = 6 := ex5.trans (by decide)
  refine lv_aload_n hx hb dX0_write_24 rfl (lv_at hl 1 rfl) ?_
  refine va_get (D := (dC, dI)) (ci := 0) (v := .ref (q 9)) (C := RX0) (T := TX0) (N := 2) hx hb hts in_write_X0 hown hK hP 0 rfl rfl 1 (by decide) (hts (.fieldLink RX0 9 "DepotMarch$Book" "numbers" "[I") (by decide +kernel)) (fun _ h9 => h9) rfl dX0_write_25 ?_
  refine va_alen hx hb hK hP 1 0 rfl rfl (v := 3600) rfl dX0_write_28 ?_
  refine lv_icmp_le (tgt := 33) hx hb dX0_write_29 (by decide) (fun _ => ?_) (fun c9 => absurd (by decide) c9)
  refine lv_aload_n hx hb dX0_write_33 rfl (lv_at hl 1 rfl) ?_
  refine va_get (D := (dC, dI)) (ci := 0) (v := .ref (q 9)) (C := RX0) (T := TX0) (N := 2) hx hb hts in_write_X0 hown hK hP 0 rfl rfl 1 (by decide) (hts (.fieldLink RX0 9 "DepotMarch$Book" "numbers" "[I") (by decide +kernel)) (fun _ h9 => h9) rfl dX0_write_34 ?_
  refine lv_iload hx hb dX0_write_37 (lv_at hl 0 rfl) ?_
  refine lv_iload_n hx hb dX0_write_39 rfl (lv_at hl 2 rfl) ?_
  refine va_iast hx hb hK hP hD hS 1 0 rfl rfl (vpd rfl) dX0_write_40 (fun H7 locs hP hD hS => ?_)
  have hP : va_P (dC, dI) vwCl [((q 8), .inr (0, [.int 1, .ref (q 9)])), ((q 9), .inl (cI, 3600, .inl (upd (fun _ => 0) 0 0)))] H7 := hP
  have hD : va_D A [((q 8), .inr (0, [.int 1, .ref (q 9)])), ((q 9), .inl (cI, 3600, .inl (upd (fun _ => 0) 0 0)))] := hD
  refine lv_aload_n hx hb dX0_write_41 rfl (lv_at hl 1 rfl) ?_
  refine va_get (D := (dC, dI)) (ci := 0) (v := .ref (q 9)) (C := RX0) (T := TX0) (N := 2) hx hb hts in_write_X0 hown hK hP 0 rfl rfl 1 (by decide) (hts (.fieldLink RX0 9 "DepotMarch$Book" "numbers" "[I") (by decide +kernel)) (fun _ h9 => h9) rfl dX0_write_42 ?_
  refine lv_iload hx hb dX0_write_45 (lv_at hl 0 rfl) ?_
  refine lv_iconst (v := 1) hx hb dX0_write_47 (by decide) ?_
  refine lv_iadd hx hb dX0_write_48 ?_
  refine lv_topi (fun x8 ex8 => ?_)
  obtain rfl : x8 = 1 := ex8.trans (by decide)
  refine lv_iload_n hx hb dX0_write_49 rfl (lv_at hl 3 rfl) ?_
  refine va_iast hx hb hK hP hD hS 1 0 rfl rfl (vpd rfl) dX0_write_50 (fun H9 locs hP hD hS => ?_)
  have hP : va_P (dC, dI) vwCl [((q 8), .inr (0, [.int 1, .ref (q 9)])), ((q 9), .inl (cI, 3600, .inl (upd (upd (fun _ => 0) 0 0) 1 0)))] H9 := hP
  have hD : va_D A [((q 8), .inr (0, [.int 1, .ref (q 9)])), ((q 9), .inl (cI, 3600, .inl (upd (upd (fun _ => 0) 0 0) 1 0)))] := hD
  refine lv_aload_n hx hb dX0_write_51 rfl (lv_at hl 1 rfl) ?_
  refine va_get (D := (dC, dI)) (ci := 0) (v := .ref (q 9)) (C := RX0) (T := TX0) (N := 2) hx hb hts in_write_X0 hown hK hP 0 rfl rfl 1 (by decide) (hts (.fieldLink RX0 9 "DepotMarch$Book" "numbers" "[I") (by decide +kernel)) (fun _ h9 => h9) rfl dX0_write_52 ?_
  refine lv_iload hx hb dX0_write_55 (lv_at hl 0 rfl) ?_
  refine lv_iconst (v := 2) hx hb dX0_write_57 (by decide) ?_
  refine lv_iadd hx hb dX0_write_58 ?_
  refine lv_topi (fun x10 ex10 => ?_)
  obtain rfl : x10 = 2 := ex10.trans (by decide)
  refine lv_iload_n hx hb dX0_write_59 rfl (lv_at hl 4 rfl) ?_
  refine va_iast hx hb hK hP hD hS 1 0 rfl rfl (vpd rfl) dX0_write_60 (fun H11 locs hP hD hS => ?_)
  have hP : va_P (dC, dI) vwCl [((q 8), .inr (0, [.int 1, .ref (q 9)])), ((q 9), .inl (cI, 3600, .inl (upd (upd (upd (fun _ => 0) 0 0) 1 0) 2 (-1))))] H11 := hP
  have hD : va_D A [((q 8), .inr (0, [.int 1, .ref (q 9)])), ((q 9), .inl (cI, 3600, .inl (upd (upd (upd (fun _ => 0) 0 0) 1 0) 2 (-1))))] := hD
  refine lv_aload_n hx hb dX0_write_61 rfl (lv_at hl 1 rfl) ?_
  refine va_get (D := (dC, dI)) (ci := 0) (v := .ref (q 9)) (C := RX0) (T := TX0) (N := 2) hx hb hts in_write_X0 hown hK hP 0 rfl rfl 1 (by decide) (hts (.fieldLink RX0 9 "DepotMarch$Book" "numbers" "[I") (by decide +kernel)) (fun _ h9 => h9) rfl dX0_write_62 ?_
  refine lv_iload hx hb dX0_write_65 (lv_at hl 0 rfl) ?_
  refine lv_iconst (v := 3) hx hb dX0_write_67 (by decide) ?_
  refine lv_iadd hx hb dX0_write_68 ?_
  refine lv_topi (fun x12 ex12 => ?_)
  obtain rfl : x12 = 3 := ex12.trans (by decide)
  refine lv_iload hx hb dX0_write_69 (lv_at hl 5 rfl) ?_
  refine va_iast hx hb hK hP hD hS 1 0 rfl rfl (vpd rfl) dX0_write_71 (fun H13 locs hP hD hS => ?_)
  have hP : va_P (dC, dI) vwCl [((q 8), .inr (0, [.int 1, .ref (q 9)])), ((q 9), .inl (cI, 3600, .inl (upd (upd (upd (upd (fun _ => 0) 0 0) 1 0) 2 (-1)) 3 0)))] H13 := hP
  have hD : va_D A [((q 8), .inr (0, [.int 1, .ref (q 9)])), ((q 9), .inl (cI, 3600, .inl (upd (upd (upd (upd (fun _ => 0) 0 0) 1 0) 2 (-1)) 3 0)))] := hD
  refine lv_aload_n hx hb dX0_write_72 rfl (lv_at hl 1 rfl) ?_
  refine va_get (D := (dC, dI)) (ci := 0) (v := .ref (q 9)) (C := RX0) (T := TX0) (N := 2) hx hb hts in_write_X0 hown hK hP 0 rfl rfl 1 (by decide) (hts (.fieldLink RX0 9 "DepotMarch$Book" "numbers" "[I") (by decide +kernel)) (fun _ h9 => h9) rfl dX0_write_73 ?_
  refine lv_iload hx hb dX0_write_76 (lv_at hl 0 rfl) ?_
  refine lv_iconst (v := 4) hx hb dX0_write_78 (by decide) ?_
  refine lv_iadd hx hb dX0_write_79 ?_
  refine lv_topi (fun x14 ex14 => ?_)
  obtain rfl : x14 = 4 := ex14.trans (by decide)
  refine lv_iload hx hb dX0_write_80 (lv_at hl 6 rfl) ?_
  refine va_iast hx hb hK hP hD hS 1 0 rfl rfl (vpd rfl) dX0_write_82 (fun H15 locs hP hD hS => ?_)
  have hP : va_P (dC, dI) vwCl [((q 8), .inr (0, [.int 1, .ref (q 9)])), ((q 9), .inl (cI, 3600, .inl (upd (upd (upd (upd (upd (fun _ => 0) 0 0) 1 0) 2 (-1)) 3 0) 4 0)))] H15 := hP
  have hD : va_D A [((q 8), .inr (0, [.int 1, .ref (q 9)])), ((q 9), .inl (cI, 3600, .inl (upd (upd (upd (upd (upd (fun _ => 0) 0 0) 1 0) 2 (-1)) 3 0) 4 0)))] := hD
  refine lv_aload_n hx hb dX0_write_83 rfl (lv_at hl 1 rfl) ?_
  refine va_get (D := (dC, dI)) (ci := 0) (v := .ref (q 9)) (C := RX0) (T := TX0) (N := 2) hx hb hts in_write_X0 hown hK hP 0 rfl rfl 1 (by decide) (hts (.fieldLink RX0 9 "DepotMarch$Book" "numbers" "[I") (by decide +kernel)) (fun _ h9 => h9) rfl dX0_write_84 ?_
  refine lv_iload hx hb dX0_write_87 (lv_at hl 0 rfl) ?_
  refine lv_iconst (v := 5) hx hb dX0_write_89 (by decide) ?_
  refine lv_iadd hx hb dX0_write_90 ?_
  refine lv_topi (fun x16 ex16 => ?_)
  obtain rfl : x16 = 5 := ex16.trans (by decide)
  refine lv_iload hx hb dX0_write_91 (lv_at hl 7 rfl) ?_
  refine va_iast hx hb hK hP hD hS 1 0 rfl rfl (vpd rfl) dX0_write_93 (fun H17 locs hP hD hS => ?_)
  have hP : va_P (dC, dI) vwCl [((q 8), .inr (0, [.int 1, .ref (q 9)])), ((q 9), .inl (cI, 3600, .inl (upd (upd (upd (upd (upd (upd (fun _ => 0) 0 0) 1 0) 2 (-1)) 3 0) 4 0) 5 v)))] H17 := hP
  have hD : va_D A [((q 8), .inr (0, [.int 1, .ref (q 9)])), ((q 9), .inl (cI, 3600, .inl (upd (upd (upd (upd (upd (upd (fun _ => 0) 0 0) 1 0) 2 (-1)) 3 0) 4 0) 5 v)))] := hD
  have hP9 := hP.sub (ws' := []) [] rfl
  have hD9 := hD.sub (ws' := []) [] (by decide) rfl
  refine W.widen (k := 0) (n := 0) (by decide) (by decide) ?_
  exact W.vret hx hb hr (fun t ht hW => ⟨⟨(), rfl, trivial, by rw [ht]; exact hP9, hD9⟩, hS.F ht⟩) hS.2.2 dX0_write_94

def vs_makeLot : List Cond := [.code yX6_makeLot cX6_makeLot 3 (some .int), .fieldLink RX6 55 "DepotMarch$World" "lots" "I", .code yX7_within cX7_within 2 (some .boolean), .initialized RX7, .static yX7_within, .fieldLink RX6 33 "DepotMarch$World" "lotRations" "[I", .fieldLink RX6 12 "DepotMarch$World" "rows" "LDepotMarch$Rows;", .code yX4_add cX4_add 6 none, .fieldLink RX4 18 "DepotMarch$Rows" "amounts" "[I", .fieldLink RX4 15 "DepotMarch$Rows" "last" "[I", .fieldLink RX4 46 "DepotMarch$Rows" "used" "I", .code yX4_freshRun cX4_freshRun 4 (some .int), .fieldLink RX4 30 "DepotMarch$Rows" "free" "I", .fieldLink RX4 21 "DepotMarch$Rows" "lotOf" "[I", .fieldLink RX4 24 "DepotMarch$Rows" "rations" "[I", .fieldLink RX4 27 "DepotMarch$Rows" "next" "[I", .methodLink RX4 57 yX4_freshRun, .instanceMethod yX4_freshRun, .selects RX4 yX4_freshRun yX4_freshRun, .initialized RX4, .fieldLink RX4 9 "DepotMarch$Rows" "first" "[I", .methodLink RX6 85 yX4_add, .instanceMethod yX4_add, .selects RX4 yX4_add yX4_add, .fieldLink RX6 21 "DepotMarch$World" "book" "LDepotMarch$Book;", .fieldLink RX6 51 "DepotMarch$World" "day" "I", .code yX0_write cX0_write 8 none, .code yX0_kept cX0_kept 1 (some .int), .fieldLink RX0 15 "DepotMarch$Book" "lines" "I", .methodLink RX0 29 Lib.Math.min.name, .static Lib.Math.min.name, .initialized "java/lang/Math", .code Lib.Math.min.name Lib.Math.min.code 2 (some .int), .methodLink RX0 19 yX0_kept, .instanceMethod yX0_kept, .selects RX0 yX0_kept yX0_kept, .initialized RX0, .fieldLink RX0 9 "DepotMarch$Book" "numbers" "[I", .methodLink RX6 89 yX0_write, .instanceMethod yX0_write, .selects RX0 yX0_write yX0_write] ++ (wsX60 ++ (wsX40 ++ (wsX00)))
theorem in_makeLot_X6 : ∀ w ∈ u_ws RX6 TX6 9, w ∈ vs_makeLot := fun w h => List.mem_append_right _ (List.mem_append_left _ h)
theorem in_makeLot_X4 : ∀ w ∈ u_ws RX4 TX4 8, w ∈ vs_makeLot := fun w h => List.mem_append_right _ (List.mem_append_right _ (List.mem_append_left _ h))
theorem in_makeLot_X0 : ∀ w ∈ u_ws RX0 TX0 2, w ∈ vs_makeLot := fun w h => List.mem_append_right _ (List.mem_append_right _ (List.mem_append_right _ (h)))
set_option maxRecDepth 20000 in
theorem gg_makeLot_within : GoodIn vs_makeLot vs_within := goodIn_r _ [2] (by decide +kernel) (by decide +kernel)
set_option maxRecDepth 20000 in
theorem gg_makeLot_add : GoodIn vs_makeLot vs_add := goodIn_r _ [7, 2, 3, 4, 8, 9, 10, 11, 12, 13, 14, 15, 16, 17, 18, 19, 20, 50, 51, 52, 53, 54, 55, 56, 57] (by decide +kernel) (by decide +kernel)
set_option maxRecDepth 20000 in
theorem gg_makeLot_write : GoodIn vs_makeLot vs_write := goodIn_r _ [26, 27, 28, 29, 30, 31, 32, 33, 34, 35, 36, 37, 58, 59] (by decide +kernel) (by decide +kernel)
set_option maxRecDepth 20000 in
theorem g85_makeLot_add : GoodIn vs_makeLot (wsV RX6 85 RX4 yX4_add vs_add) := goodIn_app (goodIn_of _ (by decide +kernel)) gg_makeLot_add
set_option maxRecDepth 20000 in
theorem g89_makeLot_write : GoodIn vs_makeLot (wsV RX6 89 RX0 yX0_write vs_write) := goodIn_app (goodIn_of _ (by decide +kernel)) gg_makeLot_write
set_option maxHeartbeats 4000000 in
set_option maxRecDepth 100000 in
theorem c_makeLot (l : Launch) (dC : Nat → ClassId) (dI : Nat → Nat → Nat) (cI cZ cB cJ cP cW : ClassId) (q : Nat → Nat) (v : Int32) (sz : Nat) (hv : 0 < v) : Met l yX6_makeLot vs_makeLot ({ frames := 4, cells := 0, slots := 0, locals := 240 }) (va_Pc [.ref (q 0), .int v] (fun U => U.heap.size = sz ∧ EV dC dI cI cZ cB cJ cP cW U ∧ va_P (dC, dI) vwCl [((q 0), .inr (6, [.int 0, .int 0, .int 0, .ref (q 1), .ref (q 8), .ref (q 10), .ref (q 11), .ref (q 12), .ref (q 13)])), ((q 12), .inl (cI, 20, .inl (fun _ => 0))), ((q 1), .inr (4, [.ref (q 2), .ref (q 3), .ref (q 4), .ref (q 5), .ref (q 6), .ref (q 7), .int 0, .int (-1)])), ((q 2), .inl (cI, 22, .inl (fun _ => (-1)))), ((q 3), .inl (cI, 22, .inl (fun _ => (-1)))), ((q 4), .inl (cI, 22, .inl (fun _ => 0))), ((q 5), .inl (cI, 64, .inl (fun _ => 0))), ((q 6), .inl (cI, 64, .inl (fun _ => 0))), ((q 7), .inl (cI, 64, .inl (fun _ => 0))), ((q 8), .inr (0, [.int 0, .ref (q 9)])), ((q 9), .inl (cI, 3600, .inl (fun _ => 0)))] U.heap ∧ va_D (fun _ => True) [((q 0), .inr (6, [.int 0, .int 0, .int 0, .ref (q 1), .ref (q 8), .ref (q 10), .ref (q 11), .ref (q 12), .ref (q 13)])), ((q 12), .inl (cI, 20, .inl (fun _ => 0))), ((q 1), .inr (4, [.ref (q 2), .ref (q 3), .ref (q 4), .ref (q 5), .ref (q 6), .ref (q 7), .int 0, .int (-1)])), ((q 2), .inl (cI, 22, .inl (fun _ => (-1)))), ((q 3), .inl (cI, 22, .inl (fun _ => (-1)))), ((q 4), .inl (cI, 22, .inl (fun _ => 0))), ((q 5), .inl (cI, 64, .inl (fun _ => 0))), ((q 6), .inl (cI, 64, .inl (fun _ => 0))), ((q 7), .inl (cI, 64, .inl (fun _ => 0))), ((q 8), .inr (0, [.int 0, .ref (q 9)])), ((q 9), .inl (cI, 3600, .inl (fun _ => 0)))])) (va_Qi (fun (r : Int32) (u : Unit) => r = 0) (fun u t => va_P (dC, dI) vwCl [] t.heap ∧ va_D (va_A [((q 0), .inr (6, [.int 0, .int 0, .int 0, .ref (q 1), .ref (q 8), .ref (q 10), .ref (q 11), .ref (q 12), .ref (q 13)])), ((q 12), .inl (cI, 20, .inl (fun _ => 0))), ((q 1), .inr (4, [.ref (q 2), .ref (q 3), .ref (q 4), .ref (q 5), .ref (q 6), .ref (q 7), .int 0, .int (-1)])), ((q 2), .inl (cI, 22, .inl (fun _ => (-1)))), ((q 3), .inl (cI, 22, .inl (fun _ => (-1)))), ((q 4), .inl (cI, 22, .inl (fun _ => 0))), ((q 5), .inl (cI, 64, .inl (fun _ => 0))), ((q 6), .inl (cI, 64, .inl (fun _ => 0))), ((q 7), .inl (cI, 64, .inl (fun _ => 0))), ((q 8), .inr (0, [.int 0, .ref (q 9)])), ((q 9), .inl (cI, 3600, .inl (fun _ => 0)))] sz) []) (va_A [((q 0), .inr (6, [.int 0, .int 0, .int 0, .ref (q 1), .ref (q 8), .ref (q 10), .ref (q 11), .ref (q 12), .ref (q 13)])), ((q 12), .inl (cI, 20, .inl (fun _ => 0))), ((q 1), .inr (4, [.ref (q 2), .ref (q 3), .ref (q 4), .ref (q 5), .ref (q 6), .ref (q 7), .int 0, .int (-1)])), ((q 2), .inl (cI, 22, .inl (fun _ => (-1)))), ((q 3), .inl (cI, 22, .inl (fun _ => (-1)))), ((q 4), .inl (cI, 22, .inl (fun _ => 0))), ((q 5), .inl (cI, 64, .inl (fun _ => 0))), ((q 6), .inl (cI, 64, .inl (fun _ => 0))), ((q 7), .inl (cI, 64, .inl (fun _ => 0))), ((q 8), .inr (0, [.int 0, .ref (q 9)])), ((q 9), .inl (cI, 3600, .inl (fun _ => 0)))] sz)) 0 0 (va_A [((q 0), .inr (6, [.int 0, .int 0, .int 0, .ref (q 1), .ref (q 8), .ref (q 10), .ref (q 11), .ref (q 12), .ref (q 13)])), ((q 12), .inl (cI, 20, .inl (fun _ => 0))), ((q 1), .inr (4, [.ref (q 2), .ref (q 3), .ref (q 4), .ref (q 5), .ref (q 6), .ref (q 7), .int 0, .int (-1)])), ((q 2), .inl (cI, 22, .inl (fun _ => (-1)))), ((q 3), .inl (cI, 22, .inl (fun _ => (-1)))), ((q 4), .inl (cI, 22, .inl (fun _ => 0))), ((q 5), .inl (cI, 64, .inl (fun _ => 0))), ((q 6), .inl (cI, 64, .inl (fun _ => 0))), ((q 7), .inl (cI, 64, .inl (fun _ => 0))), ((q 8), .inr (0, [.int 0, .ref (q 9)])), ((q 9), .inl (cI, 3600, .inl (fun _ => 0)))] sz) := by
  refine Met.ofW (cc := cX6_makeLot) (maxL := 3) (ret := (some .int)) (by decide) rfl ?_
  intro p e s m args below meth c s₁ B hml hv
  obtain ⟨rfl, hsz, hE, hP, hD0⟩ := hv
  have hx := B.exec
  have hb := B.bytes
  have hr := B.returns
  have hts := atoms_spec (ws := vs_makeLot) B.pre
  have hown : s.vm.findClass RX6 = some m.cls := findClass_of_methodNamed B.named
  have hlocks := B.notSynchronized
  have hK := hE.2
  subst hsz
  have hD := hD0.self (sz := s.heap.size)
  generalize hAe : va_A [((q 0), .inr (6, [.int 0, .int 0, .int 0, .ref (q 1), .ref (q 8), .ref (q 10), .ref (q 11), .ref (q 12), .ref (q 13)])), ((q 12), .inl (cI, 20, .inl (fun _ => 0))), ((q 1), .inr (4, [.ref (q 2), .ref (q 3), .ref (q 4), .ref (q 5), .ref (q 6), .ref (q 7), .int 0, .int (-1)])), ((q 2), .inl (cI, 22, .inl (fun _ => (-1)))), ((q 3), .inl (cI, 22, .inl (fun _ => (-1)))), ((q 4), .inl (cI, 22, .inl (fun _ => 0))), ((q 5), .inl (cI, 64, .inl (fun _ => 0))), ((q 6), .inl (cI, 64, .inl (fun _ => 0))), ((q 7), .inl (cI, 64, .inl (fun _ => 0))), ((q 8), .inr (0, [.int 0, .ref (q 9)])), ((q 9), .inl (cI, 3600, .inl (fun _ => 0)))] s.heap.size = A at hD ⊢
  have hA : ∀ q : Nat, s.heap.size ≤ q → A q := fun q h => by rw [← hAe]; exact Or.inr h
  have hS : va_S A s.heap s.heap [] := va_S.rf
  have hl := lv_entry ([.ref (q 0), .int v]) (n := 3) (Nat.le_of_ble_eq_true rfl)
  rw [lg_entry_eq]
  generalize (lg_sl ([.ref (q 0), .int v]) ++ List.replicate (3 - (lg_sl ([.ref (q 0), .int v])).length) Slot.unset).toArray = ls at hl ⊢
  have hl : lv_has ls 3 [(0, .ref (q 0)), (1, .int v)] := hl
  refine lv_aload_n hx hb dX6_makeLot_0 rfl (lv_at hl 0 rfl) ?_
  refine va_get (D := (dC, dI)) (ci := 6) (v := .int 0) (C := RX6) (T := TX6) (N := 9) hx hb hts in_makeLot_X6 hown hK hP 0 rfl rfl 1 (by decide) (hts (.fieldLink RX6 55 "DepotMarch$World" "lots" "I") (by decide +kernel)) (fun _ h9 => h9) rfl dX6_makeLot_1 ?_
  refine lv_bipush (v := 20) hx hb dX6_makeLot_4 (by decide) ?_
  refine vp_callSi (va_Run.run (va_runSN (As := [.int 0, .int 20]) (rest := []) ⟨hx, hb, hml, hown, hts⟩ (c_within l dC dI cI cZ cB cJ cP cW 0 20) ⟨(va_cnB 2 hts gg_makeLot_within rfl rfl rfl hE.1.n_World_77 (hts (.initialized RX7) (by decide +kernel)) (by decide +kernel) ⟨Nat.le_of_ble_eq_true rfl, Nat.le_of_ble_eq_true rfl⟩), (hts (.static yX7_within) (by decide +kernel)), trivial⟩ ⟨fbR, fun U hU hW => ⟨rfl, hE.warm hW, by rw [hU]; exact (fun k q h => by simp at h)⟩⟩ rfl rfl hl.1 rfl (lv_room (Nat.le_of_ble_eq_true rfl)) dX6_makeLot_6 ⟨Nat.le_of_ble_eq_true rfl, Nat.le_of_ble_eq_true rfl⟩)) (fun r1 hr1 => ?_)
  obtain rfl : r1 = 1 := hr1.trans (by decide)
  refine lv_if_ne (tgt := 14) hx hb dX6_makeLot_9 (by decide) (fun _ => ?_) (fun c9 => absurd c9 (by decide))
  refine lv_aload_n hx hb dX6_makeLot_14 rfl (lv_at hl 0 rfl) ?_
  refine va_get (D := (dC, dI)) (ci := 6) (v := .int 0) (C := RX6) (T := TX6) (N := 9) hx hb hts in_makeLot_X6 hown hK hP 0 rfl rfl 1 (by decide) (hts (.fieldLink RX6 55 "DepotMarch$World" "lots" "I") (by decide +kernel)) (fun _ h9 => h9) rfl dX6_makeLot_15 ?_
  refine lv_istore_n (lv' := [(2, .int 0), (0, .ref (q 0)), (1, .int v)]) hx hb dX6_makeLot_18 rfl hl (by decide) rfl (fun ls hl => ?_)
  refine lv_aload_n hx hb dX6_makeLot_19 rfl (lv_at hl 1 rfl) ?_
  refine lv_dup hx hb dX6_makeLot_20 rfl ?_
  refine va_get (D := (dC, dI)) (ci := 6) (v := .int 0) (C := RX6) (T := TX6) (N := 9) hx hb hts in_makeLot_X6 hown hK hP 0 rfl rfl 1 (by decide) (hts (.fieldLink RX6 55 "DepotMarch$World" "lots" "I") (by decide +kernel)) (fun _ h9 => h9) rfl dX6_makeLot_21 ?_
  refine lv_iconst (v := 1) hx hb dX6_makeLot_24 (by decide) ?_
  refine lv_iadd hx hb dX6_makeLot_25 ?_
  refine lv_topi (fun x3 ex3 => ?_)
  obtain rfl : x3 = 1 := ex3.trans (by decide)
  refine va_put (D := (dC, dI)) (ci := 6) (v := .int 1) (ty := .int) (C := RX6) (T := TX6) (N := 9) hx hb hts in_makeLot_X6 tyX6 tyX6_ok nmX6 hown hK hP hD hS 0 rfl rfl 1 (by decide) (hts (.fieldLink RX6 55 "DepotMarch$World" "lots" "I") (by decide +kernel)) (fun _ h9 => h9) rfl (by decide +kernel) rfl rfl (Nat.le_of_ble_eq_true rfl) dX6_makeLot_26 (fun H4 locs hP hD hS => ?_)
  have hP : va_P (dC, dI) vwCl [((q 0), .inr (6, [.int 0, .int 1, .int 0, .ref (q 1), .ref (q 8), .ref (q 10), .ref (q 11), .ref (q 12), .ref (q 13)])), ((q 12), .inl (cI, 20, .inl (fun _ => 0))), ((q 1), .inr (4, [.ref (q 2), .ref (q 3), .ref (q 4), .ref (q 5), .ref (q 6), .ref (q 7), .int 0, .int (-1)])), ((q 2), .inl (cI, 22, .inl (fun _ => (-1)))), ((q 3), .inl (cI, 22, .inl (fun _ => (-1)))), ((q 4), .inl (cI, 22, .inl (fun _ => 0))), ((q 5), .inl (cI, 64, .inl (fun _ => 0))), ((q 6), .inl (cI, 64, .inl (fun _ => 0))), ((q 7), .inl (cI, 64, .inl (fun _ => 0))), ((q 8), .inr (0, [.int 0, .ref (q 9)])), ((q 9), .inl (cI, 3600, .inl (fun _ => 0)))] H4 := hP
  have hD : va_D A [((q 0), .inr (6, [.int 0, .int 1, .int 0, .ref (q 1), .ref (q 8), .ref (q 10), .ref (q 11), .ref (q 12), .ref (q 13)])), ((q 12), .inl (cI, 20, .inl (fun _ => 0))), ((q 1), .inr (4, [.ref (q 2), .ref (q 3), .ref (q 4), .ref (q 5), .ref (q 6), .ref (q 7), .int 0, .int (-1)])), ((q 2), .inl (cI, 22, .inl (fun _ => (-1)))), ((q 3), .inl (cI, 22, .inl (fun _ => (-1)))), ((q 4), .inl (cI, 22, .inl (fun _ => 0))), ((q 5), .inl (cI, 64, .inl (fun _ => 0))), ((q 6), .inl (cI, 64, .inl (fun _ => 0))), ((q 7), .inl (cI, 64, .inl (fun _ => 0))), ((q 8), .inr (0, [.int 0, .ref (q 9)])), ((q 9), .inl (cI, 3600, .inl (fun _ => 0)))] := hD
  refine lv_aload_n hx hb dX6_makeLot_29 rfl (lv_at hl 1 rfl) ?_
  refine va_get (D := (dC, dI)) (ci := 6) (v := .ref (q 12)) (C := RX6) (T := TX6) (N := 9) hx hb hts in_makeLot_X6 hown hK hP 0 rfl rfl 7 (by decide) (hts (.fieldLink RX6 33 "DepotMarch$World" "lotRations" "[I") (by decide +kernel)) (fun _ h9 => h9) rfl dX6_makeLot_30 ?_
  refine lv_iload_n hx hb dX6_makeLot_33 rfl (lv_at hl 0 rfl) ?_
  refine lv_iload_n hx hb dX6_makeLot_34 rfl (lv_at hl 2 rfl) ?_
  refine va_iast hx hb hK hP hD hS 1 0 rfl rfl (vpd rfl) dX6_makeLot_35 (fun H5 locs hP hD hS => ?_)
  have hP : va_P (dC, dI) vwCl [((q 0), .inr (6, [.int 0, .int 1, .int 0, .ref (q 1), .ref (q 8), .ref (q 10), .ref (q 11), .ref (q 12), .ref (q 13)])), ((q 12), .inl (cI, 20, .inl (upd (fun _ => 0) 0 v))), ((q 1), .inr (4, [.ref (q 2), .ref (q 3), .ref (q 4), .ref (q 5), .ref (q 6), .ref (q 7), .int 0, .int (-1)])), ((q 2), .inl (cI, 22, .inl (fun _ => (-1)))), ((q 3), .inl (cI, 22, .inl (fun _ => (-1)))), ((q 4), .inl (cI, 22, .inl (fun _ => 0))), ((q 5), .inl (cI, 64, .inl (fun _ => 0))), ((q 6), .inl (cI, 64, .inl (fun _ => 0))), ((q 7), .inl (cI, 64, .inl (fun _ => 0))), ((q 8), .inr (0, [.int 0, .ref (q 9)])), ((q 9), .inl (cI, 3600, .inl (fun _ => 0)))] H5 := hP
  have hD : va_D A [((q 0), .inr (6, [.int 0, .int 1, .int 0, .ref (q 1), .ref (q 8), .ref (q 10), .ref (q 11), .ref (q 12), .ref (q 13)])), ((q 12), .inl (cI, 20, .inl (upd (fun _ => 0) 0 v))), ((q 1), .inr (4, [.ref (q 2), .ref (q 3), .ref (q 4), .ref (q 5), .ref (q 6), .ref (q 7), .int 0, .int (-1)])), ((q 2), .inl (cI, 22, .inl (fun _ => (-1)))), ((q 3), .inl (cI, 22, .inl (fun _ => (-1)))), ((q 4), .inl (cI, 22, .inl (fun _ => 0))), ((q 5), .inl (cI, 64, .inl (fun _ => 0))), ((q 6), .inl (cI, 64, .inl (fun _ => 0))), ((q 7), .inl (cI, 64, .inl (fun _ => 0))), ((q 8), .inr (0, [.int 0, .ref (q 9)])), ((q 9), .inl (cI, 3600, .inl (fun _ => 0)))] := hD
  refine lv_aload_n hx hb dX6_makeLot_36 rfl (lv_at hl 1 rfl) ?_
  refine va_get (D := (dC, dI)) (ci := 6) (v := .ref (q 1)) (C := RX6) (T := TX6) (N := 9) hx hb hts in_makeLot_X6 hown hK hP 0 rfl rfl 3 (by decide) (hts (.fieldLink RX6 12 "DepotMarch$World" "rows" "LDepotMarch$Rows;") (by decide +kernel)) (fun _ h9 => h9) rfl dX6_makeLot_37 ?_
  refine lv_iconst (v := 0) hx hb dX6_makeLot_40 (by decide) ?_
  refine lv_iload_n hx hb dX6_makeLot_41 rfl (lv_at hl 0 rfl) ?_
  refine lv_iload_n hx hb dX6_makeLot_42 rfl (lv_at hl 2 rfl) ?_
  have hPc := hP.sub (ws' := [((q 1), .inr (4, [.ref (q 2), .ref (q 3), .ref (q 4), .ref (q 5), .ref (q 6), .ref (q 7), .int 0, .int (-1)])), ((q 2), .inl (cI, 22, .inl (fun _ => (-1)))), ((q 3), .inl (cI, 22, .inl (fun _ => (-1)))), ((q 4), .inl (cI, 22, .inl (fun _ => 0))), ((q 5), .inl (cI, 64, .inl (fun _ => 0))), ((q 6), .inl (cI, 64, .inl (fun _ => 0))), ((q 7), .inl (cI, 64, .inl (fun _ => 0)))]) [2, 3, 4, 5, 6, 7, 8] rfl
  have hDc := hD.sub (ws' := [((q 1), .inr (4, [.ref (q 2), .ref (q 3), .ref (q 4), .ref (q 5), .ref (q 6), .ref (q 7), .int 0, .int (-1)])), ((q 2), .inl (cI, 22, .inl (fun _ => (-1)))), ((q 3), .inl (cI, 22, .inl (fun _ => (-1)))), ((q 4), .inl (cI, 22, .inl (fun _ => 0))), ((q 5), .inl (cI, 64, .inl (fun _ => 0))), ((q 6), .inl (cI, 64, .inl (fun _ => 0))), ((q 7), .inl (cI, 64, .inl (fun _ => 0)))]) [2, 3, 4, 5, 6, 7, 8] (by decide) rfl
  have hFc := va_free (wc := [((q 1), .inr (4, [.ref (q 2), .ref (q 3), .ref (q 4), .ref (q 5), .ref (q 6), .ref (q 7), .int 0, .int (-1)])), ((q 2), .inl (cI, 22, .inl (fun _ => (-1)))), ((q 3), .inl (cI, 22, .inl (fun _ => (-1)))), ((q 4), .inl (cI, 22, .inl (fun _ => 0))), ((q 5), .inl (cI, 64, .inl (fun _ => 0))), ((q 6), .inl (cI, 64, .inl (fun _ => 0))), ((q 7), .inl (cI, 64, .inl (fun _ => 0)))]) hD hS hA [2, 3, 4, 5, 6, 7, 8] rfl
  refine va_callv (va_runV (As := [.int 0, .int 0, .int v]) (rest := []) ⟨hx, hb, hml, hown, hts⟩ ((c_add l dC dI cI cZ cB cJ cP cW q v H5.size) hv) (cwV 3 hts g85_makeLot_add rfl rfl rfl (by decide +kernel) ⟨Nat.le_of_ble_eq_true rfl, Nat.le_of_ble_eq_true rfl⟩) ⟨fbM, va_recv hK hPc (ci := 4) (q0 := 0) rfl rfl, fun U hU hW => ⟨rfl, by rw [hU], hE.warm hW, by rw [hU]; exact hPc, hDc.weaken (fun _ _ _ _ => trivial)⟩⟩ rfl rfl hl.1 rfl (lv_room (Nat.le_of_ble_eq_true rfl)) dX6_makeLot_43 ⟨Nat.le_of_ble_eq_true rfl, Nat.le_of_ble_eq_true rfl⟩) hS (fun q _ h => hFc q h) hFc (fun u7 t H8 locs ht hvm hr6 hB hz1 hk1 hS => ?_)
  obtain ⟨hP1, hD1⟩ := hB
  rw [ht] at hP1
  obtain ⟨hP, hD⟩ := va_join (wr := [((q 0), .inr (6, [.int 0, .int 1, .int 0, .ref (q 1), .ref (q 8), .ref (q 10), .ref (q 11), .ref (q 12), .ref (q 13)])), ((q 12), .inl (cI, 20, .inl (upd (fun _ => 0) 0 v))), ((q 8), .inr (0, [.int 0, .ref (q 9)])), ((q 9), .inl (cI, 3600, .inl (fun _ => 0)))]) (w1 := []) hP hD [2, 3, 4, 5, 6, 7, 8] [0, 1, 9, 10] rfl rfl (by decide) (by decide) hk1 hFc hP1 hD1
  have hP : va_P (dC, dI) vwCl [((q 0), .inr (6, [.int 0, .int 1, .int 0, .ref (q 1), .ref (q 8), .ref (q 10), .ref (q 11), .ref (q 12), .ref (q 13)])), ((q 12), .inl (cI, 20, .inl (upd (fun _ => 0) 0 v))), ((q 8), .inr (0, [.int 0, .ref (q 9)])), ((q 9), .inl (cI, 3600, .inl (fun _ => 0)))] H8 := hP
  have hD : va_D A [((q 0), .inr (6, [.int 0, .int 1, .int 0, .ref (q 1), .ref (q 8), .ref (q 10), .ref (q 11), .ref (q 12), .ref (q 13)])), ((q 12), .inl (cI, 20, .inl (upd (fun _ => 0) 0 v))), ((q 8), .inr (0, [.int 0, .ref (q 9)])), ((q 9), .inl (cI, 3600, .inl (fun _ => 0)))] := hD
  refine lv_aload_n hx hb dX6_makeLot_46 rfl (lv_at hl 1 rfl) ?_
  refine va_get (D := (dC, dI)) (ci := 6) (v := .ref (q 8)) (C := RX6) (T := TX6) (N := 9) hx hb hts in_makeLot_X6 hown hK hP 0 rfl rfl 4 (by decide) (hts (.fieldLink RX6 21 "DepotMarch$World" "book" "LDepotMarch$Book;") (by decide +kernel)) (fun _ h9 => h9) rfl dX6_makeLot_47 ?_
  refine lv_iconst (v := 0) hx hb dX6_makeLot_50 (by decide) ?_
  refine lv_aload_n hx hb dX6_makeLot_51 rfl (lv_at hl 1 rfl) ?_
  refine va_get (D := (dC, dI)) (ci := 6) (v := .int 0) (C := RX6) (T := TX6) (N := 9) hx hb hts in_makeLot_X6 hown hK hP 0 rfl rfl 0 (by decide) (hts (.fieldLink RX6 51 "DepotMarch$World" "day" "I") (by decide +kernel)) (fun _ h9 => h9) rfl dX6_makeLot_52 ?_
  refine lv_iconst (v := (-1)) hx hb dX6_makeLot_55 (by decide) ?_
  refine lv_iconst (v := 0) hx hb dX6_makeLot_56 (by decide) ?_
  refine lv_iload_n hx hb dX6_makeLot_57 rfl (lv_at hl 0 rfl) ?_
  refine lv_iload_n hx hb dX6_makeLot_58 rfl (lv_at hl 2 rfl) ?_
  have hPc := hP.sub (ws' := [((q 8), .inr (0, [.int 0, .ref (q 9)])), ((q 9), .inl (cI, 3600, .inl (fun _ => 0)))]) [2, 3] rfl
  have hDc := hD.sub (ws' := [((q 8), .inr (0, [.int 0, .ref (q 9)])), ((q 9), .inl (cI, 3600, .inl (fun _ => 0)))]) [2, 3] (by decide) rfl
  have hFc := va_free (wc := [((q 8), .inr (0, [.int 0, .ref (q 9)])), ((q 9), .inl (cI, 3600, .inl (fun _ => 0)))]) hD hS hA [2, 3] rfl
  refine va_callv (va_runV (As := [.int 0, .int 0, .int (-1), .int 0, .int 0, .int v]) (rest := []) ⟨hx, hb, hml, hown, hts⟩ (c_write l dC dI cI cZ cB cJ cP cW q v H8.size) (cwV 6 hts g89_makeLot_write rfl rfl rfl (by decide +kernel) ⟨Nat.le_of_ble_eq_true rfl, Nat.le_of_ble_eq_true rfl⟩) ⟨fbM, va_recv hK hPc (ci := 0) (q0 := 0) rfl rfl, fun U hU hW => ⟨rfl, by rw [hU], hE.warm hW, by rw [hU]; exact hPc, hDc.weaken (fun _ _ _ _ => trivial)⟩⟩ rfl rfl hl.1 rfl (lv_room (Nat.le_of_ble_eq_true rfl)) dX6_makeLot_59 ⟨Nat.le_of_ble_eq_true rfl, Nat.le_of_ble_eq_true rfl⟩) hS (fun q _ h => hFc q h) hFc (fun u10 t H11 locs ht hvm hr9 hB hz1 hk1 hS => ?_)
  obtain ⟨hP1, hD1⟩ := hB
  rw [ht] at hP1
  obtain ⟨hP, hD⟩ := va_join (wr := [((q 0), .inr (6, [.int 0, .int 1, .int 0, .ref (q 1), .ref (q 8), .ref (q 10), .ref (q 11), .ref (q 12), .ref (q 13)])), ((q 12), .inl (cI, 20, .inl (upd (fun _ => 0) 0 v)))]) (w1 := []) hP hD [2, 3] [0, 1] rfl rfl (by decide) (by decide) hk1 hFc hP1 hD1
  have hP : va_P (dC, dI) vwCl [((q 0), .inr (6, [.int 0, .int 1, .int 0, .ref (q 1), .ref (q 8), .ref (q 10), .ref (q 11), .ref (q 12), .ref (q 13)])), ((q 12), .inl (cI, 20, .inl (upd (fun _ => 0) 0 v)))] H11 := hP
  have hD : va_D A [((q 0), .inr (6, [.int 0, .int 1, .int 0, .ref (q 1), .ref (q 8), .ref (q 10), .ref (q 11), .ref (q 12), .ref (q 13)])), ((q 12), .inl (cI, 20, .inl (upd (fun _ => 0) 0 v)))] := hD
  refine lv_iload_n hx hb dX6_makeLot_62 rfl (lv_at hl 0 rfl) ?_
  have hP9 := hP.sub (ws' := []) [] rfl
  have hD9 := hD.sub (ws' := []) [] (by decide) rfl
  refine W.widen (k := 0) (n := 0) (by decide) (by decide) ?_
  exact W.iret (v := 0) hx hb hr (fun t ht hW => ⟨⟨0, (), rfl, rfl, by rw [ht]; exact hP9, hD9⟩, hS.F ht⟩) hS.2.2 dX6_makeLot_63

def vs_x_land : List Cond := [.code yX7_land cX7_land 2 (some .int), .fieldLink RX7 30 "DepotMarch" "world" "LDepotMarch$World;", .code yX6_makeLot cX6_makeLot 3 (some .int), .fieldLink RX6 55 "DepotMarch$World" "lots" "I", .code yX7_within cX7_within 2 (some .boolean), .initialized RX7, .static yX7_within, .fieldLink RX6 33 "DepotMarch$World" "lotRations" "[I", .fieldLink RX6 12 "DepotMarch$World" "rows" "LDepotMarch$Rows;", .code yX4_add cX4_add 6 none, .fieldLink RX4 18 "DepotMarch$Rows" "amounts" "[I", .fieldLink RX4 15 "DepotMarch$Rows" "last" "[I", .fieldLink RX4 46 "DepotMarch$Rows" "used" "I", .code yX4_freshRun cX4_freshRun 4 (some .int), .fieldLink RX4 30 "DepotMarch$Rows" "free" "I", .fieldLink RX4 21 "DepotMarch$Rows" "lotOf" "[I", .fieldLink RX4 24 "DepotMarch$Rows" "rations" "[I", .fieldLink RX4 27 "DepotMarch$Rows" "next" "[I", .methodLink RX4 57 yX4_freshRun, .instanceMethod yX4_freshRun, .selects RX4 yX4_freshRun yX4_freshRun, .initialized RX4, .fieldLink RX4 9 "DepotMarch$Rows" "first" "[I", .methodLink RX6 85 yX4_add, .instanceMethod yX4_add, .selects RX4 yX4_add yX4_add, .fieldLink RX6 21 "DepotMarch$World" "book" "LDepotMarch$Book;", .fieldLink RX6 51 "DepotMarch$World" "day" "I", .code yX0_write cX0_write 8 none, .code yX0_kept cX0_kept 1 (some .int), .fieldLink RX0 15 "DepotMarch$Book" "lines" "I", .methodLink RX0 29 Lib.Math.min.name, .static Lib.Math.min.name, .initialized "java/lang/Math", .code Lib.Math.min.name Lib.Math.min.code 2 (some .int), .methodLink RX0 19 yX0_kept, .instanceMethod yX0_kept, .selects RX0 yX0_kept yX0_kept, .initialized RX0, .fieldLink RX0 9 "DepotMarch$Book" "numbers" "[I", .methodLink RX6 89 yX0_write, .instanceMethod yX0_write, .selects RX0 yX0_write yX0_write, .methodLink RX7 81 yX6_makeLot, .instanceMethod yX6_makeLot, .selects RX6 yX6_makeLot yX6_makeLot, .initialized RX6] ++ (wsX70 ++ (wsX60 ++ (wsX40 ++ (wsX00))))
theorem in_x_land_X7 : ∀ w ∈ u_ws RX7 TX7 7, w ∈ vs_x_land := fun w h => List.mem_append_right _ (List.mem_append_left _ h)
theorem in_x_land_X6 : ∀ w ∈ u_ws RX6 TX6 9, w ∈ vs_x_land := fun w h => List.mem_append_right _ (List.mem_append_right _ (List.mem_append_left _ h))
theorem in_x_land_X4 : ∀ w ∈ u_ws RX4 TX4 8, w ∈ vs_x_land := fun w h => List.mem_append_right _ (List.mem_append_right _ (List.mem_append_right _ (List.mem_append_left _ h)))
theorem in_x_land_X0 : ∀ w ∈ u_ws RX0 TX0 2, w ∈ vs_x_land := fun w h => List.mem_append_right _ (List.mem_append_right _ (List.mem_append_right _ (List.mem_append_right _ (h))))
set_option maxRecDepth 20000 in
theorem gg_x_land_makeLot : GoodIn vs_x_land vs_makeLot := goodIn_r _ [2, 3, 4, 5, 6, 7, 8, 9, 10, 11, 12, 13, 14, 15, 16, 17, 18, 19, 20, 21, 22, 23, 24, 25, 26, 27, 28, 29, 30, 31, 32, 33, 34, 35, 36, 37, 38, 39, 40, 41, 42, 54, 55, 56, 57, 58, 59, 60, 61, 62, 63, 64, 65, 66, 67, 68, 69, 70, 71, 72] (by decide +kernel) (by decide +kernel)
set_option maxRecDepth 20000 in
theorem g81_x_land_makeLot : GoodIn vs_x_land (wsV RX7 81 RX6 yX6_makeLot vs_makeLot) := goodIn_app (goodIn_of _ (by decide +kernel)) gg_x_land_makeLot
set_option maxHeartbeats 4000000 in
set_option maxRecDepth 100000 in
theorem c_x_land (l : Launch) (dC : Nat → ClassId) (dI : Nat → Nat → Nat) (cI cZ cB cJ cP cW : ClassId) (q : Nat → Nat) (v : Int32) (sz : Nat) : Met l yX7_land vs_x_land ({ frames := 6, cells := 0, slots := 0, locals := 360 }) (va_Pc [.ref (q 32), .int v] (fun U => U.heap.size = sz ∧ EV dC dI cI cZ cB cJ cP cW U ∧ va_P (dC, dI) vwCl [((q 32), .inr (7, [.ref (q 33), .int 0, .ref (q 34), .ref (q 40), .ref (q 0), .ref (q 42), .null])), ((q 0), .inr (6, [.int 0, .int 0, .int 0, .ref (q 1), .ref (q 8), .ref (q 10), .ref (q 11), .ref (q 12), .ref (q 13)])), ((q 12), .inl (cI, 20, .inl (fun _ => 0))), ((q 1), .inr (4, [.ref (q 2), .ref (q 3), .ref (q 4), .ref (q 5), .ref (q 6), .ref (q 7), .int 0, .int (-1)])), ((q 2), .inl (cI, 22, .inl (fun _ => (-1)))), ((q 3), .inl (cI, 22, .inl (fun _ => (-1)))), ((q 4), .inl (cI, 22, .inl (fun _ => 0))), ((q 5), .inl (cI, 64, .inl (fun _ => 0))), ((q 6), .inl (cI, 64, .inl (fun _ => 0))), ((q 7), .inl (cI, 64, .inl (fun _ => 0))), ((q 8), .inr (0, [.int 0, .ref (q 9)])), ((q 9), .inl (cI, 3600, .inl (fun _ => 0)))] U.heap ∧ va_D (fun _ => True) [((q 32), .inr (7, [.ref (q 33), .int 0, .ref (q 34), .ref (q 40), .ref (q 0), .ref (q 42), .null])), ((q 0), .inr (6, [.int 0, .int 0, .int 0, .ref (q 1), .ref (q 8), .ref (q 10), .ref (q 11), .ref (q 12), .ref (q 13)])), ((q 12), .inl (cI, 20, .inl (fun _ => 0))), ((q 1), .inr (4, [.ref (q 2), .ref (q 3), .ref (q 4), .ref (q 5), .ref (q 6), .ref (q 7), .int 0, .int (-1)])), ((q 2), .inl (cI, 22, .inl (fun _ => (-1)))), ((q 3), .inl (cI, 22, .inl (fun _ => (-1)))), ((q 4), .inl (cI, 22, .inl (fun _ => 0))), ((q 5), .inl (cI, 64, .inl (fun _ => 0))), ((q 6), .inl (cI, 64, .inl (fun _ => 0))), ((q 7), .inl (cI, 64, .inl (fun _ => 0))), ((q 8), .inr (0, [.int 0, .ref (q 9)])), ((q 9), .inl (cI, 3600, .inl (fun _ => 0)))])) (va_Qi (fun (r : Int32) (u : Unit) => r = if v < 1 then -1 else if 500 < v then -1 else 0) (fun u t => va_P (dC, dI) vwCl [] t.heap ∧ va_D (va_A [((q 32), .inr (7, [.ref (q 33), .int 0, .ref (q 34), .ref (q 40), .ref (q 0), .ref (q 42), .null])), ((q 0), .inr (6, [.int 0, .int 0, .int 0, .ref (q 1), .ref (q 8), .ref (q 10), .ref (q 11), .ref (q 12), .ref (q 13)])), ((q 12), .inl (cI, 20, .inl (fun _ => 0))), ((q 1), .inr (4, [.ref (q 2), .ref (q 3), .ref (q 4), .ref (q 5), .ref (q 6), .ref (q 7), .int 0, .int (-1)])), ((q 2), .inl (cI, 22, .inl (fun _ => (-1)))), ((q 3), .inl (cI, 22, .inl (fun _ => (-1)))), ((q 4), .inl (cI, 22, .inl (fun _ => 0))), ((q 5), .inl (cI, 64, .inl (fun _ => 0))), ((q 6), .inl (cI, 64, .inl (fun _ => 0))), ((q 7), .inl (cI, 64, .inl (fun _ => 0))), ((q 8), .inr (0, [.int 0, .ref (q 9)])), ((q 9), .inl (cI, 3600, .inl (fun _ => 0)))] sz) []) (va_A [((q 32), .inr (7, [.ref (q 33), .int 0, .ref (q 34), .ref (q 40), .ref (q 0), .ref (q 42), .null])), ((q 0), .inr (6, [.int 0, .int 0, .int 0, .ref (q 1), .ref (q 8), .ref (q 10), .ref (q 11), .ref (q 12), .ref (q 13)])), ((q 12), .inl (cI, 20, .inl (fun _ => 0))), ((q 1), .inr (4, [.ref (q 2), .ref (q 3), .ref (q 4), .ref (q 5), .ref (q 6), .ref (q 7), .int 0, .int (-1)])), ((q 2), .inl (cI, 22, .inl (fun _ => (-1)))), ((q 3), .inl (cI, 22, .inl (fun _ => (-1)))), ((q 4), .inl (cI, 22, .inl (fun _ => 0))), ((q 5), .inl (cI, 64, .inl (fun _ => 0))), ((q 6), .inl (cI, 64, .inl (fun _ => 0))), ((q 7), .inl (cI, 64, .inl (fun _ => 0))), ((q 8), .inr (0, [.int 0, .ref (q 9)])), ((q 9), .inl (cI, 3600, .inl (fun _ => 0)))] sz)) 0 0 (va_A [((q 32), .inr (7, [.ref (q 33), .int 0, .ref (q 34), .ref (q 40), .ref (q 0), .ref (q 42), .null])), ((q 0), .inr (6, [.int 0, .int 0, .int 0, .ref (q 1), .ref (q 8), .ref (q 10), .ref (q 11), .ref (q 12), .ref (q 13)])), ((q 12), .inl (cI, 20, .inl (fun _ => 0))), ((q 1), .inr (4, [.ref (q 2), .ref (q 3), .ref (q 4), .ref (q 5), .ref (q 6), .ref (q 7), .int 0, .int (-1)])), ((q 2), .inl (cI, 22, .inl (fun _ => (-1)))), ((q 3), .inl (cI, 22, .inl (fun _ => (-1)))), ((q 4), .inl (cI, 22, .inl (fun _ => 0))), ((q 5), .inl (cI, 64, .inl (fun _ => 0))), ((q 6), .inl (cI, 64, .inl (fun _ => 0))), ((q 7), .inl (cI, 64, .inl (fun _ => 0))), ((q 8), .inr (0, [.int 0, .ref (q 9)])), ((q 9), .inl (cI, 3600, .inl (fun _ => 0)))] sz) := by
  refine Met.ofW (cc := cX7_land) (maxL := 2) (ret := (some .int)) (by decide) rfl ?_
  intro p e s m args below meth c s₁ B hml hv
  obtain ⟨rfl, hsz, hE, hP, hD0⟩ := hv
  have hx := B.exec
  have hb := B.bytes
  have hr := B.returns
  have hts := atoms_spec (ws := vs_x_land) B.pre
  have hown : s.vm.findClass RX7 = some m.cls := findClass_of_methodNamed B.named
  have hlocks := B.notSynchronized
  have hK := hE.2
  subst hsz
  have hD := hD0.self (sz := s.heap.size)
  generalize hAe : va_A [((q 32), .inr (7, [.ref (q 33), .int 0, .ref (q 34), .ref (q 40), .ref (q 0), .ref (q 42), .null])), ((q 0), .inr (6, [.int 0, .int 0, .int 0, .ref (q 1), .ref (q 8), .ref (q 10), .ref (q 11), .ref (q 12), .ref (q 13)])), ((q 12), .inl (cI, 20, .inl (fun _ => 0))), ((q 1), .inr (4, [.ref (q 2), .ref (q 3), .ref (q 4), .ref (q 5), .ref (q 6), .ref (q 7), .int 0, .int (-1)])), ((q 2), .inl (cI, 22, .inl (fun _ => (-1)))), ((q 3), .inl (cI, 22, .inl (fun _ => (-1)))), ((q 4), .inl (cI, 22, .inl (fun _ => 0))), ((q 5), .inl (cI, 64, .inl (fun _ => 0))), ((q 6), .inl (cI, 64, .inl (fun _ => 0))), ((q 7), .inl (cI, 64, .inl (fun _ => 0))), ((q 8), .inr (0, [.int 0, .ref (q 9)])), ((q 9), .inl (cI, 3600, .inl (fun _ => 0)))] s.heap.size = A at hD ⊢
  have hA : ∀ q : Nat, s.heap.size ≤ q → A q := fun q h => by rw [← hAe]; exact Or.inr h
  have hS : va_S A s.heap s.heap [] := va_S.rf
  have hl := lv_entry ([.ref (q 32), .int v]) (n := 2) (Nat.le_of_ble_eq_true rfl)
  rw [lg_entry_eq]
  generalize (lg_sl ([.ref (q 32), .int v]) ++ List.replicate (2 - (lg_sl ([.ref (q 32), .int v])).length) Slot.unset).toArray = ls at hl ⊢
  have hl : lv_has ls 2 [(0, .ref (q 32)), (1, .int v)] := hl
  refine lv_iload_n hx hb dX7_land_0 rfl (lv_at hl 1 rfl) ?_
  refine lv_iconst (v := 1) hx hb dX7_land_1 (by decide) ?_
  refine lv_icmp_lt (tgt := 12) hx hb dX7_land_2 (by decide) (fun c1 => ?_) (fun c1 => ?_)
  · refine lv_iconst (v := (-1)) hx hb dX7_land_12 (by decide) ?_
    have hP9 := hP.sub (ws' := []) [] rfl
    have hD9 := hD.sub (ws' := []) [] (by decide) rfl
    refine W.widen (k := 0) (n := 0) (by decide) (by decide) ?_
    exact W.iret (v := (-1)) hx hb hr (fun t ht hW => ⟨⟨(-1), (), rfl, (by simp [c1]), by rw [ht]; exact hP9, hD9⟩, hS.F ht⟩) hS.2.2 dX7_land_13
  · refine lv_iload_n hx hb dX7_land_5 rfl (lv_at hl 1 rfl) ?_
    refine lv_sipush (v := 500) hx hb dX7_land_6 (by decide) ?_
    refine lv_icmp_le (tgt := 14) hx hb dX7_land_9 (by decide) (fun c2 => ?_) (fun c2 => ?_)
    · refine lv_aload_n hx hb dX7_land_14 rfl (lv_at hl 0 rfl) ?_
      refine va_get (D := (dC, dI)) (ci := 7) (v := .ref (q 0)) (C := RX7) (T := TX7) (N := 7) hx hb hts in_x_land_X7 hown hK hP 0 rfl rfl 4 (by decide) (hts (.fieldLink RX7 30 "DepotMarch" "world" "LDepotMarch$World;") (by decide +kernel)) (fun _ h9 => h9) rfl dX7_land_15 ?_
      refine lv_iload_n hx hb dX7_land_18 rfl (lv_at hl 1 rfl) ?_
      have hPc := hP.sub (ws' := [((q 0), .inr (6, [.int 0, .int 0, .int 0, .ref (q 1), .ref (q 8), .ref (q 10), .ref (q 11), .ref (q 12), .ref (q 13)])), ((q 12), .inl (cI, 20, .inl (fun _ => 0))), ((q 1), .inr (4, [.ref (q 2), .ref (q 3), .ref (q 4), .ref (q 5), .ref (q 6), .ref (q 7), .int 0, .int (-1)])), ((q 2), .inl (cI, 22, .inl (fun _ => (-1)))), ((q 3), .inl (cI, 22, .inl (fun _ => (-1)))), ((q 4), .inl (cI, 22, .inl (fun _ => 0))), ((q 5), .inl (cI, 64, .inl (fun _ => 0))), ((q 6), .inl (cI, 64, .inl (fun _ => 0))), ((q 7), .inl (cI, 64, .inl (fun _ => 0))), ((q 8), .inr (0, [.int 0, .ref (q 9)])), ((q 9), .inl (cI, 3600, .inl (fun _ => 0)))]) [1, 2, 3, 4, 5, 6, 7, 8, 9, 10, 11] rfl
      have hDc := hD.sub (ws' := [((q 0), .inr (6, [.int 0, .int 0, .int 0, .ref (q 1), .ref (q 8), .ref (q 10), .ref (q 11), .ref (q 12), .ref (q 13)])), ((q 12), .inl (cI, 20, .inl (fun _ => 0))), ((q 1), .inr (4, [.ref (q 2), .ref (q 3), .ref (q 4), .ref (q 5), .ref (q 6), .ref (q 7), .int 0, .int (-1)])), ((q 2), .inl (cI, 22, .inl (fun _ => (-1)))), ((q 3), .inl (cI, 22, .inl (fun _ => (-1)))), ((q 4), .inl (cI, 22, .inl (fun _ => 0))), ((q 5), .inl (cI, 64, .inl (fun _ => 0))), ((q 6), .inl (cI, 64, .inl (fun _ => 0))), ((q 7), .inl (cI, 64, .inl (fun _ => 0))), ((q 8), .inr (0, [.int 0, .ref (q 9)])), ((q 9), .inl (cI, 3600, .inl (fun _ => 0)))]) [1, 2, 3, 4, 5, 6, 7, 8, 9, 10, 11] (by decide) rfl
      have hFc := va_free (wc := [((q 0), .inr (6, [.int 0, .int 0, .int 0, .ref (q 1), .ref (q 8), .ref (q 10), .ref (q 11), .ref (q 12), .ref (q 13)])), ((q 12), .inl (cI, 20, .inl (fun _ => 0))), ((q 1), .inr (4, [.ref (q 2), .ref (q 3), .ref (q 4), .ref (q 5), .ref (q 6), .ref (q 7), .int 0, .int (-1)])), ((q 2), .inl (cI, 22, .inl (fun _ => (-1)))), ((q 3), .inl (cI, 22, .inl (fun _ => (-1)))), ((q 4), .inl (cI, 22, .inl (fun _ => 0))), ((q 5), .inl (cI, 64, .inl (fun _ => 0))), ((q 6), .inl (cI, 64, .inl (fun _ => 0))), ((q 7), .inl (cI, 64, .inl (fun _ => 0))), ((q 8), .inr (0, [.int 0, .ref (q 9)])), ((q 9), .inl (cI, 3600, .inl (fun _ => 0)))]) hD hS hA [1, 2, 3, 4, 5, 6, 7, 8, 9, 10, 11] rfl
      refine va_calli (va_runV (As := [.int v]) (rest := []) ⟨hx, hb, hml, hown, hts⟩ ((c_makeLot l dC dI cI cZ cB cJ cP cW q v s.heap.size) (by rw [Int32.lt_iff_toInt_lt] at *; have e1 : (1 : Int32).toInt = 1 := rfl; have e0 : (0 : Int32).toInt = 0 := rfl; omega)) (cwV 1 hts g81_x_land_makeLot rfl rfl rfl (by decide +kernel) ⟨Nat.le_of_ble_eq_true rfl, Nat.le_of_ble_eq_true rfl⟩) ⟨fbM, va_recv hK hPc (ci := 6) (q0 := 0) rfl rfl, fun U hU hW => ⟨rfl, by rw [hU], hE.warm hW, by rw [hU]; exact hPc, hDc.weaken (fun _ _ _ _ => trivial)⟩⟩ rfl rfl hl.1 rfl (lv_room (Nat.le_of_ble_eq_true rfl)) dX7_land_19 ⟨Nat.le_of_ble_eq_true rfl, Nat.le_of_ble_eq_true rfl⟩) hS (fun q _ h => hFc q h) hFc (fun r3 u4 t H5 locs ht hvm hr3 hB hz1 hk1 hS => ?_)
      obtain ⟨hP1, hD1⟩ := hB
      rw [ht] at hP1
      obtain ⟨hP, hD⟩ := va_join (wr := [((q 32), .inr (7, [.ref (q 33), .int 0, .ref (q 34), .ref (q 40), .ref (q 0), .ref (q 42), .null]))]) (w1 := []) hP hD [1, 2, 3, 4, 5, 6, 7, 8, 9, 10, 11] [0] rfl rfl (by decide) (by decide) hk1 hFc hP1 hD1
      have hP : va_P (dC, dI) vwCl [((q 32), .inr (7, [.ref (q 33), .int 0, .ref (q 34), .ref (q 40), .ref (q 0), .ref (q 42), .null]))] H5 := hP
      have hD : va_D A [((q 32), .inr (7, [.ref (q 33), .int 0, .ref (q 34), .ref (q 40), .ref (q 0), .ref (q 42), .null]))] := hD
      obtain rfl : r3 = 0 := hr3
      have hP9 := hP.sub (ws' := []) [] rfl
      have hD9 := hD.sub (ws' := []) [] (by decide) rfl
      refine W.widen (k := 0) (n := 0) (by decide) (by decide) ?_
      exact W.iret (v := 0) hx hb hr (fun t ht hW => ⟨⟨0, (), rfl, (by simp [c1, (Int32.not_lt.mpr c2)]), by rw [ht]; exact hP9, hD9⟩, hS.F ht⟩) hS.2.2 dX7_land_22
    · refine lv_iconst (v := (-1)) hx hb dX7_land_12 (by decide) ?_
      have hP9 := hP.sub (ws' := []) [] rfl
      have hD9 := hD.sub (ws' := []) [] (by decide) rfl
      refine W.widen (k := 0) (n := 0) (by decide) (by decide) ?_
      exact W.iret (v := (-1)) hx hb hr (fun t ht hW => ⟨⟨(-1), (), rfl, (by simp [c1, (Int32.not_le.mp c2)]), by rw [ht]; exact hP9, hD9⟩, hS.F ht⟩) hS.2.2 dX7_land_13

def vs_setStorm : List Cond := [.code yX6_setStorm cX6_setStorm 3 (some .boolean), .code yX7_within cX7_within 2 (some .boolean), .initialized RX7, .static yX7_within, .fieldLink RX6 25 "DepotMarch$World" "storms" "[Z"] ++ (wsX60)
theorem in_setStorm_X6 : ∀ w ∈ u_ws RX6 TX6 9, w ∈ vs_setStorm := fun w h => List.mem_append_right _ (h)
set_option maxRecDepth 20000 in
theorem gg_setStorm_within : GoodIn vs_setStorm vs_within := goodIn_r _ [1] (by decide +kernel) (by decide +kernel)
set_option maxHeartbeats 4000000 in
set_option maxRecDepth 100000 in
theorem c_setStorm (l : Launch) (dC : Nat → ClassId) (dI : Nat → Nat → Nat) (cI cZ cB cJ cP cW : ClassId) (q : Nat → Nat) (k : Int32) (b : Int32) (sz : Nat) : Met l yX6_setStorm vs_setStorm ({ frames := 3, cells := 0, slots := 0, locals := 180 }) (va_Pc [.ref (q 0), .int k, .int b] (fun U => U.heap.size = sz ∧ EV dC dI cI cZ cB cJ cP cW U ∧ va_P (dC, dI) vwCl [((q 0), .inr (6, [.int 0, .int 0, .int 0, .ref (q 1), .ref (q 8), .ref (q 10), .ref (q 11), .ref (q 12), .ref (q 13)])), ((q 10), .inl (cZ, 400, .inl (fun _ => 0)))] U.heap ∧ va_D (fun _ => True) [((q 0), .inr (6, [.int 0, .int 0, .int 0, .ref (q 1), .ref (q 8), .ref (q 10), .ref (q 11), .ref (q 12), .ref (q 13)])), ((q 10), .inl (cZ, 400, .inl (fun _ => 0)))])) (va_Qi (fun (r : Int32) (u : Unit) => r = if wi k 400 = 0 then 0 else if 0 = b then 0 else 1) (fun u t => va_P (dC, dI) vwCl [] t.heap ∧ va_D (va_A [((q 0), .inr (6, [.int 0, .int 0, .int 0, .ref (q 1), .ref (q 8), .ref (q 10), .ref (q 11), .ref (q 12), .ref (q 13)])), ((q 10), .inl (cZ, 400, .inl (fun _ => 0)))] sz) []) (va_A [((q 0), .inr (6, [.int 0, .int 0, .int 0, .ref (q 1), .ref (q 8), .ref (q 10), .ref (q 11), .ref (q 12), .ref (q 13)])), ((q 10), .inl (cZ, 400, .inl (fun _ => 0)))] sz)) 0 0 (va_A [((q 0), .inr (6, [.int 0, .int 0, .int 0, .ref (q 1), .ref (q 8), .ref (q 10), .ref (q 11), .ref (q 12), .ref (q 13)])), ((q 10), .inl (cZ, 400, .inl (fun _ => 0)))] sz) := by
  refine Met.ofW (cc := cX6_setStorm) (maxL := 3) (ret := (some .boolean)) (by decide) rfl ?_
  intro p e s m args below meth c s₁ B hml hv
  obtain ⟨rfl, hsz, hE, hP, hD0⟩ := hv
  have hx := B.exec
  have hb := B.bytes
  have hr := B.returns
  have hts := atoms_spec (ws := vs_setStorm) B.pre
  have hown : s.vm.findClass RX6 = some m.cls := findClass_of_methodNamed B.named
  have hlocks := B.notSynchronized
  have hK := hE.2
  subst hsz
  have hD := hD0.self (sz := s.heap.size)
  generalize hAe : va_A [((q 0), .inr (6, [.int 0, .int 0, .int 0, .ref (q 1), .ref (q 8), .ref (q 10), .ref (q 11), .ref (q 12), .ref (q 13)])), ((q 10), .inl (cZ, 400, .inl (fun _ => 0)))] s.heap.size = A at hD ⊢
  have hA : ∀ q : Nat, s.heap.size ≤ q → A q := fun q h => by rw [← hAe]; exact Or.inr h
  have hS : va_S A s.heap s.heap [] := va_S.rf
  have hl := lv_entry ([.ref (q 0), .int k, .int b]) (n := 3) (Nat.le_of_ble_eq_true rfl)
  rw [lg_entry_eq]
  generalize (lg_sl ([.ref (q 0), .int k, .int b]) ++ List.replicate (3 - (lg_sl ([.ref (q 0), .int k, .int b])).length) Slot.unset).toArray = ls at hl ⊢
  have hl : lv_has ls 3 [(0, .ref (q 0)), (1, .int k), (2, .int b)] := hl
  refine lv_iload_n hx hb dX6_setStorm_0 rfl (lv_at hl 1 rfl) ?_
  refine lv_sipush (v := 400) hx hb dX6_setStorm_1 (by decide) ?_
  refine vp_callSi (va_Run.run (va_runSN (As := [.int k, .int 400]) (rest := []) ⟨hx, hb, hml, hown, hts⟩ (c_within l dC dI cI cZ cB cJ cP cW k 400) ⟨(va_cnB 2 hts gg_setStorm_within rfl rfl rfl hE.1.n_World_77 (hts (.initialized RX7) (by decide +kernel)) (by decide +kernel) ⟨Nat.le_of_ble_eq_true rfl, Nat.le_of_ble_eq_true rfl⟩), (hts (.static yX7_within) (by decide +kernel)), trivial⟩ ⟨fbR, fun U hU hW => ⟨rfl, hE.warm hW, by rw [hU]; exact (fun k q h => by simp at h)⟩⟩ rfl rfl hl.1 rfl (lv_room (Nat.le_of_ble_eq_true rfl)) dX6_setStorm_4 ⟨Nat.le_of_ble_eq_true rfl, Nat.le_of_ble_eq_true rfl⟩)) (fun r1 hr1 => ?_)
  obtain rfl : r1 = (wi k 400) := hr1
  refine lv_if_eq (tgt := 20) hx hb dX6_setStorm_7 (by decide) (fun c2 => ?_) (fun c2 => ?_)
  · refine lv_iconst (v := 0) hx hb dX6_setStorm_20 (by decide) ?_
    have hP9 := hP.sub (ws' := []) [] rfl
    have hD9 := hD.sub (ws' := []) [] (by decide) rfl
    refine W.widen (k := 0) (n := 0) (by decide) (by decide) ?_
    exact W.zret (v := 0) hx hb hr rfl (fun t ht hW => ⟨⟨0, (), rfl, (by simp [c2]), by rw [ht]; exact hP9, hD9⟩, hS.F ht⟩) hS.2.2 dX6_setStorm_21
  · refine lv_aload_n hx hb dX6_setStorm_10 rfl (lv_at hl 0 rfl) ?_
    refine va_get (D := (dC, dI)) (ci := 6) (v := .ref (q 10)) (C := RX6) (T := TX6) (N := 9) hx hb hts in_setStorm_X6 hown hK hP 0 rfl rfl 5 (by decide) (hts (.fieldLink RX6 25 "DepotMarch$World" "storms" "[Z") (by decide +kernel)) (fun _ h9 => h9) rfl dX6_setStorm_11 ?_
    refine lv_iload_n hx hb dX6_setStorm_14 rfl (lv_at hl 1 rfl) ?_
    refine va_zald hx hb hK hP 1 1 rfl rfl (wi_in (N := 400) rfl c2) dX6_setStorm_15 ?_
    refine lv_topi (fun x3 ex3 => ?_)
    obtain rfl : x3 = 0 := ex3.trans rfl
    refine lv_iload_n hx hb dX6_setStorm_16 rfl (lv_at hl 2 rfl) ?_
    refine lv_icmp_ne (tgt := 22) hx hb dX6_setStorm_17 (by decide) (fun c4 => ?_) (fun c4 => ?_)
    · refine lv_aload_n hx hb dX6_setStorm_22 rfl (lv_at hl 0 rfl) ?_
      refine va_get (D := (dC, dI)) (ci := 6) (v := .ref (q 10)) (C := RX6) (T := TX6) (N := 9) hx hb hts in_setStorm_X6 hown hK hP 0 rfl rfl 5 (by decide) (hts (.fieldLink RX6 25 "DepotMarch$World" "storms" "[Z") (by decide +kernel)) (fun _ h9 => h9) rfl dX6_setStorm_23 ?_
      refine lv_iload_n hx hb dX6_setStorm_26 rfl (lv_at hl 1 rfl) ?_
      refine lv_iload_n hx hb dX6_setStorm_27 rfl (lv_at hl 2 rfl) ?_
      refine va_zast hx hb hK hP hD hS 1 1 rfl rfl (wi_in (N := 400) rfl c2) dX6_setStorm_28 (fun H5 locs hP hD hS => ?_)
      have hP : va_P (dC, dI) vwCl [((q 0), .inr (6, [.int 0, .int 0, .int 0, .ref (q 1), .ref (q 8), .ref (q 10), .ref (q 11), .ref (q 12), .ref (q 13)])), ((q 10), .inl (cZ, 400, .inl (upd (fun _ => 0) k.toNatClampNeg (vp_nar .boolean b))))] H5 := hP
      have hD : va_D A [((q 0), .inr (6, [.int 0, .int 0, .int 0, .ref (q 1), .ref (q 8), .ref (q 10), .ref (q 11), .ref (q 12), .ref (q 13)])), ((q 10), .inl (cZ, 400, .inl (upd (fun _ => 0) k.toNatClampNeg (vp_nar .boolean b))))] := hD
      refine lv_iconst (v := 1) hx hb dX6_setStorm_29 (by decide) ?_
      have hP9 := hP.sub (ws' := []) [] rfl
      have hD9 := hD.sub (ws' := []) [] (by decide) rfl
      refine W.widen (k := 0) (n := 0) (by decide) (by decide) ?_
      exact W.zret (v := 1) hx hb hr rfl (fun t ht hW => ⟨⟨1, (), rfl, (by simp [c2, c4]), by rw [ht]; exact hP9, hD9⟩, hS.F ht⟩) hS.2.2 dX6_setStorm_30
    · refine lv_iconst (v := 0) hx hb dX6_setStorm_20 (by decide) ?_
      have hP9 := hP.sub (ws' := []) [] rfl
      have hD9 := hD.sub (ws' := []) [] (by decide) rfl
      refine W.widen (k := 0) (n := 0) (by decide) (by decide) ?_
      exact W.zret (v := 0) hx hb hr rfl (fun t ht hW => ⟨⟨0, (), rfl, (by simp [c2, c4]), by rw [ht]; exact hP9, hD9⟩, hS.F ht⟩) hS.2.2 dX6_setStorm_21

def vs_x_storm : List Cond := [.code yX7_storm cX7_storm 3 (some .boolean), .fieldLink RX7 30 "DepotMarch" "world" "LDepotMarch$World;", .fieldLink RX7 85 "DepotMarch$World" "day" "I", .code yX6_setStorm cX6_setStorm 3 (some .boolean), .code yX7_within cX7_within 2 (some .boolean), .initialized RX7, .static yX7_within, .fieldLink RX6 25 "DepotMarch$World" "storms" "[Z", .methodLink RX7 88 yX6_setStorm, .instanceMethod yX6_setStorm, .selects RX6 yX6_setStorm yX6_setStorm, .initialized RX6] ++ (wsX70 ++ (wsX60))
theorem in_x_storm_X7 : ∀ w ∈ u_ws RX7 TX7 7, w ∈ vs_x_storm := fun w h => List.mem_append_right _ (List.mem_append_left _ h)
theorem in_x_storm_X6 : ∀ w ∈ u_ws RX6 TX6 9, w ∈ vs_x_storm := fun w h => List.mem_append_right _ (List.mem_append_right _ (h))
set_option maxRecDepth 20000 in
theorem gg_x_storm_setStorm : GoodIn vs_x_storm vs_setStorm := goodIn_r _ [3, 4, 5, 6, 7, 19, 20, 21, 22, 23, 24, 25, 26, 27] (by decide +kernel) (by decide +kernel)
set_option maxRecDepth 20000 in
theorem g88_x_storm_setStorm : GoodIn vs_x_storm (wsV RX7 88 RX6 yX6_setStorm vs_setStorm) := goodIn_app (goodIn_of _ (by decide +kernel)) gg_x_storm_setStorm
set_option maxHeartbeats 4000000 in
set_option maxRecDepth 100000 in
theorem c_x_storm (l : Launch) (dC : Nat → ClassId) (dI : Nat → Nat → Nat) (cI cZ cB cJ cP cW : ClassId) (q : Nat → Nat) (k : Int32) (b : Int32) (sz : Nat) : Met l yX7_storm vs_x_storm ({ frames := 6, cells := 0, slots := 0, locals := 360 }) (va_Pc [.ref (q 32), .int k, .int b] (fun U => U.heap.size = sz ∧ EV dC dI cI cZ cB cJ cP cW U ∧ va_P (dC, dI) vwCl [((q 32), .inr (7, [.ref (q 33), .int 0, .ref (q 34), .ref (q 40), .ref (q 0), .ref (q 42), .null])), ((q 0), .inr (6, [.int 0, .int 0, .int 0, .ref (q 1), .ref (q 8), .ref (q 10), .ref (q 11), .ref (q 12), .ref (q 13)])), ((q 10), .inl (cZ, 400, .inl (fun _ => 0)))] U.heap ∧ va_D (fun _ => True) [((q 32), .inr (7, [.ref (q 33), .int 0, .ref (q 34), .ref (q 40), .ref (q 0), .ref (q 42), .null])), ((q 0), .inr (6, [.int 0, .int 0, .int 0, .ref (q 1), .ref (q 8), .ref (q 10), .ref (q 11), .ref (q 12), .ref (q 13)])), ((q 10), .inl (cZ, 400, .inl (fun _ => 0)))])) (va_Qi (fun (r : Int32) (u : Unit) => r = if k < 0 then 0 else if wi k 400 = 0 then 0 else if 0 = b then 0 else 1) (fun u t => va_P (dC, dI) vwCl [] t.heap ∧ va_D (va_A [((q 32), .inr (7, [.ref (q 33), .int 0, .ref (q 34), .ref (q 40), .ref (q 0), .ref (q 42), .null])), ((q 0), .inr (6, [.int 0, .int 0, .int 0, .ref (q 1), .ref (q 8), .ref (q 10), .ref (q 11), .ref (q 12), .ref (q 13)])), ((q 10), .inl (cZ, 400, .inl (fun _ => 0)))] sz) []) (va_A [((q 32), .inr (7, [.ref (q 33), .int 0, .ref (q 34), .ref (q 40), .ref (q 0), .ref (q 42), .null])), ((q 0), .inr (6, [.int 0, .int 0, .int 0, .ref (q 1), .ref (q 8), .ref (q 10), .ref (q 11), .ref (q 12), .ref (q 13)])), ((q 10), .inl (cZ, 400, .inl (fun _ => 0)))] sz)) 0 0 (va_A [((q 32), .inr (7, [.ref (q 33), .int 0, .ref (q 34), .ref (q 40), .ref (q 0), .ref (q 42), .null])), ((q 0), .inr (6, [.int 0, .int 0, .int 0, .ref (q 1), .ref (q 8), .ref (q 10), .ref (q 11), .ref (q 12), .ref (q 13)])), ((q 10), .inl (cZ, 400, .inl (fun _ => 0)))] sz) := by
  refine Met.ofW (cc := cX7_storm) (maxL := 3) (ret := (some .boolean)) (by decide) rfl ?_
  intro p e s m args below meth c s₁ B hml hv
  obtain ⟨rfl, hsz, hE, hP, hD0⟩ := hv
  have hx := B.exec
  have hb := B.bytes
  have hr := B.returns
  have hts := atoms_spec (ws := vs_x_storm) B.pre
  have hown : s.vm.findClass RX7 = some m.cls := findClass_of_methodNamed B.named
  have hlocks := B.notSynchronized
  have hK := hE.2
  subst hsz
  have hD := hD0.self (sz := s.heap.size)
  generalize hAe : va_A [((q 32), .inr (7, [.ref (q 33), .int 0, .ref (q 34), .ref (q 40), .ref (q 0), .ref (q 42), .null])), ((q 0), .inr (6, [.int 0, .int 0, .int 0, .ref (q 1), .ref (q 8), .ref (q 10), .ref (q 11), .ref (q 12), .ref (q 13)])), ((q 10), .inl (cZ, 400, .inl (fun _ => 0)))] s.heap.size = A at hD ⊢
  have hA : ∀ q : Nat, s.heap.size ≤ q → A q := fun q h => by rw [← hAe]; exact Or.inr h
  have hS : va_S A s.heap s.heap [] := va_S.rf
  have hl := lv_entry ([.ref (q 32), .int k, .int b]) (n := 3) (Nat.le_of_ble_eq_true rfl)
  rw [lg_entry_eq]
  generalize (lg_sl ([.ref (q 32), .int k, .int b]) ++ List.replicate (3 - (lg_sl ([.ref (q 32), .int k, .int b])).length) Slot.unset).toArray = ls at hl ⊢
  have hl : lv_has ls 3 [(0, .ref (q 32)), (1, .int k), (2, .int b)] := hl
  refine lv_iload_n hx hb dX7_storm_0 rfl (lv_at hl 1 rfl) ?_
  refine lv_aload_n hx hb dX7_storm_1 rfl (lv_at hl 0 rfl) ?_
  refine va_get (D := (dC, dI)) (ci := 7) (v := .ref (q 0)) (C := RX7) (T := TX7) (N := 7) hx hb hts in_x_storm_X7 hown hK hP 0 rfl rfl 4 (by decide) (hts (.fieldLink RX7 30 "DepotMarch" "world" "LDepotMarch$World;") (by decide +kernel)) (fun _ h9 => h9) rfl dX7_storm_2 ?_
  refine va_get (D := (dC, dI)) (ci := 6) (v := .int 0) (C := RX6) (T := TX6) (N := 9) hx hb hts in_x_storm_X6 hown hK hP 1 rfl rfl 0 (by decide) (hts (.fieldLink RX7 85 "DepotMarch$World" "day" "I") (by decide +kernel)) (fun _ h9 => h9) rfl dX7_storm_5 ?_
  refine lv_icmp_lt (tgt := 27) hx hb dX7_storm_8 (by decide) (fun c1 => ?_) (fun c1 => ?_)
  · refine lv_iconst (v := 0) hx hb dX7_storm_27 (by decide) ?_
    have hP9 := hP.sub (ws' := []) [] rfl
    have hD9 := hD.sub (ws' := []) [] (by decide) rfl
    refine W.widen (k := 0) (n := 0) (by decide) (by decide) ?_
    exact W.zret (v := 0) hx hb hr rfl (fun t ht hW => ⟨⟨0, (), rfl, (by simp [c1]), by rw [ht]; exact hP9, hD9⟩, hS.F ht⟩) hS.2.2 dX7_storm_28
  · refine lv_aload_n hx hb dX7_storm_11 rfl (lv_at hl 0 rfl) ?_
    refine va_get (D := (dC, dI)) (ci := 7) (v := .ref (q 0)) (C := RX7) (T := TX7) (N := 7) hx hb hts in_x_storm_X7 hown hK hP 0 rfl rfl 4 (by decide) (hts (.fieldLink RX7 30 "DepotMarch" "world" "LDepotMarch$World;") (by decide +kernel)) (fun _ h9 => h9) rfl dX7_storm_12 ?_
    refine lv_iload_n hx hb dX7_storm_15 rfl (lv_at hl 1 rfl) ?_
    refine lv_iload_n hx hb dX7_storm_16 rfl (lv_at hl 2 rfl) ?_
    have hPc := hP.sub (ws' := [((q 0), .inr (6, [.int 0, .int 0, .int 0, .ref (q 1), .ref (q 8), .ref (q 10), .ref (q 11), .ref (q 12), .ref (q 13)])), ((q 10), .inl (cZ, 400, .inl (fun _ => 0)))]) [1, 2] rfl
    have hDc := hD.sub (ws' := [((q 0), .inr (6, [.int 0, .int 0, .int 0, .ref (q 1), .ref (q 8), .ref (q 10), .ref (q 11), .ref (q 12), .ref (q 13)])), ((q 10), .inl (cZ, 400, .inl (fun _ => 0)))]) [1, 2] (by decide) rfl
    have hFc := va_free (wc := [((q 0), .inr (6, [.int 0, .int 0, .int 0, .ref (q 1), .ref (q 8), .ref (q 10), .ref (q 11), .ref (q 12), .ref (q 13)])), ((q 10), .inl (cZ, 400, .inl (fun _ => 0)))]) hD hS hA [1, 2] rfl
    refine va_calli (va_runV (As := [.int k, .int b]) (rest := []) ⟨hx, hb, hml, hown, hts⟩ (c_setStorm l dC dI cI cZ cB cJ cP cW q k b s.heap.size) (cwV 2 hts g88_x_storm_setStorm rfl rfl rfl (by decide +kernel) ⟨Nat.le_of_ble_eq_true rfl, Nat.le_of_ble_eq_true rfl⟩) ⟨fbM, va_recv hK hPc (ci := 6) (q0 := 0) rfl rfl, fun U hU hW => ⟨rfl, by rw [hU], hE.warm hW, by rw [hU]; exact hPc, hDc.weaken (fun _ _ _ _ => trivial)⟩⟩ rfl rfl hl.1 rfl (lv_room (Nat.le_of_ble_eq_true rfl)) dX7_storm_17 ⟨Nat.le_of_ble_eq_true rfl, Nat.le_of_ble_eq_true rfl⟩) hS (fun q _ h => hFc q h) hFc (fun r2 u3 t H4 locs ht hvm hr2 hB hz1 hk1 hS => ?_)
    obtain ⟨hP1, hD1⟩ := hB
    rw [ht] at hP1
    obtain ⟨hP, hD⟩ := va_join (wr := [((q 32), .inr (7, [.ref (q 33), .int 0, .ref (q 34), .ref (q 40), .ref (q 0), .ref (q 42), .null]))]) (w1 := []) hP hD [1, 2] [0] rfl rfl (by decide) (by decide) hk1 hFc hP1 hD1
    have hP : va_P (dC, dI) vwCl [((q 32), .inr (7, [.ref (q 33), .int 0, .ref (q 34), .ref (q 40), .ref (q 0), .ref (q 42), .null]))] H4 := hP
    have hD : va_D A [((q 32), .inr (7, [.ref (q 33), .int 0, .ref (q 34), .ref (q 40), .ref (q 0), .ref (q 42), .null]))] := hD
    obtain rfl : r2 = (if wi k 400 = 0 then 0 else if 0 = b then 0 else 1) := hr2
    refine lv_if_eq (tgt := 27) hx hb dX7_storm_20 (by decide) (fun c5 => ?_) (fun c5 => ?_)
    · refine lv_iconst (v := 0) hx hb dX7_storm_27 (by decide) ?_
      have hP9 := hP.sub (ws' := []) [] rfl
      have hD9 := hD.sub (ws' := []) [] (by decide) rfl
      refine W.widen (k := 0) (n := 0) (by decide) (by decide) ?_
      exact W.zret (v := 0) hx hb hr rfl (fun t ht hW => ⟨⟨0, (), rfl, (by rw [if_neg c1]; exact c5.symm), by rw [ht]; exact hP9, hD9⟩, hS.F ht⟩) hS.2.2 dX7_storm_28
    · refine lv_iconst (v := 1) hx hb dX7_storm_23 (by decide) ?_
      refine lv_goto (tgt := 28) hx hb dX7_storm_24 (by decide) ?_
      have hP9 := hP.sub (ws' := []) [] rfl
      have hD9 := hD.sub (ws' := []) [] (by decide) rfl
      refine W.widen (k := 0) (n := 0) (by decide) (by decide) ?_
      exact W.zret (v := 1) hx hb hr rfl (fun t ht hW => ⟨⟨1, (), rfl, (by rw [if_neg c1]; exact (one_of c5).symm), by rw [ht]; exact hP9, hD9⟩, hS.F ht⟩) hS.2.2 dX7_storm_28

def vs_passDay : List Cond := [.code yX1_passDay cX1_passDay 4 none, .code yX6_partyOf cX6_partyOf 2 (some (.object "DepotMarch$Party")), .fieldLink RX6 58 "DepotMarch$World" "parties" "I", .code yX7_within cX7_within 2 (some .boolean), .initialized RX7, .static yX7_within, .methodLink RX1 15 yX6_partyOf, .instanceMethod yX6_partyOf, .selects RX6 yX6_partyOf yX6_partyOf, .initialized RX6, .fieldLink RX1 35 "DepotMarch$World" "day" "I"] ++ (wsX60)
theorem in_passDay_X6 : ∀ w ∈ u_ws RX6 TX6 9, w ∈ vs_passDay := fun w h => List.mem_append_right _ (h)
set_option maxRecDepth 20000 in
theorem gg_passDay_partyOf : GoodIn vs_passDay vs_partyOf := goodIn_r _ [1, 2, 3, 4, 5, 11, 12, 13, 14, 15, 16, 17, 18, 19] (by decide +kernel) (by decide +kernel)
set_option maxRecDepth 20000 in
theorem g15_passDay_partyOf : GoodIn vs_passDay (wsV RX1 15 RX6 yX6_partyOf vs_partyOf) := goodIn_app (goodIn_of _ (by decide +kernel)) gg_passDay_partyOf
set_option maxHeartbeats 4000000 in
set_option maxRecDepth 100000 in
theorem c_passDay (l : Launch) (dC : Nat → ClassId) (dI : Nat → Nat → Nat) (cI cZ cB cJ cP cW : ClassId) (q : Nat → Nat) (g : Nat) (g1 : Nat) (d : Int32) (sz : Nat) : Met l yX1_passDay vs_passDay ({ frames := 4, cells := 0, slots := 0, locals := 240 }) (va_Pc [.ref g, .ref (q 0)] (fun U => U.heap.size = sz ∧ EV dC dI cI cZ cB cJ cP cW U ∧ va_P (dC, dI) vwCl [(g, .inr (1, [.ref g1, .int 0, .int 0])), ((q 0), .inr (6, [.int d, .int 0, .int 0, .ref (q 1), .ref (q 8), .ref (q 10), .ref (q 11), .ref (q 12), .ref (q 13)]))] U.heap ∧ va_D (fun _ => True) [(g, .inr (1, [.ref g1, .int 0, .int 0])), ((q 0), .inr (6, [.int d, .int 0, .int 0, .ref (q 1), .ref (q 8), .ref (q 10), .ref (q 11), .ref (q 12), .ref (q 13)]))])) (va_Qv (fun (u : Unit) => True) (fun u t => va_P (dC, dI) vwCl [(g, .inr (1, [.ref g1, .int 0, .int 0])), ((q 0), .inr (6, [.int (d + 1), .int 0, .int 0, .ref (q 1), .ref (q 8), .ref (q 10), .ref (q 11), .ref (q 12), .ref (q 13)]))] t.heap ∧ va_D (va_A [(g, .inr (1, [.ref g1, .int 0, .int 0])), ((q 0), .inr (6, [.int d, .int 0, .int 0, .ref (q 1), .ref (q 8), .ref (q 10), .ref (q 11), .ref (q 12), .ref (q 13)]))] sz) [(g, .inr (1, [.ref g1, .int 0, .int 0])), ((q 0), .inr (6, [.int (d + 1), .int 0, .int 0, .ref (q 1), .ref (q 8), .ref (q 10), .ref (q 11), .ref (q 12), .ref (q 13)]))]) (va_A [(g, .inr (1, [.ref g1, .int 0, .int 0])), ((q 0), .inr (6, [.int d, .int 0, .int 0, .ref (q 1), .ref (q 8), .ref (q 10), .ref (q 11), .ref (q 12), .ref (q 13)]))] sz)) 0 0 (va_A [(g, .inr (1, [.ref g1, .int 0, .int 0])), ((q 0), .inr (6, [.int d, .int 0, .int 0, .ref (q 1), .ref (q 8), .ref (q 10), .ref (q 11), .ref (q 12), .ref (q 13)]))] sz) := by
  refine Met.ofW (cc := cX1_passDay) (maxL := 4) (ret := none) (by decide) rfl ?_
  intro p e s m args below meth c s₁ B hml hv
  obtain ⟨rfl, hsz, hE, hP, hD0⟩ := hv
  have hx := B.exec
  have hb := B.bytes
  have hr := B.returns
  have hts := atoms_spec (ws := vs_passDay) B.pre
  have hown : s.vm.findClass RX1 = some m.cls := findClass_of_methodNamed B.named
  have hlocks := B.notSynchronized
  have hK := hE.2
  subst hsz
  have hD := hD0.self (sz := s.heap.size)
  generalize hAe : va_A [(g, .inr (1, [.ref g1, .int 0, .int 0])), ((q 0), .inr (6, [.int d, .int 0, .int 0, .ref (q 1), .ref (q 8), .ref (q 10), .ref (q 11), .ref (q 12), .ref (q 13)]))] s.heap.size = A at hD ⊢
  have hA : ∀ q : Nat, s.heap.size ≤ q → A q := fun q h => by rw [← hAe]; exact Or.inr h
  have hS : va_S A s.heap s.heap [] := va_S.rf
  have hl := lv_entry ([.ref g, .ref (q 0)]) (n := 4) (Nat.le_of_ble_eq_true rfl)
  rw [lg_entry_eq]
  generalize (lg_sl ([.ref g, .ref (q 0)]) ++ List.replicate (4 - (lg_sl ([.ref g, .ref (q 0)])).length) Slot.unset).toArray = ls at hl ⊢
  have hl : lv_has ls 4 [(0, .ref g), (1, .ref (q 0))] := hl
  refine lv_iconst (v := 0) hx hb dX1_passDay_0 (by decide) ?_
  refine lv_istore_n (lv' := [(2, .int 0), (0, .ref g), (1, .ref (q 0))]) hx hb dX1_passDay_1 rfl hl (by decide) rfl (fun ls hl => ?_)
  refine lv_iload_n hx hb dX1_passDay_2 rfl (lv_at hl 0 rfl) ?_
  refine lv_bipush (v := 6) hx hb dX1_passDay_3 (by decide) ?_
  refine lv_icmp_ge (tgt := 37) hx hb dX1_passDay_5 (by decide) (fun c9 => absurd c9 (by decide)) (fun _ => ?_)
  refine lv_aload_n hx hb dX1_passDay_8 rfl (lv_at hl 2 rfl) ?_
  refine lv_iload_n hx hb dX1_passDay_9 rfl (lv_at hl 0 rfl) ?_
  have hPc := hP.sub (ws' := [((q 0), .inr (6, [.int d, .int 0, .int 0, .ref (q 1), .ref (q 8), .ref (q 10), .ref (q 11), .ref (q 12), .ref (q 13)]))]) [1] rfl
  refine va_csq (va_Run.run (va_runV (As := [.int 0]) (rest := []) ⟨hx, hb, hml, hown, hts⟩ (c_partyOf l dC dI cI cZ cB cJ cP cW q d 0) (cwV 1 hts g15_passDay_partyOf rfl rfl rfl (by decide +kernel) ⟨Nat.le_of_ble_eq_true rfl, Nat.le_of_ble_eq_true rfl⟩) ⟨fbR, va_recv hK hPc (ci := 6) (q0 := 0) rfl rfl, fun U hU hW => ⟨rfl, hE.warm hW, by rw [hU]; exact hPc⟩⟩ rfl rfl hl.1 rfl (lv_room (Nat.le_of_ble_eq_true rfl)) dX1_passDay_10 ⟨Nat.le_of_ble_eq_true rfl, Nat.le_of_ble_eq_true rfl⟩)) (fun r2 hr2 => ?_)
  obtain rfl : r2 = none := hr2
  refine W.eq (g2 := F0 m 13 ls [.null]) rfl ?_
  refine lv_astore_nN (lv' := [(3, .null), (2, .int 0), (0, .ref g), (1, .ref (q 0))]) hx hb dX1_passDay_13 rfl hl (by decide) rfl (fun ls hl => ?_)
  refine lv_aload_nN hx hb dX1_passDay_14 rfl (lv_at hl 0 rfl) ?_
  refine lv_ifnullN (tgt := 31) hx hb dX1_passDay_15 (by decide) ?_
  refine lv_iinc (v := 1) (lv' := [(2, .int 1), (3, .null), (0, .ref g), (1, .ref (q 0))]) hx hb dX1_passDay_31 hl (k := 1) rfl (by decide) (by decide) rfl (fun ls hl => ?_)
  refine lv_goto (tgt := 2) hx hb dX1_passDay_34 (by decide) ?_
  refine lv_iload_n hx hb dX1_passDay_2 rfl (lv_at hl 0 rfl) ?_
  refine lv_bipush (v := 6) hx hb dX1_passDay_3 (by decide) ?_
  refine lv_icmp_ge (tgt := 37) hx hb dX1_passDay_5 (by decide) (fun c9 => absurd c9 (by decide)) (fun _ => ?_)
  refine lv_aload_n hx hb dX1_passDay_8 rfl (lv_at hl 3 rfl) ?_
  refine lv_iload_n hx hb dX1_passDay_9 rfl (lv_at hl 0 rfl) ?_
  have hPc := hP.sub (ws' := [((q 0), .inr (6, [.int d, .int 0, .int 0, .ref (q 1), .ref (q 8), .ref (q 10), .ref (q 11), .ref (q 12), .ref (q 13)]))]) [1] rfl
  refine va_csq (va_Run.run (va_runV (As := [.int 1]) (rest := []) ⟨hx, hb, hml, hown, hts⟩ (c_partyOf l dC dI cI cZ cB cJ cP cW q d 1) (cwV 1 hts g15_passDay_partyOf rfl rfl rfl (by decide +kernel) ⟨Nat.le_of_ble_eq_true rfl, Nat.le_of_ble_eq_true rfl⟩) ⟨fbR, va_recv hK hPc (ci := 6) (q0 := 0) rfl rfl, fun U hU hW => ⟨rfl, hE.warm hW, by rw [hU]; exact hPc⟩⟩ rfl rfl hl.1 rfl (lv_room (Nat.le_of_ble_eq_true rfl)) dX1_passDay_10 ⟨Nat.le_of_ble_eq_true rfl, Nat.le_of_ble_eq_true rfl⟩)) (fun r4 hr4 => ?_)
  obtain rfl : r4 = none := hr4
  refine W.eq (g2 := F0 m 13 ls [.null]) rfl ?_
  refine lv_astore_nN (lv' := [(3, .null), (2, .int 1), (0, .ref g), (1, .ref (q 0))]) hx hb dX1_passDay_13 rfl hl (by decide) rfl (fun ls hl => ?_)
  refine lv_aload_nN hx hb dX1_passDay_14 rfl (lv_at hl 0 rfl) ?_
  refine lv_ifnullN (tgt := 31) hx hb dX1_passDay_15 (by decide) ?_
  refine lv_iinc (v := 2) (lv' := [(2, .int 2), (3, .null), (0, .ref g), (1, .ref (q 0))]) hx hb dX1_passDay_31 hl (k := 1) rfl (by decide) (by decide) rfl (fun ls hl => ?_)
  refine lv_goto (tgt := 2) hx hb dX1_passDay_34 (by decide) ?_
  refine lv_iload_n hx hb dX1_passDay_2 rfl (lv_at hl 0 rfl) ?_
  refine lv_bipush (v := 6) hx hb dX1_passDay_3 (by decide) ?_
  refine lv_icmp_ge (tgt := 37) hx hb dX1_passDay_5 (by decide) (fun c9 => absurd c9 (by decide)) (fun _ => ?_)
  refine lv_aload_n hx hb dX1_passDay_8 rfl (lv_at hl 3 rfl) ?_
  refine lv_iload_n hx hb dX1_passDay_9 rfl (lv_at hl 0 rfl) ?_
  have hPc := hP.sub (ws' := [((q 0), .inr (6, [.int d, .int 0, .int 0, .ref (q 1), .ref (q 8), .ref (q 10), .ref (q 11), .ref (q 12), .ref (q 13)]))]) [1] rfl
  refine va_csq (va_Run.run (va_runV (As := [.int 2]) (rest := []) ⟨hx, hb, hml, hown, hts⟩ (c_partyOf l dC dI cI cZ cB cJ cP cW q d 2) (cwV 1 hts g15_passDay_partyOf rfl rfl rfl (by decide +kernel) ⟨Nat.le_of_ble_eq_true rfl, Nat.le_of_ble_eq_true rfl⟩) ⟨fbR, va_recv hK hPc (ci := 6) (q0 := 0) rfl rfl, fun U hU hW => ⟨rfl, hE.warm hW, by rw [hU]; exact hPc⟩⟩ rfl rfl hl.1 rfl (lv_room (Nat.le_of_ble_eq_true rfl)) dX1_passDay_10 ⟨Nat.le_of_ble_eq_true rfl, Nat.le_of_ble_eq_true rfl⟩)) (fun r6 hr6 => ?_)
  obtain rfl : r6 = none := hr6
  refine W.eq (g2 := F0 m 13 ls [.null]) rfl ?_
  refine lv_astore_nN (lv' := [(3, .null), (2, .int 2), (0, .ref g), (1, .ref (q 0))]) hx hb dX1_passDay_13 rfl hl (by decide) rfl (fun ls hl => ?_)
  refine lv_aload_nN hx hb dX1_passDay_14 rfl (lv_at hl 0 rfl) ?_
  refine lv_ifnullN (tgt := 31) hx hb dX1_passDay_15 (by decide) ?_
  refine lv_iinc (v := 3) (lv' := [(2, .int 3), (3, .null), (0, .ref g), (1, .ref (q 0))]) hx hb dX1_passDay_31 hl (k := 1) rfl (by decide) (by decide) rfl (fun ls hl => ?_)
  refine lv_goto (tgt := 2) hx hb dX1_passDay_34 (by decide) ?_
  refine lv_iload_n hx hb dX1_passDay_2 rfl (lv_at hl 0 rfl) ?_
  refine lv_bipush (v := 6) hx hb dX1_passDay_3 (by decide) ?_
  refine lv_icmp_ge (tgt := 37) hx hb dX1_passDay_5 (by decide) (fun c9 => absurd c9 (by decide)) (fun _ => ?_)
  refine lv_aload_n hx hb dX1_passDay_8 rfl (lv_at hl 3 rfl) ?_
  refine lv_iload_n hx hb dX1_passDay_9 rfl (lv_at hl 0 rfl) ?_
  have hPc := hP.sub (ws' := [((q 0), .inr (6, [.int d, .int 0, .int 0, .ref (q 1), .ref (q 8), .ref (q 10), .ref (q 11), .ref (q 12), .ref (q 13)]))]) [1] rfl
  refine va_csq (va_Run.run (va_runV (As := [.int 3]) (rest := []) ⟨hx, hb, hml, hown, hts⟩ (c_partyOf l dC dI cI cZ cB cJ cP cW q d 3) (cwV 1 hts g15_passDay_partyOf rfl rfl rfl (by decide +kernel) ⟨Nat.le_of_ble_eq_true rfl, Nat.le_of_ble_eq_true rfl⟩) ⟨fbR, va_recv hK hPc (ci := 6) (q0 := 0) rfl rfl, fun U hU hW => ⟨rfl, hE.warm hW, by rw [hU]; exact hPc⟩⟩ rfl rfl hl.1 rfl (lv_room (Nat.le_of_ble_eq_true rfl)) dX1_passDay_10 ⟨Nat.le_of_ble_eq_true rfl, Nat.le_of_ble_eq_true rfl⟩)) (fun r8 hr8 => ?_)
  obtain rfl : r8 = none := hr8
  refine W.eq (g2 := F0 m 13 ls [.null]) rfl ?_
  refine lv_astore_nN (lv' := [(3, .null), (2, .int 3), (0, .ref g), (1, .ref (q 0))]) hx hb dX1_passDay_13 rfl hl (by decide) rfl (fun ls hl => ?_)
  refine lv_aload_nN hx hb dX1_passDay_14 rfl (lv_at hl 0 rfl) ?_
  refine lv_ifnullN (tgt := 31) hx hb dX1_passDay_15 (by decide) ?_
  refine lv_iinc (v := 4) (lv' := [(2, .int 4), (3, .null), (0, .ref g), (1, .ref (q 0))]) hx hb dX1_passDay_31 hl (k := 1) rfl (by decide) (by decide) rfl (fun ls hl => ?_)
  refine lv_goto (tgt := 2) hx hb dX1_passDay_34 (by decide) ?_
  refine lv_iload_n hx hb dX1_passDay_2 rfl (lv_at hl 0 rfl) ?_
  refine lv_bipush (v := 6) hx hb dX1_passDay_3 (by decide) ?_
  refine lv_icmp_ge (tgt := 37) hx hb dX1_passDay_5 (by decide) (fun c9 => absurd c9 (by decide)) (fun _ => ?_)
  refine lv_aload_n hx hb dX1_passDay_8 rfl (lv_at hl 3 rfl) ?_
  refine lv_iload_n hx hb dX1_passDay_9 rfl (lv_at hl 0 rfl) ?_
  have hPc := hP.sub (ws' := [((q 0), .inr (6, [.int d, .int 0, .int 0, .ref (q 1), .ref (q 8), .ref (q 10), .ref (q 11), .ref (q 12), .ref (q 13)]))]) [1] rfl
  refine va_csq (va_Run.run (va_runV (As := [.int 4]) (rest := []) ⟨hx, hb, hml, hown, hts⟩ (c_partyOf l dC dI cI cZ cB cJ cP cW q d 4) (cwV 1 hts g15_passDay_partyOf rfl rfl rfl (by decide +kernel) ⟨Nat.le_of_ble_eq_true rfl, Nat.le_of_ble_eq_true rfl⟩) ⟨fbR, va_recv hK hPc (ci := 6) (q0 := 0) rfl rfl, fun U hU hW => ⟨rfl, hE.warm hW, by rw [hU]; exact hPc⟩⟩ rfl rfl hl.1 rfl (lv_room (Nat.le_of_ble_eq_true rfl)) dX1_passDay_10 ⟨Nat.le_of_ble_eq_true rfl, Nat.le_of_ble_eq_true rfl⟩)) (fun r10 hr10 => ?_)
  obtain rfl : r10 = none := hr10
  refine W.eq (g2 := F0 m 13 ls [.null]) rfl ?_
  refine lv_astore_nN (lv' := [(3, .null), (2, .int 4), (0, .ref g), (1, .ref (q 0))]) hx hb dX1_passDay_13 rfl hl (by decide) rfl (fun ls hl => ?_)
  refine lv_aload_nN hx hb dX1_passDay_14 rfl (lv_at hl 0 rfl) ?_
  refine lv_ifnullN (tgt := 31) hx hb dX1_passDay_15 (by decide) ?_
  refine lv_iinc (v := 5) (lv' := [(2, .int 5), (3, .null), (0, .ref g), (1, .ref (q 0))]) hx hb dX1_passDay_31 hl (k := 1) rfl (by decide) (by decide) rfl (fun ls hl => ?_)
  refine lv_goto (tgt := 2) hx hb dX1_passDay_34 (by decide) ?_
  refine lv_iload_n hx hb dX1_passDay_2 rfl (lv_at hl 0 rfl) ?_
  refine lv_bipush (v := 6) hx hb dX1_passDay_3 (by decide) ?_
  refine lv_icmp_ge (tgt := 37) hx hb dX1_passDay_5 (by decide) (fun c9 => absurd c9 (by decide)) (fun _ => ?_)
  refine lv_aload_n hx hb dX1_passDay_8 rfl (lv_at hl 3 rfl) ?_
  refine lv_iload_n hx hb dX1_passDay_9 rfl (lv_at hl 0 rfl) ?_
  have hPc := hP.sub (ws' := [((q 0), .inr (6, [.int d, .int 0, .int 0, .ref (q 1), .ref (q 8), .ref (q 10), .ref (q 11), .ref (q 12), .ref (q 13)]))]) [1] rfl
  refine va_csq (va_Run.run (va_runV (As := [.int 5]) (rest := []) ⟨hx, hb, hml, hown, hts⟩ (c_partyOf l dC dI cI cZ cB cJ cP cW q d 5) (cwV 1 hts g15_passDay_partyOf rfl rfl rfl (by decide +kernel) ⟨Nat.le_of_ble_eq_true rfl, Nat.le_of_ble_eq_true rfl⟩) ⟨fbR, va_recv hK hPc (ci := 6) (q0 := 0) rfl rfl, fun U hU hW => ⟨rfl, hE.warm hW, by rw [hU]; exact hPc⟩⟩ rfl rfl hl.1 rfl (lv_room (Nat.le_of_ble_eq_true rfl)) dX1_passDay_10 ⟨Nat.le_of_ble_eq_true rfl, Nat.le_of_ble_eq_true rfl⟩)) (fun r12 hr12 => ?_)
  obtain rfl : r12 = none := hr12
  refine W.eq (g2 := F0 m 13 ls [.null]) rfl ?_
  refine lv_astore_nN (lv' := [(3, .null), (2, .int 5), (0, .ref g), (1, .ref (q 0))]) hx hb dX1_passDay_13 rfl hl (by decide) rfl (fun ls hl => ?_)
  refine lv_aload_nN hx hb dX1_passDay_14 rfl (lv_at hl 0 rfl) ?_
  refine lv_ifnullN (tgt := 31) hx hb dX1_passDay_15 (by decide) ?_
  refine lv_iinc (v := 6) (lv' := [(2, .int 6), (3, .null), (0, .ref g), (1, .ref (q 0))]) hx hb dX1_passDay_31 hl (k := 1) rfl (by decide) (by decide) rfl (fun ls hl => ?_)
  refine lv_goto (tgt := 2) hx hb dX1_passDay_34 (by decide) ?_
  refine lv_iload_n hx hb dX1_passDay_2 rfl (lv_at hl 0 rfl) ?_
  refine lv_bipush (v := 6) hx hb dX1_passDay_3 (by decide) ?_
  refine lv_icmp_ge (tgt := 37) hx hb dX1_passDay_5 (by decide) (fun _ => ?_) (fun c9 => absurd (by decide) c9)
  refine lv_iconst (v := 0) hx hb dX1_passDay_37 (by decide) ?_
  refine lv_istore_n (lv' := [(2, .int 0), (3, .null), (0, .ref g), (1, .ref (q 0))]) hx hb dX1_passDay_38 rfl hl (by decide) rfl (fun ls hl => ?_)
  refine lv_iload_n hx hb dX1_passDay_39 rfl (lv_at hl 0 rfl) ?_
  refine lv_bipush (v := 6) hx hb dX1_passDay_40 (by decide) ?_
  refine lv_icmp_ge (tgt := 73) hx hb dX1_passDay_42 (by decide) (fun c9 => absurd c9 (by decide)) (fun _ => ?_)
  refine lv_aload_n hx hb dX1_passDay_45 rfl (lv_at hl 3 rfl) ?_
  refine lv_iload_n hx hb dX1_passDay_46 rfl (lv_at hl 0 rfl) ?_
  have hPc := hP.sub (ws' := [((q 0), .inr (6, [.int d, .int 0, .int 0, .ref (q 1), .ref (q 8), .ref (q 10), .ref (q 11), .ref (q 12), .ref (q 13)]))]) [1] rfl
  refine va_csq (va_Run.run (va_runV (As := [.int 0]) (rest := []) ⟨hx, hb, hml, hown, hts⟩ (c_partyOf l dC dI cI cZ cB cJ cP cW q d 0) (cwV 1 hts g15_passDay_partyOf rfl rfl rfl (by decide +kernel) ⟨Nat.le_of_ble_eq_true rfl, Nat.le_of_ble_eq_true rfl⟩) ⟨fbR, va_recv hK hPc (ci := 6) (q0 := 0) rfl rfl, fun U hU hW => ⟨rfl, hE.warm hW, by rw [hU]; exact hPc⟩⟩ rfl rfl hl.1 rfl (lv_room (Nat.le_of_ble_eq_true rfl)) dX1_passDay_47 ⟨Nat.le_of_ble_eq_true rfl, Nat.le_of_ble_eq_true rfl⟩)) (fun r15 hr15 => ?_)
  obtain rfl : r15 = none := hr15
  refine W.eq (g2 := F0 m 50 ls [.null]) rfl ?_
  refine lv_astore_nN (lv' := [(3, .null), (2, .int 0), (0, .ref g), (1, .ref (q 0))]) hx hb dX1_passDay_50 rfl hl (by decide) rfl (fun ls hl => ?_)
  refine lv_aload_nN hx hb dX1_passDay_51 rfl (lv_at hl 0 rfl) ?_
  refine lv_ifnullN (tgt := 67) hx hb dX1_passDay_52 (by decide) ?_
  refine lv_iinc (v := 1) (lv' := [(2, .int 1), (3, .null), (0, .ref g), (1, .ref (q 0))]) hx hb dX1_passDay_67 hl (k := 1) rfl (by decide) (by decide) rfl (fun ls hl => ?_)
  refine lv_goto (tgt := 39) hx hb dX1_passDay_70 (by decide) ?_
  refine lv_iload_n hx hb dX1_passDay_39 rfl (lv_at hl 0 rfl) ?_
  refine lv_bipush (v := 6) hx hb dX1_passDay_40 (by decide) ?_
  refine lv_icmp_ge (tgt := 73) hx hb dX1_passDay_42 (by decide) (fun c9 => absurd c9 (by decide)) (fun _ => ?_)
  refine lv_aload_n hx hb dX1_passDay_45 rfl (lv_at hl 3 rfl) ?_
  refine lv_iload_n hx hb dX1_passDay_46 rfl (lv_at hl 0 rfl) ?_
  have hPc := hP.sub (ws' := [((q 0), .inr (6, [.int d, .int 0, .int 0, .ref (q 1), .ref (q 8), .ref (q 10), .ref (q 11), .ref (q 12), .ref (q 13)]))]) [1] rfl
  refine va_csq (va_Run.run (va_runV (As := [.int 1]) (rest := []) ⟨hx, hb, hml, hown, hts⟩ (c_partyOf l dC dI cI cZ cB cJ cP cW q d 1) (cwV 1 hts g15_passDay_partyOf rfl rfl rfl (by decide +kernel) ⟨Nat.le_of_ble_eq_true rfl, Nat.le_of_ble_eq_true rfl⟩) ⟨fbR, va_recv hK hPc (ci := 6) (q0 := 0) rfl rfl, fun U hU hW => ⟨rfl, hE.warm hW, by rw [hU]; exact hPc⟩⟩ rfl rfl hl.1 rfl (lv_room (Nat.le_of_ble_eq_true rfl)) dX1_passDay_47 ⟨Nat.le_of_ble_eq_true rfl, Nat.le_of_ble_eq_true rfl⟩)) (fun r17 hr17 => ?_)
  obtain rfl : r17 = none := hr17
  refine W.eq (g2 := F0 m 50 ls [.null]) rfl ?_
  refine lv_astore_nN (lv' := [(3, .null), (2, .int 1), (0, .ref g), (1, .ref (q 0))]) hx hb dX1_passDay_50 rfl hl (by decide) rfl (fun ls hl => ?_)
  refine lv_aload_nN hx hb dX1_passDay_51 rfl (lv_at hl 0 rfl) ?_
  refine lv_ifnullN (tgt := 67) hx hb dX1_passDay_52 (by decide) ?_
  refine lv_iinc (v := 2) (lv' := [(2, .int 2), (3, .null), (0, .ref g), (1, .ref (q 0))]) hx hb dX1_passDay_67 hl (k := 1) rfl (by decide) (by decide) rfl (fun ls hl => ?_)
  refine lv_goto (tgt := 39) hx hb dX1_passDay_70 (by decide) ?_
  refine lv_iload_n hx hb dX1_passDay_39 rfl (lv_at hl 0 rfl) ?_
  refine lv_bipush (v := 6) hx hb dX1_passDay_40 (by decide) ?_
  refine lv_icmp_ge (tgt := 73) hx hb dX1_passDay_42 (by decide) (fun c9 => absurd c9 (by decide)) (fun _ => ?_)
  refine lv_aload_n hx hb dX1_passDay_45 rfl (lv_at hl 3 rfl) ?_
  refine lv_iload_n hx hb dX1_passDay_46 rfl (lv_at hl 0 rfl) ?_
  have hPc := hP.sub (ws' := [((q 0), .inr (6, [.int d, .int 0, .int 0, .ref (q 1), .ref (q 8), .ref (q 10), .ref (q 11), .ref (q 12), .ref (q 13)]))]) [1] rfl
  refine va_csq (va_Run.run (va_runV (As := [.int 2]) (rest := []) ⟨hx, hb, hml, hown, hts⟩ (c_partyOf l dC dI cI cZ cB cJ cP cW q d 2) (cwV 1 hts g15_passDay_partyOf rfl rfl rfl (by decide +kernel) ⟨Nat.le_of_ble_eq_true rfl, Nat.le_of_ble_eq_true rfl⟩) ⟨fbR, va_recv hK hPc (ci := 6) (q0 := 0) rfl rfl, fun U hU hW => ⟨rfl, hE.warm hW, by rw [hU]; exact hPc⟩⟩ rfl rfl hl.1 rfl (lv_room (Nat.le_of_ble_eq_true rfl)) dX1_passDay_47 ⟨Nat.le_of_ble_eq_true rfl, Nat.le_of_ble_eq_true rfl⟩)) (fun r19 hr19 => ?_)
  obtain rfl : r19 = none := hr19
  refine W.eq (g2 := F0 m 50 ls [.null]) rfl ?_
  refine lv_astore_nN (lv' := [(3, .null), (2, .int 2), (0, .ref g), (1, .ref (q 0))]) hx hb dX1_passDay_50 rfl hl (by decide) rfl (fun ls hl => ?_)
  refine lv_aload_nN hx hb dX1_passDay_51 rfl (lv_at hl 0 rfl) ?_
  refine lv_ifnullN (tgt := 67) hx hb dX1_passDay_52 (by decide) ?_
  refine lv_iinc (v := 3) (lv' := [(2, .int 3), (3, .null), (0, .ref g), (1, .ref (q 0))]) hx hb dX1_passDay_67 hl (k := 1) rfl (by decide) (by decide) rfl (fun ls hl => ?_)
  refine lv_goto (tgt := 39) hx hb dX1_passDay_70 (by decide) ?_
  refine lv_iload_n hx hb dX1_passDay_39 rfl (lv_at hl 0 rfl) ?_
  refine lv_bipush (v := 6) hx hb dX1_passDay_40 (by decide) ?_
  refine lv_icmp_ge (tgt := 73) hx hb dX1_passDay_42 (by decide) (fun c9 => absurd c9 (by decide)) (fun _ => ?_)
  refine lv_aload_n hx hb dX1_passDay_45 rfl (lv_at hl 3 rfl) ?_
  refine lv_iload_n hx hb dX1_passDay_46 rfl (lv_at hl 0 rfl) ?_
  have hPc := hP.sub (ws' := [((q 0), .inr (6, [.int d, .int 0, .int 0, .ref (q 1), .ref (q 8), .ref (q 10), .ref (q 11), .ref (q 12), .ref (q 13)]))]) [1] rfl
  refine va_csq (va_Run.run (va_runV (As := [.int 3]) (rest := []) ⟨hx, hb, hml, hown, hts⟩ (c_partyOf l dC dI cI cZ cB cJ cP cW q d 3) (cwV 1 hts g15_passDay_partyOf rfl rfl rfl (by decide +kernel) ⟨Nat.le_of_ble_eq_true rfl, Nat.le_of_ble_eq_true rfl⟩) ⟨fbR, va_recv hK hPc (ci := 6) (q0 := 0) rfl rfl, fun U hU hW => ⟨rfl, hE.warm hW, by rw [hU]; exact hPc⟩⟩ rfl rfl hl.1 rfl (lv_room (Nat.le_of_ble_eq_true rfl)) dX1_passDay_47 ⟨Nat.le_of_ble_eq_true rfl, Nat.le_of_ble_eq_true rfl⟩)) (fun r21 hr21 => ?_)
  obtain rfl : r21 = none := hr21
  refine W.eq (g2 := F0 m 50 ls [.null]) rfl ?_
  refine lv_astore_nN (lv' := [(3, .null), (2, .int 3), (0, .ref g), (1, .ref (q 0))]) hx hb dX1_passDay_50 rfl hl (by decide) rfl (fun ls hl => ?_)
  refine lv_aload_nN hx hb dX1_passDay_51 rfl (lv_at hl 0 rfl) ?_
  refine lv_ifnullN (tgt := 67) hx hb dX1_passDay_52 (by decide) ?_
  refine lv_iinc (v := 4) (lv' := [(2, .int 4), (3, .null), (0, .ref g), (1, .ref (q 0))]) hx hb dX1_passDay_67 hl (k := 1) rfl (by decide) (by decide) rfl (fun ls hl => ?_)
  refine lv_goto (tgt := 39) hx hb dX1_passDay_70 (by decide) ?_
  refine lv_iload_n hx hb dX1_passDay_39 rfl (lv_at hl 0 rfl) ?_
  refine lv_bipush (v := 6) hx hb dX1_passDay_40 (by decide) ?_
  refine lv_icmp_ge (tgt := 73) hx hb dX1_passDay_42 (by decide) (fun c9 => absurd c9 (by decide)) (fun _ => ?_)
  refine lv_aload_n hx hb dX1_passDay_45 rfl (lv_at hl 3 rfl) ?_
  refine lv_iload_n hx hb dX1_passDay_46 rfl (lv_at hl 0 rfl) ?_
  have hPc := hP.sub (ws' := [((q 0), .inr (6, [.int d, .int 0, .int 0, .ref (q 1), .ref (q 8), .ref (q 10), .ref (q 11), .ref (q 12), .ref (q 13)]))]) [1] rfl
  refine va_csq (va_Run.run (va_runV (As := [.int 4]) (rest := []) ⟨hx, hb, hml, hown, hts⟩ (c_partyOf l dC dI cI cZ cB cJ cP cW q d 4) (cwV 1 hts g15_passDay_partyOf rfl rfl rfl (by decide +kernel) ⟨Nat.le_of_ble_eq_true rfl, Nat.le_of_ble_eq_true rfl⟩) ⟨fbR, va_recv hK hPc (ci := 6) (q0 := 0) rfl rfl, fun U hU hW => ⟨rfl, hE.warm hW, by rw [hU]; exact hPc⟩⟩ rfl rfl hl.1 rfl (lv_room (Nat.le_of_ble_eq_true rfl)) dX1_passDay_47 ⟨Nat.le_of_ble_eq_true rfl, Nat.le_of_ble_eq_true rfl⟩)) (fun r23 hr23 => ?_)
  obtain rfl : r23 = none := hr23
  refine W.eq (g2 := F0 m 50 ls [.null]) rfl ?_
  refine lv_astore_nN (lv' := [(3, .null), (2, .int 4), (0, .ref g), (1, .ref (q 0))]) hx hb dX1_passDay_50 rfl hl (by decide) rfl (fun ls hl => ?_)
  refine lv_aload_nN hx hb dX1_passDay_51 rfl (lv_at hl 0 rfl) ?_
  refine lv_ifnullN (tgt := 67) hx hb dX1_passDay_52 (by decide) ?_
  refine lv_iinc (v := 5) (lv' := [(2, .int 5), (3, .null), (0, .ref g), (1, .ref (q 0))]) hx hb dX1_passDay_67 hl (k := 1) rfl (by decide) (by decide) rfl (fun ls hl => ?_)
  refine lv_goto (tgt := 39) hx hb dX1_passDay_70 (by decide) ?_
  refine lv_iload_n hx hb dX1_passDay_39 rfl (lv_at hl 0 rfl) ?_
  refine lv_bipush (v := 6) hx hb dX1_passDay_40 (by decide) ?_
  refine lv_icmp_ge (tgt := 73) hx hb dX1_passDay_42 (by decide) (fun c9 => absurd c9 (by decide)) (fun _ => ?_)
  refine lv_aload_n hx hb dX1_passDay_45 rfl (lv_at hl 3 rfl) ?_
  refine lv_iload_n hx hb dX1_passDay_46 rfl (lv_at hl 0 rfl) ?_
  have hPc := hP.sub (ws' := [((q 0), .inr (6, [.int d, .int 0, .int 0, .ref (q 1), .ref (q 8), .ref (q 10), .ref (q 11), .ref (q 12), .ref (q 13)]))]) [1] rfl
  refine va_csq (va_Run.run (va_runV (As := [.int 5]) (rest := []) ⟨hx, hb, hml, hown, hts⟩ (c_partyOf l dC dI cI cZ cB cJ cP cW q d 5) (cwV 1 hts g15_passDay_partyOf rfl rfl rfl (by decide +kernel) ⟨Nat.le_of_ble_eq_true rfl, Nat.le_of_ble_eq_true rfl⟩) ⟨fbR, va_recv hK hPc (ci := 6) (q0 := 0) rfl rfl, fun U hU hW => ⟨rfl, hE.warm hW, by rw [hU]; exact hPc⟩⟩ rfl rfl hl.1 rfl (lv_room (Nat.le_of_ble_eq_true rfl)) dX1_passDay_47 ⟨Nat.le_of_ble_eq_true rfl, Nat.le_of_ble_eq_true rfl⟩)) (fun r25 hr25 => ?_)
  obtain rfl : r25 = none := hr25
  refine W.eq (g2 := F0 m 50 ls [.null]) rfl ?_
  refine lv_astore_nN (lv' := [(3, .null), (2, .int 5), (0, .ref g), (1, .ref (q 0))]) hx hb dX1_passDay_50 rfl hl (by decide) rfl (fun ls hl => ?_)
  refine lv_aload_nN hx hb dX1_passDay_51 rfl (lv_at hl 0 rfl) ?_
  refine lv_ifnullN (tgt := 67) hx hb dX1_passDay_52 (by decide) ?_
  refine lv_iinc (v := 6) (lv' := [(2, .int 6), (3, .null), (0, .ref g), (1, .ref (q 0))]) hx hb dX1_passDay_67 hl (k := 1) rfl (by decide) (by decide) rfl (fun ls hl => ?_)
  refine lv_goto (tgt := 39) hx hb dX1_passDay_70 (by decide) ?_
  refine lv_iload_n hx hb dX1_passDay_39 rfl (lv_at hl 0 rfl) ?_
  refine lv_bipush (v := 6) hx hb dX1_passDay_40 (by decide) ?_
  refine lv_icmp_ge (tgt := 73) hx hb dX1_passDay_42 (by decide) (fun _ => ?_) (fun c9 => absurd (by decide) c9)
  refine lv_aload_n hx hb dX1_passDay_73 rfl (lv_at hl 3 rfl) ?_
  refine lv_dup hx hb dX1_passDay_74 rfl ?_
  refine va_get (D := (dC, dI)) (ci := 6) (v := .int d) (C := RX6) (T := TX6) (N := 9) hx hb hts in_passDay_X6 hown hK hP 1 rfl rfl 0 (by decide) (hts (.fieldLink RX1 35 "DepotMarch$World" "day" "I") (by decide +kernel)) (fun _ h9 => h9) rfl dX1_passDay_75 ?_
  refine lv_iconst (v := 1) hx hb dX1_passDay_78 (by decide) ?_
  refine lv_iadd hx hb dX1_passDay_79 ?_
  refine lv_topi (fun x27 ex27 => ?_)
  obtain rfl : x27 = (d + 1) := ex27.trans rfl
  refine va_put (D := (dC, dI)) (ci := 6) (v := .int (d + 1)) (ty := .int) (C := RX6) (T := TX6) (N := 9) hx hb hts in_passDay_X6 tyX6 tyX6_ok nmX6 hown hK hP hD hS 1 rfl rfl 0 (by decide) (hts (.fieldLink RX1 35 "DepotMarch$World" "day" "I") (by decide +kernel)) (fun _ h9 => h9) rfl (by decide +kernel) rfl rfl (Nat.le_of_ble_eq_true rfl) dX1_passDay_80 (fun H28 locs hP hD hS => ?_)
  have hP : va_P (dC, dI) vwCl [(g, .inr (1, [.ref g1, .int 0, .int 0])), ((q 0), .inr (6, [.int (d + 1), .int 0, .int 0, .ref (q 1), .ref (q 8), .ref (q 10), .ref (q 11), .ref (q 12), .ref (q 13)]))] H28 := hP
  have hD : va_D A [(g, .inr (1, [.ref g1, .int 0, .int 0])), ((q 0), .inr (6, [.int (d + 1), .int 0, .int 0, .ref (q 1), .ref (q 8), .ref (q 10), .ref (q 11), .ref (q 12), .ref (q 13)]))] := hD
  have hP9 := hP.sub (ws' := [(g, .inr (1, [.ref g1, .int 0, .int 0])), ((q 0), .inr (6, [.int (d + 1), .int 0, .int 0, .ref (q 1), .ref (q 8), .ref (q 10), .ref (q 11), .ref (q 12), .ref (q 13)]))]) [0, 1] rfl
  have hD9 := hD.sub (ws' := [(g, .inr (1, [.ref g1, .int 0, .int 0])), ((q 0), .inr (6, [.int (d + 1), .int 0, .int 0, .ref (q 1), .ref (q 8), .ref (q 10), .ref (q 11), .ref (q 12), .ref (q 13)]))]) [0, 1] (by decide) rfl
  refine W.widen (k := 0) (n := 0) (by decide) (by decide) ?_
  exact W.vret hx hb hr (fun t ht hW => ⟨⟨(), rfl, trivial, by rw [ht]; exact hP9, hD9⟩, hS.F ht⟩) hS.2.2 dX1_passDay_83

def vs_x_days : List Cond := [.code yX7_days cX7_days 3 (some .int), .fieldLink RX7 30 "DepotMarch" "world" "LDepotMarch$World;", .code yX6_canPass cX6_canPass 2 (some .boolean), .fieldLink RX6 51 "DepotMarch$World" "day" "I", .methodLink RX7 92 yX6_canPass, .instanceMethod yX6_canPass, .selects RX6 yX6_canPass yX6_canPass, .initialized RX6, .fieldLink RX7 85 "DepotMarch$World" "day" "I", .fieldLink RX7 23 "DepotMarch" "guide" "LDepotMarch$Guide;", .code yX1_passDay cX1_passDay 4 none, .code yX6_partyOf cX6_partyOf 2 (some (.object "DepotMarch$Party")), .fieldLink RX6 58 "DepotMarch$World" "parties" "I", .code yX7_within cX7_within 2 (some .boolean), .initialized RX7, .static yX7_within, .methodLink RX1 15 yX6_partyOf, .instanceMethod yX6_partyOf, .selects RX6 yX6_partyOf yX6_partyOf, .fieldLink RX1 35 "DepotMarch$World" "day" "I", .methodLink RX7 96 yX1_passDay, .instanceMethod yX1_passDay, .selects RX1 yX1_passDay yX1_passDay, .initialized RX1] ++ (wsX70 ++ (wsX60))
theorem in_x_days_X7 : ∀ w ∈ u_ws RX7 TX7 7, w ∈ vs_x_days := fun w h => List.mem_append_right _ (List.mem_append_left _ h)
theorem in_x_days_X6 : ∀ w ∈ u_ws RX6 TX6 9, w ∈ vs_x_days := fun w h => List.mem_append_right _ (List.mem_append_right _ (h))
set_option maxRecDepth 20000 in
theorem gg_x_days_canPass : GoodIn vs_x_days vs_canPass := goodIn_r _ [2, 3, 31, 32, 33, 34, 35, 36, 37, 38, 39] (by decide +kernel) (by decide +kernel)
set_option maxRecDepth 20000 in
theorem gg_x_days_passDay : GoodIn vs_x_days vs_passDay := goodIn_r _ [10, 11, 12, 13, 14, 15, 16, 17, 18, 7, 19, 31, 32, 33, 34, 35, 36, 37, 38, 39] (by decide +kernel) (by decide +kernel)
set_option maxRecDepth 20000 in
theorem g92_x_days_canPass : GoodIn vs_x_days (wsV RX7 92 RX6 yX6_canPass vs_canPass) := goodIn_app (goodIn_of _ (by decide +kernel)) gg_x_days_canPass
set_option maxRecDepth 20000 in
theorem g96_x_days_passDay : GoodIn vs_x_days (wsV RX7 96 RX1 yX1_passDay vs_passDay) := goodIn_app (goodIn_of _ (by decide +kernel)) gg_x_days_passDay
set_option maxHeartbeats 4000000 in
set_option maxRecDepth 100000 in
theorem c_x_days (l : Launch) (dC : Nat → ClassId) (dI : Nat → Nat → Nat) (cI cZ cB cJ cP cW : ClassId) (q : Nat → Nat) (n : Int32) (sz : Nat) : Met l yX7_days vs_x_days ({ frames := 6, cells := 0, slots := 0, locals := 360 }) (va_Pc [.ref (q 32), .int n] (fun U => U.heap.size = sz ∧ EV dC dI cI cZ cB cJ cP cW U ∧ va_P (dC, dI) vwCl [((q 32), .inr (7, [.ref (q 33), .int 0, .ref (q 34), .ref (q 40), .ref (q 0), .ref (q 42), .null])), ((q 40), .inr (1, [.ref (q 41), .int 0, .int 0])), ((q 0), .inr (6, [.int 0, .int 0, .int 0, .ref (q 1), .ref (q 8), .ref (q 10), .ref (q 11), .ref (q 12), .ref (q 13)]))] U.heap ∧ va_D (fun _ => True) [((q 32), .inr (7, [.ref (q 33), .int 0, .ref (q 34), .ref (q 40), .ref (q 0), .ref (q 42), .null])), ((q 40), .inr (1, [.ref (q 41), .int 0, .int 0])), ((q 0), .inr (6, [.int 0, .int 0, .int 0, .ref (q 1), .ref (q 8), .ref (q 10), .ref (q 11), .ref (q 12), .ref (q 13)]))])) (va_Qi (fun (r : Int32) (u : Unit) => r = if cp 0 n = 0 then -1 else n) (fun u t => va_P (dC, dI) vwCl [] t.heap ∧ va_D (va_A [((q 32), .inr (7, [.ref (q 33), .int 0, .ref (q 34), .ref (q 40), .ref (q 0), .ref (q 42), .null])), ((q 40), .inr (1, [.ref (q 41), .int 0, .int 0])), ((q 0), .inr (6, [.int 0, .int 0, .int 0, .ref (q 1), .ref (q 8), .ref (q 10), .ref (q 11), .ref (q 12), .ref (q 13)]))] sz) []) (va_A [((q 32), .inr (7, [.ref (q 33), .int 0, .ref (q 34), .ref (q 40), .ref (q 0), .ref (q 42), .null])), ((q 40), .inr (1, [.ref (q 41), .int 0, .int 0])), ((q 0), .inr (6, [.int 0, .int 0, .int 0, .ref (q 1), .ref (q 8), .ref (q 10), .ref (q 11), .ref (q 12), .ref (q 13)]))] sz)) 0 0 (va_A [((q 32), .inr (7, [.ref (q 33), .int 0, .ref (q 34), .ref (q 40), .ref (q 0), .ref (q 42), .null])), ((q 40), .inr (1, [.ref (q 41), .int 0, .int 0])), ((q 0), .inr (6, [.int 0, .int 0, .int 0, .ref (q 1), .ref (q 8), .ref (q 10), .ref (q 11), .ref (q 12), .ref (q 13)]))] sz) := by
  refine Met.ofW (cc := cX7_days) (maxL := 3) (ret := (some .int)) (by decide) rfl ?_
  intro p e s m args below meth c s₁ B hml hv
  obtain ⟨rfl, hsz, hE, hP, hD0⟩ := hv
  have hx := B.exec
  have hb := B.bytes
  have hr := B.returns
  have hts := atoms_spec (ws := vs_x_days) B.pre
  have hown : s.vm.findClass RX7 = some m.cls := findClass_of_methodNamed B.named
  have hlocks := B.notSynchronized
  have hK := hE.2
  subst hsz
  have hD := hD0.self (sz := s.heap.size)
  generalize hAe : va_A [((q 32), .inr (7, [.ref (q 33), .int 0, .ref (q 34), .ref (q 40), .ref (q 0), .ref (q 42), .null])), ((q 40), .inr (1, [.ref (q 41), .int 0, .int 0])), ((q 0), .inr (6, [.int 0, .int 0, .int 0, .ref (q 1), .ref (q 8), .ref (q 10), .ref (q 11), .ref (q 12), .ref (q 13)]))] s.heap.size = A at hD ⊢
  have hA : ∀ q : Nat, s.heap.size ≤ q → A q := fun q h => by rw [← hAe]; exact Or.inr h
  have hS : va_S A s.heap s.heap [] := va_S.rf
  have hl := lv_entry ([.ref (q 32), .int n]) (n := 3) (Nat.le_of_ble_eq_true rfl)
  rw [lg_entry_eq]
  generalize (lg_sl ([.ref (q 32), .int n]) ++ List.replicate (3 - (lg_sl ([.ref (q 32), .int n])).length) Slot.unset).toArray = ls at hl ⊢
  have hl : lv_has ls 3 [(0, .ref (q 32)), (1, .int n)] := hl
  refine lv_aload_n hx hb dX7_days_0 rfl (lv_at hl 0 rfl) ?_
  refine va_get (D := (dC, dI)) (ci := 7) (v := .ref (q 0)) (C := RX7) (T := TX7) (N := 7) hx hb hts in_x_days_X7 hown hK hP 0 rfl rfl 4 (by decide) (hts (.fieldLink RX7 30 "DepotMarch" "world" "LDepotMarch$World;") (by decide +kernel)) (fun _ h9 => h9) rfl dX7_days_1 ?_
  refine lv_iload_n hx hb dX7_days_4 rfl (lv_at hl 1 rfl) ?_
  have hPc := hP.sub (ws' := [((q 0), .inr (6, [.int 0, .int 0, .int 0, .ref (q 1), .ref (q 8), .ref (q 10), .ref (q 11), .ref (q 12), .ref (q 13)]))]) [2] rfl
  refine vp_callSi (va_Run.run (va_runV (As := [.int n]) (rest := []) ⟨hx, hb, hml, hown, hts⟩ (c_canPass l dC dI cI cZ cB cJ cP cW q 0 n) (cwV 1 hts g92_x_days_canPass rfl rfl rfl (by decide +kernel) ⟨Nat.le_of_ble_eq_true rfl, Nat.le_of_ble_eq_true rfl⟩) ⟨fbR, va_recv hK hPc (ci := 6) (q0 := 0) rfl rfl, fun U hU hW => ⟨rfl, hE.warm hW, by rw [hU]; exact hPc⟩⟩ rfl rfl hl.1 rfl (lv_room (Nat.le_of_ble_eq_true rfl)) dX7_days_5 ⟨Nat.le_of_ble_eq_true rfl, Nat.le_of_ble_eq_true rfl⟩)) (fun r1 hr1 => ?_)
  obtain rfl : r1 = (cp 0 n) := hr1
  refine lv_if_ne (tgt := 13) hx hb dX7_days_8 (by decide) (fun c2 => ?_) (fun c2 => ?_)
  · obtain ⟨K, hKK, eK⟩ := cp_in c2
    refine lv_iconst (v := 0) hx hb dX7_days_13 (by decide) ?_
    refine lv_istore_n (lv' := [(2, .int 0), (0, .ref (q 32)), (1, .int n)]) hx hb dX7_days_14 rfl hl (by decide) rfl (fun ls hl => ?_)
    have hl := lv_sub hl [1, 2, 0] rfl
    refine W_loop (σ := Nat) (fun x9 => match x9 with | j => K - j) (fun x9 H3 locs ls => match x9 with | j => (j ≤ K) ∧ va_P (dC, dI) vwCl [((q 32), .inr (7, [.ref (q 33), .int 0, .ref (q 34), .ref (q 40), .ref (q 0), .ref (q 42), .null])), ((q 40), .inr (1, [.ref (q 41), .int 0, .int 0])), ((q 0), .inr (6, [.int (nI j), .int 0, .int 0, .ref (q 1), .ref (q 8), .ref (q 10), .ref (q 11), .ref (q 12), .ref (q 13)]))] H3 ∧ va_D A [((q 32), .inr (7, [.ref (q 33), .int 0, .ref (q 34), .ref (q 40), .ref (q 0), .ref (q 42), .null])), ((q 40), .inr (1, [.ref (q 41), .int 0, .int 0])), ((q 0), .inr (6, [.int (nI j), .int 0, .int 0, .ref (q 1), .ref (q 8), .ref (q 10), .ref (q 11), .ref (q 12), .ref (q 13)]))] ∧ va_S A s.heap H3 locs ∧ lv_has ls 3 [(0, .ref (q 32)), (1, .int n), (2, .int (nI j))]) (fun x9 H3 locs ls hI9 ih => ?_) 0 _ _ _ ⟨Nat.zero_le _, hP.sub [0, 1, 2] rfl, hD.sub [0, 1, 2] (by decide) rfl, hS, hl⟩
    obtain ⟨j, e9⟩ : ∃ z, z = x9 := ⟨_, rfl⟩; subst e9
    dsimp only at hI9
    obtain ⟨hinv, hP, hD, hS, hl⟩ := hI9
    refine lv_iload_n hx hb dX7_days_15 rfl (lv_at hl 2 rfl) ?_
    refine lv_iload_n hx hb dX7_days_16 rfl (lv_at hl 1 rfl) ?_
    refine lv_icmp_ge (tgt := 37) hx hb dX7_days_17 (by decide) (fun c4 => ?_) (fun c4 => ?_)
    · have hjK : K = j := Nat.le_antisymm (Nat.le_of_not_lt (fun h => absurd (by rw [← eK]; exact c4) (nI_ge h (by omega)))) hinv
      refine lv_aload_n hx hb dX7_days_37 rfl (lv_at hl 0 rfl) ?_
      refine va_get (D := (dC, dI)) (ci := 7) (v := .ref (q 0)) (C := RX7) (T := TX7) (N := 7) hx hb hts in_x_days_X7 hown hK hP 0 rfl rfl 4 (by decide) (hts (.fieldLink RX7 30 "DepotMarch" "world" "LDepotMarch$World;") (by decide +kernel)) (fun _ h9 => h9) rfl dX7_days_38 ?_
      refine va_get (D := (dC, dI)) (ci := 6) (v := .int (nI j)) (C := RX6) (T := TX6) (N := 9) hx hb hts in_x_days_X6 hown hK hP 2 rfl rfl 0 (by decide) (hts (.fieldLink RX7 85 "DepotMarch$World" "day" "I") (by decide +kernel)) (fun _ h9 => h9) rfl dX7_days_41 ?_
      have hP9 := hP.sub (ws' := []) [] rfl
      have hD9 := hD.sub (ws' := []) [] (by decide) rfl
      refine W.widen (k := 0) (n := 0) (by decide) (by decide) ?_
      exact W.iret (v := (nI j)) hx hb hr (fun t ht hW => ⟨⟨(nI j), (), rfl, (by rw [if_neg c2, eK, hjK]), by rw [ht]; exact hP9, hD9⟩, hS.F ht⟩) hS.2.2 dX7_days_44
    · have hj : j < K := Nat.lt_of_not_le (fun h => absurd (by rw [eK]; exact nI_le h (by omega)) c4)
      refine lv_aload_n hx hb dX7_days_20 rfl (lv_at hl 0 rfl) ?_
      refine va_get (D := (dC, dI)) (ci := 7) (v := .ref (q 40)) (C := RX7) (T := TX7) (N := 7) hx hb hts in_x_days_X7 hown hK hP 0 rfl rfl 3 (by decide) (hts (.fieldLink RX7 23 "DepotMarch" "guide" "LDepotMarch$Guide;") (by decide +kernel)) (fun _ h9 => h9) rfl dX7_days_21 ?_
      refine lv_aload_n hx hb dX7_days_24 rfl (lv_at hl 0 rfl) ?_
      refine va_get (D := (dC, dI)) (ci := 7) (v := .ref (q 0)) (C := RX7) (T := TX7) (N := 7) hx hb hts in_x_days_X7 hown hK hP 0 rfl rfl 4 (by decide) (hts (.fieldLink RX7 30 "DepotMarch" "world" "LDepotMarch$World;") (by decide +kernel)) (fun _ h9 => h9) rfl dX7_days_25 ?_
      have hPc := hP.sub (ws' := [((q 40), .inr (1, [.ref (q 41), .int 0, .int 0])), ((q 0), .inr (6, [.int (nI j), .int 0, .int 0, .ref (q 1), .ref (q 8), .ref (q 10), .ref (q 11), .ref (q 12), .ref (q 13)]))]) [1, 2] rfl
      have hDc := hD.sub (ws' := [((q 40), .inr (1, [.ref (q 41), .int 0, .int 0])), ((q 0), .inr (6, [.int (nI j), .int 0, .int 0, .ref (q 1), .ref (q 8), .ref (q 10), .ref (q 11), .ref (q 12), .ref (q 13)]))]) [1, 2] (by decide) rfl
      have hFc := va_free (wc := [((q 40), .inr (1, [.ref (q 41), .int 0, .int 0])), ((q 0), .inr (6, [.int (nI j), .int 0, .int 0, .ref (q 1), .ref (q 8), .ref (q 10), .ref (q 11), .ref (q 12), .ref (q 13)]))]) hD hS hA [1, 2] rfl
      refine va_callv (va_runV (As := [.ref (q 0)]) (rest := []) ⟨hx, hb, hml, hown, hts⟩ (c_passDay l dC dI cI cZ cB cJ cP cW q (q 40) (q 41) (nI j) H3.size) (cwV 1 hts g96_x_days_passDay rfl rfl rfl (by decide +kernel) ⟨Nat.le_of_ble_eq_true rfl, Nat.le_of_ble_eq_true rfl⟩) ⟨fbM, va_recv hK hPc (ci := 1) (q0 := 0) rfl rfl, fun U hU hW => ⟨rfl, by rw [hU], hE.warm hW, by rw [hU]; exact hPc, hDc.weaken (fun _ _ _ _ => trivial)⟩⟩ rfl rfl hl.1 rfl (lv_room (Nat.le_of_ble_eq_true rfl)) dX7_days_28 ⟨Nat.le_of_ble_eq_true rfl, Nat.le_of_ble_eq_true rfl⟩) hS (fun q _ h => hFc q h) hFc (fun u6 t H7 locs ht hvm hr5 hB hz1 hk1 hS => ?_)
      obtain ⟨hP1, hD1⟩ := hB
      rw [ht] at hP1
      obtain ⟨hP, hD⟩ := va_join (wr := [((q 32), .inr (7, [.ref (q 33), .int 0, .ref (q 34), .ref (q 40), .ref (q 0), .ref (q 42), .null]))]) (w1 := [((q 40), .inr (1, [.ref (q 41), .int 0, .int 0])), ((q 0), .inr (6, [.int ((nI j) + 1), .int 0, .int 0, .ref (q 1), .ref (q 8), .ref (q 10), .ref (q 11), .ref (q 12), .ref (q 13)]))]) hP hD [1, 2] [0] rfl rfl (by decide) (by decide) hk1 hFc hP1 hD1
      have hP : va_P (dC, dI) vwCl [((q 32), .inr (7, [.ref (q 33), .int 0, .ref (q 34), .ref (q 40), .ref (q 0), .ref (q 42), .null])), ((q 40), .inr (1, [.ref (q 41), .int 0, .int 0])), ((q 0), .inr (6, [.int ((nI j) + 1), .int 0, .int 0, .ref (q 1), .ref (q 8), .ref (q 10), .ref (q 11), .ref (q 12), .ref (q 13)]))] H7 := hP
      have hD : va_D A [((q 32), .inr (7, [.ref (q 33), .int 0, .ref (q 34), .ref (q 40), .ref (q 0), .ref (q 42), .null])), ((q 40), .inr (1, [.ref (q 41), .int 0, .int 0])), ((q 0), .inr (6, [.int ((nI j) + 1), .int 0, .int 0, .ref (q 1), .ref (q 8), .ref (q 10), .ref (q 11), .ref (q 12), .ref (q 13)]))] := hD
      rw [nI_1] at hP hD
      have hP : va_P (dC, dI) vwCl [((q 32), .inr (7, [.ref (q 33), .int 0, .ref (q 34), .ref (q 40), .ref (q 0), .ref (q 42), .null])), ((q 40), .inr (1, [.ref (q 41), .int 0, .int 0])), ((q 0), .inr (6, [.int (nI (j + 1)), .int 0, .int 0, .ref (q 1), .ref (q 8), .ref (q 10), .ref (q 11), .ref (q 12), .ref (q 13)]))] H7 := hP
      have hD : va_D A [((q 32), .inr (7, [.ref (q 33), .int 0, .ref (q 34), .ref (q 40), .ref (q 0), .ref (q 42), .null])), ((q 40), .inr (1, [.ref (q 41), .int 0, .int 0])), ((q 0), .inr (6, [.int (nI (j + 1)), .int 0, .int 0, .ref (q 1), .ref (q 8), .ref (q 10), .ref (q 11), .ref (q 12), .ref (q 13)]))] := hD
      refine lv_iinc (v := (nI (j + 1))) (lv' := [(2, .int (nI (j + 1))), (0, .ref (q 32)), (1, .int n)]) hx hb dX7_days_31 hl (k := 2) rfl (nI_1 j) (by decide) rfl (fun ls hl => ?_)
      refine lv_goto (tgt := 15) hx hb dX7_days_34 (by decide) ?_
      exact ih (j + 1) _ _ _ ⟨hj, hP.sub [0, 1, 2] rfl, hD.sub [0, 1, 2] (by decide) rfl, hS, lv_sub hl [1, 2, 0] rfl⟩ (by show K - (j + 1) < K - j; omega)
  · refine lv_iconst (v := (-1)) hx hb dX7_days_11 (by decide) ?_
    have hP9 := hP.sub (ws' := []) [] rfl
    have hD9 := hD.sub (ws' := []) [] (by decide) rfl
    refine W.widen (k := 0) (n := 0) (by decide) (by decide) ?_
    exact W.iret (v := (-1)) hx hb hr (fun t ht hW => ⟨⟨(-1), (), rfl, (by rw [if_pos c2]), by rw [ht]; exact hP9, hD9⟩, hS.F ht⟩) hS.2.2 dX7_days_12
