/-! what the first call's rows stand on: constants, decode rows, the slots at the beginning (wip/p1/mk24.py) -/
theorem zt_m8 : ((-8) : Int32).toInt = -8 := by decide
theorem zt_m1 : ((-1) : Int32).toInt = -1 := by decide
theorem zi_m1 : Int32.ofInt (-1) = (-1) := by decide
theorem zt_0 : (0 : Int32).toInt = 0 := by decide
theorem zi_0 : Int32.ofInt (0) = 0 := by decide
theorem zt_1 : (1 : Int32).toInt = 1 := by decide
theorem zi_1 : Int32.ofInt (1) = 1 := by decide
theorem zt_2 : (2 : Int32).toInt = 2 := by decide
theorem zi_2 : Int32.ofInt (2) = 2 := by decide
theorem zt_3 : (3 : Int32).toInt = 3 := by decide
theorem zi_3 : Int32.ofInt (3) = 3 := by decide
theorem zt_4 : (4 : Int32).toInt = 4 := by decide
theorem zi_4 : Int32.ofInt (4) = 4 := by decide
theorem zt_5 : (5 : Int32).toInt = 5 := by decide
theorem zi_5 : Int32.ofInt (5) = 5 := by decide
theorem zt_6 : (6 : Int32).toInt = 6 := by decide
theorem zt_7 : (7 : Int32).toInt = 7 := by decide
theorem zt_8 : (8 : Int32).toInt = 8 := by decide
theorem zt_9 : (9 : Int32).toInt = 9 := by decide
theorem zt_10 : (10 : Int32).toInt = 10 := by decide
theorem zt_11 : (11 : Int32).toInt = 11 := by decide
theorem zt_12 : (12 : Int32).toInt = 12 := by decide
theorem zt_13 : (13 : Int32).toInt = 13 := by decide
theorem zt_14 : (14 : Int32).toInt = 14 := by decide
theorem zt_15 : (15 : Int32).toInt = 15 := by decide
theorem zt_16 : (16 : Int32).toInt = 16 := by decide
theorem zt_17 : (17 : Int32).toInt = 17 := by decide
theorem zt_18 : (18 : Int32).toInt = 18 := by decide
theorem zt_19 : (19 : Int32).toInt = 19 := by decide
theorem zt_20 : (20 : Int32).toInt = 20 := by decide
theorem zt_24 : (24 : Int32).toInt = 24 := by decide
theorem zt_60 : (60 : Int32).toInt = 60 := by decide
theorem zt_99 : (99 : Int32).toInt = 99 := by decide
theorem zt_200 : (200 : Int32).toInt = 200 := by decide
theorem zt_255 : (255 : Int32).toInt = 255 := by decide
theorem zt_1600 : (1600 : Int32).toInt = 1600 := by decide
theorem zt_9999 : (9999 : Int32).toInt = 9999 := by decide
theorem dX6_awake_0 : decode cX6_awake 0 = .ok (.iconst 0, 1) := by decide +kernel
theorem dX6_awake_1 : decode cX6_awake 1 = .ok (.istore_n 1, 1) := by decide +kernel
theorem dX6_awake_2 : decode cX6_awake 2 = .ok (.iconst 0, 1) := by decide +kernel
theorem dX6_awake_3 : decode cX6_awake 3 = .ok (.istore_n 2, 1) := by decide +kernel
theorem dX6_awake_4 : decode cX6_awake 4 = .ok (.iload_n 2, 1) := by decide +kernel
theorem dX6_awake_5 : decode cX6_awake 5 = .ok (.aload_n 0, 1) := by decide +kernel
theorem dX6_awake_6 : decode cX6_awake 6 = .ok (.getfield 58, 3) := by decide +kernel
theorem dX6_awake_9 : decode cX6_awake 9 = .ok (.if_icmp .ge 26, 3) := by decide +kernel
theorem dX6_awake_35 : decode cX6_awake 35 = .ok (.iload_n 1, 1) := by decide +kernel
theorem dX6_awake_36 : decode cX6_awake 36 = .ok (.ireturn, 1) := by decide +kernel
theorem dX6_told_0 : decode cX6_told 0 = .ok (.aload_n 0, 1) := by decide +kernel
theorem dX6_told_1 : decode cX6_told 1 = .ok (.getfield 64, 3) := by decide +kernel
theorem dX6_told_4 : decode cX6_told 4 = .ok (.sipush 200, 3) := by decide +kernel
theorem dX6_told_7 : decode cX6_told 7 = .ok (.invokestatic 85, 3) := by decide +kernel
theorem dX6_told_10 : decode cX6_told 10 = .ok (.ireturn, 1) := by decide +kernel
theorem dX8_at_0 : decode cX8_at 0 = .ok (.aload_n 0, 1) := by decide +kernel
theorem dX8_at_1 : decode cX8_at 1 = .ok (.iload_n 1, 1) := by decide +kernel
theorem dX8_at_2 : decode cX8_at 2 = .ok (.invokevirtual 212, 3) := by decide +kernel
theorem dX8_at_5 : decode cX8_at 5 = .ok (.ifCond .eq 15, 3) := by decide +kernel
theorem dX8_at_20 : decode cX8_at 20 = .ok (.iconst (-1), 1) := by decide +kernel
theorem dX8_at_21 : decode cX8_at 21 = .ok (.ireturn, 1) := by decide +kernel
theorem dX8_beds_0 : decode cX8_beds 0 = .ok (.iload_n 1, 1) := by decide +kernel
theorem dX8_beds_1 : decode cX8_beds 1 = .ok (.iconst 1, 1) := by decide +kernel
theorem dX8_beds_2 : decode cX8_beds 2 = .ok (.if_icmp .lt 26, 3) := by decide +kernel
theorem dX8_beds_5 : decode cX8_beds 5 = .ok (.iload_n 1, 1) := by decide +kernel
theorem dX8_beds_6 : decode cX8_beds 6 = .ok (.sipush 9999, 3) := by decide +kernel
theorem dX8_beds_9 : decode cX8_beds 9 = .ok (.if_icmp .gt 19, 3) := by decide +kernel
theorem dX8_beds_12 : decode cX8_beds 12 = .ok (.aload_n 0, 1) := by decide +kernel
theorem dX8_beds_13 : decode cX8_beds 13 = .ok (.getfield 30, 3) := by decide +kernel
theorem dX8_beds_16 : decode cX8_beds 16 = .ok (.getfield 135, 3) := by decide +kernel
theorem dX8_beds_19 : decode cX8_beds 19 = .ok (.iconst 1, 1) := by decide +kernel
theorem dX8_beds_20 : decode cX8_beds 20 = .ok (.if_icmp .lt 8, 3) := by decide +kernel
theorem dX8_beds_28 : decode cX8_beds 28 = .ok (.iconst (-1), 1) := by decide +kernel
theorem dX8_beds_29 : decode cX8_beds 29 = .ok (.ireturn, 1) := by decide +kernel
theorem dX8_best_0 : decode cX8_best 0 = .ok (.aload_n 0, 1) := by decide +kernel
theorem dX8_best_1 : decode cX8_best 1 = .ok (.getfield 30, 3) := by decide +kernel
theorem dX8_best_4 : decode cX8_best 4 = .ok (.getfield 135, 3) := by decide +kernel
theorem dX8_best_7 : decode cX8_best 7 = .ok (.iconst 1, 1) := by decide +kernel
theorem dX8_best_8 : decode cX8_best 8 = .ok (.if_icmp .lt 31, 3) := by decide +kernel
theorem dX8_best_39 : decode cX8_best 39 = .ok (.iconst (-1), 1) := by decide +kernel
theorem dX8_best_40 : decode cX8_best 40 = .ok (.ireturn, 1) := by decide +kernel
theorem dX8_boy_0 : decode cX8_boy 0 = .ok (.aload_n 0, 1) := by decide +kernel
theorem dX8_boy_1 : decode cX8_boy 1 = .ok (.iload_n 1, 1) := by decide +kernel
theorem dX8_boy_2 : decode cX8_boy 2 = .ok (.invokevirtual 155, 3) := by decide +kernel
theorem dX8_boy_5 : decode cX8_boy 5 = .ok (.ifCond .ne 5, 3) := by decide +kernel
theorem dX8_boy_8 : decode cX8_boy 8 = .ok (.iconst (-1), 1) := by decide +kernel
theorem dX8_boy_9 : decode cX8_boy 9 = .ok (.ireturn, 1) := by decide +kernel
theorem dX8_caughtOnes_0 : decode cX8_caughtOnes 0 = .ok (.iconst 0, 1) := by decide +kernel
theorem dX8_caughtOnes_1 : decode cX8_caughtOnes 1 = .ok (.istore_n 1, 1) := by decide +kernel
theorem dX8_caughtOnes_2 : decode cX8_caughtOnes 2 = .ok (.iconst 0, 1) := by decide +kernel
theorem dX8_caughtOnes_3 : decode cX8_caughtOnes 3 = .ok (.istore_n 2, 1) := by decide +kernel
theorem dX8_caughtOnes_4 : decode cX8_caughtOnes 4 = .ok (.iload_n 2, 1) := by decide +kernel
theorem dX8_caughtOnes_5 : decode cX8_caughtOnes 5 = .ok (.aload_n 0, 1) := by decide +kernel
theorem dX8_caughtOnes_6 : decode cX8_caughtOnes 6 = .ok (.getfield 23, 3) := by decide +kernel
theorem dX8_caughtOnes_9 : decode cX8_caughtOnes 9 = .ok (.getfield 113, 3) := by decide +kernel
theorem dX8_caughtOnes_12 : decode cX8_caughtOnes 12 = .ok (.if_icmp .ge 30, 3) := by decide +kernel
theorem dX8_caughtOnes_42 : decode cX8_caughtOnes 42 = .ok (.iload_n 1, 1) := by decide +kernel
theorem dX8_caughtOnes_43 : decode cX8_caughtOnes 43 = .ok (.ireturn, 1) := by decide +kernel
theorem dX8_cut_0 : decode cX8_cut 0 = .ok (.iload_n 1, 1) := by decide +kernel
theorem dX8_cut_1 : decode cX8_cut 1 = .ok (.ifCond .lt 37, 3) := by decide +kernel
theorem dX8_cut_4 : decode cX8_cut 4 = .ok (.iload_n 1, 1) := by decide +kernel
theorem dX8_cut_5 : decode cX8_cut 5 = .ok (.iconst 4, 1) := by decide +kernel
theorem dX8_cut_6 : decode cX8_cut 6 = .ok (.if_icmp .gt 32, 3) := by decide +kernel
theorem dX8_cut_9 : decode cX8_cut 9 = .ok (.aload_n 0, 1) := by decide +kernel
theorem dX8_cut_10 : decode cX8_cut 10 = .ok (.getfield 30, 3) := by decide +kernel
theorem dX8_cut_13 : decode cX8_cut 13 = .ok (.getfield 135, 3) := by decide +kernel
theorem dX8_cut_16 : decode cX8_cut 16 = .ok (.iconst 1, 1) := by decide +kernel
theorem dX8_cut_17 : decode cX8_cut 17 = .ok (.if_icmp .lt 21, 3) := by decide +kernel
theorem dX8_cut_38 : decode cX8_cut 38 = .ok (.iconst (-1), 1) := by decide +kernel
theorem dX8_cut_39 : decode cX8_cut 39 = .ok (.ireturn, 1) := by decide +kernel
theorem dX8_dream_0 : decode cX8_dream 0 = .ok (.aload_n 0, 1) := by decide +kernel
theorem dX8_dream_1 : decode cX8_dream 1 = .ok (.iload_n 1, 1) := by decide +kernel
theorem dX8_dream_2 : decode cX8_dream 2 = .ok (.invokevirtual 166, 3) := by decide +kernel
theorem dX8_dream_5 : decode cX8_dream 5 = .ok (.ifCond .ne 5, 3) := by decide +kernel
theorem dX8_dream_8 : decode cX8_dream 8 = .ok (.iconst (-1), 1) := by decide +kernel
theorem dX8_dream_9 : decode cX8_dream 9 = .ok (.ireturn, 1) := by decide +kernel
theorem dX8_dreamers_0 : decode cX8_dreamers 0 = .ok (.iconst 0, 1) := by decide +kernel
theorem dX8_dreamers_1 : decode cX8_dreamers 1 = .ok (.istore_n 2, 1) := by decide +kernel
theorem dX8_dreamers_2 : decode cX8_dreamers 2 = .ok (.iconst 0, 1) := by decide +kernel
theorem dX8_dreamers_3 : decode cX8_dreamers 3 = .ok (.istore_n 3, 1) := by decide +kernel
theorem dX8_dreamers_4 : decode cX8_dreamers 4 = .ok (.iload_n 3, 1) := by decide +kernel
theorem dX8_dreamers_5 : decode cX8_dreamers 5 = .ok (.aload_n 0, 1) := by decide +kernel
theorem dX8_dreamers_6 : decode cX8_dreamers 6 = .ok (.getfield 23, 3) := by decide +kernel
theorem dX8_dreamers_9 : decode cX8_dreamers 9 = .ok (.getfield 113, 3) := by decide +kernel
theorem dX8_dreamers_12 : decode cX8_dreamers 12 = .ok (.if_icmp .ge 45, 3) := by decide +kernel
theorem dX8_dreamers_57 : decode cX8_dreamers 57 = .ok (.iload_n 2, 1) := by decide +kernel
theorem dX8_dreamers_58 : decode cX8_dreamers 58 = .ok (.ireturn, 1) := by decide +kernel
theorem dX8_dreams_0 : decode cX8_dreams 0 = .ok (.aload_n 0, 1) := by decide +kernel
theorem dX8_dreams_1 : decode cX8_dreams 1 = .ok (.iload_n 1, 1) := by decide +kernel
theorem dX8_dreams_2 : decode cX8_dreams 2 = .ok (.invokevirtual 155, 3) := by decide +kernel
theorem dX8_dreams_5 : decode cX8_dreams 5 = .ok (.ifCond .eq 30, 3) := by decide +kernel
theorem dX8_dreams_35 : decode cX8_dreams 35 = .ok (.aload_n 0, 1) := by decide +kernel
theorem dX8_dreams_36 : decode cX8_dreams 36 = .ok (.iconst 2, 1) := by decide +kernel
theorem dX8_dreams_37 : decode cX8_dreams 37 = .ok (.invokevirtual 78, 3) := by decide +kernel
theorem dX8_dreams_40 : decode cX8_dreams 40 = .ok (.iconst (-1), 1) := by decide +kernel
theorem dX8_dreams_41 : decode cX8_dreams 41 = .ok (.ireturn, 1) := by decide +kernel
theorem dX8_end_0 : decode cX8_end 0 = .ok (.iload_n 1, 1) := by decide +kernel
theorem dX8_end_1 : decode cX8_end 1 = .ok (.ifCond .lt 11, 3) := by decide +kernel
theorem dX8_end_4 : decode cX8_end 4 = .ok (.iload_n 1, 1) := by decide +kernel
theorem dX8_end_5 : decode cX8_end 5 = .ok (.aload_n 0, 1) := by decide +kernel
theorem dX8_end_6 : decode cX8_end 6 = .ok (.getfield 74, 3) := by decide +kernel
theorem dX8_end_9 : decode cX8_end 9 = .ok (.if_icmp .le 10, 3) := by decide +kernel
theorem dX8_end_12 : decode cX8_end 12 = .ok (.aload_n 0, 1) := by decide +kernel
theorem dX8_end_13 : decode cX8_end 13 = .ok (.iconst 0, 1) := by decide +kernel
theorem dX8_end_14 : decode cX8_end 14 = .ok (.invokevirtual 78, 3) := by decide +kernel
theorem dX8_end_17 : decode cX8_end 17 = .ok (.iconst 0, 1) := by decide +kernel
theorem dX8_end_18 : decode cX8_end 18 = .ok (.ireturn, 1) := by decide +kernel
theorem dX8_end_19 : decode cX8_end 19 = .ok (.aload_n 0, 1) := by decide +kernel
theorem dX8_end_20 : decode cX8_end 20 = .ok (.iload_n 1, 1) := by decide +kernel
theorem dX8_end_21 : decode cX8_end 21 = .ok (.putfield 74, 3) := by decide +kernel
theorem dX8_end_24 : decode cX8_end 24 = .ok (.iconst 1, 1) := by decide +kernel
theorem dX8_end_25 : decode cX8_end 25 = .ok (.ireturn, 1) := by decide +kernel
theorem dX8_exchange_0 : decode cX8_exchange 0 = .ok (.iload_n 1, 1) := by decide +kernel
theorem dX8_exchange_1 : decode cX8_exchange 1 = .ok (.iconst (-1), 1) := by decide +kernel
theorem dX8_exchange_2 : decode cX8_exchange 2 = .ok (.if_icmp .eq 17, 3) := by decide +kernel
theorem dX8_exchange_5 : decode cX8_exchange 5 = .ok (.iload_n 1, 1) := by decide +kernel
theorem dX8_exchange_6 : decode cX8_exchange 6 = .ok (.bipush 20, 2) := by decide +kernel
theorem dX8_exchange_8 : decode cX8_exchange 8 = .ok (.if_icmp .eq 11, 3) := by decide +kernel
theorem dX8_exchange_11 : decode cX8_exchange 11 = .ok (.aload_n 0, 1) := by decide +kernel
theorem dX8_exchange_12 : decode cX8_exchange 12 = .ok (.iload_n 1, 1) := by decide +kernel
theorem dX8_exchange_13 : decode cX8_exchange 13 = .ok (.invokevirtual 212, 3) := by decide +kernel
theorem dX8_exchange_16 : decode cX8_exchange 16 = .ok (.ifCond .eq 7, 3) := by decide +kernel
theorem dX8_exchange_19 : decode cX8_exchange 19 = .ok (.iconst 1, 1) := by decide +kernel
theorem dX8_exchange_20 : decode cX8_exchange 20 = .ok (.goto 4, 3) := by decide +kernel
theorem dX8_exchange_23 : decode cX8_exchange 23 = .ok (.iconst 0, 1) := by decide +kernel
theorem dX8_exchange_24 : decode cX8_exchange 24 = .ok (.istore_n 2, 1) := by decide +kernel
theorem dX8_exchange_25 : decode cX8_exchange 25 = .ok (.aload_n 0, 1) := by decide +kernel
theorem dX8_exchange_26 : decode cX8_exchange 26 = .ok (.getfield 30, 3) := by decide +kernel
theorem dX8_exchange_29 : decode cX8_exchange 29 = .ok (.getfield 135, 3) := by decide +kernel
theorem dX8_exchange_32 : decode cX8_exchange 32 = .ok (.iconst 1, 1) := by decide +kernel
theorem dX8_exchange_33 : decode cX8_exchange 33 = .ok (.if_icmp .lt 7, 3) := by decide +kernel
theorem dX8_exchange_40 : decode cX8_exchange 40 = .ok (.iconst (-1), 1) := by decide +kernel
theorem dX8_exchange_41 : decode cX8_exchange 41 = .ok (.ireturn, 1) := by decide +kernel
theorem dX8_fault_0 : decode cX8_fault 0 = .ok (.iload_n 1, 1) := by decide +kernel
theorem dX8_fault_1 : decode cX8_fault 1 = .ok (.lookupswitch 43 #[(0, 27), (1, 35)], 27) := by decide +kernel
theorem dX8_fault_28 : decode cX8_fault 28 = .ok (.aload_n 0, 1) := by decide +kernel
theorem dX8_fault_29 : decode cX8_fault 29 = .ok (.getfield 16, 3) := by decide +kernel
theorem dX8_fault_32 : decode cX8_fault 32 = .ok (.getfield 107, 3) := by decide +kernel
theorem dX8_fault_35 : decode cX8_fault 35 = .ok (.ireturn, 1) := by decide +kernel
theorem dX8_fault_36 : decode cX8_fault 36 = .ok (.aload_n 0, 1) := by decide +kernel
theorem dX8_fault_37 : decode cX8_fault 37 = .ok (.getfield 16, 3) := by decide +kernel
theorem dX8_fault_40 : decode cX8_fault 40 = .ok (.getfield 110, 3) := by decide +kernel
theorem dX8_fault_43 : decode cX8_fault 43 = .ok (.ireturn, 1) := by decide +kernel
theorem dX8_fault_44 : decode cX8_fault 44 = .ok (.iconst (-1), 1) := by decide +kernel
theorem dX8_fault_45 : decode cX8_fault 45 = .ok (.ireturn, 1) := by decide +kernel
theorem dX8_feed_0 : decode cX8_feed 0 = .ok (.aload_n 0, 1) := by decide +kernel
theorem dX8_feed_1 : decode cX8_feed 1 = .ok (.getfield 74, 3) := by decide +kernel
theorem dX8_feed_4 : decode cX8_feed 4 = .ok (.bipush 20, 2) := by decide +kernel
theorem dX8_feed_6 : decode cX8_feed 6 = .ok (.iadd, 1) := by decide +kernel
theorem dX8_feed_7 : decode cX8_feed 7 = .ok (.sipush 1600, 3) := by decide +kernel
theorem dX8_feed_10 : decode cX8_feed 10 = .ok (.if_icmp .le 10, 3) := by decide +kernel
theorem dX8_feed_20 : decode cX8_feed 20 = .ok (.aload_n 0, 1) := by decide +kernel
theorem dX8_feed_21 : decode cX8_feed 21 = .ok (.iload_n 1, 1) := by decide +kernel
theorem dX8_feed_22 : decode cX8_feed 22 = .ok (.invokevirtual 82, 3) := by decide +kernel
theorem dX8_feed_25 : decode cX8_feed 25 = .ok (.aload_n 0, 1) := by decide +kernel
theorem dX8_feed_26 : decode cX8_feed 26 = .ok (.iload_n 2, 1) := by decide +kernel
theorem dX8_feed_27 : decode cX8_feed 27 = .ok (.invokevirtual 82, 3) := by decide +kernel
theorem dX8_feed_30 : decode cX8_feed 30 = .ok (.aload_n 0, 1) := by decide +kernel
theorem dX8_feed_31 : decode cX8_feed 31 = .ok (.iload_n 3, 1) := by decide +kernel
theorem dX8_feed_32 : decode cX8_feed 32 = .ok (.invokevirtual 82, 3) := by decide +kernel
theorem dX8_feed_35 : decode cX8_feed 35 = .ok (.aload_n 0, 1) := by decide +kernel
theorem dX8_feed_36 : decode cX8_feed 36 = .ok (.iload 4, 2) := by decide +kernel
theorem dX8_feed_38 : decode cX8_feed 38 = .ok (.invokevirtual 82, 3) := by decide +kernel
theorem dX8_feed_41 : decode cX8_feed 41 = .ok (.aload_n 0, 1) := by decide +kernel
theorem dX8_feed_42 : decode cX8_feed 42 = .ok (.iload 5, 2) := by decide +kernel
theorem dX8_feed_44 : decode cX8_feed 44 = .ok (.invokevirtual 82, 3) := by decide +kernel
theorem dX8_feed_47 : decode cX8_feed 47 = .ok (.aload_n 0, 1) := by decide +kernel
theorem dX8_feed_48 : decode cX8_feed 48 = .ok (.getfield 74, 3) := by decide +kernel
theorem dX8_feed_51 : decode cX8_feed 51 = .ok (.ireturn, 1) := by decide +kernel
theorem dX8_feels_0 : decode cX8_feels 0 = .ok (.aload_n 0, 1) := by decide +kernel
theorem dX8_feels_1 : decode cX8_feels 1 = .ok (.iload_n 1, 1) := by decide +kernel
theorem dX8_feels_2 : decode cX8_feels 2 = .ok (.invokevirtual 212, 3) := by decide +kernel
theorem dX8_feels_5 : decode cX8_feels 5 = .ok (.ifCond .eq 23, 3) := by decide +kernel
theorem dX8_feels_28 : decode cX8_feels 28 = .ok (.iconst (-1), 1) := by decide +kernel
theorem dX8_feels_29 : decode cX8_feels 29 = .ok (.ireturn, 1) := by decide +kernel
theorem dX8_go_0 : decode cX8_go 0 = .ok (.iload_n 1, 1) := by decide +kernel
theorem dX8_go_1 : decode cX8_go 1 = .ok (.iconst 1, 1) := by decide +kernel
theorem dX8_go_2 : decode cX8_go 2 = .ok (.if_icmp .lt 32, 3) := by decide +kernel
theorem dX8_go_5 : decode cX8_go 5 = .ok (.iload_n 1, 1) := by decide +kernel
theorem dX8_go_6 : decode cX8_go 6 = .ok (.bipush 99, 2) := by decide +kernel
theorem dX8_go_8 : decode cX8_go 8 = .ok (.if_icmp .gt 26, 3) := by decide +kernel
theorem dX8_go_11 : decode cX8_go 11 = .ok (.aload_n 0, 1) := by decide +kernel
theorem dX8_go_12 : decode cX8_go 12 = .ok (.getfield 30, 3) := by decide +kernel
theorem dX8_go_15 : decode cX8_go 15 = .ok (.getfield 135, 3) := by decide +kernel
theorem dX8_go_18 : decode cX8_go 18 = .ok (.ifCond .eq 16, 3) := by decide +kernel
theorem dX8_go_34 : decode cX8_go 34 = .ok (.aload_n 0, 1) := by decide +kernel
theorem dX8_go_35 : decode cX8_go 35 = .ok (.iconst 2, 1) := by decide +kernel
theorem dX8_go_36 : decode cX8_go 36 = .ok (.invokevirtual 78, 3) := by decide +kernel
theorem dX8_go_39 : decode cX8_go 39 = .ok (.iconst (-1), 1) := by decide +kernel
theorem dX8_go_40 : decode cX8_go 40 = .ok (.ireturn, 1) := by decide +kernel
theorem dX8_has_0 : decode cX8_has 0 = .ok (.iload_n 1, 1) := by decide +kernel
theorem dX8_has_1 : decode cX8_has 1 = .ok (.tableswitch 167 0 11 #[63, 71, 79, 90, 95, 103, 119, 125, 130, 138, 146, 159], 63) := by decide +kernel
theorem dX8_has_64 : decode cX8_has 64 = .ok (.aload_n 0, 1) := by decide +kernel
theorem dX8_has_65 : decode cX8_has 65 = .ok (.getfield 23, 3) := by decide +kernel
theorem dX8_has_68 : decode cX8_has 68 = .ok (.getfield 113, 3) := by decide +kernel
theorem dX8_has_71 : decode cX8_has 71 = .ok (.ireturn, 1) := by decide +kernel
theorem dX8_has_72 : decode cX8_has 72 = .ok (.aload_n 0, 1) := by decide +kernel
theorem dX8_has_73 : decode cX8_has 73 = .ok (.getfield 23, 3) := by decide +kernel
theorem dX8_has_76 : decode cX8_has 76 = .ok (.getfield 116, 3) := by decide +kernel
theorem dX8_has_79 : decode cX8_has 79 = .ok (.ireturn, 1) := by decide +kernel
theorem dX8_has_80 : decode cX8_has 80 = .ok (.aload_n 0, 1) := by decide +kernel
theorem dX8_has_81 : decode cX8_has 81 = .ok (.getfield 23, 3) := by decide +kernel
theorem dX8_has_84 : decode cX8_has 84 = .ok (.getfield 119, 3) := by decide +kernel
theorem dX8_has_87 : decode cX8_has 87 = .ok (.getfield 123, 3) := by decide +kernel
theorem dX8_has_90 : decode cX8_has 90 = .ok (.ireturn, 1) := by decide +kernel
theorem dX8_has_91 : decode cX8_has 91 = .ok (.aload_n 0, 1) := by decide +kernel
theorem dX8_has_92 : decode cX8_has 92 = .ok (.invokevirtual 128, 3) := by decide +kernel
theorem dX8_has_95 : decode cX8_has 95 = .ok (.ireturn, 1) := by decide +kernel
theorem dX8_has_96 : decode cX8_has 96 = .ok (.aload_n 0, 1) := by decide +kernel
theorem dX8_has_97 : decode cX8_has 97 = .ok (.getfield 30, 3) := by decide +kernel
theorem dX8_has_100 : decode cX8_has 100 = .ok (.getfield 132, 3) := by decide +kernel
theorem dX8_has_103 : decode cX8_has 103 = .ok (.ireturn, 1) := by decide +kernel
theorem dX8_has_104 : decode cX8_has 104 = .ok (.aload_n 0, 1) := by decide +kernel
theorem dX8_has_105 : decode cX8_has 105 = .ok (.getfield 30, 3) := by decide +kernel
theorem dX8_has_108 : decode cX8_has 108 = .ok (.getfield 135, 3) := by decide +kernel
theorem dX8_has_111 : decode cX8_has 111 = .ok (.aload_n 0, 1) := by decide +kernel
theorem dX8_has_112 : decode cX8_has 112 = .ok (.getfield 30, 3) := by decide +kernel
theorem dX8_has_115 : decode cX8_has 115 = .ok (.invokevirtual 136, 3) := by decide +kernel
theorem dX8_has_118 : decode cX8_has 118 = .ok (.isub, 1) := by decide +kernel
theorem dX8_has_119 : decode cX8_has 119 = .ok (.ireturn, 1) := by decide +kernel
theorem dX8_has_120 : decode cX8_has 120 = .ok (.aload_n 0, 1) := by decide +kernel
theorem dX8_has_121 : decode cX8_has 121 = .ok (.iconst (-1), 1) := by decide +kernel
theorem dX8_has_122 : decode cX8_has 122 = .ok (.invokevirtual 139, 3) := by decide +kernel
theorem dX8_has_125 : decode cX8_has 125 = .ok (.ireturn, 1) := by decide +kernel
theorem dX8_has_126 : decode cX8_has 126 = .ok (.aload_n 0, 1) := by decide +kernel
theorem dX8_has_127 : decode cX8_has 127 = .ok (.invokevirtual 143, 3) := by decide +kernel
theorem dX8_has_130 : decode cX8_has 130 = .ok (.ireturn, 1) := by decide +kernel
theorem dX8_has_131 : decode cX8_has 131 = .ok (.aload_n 0, 1) := by decide +kernel
theorem dX8_has_132 : decode cX8_has 132 = .ok (.getfield 30, 3) := by decide +kernel
theorem dX8_has_135 : decode cX8_has 135 = .ok (.invokevirtual 146, 3) := by decide +kernel
theorem dX8_has_138 : decode cX8_has 138 = .ok (.ireturn, 1) := by decide +kernel
theorem dX8_has_139 : decode cX8_has 139 = .ok (.aload_n 0, 1) := by decide +kernel
theorem dX8_has_140 : decode cX8_has 140 = .ok (.getfield 40, 3) := by decide +kernel
theorem dX8_has_143 : decode cX8_has 143 = .ok (.getfield 149, 3) := by decide +kernel
theorem dX8_has_146 : decode cX8_has 146 = .ok (.ireturn, 1) := by decide +kernel
theorem dX8_has_147 : decode cX8_has 147 = .ok (.aload_n 0, 1) := by decide +kernel
theorem dX8_has_148 : decode cX8_has 148 = .ok (.getfield 23, 3) := by decide +kernel
theorem dX8_has_151 : decode cX8_has 151 = .ok (.getfield 113, 3) := by decide +kernel
theorem dX8_has_154 : decode cX8_has 154 = .ok (.aload_n 0, 1) := by decide +kernel
theorem dX8_has_155 : decode cX8_has 155 = .ok (.invokevirtual 128, 3) := by decide +kernel
theorem dX8_has_158 : decode cX8_has 158 = .ok (.isub, 1) := by decide +kernel
theorem dX8_has_159 : decode cX8_has 159 = .ok (.ireturn, 1) := by decide +kernel
theorem dX8_has_160 : decode cX8_has 160 = .ok (.aload_n 0, 1) := by decide +kernel
theorem dX8_has_161 : decode cX8_has 161 = .ok (.getfield 47, 3) := by decide +kernel
theorem dX8_has_164 : decode cX8_has 164 = .ok (.getfield 152, 3) := by decide +kernel
theorem dX8_has_167 : decode cX8_has 167 = .ok (.ireturn, 1) := by decide +kernel
theorem dX8_has_168 : decode cX8_has 168 = .ok (.iconst (-1), 1) := by decide +kernel
theorem dX8_has_169 : decode cX8_has 169 = .ok (.ireturn, 1) := by decide +kernel
theorem dX8_isBoy_0 : decode cX8_isBoy 0 = .ok (.iload_n 1, 1) := by decide +kernel
theorem dX8_isBoy_1 : decode cX8_isBoy 1 = .ok (.ifCond .lt 18, 3) := by decide +kernel
theorem dX8_isBoy_4 : decode cX8_isBoy 4 = .ok (.iload_n 1, 1) := by decide +kernel
theorem dX8_isBoy_5 : decode cX8_isBoy 5 = .ok (.aload_n 0, 1) := by decide +kernel
theorem dX8_isBoy_6 : decode cX8_isBoy 6 = .ok (.getfield 23, 3) := by decide +kernel
theorem dX8_isBoy_9 : decode cX8_isBoy 9 = .ok (.getfield 113, 3) := by decide +kernel
theorem dX8_isBoy_12 : decode cX8_isBoy 12 = .ok (.if_icmp .ge 7, 3) := by decide +kernel
theorem dX8_isBoy_19 : decode cX8_isBoy 19 = .ok (.iconst 0, 1) := by decide +kernel
theorem dX8_isBoy_20 : decode cX8_isBoy 20 = .ok (.ireturn, 1) := by decide +kernel
theorem dX8_isDream_0 : decode cX8_isDream 0 = .ok (.iload_n 1, 1) := by decide +kernel
theorem dX8_isDream_1 : decode cX8_isDream 1 = .ok (.ifCond .lt 18, 3) := by decide +kernel
theorem dX8_isDream_4 : decode cX8_isDream 4 = .ok (.iload_n 1, 1) := by decide +kernel
theorem dX8_isDream_5 : decode cX8_isDream 5 = .ok (.aload_n 0, 1) := by decide +kernel
theorem dX8_isDream_6 : decode cX8_isDream 6 = .ok (.getfield 23, 3) := by decide +kernel
theorem dX8_isDream_9 : decode cX8_isDream 9 = .ok (.getfield 116, 3) := by decide +kernel
theorem dX8_isDream_12 : decode cX8_isDream 12 = .ok (.if_icmp .ge 7, 3) := by decide +kernel
theorem dX8_isDream_19 : decode cX8_isDream 19 = .ok (.iconst 0, 1) := by decide +kernel
theorem dX8_isDream_20 : decode cX8_isDream 20 = .ok (.ireturn, 1) := by decide +kernel
theorem dX8_isKnot_0 : decode cX8_isKnot 0 = .ok (.iload_n 1, 1) := by decide +kernel
theorem dX8_isKnot_1 : decode cX8_isKnot 1 = .ok (.ifCond .lt 20, 3) := by decide +kernel
theorem dX8_isKnot_4 : decode cX8_isKnot 4 = .ok (.iload_n 1, 1) := by decide +kernel
theorem dX8_isKnot_5 : decode cX8_isKnot 5 = .ok (.aload_n 0, 1) := by decide +kernel
theorem dX8_isKnot_6 : decode cX8_isKnot 6 = .ok (.getfield 30, 3) := by decide +kernel
theorem dX8_isKnot_9 : decode cX8_isKnot 9 = .ok (.getfield 135, 3) := by decide +kernel
theorem dX8_isKnot_12 : decode cX8_isKnot 12 = .ok (.iconst 1, 1) := by decide +kernel
theorem dX8_isKnot_13 : decode cX8_isKnot 13 = .ok (.isub, 1) := by decide +kernel
theorem dX8_isKnot_14 : decode cX8_isKnot 14 = .ok (.if_icmp .ge 7, 3) := by decide +kernel
theorem dX8_isKnot_21 : decode cX8_isKnot 21 = .ok (.iconst 0, 1) := by decide +kernel
theorem dX8_isKnot_22 : decode cX8_isKnot 22 = .ok (.ireturn, 1) := by decide +kernel
theorem dX8_isPlace_0 : decode cX8_isPlace 0 = .ok (.iload_n 1, 1) := by decide +kernel
theorem dX8_isPlace_1 : decode cX8_isPlace 1 = .ok (.ifCond .lt 18, 3) := by decide +kernel
theorem dX8_isPlace_4 : decode cX8_isPlace 4 = .ok (.iload_n 1, 1) := by decide +kernel
theorem dX8_isPlace_5 : decode cX8_isPlace 5 = .ok (.aload_n 0, 1) := by decide +kernel
theorem dX8_isPlace_6 : decode cX8_isPlace 6 = .ok (.getfield 30, 3) := by decide +kernel
theorem dX8_isPlace_9 : decode cX8_isPlace 9 = .ok (.getfield 135, 3) := by decide +kernel
theorem dX8_isPlace_12 : decode cX8_isPlace 12 = .ok (.if_icmp .ge 7, 3) := by decide +kernel
theorem dX8_isPlace_19 : decode cX8_isPlace 19 = .ok (.iconst 0, 1) := by decide +kernel
theorem dX8_isPlace_20 : decode cX8_isPlace 20 = .ok (.ireturn, 1) := by decide +kernel
theorem dX8_knot_0 : decode cX8_knot 0 = .ok (.aload_n 0, 1) := by decide +kernel
theorem dX8_knot_1 : decode cX8_knot 1 = .ok (.iload_n 1, 1) := by decide +kernel
theorem dX8_knot_2 : decode cX8_knot 2 = .ok (.invokevirtual 218, 3) := by decide +kernel
theorem dX8_knot_5 : decode cX8_knot 5 = .ok (.ifCond .ne 5, 3) := by decide +kernel
theorem dX8_knot_8 : decode cX8_knot 8 = .ok (.iconst (-1), 1) := by decide +kernel
theorem dX8_knot_9 : decode cX8_knot 9 = .ok (.ireturn, 1) := by decide +kernel
theorem dX8_law_0 : decode cX8_law 0 = .ok (.aload_n 0, 1) := by decide +kernel
theorem dX8_law_1 : decode cX8_law 1 = .ok (.iload_n 1, 1) := by decide +kernel
theorem dX8_law_2 : decode cX8_law 2 = .ok (.invokevirtual 212, 3) := by decide +kernel
theorem dX8_law_5 : decode cX8_law 5 = .ok (.ifCond .eq 10, 3) := by decide +kernel
theorem dX8_law_15 : decode cX8_law 15 = .ok (.iconst (-1), 1) := by decide +kernel
theorem dX8_law_16 : decode cX8_law 16 = .ok (.ireturn, 1) := by decide +kernel
theorem dX8_least_0 : decode cX8_least 0 = .ok (.aload_n 0, 1) := by decide +kernel
theorem dX8_least_1 : decode cX8_least 1 = .ok (.iload_n 1, 1) := by decide +kernel
theorem dX8_least_2 : decode cX8_least 2 = .ok (.invokevirtual 212, 3) := by decide +kernel
theorem dX8_least_5 : decode cX8_least 5 = .ok (.ifCond .eq 16, 3) := by decide +kernel
theorem dX8_least_21 : decode cX8_least 21 = .ok (.iconst (-1), 1) := by decide +kernel
theorem dX8_least_22 : decode cX8_least 22 = .ok (.ireturn, 1) := by decide +kernel
theorem dX8_letter_0 : decode cX8_letter 0 = .ok (.iload_n 3, 1) := by decide +kernel
theorem dX8_letter_1 : decode cX8_letter 1 = .ok (.ifCond .lt 9, 3) := by decide +kernel
theorem dX8_letter_4 : decode cX8_letter 4 = .ok (.iload_n 3, 1) := by decide +kernel
theorem dX8_letter_5 : decode cX8_letter 5 = .ok (.bipush 6, 2) := by decide +kernel
theorem dX8_letter_7 : decode cX8_letter 7 = .ok (.if_icmp .lt 5, 3) := by decide +kernel
theorem dX8_letter_10 : decode cX8_letter 10 = .ok (.iconst (-1), 1) := by decide +kernel
theorem dX8_letter_11 : decode cX8_letter 11 = .ok (.ireturn, 1) := by decide +kernel
theorem dX8_letter_12 : decode cX8_letter 12 = .ok (.iload_n 1, 1) := by decide +kernel
theorem dX8_letter_13 : decode cX8_letter 13 = .ok (.ifCond .ne 25, 3) := by decide +kernel
theorem dX8_letter_16 : decode cX8_letter 16 = .ok (.aload_n 0, 1) := by decide +kernel
theorem dX8_letter_17 : decode cX8_letter 17 = .ok (.iload_n 2, 1) := by decide +kernel
theorem dX8_letter_18 : decode cX8_letter 18 = .ok (.invokevirtual 155, 3) := by decide +kernel
theorem dX8_letter_21 : decode cX8_letter 21 = .ok (.ifCond .eq 17, 3) := by decide +kernel
theorem dX8_letter_38 : decode cX8_letter 38 = .ok (.iload_n 1, 1) := by decide +kernel
theorem dX8_letter_39 : decode cX8_letter 39 = .ok (.iconst 1, 1) := by decide +kernel
theorem dX8_letter_40 : decode cX8_letter 40 = .ok (.if_icmp .ne 25, 3) := by decide +kernel
theorem dX8_letter_43 : decode cX8_letter 43 = .ok (.aload_n 0, 1) := by decide +kernel
theorem dX8_letter_44 : decode cX8_letter 44 = .ok (.iload_n 2, 1) := by decide +kernel
theorem dX8_letter_45 : decode cX8_letter 45 = .ok (.invokevirtual 166, 3) := by decide +kernel
theorem dX8_letter_48 : decode cX8_letter 48 = .ok (.ifCond .eq 17, 3) := by decide +kernel
theorem dX8_letter_65 : decode cX8_letter 65 = .ok (.iconst (-1), 1) := by decide +kernel
theorem dX8_letter_66 : decode cX8_letter 66 = .ok (.ireturn, 1) := by decide +kernel
theorem dX8_nights_0 : decode cX8_nights 0 = .ok (.iload_n 1, 1) := by decide +kernel
theorem dX8_nights_1 : decode cX8_nights 1 = .ok (.iconst 1, 1) := by decide +kernel
theorem dX8_nights_2 : decode cX8_nights 2 = .ok (.if_icmp .lt 40, 3) := by decide +kernel
theorem dX8_nights_5 : decode cX8_nights 5 = .ok (.iload_n 1, 1) := by decide +kernel
theorem dX8_nights_6 : decode cX8_nights 6 = .ok (.bipush 20, 2) := by decide +kernel
theorem dX8_nights_8 : decode cX8_nights 8 = .ok (.if_icmp .gt 34, 3) := by decide +kernel
theorem dX8_nights_11 : decode cX8_nights 11 = .ok (.iload_n 2, 1) := by decide +kernel
theorem dX8_nights_12 : decode cX8_nights 12 = .ok (.iconst 1, 1) := by decide +kernel
theorem dX8_nights_13 : decode cX8_nights 13 = .ok (.if_icmp .lt 29, 3) := by decide +kernel
theorem dX8_nights_16 : decode cX8_nights 16 = .ok (.iload_n 2, 1) := by decide +kernel
theorem dX8_nights_17 : decode cX8_nights 17 = .ok (.bipush 60, 2) := by decide +kernel
theorem dX8_nights_19 : decode cX8_nights 19 = .ok (.if_icmp .gt 23, 3) := by decide +kernel
theorem dX8_nights_22 : decode cX8_nights 22 = .ok (.iload_n 3, 1) := by decide +kernel
theorem dX8_nights_23 : decode cX8_nights 23 = .ok (.ifCond .lt 19, 3) := by decide +kernel
theorem dX8_nights_26 : decode cX8_nights 26 = .ok (.iload_n 3, 1) := by decide +kernel
theorem dX8_nights_27 : decode cX8_nights 27 = .ok (.iconst 2, 1) := by decide +kernel
theorem dX8_nights_28 : decode cX8_nights 28 = .ok (.if_icmp .gt 14, 3) := by decide +kernel
theorem dX8_nights_31 : decode cX8_nights 31 = .ok (.aload_n 0, 1) := by decide +kernel
theorem dX8_nights_32 : decode cX8_nights 32 = .ok (.getfield 30, 3) := by decide +kernel
theorem dX8_nights_35 : decode cX8_nights 35 = .ok (.getfield 135, 3) := by decide +kernel
theorem dX8_nights_38 : decode cX8_nights 38 = .ok (.iconst 1, 1) := by decide +kernel
theorem dX8_nights_39 : decode cX8_nights 39 = .ok (.if_icmp .ge 5, 3) := by decide +kernel
theorem dX8_nights_42 : decode cX8_nights 42 = .ok (.iconst (-1), 1) := by decide +kernel
theorem dX8_nights_43 : decode cX8_nights 43 = .ok (.ireturn, 1) := by decide +kernel
theorem dX8_octet_0 : decode cX8_octet 0 = .ok (.iload_n 1, 1) := by decide +kernel
theorem dX8_octet_1 : decode cX8_octet 1 = .ok (.ifCond .lt 11, 3) := by decide +kernel
theorem dX8_octet_4 : decode cX8_octet 4 = .ok (.iload_n 1, 1) := by decide +kernel
theorem dX8_octet_5 : decode cX8_octet 5 = .ok (.aload_n 0, 1) := by decide +kernel
theorem dX8_octet_6 : decode cX8_octet 6 = .ok (.getfield 368, 3) := by decide +kernel
theorem dX8_octet_9 : decode cX8_octet 9 = .ok (.if_icmp .lt 7, 3) := by decide +kernel
theorem dX8_octet_12 : decode cX8_octet 12 = .ok (.iconst (-1), 1) := by decide +kernel
theorem dX8_octet_13 : decode cX8_octet 13 = .ok (.goto 9, 3) := by decide +kernel
theorem dX8_octet_22 : decode cX8_octet 22 = .ok (.ireturn, 1) := by decide +kernel
theorem dX8_pulled_0 : decode cX8_pulled 0 = .ok (.aload_n 0, 1) := by decide +kernel
theorem dX8_pulled_1 : decode cX8_pulled 1 = .ok (.iload_n 1, 1) := by decide +kernel
theorem dX8_pulled_2 : decode cX8_pulled 2 = .ok (.invokevirtual 155, 3) := by decide +kernel
theorem dX8_pulled_5 : decode cX8_pulled 5 = .ok (.ifCond .eq 23, 3) := by decide +kernel
theorem dX8_pulled_28 : decode cX8_pulled 28 = .ok (.iconst (-1), 1) := by decide +kernel
theorem dX8_pulled_29 : decode cX8_pulled 29 = .ok (.ireturn, 1) := by decide +kernel
theorem dX8_putOnTape_0 : decode cX8_putOnTape 0 = .ok (.bipush 24, 2) := by decide +kernel
theorem dX8_putOnTape_2 : decode cX8_putOnTape 2 = .ok (.istore_n 2, 1) := by decide +kernel
theorem dX8_putOnTape_3 : decode cX8_putOnTape 3 = .ok (.iload_n 2, 1) := by decide +kernel
theorem dX8_putOnTape_4 : decode cX8_putOnTape 4 = .ok (.ifCond .lt 45, 3) := by decide +kernel
theorem dX8_putOnTape_7 : decode cX8_putOnTape 7 = .ok (.aload_n 0, 1) := by decide +kernel
theorem dX8_putOnTape_8 : decode cX8_putOnTape 8 = .ok (.getfield 74, 3) := by decide +kernel
theorem dX8_putOnTape_11 : decode cX8_putOnTape 11 = .ok (.sipush 1600, 3) := by decide +kernel
theorem dX8_putOnTape_14 : decode cX8_putOnTape 14 = .ok (.if_icmp .ge 35, 3) := by decide +kernel
theorem dX8_putOnTape_17 : decode cX8_putOnTape 17 = .ok (.aload_n 0, 1) := by decide +kernel
theorem dX8_putOnTape_18 : decode cX8_putOnTape 18 = .ok (.getfield 9, 3) := by decide +kernel
theorem dX8_putOnTape_21 : decode cX8_putOnTape 21 = .ok (.aload_n 0, 1) := by decide +kernel
theorem dX8_putOnTape_22 : decode cX8_putOnTape 22 = .ok (.getfield 74, 3) := by decide +kernel
theorem dX8_putOnTape_25 : decode cX8_putOnTape 25 = .ok (.iload_n 1, 1) := by decide +kernel
theorem dX8_putOnTape_26 : decode cX8_putOnTape 26 = .ok (.iload_n 2, 1) := by decide +kernel
theorem dX8_putOnTape_27 : decode cX8_putOnTape 27 = .ok (.ishr, 1) := by decide +kernel
theorem dX8_putOnTape_28 : decode cX8_putOnTape 28 = .ok (.sipush 255, 3) := by decide +kernel
theorem dX8_putOnTape_31 : decode cX8_putOnTape 31 = .ok (.iand, 1) := by decide +kernel
theorem dX8_putOnTape_32 : decode cX8_putOnTape 32 = .ok (.iastore, 1) := by decide +kernel
theorem dX8_putOnTape_33 : decode cX8_putOnTape 33 = .ok (.aload_n 0, 1) := by decide +kernel
theorem dX8_putOnTape_34 : decode cX8_putOnTape 34 = .ok (.dup, 1) := by decide +kernel
theorem dX8_putOnTape_35 : decode cX8_putOnTape 35 = .ok (.getfield 74, 3) := by decide +kernel
theorem dX8_putOnTape_38 : decode cX8_putOnTape 38 = .ok (.iconst 1, 1) := by decide +kernel
theorem dX8_putOnTape_39 : decode cX8_putOnTape 39 = .ok (.iadd, 1) := by decide +kernel
theorem dX8_putOnTape_40 : decode cX8_putOnTape 40 = .ok (.putfield 74, 3) := by decide +kernel
theorem dX8_putOnTape_43 : decode cX8_putOnTape 43 = .ok (.iinc 2 (-8), 3) := by decide +kernel
theorem dX8_putOnTape_46 : decode cX8_putOnTape 46 = .ok (.goto (-43), 3) := by decide +kernel
theorem dX8_putOnTape_49 : decode cX8_putOnTape 49 = .ok (.return_, 1) := by decide +kernel
theorem dX8_refuse_0 : decode cX8_refuse 0 = .ok (.iload_n 1, 1) := by decide +kernel
theorem dX8_refuse_1 : decode cX8_refuse 1 = .ok (.ifCond .lt 19, 3) := by decide +kernel
theorem dX8_refuse_4 : decode cX8_refuse 4 = .ok (.iload_n 1, 1) := by decide +kernel
theorem dX8_refuse_5 : decode cX8_refuse 5 = .ok (.bipush 6, 2) := by decide +kernel
theorem dX8_refuse_7 : decode cX8_refuse 7 = .ok (.if_icmp .ge 13, 3) := by decide +kernel
theorem dX8_refuse_10 : decode cX8_refuse 10 = .ok (.aload_n 0, 1) := by decide +kernel
theorem dX8_refuse_11 : decode cX8_refuse 11 = .ok (.getfield 71, 3) := by decide +kernel
theorem dX8_refuse_14 : decode cX8_refuse 14 = .ok (.iload_n 1, 1) := by decide +kernel
theorem dX8_refuse_15 : decode cX8_refuse 15 = .ok (.dup2, 1) := by decide +kernel
theorem dX8_refuse_16 : decode cX8_refuse 16 = .ok (.iaload, 1) := by decide +kernel
theorem dX8_refuse_17 : decode cX8_refuse 17 = .ok (.iconst 1, 1) := by decide +kernel
theorem dX8_refuse_18 : decode cX8_refuse 18 = .ok (.iadd, 1) := by decide +kernel
theorem dX8_refuse_19 : decode cX8_refuse 19 = .ok (.iastore, 1) := by decide +kernel
theorem dX8_refuse_20 : decode cX8_refuse 20 = .ok (.return_, 1) := by decide +kernel
theorem dX8_seed_0 : decode cX8_seed 0 = .ok (.iload_n 1, 1) := by decide +kernel
theorem dX8_seed_1 : decode cX8_seed 1 = .ok (.ifCond .ge 10, 3) := by decide +kernel
theorem dX8_seed_4 : decode cX8_seed 4 = .ok (.aload_n 0, 1) := by decide +kernel
theorem dX8_seed_5 : decode cX8_seed 5 = .ok (.iconst 5, 1) := by decide +kernel
theorem dX8_seed_6 : decode cX8_seed 6 = .ok (.invokevirtual 78, 3) := by decide +kernel
theorem dX8_seed_9 : decode cX8_seed 9 = .ok (.iconst 0, 1) := by decide +kernel
theorem dX8_seed_10 : decode cX8_seed 10 = .ok (.ireturn, 1) := by decide +kernel
theorem dX8_seed_11 : decode cX8_seed 11 = .ok (.aload_n 0, 1) := by decide +kernel
theorem dX8_seed_12 : decode cX8_seed 12 = .ok (.getfield 47, 3) := by decide +kernel
theorem dX8_seed_15 : decode cX8_seed 15 = .ok (.iload_n 1, 1) := by decide +kernel
theorem dX8_seed_16 : decode cX8_seed 16 = .ok (.putfield 152, 3) := by decide +kernel
theorem dX8_seed_19 : decode cX8_seed 19 = .ok (.iconst 1, 1) := by decide +kernel
theorem dX8_seed_20 : decode cX8_seed 20 = .ok (.ireturn, 1) := by decide +kernel
theorem dX8_slack_0 : decode cX8_slack 0 = .ok (.aload_n 0, 1) := by decide +kernel
theorem dX8_slack_1 : decode cX8_slack 1 = .ok (.iload_n 1, 1) := by decide +kernel
theorem dX8_slack_2 : decode cX8_slack 2 = .ok (.invokevirtual 218, 3) := by decide +kernel
theorem dX8_slack_5 : decode cX8_slack 5 = .ok (.ifCond .eq 13, 3) := by decide +kernel
theorem dX8_slack_18 : decode cX8_slack 18 = .ok (.aload_n 0, 1) := by decide +kernel
theorem dX8_slack_19 : decode cX8_slack 19 = .ok (.iconst 3, 1) := by decide +kernel
theorem dX8_slack_20 : decode cX8_slack 20 = .ok (.invokevirtual 78, 3) := by decide +kernel
theorem dX8_slack_23 : decode cX8_slack 23 = .ok (.iconst (-1), 1) := by decide +kernel
theorem dX8_slack_24 : decode cX8_slack 24 = .ok (.ireturn, 1) := by decide +kernel
theorem dX8_status_0 : decode cX8_status 0 = .ok (.iload_n 1, 1) := by decide +kernel
theorem dX8_status_1 : decode cX8_status 1 = .ok (.ifCond .lt 9, 3) := by decide +kernel
theorem dX8_status_4 : decode cX8_status 4 = .ok (.iload_n 1, 1) := by decide +kernel
theorem dX8_status_5 : decode cX8_status 5 = .ok (.bipush 6, 2) := by decide +kernel
theorem dX8_status_7 : decode cX8_status 7 = .ok (.if_icmp .lt 7, 3) := by decide +kernel
theorem dX8_status_10 : decode cX8_status 10 = .ok (.iconst (-1), 1) := by decide +kernel
theorem dX8_status_11 : decode cX8_status 11 = .ok (.goto 9, 3) := by decide +kernel
theorem dX8_status_14 : decode cX8_status 14 = .ok (.aload_n 0, 1) := by decide +kernel
theorem dX8_status_15 : decode cX8_status 15 = .ok (.getfield 71, 3) := by decide +kernel
theorem dX8_status_18 : decode cX8_status 18 = .ok (.iload_n 1, 1) := by decide +kernel
theorem dX8_status_19 : decode cX8_status 19 = .ok (.iaload, 1) := by decide +kernel
theorem dX8_status_20 : decode cX8_status 20 = .ok (.ireturn, 1) := by decide +kernel
theorem dX8_swap_0 : decode cX8_swap 0 = .ok (.aload_n 0, 1) := by decide +kernel
theorem dX8_swap_1 : decode cX8_swap 1 = .ok (.iload_n 1, 1) := by decide +kernel
theorem dX8_swap_2 : decode cX8_swap 2 = .ok (.invokevirtual 212, 3) := by decide +kernel
theorem dX8_swap_5 : decode cX8_swap 5 = .ok (.ifCond .eq 16, 3) := by decide +kernel
theorem dX8_swap_21 : decode cX8_swap 21 = .ok (.aload_n 0, 1) := by decide +kernel
theorem dX8_swap_22 : decode cX8_swap 22 = .ok (.iconst 3, 1) := by decide +kernel
theorem dX8_swap_23 : decode cX8_swap 23 = .ok (.invokevirtual 78, 3) := by decide +kernel
theorem dX8_swap_26 : decode cX8_swap 26 = .ok (.iconst 0, 1) := by decide +kernel
theorem dX8_swap_27 : decode cX8_swap 27 = .ok (.ireturn, 1) := by decide +kernel
theorem dX8_tie_0 : decode cX8_tie 0 = .ok (.aload_n 0, 1) := by decide +kernel
theorem dX8_tie_1 : decode cX8_tie 1 = .ok (.iload_n 1, 1) := by decide +kernel
theorem dX8_tie_2 : decode cX8_tie 2 = .ok (.invokevirtual 218, 3) := by decide +kernel
theorem dX8_tie_5 : decode cX8_tie 5 = .ok (.ifCond .eq 16, 3) := by decide +kernel
theorem dX8_tie_21 : decode cX8_tie 21 = .ok (.aload_n 0, 1) := by decide +kernel
theorem dX8_tie_22 : decode cX8_tie 22 = .ok (.iconst 3, 1) := by decide +kernel
theorem dX8_tie_23 : decode cX8_tie 23 = .ok (.invokevirtual 78, 3) := by decide +kernel
theorem dX8_tie_26 : decode cX8_tie 26 = .ok (.iconst 0, 1) := by decide +kernel
theorem dX8_tie_27 : decode cX8_tie 27 = .ok (.ireturn, 1) := by decide +kernel
theorem dX8_tiedKnots_0 : decode cX8_tiedKnots 0 = .ok (.iconst 0, 1) := by decide +kernel
theorem dX8_tiedKnots_1 : decode cX8_tiedKnots 1 = .ok (.istore_n 1, 1) := by decide +kernel
theorem dX8_tiedKnots_2 : decode cX8_tiedKnots 2 = .ok (.iconst 0, 1) := by decide +kernel
theorem dX8_tiedKnots_3 : decode cX8_tiedKnots 3 = .ok (.istore_n 2, 1) := by decide +kernel
theorem dX8_tiedKnots_4 : decode cX8_tiedKnots 4 = .ok (.iload_n 2, 1) := by decide +kernel
theorem dX8_tiedKnots_5 : decode cX8_tiedKnots 5 = .ok (.aload_n 0, 1) := by decide +kernel
theorem dX8_tiedKnots_6 : decode cX8_tiedKnots 6 = .ok (.getfield 30, 3) := by decide +kernel
theorem dX8_tiedKnots_9 : decode cX8_tiedKnots 9 = .ok (.getfield 135, 3) := by decide +kernel
theorem dX8_tiedKnots_12 : decode cX8_tiedKnots 12 = .ok (.iconst 1, 1) := by decide +kernel
theorem dX8_tiedKnots_13 : decode cX8_tiedKnots 13 = .ok (.isub, 1) := by decide +kernel
theorem dX8_tiedKnots_14 : decode cX8_tiedKnots 14 = .ok (.if_icmp .ge 29, 3) := by decide +kernel
theorem dX8_tiedKnots_43 : decode cX8_tiedKnots 43 = .ok (.iload_n 1, 1) := by decide +kernel
theorem dX8_tiedKnots_44 : decode cX8_tiedKnots 44 = .ok (.ireturn, 1) := by decide +kernel
theorem dX8_tug_0 : decode cX8_tug 0 = .ok (.iload_n 1, 1) := by decide +kernel
theorem dX8_tug_1 : decode cX8_tug 1 = .ok (.ifCond .lt 14, 3) := by decide +kernel
theorem dX8_tug_4 : decode cX8_tug 4 = .ok (.iload_n 1, 1) := by decide +kernel
theorem dX8_tug_5 : decode cX8_tug 5 = .ok (.aload_n 0, 1) := by decide +kernel
theorem dX8_tug_6 : decode cX8_tug 6 = .ok (.getfield 30, 3) := by decide +kernel
theorem dX8_tug_9 : decode cX8_tug 9 = .ok (.invokevirtual 146, 3) := by decide +kernel
theorem dX8_tug_12 : decode cX8_tug 12 = .ok (.if_icmp .lt 5, 3) := by decide +kernel
theorem dX8_tug_15 : decode cX8_tug 15 = .ok (.iconst (-1), 1) := by decide +kernel
theorem dX8_tug_16 : decode cX8_tug 16 = .ok (.ireturn, 1) := by decide +kernel
theorem dX8_two_0 : decode cX8_two 0 = .ok (.aload_n 0, 1) := by decide +kernel
theorem dX8_two_1 : decode cX8_two 1 = .ok (.getfield 30, 3) := by decide +kernel
theorem dX8_two_4 : decode cX8_two 4 = .ok (.getfield 135, 3) := by decide +kernel
theorem dX8_two_7 : decode cX8_two 7 = .ok (.iconst 2, 1) := by decide +kernel
theorem dX8_two_8 : decode cX8_two 8 = .ok (.if_icmp .lt 24, 3) := by decide +kernel
theorem dX8_two_32 : decode cX8_two 32 = .ok (.iconst (-1), 1) := by decide +kernel
theorem dX8_two_33 : decode cX8_two 33 = .ok (.ireturn, 1) := by decide +kernel
theorem dX8_wake_0 : decode cX8_wake 0 = .ok (.aload_n 0, 1) := by decide +kernel
theorem dX8_wake_1 : decode cX8_wake 1 = .ok (.iload_n 1, 1) := by decide +kernel
theorem dX8_wake_2 : decode cX8_wake 2 = .ok (.invokevirtual 155, 3) := by decide +kernel
theorem dX8_wake_5 : decode cX8_wake 5 = .ok (.ifCond .eq 16, 3) := by decide +kernel
theorem dX8_wake_21 : decode cX8_wake 21 = .ok (.aload_n 0, 1) := by decide +kernel
theorem dX8_wake_22 : decode cX8_wake 22 = .ok (.iconst 2, 1) := by decide +kernel
theorem dX8_wake_23 : decode cX8_wake 23 = .ok (.invokevirtual 78, 3) := by decide +kernel
theorem dX8_wake_26 : decode cX8_wake 26 = .ok (.iconst 0, 1) := by decide +kernel
theorem dX8_wake_27 : decode cX8_wake 27 = .ok (.ireturn, 1) := by decide +kernel
theorem dX8_wakes_0 : decode cX8_wakes 0 = .ok (.aload_n 0, 1) := by decide +kernel
theorem dX8_wakes_1 : decode cX8_wakes 1 = .ok (.iload_n 1, 1) := by decide +kernel
theorem dX8_wakes_2 : decode cX8_wakes 2 = .ok (.invokevirtual 212, 3) := by decide +kernel
theorem dX8_wakes_5 : decode cX8_wakes 5 = .ok (.ifCond .eq 10, 3) := by decide +kernel
theorem dX8_wakes_15 : decode cX8_wakes 15 = .ok (.iconst (-1), 1) := by decide +kernel
theorem dX8_wakes_16 : decode cX8_wakes 16 = .ok (.ireturn, 1) := by decide +kernel
theorem dX8_walk_0 : decode cX8_walk 0 = .ok (.aload_n 0, 1) := by decide +kernel
theorem dX8_walk_1 : decode cX8_walk 1 = .ok (.iload_n 1, 1) := by decide +kernel
theorem dX8_walk_2 : decode cX8_walk 2 = .ok (.invokevirtual 212, 3) := by decide +kernel
theorem dX8_walk_5 : decode cX8_walk 5 = .ok (.ifCond .ne 5, 3) := by decide +kernel
theorem dX8_walk_8 : decode cX8_walk 8 = .ok (.iconst (-1), 1) := by decide +kernel
theorem dX8_walk_9 : decode cX8_walk 9 = .ok (.ireturn, 1) := by decide +kernel
theorem dX9_at_0 : decode cX9_at 0 = .ok (.aload_n 0, 1) := by decide +kernel
theorem dX9_at_1 : decode cX9_at 1 = .ok (.iload_n 1, 1) := by decide +kernel
theorem dX9_at_2 : decode cX9_at 2 = .ok (.invokevirtual 543, 3) := by decide +kernel
theorem dX9_at_5 : decode cX9_at 5 = .ok (.ifCond .eq 12, 3) := by decide +kernel
theorem dX9_at_17 : decode cX9_at 17 = .ok (.iconst (-1), 1) := by decide +kernel
theorem dX9_at_18 : decode cX9_at 18 = .ok (.ireturn, 1) := by decide +kernel
theorem dX9_beds_0 : decode cX9_beds 0 = .ok (.iload_n 1, 1) := by decide +kernel
theorem dX9_beds_1 : decode cX9_beds 1 = .ok (.iconst 1, 1) := by decide +kernel
theorem dX9_beds_2 : decode cX9_beds 2 = .ok (.sipush 9999, 3) := by decide +kernel
theorem dX9_beds_5 : decode cX9_beds 5 = .ok (.invokestatic 340, 3) := by decide +kernel
theorem dX9_beds_8 : decode cX9_beds 8 = .ok (.ifCond .eq 15, 3) := by decide +kernel
theorem dX9_beds_11 : decode cX9_beds 11 = .ok (.aload_n 0, 1) := by decide +kernel
theorem dX9_beds_12 : decode cX9_beds 12 = .ok (.invokevirtual 445, 3) := by decide +kernel
theorem dX9_beds_15 : decode cX9_beds 15 = .ok (.ifCond .eq 8, 3) := by decide +kernel
theorem dX9_beds_23 : decode cX9_beds 23 = .ok (.iconst (-1), 1) := by decide +kernel
theorem dX9_beds_24 : decode cX9_beds 24 = .ok (.ireturn, 1) := by decide +kernel
theorem dX9_best_0 : decode cX9_best 0 = .ok (.aload_n 0, 1) := by decide +kernel
theorem dX9_best_1 : decode cX9_best 1 = .ok (.invokevirtual 445, 3) := by decide +kernel
theorem dX9_best_4 : decode cX9_best 4 = .ok (.iconst 1, 1) := by decide +kernel
theorem dX9_best_5 : decode cX9_best 5 = .ok (.bipush 6, 2) := by decide +kernel
theorem dX9_best_7 : decode cX9_best 7 = .ok (.invokestatic 340, 3) := by decide +kernel
theorem dX9_best_10 : decode cX9_best 10 = .ok (.ifCond .eq 16, 3) := by decide +kernel
theorem dX9_best_26 : decode cX9_best 26 = .ok (.iconst (-1), 1) := by decide +kernel
theorem dX9_best_27 : decode cX9_best 27 = .ok (.ireturn, 1) := by decide +kernel
theorem dX9_boy_0 : decode cX9_boy 0 = .ok (.aload_n 0, 1) := by decide +kernel
theorem dX9_boy_1 : decode cX9_boy 1 = .ok (.iload_n 1, 1) := by decide +kernel
theorem dX9_boy_2 : decode cX9_boy 2 = .ok (.invokevirtual 543, 3) := by decide +kernel
theorem dX9_boy_5 : decode cX9_boy 5 = .ok (.ifCond .ne 5, 3) := by decide +kernel
theorem dX9_boy_8 : decode cX9_boy 8 = .ok (.iconst (-1), 1) := by decide +kernel
theorem dX9_boy_9 : decode cX9_boy 9 = .ok (.ireturn, 1) := by decide +kernel
theorem dX9_cut_0 : decode cX9_cut 0 = .ok (.iload_n 1, 1) := by decide +kernel
theorem dX9_cut_1 : decode cX9_cut 1 = .ok (.iconst 0, 1) := by decide +kernel
theorem dX9_cut_2 : decode cX9_cut 2 = .ok (.iconst 4, 1) := by decide +kernel
theorem dX9_cut_3 : decode cX9_cut 3 = .ok (.invokestatic 340, 3) := by decide +kernel
theorem dX9_cut_6 : decode cX9_cut 6 = .ok (.ifCond .eq 34, 3) := by decide +kernel
theorem dX9_cut_9 : decode cX9_cut 9 = .ok (.aload_n 0, 1) := by decide +kernel
theorem dX9_cut_10 : decode cX9_cut 10 = .ok (.invokevirtual 445, 3) := by decide +kernel
theorem dX9_cut_13 : decode cX9_cut 13 = .ok (.ifCond .eq 27, 3) := by decide +kernel
theorem dX9_cut_40 : decode cX9_cut 40 = .ok (.iconst (-1), 1) := by decide +kernel
theorem dX9_cut_41 : decode cX9_cut 41 = .ok (.ireturn, 1) := by decide +kernel
theorem dX9_dream_0 : decode cX9_dream 0 = .ok (.aload_n 0, 1) := by decide +kernel
theorem dX9_dream_1 : decode cX9_dream 1 = .ok (.iload_n 1, 1) := by decide +kernel
theorem dX9_dream_2 : decode cX9_dream 2 = .ok (.invokevirtual 552, 3) := by decide +kernel
theorem dX9_dream_5 : decode cX9_dream 5 = .ok (.ifCond .ne 5, 3) := by decide +kernel
theorem dX9_dream_8 : decode cX9_dream 8 = .ok (.iconst (-1), 1) := by decide +kernel
theorem dX9_dream_9 : decode cX9_dream 9 = .ok (.ireturn, 1) := by decide +kernel
theorem dX9_dreams_0 : decode cX9_dreams 0 = .ok (.aload_n 0, 1) := by decide +kernel
theorem dX9_dreams_1 : decode cX9_dreams 1 = .ok (.iload_n 1, 1) := by decide +kernel
theorem dX9_dreams_2 : decode cX9_dreams 2 = .ok (.invokevirtual 543, 3) := by decide +kernel
theorem dX9_dreams_5 : decode cX9_dreams 5 = .ok (.ifCond .eq 20, 3) := by decide +kernel
theorem dX9_dreams_25 : decode cX9_dreams 25 = .ok (.aload_n 0, 1) := by decide +kernel
theorem dX9_dreams_26 : decode cX9_dreams 26 = .ok (.iconst 2, 1) := by decide +kernel
theorem dX9_dreams_27 : decode cX9_dreams 27 = .ok (.invokevirtual 261, 3) := by decide +kernel
theorem dX9_dreams_30 : decode cX9_dreams 30 = .ok (.ireturn, 1) := by decide +kernel
theorem dX9_end_0 : decode cX9_end 0 = .ok (.iload_n 1, 1) := by decide +kernel
theorem dX9_end_1 : decode cX9_end 1 = .ok (.ifCond .lt 11, 3) := by decide +kernel
theorem dX9_end_4 : decode cX9_end 4 = .ok (.iload_n 1, 1) := by decide +kernel
theorem dX9_end_5 : decode cX9_end 5 = .ok (.aload_n 0, 1) := by decide +kernel
theorem dX9_end_6 : decode cX9_end 6 = .ok (.getfield 13, 3) := by decide +kernel
theorem dX9_end_9 : decode cX9_end 9 = .ok (.if_icmp .le 17, 3) := by decide +kernel
theorem dX9_end_12 : decode cX9_end 12 = .ok (.aload_n 0, 1) := by decide +kernel
theorem dX9_end_13 : decode cX9_end 13 = .ok (.iconst 0, 1) := by decide +kernel
theorem dX9_end_14 : decode cX9_end 14 = .ok (.invokevirtual 261, 3) := by decide +kernel
theorem dX9_end_17 : decode cX9_end 17 = .ok (.ifCond .lt 7, 3) := by decide +kernel
theorem dX9_end_24 : decode cX9_end 24 = .ok (.iconst 0, 1) := by decide +kernel
theorem dX9_end_25 : decode cX9_end 25 = .ok (.ireturn, 1) := by decide +kernel
theorem dX9_end_26 : decode cX9_end 26 = .ok (.aload_n 0, 1) := by decide +kernel
theorem dX9_end_27 : decode cX9_end 27 = .ok (.iload_n 1, 1) := by decide +kernel
theorem dX9_end_28 : decode cX9_end 28 = .ok (.putfield 13, 3) := by decide +kernel
theorem dX9_end_31 : decode cX9_end 31 = .ok (.iconst 1, 1) := by decide +kernel
theorem dX9_end_32 : decode cX9_end 32 = .ok (.ireturn, 1) := by decide +kernel
theorem dX9_exchange_0 : decode cX9_exchange 0 = .ok (.aload_n 0, 1) := by decide +kernel
theorem dX9_exchange_1 : decode cX9_exchange 1 = .ok (.invokevirtual 445, 3) := by decide +kernel
theorem dX9_exchange_4 : decode cX9_exchange 4 = .ok (.ifCond .eq 22, 3) := by decide +kernel
theorem dX9_exchange_26 : decode cX9_exchange 26 = .ok (.iconst (-1), 1) := by decide +kernel
theorem dX9_exchange_27 : decode cX9_exchange 27 = .ok (.ireturn, 1) := by decide +kernel
theorem dX9_fault_0 : decode cX9_fault 0 = .ok (.iload_n 1, 1) := by decide +kernel
theorem dX9_fault_1 : decode cX9_fault 1 = .ok (.ifCond .ne 10, 3) := by decide +kernel
theorem dX9_fault_4 : decode cX9_fault 4 = .ok (.aload_n 0, 1) := by decide +kernel
theorem dX9_fault_5 : decode cX9_fault 5 = .ok (.getfield 42, 3) := by decide +kernel
theorem dX9_fault_8 : decode cX9_fault 8 = .ok (.goto 16, 3) := by decide +kernel
theorem dX9_fault_11 : decode cX9_fault 11 = .ok (.iload_n 1, 1) := by decide +kernel
theorem dX9_fault_12 : decode cX9_fault 12 = .ok (.iconst 1, 1) := by decide +kernel
theorem dX9_fault_13 : decode cX9_fault 13 = .ok (.if_icmp .ne 10, 3) := by decide +kernel
theorem dX9_fault_16 : decode cX9_fault 16 = .ok (.aload_n 0, 1) := by decide +kernel
theorem dX9_fault_17 : decode cX9_fault 17 = .ok (.getfield 45, 3) := by decide +kernel
theorem dX9_fault_20 : decode cX9_fault 20 = .ok (.goto 4, 3) := by decide +kernel
theorem dX9_fault_23 : decode cX9_fault 23 = .ok (.iconst (-1), 1) := by decide +kernel
theorem dX9_fault_24 : decode cX9_fault 24 = .ok (.ireturn, 1) := by decide +kernel
theorem dX9_feed_0 : decode cX9_feed 0 = .ok (.aload_n 0, 1) := by decide +kernel
theorem dX9_feed_1 : decode cX9_feed 1 = .ok (.getfield 13, 3) := by decide +kernel
theorem dX9_feed_4 : decode cX9_feed 4 = .ok (.bipush 20, 2) := by decide +kernel
theorem dX9_feed_6 : decode cX9_feed 6 = .ok (.iadd, 1) := by decide +kernel
theorem dX9_feed_7 : decode cX9_feed 7 = .ok (.sipush 1600, 3) := by decide +kernel
theorem dX9_feed_10 : decode cX9_feed 10 = .ok (.if_icmp .le 9, 3) := by decide +kernel
theorem dX9_feed_19 : decode cX9_feed 19 = .ok (.aload_n 0, 1) := by decide +kernel
theorem dX9_feed_20 : decode cX9_feed 20 = .ok (.iload_n 1, 1) := by decide +kernel
theorem dX9_feed_21 : decode cX9_feed 21 = .ok (.invokevirtual 265, 3) := by decide +kernel
theorem dX9_feed_24 : decode cX9_feed 24 = .ok (.aload_n 0, 1) := by decide +kernel
theorem dX9_feed_25 : decode cX9_feed 25 = .ok (.iload_n 2, 1) := by decide +kernel
theorem dX9_feed_26 : decode cX9_feed 26 = .ok (.invokevirtual 265, 3) := by decide +kernel
theorem dX9_feed_29 : decode cX9_feed 29 = .ok (.aload_n 0, 1) := by decide +kernel
theorem dX9_feed_30 : decode cX9_feed 30 = .ok (.iload_n 3, 1) := by decide +kernel
theorem dX9_feed_31 : decode cX9_feed 31 = .ok (.invokevirtual 265, 3) := by decide +kernel
theorem dX9_feed_34 : decode cX9_feed 34 = .ok (.aload_n 0, 1) := by decide +kernel
theorem dX9_feed_35 : decode cX9_feed 35 = .ok (.iload 4, 2) := by decide +kernel
theorem dX9_feed_37 : decode cX9_feed 37 = .ok (.invokevirtual 265, 3) := by decide +kernel
theorem dX9_feed_40 : decode cX9_feed 40 = .ok (.aload_n 0, 1) := by decide +kernel
theorem dX9_feed_41 : decode cX9_feed 41 = .ok (.iload 5, 2) := by decide +kernel
theorem dX9_feed_43 : decode cX9_feed 43 = .ok (.invokevirtual 265, 3) := by decide +kernel
theorem dX9_feed_46 : decode cX9_feed 46 = .ok (.aload_n 0, 1) := by decide +kernel
theorem dX9_feed_47 : decode cX9_feed 47 = .ok (.getfield 13, 3) := by decide +kernel
theorem dX9_feed_50 : decode cX9_feed 50 = .ok (.ireturn, 1) := by decide +kernel
theorem dX9_feels_0 : decode cX9_feels 0 = .ok (.aload_n 0, 1) := by decide +kernel
theorem dX9_feels_1 : decode cX9_feels 1 = .ok (.iload_n 1, 1) := by decide +kernel
theorem dX9_feels_2 : decode cX9_feels 2 = .ok (.invokevirtual 543, 3) := by decide +kernel
theorem dX9_feels_5 : decode cX9_feels 5 = .ok (.ifCond .eq 27, 3) := by decide +kernel
theorem dX9_feels_32 : decode cX9_feels 32 = .ok (.iconst (-1), 1) := by decide +kernel
theorem dX9_feels_33 : decode cX9_feels 33 = .ok (.ireturn, 1) := by decide +kernel
theorem dX9_go_0 : decode cX9_go 0 = .ok (.iload_n 1, 1) := by decide +kernel
theorem dX9_go_1 : decode cX9_go 1 = .ok (.iconst 1, 1) := by decide +kernel
theorem dX9_go_2 : decode cX9_go 2 = .ok (.bipush 99, 2) := by decide +kernel
theorem dX9_go_4 : decode cX9_go 4 = .ok (.invokestatic 340, 3) := by decide +kernel
theorem dX9_go_7 : decode cX9_go 7 = .ok (.ifCond .eq 22, 3) := by decide +kernel
theorem dX9_go_10 : decode cX9_go 10 = .ok (.aload_n 0, 1) := by decide +kernel
theorem dX9_go_11 : decode cX9_go 11 = .ok (.invokevirtual 445, 3) := by decide +kernel
theorem dX9_go_14 : decode cX9_go 14 = .ok (.ifCond .eq 15, 3) := by decide +kernel
theorem dX9_go_29 : decode cX9_go 29 = .ok (.aload_n 0, 1) := by decide +kernel
theorem dX9_go_30 : decode cX9_go 30 = .ok (.iconst 2, 1) := by decide +kernel
theorem dX9_go_31 : decode cX9_go 31 = .ok (.invokevirtual 261, 3) := by decide +kernel
theorem dX9_go_34 : decode cX9_go 34 = .ok (.ireturn, 1) := by decide +kernel
theorem dX9_has_0 : decode cX9_has 0 = .ok (.iconst 0, 1) := by decide +kernel
theorem dX9_has_1 : decode cX9_has 1 = .ok (.istore_n 2, 1) := by decide +kernel
theorem dX9_has_2 : decode cX9_has 2 = .ok (.iload_n 1, 1) := by decide +kernel
theorem dX9_has_3 : decode cX9_has 3 = .ok (.tableswitch 244 0 11 #[61, 66, 76, 86, 115, 122, 149, 185, 221, 228, 233, 238], 61) := by decide +kernel
theorem dX9_has_64 : decode cX9_has 64 = .ok (.aload_n 0, 1) := by decide +kernel
theorem dX9_has_65 : decode cX9_has 65 = .ok (.invokevirtual 445, 3) := by decide +kernel
theorem dX9_has_68 : decode cX9_has 68 = .ok (.ireturn, 1) := by decide +kernel
theorem dX9_has_69 : decode cX9_has 69 = .ok (.aload_n 0, 1) := by decide +kernel
theorem dX9_has_70 : decode cX9_has 70 = .ok (.getfield 76, 3) := by decide +kernel
theorem dX9_has_73 : decode cX9_has 73 = .ok (.aload_n 0, 1) := by decide +kernel
theorem dX9_has_74 : decode cX9_has 74 = .ok (.getfield 48, 3) := by decide +kernel
theorem dX9_has_77 : decode cX9_has 77 = .ok (.iaload, 1) := by decide +kernel
theorem dX9_has_78 : decode cX9_has 78 = .ok (.ireturn, 1) := by decide +kernel
theorem dX9_has_79 : decode cX9_has 79 = .ok (.aload_n 0, 1) := by decide +kernel
theorem dX9_has_80 : decode cX9_has 80 = .ok (.getfield 94, 3) := by decide +kernel
theorem dX9_has_83 : decode cX9_has 83 = .ok (.aload_n 0, 1) := by decide +kernel
theorem dX9_has_84 : decode cX9_has 84 = .ok (.getfield 48, 3) := by decide +kernel
theorem dX9_has_87 : decode cX9_has 87 = .ok (.iaload, 1) := by decide +kernel
theorem dX9_has_88 : decode cX9_has 88 = .ok (.ireturn, 1) := by decide +kernel
theorem dX9_has_89 : decode cX9_has 89 = .ok (.iconst 0, 1) := by decide +kernel
theorem dX9_has_90 : decode cX9_has 90 = .ok (.istore_n 3, 1) := by decide +kernel
theorem dX9_has_91 : decode cX9_has 91 = .ok (.iload_n 3, 1) := by decide +kernel
theorem dX9_has_92 : decode cX9_has 92 = .ok (.aload_n 0, 1) := by decide +kernel
theorem dX9_has_93 : decode cX9_has 93 = .ok (.invokevirtual 445, 3) := by decide +kernel
theorem dX9_has_96 : decode cX9_has 96 = .ok (.iconst 1, 1) := by decide +kernel
theorem dX9_has_97 : decode cX9_has 97 = .ok (.isub, 1) := by decide +kernel
theorem dX9_has_98 : decode cX9_has 98 = .ok (.if_icmp .ge 18, 3) := by decide +kernel
theorem dX9_has_116 : decode cX9_has 116 = .ok (.iload_n 2, 1) := by decide +kernel
theorem dX9_has_117 : decode cX9_has 117 = .ok (.ireturn, 1) := by decide +kernel
theorem dX9_has_118 : decode cX9_has 118 = .ok (.aload_n 0, 1) := by decide +kernel
theorem dX9_has_119 : decode cX9_has 119 = .ok (.getfield 162, 3) := by decide +kernel
theorem dX9_has_122 : decode cX9_has 122 = .ok (.iconst 0, 1) := by decide +kernel
theorem dX9_has_123 : decode cX9_has 123 = .ok (.iaload, 1) := by decide +kernel
theorem dX9_has_124 : decode cX9_has 124 = .ok (.ireturn, 1) := by decide +kernel
theorem dX9_has_125 : decode cX9_has 125 = .ok (.iconst 0, 1) := by decide +kernel
theorem dX9_has_126 : decode cX9_has 126 = .ok (.istore_n 3, 1) := by decide +kernel
theorem dX9_has_127 : decode cX9_has 127 = .ok (.iload_n 3, 1) := by decide +kernel
theorem dX9_has_128 : decode cX9_has 128 = .ok (.aload_n 0, 1) := by decide +kernel
theorem dX9_has_129 : decode cX9_has 129 = .ok (.invokevirtual 445, 3) := by decide +kernel
theorem dX9_has_132 : decode cX9_has 132 = .ok (.if_icmp .ge 18, 3) := by decide +kernel
theorem dX9_has_150 : decode cX9_has 150 = .ok (.iload_n 2, 1) := by decide +kernel
theorem dX9_has_151 : decode cX9_has 151 = .ok (.ireturn, 1) := by decide +kernel
theorem dX9_has_152 : decode cX9_has 152 = .ok (.iconst 0, 1) := by decide +kernel
theorem dX9_has_153 : decode cX9_has 153 = .ok (.istore_n 3, 1) := by decide +kernel
theorem dX9_has_154 : decode cX9_has 154 = .ok (.iload_n 3, 1) := by decide +kernel
theorem dX9_has_155 : decode cX9_has 155 = .ok (.aload_n 0, 1) := by decide +kernel
theorem dX9_has_156 : decode cX9_has 156 = .ok (.invokevirtual 445, 3) := by decide +kernel
theorem dX9_has_159 : decode cX9_has 159 = .ok (.if_icmp .ge 27, 3) := by decide +kernel
theorem dX9_has_186 : decode cX9_has 186 = .ok (.iload_n 2, 1) := by decide +kernel
theorem dX9_has_187 : decode cX9_has 187 = .ok (.ireturn, 1) := by decide +kernel
theorem dX9_has_188 : decode cX9_has 188 = .ok (.iconst 0, 1) := by decide +kernel
theorem dX9_has_189 : decode cX9_has 189 = .ok (.istore_n 3, 1) := by decide +kernel
theorem dX9_has_190 : decode cX9_has 190 = .ok (.iload_n 3, 1) := by decide +kernel
theorem dX9_has_191 : decode cX9_has 191 = .ok (.aload_n 0, 1) := by decide +kernel
theorem dX9_has_192 : decode cX9_has 192 = .ok (.invokevirtual 445, 3) := by decide +kernel
theorem dX9_has_195 : decode cX9_has 195 = .ok (.if_icmp .ge 27, 3) := by decide +kernel
theorem dX9_has_222 : decode cX9_has 222 = .ok (.iload_n 2, 1) := by decide +kernel
theorem dX9_has_223 : decode cX9_has 223 = .ok (.ireturn, 1) := by decide +kernel
theorem dX9_has_224 : decode cX9_has 224 = .ok (.aload_n 0, 1) := by decide +kernel
theorem dX9_has_225 : decode cX9_has 225 = .ok (.getfield 201, 3) := by decide +kernel
theorem dX9_has_228 : decode cX9_has 228 = .ok (.iconst 0, 1) := by decide +kernel
theorem dX9_has_229 : decode cX9_has 229 = .ok (.iaload, 1) := by decide +kernel
theorem dX9_has_230 : decode cX9_has 230 = .ok (.ireturn, 1) := by decide +kernel
theorem dX9_has_231 : decode cX9_has 231 = .ok (.aload_n 0, 1) := by decide +kernel
theorem dX9_has_232 : decode cX9_has 232 = .ok (.getfield 210, 3) := by decide +kernel
theorem dX9_has_235 : decode cX9_has 235 = .ok (.ireturn, 1) := by decide +kernel
theorem dX9_has_236 : decode cX9_has 236 = .ok (.aload_n 0, 1) := by decide +kernel
theorem dX9_has_237 : decode cX9_has 237 = .ok (.invokevirtual 538, 3) := by decide +kernel
theorem dX9_has_240 : decode cX9_has 240 = .ok (.ireturn, 1) := by decide +kernel
theorem dX9_has_241 : decode cX9_has 241 = .ok (.aload_n 0, 1) := by decide +kernel
theorem dX9_has_242 : decode cX9_has 242 = .ok (.getfield 213, 3) := by decide +kernel
theorem dX9_has_245 : decode cX9_has 245 = .ok (.l2i, 1) := by decide +kernel
theorem dX9_has_246 : decode cX9_has 246 = .ok (.ireturn, 1) := by decide +kernel
theorem dX9_has_247 : decode cX9_has 247 = .ok (.iconst (-1), 1) := by decide +kernel
theorem dX9_has_248 : decode cX9_has 248 = .ok (.ireturn, 1) := by decide +kernel
theorem dX9_is_0 : decode cX9_is 0 = .ok (.iload_n 0, 1) := by decide +kernel
theorem dX9_is_1 : decode cX9_is 1 = .ok (.iload_n 1, 1) := by decide +kernel
theorem dX9_is_2 : decode cX9_is 2 = .ok (.if_icmp .lt 12, 3) := by decide +kernel
theorem dX9_is_5 : decode cX9_is 5 = .ok (.iload_n 0, 1) := by decide +kernel
theorem dX9_is_6 : decode cX9_is 6 = .ok (.iload_n 2, 1) := by decide +kernel
theorem dX9_is_7 : decode cX9_is 7 = .ok (.if_icmp .gt 7, 3) := by decide +kernel
theorem dX9_is_10 : decode cX9_is 10 = .ok (.iconst 1, 1) := by decide +kernel
theorem dX9_is_11 : decode cX9_is 11 = .ok (.goto 4, 3) := by decide +kernel
theorem dX9_is_14 : decode cX9_is 14 = .ok (.iconst 0, 1) := by decide +kernel
theorem dX9_is_15 : decode cX9_is 15 = .ok (.ireturn, 1) := by decide +kernel
theorem dX9_isBoy_0 : decode cX9_isBoy 0 = .ok (.iload_n 1, 1) := by decide +kernel
theorem dX9_isBoy_1 : decode cX9_isBoy 1 = .ok (.ifCond .lt 20, 3) := by decide +kernel
theorem dX9_isBoy_4 : decode cX9_isBoy 4 = .ok (.iload_n 1, 1) := by decide +kernel
theorem dX9_isBoy_5 : decode cX9_isBoy 5 = .ok (.aload_n 0, 1) := by decide +kernel
theorem dX9_isBoy_6 : decode cX9_isBoy 6 = .ok (.getfield 51, 3) := by decide +kernel
theorem dX9_isBoy_9 : decode cX9_isBoy 9 = .ok (.aload_n 0, 1) := by decide +kernel
theorem dX9_isBoy_10 : decode cX9_isBoy 10 = .ok (.getfield 48, 3) := by decide +kernel
theorem dX9_isBoy_13 : decode cX9_isBoy 13 = .ok (.iaload, 1) := by decide +kernel
theorem dX9_isBoy_14 : decode cX9_isBoy 14 = .ok (.if_icmp .ge 7, 3) := by decide +kernel
theorem dX9_isBoy_21 : decode cX9_isBoy 21 = .ok (.iconst 0, 1) := by decide +kernel
theorem dX9_isBoy_22 : decode cX9_isBoy 22 = .ok (.ireturn, 1) := by decide +kernel
theorem dX9_isDream_0 : decode cX9_isDream 0 = .ok (.iload_n 1, 1) := by decide +kernel
theorem dX9_isDream_1 : decode cX9_isDream 1 = .ok (.ifCond .lt 20, 3) := by decide +kernel
theorem dX9_isDream_4 : decode cX9_isDream 4 = .ok (.iload_n 1, 1) := by decide +kernel
theorem dX9_isDream_5 : decode cX9_isDream 5 = .ok (.aload_n 0, 1) := by decide +kernel
theorem dX9_isDream_6 : decode cX9_isDream 6 = .ok (.getfield 76, 3) := by decide +kernel
theorem dX9_isDream_9 : decode cX9_isDream 9 = .ok (.aload_n 0, 1) := by decide +kernel
theorem dX9_isDream_10 : decode cX9_isDream 10 = .ok (.getfield 48, 3) := by decide +kernel
theorem dX9_isDream_13 : decode cX9_isDream 13 = .ok (.iaload, 1) := by decide +kernel
theorem dX9_isDream_14 : decode cX9_isDream 14 = .ok (.if_icmp .ge 7, 3) := by decide +kernel
theorem dX9_isDream_21 : decode cX9_isDream 21 = .ok (.iconst 0, 1) := by decide +kernel
theorem dX9_isDream_22 : decode cX9_isDream 22 = .ok (.ireturn, 1) := by decide +kernel
theorem dX9_isKnot_0 : decode cX9_isKnot 0 = .ok (.iload_n 1, 1) := by decide +kernel
theorem dX9_isKnot_1 : decode cX9_isKnot 1 = .ok (.ifCond .lt 22, 3) := by decide +kernel
theorem dX9_isKnot_4 : decode cX9_isKnot 4 = .ok (.iload_n 1, 1) := by decide +kernel
theorem dX9_isKnot_5 : decode cX9_isKnot 5 = .ok (.aload_n 0, 1) := by decide +kernel
theorem dX9_isKnot_6 : decode cX9_isKnot 6 = .ok (.getfield 51, 3) := by decide +kernel
theorem dX9_isKnot_9 : decode cX9_isKnot 9 = .ok (.aload_n 0, 1) := by decide +kernel
theorem dX9_isKnot_10 : decode cX9_isKnot 10 = .ok (.getfield 48, 3) := by decide +kernel
theorem dX9_isKnot_13 : decode cX9_isKnot 13 = .ok (.iaload, 1) := by decide +kernel
theorem dX9_isKnot_14 : decode cX9_isKnot 14 = .ok (.iconst 1, 1) := by decide +kernel
theorem dX9_isKnot_15 : decode cX9_isKnot 15 = .ok (.isub, 1) := by decide +kernel
theorem dX9_isKnot_16 : decode cX9_isKnot 16 = .ok (.if_icmp .ge 7, 3) := by decide +kernel
theorem dX9_isKnot_23 : decode cX9_isKnot 23 = .ok (.iconst 0, 1) := by decide +kernel
theorem dX9_isKnot_24 : decode cX9_isKnot 24 = .ok (.ireturn, 1) := by decide +kernel
theorem dX9_knot_0 : decode cX9_knot 0 = .ok (.aload_n 0, 1) := by decide +kernel
theorem dX9_knot_1 : decode cX9_knot 1 = .ok (.iload_n 1, 1) := by decide +kernel
theorem dX9_knot_2 : decode cX9_knot 2 = .ok (.invokevirtual 546, 3) := by decide +kernel
theorem dX9_knot_5 : decode cX9_knot 5 = .ok (.ifCond .ne 7, 3) := by decide +kernel
theorem dX9_knot_8 : decode cX9_knot 8 = .ok (.iconst (-1), 1) := by decide +kernel
theorem dX9_knot_9 : decode cX9_knot 9 = .ok (.goto 44, 3) := by decide +kernel
theorem dX9_knot_53 : decode cX9_knot 53 = .ok (.ireturn, 1) := by decide +kernel
theorem dX9_law_0 : decode cX9_law 0 = .ok (.aload_n 0, 1) := by decide +kernel
theorem dX9_law_1 : decode cX9_law 1 = .ok (.iload_n 1, 1) := by decide +kernel
theorem dX9_law_2 : decode cX9_law 2 = .ok (.invokevirtual 543, 3) := by decide +kernel
theorem dX9_law_5 : decode cX9_law 5 = .ok (.ifCond .eq 14, 3) := by decide +kernel
theorem dX9_law_19 : decode cX9_law 19 = .ok (.iconst (-1), 1) := by decide +kernel
theorem dX9_law_20 : decode cX9_law 20 = .ok (.ireturn, 1) := by decide +kernel
theorem dX9_least_0 : decode cX9_least 0 = .ok (.aload_n 0, 1) := by decide +kernel
theorem dX9_least_1 : decode cX9_least 1 = .ok (.iload_n 1, 1) := by decide +kernel
theorem dX9_least_2 : decode cX9_least 2 = .ok (.invokevirtual 543, 3) := by decide +kernel
theorem dX9_least_5 : decode cX9_least 5 = .ok (.ifCond .eq 16, 3) := by decide +kernel
theorem dX9_least_21 : decode cX9_least 21 = .ok (.iconst (-1), 1) := by decide +kernel
theorem dX9_least_22 : decode cX9_least 22 = .ok (.ireturn, 1) := by decide +kernel
theorem dX9_letter_0 : decode cX9_letter 0 = .ok (.iload_n 1, 1) := by decide +kernel
theorem dX9_letter_1 : decode cX9_letter 1 = .ok (.iconst 0, 1) := by decide +kernel
theorem dX9_letter_2 : decode cX9_letter 2 = .ok (.iconst 1, 1) := by decide +kernel
theorem dX9_letter_3 : decode cX9_letter 3 = .ok (.invokestatic 340, 3) := by decide +kernel
theorem dX9_letter_6 : decode cX9_letter 6 = .ok (.ifCond .eq 42, 3) := by decide +kernel
theorem dX9_letter_9 : decode cX9_letter 9 = .ok (.iload_n 2, 1) := by decide +kernel
theorem dX9_letter_10 : decode cX9_letter 10 = .ok (.iconst 0, 1) := by decide +kernel
theorem dX9_letter_11 : decode cX9_letter 11 = .ok (.iload_n 1, 1) := by decide +kernel
theorem dX9_letter_12 : decode cX9_letter 12 = .ok (.ifCond .ne 10, 3) := by decide +kernel
theorem dX9_letter_15 : decode cX9_letter 15 = .ok (.aload_n 0, 1) := by decide +kernel
theorem dX9_letter_16 : decode cX9_letter 16 = .ok (.invokevirtual 445, 3) := by decide +kernel
theorem dX9_letter_19 : decode cX9_letter 19 = .ok (.goto 12, 3) := by decide +kernel
theorem dX9_letter_22 : decode cX9_letter 22 = .ok (.aload_n 0, 1) := by decide +kernel
theorem dX9_letter_23 : decode cX9_letter 23 = .ok (.getfield 76, 3) := by decide +kernel
theorem dX9_letter_26 : decode cX9_letter 26 = .ok (.aload_n 0, 1) := by decide +kernel
theorem dX9_letter_27 : decode cX9_letter 27 = .ok (.getfield 48, 3) := by decide +kernel
theorem dX9_letter_30 : decode cX9_letter 30 = .ok (.iaload, 1) := by decide +kernel
theorem dX9_letter_31 : decode cX9_letter 31 = .ok (.iconst 1, 1) := by decide +kernel
theorem dX9_letter_32 : decode cX9_letter 32 = .ok (.isub, 1) := by decide +kernel
theorem dX9_letter_33 : decode cX9_letter 33 = .ok (.invokestatic 340, 3) := by decide +kernel
theorem dX9_letter_36 : decode cX9_letter 36 = .ok (.ifCond .eq 12, 3) := by decide +kernel
theorem dX9_letter_48 : decode cX9_letter 48 = .ok (.iconst (-1), 1) := by decide +kernel
theorem dX9_letter_49 : decode cX9_letter 49 = .ok (.ireturn, 1) := by decide +kernel
theorem dX9_many_0 : decode cX9_many 0 = .ok (.aload_n 0, 1) := by decide +kernel
theorem dX9_many_1 : decode cX9_many 1 = .ok (.getfield 51, 3) := by decide +kernel
theorem dX9_many_4 : decode cX9_many 4 = .ok (.aload_n 0, 1) := by decide +kernel
theorem dX9_many_5 : decode cX9_many 5 = .ok (.getfield 48, 3) := by decide +kernel
theorem dX9_many_8 : decode cX9_many 8 = .ok (.iaload, 1) := by decide +kernel
theorem dX9_many_9 : decode cX9_many 9 = .ok (.ireturn, 1) := by decide +kernel
theorem dX9_nights_0 : decode cX9_nights 0 = .ok (.iload_n 1, 1) := by decide +kernel
theorem dX9_nights_1 : decode cX9_nights 1 = .ok (.iconst 1, 1) := by decide +kernel
theorem dX9_nights_2 : decode cX9_nights 2 = .ok (.bipush 20, 2) := by decide +kernel
theorem dX9_nights_4 : decode cX9_nights 4 = .ok (.invokestatic 340, 3) := by decide +kernel
theorem dX9_nights_7 : decode cX9_nights 7 = .ok (.ifCond .eq 29, 3) := by decide +kernel
theorem dX9_nights_10 : decode cX9_nights 10 = .ok (.iload_n 2, 1) := by decide +kernel
theorem dX9_nights_11 : decode cX9_nights 11 = .ok (.iconst 1, 1) := by decide +kernel
theorem dX9_nights_12 : decode cX9_nights 12 = .ok (.bipush 60, 2) := by decide +kernel
theorem dX9_nights_14 : decode cX9_nights 14 = .ok (.invokestatic 340, 3) := by decide +kernel
theorem dX9_nights_17 : decode cX9_nights 17 = .ok (.ifCond .eq 19, 3) := by decide +kernel
theorem dX9_nights_20 : decode cX9_nights 20 = .ok (.iload_n 3, 1) := by decide +kernel
theorem dX9_nights_21 : decode cX9_nights 21 = .ok (.iconst 0, 1) := by decide +kernel
theorem dX9_nights_22 : decode cX9_nights 22 = .ok (.iconst 2, 1) := by decide +kernel
theorem dX9_nights_23 : decode cX9_nights 23 = .ok (.invokestatic 340, 3) := by decide +kernel
theorem dX9_nights_26 : decode cX9_nights 26 = .ok (.ifCond .eq 10, 3) := by decide +kernel
theorem dX9_nights_29 : decode cX9_nights 29 = .ok (.aload_n 0, 1) := by decide +kernel
theorem dX9_nights_30 : decode cX9_nights 30 = .ok (.invokevirtual 445, 3) := by decide +kernel
theorem dX9_nights_33 : decode cX9_nights 33 = .ok (.ifCond .ne 5, 3) := by decide +kernel
theorem dX9_nights_36 : decode cX9_nights 36 = .ok (.iconst (-1), 1) := by decide +kernel
theorem dX9_nights_37 : decode cX9_nights 37 = .ok (.ireturn, 1) := by decide +kernel
theorem dX9_octet_0 : decode cX9_octet 0 = .ok (.iload_n 1, 1) := by decide +kernel
theorem dX9_octet_1 : decode cX9_octet 1 = .ok (.iconst 0, 1) := by decide +kernel
theorem dX9_octet_2 : decode cX9_octet 2 = .ok (.aload_n 0, 1) := by decide +kernel
theorem dX9_octet_3 : decode cX9_octet 3 = .ok (.getfield 258, 3) := by decide +kernel
theorem dX9_octet_6 : decode cX9_octet 6 = .ok (.iconst 1, 1) := by decide +kernel
theorem dX9_octet_7 : decode cX9_octet 7 = .ok (.isub, 1) := by decide +kernel
theorem dX9_octet_8 : decode cX9_octet 8 = .ok (.invokestatic 340, 3) := by decide +kernel
theorem dX9_octet_11 : decode cX9_octet 11 = .ok (.ifCond .eq 12, 3) := by decide +kernel
theorem dX9_octet_23 : decode cX9_octet 23 = .ok (.iconst (-1), 1) := by decide +kernel
theorem dX9_octet_24 : decode cX9_octet 24 = .ok (.ireturn, 1) := by decide +kernel
theorem dX9_pieces_0 : decode cX9_pieces 0 = .ok (.aload_n 0, 1) := by decide +kernel
theorem dX9_pieces_1 : decode cX9_pieces 1 = .ok (.invokevirtual 445, 3) := by decide +kernel
theorem dX9_pieces_4 : decode cX9_pieces 4 = .ok (.ifCond .ne 7, 3) := by decide +kernel
theorem dX9_pieces_7 : decode cX9_pieces 7 = .ok (.iconst 0, 1) := by decide +kernel
theorem dX9_pieces_8 : decode cX9_pieces 8 = .ok (.goto 4, 3) := by decide +kernel
theorem dX9_pieces_12 : decode cX9_pieces 12 = .ok (.istore_n 1, 1) := by decide +kernel
theorem dX9_pieces_13 : decode cX9_pieces 13 = .ok (.iconst 0, 1) := by decide +kernel
theorem dX9_pieces_14 : decode cX9_pieces 14 = .ok (.istore_n 2, 1) := by decide +kernel
theorem dX9_pieces_15 : decode cX9_pieces 15 = .ok (.iload_n 2, 1) := by decide +kernel
theorem dX9_pieces_16 : decode cX9_pieces 16 = .ok (.aload_n 0, 1) := by decide +kernel
theorem dX9_pieces_17 : decode cX9_pieces 17 = .ok (.invokevirtual 445, 3) := by decide +kernel
theorem dX9_pieces_20 : decode cX9_pieces 20 = .ok (.iconst 1, 1) := by decide +kernel
theorem dX9_pieces_21 : decode cX9_pieces 21 = .ok (.isub, 1) := by decide +kernel
theorem dX9_pieces_22 : decode cX9_pieces 22 = .ok (.if_icmp .ge 20, 3) := by decide +kernel
theorem dX9_pieces_42 : decode cX9_pieces 42 = .ok (.iload_n 1, 1) := by decide +kernel
theorem dX9_pieces_43 : decode cX9_pieces 43 = .ok (.ireturn, 1) := by decide +kernel
theorem dX9_pulled_0 : decode cX9_pulled 0 = .ok (.aload_n 0, 1) := by decide +kernel
theorem dX9_pulled_1 : decode cX9_pulled 1 = .ok (.iload_n 1, 1) := by decide +kernel
theorem dX9_pulled_2 : decode cX9_pulled 2 = .ok (.invokevirtual 543, 3) := by decide +kernel
theorem dX9_pulled_5 : decode cX9_pulled 5 = .ok (.ifCond .eq 23, 3) := by decide +kernel
theorem dX9_pulled_28 : decode cX9_pulled 28 = .ok (.iconst (-1), 1) := by decide +kernel
theorem dX9_pulled_29 : decode cX9_pulled 29 = .ok (.ireturn, 1) := by decide +kernel
theorem dX9_put_0 : decode cX9_put 0 = .ok (.bipush 24, 2) := by decide +kernel
theorem dX9_put_2 : decode cX9_put 2 = .ok (.istore_n 2, 1) := by decide +kernel
theorem dX9_put_3 : decode cX9_put 3 = .ok (.iload_n 2, 1) := by decide +kernel
theorem dX9_put_4 : decode cX9_put 4 = .ok (.ifCond .lt 35, 3) := by decide +kernel
theorem dX9_put_7 : decode cX9_put 7 = .ok (.aload_n 0, 1) := by decide +kernel
theorem dX9_put_8 : decode cX9_put 8 = .ok (.getfield 7, 3) := by decide +kernel
theorem dX9_put_11 : decode cX9_put 11 = .ok (.aload_n 0, 1) := by decide +kernel
theorem dX9_put_12 : decode cX9_put 12 = .ok (.getfield 13, 3) := by decide +kernel
theorem dX9_put_15 : decode cX9_put 15 = .ok (.iload_n 1, 1) := by decide +kernel
theorem dX9_put_16 : decode cX9_put 16 = .ok (.iload_n 2, 1) := by decide +kernel
theorem dX9_put_17 : decode cX9_put 17 = .ok (.ishr, 1) := by decide +kernel
theorem dX9_put_18 : decode cX9_put 18 = .ok (.sipush 255, 3) := by decide +kernel
theorem dX9_put_21 : decode cX9_put 21 = .ok (.iand, 1) := by decide +kernel
theorem dX9_put_22 : decode cX9_put 22 = .ok (.iastore, 1) := by decide +kernel
theorem dX9_put_23 : decode cX9_put 23 = .ok (.aload_n 0, 1) := by decide +kernel
theorem dX9_put_24 : decode cX9_put 24 = .ok (.dup, 1) := by decide +kernel
theorem dX9_put_25 : decode cX9_put 25 = .ok (.getfield 13, 3) := by decide +kernel
theorem dX9_put_28 : decode cX9_put 28 = .ok (.iconst 1, 1) := by decide +kernel
theorem dX9_put_29 : decode cX9_put 29 = .ok (.iadd, 1) := by decide +kernel
theorem dX9_put_30 : decode cX9_put 30 = .ok (.putfield 13, 3) := by decide +kernel
theorem dX9_put_33 : decode cX9_put 33 = .ok (.iinc 2 (-8), 3) := by decide +kernel
theorem dX9_put_36 : decode cX9_put 36 = .ok (.goto (-33), 3) := by decide +kernel
theorem dX9_put_39 : decode cX9_put 39 = .ok (.return_, 1) := by decide +kernel
theorem dX9_refuses_0 : decode cX9_refuses 0 = .ok (.aload_n 0, 1) := by decide +kernel
theorem dX9_refuses_1 : decode cX9_refuses 1 = .ok (.getfield 153, 3) := by decide +kernel
theorem dX9_refuses_4 : decode cX9_refuses 4 = .ok (.iload_n 1, 1) := by decide +kernel
theorem dX9_refuses_5 : decode cX9_refuses 5 = .ok (.dup2, 1) := by decide +kernel
theorem dX9_refuses_6 : decode cX9_refuses 6 = .ok (.iaload, 1) := by decide +kernel
theorem dX9_refuses_7 : decode cX9_refuses 7 = .ok (.iconst 1, 1) := by decide +kernel
theorem dX9_refuses_8 : decode cX9_refuses 8 = .ok (.iadd, 1) := by decide +kernel
theorem dX9_refuses_9 : decode cX9_refuses 9 = .ok (.iastore, 1) := by decide +kernel
theorem dX9_refuses_10 : decode cX9_refuses 10 = .ok (.iconst (-1), 1) := by decide +kernel
theorem dX9_refuses_11 : decode cX9_refuses 11 = .ok (.ireturn, 1) := by decide +kernel
theorem dX9_seed_0 : decode cX9_seed 0 = .ok (.iload_n 1, 1) := by decide +kernel
theorem dX9_seed_1 : decode cX9_seed 1 = .ok (.ifCond .ge 17, 3) := by decide +kernel
theorem dX9_seed_4 : decode cX9_seed 4 = .ok (.aload_n 0, 1) := by decide +kernel
theorem dX9_seed_5 : decode cX9_seed 5 = .ok (.iconst 5, 1) := by decide +kernel
theorem dX9_seed_6 : decode cX9_seed 6 = .ok (.invokevirtual 261, 3) := by decide +kernel
theorem dX9_seed_9 : decode cX9_seed 9 = .ok (.ifCond .lt 7, 3) := by decide +kernel
theorem dX9_seed_16 : decode cX9_seed 16 = .ok (.iconst 0, 1) := by decide +kernel
theorem dX9_seed_17 : decode cX9_seed 17 = .ok (.ireturn, 1) := by decide +kernel
theorem dX9_seed_18 : decode cX9_seed 18 = .ok (.aload_n 0, 1) := by decide +kernel
theorem dX9_seed_19 : decode cX9_seed 19 = .ok (.iload_n 1, 1) := by decide +kernel
theorem dX9_seed_20 : decode cX9_seed 20 = .ok (.i2l, 1) := by decide +kernel
theorem dX9_seed_21 : decode cX9_seed 21 = .ok (.putfield 213, 3) := by decide +kernel
theorem dX9_seed_24 : decode cX9_seed 24 = .ok (.iconst 1, 1) := by decide +kernel
theorem dX9_seed_25 : decode cX9_seed 25 = .ok (.ireturn, 1) := by decide +kernel
theorem dX9_slack_0 : decode cX9_slack 0 = .ok (.aload_n 0, 1) := by decide +kernel
theorem dX9_slack_1 : decode cX9_slack 1 = .ok (.iload_n 1, 1) := by decide +kernel
theorem dX9_slack_2 : decode cX9_slack 2 = .ok (.invokevirtual 546, 3) := by decide +kernel
theorem dX9_slack_5 : decode cX9_slack 5 = .ok (.ifCond .eq 13, 3) := by decide +kernel
theorem dX9_slack_18 : decode cX9_slack 18 = .ok (.aload_n 0, 1) := by decide +kernel
theorem dX9_slack_19 : decode cX9_slack 19 = .ok (.iconst 3, 1) := by decide +kernel
theorem dX9_slack_20 : decode cX9_slack 20 = .ok (.invokevirtual 261, 3) := by decide +kernel
theorem dX9_slack_23 : decode cX9_slack 23 = .ok (.ireturn, 1) := by decide +kernel
theorem dX9_status_0 : decode cX9_status 0 = .ok (.iload_n 1, 1) := by decide +kernel
theorem dX9_status_1 : decode cX9_status 1 = .ok (.iconst 0, 1) := by decide +kernel
theorem dX9_status_2 : decode cX9_status 2 = .ok (.iconst 5, 1) := by decide +kernel
theorem dX9_status_3 : decode cX9_status 3 = .ok (.invokestatic 340, 3) := by decide +kernel
theorem dX9_status_6 : decode cX9_status 6 = .ok (.ifCond .eq 12, 3) := by decide +kernel
theorem dX9_status_9 : decode cX9_status 9 = .ok (.aload_n 0, 1) := by decide +kernel
theorem dX9_status_10 : decode cX9_status 10 = .ok (.getfield 153, 3) := by decide +kernel
theorem dX9_status_13 : decode cX9_status 13 = .ok (.iload_n 1, 1) := by decide +kernel
theorem dX9_status_14 : decode cX9_status 14 = .ok (.iaload, 1) := by decide +kernel
theorem dX9_status_15 : decode cX9_status 15 = .ok (.goto 4, 3) := by decide +kernel
theorem dX9_status_18 : decode cX9_status 18 = .ok (.iconst (-1), 1) := by decide +kernel
theorem dX9_status_19 : decode cX9_status 19 = .ok (.ireturn, 1) := by decide +kernel
theorem dX9_swap_0 : decode cX9_swap 0 = .ok (.aload_n 0, 1) := by decide +kernel
theorem dX9_swap_1 : decode cX9_swap 1 = .ok (.iload_n 1, 1) := by decide +kernel
theorem dX9_swap_2 : decode cX9_swap 2 = .ok (.invokevirtual 543, 3) := by decide +kernel
theorem dX9_swap_5 : decode cX9_swap 5 = .ok (.ifCond .eq 16, 3) := by decide +kernel
theorem dX9_swap_21 : decode cX9_swap 21 = .ok (.aload_n 0, 1) := by decide +kernel
theorem dX9_swap_22 : decode cX9_swap 22 = .ok (.iconst 3, 1) := by decide +kernel
theorem dX9_swap_23 : decode cX9_swap 23 = .ok (.invokevirtual 261, 3) := by decide +kernel
theorem dX9_swap_26 : decode cX9_swap 26 = .ok (.ifCond .lt 7, 3) := by decide +kernel
theorem dX9_swap_33 : decode cX9_swap 33 = .ok (.iconst 0, 1) := by decide +kernel
theorem dX9_swap_34 : decode cX9_swap 34 = .ok (.ireturn, 1) := by decide +kernel
theorem dX9_tie_0 : decode cX9_tie 0 = .ok (.aload_n 0, 1) := by decide +kernel
theorem dX9_tie_1 : decode cX9_tie 1 = .ok (.iload_n 1, 1) := by decide +kernel
theorem dX9_tie_2 : decode cX9_tie 2 = .ok (.invokevirtual 546, 3) := by decide +kernel
theorem dX9_tie_5 : decode cX9_tie 5 = .ok (.ifCond .eq 22, 3) := by decide +kernel
theorem dX9_tie_27 : decode cX9_tie 27 = .ok (.aload_n 0, 1) := by decide +kernel
theorem dX9_tie_28 : decode cX9_tie 28 = .ok (.iconst 3, 1) := by decide +kernel
theorem dX9_tie_29 : decode cX9_tie 29 = .ok (.invokevirtual 261, 3) := by decide +kernel
theorem dX9_tie_32 : decode cX9_tie 32 = .ok (.ifCond .lt 7, 3) := by decide +kernel
theorem dX9_tie_39 : decode cX9_tie 39 = .ok (.iconst 0, 1) := by decide +kernel
theorem dX9_tie_40 : decode cX9_tie 40 = .ok (.ireturn, 1) := by decide +kernel
theorem dX9_tug_0 : decode cX9_tug 0 = .ok (.iload_n 1, 1) := by decide +kernel
theorem dX9_tug_1 : decode cX9_tug 1 = .ok (.iconst 0, 1) := by decide +kernel
theorem dX9_tug_2 : decode cX9_tug 2 = .ok (.aload_n 0, 1) := by decide +kernel
theorem dX9_tug_3 : decode cX9_tug 3 = .ok (.getfield 201, 3) := by decide +kernel
theorem dX9_tug_6 : decode cX9_tug 6 = .ok (.iconst 0, 1) := by decide +kernel
theorem dX9_tug_7 : decode cX9_tug 7 = .ok (.iaload, 1) := by decide +kernel
theorem dX9_tug_8 : decode cX9_tug 8 = .ok (.iconst 1, 1) := by decide +kernel
theorem dX9_tug_9 : decode cX9_tug 9 = .ok (.isub, 1) := by decide +kernel
theorem dX9_tug_10 : decode cX9_tug 10 = .ok (.invokestatic 340, 3) := by decide +kernel
theorem dX9_tug_13 : decode cX9_tug 13 = .ok (.ifCond .eq 25, 3) := by decide +kernel
theorem dX9_tug_38 : decode cX9_tug 38 = .ok (.iconst (-1), 1) := by decide +kernel
theorem dX9_tug_39 : decode cX9_tug 39 = .ok (.ireturn, 1) := by decide +kernel
theorem dX9_two_0 : decode cX9_two 0 = .ok (.aload_n 0, 1) := by decide +kernel
theorem dX9_two_1 : decode cX9_two 1 = .ok (.invokevirtual 445, 3) := by decide +kernel
theorem dX9_two_4 : decode cX9_two 4 = .ok (.iconst 2, 1) := by decide +kernel
theorem dX9_two_5 : decode cX9_two 5 = .ok (.bipush 8, 2) := by decide +kernel
theorem dX9_two_7 : decode cX9_two 7 = .ok (.invokestatic 340, 3) := by decide +kernel
theorem dX9_two_10 : decode cX9_two 10 = .ok (.ifCond .eq 12, 3) := by decide +kernel
theorem dX9_two_22 : decode cX9_two 22 = .ok (.iconst (-1), 1) := by decide +kernel
theorem dX9_two_23 : decode cX9_two 23 = .ok (.ireturn, 1) := by decide +kernel
theorem dX9_wake_0 : decode cX9_wake 0 = .ok (.aload_n 0, 1) := by decide +kernel
theorem dX9_wake_1 : decode cX9_wake 1 = .ok (.iload_n 1, 1) := by decide +kernel
theorem dX9_wake_2 : decode cX9_wake 2 = .ok (.invokevirtual 543, 3) := by decide +kernel
theorem dX9_wake_5 : decode cX9_wake 5 = .ok (.ifCond .eq 21, 3) := by decide +kernel
theorem dX9_wake_26 : decode cX9_wake 26 = .ok (.aload_n 0, 1) := by decide +kernel
theorem dX9_wake_27 : decode cX9_wake 27 = .ok (.iconst 2, 1) := by decide +kernel
theorem dX9_wake_28 : decode cX9_wake 28 = .ok (.invokevirtual 261, 3) := by decide +kernel
theorem dX9_wake_31 : decode cX9_wake 31 = .ok (.ifCond .lt 7, 3) := by decide +kernel
theorem dX9_wake_38 : decode cX9_wake 38 = .ok (.iconst 0, 1) := by decide +kernel
theorem dX9_wake_39 : decode cX9_wake 39 = .ok (.ireturn, 1) := by decide +kernel
theorem dX9_wakes_0 : decode cX9_wakes 0 = .ok (.aload_n 0, 1) := by decide +kernel
theorem dX9_wakes_1 : decode cX9_wakes 1 = .ok (.iload_n 1, 1) := by decide +kernel
theorem dX9_wakes_2 : decode cX9_wakes 2 = .ok (.invokevirtual 543, 3) := by decide +kernel
theorem dX9_wakes_5 : decode cX9_wakes 5 = .ok (.ifCond .eq 14, 3) := by decide +kernel
theorem dX9_wakes_19 : decode cX9_wakes 19 = .ok (.iconst (-1), 1) := by decide +kernel
theorem dX9_wakes_20 : decode cX9_wakes 20 = .ok (.ireturn, 1) := by decide +kernel
theorem dX9_walk_0 : decode cX9_walk 0 = .ok (.aload_n 0, 1) := by decide +kernel
theorem dX9_walk_1 : decode cX9_walk 1 = .ok (.iload_n 1, 1) := by decide +kernel
theorem dX9_walk_2 : decode cX9_walk 2 = .ok (.invokevirtual 543, 3) := by decide +kernel
theorem dX9_walk_5 : decode cX9_walk 5 = .ok (.ifCond .ne 5, 3) := by decide +kernel
theorem dX9_walk_8 : decode cX9_walk 8 = .ok (.iconst (-1), 1) := by decide +kernel
theorem dX9_walk_9 : decode cX9_walk 9 = .ok (.ireturn, 1) := by decide +kernel
theorem zq_0_0 : zvl zM0 0 0 = some (.ref 1) := by decide +kernel
theorem zq_0_1 : zvl zM0 0 1 = some (.int 0) := by decide +kernel
theorem zq_0_2 : zvl zM0 0 2 = some (.ref 2) := by decide +kernel
theorem zq_0_3 : zvl zM0 0 3 = some (.ref 28) := by decide +kernel
theorem zq_0_4 : zvl zM0 0 4 = some (.ref 49) := by decide +kernel
theorem zq_0_6 : zvl zM0 0 6 = some (.ref 77) := by decide +kernel
theorem zq_0_7 : zvl zM0 0 7 = some (.ref 359) := by decide +kernel
theorem zq_0_13 : zvl zM0 0 13 = some (.int 0) := by decide +kernel
theorem zq_0_14 : zvl zM0 0 14 = some (.ref 385) := by decide +kernel
theorem zq_2_0 : zvl zM0 2 0 = some (.int 0) := by decide +kernel
theorem zq_2_1 : zvl zM0 2 1 = some (.int (-1)) := by decide +kernel
theorem zq_28_1 : zvl zM0 28 1 = some (.int 0) := by decide +kernel
theorem zq_28_2 : zvl zM0 28 2 = some (.int 0) := by decide +kernel
theorem zq_28_15 : zvl zM0 28 15 = some (.ref 41) := by decide +kernel
theorem zq_41_0 : zvl zM0 41 0 = some (.int 0) := by decide +kernel
theorem zq_49_0 : zvl zM0 49 0 = some (.int 0) := by decide +kernel
theorem zq_49_1 : zvl zM0 49 1 = some (.int 0) := by decide +kernel
theorem zq_49_14 : zvl zM0 49 14 = some (.int 0) := by decide +kernel
theorem zq_77_0 : zvl zM0 77 0 = some (.int 0) := by decide +kernel
theorem zq_359_0 : zvl zM0 359 0 = some (.int 1) := by decide +kernel
theorem zq_385_0 : zvl zM0 385 0 = some (.int 0) := by decide +kernel
theorem zq_385_1 : zvl zM0 385 1 = some (.int 0) := by decide +kernel
theorem zq_385_2 : zvl zM0 385 2 = some (.int 0) := by decide +kernel
theorem zq_385_3 : zvl zM0 385 3 = some (.int 0) := by decide +kernel
theorem zq_385_4 : zvl zM0 385 4 = some (.int 0) := by decide +kernel
theorem zq_385_5 : zvl zM0 385 5 = some (.int 0) := by decide +kernel
theorem zq_386_0 : zvl zM0 386 0 = some (.ref 387) := by decide +kernel
theorem zq_386_1 : zvl zM0 386 1 = some (.int 0) := by decide +kernel
theorem zq_386_10 : zvl zM0 386 10 = some (.int 0) := by decide +kernel
theorem zq_386_11 : zvl zM0 386 11 = some (.int (-1)) := by decide +kernel
theorem zq_386_12 : zvl zM0 386 12 = some (.int 0) := by decide +kernel
theorem zq_386_13 : zvl zM0 386 13 = some (.ref 388) := by decide +kernel
theorem zq_386_21 : zvl zM0 386 21 = some (.ref 396) := by decide +kernel
theorem zq_386_27 : zvl zM0 386 27 = some (.ref 402) := by decide +kernel
theorem zq_386_46 : zvl zM0 386 46 = some (.ref 415) := by decide +kernel
theorem zq_386_49 : zvl zM0 386 49 = some (.ref 418) := by decide +kernel
theorem zq_386_62 : zvl zM0 386 62 = some (.ref 431) := by decide +kernel
theorem zq_386_65 : zvl zM0 386 65 = some (.int 0) := by decide +kernel
theorem zq_386_66 : zvl zM0 386 66 = some (.long 1) := by decide +kernel
theorem zq_386_81 : zvl zM0 386 81 = some (.int 0) := by decide +kernel
theorem zq_388_0 : zvl zM0 388 0 = some (.int 0) := by decide +kernel
theorem zq_396_0 : zvl zM0 396 0 = some (.int 0) := by decide +kernel
theorem zq_402_0 : zvl zM0 402 0 = some (.int 0) := by decide +kernel
theorem zq_415_0 : zvl zM0 415 0 = some (.int 0) := by decide +kernel
theorem zq_415_1 : zvl zM0 415 1 = some (.int 0) := by decide +kernel
theorem zq_415_2 : zvl zM0 415 2 = some (.int 0) := by decide +kernel
theorem zq_415_3 : zvl zM0 415 3 = some (.int 0) := by decide +kernel
theorem zq_415_4 : zvl zM0 415 4 = some (.int 0) := by decide +kernel
theorem zq_415_5 : zvl zM0 415 5 = some (.int 0) := by decide +kernel
theorem zq_418_0 : zvl zM0 418 0 = some (.int 0) := by decide +kernel
theorem zq_431_0 : zvl zM0 431 0 = some (.int 0) := by decide +kernel
theorem zcut (a b : Int) : a < b ∨ b ≤ a := by omega
theorem zp_of {jc jm : Nat} {vs ws : List Value} (h : ZV [] 11 jc vs zM0 (fun r => ∃ v : Int32, r.1 = some (.int v) ∧ ZV [] 11 jm ws r.2 (fun q => q.1 = some (.int v) ∧ zSh r.2 ∧ zSh q.2))) : ∃ (v : Int32) (M1 M2 : zM), ZC [] 11 jc vs zM0 (some (.int v), M1) ∧ ZC [] 11 jm ws M1 (some (.int v), M2) ∧ zSh M1 ∧ zSh M2 := by
  obtain ⟨⟨r1, M1⟩, h1, v, h2, ⟨q1, M2⟩, h3, h4, h5, h6⟩ := h
  cases h2
  cases h4
  exact ⟨v, M1, M2, h1, h3, h5, h6⟩
/-- calls without arguments: run by the kernel -/
def zK2 (jc jm : Nat) : Option (Option Value × Option Value × Bool × Bool) := match zev [] 3000 11 jc [.ref 0] zM0 with
  | none => none
  | some r1 => match zev [] 3000 11 jm [.ref 386] r1.2 with
    | none => none
    | some r2 => some (r1.1, r2.1, zshp r1.2 == zS0, zshp r2.2 == zS0)
theorem zK_ok {jc jm : Nat} {v : Int32} (h : zK2 jc jm = some (some (.int v), some (.int v), true, true)) : ∃ (v : Int32) (M1 M2 : zM), ZC [] 11 jc [.ref 0] zM0 (some (.int v), M1) ∧ ZC [] 11 jm [.ref 386] M1 (some (.int v), M2) ∧ zSh M1 ∧ zSh M2 := by
  unfold zK2 at h
  split at h
  · cases h
  · rename_i r1 h1
    split at h
    · cases h
    · rename_i r2 h2
      obtain ⟨a1, M1⟩ := r1
      obtain ⟨a2, M2⟩ := r2
      simp only [Option.some.injEq, Prod.mk.injEq, beq_iff_eq] at h
      obtain ⟨e1, e2, e3, e4⟩ := h
      subst e1 e2
      exact ⟨v, M1, M2, ⟨3000, h1⟩, ⟨3000, h2⟩, e3, e4⟩
