theorem dX0_init_0 : decode cX0_init 0 = .ok (.aload_n 0, 1) := by decide +kernel
theorem dX0_init_1 : decode cX0_init 1 = .ok (.iload_n 1, 1) := by decide +kernel
theorem dX0_init_2 : decode cX0_init 2 = .ok (.iload_n 2, 1) := by decide +kernel
theorem dX0_init_3 : decode cX0_init 3 = .ok (.invokespecial 3, 3) := by decide +kernel
theorem dX0_init_6 : decode cX0_init 6 = .ok (.return_, 1) := by decide +kernel
theorem dX0_kind_0 : decode cX0_kind 0 = .ok (.iconst 4, 1) := by decide +kernel
theorem dX0_kind_1 : decode cX0_kind 1 = .ok (.ireturn, 1) := by decide +kernel
theorem dX0_comes_0 : decode cX0_comes 0 = .ok (.aload_n 0, 1) := by decide +kernel
theorem dX0_comes_1 : decode cX0_comes 1 = .ok (.getfield 9, 3) := by decide +kernel
theorem dX0_comes_4 : decode cX0_comes 4 = .ok (.invokestatic 15, 3) := by decide +kernel
theorem dX0_comes_7 : decode cX0_comes 7 = .ok (.ireturn, 1) := by decide +kernel
theorem dX0_flight_0 : decode cX0_flight 0 = .ok (.aload_n 0, 1) := by decide +kernel
theorem dX0_flight_1 : decode cX0_flight 1 = .ok (.iload_n 1, 1) := by decide +kernel
theorem dX0_flight_2 : decode cX0_flight 2 = .ok (.iload_n 2, 1) := by decide +kernel
theorem dX0_flight_3 : decode cX0_flight 3 = .ok (.invokespecial 19, 3) := by decide +kernel
theorem dX0_flight_6 : decode cX0_flight 6 = .ok (.iconst 3, 1) := by decide +kernel
theorem dX0_flight_7 : decode cX0_flight 7 = .ok (.iadd, 1) := by decide +kernel
theorem dX0_flight_8 : decode cX0_flight 8 = .ok (.ireturn, 1) := by decide +kernel
theorem dX1_init_0 : decode cX1_init 0 = .ok (.aload_n 0, 1) := by decide +kernel
theorem dX1_init_1 : decode cX1_init 1 = .ok (.invokespecial 3, 3) := by decide +kernel
theorem dX1_init_4 : decode cX1_init 4 = .ok (.aload_n 0, 1) := by decide +kernel
theorem dX1_init_5 : decode cX1_init 5 = .ok (.new 9, 3) := by decide +kernel
theorem dX1_init_8 : decode cX1_init 8 = .ok (.dup, 1) := by decide +kernel
theorem dX1_init_9 : decode cX1_init 9 = .ok (.invokespecial 11, 3) := by decide +kernel
theorem dX1_init_12 : decode cX1_init 12 = .ok (.putfield 12, 3) := by decide +kernel
theorem dX1_init_15 : decode cX1_init 15 = .ok (.aload_n 0, 1) := by decide +kernel
theorem dX1_init_16 : decode cX1_init 16 = .ok (.new 9, 3) := by decide +kernel
theorem dX1_init_19 : decode cX1_init 19 = .ok (.dup, 1) := by decide +kernel
theorem dX1_init_20 : decode cX1_init 20 = .ok (.invokespecial 11, 3) := by decide +kernel
theorem dX1_init_23 : decode cX1_init 23 = .ok (.putfield 18, 3) := by decide +kernel
theorem dX1_init_26 : decode cX1_init 26 = .ok (.aload_n 0, 1) := by decide +kernel
theorem dX1_init_27 : decode cX1_init 27 = .ok (.iconst 0, 1) := by decide +kernel
theorem dX1_init_28 : decode cX1_init 28 = .ok (.putfield 21, 3) := by decide +kernel
theorem dX1_init_31 : decode cX1_init 31 = .ok (.aload_n 0, 1) := by decide +kernel
theorem dX1_init_32 : decode cX1_init 32 = .ok (.aload_n 1, 1) := by decide +kernel
theorem dX1_init_33 : decode cX1_init 33 = .ok (.putfield 25, 3) := by decide +kernel
theorem dX1_init_36 : decode cX1_init 36 = .ok (.return_, 1) := by decide +kernel
theorem dX1_take_0 : decode cX1_take 0 = .ok (.aload_n 0, 1) := by decide +kernel
theorem dX1_take_1 : decode cX1_take 1 = .ok (.getfield 12, 3) := by decide +kernel
theorem dX1_take_4 : decode cX1_take 4 = .ok (.aload_n 1, 1) := by decide +kernel
theorem dX1_take_5 : decode cX1_take 5 = .ok (.getfield 12, 3) := by decide +kernel
theorem dX1_take_8 : decode cX1_take 8 = .ok (.invokevirtual 29, 3) := by decide +kernel
theorem dX1_take_11 : decode cX1_take 11 = .ok (.aload_n 0, 1) := by decide +kernel
theorem dX1_take_12 : decode cX1_take 12 = .ok (.getfield 18, 3) := by decide +kernel
theorem dX1_take_15 : decode cX1_take 15 = .ok (.aload_n 1, 1) := by decide +kernel
theorem dX1_take_16 : decode cX1_take 16 = .ok (.getfield 18, 3) := by decide +kernel
theorem dX1_take_19 : decode cX1_take 19 = .ok (.invokevirtual 29, 3) := by decide +kernel
theorem dX1_take_22 : decode cX1_take 22 = .ok (.aload_n 0, 1) := by decide +kernel
theorem dX1_take_23 : decode cX1_take 23 = .ok (.aload_n 1, 1) := by decide +kernel
theorem dX1_take_24 : decode cX1_take 24 = .ok (.getfield 21, 3) := by decide +kernel
theorem dX1_take_27 : decode cX1_take 27 = .ok (.putfield 21, 3) := by decide +kernel
theorem dX1_take_30 : decode cX1_take 30 = .ok (.aload_n 0, 1) := by decide +kernel
theorem dX1_take_31 : decode cX1_take 31 = .ok (.aload_n 1, 1) := by decide +kernel
theorem dX1_take_32 : decode cX1_take 32 = .ok (.getfield 25, 3) := by decide +kernel
theorem dX1_take_35 : decode cX1_take 35 = .ok (.putfield 25, 3) := by decide +kernel
theorem dX1_take_38 : decode cX1_take 38 = .ok (.return_, 1) := by decide +kernel
theorem dX1_one_0 : decode cX1_one 0 = .ok (.iload_n 1, 1) := by decide +kernel
theorem dX1_one_1 : decode cX1_one 1 = .ok (.ifCond .ne 10, 3) := by decide +kernel
theorem dX1_one_4 : decode cX1_one 4 = .ok (.aload_n 0, 1) := by decide +kernel
theorem dX1_one_5 : decode cX1_one 5 = .ok (.getfield 12, 3) := by decide +kernel
theorem dX1_one_8 : decode cX1_one 8 = .ok (.goto 7, 3) := by decide +kernel
theorem dX1_one_11 : decode cX1_one 11 = .ok (.aload_n 0, 1) := by decide +kernel
theorem dX1_one_12 : decode cX1_one 12 = .ok (.getfield 18, 3) := by decide +kernel
theorem dX1_one_15 : decode cX1_one 15 = .ok (.areturn, 1) := by decide +kernel
theorem dX1_needsOf_0 : decode cX1_needsOf 0 = .ok (.iload_n 2, 1) := by decide +kernel
theorem dX1_needsOf_1 : decode cX1_needsOf 1 = .ok (.iload_n 3, 1) := by decide +kernel
theorem dX1_needsOf_2 : decode cX1_needsOf 2 = .ok (.invokestatic 33, 3) := by decide +kernel
theorem dX1_needsOf_5 : decode cX1_needsOf 5 = .ok (.istore 4, 2) := by decide +kernel
theorem dX1_needsOf_7 : decode cX1_needsOf 7 = .ok (.iload 4, 2) := by decide +kernel
theorem dX1_needsOf_9 : decode cX1_needsOf 9 = .ok (.ifCond .ne 5, 3) := by decide +kernel
theorem dX1_needsOf_12 : decode cX1_needsOf 12 = .ok (.iconst 0, 1) := by decide +kernel
theorem dX1_needsOf_13 : decode cX1_needsOf 13 = .ok (.ireturn, 1) := by decide +kernel
theorem dX1_needsOf_14 : decode cX1_needsOf 14 = .ok (.iload 4, 2) := by decide +kernel
theorem dX1_needsOf_16 : decode cX1_needsOf 16 = .ok (.aload_n 0, 1) := by decide +kernel
theorem dX1_needsOf_17 : decode cX1_needsOf 17 = .ok (.getfield 25, 3) := by decide +kernel
theorem dX1_needsOf_20 : decode cX1_needsOf 20 = .ok (.iconst 1, 1) := by decide +kernel
theorem dX1_needsOf_21 : decode cX1_needsOf 21 = .ok (.aload_n 1, 1) := by decide +kernel
theorem dX1_needsOf_22 : decode cX1_needsOf 22 = .ok (.aload_n 0, 1) := by decide +kernel
theorem dX1_needsOf_23 : decode cX1_needsOf 23 = .ok (.getfield 21, 3) := by decide +kernel
theorem dX1_needsOf_26 : decode cX1_needsOf 26 = .ok (.iload 4, 2) := by decide +kernel
theorem dX1_needsOf_28 : decode cX1_needsOf 28 = .ok (.iconst 0, 1) := by decide +kernel
theorem dX1_needsOf_29 : decode cX1_needsOf 29 = .ok (.iload_n 2, 1) := by decide +kernel
theorem dX1_needsOf_30 : decode cX1_needsOf 30 = .ok (.invokevirtual 39, 3) := by decide +kernel
theorem dX1_needsOf_33 : decode cX1_needsOf 33 = .ok (.bipush 99, 2) := by decide +kernel
theorem dX1_needsOf_35 : decode cX1_needsOf 35 = .ok (.invokestatic 43, 3) := by decide +kernel
theorem dX1_needsOf_38 : decode cX1_needsOf 38 = .ok (.imul, 1) := by decide +kernel
theorem dX1_needsOf_39 : decode cX1_needsOf 39 = .ok (.ireturn, 1) := by decide +kernel
theorem dX1_tenthsOf_0 : decode cX1_tenthsOf 0 = .ok (.aload_n 2, 1) := by decide +kernel
theorem dX1_tenthsOf_1 : decode cX1_tenthsOf 1 = .ok (.aload_n 1, 1) := by decide +kernel
theorem dX1_tenthsOf_2 : decode cX1_tenthsOf 2 = .ok (.getfield 46, 3) := by decide +kernel
theorem dX1_tenthsOf_5 : decode cX1_tenthsOf 5 = .ok (.invokevirtual 49, 3) := by decide +kernel
theorem dX1_tenthsOf_8 : decode cX1_tenthsOf 8 = .ok (.istore_n 3, 1) := by decide +kernel
theorem dX1_tenthsOf_9 : decode cX1_tenthsOf 9 = .ok (.aload_n 1, 1) := by decide +kernel
theorem dX1_tenthsOf_10 : decode cX1_tenthsOf 10 = .ok (.getfield 46, 3) := by decide +kernel
theorem dX1_tenthsOf_13 : decode cX1_tenthsOf 13 = .ok (.iload_n 3, 1) := by decide +kernel
theorem dX1_tenthsOf_14 : decode cX1_tenthsOf 14 = .ok (.invokestatic 33, 3) := by decide +kernel
theorem dX1_tenthsOf_17 : decode cX1_tenthsOf 17 = .ok (.istore 4, 2) := by decide +kernel
theorem dX1_tenthsOf_19 : decode cX1_tenthsOf 19 = .ok (.aload_n 0, 1) := by decide +kernel
theorem dX1_tenthsOf_20 : decode cX1_tenthsOf 20 = .ok (.getfield 25, 3) := by decide +kernel
theorem dX1_tenthsOf_23 : decode cX1_tenthsOf 23 = .ok (.iconst 0, 1) := by decide +kernel
theorem dX1_tenthsOf_24 : decode cX1_tenthsOf 24 = .ok (.aload_n 1, 1) := by decide +kernel
theorem dX1_tenthsOf_25 : decode cX1_tenthsOf 25 = .ok (.aload_n 0, 1) := by decide +kernel
theorem dX1_tenthsOf_26 : decode cX1_tenthsOf 26 = .ok (.getfield 21, 3) := by decide +kernel
theorem dX1_tenthsOf_29 : decode cX1_tenthsOf 29 = .ok (.iload 4, 2) := by decide +kernel
theorem dX1_tenthsOf_31 : decode cX1_tenthsOf 31 = .ok (.aload_n 2, 1) := by decide +kernel
theorem dX1_tenthsOf_32 : decode cX1_tenthsOf 32 = .ok (.getfield 55, 3) := by decide +kernel
theorem dX1_tenthsOf_35 : decode cX1_tenthsOf 35 = .ok (.iload_n 3, 1) := by decide +kernel
theorem dX1_tenthsOf_36 : decode cX1_tenthsOf 36 = .ok (.invokevirtual 39, 3) := by decide +kernel
theorem dX1_tenthsOf_39 : decode cX1_tenthsOf 39 = .ok (.istore 5, 2) := by decide +kernel
theorem dX1_tenthsOf_41 : decode cX1_tenthsOf 41 = .ok (.iconst 0, 1) := by decide +kernel
theorem dX1_tenthsOf_42 : decode cX1_tenthsOf 42 = .ok (.aload_n 2, 1) := by decide +kernel
theorem dX1_tenthsOf_43 : decode cX1_tenthsOf 43 = .ok (.iload 5, 2) := by decide +kernel
theorem dX1_tenthsOf_45 : decode cX1_tenthsOf 45 = .ok (.bipush 99, 2) := by decide +kernel
theorem dX1_tenthsOf_47 : decode cX1_tenthsOf 47 = .ok (.invokestatic 43, 3) := by decide +kernel
theorem dX1_tenthsOf_50 : decode cX1_tenthsOf 50 = .ok (.aload_n 0, 1) := by decide +kernel
theorem dX1_tenthsOf_51 : decode cX1_tenthsOf 51 = .ok (.getfield 21, 3) := by decide +kernel
theorem dX1_tenthsOf_54 : decode cX1_tenthsOf 54 = .ok (.invokevirtual 58, 3) := by decide +kernel
theorem dX1_tenthsOf_57 : decode cX1_tenthsOf 57 = .ok (.invokestatic 61, 3) := by decide +kernel
theorem dX1_tenthsOf_60 : decode cX1_tenthsOf 60 = .ok (.ireturn, 1) := by decide +kernel
theorem dX1_slipsOf_0 : decode cX1_slipsOf 0 = .ok (.aload_n 2, 1) := by decide +kernel
theorem dX1_slipsOf_1 : decode cX1_slipsOf 1 = .ok (.aload_n 1, 1) := by decide +kernel
theorem dX1_slipsOf_2 : decode cX1_slipsOf 2 = .ok (.getfield 46, 3) := by decide +kernel
theorem dX1_slipsOf_5 : decode cX1_slipsOf 5 = .ok (.invokevirtual 49, 3) := by decide +kernel
theorem dX1_slipsOf_8 : decode cX1_slipsOf 8 = .ok (.istore_n 3, 1) := by decide +kernel
theorem dX1_slipsOf_9 : decode cX1_slipsOf 9 = .ok (.aload_n 1, 1) := by decide +kernel
theorem dX1_slipsOf_10 : decode cX1_slipsOf 10 = .ok (.getfield 46, 3) := by decide +kernel
theorem dX1_slipsOf_13 : decode cX1_slipsOf 13 = .ok (.iload_n 3, 1) := by decide +kernel
theorem dX1_slipsOf_14 : decode cX1_slipsOf 14 = .ok (.invokestatic 33, 3) := by decide +kernel
theorem dX1_slipsOf_17 : decode cX1_slipsOf 17 = .ok (.istore 4, 2) := by decide +kernel
theorem dX1_slipsOf_19 : decode cX1_slipsOf 19 = .ok (.aload_n 0, 1) := by decide +kernel
theorem dX1_slipsOf_20 : decode cX1_slipsOf 20 = .ok (.getfield 25, 3) := by decide +kernel
theorem dX1_slipsOf_23 : decode cX1_slipsOf 23 = .ok (.iconst 2, 1) := by decide +kernel
theorem dX1_slipsOf_24 : decode cX1_slipsOf 24 = .ok (.aload_n 1, 1) := by decide +kernel
theorem dX1_slipsOf_25 : decode cX1_slipsOf 25 = .ok (.aload_n 0, 1) := by decide +kernel
theorem dX1_slipsOf_26 : decode cX1_slipsOf 26 = .ok (.getfield 21, 3) := by decide +kernel
theorem dX1_slipsOf_29 : decode cX1_slipsOf 29 = .ok (.iload 4, 2) := by decide +kernel
theorem dX1_slipsOf_31 : decode cX1_slipsOf 31 = .ok (.aload_n 2, 1) := by decide +kernel
theorem dX1_slipsOf_32 : decode cX1_slipsOf 32 = .ok (.getfield 55, 3) := by decide +kernel
theorem dX1_slipsOf_35 : decode cX1_slipsOf 35 = .ok (.iload_n 3, 1) := by decide +kernel
theorem dX1_slipsOf_36 : decode cX1_slipsOf 36 = .ok (.invokevirtual 39, 3) := by decide +kernel
theorem dX1_slipsOf_39 : decode cX1_slipsOf 39 = .ok (.bipush 100, 2) := by decide +kernel
theorem dX1_slipsOf_41 : decode cX1_slipsOf 41 = .ok (.invokestatic 43, 3) := by decide +kernel
theorem dX1_slipsOf_44 : decode cX1_slipsOf 44 = .ok (.ireturn, 1) := by decide +kernel
theorem dX1_wouldWin_0 : decode cX1_wouldWin 0 = .ok (.aload_n 0, 1) := by decide +kernel
theorem dX1_wouldWin_1 : decode cX1_wouldWin 1 = .ok (.iload_n 1, 1) := by decide +kernel
theorem dX1_wouldWin_2 : decode cX1_wouldWin 2 = .ok (.invokevirtual 66, 3) := by decide +kernel
theorem dX1_wouldWin_5 : decode cX1_wouldWin 5 = .ok (.astore_n 3, 1) := by decide +kernel
theorem dX1_wouldWin_6 : decode cX1_wouldWin 6 = .ok (.aload_n 0, 1) := by decide +kernel
theorem dX1_wouldWin_7 : decode cX1_wouldWin 7 = .ok (.iconst 1, 1) := by decide +kernel
theorem dX1_wouldWin_8 : decode cX1_wouldWin 8 = .ok (.iload_n 1, 1) := by decide +kernel
theorem dX1_wouldWin_9 : decode cX1_wouldWin 9 = .ok (.isub, 1) := by decide +kernel
theorem dX1_wouldWin_10 : decode cX1_wouldWin 10 = .ok (.invokevirtual 66, 3) := by decide +kernel
theorem dX1_wouldWin_13 : decode cX1_wouldWin 13 = .ok (.astore 4, 2) := by decide +kernel
theorem dX1_wouldWin_15 : decode cX1_wouldWin 15 = .ok (.aload_n 0, 1) := by decide +kernel
theorem dX1_wouldWin_16 : decode cX1_wouldWin 16 = .ok (.aload 4, 2) := by decide +kernel
theorem dX1_wouldWin_18 : decode cX1_wouldWin 18 = .ok (.aload 4, 2) := by decide +kernel
theorem dX1_wouldWin_20 : decode cX1_wouldWin 20 = .ok (.getfield 46, 3) := by decide +kernel
theorem dX1_wouldWin_23 : decode cX1_wouldWin 23 = .ok (.aload_n 2, 1) := by decide +kernel
theorem dX1_wouldWin_24 : decode cX1_wouldWin 24 = .ok (.aload_n 3, 1) := by decide +kernel
theorem dX1_wouldWin_25 : decode cX1_wouldWin 25 = .ok (.getfield 46, 3) := by decide +kernel
theorem dX1_wouldWin_28 : decode cX1_wouldWin 28 = .ok (.invokevirtual 49, 3) := by decide +kernel
theorem dX1_wouldWin_31 : decode cX1_wouldWin 31 = .ok (.invokevirtual 70, 3) := by decide +kernel
theorem dX1_wouldWin_34 : decode cX1_wouldWin 34 = .ok (.istore 5, 2) := by decide +kernel
theorem dX1_wouldWin_36 : decode cX1_wouldWin 36 = .ok (.iload 5, 2) := by decide +kernel
theorem dX1_wouldWin_38 : decode cX1_wouldWin 38 = .ok (.ifCond .le 18, 3) := by decide +kernel
theorem dX1_wouldWin_41 : decode cX1_wouldWin 41 = .ok (.iload 5, 2) := by decide +kernel
theorem dX1_wouldWin_43 : decode cX1_wouldWin 43 = .ok (.aload_n 0, 1) := by decide +kernel
theorem dX1_wouldWin_44 : decode cX1_wouldWin 44 = .ok (.aload_n 3, 1) := by decide +kernel
theorem dX1_wouldWin_45 : decode cX1_wouldWin 45 = .ok (.aload_n 2, 1) := by decide +kernel
theorem dX1_wouldWin_46 : decode cX1_wouldWin 46 = .ok (.invokevirtual 74, 3) := by decide +kernel
theorem dX1_wouldWin_49 : decode cX1_wouldWin 49 = .ok (.if_icmp .le 7, 3) := by decide +kernel
theorem dX1_wouldWin_52 : decode cX1_wouldWin 52 = .ok (.iconst 1, 1) := by decide +kernel
theorem dX1_wouldWin_53 : decode cX1_wouldWin 53 = .ok (.goto 4, 3) := by decide +kernel
theorem dX1_wouldWin_56 : decode cX1_wouldWin 56 = .ok (.iconst 0, 1) := by decide +kernel
theorem dX1_wouldWin_57 : decode cX1_wouldWin 57 = .ok (.ireturn, 1) := by decide +kernel
theorem dX1_strike_0 : decode cX1_strike 0 = .ok (.aload_n 0, 1) := by decide +kernel
theorem dX1_strike_1 : decode cX1_strike 1 = .ok (.iload_n 1, 1) := by decide +kernel
theorem dX1_strike_2 : decode cX1_strike 2 = .ok (.invokevirtual 66, 3) := by decide +kernel
theorem dX1_strike_5 : decode cX1_strike 5 = .ok (.astore_n 3, 1) := by decide +kernel
theorem dX1_strike_6 : decode cX1_strike 6 = .ok (.aload_n 0, 1) := by decide +kernel
theorem dX1_strike_7 : decode cX1_strike 7 = .ok (.iconst 1, 1) := by decide +kernel
theorem dX1_strike_8 : decode cX1_strike 8 = .ok (.iload_n 1, 1) := by decide +kernel
theorem dX1_strike_9 : decode cX1_strike 9 = .ok (.isub, 1) := by decide +kernel
theorem dX1_strike_10 : decode cX1_strike 10 = .ok (.invokevirtual 66, 3) := by decide +kernel
theorem dX1_strike_13 : decode cX1_strike 13 = .ok (.astore 4, 2) := by decide +kernel
theorem dX1_strike_15 : decode cX1_strike 15 = .ok (.aload_n 2, 1) := by decide +kernel
theorem dX1_strike_16 : decode cX1_strike 16 = .ok (.aload_n 3, 1) := by decide +kernel
theorem dX1_strike_17 : decode cX1_strike 17 = .ok (.getfield 46, 3) := by decide +kernel
theorem dX1_strike_20 : decode cX1_strike 20 = .ok (.invokevirtual 49, 3) := by decide +kernel
theorem dX1_strike_23 : decode cX1_strike 23 = .ok (.istore 5, 2) := by decide +kernel
theorem dX1_strike_25 : decode cX1_strike 25 = .ok (.aload_n 0, 1) := by decide +kernel
theorem dX1_strike_26 : decode cX1_strike 26 = .ok (.aload_n 3, 1) := by decide +kernel
theorem dX1_strike_27 : decode cX1_strike 27 = .ok (.aload_n 2, 1) := by decide +kernel
theorem dX1_strike_28 : decode cX1_strike 28 = .ok (.invokevirtual 74, 3) := by decide +kernel
theorem dX1_strike_31 : decode cX1_strike 31 = .ok (.istore 6, 2) := by decide +kernel
theorem dX1_strike_33 : decode cX1_strike 33 = .ok (.aload_n 3, 1) := by decide +kernel
theorem dX1_strike_34 : decode cX1_strike 34 = .ok (.aload_n 2, 1) := by decide +kernel
theorem dX1_strike_35 : decode cX1_strike 35 = .ok (.invokevirtual 78, 3) := by decide +kernel
theorem dX1_strike_38 : decode cX1_strike 38 = .ok (.invokevirtual 82, 3) := by decide +kernel
theorem dX1_strike_41 : decode cX1_strike 41 = .ok (.aload_n 0, 1) := by decide +kernel
theorem dX1_strike_42 : decode cX1_strike 42 = .ok (.aload 4, 2) := by decide +kernel
theorem dX1_strike_44 : decode cX1_strike 44 = .ok (.aload 4, 2) := by decide +kernel
theorem dX1_strike_46 : decode cX1_strike 46 = .ok (.getfield 46, 3) := by decide +kernel
theorem dX1_strike_49 : decode cX1_strike 49 = .ok (.iload 5, 2) := by decide +kernel
theorem dX1_strike_51 : decode cX1_strike 51 = .ok (.invokevirtual 70, 3) := by decide +kernel
theorem dX1_strike_54 : decode cX1_strike 54 = .ok (.iload 6, 2) := by decide +kernel
theorem dX1_strike_56 : decode cX1_strike 56 = .ok (.if_icmp .le 5, 3) := by decide +kernel
theorem dX1_strike_59 : decode cX1_strike 59 = .ok (.iconst 1, 1) := by decide +kernel
theorem dX1_strike_60 : decode cX1_strike 60 = .ok (.ireturn, 1) := by decide +kernel
theorem dX1_strike_61 : decode cX1_strike 61 = .ok (.aload 4, 2) := by decide +kernel
theorem dX1_strike_63 : decode cX1_strike 63 = .ok (.iload 5, 2) := by decide +kernel
theorem dX1_strike_65 : decode cX1_strike 65 = .ok (.invokevirtual 86, 3) := by decide +kernel
theorem dX1_strike_68 : decode cX1_strike 68 = .ok (.aload_n 3, 1) := by decide +kernel
theorem dX1_strike_69 : decode cX1_strike 69 = .ok (.getfield 89, 3) := by decide +kernel
theorem dX1_strike_72 : decode cX1_strike 72 = .ok (.iconst (-1), 1) := by decide +kernel
theorem dX1_strike_73 : decode cX1_strike 73 = .ok (.if_icmp .eq 29, 3) := by decide +kernel
theorem dX1_strike_76 : decode cX1_strike 76 = .ok (.aload_n 0, 1) := by decide +kernel
theorem dX1_strike_77 : decode cX1_strike 77 = .ok (.aload_n 3, 1) := by decide +kernel
theorem dX1_strike_78 : decode cX1_strike 78 = .ok (.aload_n 3, 1) := by decide +kernel
theorem dX1_strike_79 : decode cX1_strike 79 = .ok (.getfield 46, 3) := by decide +kernel
theorem dX1_strike_82 : decode cX1_strike 82 = .ok (.aload_n 3, 1) := by decide +kernel
theorem dX1_strike_83 : decode cX1_strike 83 = .ok (.getfield 89, 3) := by decide +kernel
theorem dX1_strike_86 : decode cX1_strike 86 = .ok (.invokevirtual 70, 3) := by decide +kernel
theorem dX1_strike_89 : decode cX1_strike 89 = .ok (.iload 6, 2) := by decide +kernel
theorem dX1_strike_91 : decode cX1_strike 91 = .ok (.if_icmp .gt 11, 3) := by decide +kernel
theorem dX1_strike_94 : decode cX1_strike 94 = .ok (.aload_n 3, 1) := by decide +kernel
theorem dX1_strike_95 : decode cX1_strike 95 = .ok (.aload_n 3, 1) := by decide +kernel
theorem dX1_strike_96 : decode cX1_strike 96 = .ok (.getfield 89, 3) := by decide +kernel
theorem dX1_strike_99 : decode cX1_strike 99 = .ok (.invokevirtual 86, 3) := by decide +kernel
theorem dX1_strike_102 : decode cX1_strike 102 = .ok (.aload_n 0, 1) := by decide +kernel
theorem dX1_strike_103 : decode cX1_strike 103 = .ok (.bipush 99, 2) := by decide +kernel
theorem dX1_strike_105 : decode cX1_strike 105 = .ok (.aload_n 0, 1) := by decide +kernel
theorem dX1_strike_106 : decode cX1_strike 106 = .ok (.getfield 21, 3) := by decide +kernel
theorem dX1_strike_109 : decode cX1_strike 109 = .ok (.iconst 1, 1) := by decide +kernel
theorem dX1_strike_110 : decode cX1_strike 110 = .ok (.iadd, 1) := by decide +kernel
theorem dX1_strike_111 : decode cX1_strike 111 = .ok (.invokestatic 92, 3) := by decide +kernel
theorem dX1_strike_114 : decode cX1_strike 114 = .ok (.putfield 21, 3) := by decide +kernel
theorem dX1_strike_117 : decode cX1_strike 117 = .ok (.iconst 0, 1) := by decide +kernel
theorem dX1_strike_118 : decode cX1_strike 118 = .ok (.ireturn, 1) := by decide +kernel
theorem dX2_init_0 : decode cX2_init 0 = .ok (.aload_n 0, 1) := by decide +kernel
theorem dX2_init_1 : decode cX2_init 1 = .ok (.iload_n 1, 1) := by decide +kernel
theorem dX2_init_2 : decode cX2_init 2 = .ok (.iload_n 2, 1) := by decide +kernel
theorem dX2_init_3 : decode cX2_init 3 = .ok (.invokespecial 3, 3) := by decide +kernel
theorem dX2_init_6 : decode cX2_init 6 = .ok (.return_, 1) := by decide +kernel
theorem dX2_kind_0 : decode cX2_kind 0 = .ok (.iconst 5, 1) := by decide +kernel
theorem dX2_kind_1 : decode cX2_kind 1 = .ok (.ireturn, 1) := by decide +kernel
theorem dX2_comes_0 : decode cX2_comes 0 = .ok (.aload_n 0, 1) := by decide +kernel
theorem dX2_comes_1 : decode cX2_comes 1 = .ok (.iload_n 1, 1) := by decide +kernel
theorem dX2_comes_2 : decode cX2_comes 2 = .ok (.invokespecial 9, 3) := by decide +kernel
theorem dX2_comes_5 : decode cX2_comes 5 = .ok (.istore_n 2, 1) := by decide +kernel
theorem dX2_comes_6 : decode cX2_comes 6 = .ok (.iload_n 1, 1) := by decide +kernel
theorem dX2_comes_7 : decode cX2_comes 7 = .ok (.iconst 5, 1) := by decide +kernel
theorem dX2_comes_8 : decode cX2_comes 8 = .ok (.irem, 1) := by decide +kernel
theorem dX2_comes_9 : decode cX2_comes 9 = .ok (.iconst 2, 1) := by decide +kernel
theorem dX2_comes_10 : decode cX2_comes 10 = .ok (.if_icmp .ge 10, 3) := by decide +kernel
theorem dX2_comes_13 : decode cX2_comes 13 = .ok (.iload_n 2, 1) := by decide +kernel
theorem dX2_comes_14 : decode cX2_comes 14 = .ok (.invokestatic 13, 3) := by decide +kernel
theorem dX2_comes_17 : decode cX2_comes 17 = .ok (.goto 4, 3) := by decide +kernel
theorem dX2_comes_20 : decode cX2_comes 20 = .ok (.iload_n 2, 1) := by decide +kernel
theorem dX2_comes_21 : decode cX2_comes 21 = .ok (.ireturn, 1) := by decide +kernel
theorem dX2_flight_0 : decode cX2_flight 0 = .ok (.aload_n 0, 1) := by decide +kernel
theorem dX2_flight_1 : decode cX2_flight 1 = .ok (.iload_n 1, 1) := by decide +kernel
theorem dX2_flight_2 : decode cX2_flight 2 = .ok (.iload_n 2, 1) := by decide +kernel
theorem dX2_flight_3 : decode cX2_flight 3 = .ok (.invokespecial 16, 3) := by decide +kernel
theorem dX2_flight_6 : decode cX2_flight 6 = .ok (.iconst 2, 1) := by decide +kernel
theorem dX2_flight_7 : decode cX2_flight 7 = .ok (.isub, 1) := by decide +kernel
theorem dX2_flight_8 : decode cX2_flight 8 = .ok (.ireturn, 1) := by decide +kernel
theorem dX2_spends_0 : decode cX2_spends 0 = .ok (.aload_n 0, 1) := by decide +kernel
theorem dX2_spends_1 : decode cX2_spends 1 = .ok (.invokespecial 20, 3) := by decide +kernel
theorem dX2_spends_4 : decode cX2_spends 4 = .ok (.iconst 2, 1) := by decide +kernel
theorem dX2_spends_5 : decode cX2_spends 5 = .ok (.iadd, 1) := by decide +kernel
theorem dX2_spends_6 : decode cX2_spends 6 = .ok (.ireturn, 1) := by decide +kernel
theorem dX3_init_0 : decode cX3_init 0 = .ok (.aload_n 0, 1) := by decide +kernel
theorem dX3_init_1 : decode cX3_init 1 = .ok (.iload_n 1, 1) := by decide +kernel
theorem dX3_init_2 : decode cX3_init 2 = .ok (.iload_n 2, 1) := by decide +kernel
theorem dX3_init_3 : decode cX3_init 3 = .ok (.invokespecial 3, 3) := by decide +kernel
theorem dX3_init_6 : decode cX3_init 6 = .ok (.return_, 1) := by decide +kernel
theorem dX3_kind_0 : decode cX3_kind 0 = .ok (.iconst 2, 1) := by decide +kernel
theorem dX3_kind_1 : decode cX3_kind 1 = .ok (.ireturn, 1) := by decide +kernel
theorem dX3_flight_0 : decode cX3_flight 0 = .ok (.aload_n 0, 1) := by decide +kernel
theorem dX3_flight_1 : decode cX3_flight 1 = .ok (.iload_n 1, 1) := by decide +kernel
theorem dX3_flight_2 : decode cX3_flight 2 = .ok (.iload_n 2, 1) := by decide +kernel
theorem dX3_flight_3 : decode cX3_flight 3 = .ok (.invokespecial 9, 3) := by decide +kernel
theorem dX3_flight_6 : decode cX3_flight 6 = .ok (.istore_n 3, 1) := by decide +kernel
theorem dX3_flight_7 : decode cX3_flight 7 = .ok (.iload_n 2, 1) := by decide +kernel
theorem dX3_flight_8 : decode cX3_flight 8 = .ok (.bipush 20, 2) := by decide +kernel
theorem dX3_flight_10 : decode cX3_flight 10 = .ok (.if_icmp .ge 9, 3) := by decide +kernel
theorem dX3_flight_13 : decode cX3_flight 13 = .ok (.iload_n 3, 1) := by decide +kernel
theorem dX3_flight_14 : decode cX3_flight 14 = .ok (.iconst 2, 1) := by decide +kernel
theorem dX3_flight_15 : decode cX3_flight 15 = .ok (.idiv, 1) := by decide +kernel
theorem dX3_flight_16 : decode cX3_flight 16 = .ok (.goto 4, 3) := by decide +kernel
theorem dX3_flight_19 : decode cX3_flight 19 = .ok (.iload_n 3, 1) := by decide +kernel
theorem dX3_flight_20 : decode cX3_flight 20 = .ok (.ireturn, 1) := by decide +kernel
theorem dX3_spends_0 : decode cX3_spends 0 = .ok (.aload_n 0, 1) := by decide +kernel
theorem dX3_spends_1 : decode cX3_spends 1 = .ok (.invokespecial 13, 3) := by decide +kernel
theorem dX3_spends_4 : decode cX3_spends 4 = .ok (.aload_n 0, 1) := by decide +kernel
theorem dX3_spends_5 : decode cX3_spends 5 = .ok (.getfield 17, 3) := by decide +kernel
theorem dX3_spends_8 : decode cX3_spends 8 = .ok (.iconst 2, 1) := by decide +kernel
theorem dX3_spends_9 : decode cX3_spends 9 = .ok (.idiv, 1) := by decide +kernel
theorem dX3_spends_10 : decode cX3_spends 10 = .ok (.iadd, 1) := by decide +kernel
theorem dX3_spends_11 : decode cX3_spends 11 = .ok (.ireturn, 1) := by decide +kernel
theorem dX4_init_0 : decode cX4_init 0 = .ok (.aload_n 0, 1) := by decide +kernel
theorem dX4_init_1 : decode cX4_init 1 = .ok (.iload_n 1, 1) := by decide +kernel
theorem dX4_init_2 : decode cX4_init 2 = .ok (.iload_n 2, 1) := by decide +kernel
theorem dX4_init_3 : decode cX4_init 3 = .ok (.invokespecial 3, 3) := by decide +kernel
theorem dX4_init_6 : decode cX4_init 6 = .ok (.return_, 1) := by decide +kernel
theorem dX4_kind_0 : decode cX4_kind 0 = .ok (.iconst 1, 1) := by decide +kernel
theorem dX4_kind_1 : decode cX4_kind 1 = .ok (.ireturn, 1) := by decide +kernel
theorem dX4_flight_0 : decode cX4_flight 0 = .ok (.aload_n 0, 1) := by decide +kernel
theorem dX4_flight_1 : decode cX4_flight 1 = .ok (.iload_n 1, 1) := by decide +kernel
theorem dX4_flight_2 : decode cX4_flight 2 = .ok (.iload_n 2, 1) := by decide +kernel
theorem dX4_flight_3 : decode cX4_flight 3 = .ok (.invokespecial 9, 3) := by decide +kernel
theorem dX4_flight_6 : decode cX4_flight 6 = .ok (.aload_n 0, 1) := by decide +kernel
theorem dX4_flight_7 : decode cX4_flight 7 = .ok (.getfield 13, 3) := by decide +kernel
theorem dX4_flight_10 : decode cX4_flight 10 = .ok (.iadd, 1) := by decide +kernel
theorem dX4_flight_11 : decode cX4_flight 11 = .ok (.ireturn, 1) := by decide +kernel
theorem dX5_init_0 : decode cX5_init 0 = .ok (.aload_n 0, 1) := by decide +kernel
theorem dX5_init_1 : decode cX5_init 1 = .ok (.iload_n 1, 1) := by decide +kernel
theorem dX5_init_2 : decode cX5_init 2 = .ok (.iload_n 2, 1) := by decide +kernel
theorem dX5_init_3 : decode cX5_init 3 = .ok (.invokespecial 3, 3) := by decide +kernel
theorem dX5_init_6 : decode cX5_init 6 = .ok (.return_, 1) := by decide +kernel
theorem dX5_kind_0 : decode cX5_kind 0 = .ok (.iconst 3, 1) := by decide +kernel
theorem dX5_kind_1 : decode cX5_kind 1 = .ok (.ireturn, 1) := by decide +kernel
theorem dX5_comes_0 : decode cX5_comes 0 = .ok (.aload_n 0, 1) := by decide +kernel
theorem dX5_comes_1 : decode cX5_comes 1 = .ok (.getfield 9, 3) := by decide +kernel
theorem dX5_comes_4 : decode cX5_comes 4 = .ok (.bipush 20, 2) := by decide +kernel
theorem dX5_comes_6 : decode cX5_comes 6 = .ok (.if_icmp .ge 12, 3) := by decide +kernel
theorem dX5_comes_9 : decode cX5_comes 9 = .ok (.aload_n 0, 1) := by decide +kernel
theorem dX5_comes_10 : decode cX5_comes 10 = .ok (.getfield 9, 3) := by decide +kernel
theorem dX5_comes_13 : decode cX5_comes 13 = .ok (.iconst 5, 1) := by decide +kernel
theorem dX5_comes_14 : decode cX5_comes 14 = .ok (.iadd, 1) := by decide +kernel
theorem dX5_comes_15 : decode cX5_comes 15 = .ok (.goto 7, 3) := by decide +kernel
theorem dX5_comes_18 : decode cX5_comes 18 = .ok (.aload_n 0, 1) := by decide +kernel
theorem dX5_comes_19 : decode cX5_comes 19 = .ok (.getfield 9, 3) := by decide +kernel
theorem dX5_comes_22 : decode cX5_comes 22 = .ok (.ireturn, 1) := by decide +kernel
theorem dX5_flight_0 : decode cX5_flight 0 = .ok (.aload_n 0, 1) := by decide +kernel
theorem dX5_flight_1 : decode cX5_flight 1 = .ok (.iload_n 1, 1) := by decide +kernel
theorem dX5_flight_2 : decode cX5_flight 2 = .ok (.iload_n 2, 1) := by decide +kernel
theorem dX5_flight_3 : decode cX5_flight 3 = .ok (.invokespecial 15, 3) := by decide +kernel
theorem dX5_flight_6 : decode cX5_flight 6 = .ok (.bipush 10, 2) := by decide +kernel
theorem dX5_flight_8 : decode cX5_flight 8 = .ok (.iadd, 1) := by decide +kernel
theorem dX5_flight_9 : decode cX5_flight 9 = .ok (.ireturn, 1) := by decide +kernel
theorem dX5_spends_0 : decode cX5_spends 0 = .ok (.iconst 0, 1) := by decide +kernel
theorem dX5_spends_1 : decode cX5_spends 1 = .ok (.ireturn, 1) := by decide +kernel
theorem dX6_init_0 : decode cX6_init 0 = .ok (.aload_n 0, 1) := by decide +kernel
theorem dX6_init_1 : decode cX6_init 1 = .ok (.invokespecial 3, 3) := by decide +kernel
theorem dX6_init_4 : decode cX6_init 4 = .ok (.aload_n 0, 1) := by decide +kernel
theorem dX6_init_5 : decode cX6_init 5 = .ok (.bipush 12, 2) := by decide +kernel
theorem dX6_init_7 : decode cX6_init 7 = .ok (.putfield 9, 3) := by decide +kernel
theorem dX6_init_10 : decode cX6_init 10 = .ok (.aload_n 0, 1) := by decide +kernel
theorem dX6_init_11 : decode cX6_init 11 = .ok (.sipush 500, 3) := by decide +kernel
theorem dX6_init_14 : decode cX6_init 14 = .ok (.putfield 15, 3) := by decide +kernel
theorem dX6_init_17 : decode cX6_init 17 = .ok (.aload_n 0, 1) := by decide +kernel
theorem dX6_init_18 : decode cX6_init 18 = .ok (.iconst 5, 1) := by decide +kernel
theorem dX6_init_19 : decode cX6_init 19 = .ok (.putfield 18, 3) := by decide +kernel
theorem dX6_init_22 : decode cX6_init 22 = .ok (.aload_n 0, 1) := by decide +kernel
theorem dX6_init_23 : decode cX6_init 23 = .ok (.bipush 12, 2) := by decide +kernel
theorem dX6_init_25 : decode cX6_init 25 = .ok (.putfield 21, 3) := by decide +kernel
theorem dX6_init_28 : decode cX6_init 28 = .ok (.return_, 1) := by decide +kernel
theorem dX6_take_0 : decode cX6_take 0 = .ok (.aload_n 0, 1) := by decide +kernel
theorem dX6_take_1 : decode cX6_take 1 = .ok (.aload_n 1, 1) := by decide +kernel
theorem dX6_take_2 : decode cX6_take 2 = .ok (.getfield 9, 3) := by decide +kernel
theorem dX6_take_5 : decode cX6_take 5 = .ok (.putfield 9, 3) := by decide +kernel
theorem dX6_take_8 : decode cX6_take 8 = .ok (.aload_n 0, 1) := by decide +kernel
theorem dX6_take_9 : decode cX6_take 9 = .ok (.aload_n 1, 1) := by decide +kernel
theorem dX6_take_10 : decode cX6_take 10 = .ok (.getfield 15, 3) := by decide +kernel
theorem dX6_take_13 : decode cX6_take 13 = .ok (.putfield 15, 3) := by decide +kernel
theorem dX6_take_16 : decode cX6_take 16 = .ok (.aload_n 0, 1) := by decide +kernel
theorem dX6_take_17 : decode cX6_take 17 = .ok (.aload_n 1, 1) := by decide +kernel
theorem dX6_take_18 : decode cX6_take 18 = .ok (.getfield 18, 3) := by decide +kernel
theorem dX6_take_21 : decode cX6_take 21 = .ok (.putfield 18, 3) := by decide +kernel
theorem dX6_take_24 : decode cX6_take 24 = .ok (.aload_n 0, 1) := by decide +kernel
theorem dX6_take_25 : decode cX6_take 25 = .ok (.aload_n 1, 1) := by decide +kernel
theorem dX6_take_26 : decode cX6_take 26 = .ok (.getfield 21, 3) := by decide +kernel
theorem dX6_take_29 : decode cX6_take 29 = .ok (.putfield 21, 3) := by decide +kernel
theorem dX6_take_32 : decode cX6_take 32 = .ok (.return_, 1) := by decide +kernel
theorem dX6_tire_0 : decode cX6_tire 0 = .ok (.aload_n 0, 1) := by decide +kernel
theorem dX6_tire_1 : decode cX6_tire 1 = .ok (.iconst 0, 1) := by decide +kernel
theorem dX6_tire_2 : decode cX6_tire 2 = .ok (.aload_n 0, 1) := by decide +kernel
theorem dX6_tire_3 : decode cX6_tire 3 = .ok (.getfield 15, 3) := by decide +kernel
theorem dX6_tire_6 : decode cX6_tire 6 = .ok (.iload_n 1, 1) := by decide +kernel
theorem dX6_tire_7 : decode cX6_tire 7 = .ok (.isub, 1) := by decide +kernel
theorem dX6_tire_8 : decode cX6_tire 8 = .ok (.invokestatic 24, 3) := by decide +kernel
theorem dX6_tire_11 : decode cX6_tire 11 = .ok (.putfield 15, 3) := by decide +kernel
theorem dX6_tire_14 : decode cX6_tire 14 = .ok (.return_, 1) := by decide +kernel
theorem dX6_go_0 : decode cX6_go 0 = .ok (.aload_n 0, 1) := by decide +kernel
theorem dX6_go_1 : decode cX6_go 1 = .ok (.aload_n 0, 1) := by decide +kernel
theorem dX6_go_2 : decode cX6_go 2 = .ok (.getfield 9, 3) := by decide +kernel
theorem dX6_go_5 : decode cX6_go 5 = .ok (.iload_n 1, 1) := by decide +kernel
theorem dX6_go_6 : decode cX6_go 6 = .ok (.invokestatic 30, 3) := by decide +kernel
theorem dX6_go_9 : decode cX6_go 9 = .ok (.invokevirtual 33, 3) := by decide +kernel
theorem dX6_go_12 : decode cX6_go 12 = .ok (.aload_n 0, 1) := by decide +kernel
theorem dX6_go_13 : decode cX6_go 13 = .ok (.iload_n 1, 1) := by decide +kernel
theorem dX6_go_14 : decode cX6_go 14 = .ok (.putfield 9, 3) := by decide +kernel
theorem dX6_go_17 : decode cX6_go 17 = .ok (.return_, 1) := by decide +kernel
theorem dX6_value_0 : decode cX6_value 0 = .ok (.iload_n 1, 1) := by decide +kernel
theorem dX6_value_1 : decode cX6_value 1 = .ok (.tableswitch 42 0 2 #[27, 32, 37], 27) := by decide +kernel
theorem dX6_value_28 : decode cX6_value 28 = .ok (.aload_n 0, 1) := by decide +kernel
theorem dX6_value_29 : decode cX6_value 29 = .ok (.getfield 9, 3) := by decide +kernel
theorem dX6_value_32 : decode cX6_value 32 = .ok (.ireturn, 1) := by decide +kernel
theorem dX6_value_33 : decode cX6_value 33 = .ok (.aload_n 0, 1) := by decide +kernel
theorem dX6_value_34 : decode cX6_value 34 = .ok (.getfield 15, 3) := by decide +kernel
theorem dX6_value_37 : decode cX6_value 37 = .ok (.ireturn, 1) := by decide +kernel
theorem dX6_value_38 : decode cX6_value 38 = .ok (.aload_n 0, 1) := by decide +kernel
theorem dX6_value_39 : decode cX6_value 39 = .ok (.getfield 18, 3) := by decide +kernel
theorem dX6_value_42 : decode cX6_value 42 = .ok (.ireturn, 1) := by decide +kernel
theorem dX6_value_43 : decode cX6_value 43 = .ok (.aload_n 0, 1) := by decide +kernel
theorem dX6_value_44 : decode cX6_value 44 = .ok (.getfield 21, 3) := by decide +kernel
theorem dX6_value_47 : decode cX6_value 47 = .ok (.ireturn, 1) := by decide +kernel
theorem dX6_change_0 : decode cX6_change 0 = .ok (.aload_n 0, 1) := by decide +kernel
theorem dX6_change_1 : decode cX6_change 1 = .ok (.iload_n 1, 1) := by decide +kernel
theorem dX6_change_2 : decode cX6_change 2 = .ok (.invokevirtual 37, 3) := by decide +kernel
theorem dX6_change_5 : decode cX6_change 5 = .ok (.istore_n 3, 1) := by decide +kernel
theorem dX6_change_6 : decode cX6_change 6 = .ok (.iload_n 1, 1) := by decide +kernel
theorem dX6_change_7 : decode cX6_change 7 = .ok (.tableswitch 49 0 2 #[25, 33, 41], 25) := by decide +kernel
theorem dX6_change_32 : decode cX6_change 32 = .ok (.aload_n 0, 1) := by decide +kernel
theorem dX6_change_33 : decode cX6_change 33 = .ok (.iload_n 2, 1) := by decide +kernel
theorem dX6_change_34 : decode cX6_change 34 = .ok (.putfield 9, 3) := by decide +kernel
theorem dX6_change_37 : decode cX6_change 37 = .ok (.goto 24, 3) := by decide +kernel
theorem dX6_change_40 : decode cX6_change 40 = .ok (.aload_n 0, 1) := by decide +kernel
theorem dX6_change_41 : decode cX6_change 41 = .ok (.iload_n 2, 1) := by decide +kernel
theorem dX6_change_42 : decode cX6_change 42 = .ok (.putfield 15, 3) := by decide +kernel
theorem dX6_change_45 : decode cX6_change 45 = .ok (.goto 16, 3) := by decide +kernel
theorem dX6_change_48 : decode cX6_change 48 = .ok (.aload_n 0, 1) := by decide +kernel
theorem dX6_change_49 : decode cX6_change 49 = .ok (.iload_n 2, 1) := by decide +kernel
theorem dX6_change_50 : decode cX6_change 50 = .ok (.putfield 18, 3) := by decide +kernel
theorem dX6_change_53 : decode cX6_change 53 = .ok (.goto 8, 3) := by decide +kernel
theorem dX6_change_56 : decode cX6_change 56 = .ok (.aload_n 0, 1) := by decide +kernel
theorem dX6_change_57 : decode cX6_change 57 = .ok (.iload_n 2, 1) := by decide +kernel
theorem dX6_change_58 : decode cX6_change 58 = .ok (.putfield 21, 3) := by decide +kernel
theorem dX6_change_61 : decode cX6_change 61 = .ok (.iload_n 3, 1) := by decide +kernel
theorem dX6_change_62 : decode cX6_change 62 = .ok (.ireturn, 1) := by decide +kernel
theorem dX7_init_0 : decode cX7_init 0 = .ok (.aload_n 0, 1) := by decide +kernel
theorem dX7_init_1 : decode cX7_init 1 = .ok (.invokespecial 3, 3) := by decide +kernel
theorem dX7_init_4 : decode cX7_init 4 = .ok (.aload_n 0, 1) := by decide +kernel
theorem dX7_init_5 : decode cX7_init 5 = .ok (.bipush 40, 2) := by decide +kernel
theorem dX7_init_7 : decode cX7_init 7 = .ok (.newarray .int, 2) := by decide +kernel
theorem dX7_init_9 : decode cX7_init 9 = .ok (.putfield 9, 3) := by decide +kernel
theorem dX7_init_12 : decode cX7_init 12 = .ok (.aload_n 0, 1) := by decide +kernel
theorem dX7_init_13 : decode cX7_init 13 = .ok (.iconst (-1), 1) := by decide +kernel
theorem dX7_init_14 : decode cX7_init 14 = .ok (.putfield 15, 3) := by decide +kernel
theorem dX7_init_17 : decode cX7_init 17 = .ok (.aload_n 0, 1) := by decide +kernel
theorem dX7_init_18 : decode cX7_init 18 = .ok (.iconst 0, 1) := by decide +kernel
theorem dX7_init_19 : decode cX7_init 19 = .ok (.putfield 19, 3) := by decide +kernel
theorem dX7_init_22 : decode cX7_init 22 = .ok (.return_, 1) := by decide +kernel
theorem dX7_isMissing_0 : decode cX7_isMissing 0 = .ok (.aload_n 0, 1) := by decide +kernel
theorem dX7_isMissing_1 : decode cX7_isMissing 1 = .ok (.getfield 15, 3) := by decide +kernel
theorem dX7_isMissing_4 : decode cX7_isMissing 4 = .ok (.iconst (-1), 1) := by decide +kernel
theorem dX7_isMissing_5 : decode cX7_isMissing 5 = .ok (.if_icmp .ne 7, 3) := by decide +kernel
theorem dX7_isMissing_8 : decode cX7_isMissing 8 = .ok (.iconst 1, 1) := by decide +kernel
theorem dX7_isMissing_9 : decode cX7_isMissing 9 = .ok (.goto 4, 3) := by decide +kernel
theorem dX7_isMissing_12 : decode cX7_isMissing 12 = .ok (.iconst 0, 1) := by decide +kernel
theorem dX7_isMissing_13 : decode cX7_isMissing 13 = .ok (.ireturn, 1) := by decide +kernel
theorem dX7_holds_0 : decode cX7_holds 0 = .ok (.iload_n 1, 1) := by decide +kernel
theorem dX7_holds_1 : decode cX7_holds 1 = .ok (.ifCond .lt 29, 3) := by decide +kernel
theorem dX7_holds_4 : decode cX7_holds 4 = .ok (.iload_n 2, 1) := by decide +kernel
theorem dX7_holds_5 : decode cX7_holds 5 = .ok (.ifCond .lt 25, 3) := by decide +kernel
theorem dX7_holds_8 : decode cX7_holds 8 = .ok (.iload_n 2, 1) := by decide +kernel
theorem dX7_holds_9 : decode cX7_holds 9 = .ok (.aload_n 0, 1) := by decide +kernel
theorem dX7_holds_10 : decode cX7_holds 10 = .ok (.getfield 19, 3) := by decide +kernel
theorem dX7_holds_13 : decode cX7_holds 13 = .ok (.if_icmp .gt 17, 3) := by decide +kernel
theorem dX7_holds_16 : decode cX7_holds 16 = .ok (.iload_n 1, 1) := by decide +kernel
theorem dX7_holds_17 : decode cX7_holds 17 = .ok (.aload_n 0, 1) := by decide +kernel
theorem dX7_holds_18 : decode cX7_holds 18 = .ok (.getfield 19, 3) := by decide +kernel
theorem dX7_holds_21 : decode cX7_holds 21 = .ok (.iload_n 2, 1) := by decide +kernel
theorem dX7_holds_22 : decode cX7_holds 22 = .ok (.isub, 1) := by decide +kernel
theorem dX7_holds_23 : decode cX7_holds 23 = .ok (.if_icmp .gt 7, 3) := by decide +kernel
theorem dX7_holds_26 : decode cX7_holds 26 = .ok (.iconst 1, 1) := by decide +kernel
theorem dX7_holds_27 : decode cX7_holds 27 = .ok (.goto 4, 3) := by decide +kernel
theorem dX7_holds_30 : decode cX7_holds 30 = .ok (.iconst 0, 1) := by decide +kernel
theorem dX7_holds_31 : decode cX7_holds 31 = .ok (.ireturn, 1) := by decide +kernel
theorem dX7_become_0 : decode cX7_become 0 = .ok (.aload_n 0, 1) := by decide +kernel
theorem dX7_become_1 : decode cX7_become 1 = .ok (.iload_n 1, 1) := by decide +kernel
theorem dX7_become_2 : decode cX7_become 2 = .ok (.putfield 15, 3) := by decide +kernel
theorem dX7_become_5 : decode cX7_become 5 = .ok (.aload_n 0, 1) := by decide +kernel
theorem dX7_become_6 : decode cX7_become 6 = .ok (.iload_n 2, 1) := by decide +kernel
theorem dX7_become_7 : decode cX7_become 7 = .ok (.bipush 40, 2) := by decide +kernel
theorem dX7_become_9 : decode cX7_become 9 = .ok (.invokestatic 22, 3) := by decide +kernel
theorem dX7_become_12 : decode cX7_become 12 = .ok (.putfield 19, 3) := by decide +kernel
theorem dX7_become_15 : decode cX7_become 15 = .ok (.iconst 0, 1) := by decide +kernel
theorem dX7_become_16 : decode cX7_become 16 = .ok (.istore_n 3, 1) := by decide +kernel
theorem dX7_become_17 : decode cX7_become 17 = .ok (.iload_n 3, 1) := by decide +kernel
theorem dX7_become_18 : decode cX7_become 18 = .ok (.aload_n 0, 1) := by decide +kernel
theorem dX7_become_19 : decode cX7_become 19 = .ok (.getfield 9, 3) := by decide +kernel
theorem dX7_become_22 : decode cX7_become 22 = .ok (.arraylength, 1) := by decide +kernel
theorem dX7_become_23 : decode cX7_become 23 = .ok (.if_icmp .ge 16, 3) := by decide +kernel
theorem dX7_become_26 : decode cX7_become 26 = .ok (.aload_n 0, 1) := by decide +kernel
theorem dX7_become_27 : decode cX7_become 27 = .ok (.getfield 9, 3) := by decide +kernel
theorem dX7_become_30 : decode cX7_become 30 = .ok (.iload_n 3, 1) := by decide +kernel
theorem dX7_become_31 : decode cX7_become 31 = .ok (.iconst 0, 1) := by decide +kernel
theorem dX7_become_32 : decode cX7_become 32 = .ok (.iastore, 1) := by decide +kernel
theorem dX7_become_33 : decode cX7_become 33 = .ok (.iinc 3 1, 3) := by decide +kernel
theorem dX7_become_36 : decode cX7_become 36 = .ok (.goto (-19), 3) := by decide +kernel
theorem dX7_become_39 : decode cX7_become 39 = .ok (.return_, 1) := by decide +kernel
theorem dX7_item_0 : decode cX7_item 0 = .ok (.iload_n 1, 1) := by decide +kernel
theorem dX7_item_1 : decode cX7_item 1 = .ok (.ifCond .lt 20, 3) := by decide +kernel
theorem dX7_item_4 : decode cX7_item 4 = .ok (.iload_n 1, 1) := by decide +kernel
theorem dX7_item_5 : decode cX7_item 5 = .ok (.aload_n 0, 1) := by decide +kernel
theorem dX7_item_6 : decode cX7_item 6 = .ok (.getfield 19, 3) := by decide +kernel
theorem dX7_item_9 : decode cX7_item 9 = .ok (.if_icmp .ge 12, 3) := by decide +kernel
theorem dX7_item_12 : decode cX7_item 12 = .ok (.iload_n 1, 1) := by decide +kernel
theorem dX7_item_13 : decode cX7_item 13 = .ok (.aload_n 0, 1) := by decide +kernel
theorem dX7_item_14 : decode cX7_item 14 = .ok (.getfield 9, 3) := by decide +kernel
theorem dX7_item_17 : decode cX7_item 17 = .ok (.arraylength, 1) := by decide +kernel
theorem dX7_item_18 : decode cX7_item 18 = .ok (.if_icmp .lt 7, 3) := by decide +kernel
theorem dX7_item_21 : decode cX7_item 21 = .ok (.iconst (-1), 1) := by decide +kernel
theorem dX7_item_22 : decode cX7_item 22 = .ok (.goto 9, 3) := by decide +kernel
theorem dX7_item_25 : decode cX7_item 25 = .ok (.aload_n 0, 1) := by decide +kernel
theorem dX7_item_26 : decode cX7_item 26 = .ok (.getfield 9, 3) := by decide +kernel
theorem dX7_item_29 : decode cX7_item 29 = .ok (.iload_n 1, 1) := by decide +kernel
theorem dX7_item_30 : decode cX7_item 30 = .ok (.iaload, 1) := by decide +kernel
theorem dX7_item_31 : decode cX7_item 31 = .ok (.ireturn, 1) := by decide +kernel
theorem dX7_put_0 : decode cX7_put 0 = .ok (.iload_n 1, 1) := by decide +kernel
theorem dX7_put_1 : decode cX7_put 1 = .ok (.ifCond .lt 52, 3) := by decide +kernel
theorem dX7_put_4 : decode cX7_put 4 = .ok (.iload_n 1, 1) := by decide +kernel
theorem dX7_put_5 : decode cX7_put 5 = .ok (.aload_n 0, 1) := by decide +kernel
theorem dX7_put_6 : decode cX7_put 6 = .ok (.getfield 19, 3) := by decide +kernel
theorem dX7_put_9 : decode cX7_put 9 = .ok (.if_icmp .ge 44, 3) := by decide +kernel
theorem dX7_put_12 : decode cX7_put 12 = .ok (.iload_n 1, 1) := by decide +kernel
theorem dX7_put_13 : decode cX7_put 13 = .ok (.aload_n 0, 1) := by decide +kernel
theorem dX7_put_14 : decode cX7_put 14 = .ok (.getfield 9, 3) := by decide +kernel
theorem dX7_put_17 : decode cX7_put 17 = .ok (.arraylength, 1) := by decide +kernel
theorem dX7_put_18 : decode cX7_put 18 = .ok (.if_icmp .ge 35, 3) := by decide +kernel
theorem dX7_put_21 : decode cX7_put 21 = .ok (.aload_n 0, 1) := by decide +kernel
theorem dX7_put_22 : decode cX7_put 22 = .ok (.getfield 9, 3) := by decide +kernel
theorem dX7_put_25 : decode cX7_put 25 = .ok (.iload_n 1, 1) := by decide +kernel
theorem dX7_put_26 : decode cX7_put 26 = .ok (.aload_n 0, 1) := by decide +kernel
theorem dX7_put_27 : decode cX7_put 27 = .ok (.getfield 15, 3) := by decide +kernel
theorem dX7_put_30 : decode cX7_put 30 = .ok (.ifCond .ne 8, 3) := by decide +kernel
theorem dX7_put_33 : decode cX7_put 33 = .ok (.iload_n 2, 1) := by decide +kernel
theorem dX7_put_34 : decode cX7_put 34 = .ok (.i2b, 1) := by decide +kernel
theorem dX7_put_35 : decode cX7_put 35 = .ok (.goto 17, 3) := by decide +kernel
theorem dX7_put_38 : decode cX7_put 38 = .ok (.aload_n 0, 1) := by decide +kernel
theorem dX7_put_39 : decode cX7_put 39 = .ok (.getfield 15, 3) := by decide +kernel
theorem dX7_put_42 : decode cX7_put 42 = .ok (.iconst 1, 1) := by decide +kernel
theorem dX7_put_43 : decode cX7_put 43 = .ok (.if_icmp .ne 8, 3) := by decide +kernel
theorem dX7_put_46 : decode cX7_put 46 = .ok (.iload_n 2, 1) := by decide +kernel
theorem dX7_put_47 : decode cX7_put 47 = .ok (.i2s, 1) := by decide +kernel
theorem dX7_put_48 : decode cX7_put 48 = .ok (.goto 4, 3) := by decide +kernel
theorem dX7_put_51 : decode cX7_put 51 = .ok (.iload_n 2, 1) := by decide +kernel
theorem dX7_put_52 : decode cX7_put 52 = .ok (.iastore, 1) := by decide +kernel
theorem dX7_put_53 : decode cX7_put 53 = .ok (.return_, 1) := by decide +kernel
theorem dX8_init_0 : decode cX8_init 0 = .ok (.aload_n 0, 1) := by decide +kernel
theorem dX8_init_1 : decode cX8_init 1 = .ok (.invokespecial 3, 3) := by decide +kernel
theorem dX8_init_4 : decode cX8_init 4 = .ok (.aload_n 0, 1) := by decide +kernel
theorem dX8_init_5 : decode cX8_init 5 = .ok (.iload_n 1, 1) := by decide +kernel
theorem dX8_init_6 : decode cX8_init 6 = .ok (.putfield 9, 3) := by decide +kernel
theorem dX8_init_9 : decode cX8_init 9 = .ok (.aload_n 0, 1) := by decide +kernel
theorem dX8_init_10 : decode cX8_init 10 = .ok (.iload_n 2, 1) := by decide +kernel
theorem dX8_init_11 : decode cX8_init 11 = .ok (.putfield 15, 3) := by decide +kernel
theorem dX8_init_14 : decode cX8_init 14 = .ok (.return_, 1) := by decide +kernel
theorem dX8_kind_0 : decode cX8_kind 0 = .ok (.iconst 0, 1) := by decide +kernel
theorem dX8_kind_1 : decode cX8_kind 1 = .ok (.ireturn, 1) := by decide +kernel
theorem dX8_comes_0 : decode cX8_comes 0 = .ok (.aload_n 0, 1) := by decide +kernel
theorem dX8_comes_1 : decode cX8_comes 1 = .ok (.getfield 15, 3) := by decide +kernel
theorem dX8_comes_4 : decode cX8_comes 4 = .ok (.ireturn, 1) := by decide +kernel
theorem dX8_flight_0 : decode cX8_flight 0 = .ok (.iload_n 1, 1) := by decide +kernel
theorem dX8_flight_1 : decode cX8_flight 1 = .ok (.ireturn, 1) := by decide +kernel
theorem dX8_spends_0 : decode cX8_spends 0 = .ok (.iconst 1, 1) := by decide +kernel
theorem dX8_spends_1 : decode cX8_spends 1 = .ok (.ireturn, 1) := by decide +kernel
theorem dX8_value_0 : decode cX8_value 0 = .ok (.iload_n 1, 1) := by decide +kernel
theorem dX8_value_1 : decode cX8_value 1 = .ok (.iconst 4, 1) := by decide +kernel
theorem dX8_value_2 : decode cX8_value 2 = .ok (.if_icmp .ne 10, 3) := by decide +kernel
theorem dX8_value_5 : decode cX8_value 5 = .ok (.aload_n 0, 1) := by decide +kernel
theorem dX8_value_6 : decode cX8_value 6 = .ok (.getfield 9, 3) := by decide +kernel
theorem dX8_value_9 : decode cX8_value 9 = .ok (.goto 7, 3) := by decide +kernel
theorem dX8_value_12 : decode cX8_value 12 = .ok (.aload_n 0, 1) := by decide +kernel
theorem dX8_value_13 : decode cX8_value 13 = .ok (.getfield 15, 3) := by decide +kernel
theorem dX8_value_16 : decode cX8_value 16 = .ok (.ireturn, 1) := by decide +kernel
theorem dX8_change_0 : decode cX8_change 0 = .ok (.aload_n 0, 1) := by decide +kernel
theorem dX8_change_1 : decode cX8_change 1 = .ok (.iload_n 1, 1) := by decide +kernel
theorem dX8_change_2 : decode cX8_change 2 = .ok (.invokevirtual 18, 3) := by decide +kernel
theorem dX8_change_5 : decode cX8_change 5 = .ok (.istore_n 3, 1) := by decide +kernel
theorem dX8_change_6 : decode cX8_change 6 = .ok (.iload_n 1, 1) := by decide +kernel
theorem dX8_change_7 : decode cX8_change 7 = .ok (.iconst 4, 1) := by decide +kernel
theorem dX8_change_8 : decode cX8_change 8 = .ok (.if_icmp .ne 11, 3) := by decide +kernel
theorem dX8_change_11 : decode cX8_change 11 = .ok (.aload_n 0, 1) := by decide +kernel
theorem dX8_change_12 : decode cX8_change 12 = .ok (.iload_n 2, 1) := by decide +kernel
theorem dX8_change_13 : decode cX8_change 13 = .ok (.putfield 9, 3) := by decide +kernel
theorem dX8_change_16 : decode cX8_change 16 = .ok (.goto 8, 3) := by decide +kernel
theorem dX8_change_19 : decode cX8_change 19 = .ok (.aload_n 0, 1) := by decide +kernel
theorem dX8_change_20 : decode cX8_change 20 = .ok (.iload_n 2, 1) := by decide +kernel
theorem dX8_change_21 : decode cX8_change 21 = .ok (.putfield 15, 3) := by decide +kernel
theorem dX8_change_24 : decode cX8_change 24 = .ok (.iload_n 3, 1) := by decide +kernel
theorem dX8_change_25 : decode cX8_change 25 = .ok (.ireturn, 1) := by decide +kernel
theorem dX9_init_0 : decode cX9_init 0 = .ok (.aload_n 0, 1) := by decide +kernel
theorem dX9_init_1 : decode cX9_init 1 = .ok (.invokespecial 3, 3) := by decide +kernel
theorem dX9_init_4 : decode cX9_init 4 = .ok (.aload_n 0, 1) := by decide +kernel
theorem dX9_init_5 : decode cX9_init 5 = .ok (.sipush 160, 3) := by decide +kernel
theorem dX9_init_8 : decode cX9_init 8 = .ok (.newarray .int, 2) := by decide +kernel
theorem dX9_init_10 : decode cX9_init 10 = .ok (.putfield 9, 3) := by decide +kernel
theorem dX9_init_13 : decode cX9_init 13 = .ok (.aload_n 0, 1) := by decide +kernel
theorem dX9_init_14 : decode cX9_init 14 = .ok (.iconst 0, 1) := by decide +kernel
theorem dX9_init_15 : decode cX9_init 15 = .ok (.putfield 15, 3) := by decide +kernel
theorem dX9_init_18 : decode cX9_init 18 = .ok (.aload_n 0, 1) := by decide +kernel
theorem dX9_init_19 : decode cX9_init 19 = .ok (.aconst_null, 1) := by decide +kernel
theorem dX9_init_20 : decode cX9_init 20 = .ok (.putfield 19, 3) := by decide +kernel
theorem dX9_init_23 : decode cX9_init 23 = .ok (.aload_n 0, 1) := by decide +kernel
theorem dX9_init_24 : decode cX9_init 24 = .ok (.iconst 0, 1) := by decide +kernel
theorem dX9_init_25 : decode cX9_init 25 = .ok (.putfield 23, 3) := by decide +kernel
theorem dX9_init_28 : decode cX9_init 28 = .ok (.aload_n 0, 1) := by decide +kernel
theorem dX9_init_29 : decode cX9_init 29 = .ok (.iconst 0, 1) := by decide +kernel
theorem dX9_init_30 : decode cX9_init 30 = .ok (.putfield 26, 3) := by decide +kernel
theorem dX9_init_33 : decode cX9_init 33 = .ok (.aload_n 0, 1) := by decide +kernel
theorem dX9_init_34 : decode cX9_init 34 = .ok (.iconst 0, 1) := by decide +kernel
theorem dX9_init_35 : decode cX9_init 35 = .ok (.putfield 29, 3) := by decide +kernel
theorem dX9_init_38 : decode cX9_init 38 = .ok (.aload_n 0, 1) := by decide +kernel
theorem dX9_init_39 : decode cX9_init 39 = .ok (.iconst 0, 1) := by decide +kernel
theorem dX9_init_40 : decode cX9_init 40 = .ok (.putfield 32, 3) := by decide +kernel
theorem dX9_init_43 : decode cX9_init 43 = .ok (.aload_n 0, 1) := by decide +kernel
theorem dX9_init_44 : decode cX9_init 44 = .ok (.iconst (-1), 1) := by decide +kernel
theorem dX9_init_45 : decode cX9_init 45 = .ok (.putfield 35, 3) := by decide +kernel
theorem dX9_init_48 : decode cX9_init 48 = .ok (.return_, 1) := by decide +kernel
theorem dX9_add_0 : decode cX9_add 0 = .ok (.aload_n 0, 1) := by decide +kernel
theorem dX9_add_1 : decode cX9_add 1 = .ok (.getfield 15, 3) := by decide +kernel
theorem dX9_add_4 : decode cX9_add 4 = .ok (.aload_n 0, 1) := by decide +kernel
theorem dX9_add_5 : decode cX9_add 5 = .ok (.getfield 9, 3) := by decide +kernel
theorem dX9_add_8 : decode cX9_add 8 = .ok (.arraylength, 1) := by decide +kernel
theorem dX9_add_9 : decode cX9_add 9 = .ok (.if_icmp .lt 5, 3) := by decide +kernel
theorem dX9_add_12 : decode cX9_add 12 = .ok (.iconst 0, 1) := by decide +kernel
theorem dX9_add_13 : decode cX9_add 13 = .ok (.ireturn, 1) := by decide +kernel
theorem dX9_add_14 : decode cX9_add 14 = .ok (.aload_n 0, 1) := by decide +kernel
theorem dX9_add_15 : decode cX9_add 15 = .ok (.getfield 9, 3) := by decide +kernel
theorem dX9_add_18 : decode cX9_add 18 = .ok (.aload_n 0, 1) := by decide +kernel
theorem dX9_add_19 : decode cX9_add 19 = .ok (.getfield 15, 3) := by decide +kernel
theorem dX9_add_22 : decode cX9_add 22 = .ok (.iload_n 1, 1) := by decide +kernel
theorem dX9_add_23 : decode cX9_add 23 = .ok (.iastore, 1) := by decide +kernel
theorem dX9_add_24 : decode cX9_add 24 = .ok (.aload_n 0, 1) := by decide +kernel
theorem dX9_add_25 : decode cX9_add 25 = .ok (.dup, 1) := by decide +kernel
theorem dX9_add_26 : decode cX9_add 26 = .ok (.getfield 15, 3) := by decide +kernel
theorem dX9_add_29 : decode cX9_add 29 = .ok (.iconst 1, 1) := by decide +kernel
theorem dX9_add_30 : decode cX9_add 30 = .ok (.iadd, 1) := by decide +kernel
theorem dX9_add_31 : decode cX9_add 31 = .ok (.putfield 15, 3) := by decide +kernel
theorem dX9_add_34 : decode cX9_add 34 = .ok (.iconst 1, 1) := by decide +kernel
theorem dX9_add_35 : decode cX9_add 35 = .ok (.ireturn, 1) := by decide +kernel
theorem dX9_write_0 : decode cX9_write 0 = .ok (.iconst 0, 1) := by decide +kernel
theorem dX9_write_1 : decode cX9_write 1 = .ok (.istore_n 2, 1) := by decide +kernel
theorem dX9_write_2 : decode cX9_write 2 = .ok (.iload_n 2, 1) := by decide +kernel
theorem dX9_write_3 : decode cX9_write 3 = .ok (.aload_n 1, 1) := by decide +kernel
theorem dX9_write_4 : decode cX9_write 4 = .ok (.invokevirtual 38, 3) := by decide +kernel
theorem dX9_write_7 : decode cX9_write 7 = .ok (.if_icmp .ge 19, 3) := by decide +kernel
theorem dX9_write_10 : decode cX9_write 10 = .ok (.aload_n 0, 1) := by decide +kernel
theorem dX9_write_11 : decode cX9_write 11 = .ok (.aload_n 1, 1) := by decide +kernel
theorem dX9_write_12 : decode cX9_write 12 = .ok (.iload_n 2, 1) := by decide +kernel
theorem dX9_write_13 : decode cX9_write 13 = .ok (.invokevirtual 44, 3) := by decide +kernel
theorem dX9_write_16 : decode cX9_write 16 = .ok (.invokevirtual 48, 3) := by decide +kernel
theorem dX9_write_19 : decode cX9_write 19 = .ok (.pop, 1) := by decide +kernel
theorem dX9_write_20 : decode cX9_write 20 = .ok (.iinc 2 1, 3) := by decide +kernel
theorem dX9_write_23 : decode cX9_write 23 = .ok (.goto (-21), 3) := by decide +kernel
theorem dX9_write_26 : decode cX9_write 26 = .ok (.return_, 1) := by decide +kernel
theorem dX9_readInto_0 : decode cX9_readInto 0 = .ok (.aload_n 0, 1) := by decide +kernel
theorem dX9_readInto_1 : decode cX9_readInto 1 = .ok (.aload_n 1, 1) := by decide +kernel
theorem dX9_readInto_2 : decode cX9_readInto 2 = .ok (.putfield 19, 3) := by decide +kernel
theorem dX9_readInto_5 : decode cX9_readInto 5 = .ok (.aload_n 1, 1) := by decide +kernel
theorem dX9_readInto_6 : decode cX9_readInto 6 = .ok (.invokevirtual 52, 3) := by decide +kernel
theorem dX9_readInto_9 : decode cX9_readInto 9 = .ok (.aload_n 0, 1) := by decide +kernel
theorem dX9_readInto_10 : decode cX9_readInto 10 = .ok (.iconst 0, 1) := by decide +kernel
theorem dX9_readInto_11 : decode cX9_readInto 11 = .ok (.putfield 23, 3) := by decide +kernel
theorem dX9_readInto_14 : decode cX9_readInto 14 = .ok (.aload_n 0, 1) := by decide +kernel
theorem dX9_readInto_15 : decode cX9_readInto 15 = .ok (.iconst (-1), 1) := by decide +kernel
theorem dX9_readInto_16 : decode cX9_readInto 16 = .ok (.putfield 35, 3) := by decide +kernel
theorem dX9_readInto_19 : decode cX9_readInto 19 = .ok (.aload_n 0, 1) := by decide +kernel
theorem dX9_readInto_20 : decode cX9_readInto 20 = .ok (.invokevirtual 57, 3) := by decide +kernel
theorem dX9_readInto_23 : decode cX9_readInto 23 = .ok (.iconst 0, 1) := by decide +kernel
theorem dX9_readInto_24 : decode cX9_readInto 24 = .ok (.istore_n 2, 1) := by decide +kernel
theorem dX9_readInto_25 : decode cX9_readInto 25 = .ok (.iload_n 2, 1) := by decide +kernel
theorem dX9_readInto_26 : decode cX9_readInto 26 = .ok (.iconst 2, 1) := by decide +kernel
theorem dX9_readInto_27 : decode cX9_readInto 27 = .ok (.if_icmp .gt 32, 3) := by decide +kernel
theorem dX9_readInto_30 : decode cX9_readInto 30 = .ok (.aload_n 0, 1) := by decide +kernel
theorem dX9_readInto_31 : decode cX9_readInto 31 = .ok (.iconst 3, 1) := by decide +kernel
theorem dX9_readInto_32 : decode cX9_readInto 32 = .ok (.iload_n 2, 1) := by decide +kernel
theorem dX9_readInto_33 : decode cX9_readInto 33 = .ok (.iadd, 1) := by decide +kernel
theorem dX9_readInto_34 : decode cX9_readInto 34 = .ok (.invokevirtual 60, 3) := by decide +kernel
theorem dX9_readInto_37 : decode cX9_readInto 37 = .ok (.aload_n 0, 1) := by decide +kernel
theorem dX9_readInto_38 : decode cX9_readInto 38 = .ok (.iconst 0, 1) := by decide +kernel
theorem dX9_readInto_39 : decode cX9_readInto 39 = .ok (.invokevirtual 64, 3) := by decide +kernel
theorem dX9_readInto_42 : decode cX9_readInto 42 = .ok (.aload_n 0, 1) := by decide +kernel
theorem dX9_readInto_43 : decode cX9_readInto 43 = .ok (.bipush 59, 2) := by decide +kernel
theorem dX9_readInto_45 : decode cX9_readInto 45 = .ok (.invokevirtual 60, 3) := by decide +kernel
theorem dX9_readInto_48 : decode cX9_readInto 48 = .ok (.aload_n 1, 1) := by decide +kernel
theorem dX9_readInto_49 : decode cX9_readInto 49 = .ok (.iload_n 2, 1) := by decide +kernel
theorem dX9_readInto_50 : decode cX9_readInto 50 = .ok (.invokevirtual 67, 3) := by decide +kernel
theorem dX9_readInto_53 : decode cX9_readInto 53 = .ok (.iinc 2 1, 3) := by decide +kernel
theorem dX9_readInto_56 : decode cX9_readInto 56 = .ok (.goto (-31), 3) := by decide +kernel
theorem dX9_readInto_59 : decode cX9_readInto 59 = .ok (.aload_n 0, 1) := by decide +kernel
theorem dX9_readInto_60 : decode cX9_readInto 60 = .ok (.getfield 29, 3) := by decide +kernel
theorem dX9_readInto_63 : decode cX9_readInto 63 = .ok (.ifCond .eq 7, 3) := by decide +kernel
theorem dX9_readInto_66 : decode cX9_readInto 66 = .ok (.aload_n 0, 1) := by decide +kernel
theorem dX9_readInto_67 : decode cX9_readInto 67 = .ok (.invokevirtual 70, 3) := by decide +kernel
theorem dX9_readInto_70 : decode cX9_readInto 70 = .ok (.aload_n 0, 1) := by decide +kernel
theorem dX9_readInto_71 : decode cX9_readInto 71 = .ok (.getfield 35, 3) := by decide +kernel
theorem dX9_readInto_74 : decode cX9_readInto 74 = .ok (.ireturn, 1) := by decide +kernel
theorem dX9_fail_0 : decode cX9_fail 0 = .ok (.aload_n 0, 1) := by decide +kernel
theorem dX9_fail_1 : decode cX9_fail 1 = .ok (.aload_n 0, 1) := by decide +kernel
theorem dX9_fail_2 : decode cX9_fail 2 = .ok (.getfield 26, 3) := by decide +kernel
theorem dX9_fail_5 : decode cX9_fail 5 = .ok (.putfield 35, 3) := by decide +kernel
theorem dX9_fail_8 : decode cX9_fail 8 = .ok (.aload_n 0, 1) := by decide +kernel
theorem dX9_fail_9 : decode cX9_fail 9 = .ok (.bipush 9, 2) := by decide +kernel
theorem dX9_fail_11 : decode cX9_fail 11 = .ok (.putfield 29, 3) := by decide +kernel
theorem dX9_fail_14 : decode cX9_fail 14 = .ok (.return_, 1) := by decide +kernel
theorem dX9_expect_0 : decode cX9_expect 0 = .ok (.aload_n 0, 1) := by decide +kernel
theorem dX9_expect_1 : decode cX9_expect 1 = .ok (.getfield 29, 3) := by decide +kernel
theorem dX9_expect_4 : decode cX9_expect 4 = .ok (.iload_n 1, 1) := by decide +kernel
theorem dX9_expect_5 : decode cX9_expect 5 = .ok (.if_icmp .ne 10, 3) := by decide +kernel
theorem dX9_expect_8 : decode cX9_expect 8 = .ok (.aload_n 0, 1) := by decide +kernel
theorem dX9_expect_9 : decode cX9_expect 9 = .ok (.invokevirtual 57, 3) := by decide +kernel
theorem dX9_expect_12 : decode cX9_expect 12 = .ok (.goto 7, 3) := by decide +kernel
theorem dX9_expect_15 : decode cX9_expect 15 = .ok (.aload_n 0, 1) := by decide +kernel
theorem dX9_expect_16 : decode cX9_expect 16 = .ok (.invokevirtual 70, 3) := by decide +kernel
theorem dX9_expect_19 : decode cX9_expect 19 = .ok (.return_, 1) := by decide +kernel
theorem dX9_emit_0 : decode cX9_emit 0 = .ok (.aload_n 0, 1) := by decide +kernel
theorem dX9_emit_1 : decode cX9_emit 1 = .ok (.getfield 19, 3) := by decide +kernel
theorem dX9_emit_4 : decode cX9_emit 4 = .ok (.ifnull 11, 3) := by decide +kernel
theorem dX9_emit_7 : decode cX9_emit 7 = .ok (.aload_n 0, 1) := by decide +kernel
theorem dX9_emit_8 : decode cX9_emit 8 = .ok (.getfield 19, 3) := by decide +kernel
theorem dX9_emit_11 : decode cX9_emit 11 = .ok (.iload_n 1, 1) := by decide +kernel
theorem dX9_emit_12 : decode cX9_emit 12 = .ok (.invokevirtual 73, 3) := by decide +kernel
theorem dX9_emit_15 : decode cX9_emit 15 = .ok (.return_, 1) := by decide +kernel
theorem dX9_readEither_0 : decode cX9_readEither 0 = .ok (.aload_n 0, 1) := by decide +kernel
theorem dX9_readEither_1 : decode cX9_readEither 1 = .ok (.iload_n 1, 1) := by decide +kernel
theorem dX9_readEither_2 : decode cX9_readEither 2 = .ok (.invokevirtual 75, 3) := by decide +kernel
theorem dX9_readEither_5 : decode cX9_readEither 5 = .ok (.iconst 0, 1) := by decide +kernel
theorem dX9_readEither_6 : decode cX9_readEither 6 = .ok (.istore_n 2, 1) := by decide +kernel
theorem dX9_readEither_7 : decode cX9_readEither 7 = .ok (.iload_n 2, 1) := by decide +kernel
theorem dX9_readEither_8 : decode cX9_readEither 8 = .ok (.sipush 160, 3) := by decide +kernel
theorem dX9_readEither_11 : decode cX9_readEither 11 = .ok (.if_icmp .ge 33, 3) := by decide +kernel
theorem dX9_readEither_14 : decode cX9_readEither 14 = .ok (.aload_n 0, 1) := by decide +kernel
theorem dX9_readEither_15 : decode cX9_readEither 15 = .ok (.getfield 29, 3) := by decide +kernel
theorem dX9_readEither_18 : decode cX9_readEither 18 = .ok (.bipush 6, 2) := by decide +kernel
theorem dX9_readEither_20 : decode cX9_readEither 20 = .ok (.if_icmp .ne 24, 3) := by decide +kernel
theorem dX9_readEither_23 : decode cX9_readEither 23 = .ok (.aload_n 0, 1) := by decide +kernel
theorem dX9_readEither_24 : decode cX9_readEither 24 = .ok (.invokevirtual 57, 3) := by decide +kernel
theorem dX9_readEither_27 : decode cX9_readEither 27 = .ok (.aload_n 0, 1) := by decide +kernel
theorem dX9_readEither_28 : decode cX9_readEither 28 = .ok (.iload_n 1, 1) := by decide +kernel
theorem dX9_readEither_29 : decode cX9_readEither 29 = .ok (.invokevirtual 75, 3) := by decide +kernel
theorem dX9_readEither_32 : decode cX9_readEither 32 = .ok (.aload_n 0, 1) := by decide +kernel
theorem dX9_readEither_33 : decode cX9_readEither 33 = .ok (.bipush (-9), 2) := by decide +kernel
theorem dX9_readEither_35 : decode cX9_readEither 35 = .ok (.invokevirtual 78, 3) := by decide +kernel
theorem dX9_readEither_38 : decode cX9_readEither 38 = .ok (.iinc 2 1, 3) := by decide +kernel
theorem dX9_readEither_41 : decode cX9_readEither 41 = .ok (.goto (-34), 3) := by decide +kernel
theorem dX9_readEither_44 : decode cX9_readEither 44 = .ok (.return_, 1) := by decide +kernel
theorem dX9_readBoth_0 : decode cX9_readBoth 0 = .ok (.aload_n 0, 1) := by decide +kernel
theorem dX9_readBoth_1 : decode cX9_readBoth 1 = .ok (.iload_n 1, 1) := by decide +kernel
theorem dX9_readBoth_2 : decode cX9_readBoth 2 = .ok (.invokevirtual 81, 3) := by decide +kernel
theorem dX9_readBoth_5 : decode cX9_readBoth 5 = .ok (.iconst 0, 1) := by decide +kernel
theorem dX9_readBoth_6 : decode cX9_readBoth 6 = .ok (.istore_n 2, 1) := by decide +kernel
theorem dX9_readBoth_7 : decode cX9_readBoth 7 = .ok (.iload_n 2, 1) := by decide +kernel
theorem dX9_readBoth_8 : decode cX9_readBoth 8 = .ok (.sipush 160, 3) := by decide +kernel
theorem dX9_readBoth_11 : decode cX9_readBoth 11 = .ok (.if_icmp .ge 33, 3) := by decide +kernel
theorem dX9_readBoth_14 : decode cX9_readBoth 14 = .ok (.aload_n 0, 1) := by decide +kernel
theorem dX9_readBoth_15 : decode cX9_readBoth 15 = .ok (.getfield 29, 3) := by decide +kernel
theorem dX9_readBoth_18 : decode cX9_readBoth 18 = .ok (.bipush 7, 2) := by decide +kernel
theorem dX9_readBoth_20 : decode cX9_readBoth 20 = .ok (.if_icmp .ne 24, 3) := by decide +kernel
theorem dX9_readBoth_23 : decode cX9_readBoth 23 = .ok (.aload_n 0, 1) := by decide +kernel
theorem dX9_readBoth_24 : decode cX9_readBoth 24 = .ok (.invokevirtual 57, 3) := by decide +kernel
theorem dX9_readBoth_27 : decode cX9_readBoth 27 = .ok (.aload_n 0, 1) := by decide +kernel
theorem dX9_readBoth_28 : decode cX9_readBoth 28 = .ok (.iload_n 1, 1) := by decide +kernel
theorem dX9_readBoth_29 : decode cX9_readBoth 29 = .ok (.invokevirtual 81, 3) := by decide +kernel
theorem dX9_readBoth_32 : decode cX9_readBoth 32 = .ok (.aload_n 0, 1) := by decide +kernel
theorem dX9_readBoth_33 : decode cX9_readBoth 33 = .ok (.bipush (-10), 2) := by decide +kernel
theorem dX9_readBoth_35 : decode cX9_readBoth 35 = .ok (.invokevirtual 78, 3) := by decide +kernel
theorem dX9_readBoth_38 : decode cX9_readBoth 38 = .ok (.iinc 2 1, 3) := by decide +kernel
theorem dX9_readBoth_41 : decode cX9_readBoth 41 = .ok (.goto (-34), 3) := by decide +kernel
theorem dX9_readBoth_44 : decode cX9_readBoth 44 = .ok (.return_, 1) := by decide +kernel
theorem dX9_readNot_0 : decode cX9_readNot 0 = .ok (.aload_n 0, 1) := by decide +kernel
theorem dX9_readNot_1 : decode cX9_readNot 1 = .ok (.getfield 29, 3) := by decide +kernel
theorem dX9_readNot_4 : decode cX9_readNot 4 = .ok (.bipush 8, 2) := by decide +kernel
theorem dX9_readNot_6 : decode cX9_readNot 6 = .ok (.if_icmp .ne 25, 3) := by decide +kernel
theorem dX9_readNot_9 : decode cX9_readNot 9 = .ok (.aload_n 0, 1) := by decide +kernel
theorem dX9_readNot_10 : decode cX9_readNot 10 = .ok (.iload_n 1, 1) := by decide +kernel
theorem dX9_readNot_11 : decode cX9_readNot 11 = .ok (.invokevirtual 84, 3) := by decide +kernel
theorem dX9_readNot_14 : decode cX9_readNot 14 = .ok (.ifCond .eq 16, 3) := by decide +kernel
theorem dX9_readNot_17 : decode cX9_readNot 17 = .ok (.aload_n 0, 1) := by decide +kernel
theorem dX9_readNot_18 : decode cX9_readNot 18 = .ok (.iload_n 1, 1) := by decide +kernel
theorem dX9_readNot_19 : decode cX9_readNot 19 = .ok (.iconst 1, 1) := by decide +kernel
theorem dX9_readNot_20 : decode cX9_readNot 20 = .ok (.iadd, 1) := by decide +kernel
theorem dX9_readNot_21 : decode cX9_readNot 21 = .ok (.invokevirtual 81, 3) := by decide +kernel
theorem dX9_readNot_24 : decode cX9_readNot 24 = .ok (.aload_n 0, 1) := by decide +kernel
theorem dX9_readNot_25 : decode cX9_readNot 25 = .ok (.bipush (-7), 2) := by decide +kernel
theorem dX9_readNot_27 : decode cX9_readNot 27 = .ok (.invokevirtual 78, 3) := by decide +kernel
theorem dX9_readNot_30 : decode cX9_readNot 30 = .ok (.return_, 1) := by decide +kernel
theorem dX9_readNot_31 : decode cX9_readNot 31 = .ok (.aload_n 0, 1) := by decide +kernel
theorem dX9_readNot_32 : decode cX9_readNot 32 = .ok (.iload_n 1, 1) := by decide +kernel
theorem dX9_readNot_33 : decode cX9_readNot 33 = .ok (.invokevirtual 87, 3) := by decide +kernel
theorem dX9_readNot_36 : decode cX9_readNot 36 = .ok (.aload_n 0, 1) := by decide +kernel
theorem dX9_readNot_37 : decode cX9_readNot 37 = .ok (.getfield 29, 3) := by decide +kernel
theorem dX9_readNot_40 : decode cX9_readNot 40 = .ok (.bipush 60, 2) := by decide +kernel
theorem dX9_readNot_42 : decode cX9_readNot 42 = .ok (.if_icmp .eq 12, 3) := by decide +kernel
theorem dX9_readNot_45 : decode cX9_readNot 45 = .ok (.aload_n 0, 1) := by decide +kernel
theorem dX9_readNot_46 : decode cX9_readNot 46 = .ok (.getfield 29, 3) := by decide +kernel
theorem dX9_readNot_49 : decode cX9_readNot 49 = .ok (.bipush 61, 2) := by decide +kernel
theorem dX9_readNot_51 : decode cX9_readNot 51 = .ok (.if_icmp .ne 34, 3) := by decide +kernel
theorem dX9_readNot_54 : decode cX9_readNot 54 = .ok (.aload_n 0, 1) := by decide +kernel
theorem dX9_readNot_55 : decode cX9_readNot 55 = .ok (.getfield 29, 3) := by decide +kernel
theorem dX9_readNot_58 : decode cX9_readNot 58 = .ok (.bipush 60, 2) := by decide +kernel
theorem dX9_readNot_60 : decode cX9_readNot 60 = .ok (.if_icmp .ne 8, 3) := by decide +kernel
theorem dX9_readNot_63 : decode cX9_readNot 63 = .ok (.bipush (-11), 2) := by decide +kernel
theorem dX9_readNot_65 : decode cX9_readNot 65 = .ok (.goto 5, 3) := by decide +kernel
theorem dX9_readNot_68 : decode cX9_readNot 68 = .ok (.bipush (-12), 2) := by decide +kernel
theorem dX9_readNot_70 : decode cX9_readNot 70 = .ok (.istore_n 2, 1) := by decide +kernel
theorem dX9_readNot_71 : decode cX9_readNot 71 = .ok (.aload_n 0, 1) := by decide +kernel
theorem dX9_readNot_72 : decode cX9_readNot 72 = .ok (.invokevirtual 57, 3) := by decide +kernel
theorem dX9_readNot_75 : decode cX9_readNot 75 = .ok (.aload_n 0, 1) := by decide +kernel
theorem dX9_readNot_76 : decode cX9_readNot 76 = .ok (.iload_n 1, 1) := by decide +kernel
theorem dX9_readNot_77 : decode cX9_readNot 77 = .ok (.invokevirtual 87, 3) := by decide +kernel
theorem dX9_readNot_80 : decode cX9_readNot 80 = .ok (.aload_n 0, 1) := by decide +kernel
theorem dX9_readNot_81 : decode cX9_readNot 81 = .ok (.iload_n 2, 1) := by decide +kernel
theorem dX9_readNot_82 : decode cX9_readNot 82 = .ok (.invokevirtual 78, 3) := by decide +kernel
theorem dX9_readNot_85 : decode cX9_readNot 85 = .ok (.return_, 1) := by decide +kernel
theorem dX9_readSum_0 : decode cX9_readSum 0 = .ok (.aload_n 0, 1) := by decide +kernel
theorem dX9_readSum_1 : decode cX9_readSum 1 = .ok (.iload_n 1, 1) := by decide +kernel
theorem dX9_readSum_2 : decode cX9_readSum 2 = .ok (.invokevirtual 90, 3) := by decide +kernel
theorem dX9_readSum_5 : decode cX9_readSum 5 = .ok (.iconst 0, 1) := by decide +kernel
theorem dX9_readSum_6 : decode cX9_readSum 6 = .ok (.istore_n 2, 1) := by decide +kernel
theorem dX9_readSum_7 : decode cX9_readSum 7 = .ok (.iload_n 2, 1) := by decide +kernel
theorem dX9_readSum_8 : decode cX9_readSum 8 = .ok (.sipush 160, 3) := by decide +kernel
theorem dX9_readSum_11 : decode cX9_readSum 11 = .ok (.if_icmp .ge 58, 3) := by decide +kernel
theorem dX9_readSum_14 : decode cX9_readSum 14 = .ok (.aload_n 0, 1) := by decide +kernel
theorem dX9_readSum_15 : decode cX9_readSum 15 = .ok (.getfield 29, 3) := by decide +kernel
theorem dX9_readSum_18 : decode cX9_readSum 18 = .ok (.bipush 43, 2) := by decide +kernel
theorem dX9_readSum_20 : decode cX9_readSum 20 = .ok (.if_icmp .eq 12, 3) := by decide +kernel
theorem dX9_readSum_23 : decode cX9_readSum 23 = .ok (.aload_n 0, 1) := by decide +kernel
theorem dX9_readSum_24 : decode cX9_readSum 24 = .ok (.getfield 29, 3) := by decide +kernel
theorem dX9_readSum_27 : decode cX9_readSum 27 = .ok (.bipush 45, 2) := by decide +kernel
theorem dX9_readSum_29 : decode cX9_readSum 29 = .ok (.if_icmp .ne 40, 3) := by decide +kernel
theorem dX9_readSum_32 : decode cX9_readSum 32 = .ok (.aload_n 0, 1) := by decide +kernel
theorem dX9_readSum_33 : decode cX9_readSum 33 = .ok (.getfield 29, 3) := by decide +kernel
theorem dX9_readSum_36 : decode cX9_readSum 36 = .ok (.bipush 43, 2) := by decide +kernel
theorem dX9_readSum_38 : decode cX9_readSum 38 = .ok (.if_icmp .ne 8, 3) := by decide +kernel
theorem dX9_readSum_41 : decode cX9_readSum 41 = .ok (.bipush (-13), 2) := by decide +kernel
theorem dX9_readSum_43 : decode cX9_readSum 43 = .ok (.goto 5, 3) := by decide +kernel
theorem dX9_readSum_46 : decode cX9_readSum 46 = .ok (.bipush (-14), 2) := by decide +kernel
theorem dX9_readSum_48 : decode cX9_readSum 48 = .ok (.istore_n 3, 1) := by decide +kernel
theorem dX9_readSum_49 : decode cX9_readSum 49 = .ok (.aload_n 0, 1) := by decide +kernel
theorem dX9_readSum_50 : decode cX9_readSum 50 = .ok (.invokevirtual 57, 3) := by decide +kernel
theorem dX9_readSum_53 : decode cX9_readSum 53 = .ok (.aload_n 0, 1) := by decide +kernel
theorem dX9_readSum_54 : decode cX9_readSum 54 = .ok (.iload_n 1, 1) := by decide +kernel
theorem dX9_readSum_55 : decode cX9_readSum 55 = .ok (.invokevirtual 90, 3) := by decide +kernel
theorem dX9_readSum_58 : decode cX9_readSum 58 = .ok (.aload_n 0, 1) := by decide +kernel
theorem dX9_readSum_59 : decode cX9_readSum 59 = .ok (.iload_n 3, 1) := by decide +kernel
theorem dX9_readSum_60 : decode cX9_readSum 60 = .ok (.invokevirtual 78, 3) := by decide +kernel
theorem dX9_readSum_63 : decode cX9_readSum 63 = .ok (.iinc 2 1, 3) := by decide +kernel
theorem dX9_readSum_66 : decode cX9_readSum 66 = .ok (.goto (-59), 3) := by decide +kernel
theorem dX9_readSum_69 : decode cX9_readSum 69 = .ok (.return_, 1) := by decide +kernel
theorem dX9_readTerm_0 : decode cX9_readTerm 0 = .ok (.aload_n 0, 1) := by decide +kernel
theorem dX9_readTerm_1 : decode cX9_readTerm 1 = .ok (.iload_n 1, 1) := by decide +kernel
theorem dX9_readTerm_2 : decode cX9_readTerm 2 = .ok (.invokevirtual 93, 3) := by decide +kernel
theorem dX9_readTerm_5 : decode cX9_readTerm 5 = .ok (.iconst 0, 1) := by decide +kernel
theorem dX9_readTerm_6 : decode cX9_readTerm 6 = .ok (.istore_n 2, 1) := by decide +kernel
theorem dX9_readTerm_7 : decode cX9_readTerm 7 = .ok (.iload_n 2, 1) := by decide +kernel
theorem dX9_readTerm_8 : decode cX9_readTerm 8 = .ok (.sipush 160, 3) := by decide +kernel
theorem dX9_readTerm_11 : decode cX9_readTerm 11 = .ok (.if_icmp .ge 33, 3) := by decide +kernel
theorem dX9_readTerm_14 : decode cX9_readTerm 14 = .ok (.aload_n 0, 1) := by decide +kernel
theorem dX9_readTerm_15 : decode cX9_readTerm 15 = .ok (.getfield 29, 3) := by decide +kernel
theorem dX9_readTerm_18 : decode cX9_readTerm 18 = .ok (.bipush 42, 2) := by decide +kernel
theorem dX9_readTerm_20 : decode cX9_readTerm 20 = .ok (.if_icmp .ne 24, 3) := by decide +kernel
theorem dX9_readTerm_23 : decode cX9_readTerm 23 = .ok (.aload_n 0, 1) := by decide +kernel
theorem dX9_readTerm_24 : decode cX9_readTerm 24 = .ok (.invokevirtual 57, 3) := by decide +kernel
theorem dX9_readTerm_27 : decode cX9_readTerm 27 = .ok (.aload_n 0, 1) := by decide +kernel
theorem dX9_readTerm_28 : decode cX9_readTerm 28 = .ok (.iload_n 1, 1) := by decide +kernel
theorem dX9_readTerm_29 : decode cX9_readTerm 29 = .ok (.invokevirtual 93, 3) := by decide +kernel
theorem dX9_readTerm_32 : decode cX9_readTerm 32 = .ok (.aload_n 0, 1) := by decide +kernel
theorem dX9_readTerm_33 : decode cX9_readTerm 33 = .ok (.bipush (-15), 2) := by decide +kernel
theorem dX9_readTerm_35 : decode cX9_readTerm 35 = .ok (.invokevirtual 78, 3) := by decide +kernel
theorem dX9_readTerm_38 : decode cX9_readTerm 38 = .ok (.iinc 2 1, 3) := by decide +kernel
theorem dX9_readTerm_41 : decode cX9_readTerm 41 = .ok (.goto (-34), 3) := by decide +kernel
theorem dX9_readTerm_44 : decode cX9_readTerm 44 = .ok (.return_, 1) := by decide +kernel
theorem dX9_readOne_0 : decode cX9_readOne 0 = .ok (.aload_n 0, 1) := by decide +kernel
theorem dX9_readOne_1 : decode cX9_readOne 1 = .ok (.getfield 29, 3) := by decide +kernel
theorem dX9_readOne_4 : decode cX9_readOne 4 = .ok (.iconst 1, 1) := by decide +kernel
theorem dX9_readOne_5 : decode cX9_readOne 5 = .ok (.if_icmp .eq 11, 3) := by decide +kernel
theorem dX9_readOne_8 : decode cX9_readOne 8 = .ok (.aload_n 0, 1) := by decide +kernel
theorem dX9_readOne_9 : decode cX9_readOne 9 = .ok (.getfield 29, 3) := by decide +kernel
theorem dX9_readOne_12 : decode cX9_readOne 12 = .ok (.iconst 2, 1) := by decide +kernel
theorem dX9_readOne_13 : decode cX9_readOne 13 = .ok (.if_icmp .ne 18, 3) := by decide +kernel
theorem dX9_readOne_16 : decode cX9_readOne 16 = .ok (.aload_n 0, 1) := by decide +kernel
theorem dX9_readOne_17 : decode cX9_readOne 17 = .ok (.aload_n 0, 1) := by decide +kernel
theorem dX9_readOne_18 : decode cX9_readOne 18 = .ok (.getfield 32, 3) := by decide +kernel
theorem dX9_readOne_21 : decode cX9_readOne 21 = .ok (.invokevirtual 78, 3) := by decide +kernel
theorem dX9_readOne_24 : decode cX9_readOne 24 = .ok (.aload_n 0, 1) := by decide +kernel
theorem dX9_readOne_25 : decode cX9_readOne 25 = .ok (.invokevirtual 57, 3) := by decide +kernel
theorem dX9_readOne_28 : decode cX9_readOne 28 = .ok (.goto 73, 3) := by decide +kernel
theorem dX9_readOne_31 : decode cX9_readOne 31 = .ok (.aload_n 0, 1) := by decide +kernel
theorem dX9_readOne_32 : decode cX9_readOne 32 = .ok (.getfield 29, 3) := by decide +kernel
theorem dX9_readOne_35 : decode cX9_readOne 35 = .ok (.bipush 45, 2) := by decide +kernel
theorem dX9_readOne_37 : decode cX9_readOne 37 = .ok (.if_icmp .ne 27, 3) := by decide +kernel
theorem dX9_readOne_40 : decode cX9_readOne 40 = .ok (.aload_n 0, 1) := by decide +kernel
theorem dX9_readOne_41 : decode cX9_readOne 41 = .ok (.iload_n 1, 1) := by decide +kernel
theorem dX9_readOne_42 : decode cX9_readOne 42 = .ok (.invokevirtual 84, 3) := by decide +kernel
theorem dX9_readOne_45 : decode cX9_readOne 45 = .ok (.ifCond .eq 56, 3) := by decide +kernel
theorem dX9_readOne_48 : decode cX9_readOne 48 = .ok (.aload_n 0, 1) := by decide +kernel
theorem dX9_readOne_49 : decode cX9_readOne 49 = .ok (.iload_n 1, 1) := by decide +kernel
theorem dX9_readOne_50 : decode cX9_readOne 50 = .ok (.iconst 1, 1) := by decide +kernel
theorem dX9_readOne_51 : decode cX9_readOne 51 = .ok (.iadd, 1) := by decide +kernel
theorem dX9_readOne_52 : decode cX9_readOne 52 = .ok (.invokevirtual 93, 3) := by decide +kernel
theorem dX9_readOne_55 : decode cX9_readOne 55 = .ok (.aload_n 0, 1) := by decide +kernel
theorem dX9_readOne_56 : decode cX9_readOne 56 = .ok (.bipush (-8), 2) := by decide +kernel
theorem dX9_readOne_58 : decode cX9_readOne 58 = .ok (.invokevirtual 78, 3) := by decide +kernel
theorem dX9_readOne_61 : decode cX9_readOne 61 = .ok (.goto 40, 3) := by decide +kernel
theorem dX9_readOne_64 : decode cX9_readOne 64 = .ok (.aload_n 0, 1) := by decide +kernel
theorem dX9_readOne_65 : decode cX9_readOne 65 = .ok (.getfield 29, 3) := by decide +kernel
theorem dX9_readOne_68 : decode cX9_readOne 68 = .ok (.bipush 40, 2) := by decide +kernel
theorem dX9_readOne_70 : decode cX9_readOne 70 = .ok (.if_icmp .ne 27, 3) := by decide +kernel
theorem dX9_readOne_73 : decode cX9_readOne 73 = .ok (.aload_n 0, 1) := by decide +kernel
theorem dX9_readOne_74 : decode cX9_readOne 74 = .ok (.iload_n 1, 1) := by decide +kernel
theorem dX9_readOne_75 : decode cX9_readOne 75 = .ok (.invokevirtual 84, 3) := by decide +kernel
theorem dX9_readOne_78 : decode cX9_readOne 78 = .ok (.ifCond .eq 23, 3) := by decide +kernel
theorem dX9_readOne_81 : decode cX9_readOne 81 = .ok (.aload_n 0, 1) := by decide +kernel
theorem dX9_readOne_82 : decode cX9_readOne 82 = .ok (.iload_n 1, 1) := by decide +kernel
theorem dX9_readOne_83 : decode cX9_readOne 83 = .ok (.iconst 1, 1) := by decide +kernel
theorem dX9_readOne_84 : decode cX9_readOne 84 = .ok (.iadd, 1) := by decide +kernel
theorem dX9_readOne_85 : decode cX9_readOne 85 = .ok (.invokevirtual 64, 3) := by decide +kernel
theorem dX9_readOne_88 : decode cX9_readOne 88 = .ok (.aload_n 0, 1) := by decide +kernel
theorem dX9_readOne_89 : decode cX9_readOne 89 = .ok (.bipush 41, 2) := by decide +kernel
theorem dX9_readOne_91 : decode cX9_readOne 91 = .ok (.invokevirtual 60, 3) := by decide +kernel
theorem dX9_readOne_94 : decode cX9_readOne 94 = .ok (.goto 7, 3) := by decide +kernel
theorem dX9_readOne_97 : decode cX9_readOne 97 = .ok (.aload_n 0, 1) := by decide +kernel
theorem dX9_readOne_98 : decode cX9_readOne 98 = .ok (.invokevirtual 70, 3) := by decide +kernel
theorem dX9_readOne_101 : decode cX9_readOne 101 = .ok (.return_, 1) := by decide +kernel
theorem dX9_opens_0 : decode cX9_opens 0 = .ok (.iload_n 1, 1) := by decide +kernel
theorem dX9_opens_1 : decode cX9_opens 1 = .ok (.iconst 5, 1) := by decide +kernel
theorem dX9_opens_2 : decode cX9_opens 2 = .ok (.if_icmp .lt 9, 3) := by decide +kernel
theorem dX9_opens_5 : decode cX9_opens 5 = .ok (.aload_n 0, 1) := by decide +kernel
theorem dX9_opens_6 : decode cX9_opens 6 = .ok (.invokevirtual 70, 3) := by decide +kernel
theorem dX9_opens_9 : decode cX9_opens 9 = .ok (.iconst 0, 1) := by decide +kernel
theorem dX9_opens_10 : decode cX9_opens 10 = .ok (.ireturn, 1) := by decide +kernel
theorem dX9_opens_11 : decode cX9_opens 11 = .ok (.aload_n 0, 1) := by decide +kernel
theorem dX9_opens_12 : decode cX9_opens 12 = .ok (.invokevirtual 57, 3) := by decide +kernel
theorem dX9_opens_15 : decode cX9_opens 15 = .ok (.iconst 1, 1) := by decide +kernel
theorem dX9_opens_16 : decode cX9_opens 16 = .ok (.ireturn, 1) := by decide +kernel
theorem dX9_letterAt_0 : decode cX9_letterAt 0 = .ok (.iload_n 1, 1) := by decide +kernel
theorem dX9_letterAt_1 : decode cX9_letterAt 1 = .ok (.ifCond .lt 20, 3) := by decide +kernel
theorem dX9_letterAt_4 : decode cX9_letterAt 4 = .ok (.iload_n 1, 1) := by decide +kernel
theorem dX9_letterAt_5 : decode cX9_letterAt 5 = .ok (.aload_n 0, 1) := by decide +kernel
theorem dX9_letterAt_6 : decode cX9_letterAt 6 = .ok (.getfield 15, 3) := by decide +kernel
theorem dX9_letterAt_9 : decode cX9_letterAt 9 = .ok (.if_icmp .ge 12, 3) := by decide +kernel
theorem dX9_letterAt_12 : decode cX9_letterAt 12 = .ok (.iload_n 1, 1) := by decide +kernel
theorem dX9_letterAt_13 : decode cX9_letterAt 13 = .ok (.aload_n 0, 1) := by decide +kernel
theorem dX9_letterAt_14 : decode cX9_letterAt 14 = .ok (.getfield 9, 3) := by decide +kernel
theorem dX9_letterAt_17 : decode cX9_letterAt 17 = .ok (.arraylength, 1) := by decide +kernel
theorem dX9_letterAt_18 : decode cX9_letterAt 18 = .ok (.if_icmp .lt 7, 3) := by decide +kernel
theorem dX9_letterAt_21 : decode cX9_letterAt 21 = .ok (.iconst 0, 1) := by decide +kernel
theorem dX9_letterAt_22 : decode cX9_letterAt 22 = .ok (.goto 9, 3) := by decide +kernel
theorem dX9_letterAt_25 : decode cX9_letterAt 25 = .ok (.aload_n 0, 1) := by decide +kernel
theorem dX9_letterAt_26 : decode cX9_letterAt 26 = .ok (.getfield 9, 3) := by decide +kernel
theorem dX9_letterAt_29 : decode cX9_letterAt 29 = .ok (.iload_n 1, 1) := by decide +kernel
theorem dX9_letterAt_30 : decode cX9_letterAt 30 = .ok (.iaload, 1) := by decide +kernel
theorem dX9_letterAt_31 : decode cX9_letterAt 31 = .ok (.ireturn, 1) := by decide +kernel
theorem dX9_next_0 : decode cX9_next 0 = .ok (.aload_n 0, 1) := by decide +kernel
theorem dX9_next_1 : decode cX9_next 1 = .ok (.getfield 23, 3) := by decide +kernel
theorem dX9_next_4 : decode cX9_next 4 = .ok (.aload_n 0, 1) := by decide +kernel
theorem dX9_next_5 : decode cX9_next 5 = .ok (.getfield 15, 3) := by decide +kernel
theorem dX9_next_8 : decode cX9_next 8 = .ok (.if_icmp .ge 42, 3) := by decide +kernel
theorem dX9_next_11 : decode cX9_next 11 = .ok (.aload_n 0, 1) := by decide +kernel
theorem dX9_next_12 : decode cX9_next 12 = .ok (.aload_n 0, 1) := by decide +kernel
theorem dX9_next_13 : decode cX9_next 13 = .ok (.getfield 23, 3) := by decide +kernel
theorem dX9_next_16 : decode cX9_next 16 = .ok (.invokevirtual 96, 3) := by decide +kernel
theorem dX9_next_19 : decode cX9_next 19 = .ok (.bipush 32, 2) := by decide +kernel
theorem dX9_next_21 : decode cX9_next 21 = .ok (.if_icmp .eq 16, 3) := by decide +kernel
theorem dX9_next_24 : decode cX9_next 24 = .ok (.aload_n 0, 1) := by decide +kernel
theorem dX9_next_25 : decode cX9_next 25 = .ok (.aload_n 0, 1) := by decide +kernel
theorem dX9_next_26 : decode cX9_next 26 = .ok (.getfield 23, 3) := by decide +kernel
theorem dX9_next_29 : decode cX9_next 29 = .ok (.invokevirtual 96, 3) := by decide +kernel
theorem dX9_next_32 : decode cX9_next 32 = .ok (.bipush 10, 2) := by decide +kernel
theorem dX9_next_34 : decode cX9_next 34 = .ok (.if_icmp .ne 16, 3) := by decide +kernel
theorem dX9_next_37 : decode cX9_next 37 = .ok (.aload_n 0, 1) := by decide +kernel
theorem dX9_next_38 : decode cX9_next 38 = .ok (.dup, 1) := by decide +kernel
theorem dX9_next_39 : decode cX9_next 39 = .ok (.getfield 23, 3) := by decide +kernel
theorem dX9_next_42 : decode cX9_next 42 = .ok (.iconst 1, 1) := by decide +kernel
theorem dX9_next_43 : decode cX9_next 43 = .ok (.iadd, 1) := by decide +kernel
theorem dX9_next_44 : decode cX9_next 44 = .ok (.putfield 23, 3) := by decide +kernel
theorem dX9_next_47 : decode cX9_next 47 = .ok (.goto (-47), 3) := by decide +kernel
theorem dX9_next_50 : decode cX9_next 50 = .ok (.aload_n 0, 1) := by decide +kernel
theorem dX9_next_51 : decode cX9_next 51 = .ok (.aload_n 0, 1) := by decide +kernel
theorem dX9_next_52 : decode cX9_next 52 = .ok (.getfield 23, 3) := by decide +kernel
theorem dX9_next_55 : decode cX9_next 55 = .ok (.putfield 26, 3) := by decide +kernel
theorem dX9_next_58 : decode cX9_next 58 = .ok (.aload_n 0, 1) := by decide +kernel
theorem dX9_next_59 : decode cX9_next 59 = .ok (.aload_n 0, 1) := by decide +kernel
theorem dX9_next_60 : decode cX9_next 60 = .ok (.getfield 23, 3) := by decide +kernel
theorem dX9_next_63 : decode cX9_next 63 = .ok (.invokevirtual 96, 3) := by decide +kernel
theorem dX9_next_66 : decode cX9_next 66 = .ok (.istore_n 1, 1) := by decide +kernel
theorem dX9_next_67 : decode cX9_next 67 = .ok (.aload_n 0, 1) := by decide +kernel
theorem dX9_next_68 : decode cX9_next 68 = .ok (.getfield 23, 3) := by decide +kernel
theorem dX9_next_71 : decode cX9_next 71 = .ok (.aload_n 0, 1) := by decide +kernel
theorem dX9_next_72 : decode cX9_next 72 = .ok (.getfield 15, 3) := by decide +kernel
theorem dX9_next_75 : decode cX9_next 75 = .ok (.if_icmp .lt 11, 3) := by decide +kernel
theorem dX9_next_78 : decode cX9_next 78 = .ok (.aload_n 0, 1) := by decide +kernel
theorem dX9_next_79 : decode cX9_next 79 = .ok (.iconst 0, 1) := by decide +kernel
theorem dX9_next_80 : decode cX9_next 80 = .ok (.putfield 29, 3) := by decide +kernel
theorem dX9_next_83 : decode cX9_next 83 = .ok (.goto 58, 3) := by decide +kernel
theorem dX9_next_86 : decode cX9_next 86 = .ok (.iload_n 1, 1) := by decide +kernel
theorem dX9_next_87 : decode cX9_next 87 = .ok (.invokestatic 100, 3) := by decide +kernel
theorem dX9_next_90 : decode cX9_next 90 = .ok (.ifCond .eq 10, 3) := by decide +kernel
theorem dX9_next_93 : decode cX9_next 93 = .ok (.aload_n 0, 1) := by decide +kernel
theorem dX9_next_94 : decode cX9_next 94 = .ok (.invokevirtual 103, 3) := by decide +kernel
theorem dX9_next_97 : decode cX9_next 97 = .ok (.goto 44, 3) := by decide +kernel
theorem dX9_next_100 : decode cX9_next 100 = .ok (.iload_n 1, 1) := by decide +kernel
theorem dX9_next_101 : decode cX9_next 101 = .ok (.invokestatic 106, 3) := by decide +kernel
theorem dX9_next_104 : decode cX9_next 104 = .ok (.ifCond .eq 10, 3) := by decide +kernel
theorem dX9_next_107 : decode cX9_next 107 = .ok (.aload_n 0, 1) := by decide +kernel
theorem dX9_next_108 : decode cX9_next 108 = .ok (.invokevirtual 109, 3) := by decide +kernel
theorem dX9_next_111 : decode cX9_next 111 = .ok (.goto 30, 3) := by decide +kernel
theorem dX9_next_114 : decode cX9_next 114 = .ok (.aload_n 0, 1) := by decide +kernel
theorem dX9_next_115 : decode cX9_next 115 = .ok (.iload_n 1, 1) := by decide +kernel
theorem dX9_next_116 : decode cX9_next 116 = .ok (.invokestatic 112, 3) := by decide +kernel
theorem dX9_next_119 : decode cX9_next 119 = .ok (.ifCond .eq 7, 3) := by decide +kernel
theorem dX9_next_122 : decode cX9_next 122 = .ok (.iload_n 1, 1) := by decide +kernel
theorem dX9_next_123 : decode cX9_next 123 = .ok (.goto 5, 3) := by decide +kernel
theorem dX9_next_126 : decode cX9_next 126 = .ok (.bipush 9, 2) := by decide +kernel
theorem dX9_next_128 : decode cX9_next 128 = .ok (.putfield 29, 3) := by decide +kernel
theorem dX9_next_131 : decode cX9_next 131 = .ok (.aload_n 0, 1) := by decide +kernel
theorem dX9_next_132 : decode cX9_next 132 = .ok (.dup, 1) := by decide +kernel
theorem dX9_next_133 : decode cX9_next 133 = .ok (.getfield 23, 3) := by decide +kernel
theorem dX9_next_136 : decode cX9_next 136 = .ok (.iconst 1, 1) := by decide +kernel
theorem dX9_next_137 : decode cX9_next 137 = .ok (.iadd, 1) := by decide +kernel
theorem dX9_next_138 : decode cX9_next 138 = .ok (.putfield 23, 3) := by decide +kernel
theorem dX9_next_141 : decode cX9_next 141 = .ok (.return_, 1) := by decide +kernel
theorem dX9_isLetter_0 : decode cX9_isLetter 0 = .ok (.iload_n 0, 1) := by decide +kernel
theorem dX9_isLetter_1 : decode cX9_isLetter 1 = .ok (.bipush 97, 2) := by decide +kernel
theorem dX9_isLetter_3 : decode cX9_isLetter 3 = .ok (.if_icmp .lt 13, 3) := by decide +kernel
theorem dX9_isLetter_6 : decode cX9_isLetter 6 = .ok (.iload_n 0, 1) := by decide +kernel
theorem dX9_isLetter_7 : decode cX9_isLetter 7 = .ok (.bipush 122, 2) := by decide +kernel
theorem dX9_isLetter_9 : decode cX9_isLetter 9 = .ok (.if_icmp .gt 7, 3) := by decide +kernel
theorem dX9_isLetter_12 : decode cX9_isLetter 12 = .ok (.iconst 1, 1) := by decide +kernel
theorem dX9_isLetter_13 : decode cX9_isLetter 13 = .ok (.goto 4, 3) := by decide +kernel
theorem dX9_isLetter_16 : decode cX9_isLetter 16 = .ok (.iconst 0, 1) := by decide +kernel
theorem dX9_isLetter_17 : decode cX9_isLetter 17 = .ok (.ireturn, 1) := by decide +kernel
theorem dX9_isDigit_0 : decode cX9_isDigit 0 = .ok (.iload_n 0, 1) := by decide +kernel
theorem dX9_isDigit_1 : decode cX9_isDigit 1 = .ok (.bipush 48, 2) := by decide +kernel
theorem dX9_isDigit_3 : decode cX9_isDigit 3 = .ok (.if_icmp .lt 13, 3) := by decide +kernel
theorem dX9_isDigit_6 : decode cX9_isDigit 6 = .ok (.iload_n 0, 1) := by decide +kernel
theorem dX9_isDigit_7 : decode cX9_isDigit 7 = .ok (.bipush 57, 2) := by decide +kernel
theorem dX9_isDigit_9 : decode cX9_isDigit 9 = .ok (.if_icmp .gt 7, 3) := by decide +kernel
theorem dX9_isDigit_12 : decode cX9_isDigit 12 = .ok (.iconst 1, 1) := by decide +kernel
theorem dX9_isDigit_13 : decode cX9_isDigit 13 = .ok (.goto 4, 3) := by decide +kernel
theorem dX9_isDigit_16 : decode cX9_isDigit 16 = .ok (.iconst 0, 1) := by decide +kernel
theorem dX9_isDigit_17 : decode cX9_isDigit 17 = .ok (.ireturn, 1) := by decide +kernel
theorem dX9_isSign_0 : decode cX9_isSign 0 = .ok (.iload_n 0, 1) := by decide +kernel
theorem dX9_isSign_1 : decode cX9_isSign 1 = .ok (.tableswitch 105 40 61 #[103, 103, 103, 103, 105, 103, 105, 105, 105, 105, 105, 105, 105, 105, 105, 105, 105, 105, 105, 103, 103, 103], 103) := by decide +kernel
theorem dX9_isSign_104 : decode cX9_isSign 104 = .ok (.iconst 1, 1) := by decide +kernel
theorem dX9_isSign_105 : decode cX9_isSign 105 = .ok (.ireturn, 1) := by decide +kernel
theorem dX9_isSign_106 : decode cX9_isSign 106 = .ok (.iconst 0, 1) := by decide +kernel
theorem dX9_isSign_107 : decode cX9_isSign 107 = .ok (.ireturn, 1) := by decide +kernel
theorem dX9_nextNumber_0 : decode cX9_nextNumber 0 = .ok (.aload_n 0, 1) := by decide +kernel
theorem dX9_nextNumber_1 : decode cX9_nextNumber 1 = .ok (.iconst 0, 1) := by decide +kernel
theorem dX9_nextNumber_2 : decode cX9_nextNumber 2 = .ok (.putfield 32, 3) := by decide +kernel
theorem dX9_nextNumber_5 : decode cX9_nextNumber 5 = .ok (.aload_n 0, 1) := by decide +kernel
theorem dX9_nextNumber_6 : decode cX9_nextNumber 6 = .ok (.getfield 23, 3) := by decide +kernel
theorem dX9_nextNumber_9 : decode cX9_nextNumber 9 = .ok (.aload_n 0, 1) := by decide +kernel
theorem dX9_nextNumber_10 : decode cX9_nextNumber 10 = .ok (.getfield 15, 3) := by decide +kernel
theorem dX9_nextNumber_13 : decode cX9_nextNumber 13 = .ok (.if_icmp .ge 53, 3) := by decide +kernel
theorem dX9_nextNumber_16 : decode cX9_nextNumber 16 = .ok (.aload_n 0, 1) := by decide +kernel
theorem dX9_nextNumber_17 : decode cX9_nextNumber 17 = .ok (.aload_n 0, 1) := by decide +kernel
theorem dX9_nextNumber_18 : decode cX9_nextNumber 18 = .ok (.getfield 23, 3) := by decide +kernel
theorem dX9_nextNumber_21 : decode cX9_nextNumber 21 = .ok (.invokevirtual 96, 3) := by decide +kernel
theorem dX9_nextNumber_24 : decode cX9_nextNumber 24 = .ok (.invokestatic 106, 3) := by decide +kernel
theorem dX9_nextNumber_27 : decode cX9_nextNumber 27 = .ok (.ifCond .eq 39, 3) := by decide +kernel
theorem dX9_nextNumber_30 : decode cX9_nextNumber 30 = .ok (.aload_n 0, 1) := by decide +kernel
theorem dX9_nextNumber_31 : decode cX9_nextNumber 31 = .ok (.aload_n 0, 1) := by decide +kernel
theorem dX9_nextNumber_32 : decode cX9_nextNumber 32 = .ok (.getfield 32, 3) := by decide +kernel
theorem dX9_nextNumber_35 : decode cX9_nextNumber 35 = .ok (.bipush 10, 2) := by decide +kernel
theorem dX9_nextNumber_37 : decode cX9_nextNumber 37 = .ok (.imul, 1) := by decide +kernel
theorem dX9_nextNumber_38 : decode cX9_nextNumber 38 = .ok (.aload_n 0, 1) := by decide +kernel
theorem dX9_nextNumber_39 : decode cX9_nextNumber 39 = .ok (.aload_n 0, 1) := by decide +kernel
theorem dX9_nextNumber_40 : decode cX9_nextNumber 40 = .ok (.getfield 23, 3) := by decide +kernel
theorem dX9_nextNumber_43 : decode cX9_nextNumber 43 = .ok (.invokevirtual 96, 3) := by decide +kernel
theorem dX9_nextNumber_46 : decode cX9_nextNumber 46 = .ok (.iadd, 1) := by decide +kernel
theorem dX9_nextNumber_47 : decode cX9_nextNumber 47 = .ok (.bipush 48, 2) := by decide +kernel
theorem dX9_nextNumber_49 : decode cX9_nextNumber 49 = .ok (.isub, 1) := by decide +kernel
theorem dX9_nextNumber_50 : decode cX9_nextNumber 50 = .ok (.putfield 32, 3) := by decide +kernel
theorem dX9_nextNumber_53 : decode cX9_nextNumber 53 = .ok (.aload_n 0, 1) := by decide +kernel
theorem dX9_nextNumber_54 : decode cX9_nextNumber 54 = .ok (.dup, 1) := by decide +kernel
theorem dX9_nextNumber_55 : decode cX9_nextNumber 55 = .ok (.getfield 23, 3) := by decide +kernel
theorem dX9_nextNumber_58 : decode cX9_nextNumber 58 = .ok (.iconst 1, 1) := by decide +kernel
theorem dX9_nextNumber_59 : decode cX9_nextNumber 59 = .ok (.iadd, 1) := by decide +kernel
theorem dX9_nextNumber_60 : decode cX9_nextNumber 60 = .ok (.putfield 23, 3) := by decide +kernel
theorem dX9_nextNumber_63 : decode cX9_nextNumber 63 = .ok (.goto (-58), 3) := by decide +kernel
theorem dX9_nextNumber_66 : decode cX9_nextNumber 66 = .ok (.aload_n 0, 1) := by decide +kernel
theorem dX9_nextNumber_67 : decode cX9_nextNumber 67 = .ok (.aload_n 0, 1) := by decide +kernel
theorem dX9_nextNumber_68 : decode cX9_nextNumber 68 = .ok (.getfield 23, 3) := by decide +kernel
theorem dX9_nextNumber_71 : decode cX9_nextNumber 71 = .ok (.aload_n 0, 1) := by decide +kernel
theorem dX9_nextNumber_72 : decode cX9_nextNumber 72 = .ok (.getfield 26, 3) := by decide +kernel
theorem dX9_nextNumber_75 : decode cX9_nextNumber 75 = .ok (.isub, 1) := by decide +kernel
theorem dX9_nextNumber_76 : decode cX9_nextNumber 76 = .ok (.iconst 4, 1) := by decide +kernel
theorem dX9_nextNumber_77 : decode cX9_nextNumber 77 = .ok (.if_icmp .le 8, 3) := by decide +kernel
theorem dX9_nextNumber_80 : decode cX9_nextNumber 80 = .ok (.bipush 9, 2) := by decide +kernel
theorem dX9_nextNumber_82 : decode cX9_nextNumber 82 = .ok (.goto 4, 3) := by decide +kernel
theorem dX9_nextNumber_85 : decode cX9_nextNumber 85 = .ok (.iconst 1, 1) := by decide +kernel
theorem dX9_nextNumber_86 : decode cX9_nextNumber 86 = .ok (.putfield 29, 3) := by decide +kernel
theorem dX9_nextNumber_89 : decode cX9_nextNumber 89 = .ok (.return_, 1) := by decide +kernel
theorem dX9_nextWord_0 : decode cX9_nextWord 0 = .ok (.aload_n 0, 1) := by decide +kernel
theorem dX9_nextWord_1 : decode cX9_nextWord 1 = .ok (.getfield 23, 3) := by decide +kernel
theorem dX9_nextWord_4 : decode cX9_nextWord 4 = .ok (.aload_n 0, 1) := by decide +kernel
theorem dX9_nextWord_5 : decode cX9_nextWord 5 = .ok (.getfield 15, 3) := by decide +kernel
theorem dX9_nextWord_8 : decode cX9_nextWord 8 = .ok (.if_icmp .ge 30, 3) := by decide +kernel
theorem dX9_nextWord_11 : decode cX9_nextWord 11 = .ok (.aload_n 0, 1) := by decide +kernel
theorem dX9_nextWord_12 : decode cX9_nextWord 12 = .ok (.aload_n 0, 1) := by decide +kernel
theorem dX9_nextWord_13 : decode cX9_nextWord 13 = .ok (.getfield 23, 3) := by decide +kernel
theorem dX9_nextWord_16 : decode cX9_nextWord 16 = .ok (.invokevirtual 96, 3) := by decide +kernel
theorem dX9_nextWord_19 : decode cX9_nextWord 19 = .ok (.invokestatic 100, 3) := by decide +kernel
theorem dX9_nextWord_22 : decode cX9_nextWord 22 = .ok (.ifCond .eq 16, 3) := by decide +kernel
theorem dX9_nextWord_25 : decode cX9_nextWord 25 = .ok (.aload_n 0, 1) := by decide +kernel
theorem dX9_nextWord_26 : decode cX9_nextWord 26 = .ok (.dup, 1) := by decide +kernel
theorem dX9_nextWord_27 : decode cX9_nextWord 27 = .ok (.getfield 23, 3) := by decide +kernel
theorem dX9_nextWord_30 : decode cX9_nextWord 30 = .ok (.iconst 1, 1) := by decide +kernel
theorem dX9_nextWord_31 : decode cX9_nextWord 31 = .ok (.iadd, 1) := by decide +kernel
theorem dX9_nextWord_32 : decode cX9_nextWord 32 = .ok (.putfield 23, 3) := by decide +kernel
theorem dX9_nextWord_35 : decode cX9_nextWord 35 = .ok (.goto (-35), 3) := by decide +kernel
theorem dX9_nextWord_38 : decode cX9_nextWord 38 = .ok (.aload_n 0, 1) := by decide +kernel
theorem dX9_nextWord_39 : decode cX9_nextWord 39 = .ok (.aload_n 0, 1) := by decide +kernel
theorem dX9_nextWord_40 : decode cX9_nextWord 40 = .ok (.invokevirtual 115, 3) := by decide +kernel
theorem dX9_nextWord_43 : decode cX9_nextWord 43 = .ok (.putfield 32, 3) := by decide +kernel
theorem dX9_nextWord_46 : decode cX9_nextWord 46 = .ok (.aload_n 0, 1) := by decide +kernel
theorem dX9_nextWord_47 : decode cX9_nextWord 47 = .ok (.aload_n 0, 1) := by decide +kernel
theorem dX9_nextWord_48 : decode cX9_nextWord 48 = .ok (.getfield 32, 3) := by decide +kernel
theorem dX9_nextWord_51 : decode cX9_nextWord 51 = .ok (.ifCond .eq 7, 3) := by decide +kernel
theorem dX9_nextWord_54 : decode cX9_nextWord 54 = .ok (.iconst 2, 1) := by decide +kernel
theorem dX9_nextWord_55 : decode cX9_nextWord 55 = .ok (.goto 7, 3) := by decide +kernel
theorem dX9_nextWord_58 : decode cX9_nextWord 58 = .ok (.aload_n 0, 1) := by decide +kernel
theorem dX9_nextWord_59 : decode cX9_nextWord 59 = .ok (.invokevirtual 118, 3) := by decide +kernel
theorem dX9_nextWord_62 : decode cX9_nextWord 62 = .ok (.putfield 29, 3) := by decide +kernel
theorem dX9_nextWord_65 : decode cX9_nextWord 65 = .ok (.return_, 1) := by decide +kernel
theorem dX9_nameOfWord_0 : decode cX9_nameOfWord 0 = .ok (.aload_n 0, 1) := by decide +kernel
theorem dX9_nameOfWord_1 : decode cX9_nameOfWord 1 = .ok (.ldc 121, 2) := by decide +kernel
theorem dX9_nameOfWord_3 : decode cX9_nameOfWord 3 = .ok (.invokevirtual 123, 3) := by decide +kernel
theorem dX9_nameOfWord_6 : decode cX9_nameOfWord 6 = .ok (.ifCond .eq 5, 3) := by decide +kernel
theorem dX9_nameOfWord_9 : decode cX9_nameOfWord 9 = .ok (.iconst (-1), 1) := by decide +kernel
theorem dX9_nameOfWord_10 : decode cX9_nameOfWord 10 = .ok (.ireturn, 1) := by decide +kernel
theorem dX9_nameOfWord_11 : decode cX9_nameOfWord 11 = .ok (.aload_n 0, 1) := by decide +kernel
theorem dX9_nameOfWord_12 : decode cX9_nameOfWord 12 = .ok (.ldc 127, 2) := by decide +kernel
theorem dX9_nameOfWord_14 : decode cX9_nameOfWord 14 = .ok (.invokevirtual 123, 3) := by decide +kernel
theorem dX9_nameOfWord_17 : decode cX9_nameOfWord 17 = .ok (.ifCond .eq 6, 3) := by decide +kernel
theorem dX9_nameOfWord_20 : decode cX9_nameOfWord 20 = .ok (.bipush (-2), 2) := by decide +kernel
theorem dX9_nameOfWord_22 : decode cX9_nameOfWord 22 = .ok (.ireturn, 1) := by decide +kernel
theorem dX9_nameOfWord_23 : decode cX9_nameOfWord 23 = .ok (.aload_n 0, 1) := by decide +kernel
theorem dX9_nameOfWord_24 : decode cX9_nameOfWord 24 = .ok (.ldc 129, 2) := by decide +kernel
theorem dX9_nameOfWord_26 : decode cX9_nameOfWord 26 = .ok (.invokevirtual 123, 3) := by decide +kernel
theorem dX9_nameOfWord_29 : decode cX9_nameOfWord 29 = .ok (.ifCond .eq 6, 3) := by decide +kernel
theorem dX9_nameOfWord_32 : decode cX9_nameOfWord 32 = .ok (.bipush (-3), 2) := by decide +kernel
theorem dX9_nameOfWord_34 : decode cX9_nameOfWord 34 = .ok (.ireturn, 1) := by decide +kernel
theorem dX9_nameOfWord_35 : decode cX9_nameOfWord 35 = .ok (.aload_n 0, 1) := by decide +kernel
theorem dX9_nameOfWord_36 : decode cX9_nameOfWord 36 = .ok (.ldc 131, 2) := by decide +kernel
theorem dX9_nameOfWord_38 : decode cX9_nameOfWord 38 = .ok (.invokevirtual 123, 3) := by decide +kernel
theorem dX9_nameOfWord_41 : decode cX9_nameOfWord 41 = .ok (.ifCond .eq 6, 3) := by decide +kernel
theorem dX9_nameOfWord_44 : decode cX9_nameOfWord 44 = .ok (.bipush (-4), 2) := by decide +kernel
theorem dX9_nameOfWord_46 : decode cX9_nameOfWord 46 = .ok (.ireturn, 1) := by decide +kernel
theorem dX9_nameOfWord_47 : decode cX9_nameOfWord 47 = .ok (.aload_n 0, 1) := by decide +kernel
theorem dX9_nameOfWord_48 : decode cX9_nameOfWord 48 = .ok (.ldc 133, 2) := by decide +kernel
theorem dX9_nameOfWord_50 : decode cX9_nameOfWord 50 = .ok (.invokevirtual 123, 3) := by decide +kernel
theorem dX9_nameOfWord_53 : decode cX9_nameOfWord 53 = .ok (.ifCond .eq 6, 3) := by decide +kernel
theorem dX9_nameOfWord_56 : decode cX9_nameOfWord 56 = .ok (.bipush (-5), 2) := by decide +kernel
theorem dX9_nameOfWord_58 : decode cX9_nameOfWord 58 = .ok (.ireturn, 1) := by decide +kernel
theorem dX9_nameOfWord_59 : decode cX9_nameOfWord 59 = .ok (.aload_n 0, 1) := by decide +kernel
theorem dX9_nameOfWord_60 : decode cX9_nameOfWord 60 = .ok (.ldc 135, 2) := by decide +kernel
theorem dX9_nameOfWord_62 : decode cX9_nameOfWord 62 = .ok (.invokevirtual 123, 3) := by decide +kernel
theorem dX9_nameOfWord_65 : decode cX9_nameOfWord 65 = .ok (.ifCond .eq 8, 3) := by decide +kernel
theorem dX9_nameOfWord_68 : decode cX9_nameOfWord 68 = .ok (.bipush (-6), 2) := by decide +kernel
theorem dX9_nameOfWord_70 : decode cX9_nameOfWord 70 = .ok (.goto 4, 3) := by decide +kernel
theorem dX9_nameOfWord_73 : decode cX9_nameOfWord 73 = .ok (.iconst 0, 1) := by decide +kernel
theorem dX9_nameOfWord_74 : decode cX9_nameOfWord 74 = .ok (.ireturn, 1) := by decide +kernel
theorem dX9_keyOfWord_0 : decode cX9_keyOfWord 0 = .ok (.aload_n 0, 1) := by decide +kernel
theorem dX9_keyOfWord_1 : decode cX9_keyOfWord 1 = .ok (.ldc 137, 2) := by decide +kernel
theorem dX9_keyOfWord_3 : decode cX9_keyOfWord 3 = .ok (.invokevirtual 123, 3) := by decide +kernel
theorem dX9_keyOfWord_6 : decode cX9_keyOfWord 6 = .ok (.ifCond .eq 5, 3) := by decide +kernel
theorem dX9_keyOfWord_9 : decode cX9_keyOfWord 9 = .ok (.iconst 3, 1) := by decide +kernel
theorem dX9_keyOfWord_10 : decode cX9_keyOfWord 10 = .ok (.ireturn, 1) := by decide +kernel
theorem dX9_keyOfWord_11 : decode cX9_keyOfWord 11 = .ok (.aload_n 0, 1) := by decide +kernel
theorem dX9_keyOfWord_12 : decode cX9_keyOfWord 12 = .ok (.ldc 139, 2) := by decide +kernel
theorem dX9_keyOfWord_14 : decode cX9_keyOfWord 14 = .ok (.invokevirtual 123, 3) := by decide +kernel
theorem dX9_keyOfWord_17 : decode cX9_keyOfWord 17 = .ok (.ifCond .eq 5, 3) := by decide +kernel
theorem dX9_keyOfWord_20 : decode cX9_keyOfWord 20 = .ok (.iconst 4, 1) := by decide +kernel
theorem dX9_keyOfWord_21 : decode cX9_keyOfWord 21 = .ok (.ireturn, 1) := by decide +kernel
theorem dX9_keyOfWord_22 : decode cX9_keyOfWord 22 = .ok (.aload_n 0, 1) := by decide +kernel
theorem dX9_keyOfWord_23 : decode cX9_keyOfWord 23 = .ok (.ldc 141, 2) := by decide +kernel
theorem dX9_keyOfWord_25 : decode cX9_keyOfWord 25 = .ok (.invokevirtual 123, 3) := by decide +kernel
theorem dX9_keyOfWord_28 : decode cX9_keyOfWord 28 = .ok (.ifCond .eq 5, 3) := by decide +kernel
theorem dX9_keyOfWord_31 : decode cX9_keyOfWord 31 = .ok (.iconst 5, 1) := by decide +kernel
theorem dX9_keyOfWord_32 : decode cX9_keyOfWord 32 = .ok (.ireturn, 1) := by decide +kernel
theorem dX9_keyOfWord_33 : decode cX9_keyOfWord 33 = .ok (.aload_n 0, 1) := by decide +kernel
theorem dX9_keyOfWord_34 : decode cX9_keyOfWord 34 = .ok (.ldc 143, 2) := by decide +kernel
theorem dX9_keyOfWord_36 : decode cX9_keyOfWord 36 = .ok (.invokevirtual 123, 3) := by decide +kernel
theorem dX9_keyOfWord_39 : decode cX9_keyOfWord 39 = .ok (.ifCond .eq 6, 3) := by decide +kernel
theorem dX9_keyOfWord_42 : decode cX9_keyOfWord 42 = .ok (.bipush 6, 2) := by decide +kernel
theorem dX9_keyOfWord_44 : decode cX9_keyOfWord 44 = .ok (.ireturn, 1) := by decide +kernel
theorem dX9_keyOfWord_45 : decode cX9_keyOfWord 45 = .ok (.aload_n 0, 1) := by decide +kernel
theorem dX9_keyOfWord_46 : decode cX9_keyOfWord 46 = .ok (.ldc 145, 2) := by decide +kernel
theorem dX9_keyOfWord_48 : decode cX9_keyOfWord 48 = .ok (.invokevirtual 123, 3) := by decide +kernel
theorem dX9_keyOfWord_51 : decode cX9_keyOfWord 51 = .ok (.ifCond .eq 6, 3) := by decide +kernel
theorem dX9_keyOfWord_54 : decode cX9_keyOfWord 54 = .ok (.bipush 7, 2) := by decide +kernel
theorem dX9_keyOfWord_56 : decode cX9_keyOfWord 56 = .ok (.ireturn, 1) := by decide +kernel
theorem dX9_keyOfWord_57 : decode cX9_keyOfWord 57 = .ok (.aload_n 0, 1) := by decide +kernel
theorem dX9_keyOfWord_58 : decode cX9_keyOfWord 58 = .ok (.ldc 147, 2) := by decide +kernel
theorem dX9_keyOfWord_60 : decode cX9_keyOfWord 60 = .ok (.invokevirtual 123, 3) := by decide +kernel
theorem dX9_keyOfWord_63 : decode cX9_keyOfWord 63 = .ok (.ifCond .eq 8, 3) := by decide +kernel
theorem dX9_keyOfWord_66 : decode cX9_keyOfWord 66 = .ok (.bipush 8, 2) := by decide +kernel
theorem dX9_keyOfWord_68 : decode cX9_keyOfWord 68 = .ok (.goto 5, 3) := by decide +kernel
theorem dX9_keyOfWord_71 : decode cX9_keyOfWord 71 = .ok (.bipush 9, 2) := by decide +kernel
theorem dX9_keyOfWord_73 : decode cX9_keyOfWord 73 = .ok (.ireturn, 1) := by decide +kernel
theorem dX9_isWord_0 : decode cX9_isWord 0 = .ok (.aload_n 1, 1) := by decide +kernel
theorem dX9_isWord_1 : decode cX9_isWord 1 = .ok (.invokevirtual 38, 3) := by decide +kernel
theorem dX9_isWord_4 : decode cX9_isWord 4 = .ok (.aload_n 0, 1) := by decide +kernel
theorem dX9_isWord_5 : decode cX9_isWord 5 = .ok (.getfield 23, 3) := by decide +kernel
theorem dX9_isWord_8 : decode cX9_isWord 8 = .ok (.aload_n 0, 1) := by decide +kernel
theorem dX9_isWord_9 : decode cX9_isWord 9 = .ok (.getfield 26, 3) := by decide +kernel
theorem dX9_isWord_12 : decode cX9_isWord 12 = .ok (.isub, 1) := by decide +kernel
theorem dX9_isWord_13 : decode cX9_isWord 13 = .ok (.if_icmp .eq 5, 3) := by decide +kernel
theorem dX9_isWord_16 : decode cX9_isWord 16 = .ok (.iconst 0, 1) := by decide +kernel
theorem dX9_isWord_17 : decode cX9_isWord 17 = .ok (.ireturn, 1) := by decide +kernel
theorem dX9_isWord_18 : decode cX9_isWord 18 = .ok (.iconst 0, 1) := by decide +kernel
theorem dX9_isWord_19 : decode cX9_isWord 19 = .ok (.istore_n 2, 1) := by decide +kernel
theorem dX9_isWord_20 : decode cX9_isWord 20 = .ok (.iload_n 2, 1) := by decide +kernel
theorem dX9_isWord_21 : decode cX9_isWord 21 = .ok (.aload_n 1, 1) := by decide +kernel
theorem dX9_isWord_22 : decode cX9_isWord 22 = .ok (.invokevirtual 38, 3) := by decide +kernel
theorem dX9_isWord_25 : decode cX9_isWord 25 = .ok (.if_icmp .ge 45, 3) := by decide +kernel
theorem dX9_isWord_28 : decode cX9_isWord 28 = .ok (.aload_n 0, 1) := by decide +kernel
theorem dX9_isWord_29 : decode cX9_isWord 29 = .ok (.getfield 26, 3) := by decide +kernel
theorem dX9_isWord_32 : decode cX9_isWord 32 = .ok (.iload_n 2, 1) := by decide +kernel
theorem dX9_isWord_33 : decode cX9_isWord 33 = .ok (.iadd, 1) := by decide +kernel
theorem dX9_isWord_34 : decode cX9_isWord 34 = .ok (.istore_n 3, 1) := by decide +kernel
theorem dX9_isWord_35 : decode cX9_isWord 35 = .ok (.iload_n 3, 1) := by decide +kernel
theorem dX9_isWord_36 : decode cX9_isWord 36 = .ok (.ifCond .lt 26, 3) := by decide +kernel
theorem dX9_isWord_39 : decode cX9_isWord 39 = .ok (.iload_n 3, 1) := by decide +kernel
theorem dX9_isWord_40 : decode cX9_isWord 40 = .ok (.aload_n 0, 1) := by decide +kernel
theorem dX9_isWord_41 : decode cX9_isWord 41 = .ok (.getfield 9, 3) := by decide +kernel
theorem dX9_isWord_44 : decode cX9_isWord 44 = .ok (.arraylength, 1) := by decide +kernel
theorem dX9_isWord_45 : decode cX9_isWord 45 = .ok (.if_icmp .ge 17, 3) := by decide +kernel
theorem dX9_isWord_48 : decode cX9_isWord 48 = .ok (.aload_n 1, 1) := by decide +kernel
theorem dX9_isWord_49 : decode cX9_isWord 49 = .ok (.iload_n 2, 1) := by decide +kernel
theorem dX9_isWord_50 : decode cX9_isWord 50 = .ok (.invokevirtual 44, 3) := by decide +kernel
theorem dX9_isWord_53 : decode cX9_isWord 53 = .ok (.aload_n 0, 1) := by decide +kernel
theorem dX9_isWord_54 : decode cX9_isWord 54 = .ok (.getfield 9, 3) := by decide +kernel
theorem dX9_isWord_57 : decode cX9_isWord 57 = .ok (.iload_n 3, 1) := by decide +kernel
theorem dX9_isWord_58 : decode cX9_isWord 58 = .ok (.iaload, 1) := by decide +kernel
theorem dX9_isWord_59 : decode cX9_isWord 59 = .ok (.if_icmp .eq 5, 3) := by decide +kernel
theorem dX9_isWord_62 : decode cX9_isWord 62 = .ok (.iconst 0, 1) := by decide +kernel
theorem dX9_isWord_63 : decode cX9_isWord 63 = .ok (.ireturn, 1) := by decide +kernel
theorem dX9_isWord_64 : decode cX9_isWord 64 = .ok (.iinc 2 1, 3) := by decide +kernel
theorem dX9_isWord_67 : decode cX9_isWord 67 = .ok (.goto (-47), 3) := by decide +kernel
theorem dX9_isWord_70 : decode cX9_isWord 70 = .ok (.iconst 1, 1) := by decide +kernel
theorem dX9_isWord_71 : decode cX9_isWord 71 = .ok (.ireturn, 1) := by decide +kernel
theorem dX10_init_0 : decode cX10_init 0 = .ok (.aload_n 0, 1) := by decide +kernel
theorem dX10_init_1 : decode cX10_init 1 = .ok (.invokespecial 3, 3) := by decide +kernel
theorem dX10_init_4 : decode cX10_init 4 = .ok (.aload_n 0, 1) := by decide +kernel
theorem dX10_init_5 : decode cX10_init 5 = .ok (.sipush 160, 3) := by decide +kernel
theorem dX10_init_8 : decode cX10_init 8 = .ok (.newarray .int, 2) := by decide +kernel
theorem dX10_init_10 : decode cX10_init 10 = .ok (.putfield 9, 3) := by decide +kernel
theorem dX10_init_13 : decode cX10_init 13 = .ok (.aload_n 0, 1) := by decide +kernel
theorem dX10_init_14 : decode cX10_init 14 = .ok (.sipush 160, 3) := by decide +kernel
theorem dX10_init_17 : decode cX10_init 17 = .ok (.newarray .int, 2) := by decide +kernel
theorem dX10_init_19 : decode cX10_init 19 = .ok (.putfield 15, 3) := by decide +kernel
theorem dX10_init_22 : decode cX10_init 22 = .ok (.aload_n 0, 1) := by decide +kernel
theorem dX10_init_23 : decode cX10_init 23 = .ok (.bipush 6, 2) := by decide +kernel
theorem dX10_init_25 : decode cX10_init 25 = .ok (.newarray .int, 2) := by decide +kernel
theorem dX10_init_27 : decode cX10_init 27 = .ok (.putfield 18, 3) := by decide +kernel
theorem dX10_init_30 : decode cX10_init 30 = .ok (.aload_n 0, 1) := by decide +kernel
theorem dX10_init_31 : decode cX10_init 31 = .ok (.iconst 3, 1) := by decide +kernel
theorem dX10_init_32 : decode cX10_init 32 = .ok (.newarray .int, 2) := by decide +kernel
theorem dX10_init_34 : decode cX10_init 34 = .ok (.putfield 21, 3) := by decide +kernel
theorem dX10_init_37 : decode cX10_init 37 = .ok (.aload_n 0, 1) := by decide +kernel
theorem dX10_init_38 : decode cX10_init 38 = .ok (.iconst 0, 1) := by decide +kernel
theorem dX10_init_39 : decode cX10_init 39 = .ok (.putfield 24, 3) := by decide +kernel
theorem dX10_init_42 : decode cX10_init 42 = .ok (.aload_n 0, 1) := by decide +kernel
theorem dX10_init_43 : decode cX10_init 43 = .ok (.iload_n 1, 1) := by decide +kernel
theorem dX10_init_44 : decode cX10_init 44 = .ok (.putfield 28, 3) := by decide +kernel
theorem dX10_init_47 : decode cX10_init 47 = .ok (.return_, 1) := by decide +kernel
theorem dX10_clear_0 : decode cX10_clear 0 = .ok (.aload_n 0, 1) := by decide +kernel
theorem dX10_clear_1 : decode cX10_clear 1 = .ok (.iconst 0, 1) := by decide +kernel
theorem dX10_clear_2 : decode cX10_clear 2 = .ok (.putfield 24, 3) := by decide +kernel
theorem dX10_clear_5 : decode cX10_clear 5 = .ok (.return_, 1) := by decide +kernel
theorem dX10_add_0 : decode cX10_add 0 = .ok (.aload_n 0, 1) := by decide +kernel
theorem dX10_add_1 : decode cX10_add 1 = .ok (.getfield 24, 3) := by decide +kernel
theorem dX10_add_4 : decode cX10_add 4 = .ok (.aload_n 0, 1) := by decide +kernel
theorem dX10_add_5 : decode cX10_add 5 = .ok (.getfield 9, 3) := by decide +kernel
theorem dX10_add_8 : decode cX10_add 8 = .ok (.arraylength, 1) := by decide +kernel
theorem dX10_add_9 : decode cX10_add 9 = .ok (.if_icmp .ge 23, 3) := by decide +kernel
theorem dX10_add_12 : decode cX10_add 12 = .ok (.aload_n 0, 1) := by decide +kernel
theorem dX10_add_13 : decode cX10_add 13 = .ok (.getfield 9, 3) := by decide +kernel
theorem dX10_add_16 : decode cX10_add 16 = .ok (.aload_n 0, 1) := by decide +kernel
theorem dX10_add_17 : decode cX10_add 17 = .ok (.getfield 24, 3) := by decide +kernel
theorem dX10_add_20 : decode cX10_add 20 = .ok (.iload_n 1, 1) := by decide +kernel
theorem dX10_add_21 : decode cX10_add 21 = .ok (.iastore, 1) := by decide +kernel
theorem dX10_add_22 : decode cX10_add 22 = .ok (.aload_n 0, 1) := by decide +kernel
theorem dX10_add_23 : decode cX10_add 23 = .ok (.dup, 1) := by decide +kernel
theorem dX10_add_24 : decode cX10_add 24 = .ok (.getfield 24, 3) := by decide +kernel
theorem dX10_add_27 : decode cX10_add 27 = .ok (.iconst 1, 1) := by decide +kernel
theorem dX10_add_28 : decode cX10_add 28 = .ok (.iadd, 1) := by decide +kernel
theorem dX10_add_29 : decode cX10_add 29 = .ok (.putfield 24, 3) := by decide +kernel
theorem dX10_add_32 : decode cX10_add 32 = .ok (.return_, 1) := by decide +kernel
theorem dX10_endPart_0 : decode cX10_endPart 0 = .ok (.iload_n 1, 1) := by decide +kernel
theorem dX10_endPart_1 : decode cX10_endPart 1 = .ok (.ifCond .lt 22, 3) := by decide +kernel
theorem dX10_endPart_4 : decode cX10_endPart 4 = .ok (.iload_n 1, 1) := by decide +kernel
theorem dX10_endPart_5 : decode cX10_endPart 5 = .ok (.aload_n 0, 1) := by decide +kernel
theorem dX10_endPart_6 : decode cX10_endPart 6 = .ok (.getfield 21, 3) := by decide +kernel
theorem dX10_endPart_9 : decode cX10_endPart 9 = .ok (.arraylength, 1) := by decide +kernel
theorem dX10_endPart_10 : decode cX10_endPart 10 = .ok (.if_icmp .ge 13, 3) := by decide +kernel
theorem dX10_endPart_13 : decode cX10_endPart 13 = .ok (.aload_n 0, 1) := by decide +kernel
theorem dX10_endPart_14 : decode cX10_endPart 14 = .ok (.getfield 21, 3) := by decide +kernel
theorem dX10_endPart_17 : decode cX10_endPart 17 = .ok (.iload_n 1, 1) := by decide +kernel
theorem dX10_endPart_18 : decode cX10_endPart 18 = .ok (.aload_n 0, 1) := by decide +kernel
theorem dX10_endPart_19 : decode cX10_endPart 19 = .ok (.getfield 24, 3) := by decide +kernel
theorem dX10_endPart_22 : decode cX10_endPart 22 = .ok (.iastore, 1) := by decide +kernel
theorem dX10_endPart_23 : decode cX10_endPart 23 = .ok (.return_, 1) := by decide +kernel
theorem dX10_reckon_0 : decode cX10_reckon 0 = .ok (.iload_n 1, 1) := by decide +kernel
theorem dX10_reckon_1 : decode cX10_reckon 1 = .ok (.ifCond .lt 12, 3) := by decide +kernel
theorem dX10_reckon_4 : decode cX10_reckon 4 = .ok (.iload_n 1, 1) := by decide +kernel
theorem dX10_reckon_5 : decode cX10_reckon 5 = .ok (.aload_n 0, 1) := by decide +kernel
theorem dX10_reckon_6 : decode cX10_reckon 6 = .ok (.getfield 21, 3) := by decide +kernel
theorem dX10_reckon_9 : decode cX10_reckon 9 = .ok (.arraylength, 1) := by decide +kernel
theorem dX10_reckon_10 : decode cX10_reckon 10 = .ok (.if_icmp .lt 5, 3) := by decide +kernel
theorem dX10_reckon_13 : decode cX10_reckon 13 = .ok (.iconst 0, 1) := by decide +kernel
theorem dX10_reckon_14 : decode cX10_reckon 14 = .ok (.ireturn, 1) := by decide +kernel
theorem dX10_reckon_15 : decode cX10_reckon 15 = .ok (.aload_n 0, 1) := by decide +kernel
theorem dX10_reckon_16 : decode cX10_reckon 16 = .ok (.getfield 18, 3) := by decide +kernel
theorem dX10_reckon_19 : decode cX10_reckon 19 = .ok (.iconst 0, 1) := by decide +kernel
theorem dX10_reckon_20 : decode cX10_reckon 20 = .ok (.iload 4, 2) := by decide +kernel
theorem dX10_reckon_22 : decode cX10_reckon 22 = .ok (.iastore, 1) := by decide +kernel
theorem dX10_reckon_23 : decode cX10_reckon 23 = .ok (.aload_n 0, 1) := by decide +kernel
theorem dX10_reckon_24 : decode cX10_reckon 24 = .ok (.getfield 18, 3) := by decide +kernel
theorem dX10_reckon_27 : decode cX10_reckon 27 = .ok (.iconst 1, 1) := by decide +kernel
theorem dX10_reckon_28 : decode cX10_reckon 28 = .ok (.iload_n 3, 1) := by decide +kernel
theorem dX10_reckon_29 : decode cX10_reckon 29 = .ok (.iastore, 1) := by decide +kernel
theorem dX10_reckon_30 : decode cX10_reckon 30 = .ok (.aload_n 0, 1) := by decide +kernel
theorem dX10_reckon_31 : decode cX10_reckon 31 = .ok (.getfield 18, 3) := by decide +kernel
theorem dX10_reckon_34 : decode cX10_reckon 34 = .ok (.iconst 2, 1) := by decide +kernel
theorem dX10_reckon_35 : decode cX10_reckon 35 = .ok (.aload_n 2, 1) := by decide +kernel
theorem dX10_reckon_36 : decode cX10_reckon 36 = .ok (.getfield 31, 3) := by decide +kernel
theorem dX10_reckon_39 : decode cX10_reckon 39 = .ok (.iastore, 1) := by decide +kernel
theorem dX10_reckon_40 : decode cX10_reckon 40 = .ok (.aload_n 0, 1) := by decide +kernel
theorem dX10_reckon_41 : decode cX10_reckon 41 = .ok (.getfield 18, 3) := by decide +kernel
theorem dX10_reckon_44 : decode cX10_reckon 44 = .ok (.iconst 3, 1) := by decide +kernel
theorem dX10_reckon_45 : decode cX10_reckon 45 = .ok (.aload_n 2, 1) := by decide +kernel
theorem dX10_reckon_46 : decode cX10_reckon 46 = .ok (.getfield 36, 3) := by decide +kernel
theorem dX10_reckon_49 : decode cX10_reckon 49 = .ok (.iastore, 1) := by decide +kernel
theorem dX10_reckon_50 : decode cX10_reckon 50 = .ok (.aload_n 0, 1) := by decide +kernel
theorem dX10_reckon_51 : decode cX10_reckon 51 = .ok (.getfield 18, 3) := by decide +kernel
theorem dX10_reckon_54 : decode cX10_reckon 54 = .ok (.iconst 4, 1) := by decide +kernel
theorem dX10_reckon_55 : decode cX10_reckon 55 = .ok (.iload 5, 2) := by decide +kernel
theorem dX10_reckon_57 : decode cX10_reckon 57 = .ok (.iastore, 1) := by decide +kernel
theorem dX10_reckon_58 : decode cX10_reckon 58 = .ok (.aload_n 0, 1) := by decide +kernel
theorem dX10_reckon_59 : decode cX10_reckon 59 = .ok (.getfield 18, 3) := by decide +kernel
theorem dX10_reckon_62 : decode cX10_reckon 62 = .ok (.iconst 5, 1) := by decide +kernel
theorem dX10_reckon_63 : decode cX10_reckon 63 = .ok (.iload 6, 2) := by decide +kernel
theorem dX10_reckon_65 : decode cX10_reckon 65 = .ok (.iastore, 1) := by decide +kernel
theorem dX10_reckon_66 : decode cX10_reckon 66 = .ok (.iconst 0, 1) := by decide +kernel
theorem dX10_reckon_67 : decode cX10_reckon 67 = .ok (.istore 7, 2) := by decide +kernel
theorem dX10_reckon_69 : decode cX10_reckon 69 = .ok (.iload_n 1, 1) := by decide +kernel
theorem dX10_reckon_70 : decode cX10_reckon 70 = .ok (.ifCond .ne 7, 3) := by decide +kernel
theorem dX10_reckon_73 : decode cX10_reckon 73 = .ok (.iconst 0, 1) := by decide +kernel
theorem dX10_reckon_74 : decode cX10_reckon 74 = .ok (.goto 11, 3) := by decide +kernel
theorem dX10_reckon_77 : decode cX10_reckon 77 = .ok (.aload_n 0, 1) := by decide +kernel
theorem dX10_reckon_78 : decode cX10_reckon 78 = .ok (.getfield 21, 3) := by decide +kernel
theorem dX10_reckon_81 : decode cX10_reckon 81 = .ok (.iload_n 1, 1) := by decide +kernel
theorem dX10_reckon_82 : decode cX10_reckon 82 = .ok (.iconst 1, 1) := by decide +kernel
theorem dX10_reckon_83 : decode cX10_reckon 83 = .ok (.isub, 1) := by decide +kernel
theorem dX10_reckon_84 : decode cX10_reckon 84 = .ok (.iaload, 1) := by decide +kernel
theorem dX10_reckon_85 : decode cX10_reckon 85 = .ok (.istore 8, 2) := by decide +kernel
theorem dX10_reckon_87 : decode cX10_reckon 87 = .ok (.iload 8, 2) := by decide +kernel
theorem dX10_reckon_89 : decode cX10_reckon 89 = .ok (.aload_n 0, 1) := by decide +kernel
theorem dX10_reckon_90 : decode cX10_reckon 90 = .ok (.getfield 21, 3) := by decide +kernel
theorem dX10_reckon_93 : decode cX10_reckon 93 = .ok (.iload_n 1, 1) := by decide +kernel
theorem dX10_reckon_94 : decode cX10_reckon 94 = .ok (.iaload, 1) := by decide +kernel
theorem dX10_reckon_95 : decode cX10_reckon 95 = .ok (.if_icmp .ge 34, 3) := by decide +kernel
theorem dX10_reckon_98 : decode cX10_reckon 98 = .ok (.iload 8, 2) := by decide +kernel
theorem dX10_reckon_100 : decode cX10_reckon 100 = .ok (.aload_n 0, 1) := by decide +kernel
theorem dX10_reckon_101 : decode cX10_reckon 101 = .ok (.getfield 9, 3) := by decide +kernel
theorem dX10_reckon_104 : decode cX10_reckon 104 = .ok (.arraylength, 1) := by decide +kernel
theorem dX10_reckon_105 : decode cX10_reckon 105 = .ok (.if_icmp .ge 24, 3) := by decide +kernel
theorem dX10_reckon_108 : decode cX10_reckon 108 = .ok (.aload_n 0, 1) := by decide +kernel
theorem dX10_reckon_109 : decode cX10_reckon 109 = .ok (.aload_n 0, 1) := by decide +kernel
theorem dX10_reckon_110 : decode cX10_reckon 110 = .ok (.getfield 9, 3) := by decide +kernel
theorem dX10_reckon_113 : decode cX10_reckon 113 = .ok (.iload 8, 2) := by decide +kernel
theorem dX10_reckon_115 : decode cX10_reckon 115 = .ok (.iaload, 1) := by decide +kernel
theorem dX10_reckon_116 : decode cX10_reckon 116 = .ok (.iload 7, 2) := by decide +kernel
theorem dX10_reckon_118 : decode cX10_reckon 118 = .ok (.invokevirtual 39, 3) := by decide +kernel
theorem dX10_reckon_121 : decode cX10_reckon 121 = .ok (.istore 7, 2) := by decide +kernel
theorem dX10_reckon_123 : decode cX10_reckon 123 = .ok (.iinc 8 1, 3) := by decide +kernel
theorem dX10_reckon_126 : decode cX10_reckon 126 = .ok (.goto (-39), 3) := by decide +kernel
theorem dX10_reckon_129 : decode cX10_reckon 129 = .ok (.iload 7, 2) := by decide +kernel
theorem dX10_reckon_131 : decode cX10_reckon 131 = .ok (.ifCond .le 15, 3) := by decide +kernel
theorem dX10_reckon_134 : decode cX10_reckon 134 = .ok (.aload_n 0, 1) := by decide +kernel
theorem dX10_reckon_135 : decode cX10_reckon 135 = .ok (.getfield 15, 3) := by decide +kernel
theorem dX10_reckon_138 : decode cX10_reckon 138 = .ok (.iload 7, 2) := by decide +kernel
theorem dX10_reckon_140 : decode cX10_reckon 140 = .ok (.iconst 1, 1) := by decide +kernel
theorem dX10_reckon_141 : decode cX10_reckon 141 = .ok (.isub, 1) := by decide +kernel
theorem dX10_reckon_142 : decode cX10_reckon 142 = .ok (.iaload, 1) := by decide +kernel
theorem dX10_reckon_143 : decode cX10_reckon 143 = .ok (.goto 4, 3) := by decide +kernel
theorem dX10_reckon_146 : decode cX10_reckon 146 = .ok (.iconst 0, 1) := by decide +kernel
theorem dX10_reckon_147 : decode cX10_reckon 147 = .ok (.ireturn, 1) := by decide +kernel
theorem dX10_work_0 : decode cX10_work 0 = .ok (.iload_n 1, 1) := by decide +kernel
theorem dX10_work_1 : decode cX10_work 1 = .ok (.bipush (-6), 2) := by decide +kernel
theorem dX10_work_3 : decode cX10_work 3 = .ok (.if_icmp .lt 44, 3) := by decide +kernel
theorem dX10_work_6 : decode cX10_work 6 = .ok (.iload_n 2, 1) := by decide +kernel
theorem dX10_work_7 : decode cX10_work 7 = .ok (.ifCond .lt 12, 3) := by decide +kernel
theorem dX10_work_10 : decode cX10_work 10 = .ok (.iload_n 2, 1) := by decide +kernel
theorem dX10_work_11 : decode cX10_work 11 = .ok (.aload_n 0, 1) := by decide +kernel
theorem dX10_work_12 : decode cX10_work 12 = .ok (.getfield 15, 3) := by decide +kernel
theorem dX10_work_15 : decode cX10_work 15 = .ok (.arraylength, 1) := by decide +kernel
theorem dX10_work_16 : decode cX10_work 16 = .ok (.if_icmp .lt 5, 3) := by decide +kernel
theorem dX10_work_19 : decode cX10_work 19 = .ok (.iload_n 2, 1) := by decide +kernel
theorem dX10_work_20 : decode cX10_work 20 = .ok (.ireturn, 1) := by decide +kernel
theorem dX10_work_21 : decode cX10_work 21 = .ok (.aload_n 0, 1) := by decide +kernel
theorem dX10_work_22 : decode cX10_work 22 = .ok (.getfield 15, 3) := by decide +kernel
theorem dX10_work_25 : decode cX10_work 25 = .ok (.iload_n 2, 1) := by decide +kernel
theorem dX10_work_26 : decode cX10_work 26 = .ok (.iload_n 1, 1) := by decide +kernel
theorem dX10_work_27 : decode cX10_work 27 = .ok (.ifCond .lt 7, 3) := by decide +kernel
theorem dX10_work_30 : decode cX10_work 30 = .ok (.iload_n 1, 1) := by decide +kernel
theorem dX10_work_31 : decode cX10_work 31 = .ok (.goto 11, 3) := by decide +kernel
theorem dX10_work_34 : decode cX10_work 34 = .ok (.aload_n 0, 1) := by decide +kernel
theorem dX10_work_35 : decode cX10_work 35 = .ok (.getfield 18, 3) := by decide +kernel
theorem dX10_work_38 : decode cX10_work 38 = .ok (.iconst (-1), 1) := by decide +kernel
theorem dX10_work_39 : decode cX10_work 39 = .ok (.iload_n 1, 1) := by decide +kernel
theorem dX10_work_40 : decode cX10_work 40 = .ok (.isub, 1) := by decide +kernel
theorem dX10_work_41 : decode cX10_work 41 = .ok (.iaload, 1) := by decide +kernel
theorem dX10_work_42 : decode cX10_work 42 = .ok (.iastore, 1) := by decide +kernel
theorem dX10_work_43 : decode cX10_work 43 = .ok (.iload_n 2, 1) := by decide +kernel
theorem dX10_work_44 : decode cX10_work 44 = .ok (.iconst 1, 1) := by decide +kernel
theorem dX10_work_45 : decode cX10_work 45 = .ok (.iadd, 1) := by decide +kernel
theorem dX10_work_46 : decode cX10_work 46 = .ok (.ireturn, 1) := by decide +kernel
theorem dX10_work_47 : decode cX10_work 47 = .ok (.iload_n 1, 1) := by decide +kernel
theorem dX10_work_48 : decode cX10_work 48 = .ok (.bipush (-8), 2) := by decide +kernel
theorem dX10_work_50 : decode cX10_work 50 = .ok (.if_icmp .lt 61, 3) := by decide +kernel
theorem dX10_work_53 : decode cX10_work 53 = .ok (.iload_n 2, 1) := by decide +kernel
theorem dX10_work_54 : decode cX10_work 54 = .ok (.iconst 1, 1) := by decide +kernel
theorem dX10_work_55 : decode cX10_work 55 = .ok (.if_icmp .lt 54, 3) := by decide +kernel
theorem dX10_work_58 : decode cX10_work 58 = .ok (.iload_n 2, 1) := by decide +kernel
theorem dX10_work_59 : decode cX10_work 59 = .ok (.aload_n 0, 1) := by decide +kernel
theorem dX10_work_60 : decode cX10_work 60 = .ok (.getfield 15, 3) := by decide +kernel
theorem dX10_work_63 : decode cX10_work 63 = .ok (.arraylength, 1) := by decide +kernel
theorem dX10_work_64 : decode cX10_work 64 = .ok (.if_icmp .gt 45, 3) := by decide +kernel
theorem dX10_work_67 : decode cX10_work 67 = .ok (.aload_n 0, 1) := by decide +kernel
theorem dX10_work_68 : decode cX10_work 68 = .ok (.getfield 15, 3) := by decide +kernel
theorem dX10_work_71 : decode cX10_work 71 = .ok (.iload_n 2, 1) := by decide +kernel
theorem dX10_work_72 : decode cX10_work 72 = .ok (.iconst 1, 1) := by decide +kernel
theorem dX10_work_73 : decode cX10_work 73 = .ok (.isub, 1) := by decide +kernel
theorem dX10_work_74 : decode cX10_work 74 = .ok (.iload_n 1, 1) := by decide +kernel
theorem dX10_work_75 : decode cX10_work 75 = .ok (.bipush (-8), 2) := by decide +kernel
theorem dX10_work_77 : decode cX10_work 77 = .ok (.if_icmp .ne 15, 3) := by decide +kernel
theorem dX10_work_80 : decode cX10_work 80 = .ok (.aload_n 0, 1) := by decide +kernel
theorem dX10_work_81 : decode cX10_work 81 = .ok (.getfield 15, 3) := by decide +kernel
theorem dX10_work_84 : decode cX10_work 84 = .ok (.iload_n 2, 1) := by decide +kernel
theorem dX10_work_85 : decode cX10_work 85 = .ok (.iconst 1, 1) := by decide +kernel
theorem dX10_work_86 : decode cX10_work 86 = .ok (.isub, 1) := by decide +kernel
theorem dX10_work_87 : decode cX10_work 87 = .ok (.iaload, 1) := by decide +kernel
theorem dX10_work_88 : decode cX10_work 88 = .ok (.ineg, 1) := by decide +kernel
theorem dX10_work_89 : decode cX10_work 89 = .ok (.goto 19, 3) := by decide +kernel
theorem dX10_work_92 : decode cX10_work 92 = .ok (.aload_n 0, 1) := by decide +kernel
theorem dX10_work_93 : decode cX10_work 93 = .ok (.getfield 15, 3) := by decide +kernel
theorem dX10_work_96 : decode cX10_work 96 = .ok (.iload_n 2, 1) := by decide +kernel
theorem dX10_work_97 : decode cX10_work 97 = .ok (.iconst 1, 1) := by decide +kernel
theorem dX10_work_98 : decode cX10_work 98 = .ok (.isub, 1) := by decide +kernel
theorem dX10_work_99 : decode cX10_work 99 = .ok (.iaload, 1) := by decide +kernel
theorem dX10_work_100 : decode cX10_work 100 = .ok (.ifCond .ne 7, 3) := by decide +kernel
theorem dX10_work_103 : decode cX10_work 103 = .ok (.iconst 1, 1) := by decide +kernel
theorem dX10_work_104 : decode cX10_work 104 = .ok (.goto 4, 3) := by decide +kernel
theorem dX10_work_107 : decode cX10_work 107 = .ok (.iconst 0, 1) := by decide +kernel
theorem dX10_work_108 : decode cX10_work 108 = .ok (.iastore, 1) := by decide +kernel
theorem dX10_work_109 : decode cX10_work 109 = .ok (.iload_n 2, 1) := by decide +kernel
theorem dX10_work_110 : decode cX10_work 110 = .ok (.ireturn, 1) := by decide +kernel
theorem dX10_work_111 : decode cX10_work 111 = .ok (.iload_n 2, 1) := by decide +kernel
theorem dX10_work_112 : decode cX10_work 112 = .ok (.iconst 2, 1) := by decide +kernel
theorem dX10_work_113 : decode cX10_work 113 = .ok (.if_icmp .lt 12, 3) := by decide +kernel
theorem dX10_work_116 : decode cX10_work 116 = .ok (.iload_n 2, 1) := by decide +kernel
theorem dX10_work_117 : decode cX10_work 117 = .ok (.aload_n 0, 1) := by decide +kernel
theorem dX10_work_118 : decode cX10_work 118 = .ok (.getfield 15, 3) := by decide +kernel
theorem dX10_work_121 : decode cX10_work 121 = .ok (.arraylength, 1) := by decide +kernel
theorem dX10_work_122 : decode cX10_work 122 = .ok (.if_icmp .le 5, 3) := by decide +kernel
theorem dX10_work_125 : decode cX10_work 125 = .ok (.iload_n 2, 1) := by decide +kernel
theorem dX10_work_126 : decode cX10_work 126 = .ok (.ireturn, 1) := by decide +kernel
theorem dX10_work_127 : decode cX10_work 127 = .ok (.aload_n 0, 1) := by decide +kernel
theorem dX10_work_128 : decode cX10_work 128 = .ok (.getfield 15, 3) := by decide +kernel
theorem dX10_work_131 : decode cX10_work 131 = .ok (.iload_n 2, 1) := by decide +kernel
theorem dX10_work_132 : decode cX10_work 132 = .ok (.iconst 2, 1) := by decide +kernel
theorem dX10_work_133 : decode cX10_work 133 = .ok (.isub, 1) := by decide +kernel
theorem dX10_work_134 : decode cX10_work 134 = .ok (.iload_n 1, 1) := by decide +kernel
theorem dX10_work_135 : decode cX10_work 135 = .ok (.aload_n 0, 1) := by decide +kernel
theorem dX10_work_136 : decode cX10_work 136 = .ok (.getfield 15, 3) := by decide +kernel
theorem dX10_work_139 : decode cX10_work 139 = .ok (.iload_n 2, 1) := by decide +kernel
theorem dX10_work_140 : decode cX10_work 140 = .ok (.iconst 2, 1) := by decide +kernel
theorem dX10_work_141 : decode cX10_work 141 = .ok (.isub, 1) := by decide +kernel
theorem dX10_work_142 : decode cX10_work 142 = .ok (.iaload, 1) := by decide +kernel
theorem dX10_work_143 : decode cX10_work 143 = .ok (.aload_n 0, 1) := by decide +kernel
theorem dX10_work_144 : decode cX10_work 144 = .ok (.getfield 15, 3) := by decide +kernel
theorem dX10_work_147 : decode cX10_work 147 = .ok (.iload_n 2, 1) := by decide +kernel
theorem dX10_work_148 : decode cX10_work 148 = .ok (.iconst 1, 1) := by decide +kernel
theorem dX10_work_149 : decode cX10_work 149 = .ok (.isub, 1) := by decide +kernel
theorem dX10_work_150 : decode cX10_work 150 = .ok (.iaload, 1) := by decide +kernel
theorem dX10_work_151 : decode cX10_work 151 = .ok (.invokestatic 43, 3) := by decide +kernel
theorem dX10_work_154 : decode cX10_work 154 = .ok (.iastore, 1) := by decide +kernel
theorem dX10_work_155 : decode cX10_work 155 = .ok (.iload_n 2, 1) := by decide +kernel
theorem dX10_work_156 : decode cX10_work 156 = .ok (.iconst 1, 1) := by decide +kernel
theorem dX10_work_157 : decode cX10_work 157 = .ok (.isub, 1) := by decide +kernel
theorem dX10_work_158 : decode cX10_work 158 = .ok (.ireturn, 1) := by decide +kernel
theorem dX10_join_0 : decode cX10_join 0 = .ok (.iload_n 0, 1) := by decide +kernel
theorem dX10_join_1 : decode cX10_join 1 = .ok (.tableswitch 97 (-14) (-9) #[93, 89, 78, 67, 53, 39], 39) := by decide +kernel
theorem dX10_join_40 : decode cX10_join 40 = .ok (.iload_n 1, 1) := by decide +kernel
theorem dX10_join_41 : decode cX10_join 41 = .ok (.ifCond .ne 7, 3) := by decide +kernel
theorem dX10_join_44 : decode cX10_join 44 = .ok (.iload_n 2, 1) := by decide +kernel
theorem dX10_join_45 : decode cX10_join 45 = .ok (.ifCond .eq 7, 3) := by decide +kernel
theorem dX10_join_48 : decode cX10_join 48 = .ok (.iconst 1, 1) := by decide +kernel
theorem dX10_join_49 : decode cX10_join 49 = .ok (.goto 4, 3) := by decide +kernel
theorem dX10_join_52 : decode cX10_join 52 = .ok (.iconst 0, 1) := by decide +kernel
theorem dX10_join_53 : decode cX10_join 53 = .ok (.ireturn, 1) := by decide +kernel
theorem dX10_join_54 : decode cX10_join 54 = .ok (.iload_n 1, 1) := by decide +kernel
theorem dX10_join_55 : decode cX10_join 55 = .ok (.ifCond .eq 11, 3) := by decide +kernel
theorem dX10_join_58 : decode cX10_join 58 = .ok (.iload_n 2, 1) := by decide +kernel
theorem dX10_join_59 : decode cX10_join 59 = .ok (.ifCond .eq 7, 3) := by decide +kernel
theorem dX10_join_62 : decode cX10_join 62 = .ok (.iconst 1, 1) := by decide +kernel
theorem dX10_join_63 : decode cX10_join 63 = .ok (.goto 4, 3) := by decide +kernel
theorem dX10_join_66 : decode cX10_join 66 = .ok (.iconst 0, 1) := by decide +kernel
theorem dX10_join_67 : decode cX10_join 67 = .ok (.ireturn, 1) := by decide +kernel
theorem dX10_join_68 : decode cX10_join 68 = .ok (.iload_n 1, 1) := by decide +kernel
theorem dX10_join_69 : decode cX10_join 69 = .ok (.iload_n 2, 1) := by decide +kernel
theorem dX10_join_70 : decode cX10_join 70 = .ok (.if_icmp .ge 7, 3) := by decide +kernel
theorem dX10_join_73 : decode cX10_join 73 = .ok (.iconst 1, 1) := by decide +kernel
theorem dX10_join_74 : decode cX10_join 74 = .ok (.goto 4, 3) := by decide +kernel
theorem dX10_join_77 : decode cX10_join 77 = .ok (.iconst 0, 1) := by decide +kernel
theorem dX10_join_78 : decode cX10_join 78 = .ok (.ireturn, 1) := by decide +kernel
theorem dX10_join_79 : decode cX10_join 79 = .ok (.iload_n 1, 1) := by decide +kernel
theorem dX10_join_80 : decode cX10_join 80 = .ok (.iload_n 2, 1) := by decide +kernel
theorem dX10_join_81 : decode cX10_join 81 = .ok (.if_icmp .ne 7, 3) := by decide +kernel
theorem dX10_join_84 : decode cX10_join 84 = .ok (.iconst 1, 1) := by decide +kernel
theorem dX10_join_85 : decode cX10_join 85 = .ok (.goto 4, 3) := by decide +kernel
theorem dX10_join_88 : decode cX10_join 88 = .ok (.iconst 0, 1) := by decide +kernel
theorem dX10_join_89 : decode cX10_join 89 = .ok (.ireturn, 1) := by decide +kernel
theorem dX10_join_90 : decode cX10_join 90 = .ok (.iload_n 1, 1) := by decide +kernel
theorem dX10_join_91 : decode cX10_join 91 = .ok (.iload_n 2, 1) := by decide +kernel
theorem dX10_join_92 : decode cX10_join 92 = .ok (.iadd, 1) := by decide +kernel
theorem dX10_join_93 : decode cX10_join 93 = .ok (.ireturn, 1) := by decide +kernel
theorem dX10_join_94 : decode cX10_join 94 = .ok (.iload_n 1, 1) := by decide +kernel
theorem dX10_join_95 : decode cX10_join 95 = .ok (.iload_n 2, 1) := by decide +kernel
theorem dX10_join_96 : decode cX10_join 96 = .ok (.isub, 1) := by decide +kernel
theorem dX10_join_97 : decode cX10_join 97 = .ok (.ireturn, 1) := by decide +kernel
theorem dX10_join_98 : decode cX10_join 98 = .ok (.iload_n 1, 1) := by decide +kernel
theorem dX10_join_99 : decode cX10_join 99 = .ok (.iload_n 2, 1) := by decide +kernel
theorem dX10_join_100 : decode cX10_join 100 = .ok (.imul, 1) := by decide +kernel
theorem dX10_join_101 : decode cX10_join 101 = .ok (.ireturn, 1) := by decide +kernel
theorem dX11_init_0 : decode cX11_init 0 = .ok (.aload_n 0, 1) := by decide +kernel
theorem dX11_init_1 : decode cX11_init 1 = .ok (.invokespecial 1, 3) := by decide +kernel
theorem dX11_init_4 : decode cX11_init 4 = .ok (.aload_n 0, 1) := by decide +kernel
theorem dX11_init_5 : decode cX11_init 5 = .ok (.bipush 6, 2) := by decide +kernel
theorem dX11_init_7 : decode cX11_init 7 = .ok (.anewarray 9, 3) := by decide +kernel
theorem dX11_init_10 : decode cX11_init 10 = .ok (.putfield 11, 3) := by decide +kernel
theorem dX11_init_13 : decode cX11_init 13 = .ok (.aload_n 0, 1) := by decide +kernel
theorem dX11_init_14 : decode cX11_init 14 = .ok (.new 15, 3) := by decide +kernel
theorem dX11_init_17 : decode cX11_init 17 = .ok (.dup, 1) := by decide +kernel
theorem dX11_init_18 : decode cX11_init 18 = .ok (.invokespecial 17, 3) := by decide +kernel
theorem dX11_init_21 : decode cX11_init 21 = .ok (.putfield 18, 3) := by decide +kernel
theorem dX11_init_24 : decode cX11_init 24 = .ok (.aload_n 0, 1) := by decide +kernel
theorem dX11_init_25 : decode cX11_init 25 = .ok (.iconst 1, 1) := by decide +kernel
theorem dX11_init_26 : decode cX11_init 26 = .ok (.putfield 22, 3) := by decide +kernel
theorem dX11_init_29 : decode cX11_init 29 = .ok (.aload_n 0, 1) := by decide +kernel
theorem dX11_init_30 : decode cX11_init 30 = .ok (.bipush 6, 2) := by decide +kernel
theorem dX11_init_32 : decode cX11_init 32 = .ok (.anewarray 26, 3) := by decide +kernel
theorem dX11_init_35 : decode cX11_init 35 = .ok (.putfield 28, 3) := by decide +kernel
theorem dX11_init_38 : decode cX11_init 38 = .ok (.aload_n 0, 1) := by decide +kernel
theorem dX11_init_39 : decode cX11_init 39 = .ok (.iconst 0, 1) := by decide +kernel
theorem dX11_init_40 : decode cX11_init 40 = .ok (.putfield 32, 3) := by decide +kernel
theorem dX11_init_43 : decode cX11_init 43 = .ok (.aload_n 0, 1) := by decide +kernel
theorem dX11_init_44 : decode cX11_init 44 = .ok (.bipush 6, 2) := by decide +kernel
theorem dX11_init_46 : decode cX11_init 46 = .ok (.anewarray 35, 3) := by decide +kernel
theorem dX11_init_49 : decode cX11_init 49 = .ok (.putfield 37, 3) := by decide +kernel
theorem dX11_init_52 : decode cX11_init 52 = .ok (.aload_n 0, 1) := by decide +kernel
theorem dX11_init_53 : decode cX11_init 53 = .ok (.bipush 6, 2) := by decide +kernel
theorem dX11_init_55 : decode cX11_init 55 = .ok (.newarray .int, 2) := by decide +kernel
theorem dX11_init_57 : decode cX11_init 57 = .ok (.putfield 41, 3) := by decide +kernel
theorem dX11_init_60 : decode cX11_init 60 = .ok (.aload_n 0, 1) := by decide +kernel
theorem dX11_init_61 : decode cX11_init 61 = .ok (.bipush 6, 2) := by decide +kernel
theorem dX11_init_63 : decode cX11_init 63 = .ok (.newarray .int, 2) := by decide +kernel
theorem dX11_init_65 : decode cX11_init 65 = .ok (.putfield 45, 3) := by decide +kernel
theorem dX11_init_68 : decode cX11_init 68 = .ok (.aload_n 0, 1) := by decide +kernel
theorem dX11_init_69 : decode cX11_init 69 = .ok (.iconst (-1), 1) := by decide +kernel
theorem dX11_init_70 : decode cX11_init 70 = .ok (.putfield 48, 3) := by decide +kernel
theorem dX11_init_73 : decode cX11_init 73 = .ok (.aload_n 0, 1) := by decide +kernel
theorem dX11_init_74 : decode cX11_init 74 = .ok (.iconst 4, 1) := by decide +kernel
theorem dX11_init_75 : decode cX11_init 75 = .ok (.anewarray 51, 3) := by decide +kernel
theorem dX11_init_78 : decode cX11_init 78 = .ok (.putfield 53, 3) := by decide +kernel
theorem dX11_init_81 : decode cX11_init 81 = .ok (.aload_n 0, 1) := by decide +kernel
theorem dX11_init_82 : decode cX11_init 82 = .ok (.bipush 40, 2) := by decide +kernel
theorem dX11_init_84 : decode cX11_init 84 = .ok (.newarray .int, 2) := by decide +kernel
theorem dX11_init_86 : decode cX11_init 86 = .ok (.putfield 57, 3) := by decide +kernel
theorem dX11_init_89 : decode cX11_init 89 = .ok (.aload_n 0, 1) := by decide +kernel
theorem dX11_init_90 : decode cX11_init 90 = .ok (.iconst 0, 1) := by decide +kernel
theorem dX11_init_91 : decode cX11_init 91 = .ok (.putfield 60, 3) := by decide +kernel
theorem dX11_init_94 : decode cX11_init 94 = .ok (.aload_n 0, 1) := by decide +kernel
theorem dX11_init_95 : decode cX11_init 95 = .ok (.ldc2_w 63, 3) := by decide +kernel
theorem dX11_init_98 : decode cX11_init 98 = .ok (.putfield 65, 3) := by decide +kernel
theorem dX11_init_101 : decode cX11_init 101 = .ok (.aload_n 0, 1) := by decide +kernel
theorem dX11_init_102 : decode cX11_init 102 = .ok (.iconst (-1), 1) := by decide +kernel
theorem dX11_init_103 : decode cX11_init 103 = .ok (.putfield 69, 3) := by decide +kernel
theorem dX11_init_106 : decode cX11_init 106 = .ok (.aload_n 0, 1) := by decide +kernel
theorem dX11_init_107 : decode cX11_init 107 = .ok (.iconst (-1), 1) := by decide +kernel
theorem dX11_init_108 : decode cX11_init 108 = .ok (.putfield 72, 3) := by decide +kernel
theorem dX11_init_111 : decode cX11_init 111 = .ok (.aload_n 0, 1) := by decide +kernel
theorem dX11_init_112 : decode cX11_init 112 = .ok (.iconst (-1), 1) := by decide +kernel
theorem dX11_init_113 : decode cX11_init 113 = .ok (.putfield 75, 3) := by decide +kernel
theorem dX11_init_116 : decode cX11_init 116 = .ok (.iconst 0, 1) := by decide +kernel
theorem dX11_init_117 : decode cX11_init 117 = .ok (.istore_n 1, 1) := by decide +kernel
theorem dX11_init_118 : decode cX11_init 118 = .ok (.iload_n 1, 1) := by decide +kernel
theorem dX11_init_119 : decode cX11_init 119 = .ok (.bipush 6, 2) := by decide +kernel
theorem dX11_init_121 : decode cX11_init 121 = .ok (.if_icmp .ge 23, 3) := by decide +kernel
theorem dX11_init_124 : decode cX11_init 124 = .ok (.aload_n 0, 1) := by decide +kernel
theorem dX11_init_125 : decode cX11_init 125 = .ok (.getfield 11, 3) := by decide +kernel
theorem dX11_init_128 : decode cX11_init 128 = .ok (.iload_n 1, 1) := by decide +kernel
theorem dX11_init_129 : decode cX11_init 129 = .ok (.new 9, 3) := by decide +kernel
theorem dX11_init_132 : decode cX11_init 132 = .ok (.dup, 1) := by decide +kernel
theorem dX11_init_133 : decode cX11_init 133 = .ok (.iload_n 1, 1) := by decide +kernel
theorem dX11_init_134 : decode cX11_init 134 = .ok (.invokespecial 78, 3) := by decide +kernel
theorem dX11_init_137 : decode cX11_init 137 = .ok (.aastore, 1) := by decide +kernel
theorem dX11_init_138 : decode cX11_init 138 = .ok (.iinc 1 1, 3) := by decide +kernel
theorem dX11_init_141 : decode cX11_init 141 = .ok (.goto (-23), 3) := by decide +kernel
theorem dX11_init_144 : decode cX11_init 144 = .ok (.aload_n 0, 1) := by decide +kernel
theorem dX11_init_145 : decode cX11_init 145 = .ok (.getfield 18, 3) := by decide +kernel
theorem dX11_init_148 : decode cX11_init 148 = .ok (.ldc 81, 2) := by decide +kernel
theorem dX11_init_150 : decode cX11_init 150 = .ok (.invokevirtual 83, 3) := by decide +kernel
theorem dX11_init_153 : decode cX11_init 153 = .ok (.aload_n 0, 1) := by decide +kernel
theorem dX11_init_154 : decode cX11_init 154 = .ok (.getfield 18, 3) := by decide +kernel
theorem dX11_init_157 : decode cX11_init 157 = .ok (.aload_n 0, 1) := by decide +kernel
theorem dX11_init_158 : decode cX11_init 158 = .ok (.getfield 11, 3) := by decide +kernel
theorem dX11_init_161 : decode cX11_init 161 = .ok (.iconst 0, 1) := by decide +kernel
theorem dX11_init_162 : decode cX11_init 162 = .ok (.aaload, 1) := by decide +kernel
theorem dX11_init_163 : decode cX11_init 163 = .ok (.invokevirtual 87, 3) := by decide +kernel
theorem dX11_init_166 : decode cX11_init 166 = .ok (.pop, 1) := by decide +kernel
theorem dX11_init_167 : decode cX11_init 167 = .ok (.aload_n 0, 1) := by decide +kernel
theorem dX11_init_168 : decode cX11_init 168 = .ok (.getfield 18, 3) := by decide +kernel
theorem dX11_init_171 : decode cX11_init 171 = .ok (.iconst 0, 1) := by decide +kernel
theorem dX11_init_172 : decode cX11_init 172 = .ok (.putfield 91, 3) := by decide +kernel
theorem dX11_init_175 : decode cX11_init 175 = .ok (.aload_n 0, 1) := by decide +kernel
theorem dX11_init_176 : decode cX11_init 176 = .ok (.new 35, 3) := by decide +kernel
theorem dX11_init_179 : decode cX11_init 179 = .ok (.dup, 1) := by decide +kernel
theorem dX11_init_180 : decode cX11_init 180 = .ok (.aload_n 0, 1) := by decide +kernel
theorem dX11_init_181 : decode cX11_init 181 = .ok (.getfield 11, 3) := by decide +kernel
theorem dX11_init_184 : decode cX11_init 184 = .ok (.iconst 0, 1) := by decide +kernel
theorem dX11_init_185 : decode cX11_init 185 = .ok (.aaload, 1) := by decide +kernel
theorem dX11_init_186 : decode cX11_init 186 = .ok (.invokespecial 94, 3) := by decide +kernel
theorem dX11_init_189 : decode cX11_init 189 = .ok (.putfield 97, 3) := by decide +kernel
theorem dX11_init_192 : decode cX11_init 192 = .ok (.aload_n 0, 1) := by decide +kernel
theorem dX11_init_193 : decode cX11_init 193 = .ok (.new 35, 3) := by decide +kernel
theorem dX11_init_196 : decode cX11_init 196 = .ok (.dup, 1) := by decide +kernel
theorem dX11_init_197 : decode cX11_init 197 = .ok (.aload_n 0, 1) := by decide +kernel
theorem dX11_init_198 : decode cX11_init 198 = .ok (.getfield 11, 3) := by decide +kernel
theorem dX11_init_201 : decode cX11_init 201 = .ok (.iconst 0, 1) := by decide +kernel
theorem dX11_init_202 : decode cX11_init 202 = .ok (.aaload, 1) := by decide +kernel
theorem dX11_init_203 : decode cX11_init 203 = .ok (.invokespecial 94, 3) := by decide +kernel
theorem dX11_init_206 : decode cX11_init 206 = .ok (.putfield 101, 3) := by decide +kernel
theorem dX11_init_209 : decode cX11_init 209 = .ok (.aload_n 0, 1) := by decide +kernel
theorem dX11_init_210 : decode cX11_init 210 = .ok (.new 35, 3) := by decide +kernel
theorem dX11_init_213 : decode cX11_init 213 = .ok (.dup, 1) := by decide +kernel
theorem dX11_init_214 : decode cX11_init 214 = .ok (.aload_n 0, 1) := by decide +kernel
theorem dX11_init_215 : decode cX11_init 215 = .ok (.getfield 11, 3) := by decide +kernel
theorem dX11_init_218 : decode cX11_init 218 = .ok (.iconst 0, 1) := by decide +kernel
theorem dX11_init_219 : decode cX11_init 219 = .ok (.aaload, 1) := by decide +kernel
theorem dX11_init_220 : decode cX11_init 220 = .ok (.invokespecial 94, 3) := by decide +kernel
theorem dX11_init_223 : decode cX11_init 223 = .ok (.putfield 104, 3) := by decide +kernel
theorem dX11_init_226 : decode cX11_init 226 = .ok (.iconst 0, 1) := by decide +kernel
theorem dX11_init_227 : decode cX11_init 227 = .ok (.istore_n 1, 1) := by decide +kernel
theorem dX11_init_228 : decode cX11_init 228 = .ok (.iload_n 1, 1) := by decide +kernel
theorem dX11_init_229 : decode cX11_init 229 = .ok (.iconst 5, 1) := by decide +kernel
theorem dX11_init_230 : decode cX11_init 230 = .ok (.if_icmp .gt 28, 3) := by decide +kernel
theorem dX11_init_233 : decode cX11_init 233 = .ok (.aload_n 0, 1) := by decide +kernel
theorem dX11_init_234 : decode cX11_init 234 = .ok (.getfield 37, 3) := by decide +kernel
theorem dX11_init_237 : decode cX11_init 237 = .ok (.iload_n 1, 1) := by decide +kernel
theorem dX11_init_238 : decode cX11_init 238 = .ok (.new 35, 3) := by decide +kernel
theorem dX11_init_241 : decode cX11_init 241 = .ok (.dup, 1) := by decide +kernel
theorem dX11_init_242 : decode cX11_init 242 = .ok (.aload_n 0, 1) := by decide +kernel
theorem dX11_init_243 : decode cX11_init 243 = .ok (.getfield 11, 3) := by decide +kernel
theorem dX11_init_246 : decode cX11_init 246 = .ok (.iconst 0, 1) := by decide +kernel
theorem dX11_init_247 : decode cX11_init 247 = .ok (.aaload, 1) := by decide +kernel
theorem dX11_init_248 : decode cX11_init 248 = .ok (.invokespecial 94, 3) := by decide +kernel
theorem dX11_init_251 : decode cX11_init 251 = .ok (.aastore, 1) := by decide +kernel
theorem dX11_init_252 : decode cX11_init 252 = .ok (.iinc 1 1, 3) := by decide +kernel
theorem dX11_init_255 : decode cX11_init 255 = .ok (.goto (-27), 3) := by decide +kernel
theorem dX11_init_258 : decode cX11_init 258 = .ok (.iconst 0, 1) := by decide +kernel
theorem dX11_init_259 : decode cX11_init 259 = .ok (.istore_n 1, 1) := by decide +kernel
theorem dX11_init_260 : decode cX11_init 260 = .ok (.iload_n 1, 1) := by decide +kernel
theorem dX11_init_261 : decode cX11_init 261 = .ok (.iconst 4, 1) := by decide +kernel
theorem dX11_init_262 : decode cX11_init 262 = .ok (.if_icmp .ge 22, 3) := by decide +kernel
theorem dX11_init_265 : decode cX11_init 265 = .ok (.aload_n 0, 1) := by decide +kernel
theorem dX11_init_266 : decode cX11_init 266 = .ok (.getfield 53, 3) := by decide +kernel
theorem dX11_init_269 : decode cX11_init 269 = .ok (.iload_n 1, 1) := by decide +kernel
theorem dX11_init_270 : decode cX11_init 270 = .ok (.new 51, 3) := by decide +kernel
theorem dX11_init_273 : decode cX11_init 273 = .ok (.dup, 1) := by decide +kernel
theorem dX11_init_274 : decode cX11_init 274 = .ok (.invokespecial 107, 3) := by decide +kernel
theorem dX11_init_277 : decode cX11_init 277 = .ok (.aastore, 1) := by decide +kernel
theorem dX11_init_278 : decode cX11_init 278 = .ok (.iinc 1 1, 3) := by decide +kernel
theorem dX11_init_281 : decode cX11_init 281 = .ok (.goto (-21), 3) := by decide +kernel
theorem dX11_init_284 : decode cX11_init 284 = .ok (.return_, 1) := by decide +kernel
theorem dX11_set_0 : decode cX11_set 0 = .ok (.iload_n 1, 1) := by decide +kernel
theorem dX11_set_1 : decode cX11_set 1 = .ok (.iload_n 3, 1) := by decide +kernel
theorem dX11_set_2 : decode cX11_set 2 = .ok (.invokestatic 108, 3) := by decide +kernel
theorem dX11_set_5 : decode cX11_set 5 = .ok (.ifCond .ne 6, 3) := by decide +kernel
theorem dX11_set_8 : decode cX11_set 8 = .ok (.bipush (-100), 2) := by decide +kernel
theorem dX11_set_10 : decode cX11_set 10 = .ok (.ireturn, 1) := by decide +kernel
theorem dX11_set_11 : decode cX11_set 11 = .ok (.iload_n 1, 1) := by decide +kernel
theorem dX11_set_12 : decode cX11_set 12 = .ok (.bipush 6, 2) := by decide +kernel
theorem dX11_set_14 : decode cX11_set 14 = .ok (.if_icmp .ne 23, 3) := by decide +kernel
theorem dX11_set_17 : decode cX11_set 17 = .ok (.aload_n 0, 1) := by decide +kernel
theorem dX11_set_18 : decode cX11_set 18 = .ok (.getfield 97, 3) := by decide +kernel
theorem dX11_set_21 : decode cX11_set 21 = .ok (.getfield 112, 3) := by decide +kernel
theorem dX11_set_24 : decode cX11_set 24 = .ok (.istore 4, 2) := by decide +kernel
theorem dX11_set_26 : decode cX11_set 26 = .ok (.aload_n 0, 1) := by decide +kernel
theorem dX11_set_27 : decode cX11_set 27 = .ok (.getfield 97, 3) := by decide +kernel
theorem dX11_set_30 : decode cX11_set 30 = .ok (.iload_n 3, 1) := by decide +kernel
theorem dX11_set_31 : decode cX11_set 31 = .ok (.putfield 112, 3) := by decide +kernel
theorem dX11_set_34 : decode cX11_set 34 = .ok (.iload 4, 2) := by decide +kernel
theorem dX11_set_36 : decode cX11_set 36 = .ok (.ireturn, 1) := by decide +kernel
theorem dX11_set_37 : decode cX11_set 37 = .ok (.iload_n 1, 1) := by decide +kernel
theorem dX11_set_38 : decode cX11_set 38 = .ok (.iconst 3, 1) := by decide +kernel
theorem dX11_set_39 : decode cX11_set 39 = .ok (.if_icmp .gt 29, 3) := by decide +kernel
theorem dX11_set_42 : decode cX11_set 42 = .ok (.iload_n 2, 1) := by decide +kernel
theorem dX11_set_43 : decode cX11_set 43 = .ok (.invokestatic 115, 3) := by decide +kernel
theorem dX11_set_46 : decode cX11_set 46 = .ok (.ifCond .eq 19, 3) := by decide +kernel
theorem dX11_set_49 : decode cX11_set 49 = .ok (.aload_n 0, 1) := by decide +kernel
theorem dX11_set_50 : decode cX11_set 50 = .ok (.getfield 97, 3) := by decide +kernel
theorem dX11_set_53 : decode cX11_set 53 = .ok (.iload_n 2, 1) := by decide +kernel
theorem dX11_set_54 : decode cX11_set 54 = .ok (.invokevirtual 119, 3) := by decide +kernel
theorem dX11_set_57 : decode cX11_set 57 = .ok (.iload_n 1, 1) := by decide +kernel
theorem dX11_set_58 : decode cX11_set 58 = .ok (.iload_n 3, 1) := by decide +kernel
theorem dX11_set_59 : decode cX11_set 59 = .ok (.invokevirtual 123, 3) := by decide +kernel
theorem dX11_set_62 : decode cX11_set 62 = .ok (.goto 5, 3) := by decide +kernel
theorem dX11_set_65 : decode cX11_set 65 = .ok (.bipush (-100), 2) := by decide +kernel
theorem dX11_set_67 : decode cX11_set 67 = .ok (.ireturn, 1) := by decide +kernel
theorem dX11_set_68 : decode cX11_set 68 = .ok (.aload_n 0, 1) := by decide +kernel
theorem dX11_set_69 : decode cX11_set 69 = .ok (.iload_n 2, 1) := by decide +kernel
theorem dX11_set_70 : decode cX11_set 70 = .ok (.invokevirtual 129, 3) := by decide +kernel
theorem dX11_set_73 : decode cX11_set 73 = .ok (.astore 4, 2) := by decide +kernel
theorem dX11_set_75 : decode cX11_set 75 = .ok (.aload 4, 2) := by decide +kernel
theorem dX11_set_77 : decode cX11_set 77 = .ok (.ifnonnull 8, 3) := by decide +kernel
theorem dX11_set_80 : decode cX11_set 80 = .ok (.bipush (-100), 2) := by decide +kernel
theorem dX11_set_82 : decode cX11_set 82 = .ok (.goto 10, 3) := by decide +kernel
theorem dX11_set_85 : decode cX11_set 85 = .ok (.aload 4, 2) := by decide +kernel
theorem dX11_set_87 : decode cX11_set 87 = .ok (.iload_n 1, 1) := by decide +kernel
theorem dX11_set_88 : decode cX11_set 88 = .ok (.iload_n 3, 1) := by decide +kernel
theorem dX11_set_89 : decode cX11_set 89 = .ok (.invokevirtual 133, 3) := by decide +kernel
theorem dX11_set_92 : decode cX11_set 92 = .ok (.ireturn, 1) := by decide +kernel
theorem dX11_stroke_0 : decode cX11_stroke 0 = .ok (.iload_n 2, 1) := by decide +kernel
theorem dX11_stroke_1 : decode cX11_stroke 1 = .ok (.ifCond .lt 16, 3) := by decide +kernel
theorem dX11_stroke_4 : decode cX11_stroke 4 = .ok (.iload_n 2, 1) := by decide +kernel
theorem dX11_stroke_5 : decode cX11_stroke 5 = .ok (.bipush 9, 2) := by decide +kernel
theorem dX11_stroke_7 : decode cX11_stroke 7 = .ok (.if_icmp .gt 10, 3) := by decide +kernel
theorem dX11_stroke_10 : decode cX11_stroke 10 = .ok (.iload_n 3, 1) := by decide +kernel
theorem dX11_stroke_11 : decode cX11_stroke 11 = .ok (.invokestatic 134, 3) := by decide +kernel
theorem dX11_stroke_14 : decode cX11_stroke 14 = .ok (.ifCond .ne 6, 3) := by decide +kernel
theorem dX11_stroke_17 : decode cX11_stroke 17 = .ok (.bipush (-2), 2) := by decide +kernel
theorem dX11_stroke_19 : decode cX11_stroke 19 = .ok (.ireturn, 1) := by decide +kernel
theorem dX11_stroke_20 : decode cX11_stroke 20 = .ok (.iload_n 1, 1) := by decide +kernel
theorem dX11_stroke_21 : decode cX11_stroke 21 = .ok (.ifCond .lt 8, 3) := by decide +kernel
theorem dX11_stroke_24 : decode cX11_stroke 24 = .ok (.iload_n 1, 1) := by decide +kernel
theorem dX11_stroke_25 : decode cX11_stroke 25 = .ok (.iconst 5, 1) := by decide +kernel
theorem dX11_stroke_26 : decode cX11_stroke 26 = .ok (.if_icmp .le 6, 3) := by decide +kernel
theorem dX11_stroke_29 : decode cX11_stroke 29 = .ok (.bipush (-2), 2) := by decide +kernel
theorem dX11_stroke_31 : decode cX11_stroke 31 = .ok (.ireturn, 1) := by decide +kernel
theorem dX11_stroke_32 : decode cX11_stroke 32 = .ok (.aload_n 0, 1) := by decide +kernel
theorem dX11_stroke_33 : decode cX11_stroke 33 = .ok (.getfield 32, 3) := by decide +kernel
theorem dX11_stroke_36 : decode cX11_stroke 36 = .ok (.bipush 6, 2) := by decide +kernel
theorem dX11_stroke_38 : decode cX11_stroke 38 = .ok (.if_icmp .lt 6, 3) := by decide +kernel
theorem dX11_stroke_41 : decode cX11_stroke 41 = .ok (.bipush (-4), 2) := by decide +kernel
theorem dX11_stroke_43 : decode cX11_stroke 43 = .ok (.ireturn, 1) := by decide +kernel
theorem dX11_stroke_44 : decode cX11_stroke 44 = .ok (.aload_n 0, 1) := by decide +kernel
theorem dX11_stroke_45 : decode cX11_stroke 45 = .ok (.getfield 28, 3) := by decide +kernel
theorem dX11_stroke_48 : decode cX11_stroke 48 = .ok (.aload_n 0, 1) := by decide +kernel
theorem dX11_stroke_49 : decode cX11_stroke 49 = .ok (.getfield 32, 3) := by decide +kernel
theorem dX11_stroke_52 : decode cX11_stroke 52 = .ok (.iload_n 1, 1) := by decide +kernel
theorem dX11_stroke_53 : decode cX11_stroke 53 = .ok (.iload_n 2, 1) := by decide +kernel
theorem dX11_stroke_54 : decode cX11_stroke 54 = .ok (.iload_n 3, 1) := by decide +kernel
theorem dX11_stroke_55 : decode cX11_stroke 55 = .ok (.invokestatic 137, 3) := by decide +kernel
theorem dX11_stroke_58 : decode cX11_stroke 58 = .ok (.aastore, 1) := by decide +kernel
theorem dX11_stroke_59 : decode cX11_stroke 59 = .ok (.aload_n 0, 1) := by decide +kernel
theorem dX11_stroke_60 : decode cX11_stroke 60 = .ok (.dup, 1) := by decide +kernel
theorem dX11_stroke_61 : decode cX11_stroke 61 = .ok (.getfield 32, 3) := by decide +kernel
theorem dX11_stroke_64 : decode cX11_stroke 64 = .ok (.iconst 1, 1) := by decide +kernel
theorem dX11_stroke_65 : decode cX11_stroke 65 = .ok (.iadd, 1) := by decide +kernel
theorem dX11_stroke_66 : decode cX11_stroke 66 = .ok (.putfield 32, 3) := by decide +kernel
theorem dX11_stroke_69 : decode cX11_stroke 69 = .ok (.aload_n 0, 1) := by decide +kernel
theorem dX11_stroke_70 : decode cX11_stroke 70 = .ok (.getfield 32, 3) := by decide +kernel
theorem dX11_stroke_73 : decode cX11_stroke 73 = .ok (.iconst 1, 1) := by decide +kernel
theorem dX11_stroke_74 : decode cX11_stroke 74 = .ok (.isub, 1) := by decide +kernel
theorem dX11_stroke_75 : decode cX11_stroke 75 = .ok (.ireturn, 1) := by decide +kernel
theorem dX11_told_0 : decode cX11_told 0 = .ok (.iload_n 2, 1) := by decide +kernel
theorem dX11_told_1 : decode cX11_told 1 = .ok (.ifCond .lt 33, 3) := by decide +kernel
theorem dX11_told_4 : decode cX11_told 4 = .ok (.iload_n 2, 1) := by decide +kernel
theorem dX11_told_5 : decode cX11_told 5 = .ok (.iconst 3, 1) := by decide +kernel
theorem dX11_told_6 : decode cX11_told 6 = .ok (.if_icmp .gt 28, 3) := by decide +kernel
theorem dX11_told_9 : decode cX11_told 9 = .ok (.iload_n 1, 1) := by decide +kernel
theorem dX11_told_10 : decode cX11_told 10 = .ok (.invokestatic 115, 3) := by decide +kernel
theorem dX11_told_13 : decode cX11_told 13 = .ok (.ifCond .eq 18, 3) := by decide +kernel
theorem dX11_told_16 : decode cX11_told 16 = .ok (.aload_n 0, 1) := by decide +kernel
theorem dX11_told_17 : decode cX11_told 17 = .ok (.getfield 97, 3) := by decide +kernel
theorem dX11_told_20 : decode cX11_told 20 = .ok (.iload_n 1, 1) := by decide +kernel
theorem dX11_told_21 : decode cX11_told 21 = .ok (.invokevirtual 119, 3) := by decide +kernel
theorem dX11_told_24 : decode cX11_told 24 = .ok (.iload_n 2, 1) := by decide +kernel
theorem dX11_told_25 : decode cX11_told 25 = .ok (.invokevirtual 141, 3) := by decide +kernel
theorem dX11_told_28 : decode cX11_told 28 = .ok (.goto 5, 3) := by decide +kernel
theorem dX11_told_31 : decode cX11_told 31 = .ok (.bipush (-100), 2) := by decide +kernel
theorem dX11_told_33 : decode cX11_told 33 = .ok (.ireturn, 1) := by decide +kernel
theorem dX11_told_34 : decode cX11_told 34 = .ok (.aload_n 0, 1) := by decide +kernel
theorem dX11_told_35 : decode cX11_told 35 = .ok (.iload_n 1, 1) := by decide +kernel
theorem dX11_told_36 : decode cX11_told 36 = .ok (.invokevirtual 129, 3) := by decide +kernel
theorem dX11_told_39 : decode cX11_told 39 = .ok (.astore_n 3, 1) := by decide +kernel
theorem dX11_told_40 : decode cX11_told 40 = .ok (.aload_n 3, 1) := by decide +kernel
theorem dX11_told_41 : decode cX11_told 41 = .ok (.ifnull 14, 3) := by decide +kernel
theorem dX11_told_44 : decode cX11_told 44 = .ok (.iload_n 2, 1) := by decide +kernel
theorem dX11_told_45 : decode cX11_told 45 = .ok (.iconst 4, 1) := by decide +kernel
theorem dX11_told_46 : decode cX11_told 46 = .ok (.if_icmp .lt 9, 3) := by decide +kernel
theorem dX11_told_49 : decode cX11_told 49 = .ok (.iload_n 2, 1) := by decide +kernel
theorem dX11_told_50 : decode cX11_told 50 = .ok (.bipush 6, 2) := by decide +kernel
theorem dX11_told_52 : decode cX11_told 52 = .ok (.if_icmp .le 6, 3) := by decide +kernel
theorem dX11_told_55 : decode cX11_told 55 = .ok (.bipush (-100), 2) := by decide +kernel
theorem dX11_told_57 : decode cX11_told 57 = .ok (.ireturn, 1) := by decide +kernel
theorem dX11_told_58 : decode cX11_told 58 = .ok (.iload_n 2, 1) := by decide +kernel
theorem dX11_told_59 : decode cX11_told 59 = .ok (.bipush 6, 2) := by decide +kernel
theorem dX11_told_61 : decode cX11_told 61 = .ok (.if_icmp .ne 10, 3) := by decide +kernel
theorem dX11_told_64 : decode cX11_told 64 = .ok (.aload_n 3, 1) := by decide +kernel
theorem dX11_told_65 : decode cX11_told 65 = .ok (.invokevirtual 145, 3) := by decide +kernel
theorem dX11_told_68 : decode cX11_told 68 = .ok (.goto 8, 3) := by decide +kernel
theorem dX11_told_71 : decode cX11_told 71 = .ok (.aload_n 3, 1) := by decide +kernel
theorem dX11_told_72 : decode cX11_told 72 = .ok (.iload_n 2, 1) := by decide +kernel
theorem dX11_told_73 : decode cX11_told 73 = .ok (.invokevirtual 149, 3) := by decide +kernel
theorem dX11_told_76 : decode cX11_told 76 = .ok (.ireturn, 1) := by decide +kernel
theorem dX11_shot_0 : decode cX11_shot 0 = .ok (.aload_n 0, 1) := by decide +kernel
theorem dX11_shot_1 : decode cX11_shot 1 = .ok (.iload_n 2, 1) := by decide +kernel
theorem dX11_shot_2 : decode cX11_shot 2 = .ok (.invokevirtual 129, 3) := by decide +kernel
theorem dX11_shot_5 : decode cX11_shot 5 = .ok (.astore 4, 2) := by decide +kernel
theorem dX11_shot_7 : decode cX11_shot 7 = .ok (.iload_n 1, 1) := by decide +kernel
theorem dX11_shot_8 : decode cX11_shot 8 = .ok (.invokestatic 115, 3) := by decide +kernel
theorem dX11_shot_11 : decode cX11_shot 11 = .ok (.ifCond .eq 8, 3) := by decide +kernel
theorem dX11_shot_14 : decode cX11_shot 14 = .ok (.aload 4, 2) := by decide +kernel
theorem dX11_shot_16 : decode cX11_shot 16 = .ok (.ifnonnull 6, 3) := by decide +kernel
theorem dX11_shot_19 : decode cX11_shot 19 = .ok (.bipush (-2), 2) := by decide +kernel
theorem dX11_shot_21 : decode cX11_shot 21 = .ok (.ireturn, 1) := by decide +kernel
theorem dX11_shot_22 : decode cX11_shot 22 = .ok (.aload_n 0, 1) := by decide +kernel
theorem dX11_shot_23 : decode cX11_shot 23 = .ok (.getfield 97, 3) := by decide +kernel
theorem dX11_shot_26 : decode cX11_shot 26 = .ok (.iload_n 1, 1) := by decide +kernel
theorem dX11_shot_27 : decode cX11_shot 27 = .ok (.invokevirtual 119, 3) := by decide +kernel
theorem dX11_shot_30 : decode cX11_shot 30 = .ok (.astore 5, 2) := by decide +kernel
theorem dX11_shot_32 : decode cX11_shot 32 = .ok (.aload_n 0, 1) := by decide +kernel
theorem dX11_shot_33 : decode cX11_shot 33 = .ok (.getfield 97, 3) := by decide +kernel
theorem dX11_shot_36 : decode cX11_shot 36 = .ok (.iconst 1, 1) := by decide +kernel
theorem dX11_shot_37 : decode cX11_shot 37 = .ok (.iload_n 1, 1) := by decide +kernel
theorem dX11_shot_38 : decode cX11_shot 38 = .ok (.isub, 1) := by decide +kernel
theorem dX11_shot_39 : decode cX11_shot 39 = .ok (.invokevirtual 119, 3) := by decide +kernel
theorem dX11_shot_42 : decode cX11_shot 42 = .ok (.astore 6, 2) := by decide +kernel
theorem dX11_shot_44 : decode cX11_shot 44 = .ok (.iload_n 3, 1) := by decide +kernel
theorem dX11_shot_45 : decode cX11_shot 45 = .ok (.tableswitch 101 0 4 #[35, 46, 58, 70, 76], 35) := by decide +kernel
theorem dX11_shot_80 : decode cX11_shot 80 = .ok (.aload 4, 2) := by decide +kernel
theorem dX11_shot_82 : decode cX11_shot 82 = .ok (.aload 5, 2) := by decide +kernel
theorem dX11_shot_84 : decode cX11_shot 84 = .ok (.getfield 150, 3) := by decide +kernel
theorem dX11_shot_87 : decode cX11_shot 87 = .ok (.invokevirtual 153, 3) := by decide +kernel
theorem dX11_shot_90 : decode cX11_shot 90 = .ok (.ireturn, 1) := by decide +kernel
theorem dX11_shot_91 : decode cX11_shot 91 = .ok (.aload_n 0, 1) := by decide +kernel
theorem dX11_shot_92 : decode cX11_shot 92 = .ok (.getfield 97, 3) := by decide +kernel
theorem dX11_shot_95 : decode cX11_shot 95 = .ok (.aload 5, 2) := by decide +kernel
theorem dX11_shot_97 : decode cX11_shot 97 = .ok (.aload 4, 2) := by decide +kernel
theorem dX11_shot_99 : decode cX11_shot 99 = .ok (.invokevirtual 156, 3) := by decide +kernel
theorem dX11_shot_102 : decode cX11_shot 102 = .ok (.ireturn, 1) := by decide +kernel
theorem dX11_shot_103 : decode cX11_shot 103 = .ok (.aload_n 0, 1) := by decide +kernel
theorem dX11_shot_104 : decode cX11_shot 104 = .ok (.getfield 97, 3) := by decide +kernel
theorem dX11_shot_107 : decode cX11_shot 107 = .ok (.aload 5, 2) := by decide +kernel
theorem dX11_shot_109 : decode cX11_shot 109 = .ok (.aload 4, 2) := by decide +kernel
theorem dX11_shot_111 : decode cX11_shot 111 = .ok (.invokevirtual 160, 3) := by decide +kernel
theorem dX11_shot_114 : decode cX11_shot 114 = .ok (.ireturn, 1) := by decide +kernel
theorem dX11_shot_115 : decode cX11_shot 115 = .ok (.aload 4, 2) := by decide +kernel
theorem dX11_shot_117 : decode cX11_shot 117 = .ok (.invokevirtual 163, 3) := by decide +kernel
theorem dX11_shot_120 : decode cX11_shot 120 = .ok (.ireturn, 1) := by decide +kernel
theorem dX11_shot_121 : decode cX11_shot 121 = .ok (.aload_n 0, 1) := by decide +kernel
theorem dX11_shot_122 : decode cX11_shot 122 = .ok (.getfield 97, 3) := by decide +kernel
theorem dX11_shot_125 : decode cX11_shot 125 = .ok (.aload 6, 2) := by decide +kernel
theorem dX11_shot_127 : decode cX11_shot 127 = .ok (.aload 6, 2) := by decide +kernel
theorem dX11_shot_129 : decode cX11_shot 129 = .ok (.getfield 150, 3) := by decide +kernel
theorem dX11_shot_132 : decode cX11_shot 132 = .ok (.aload 4, 2) := by decide +kernel
theorem dX11_shot_134 : decode cX11_shot 134 = .ok (.aload 5, 2) := by decide +kernel
theorem dX11_shot_136 : decode cX11_shot 136 = .ok (.getfield 150, 3) := by decide +kernel
theorem dX11_shot_139 : decode cX11_shot 139 = .ok (.invokevirtual 153, 3) := by decide +kernel
theorem dX11_shot_142 : decode cX11_shot 142 = .ok (.invokevirtual 166, 3) := by decide +kernel
theorem dX11_shot_145 : decode cX11_shot 145 = .ok (.ireturn, 1) := by decide +kernel
theorem dX11_shot_146 : decode cX11_shot 146 = .ok (.bipush (-2), 2) := by decide +kernel
theorem dX11_shot_148 : decode cX11_shot 148 = .ok (.ireturn, 1) := by decide +kernel
theorem dX11_needs_0 : decode cX11_needs 0 = .ok (.iload_n 1, 1) := by decide +kernel
theorem dX11_needs_1 : decode cX11_needs 1 = .ok (.invokestatic 115, 3) := by decide +kernel
theorem dX11_needs_4 : decode cX11_needs 4 = .ok (.ifCond .eq 7, 3) := by decide +kernel
theorem dX11_needs_7 : decode cX11_needs 7 = .ok (.iload_n 2, 1) := by decide +kernel
theorem dX11_needs_8 : decode cX11_needs 8 = .ok (.ifCond .ge 6, 3) := by decide +kernel
theorem dX11_needs_11 : decode cX11_needs 11 = .ok (.bipush (-2), 2) := by decide +kernel
theorem dX11_needs_13 : decode cX11_needs 13 = .ok (.ireturn, 1) := by decide +kernel
theorem dX11_needs_14 : decode cX11_needs 14 = .ok (.iload_n 2, 1) := by decide +kernel
theorem dX11_needs_15 : decode cX11_needs 15 = .ok (.bipush 100, 2) := by decide +kernel
theorem dX11_needs_17 : decode cX11_needs 17 = .ok (.idiv, 1) := by decide +kernel
theorem dX11_needs_18 : decode cX11_needs 18 = .ok (.istore_n 3, 1) := by decide +kernel
theorem dX11_needs_19 : decode cX11_needs 19 = .ok (.iload_n 2, 1) := by decide +kernel
theorem dX11_needs_20 : decode cX11_needs 20 = .ok (.bipush 100, 2) := by decide +kernel
theorem dX11_needs_22 : decode cX11_needs 22 = .ok (.irem, 1) := by decide +kernel
theorem dX11_needs_23 : decode cX11_needs 23 = .ok (.istore 4, 2) := by decide +kernel
theorem dX11_needs_25 : decode cX11_needs 25 = .ok (.iload_n 3, 1) := by decide +kernel
theorem dX11_needs_26 : decode cX11_needs 26 = .ok (.invokestatic 134, 3) := by decide +kernel
theorem dX11_needs_29 : decode cX11_needs 29 = .ok (.ifCond .eq 11, 3) := by decide +kernel
theorem dX11_needs_32 : decode cX11_needs 32 = .ok (.iload 4, 2) := by decide +kernel
theorem dX11_needs_34 : decode cX11_needs 34 = .ok (.invokestatic 134, 3) := by decide +kernel
theorem dX11_needs_37 : decode cX11_needs 37 = .ok (.ifCond .ne 6, 3) := by decide +kernel
theorem dX11_needs_40 : decode cX11_needs 40 = .ok (.bipush (-2), 2) := by decide +kernel
theorem dX11_needs_42 : decode cX11_needs 42 = .ok (.ireturn, 1) := by decide +kernel
theorem dX11_needs_43 : decode cX11_needs 43 = .ok (.aload_n 0, 1) := by decide +kernel
theorem dX11_needs_44 : decode cX11_needs 44 = .ok (.getfield 97, 3) := by decide +kernel
theorem dX11_needs_47 : decode cX11_needs 47 = .ok (.aload_n 0, 1) := by decide +kernel
theorem dX11_needs_48 : decode cX11_needs 48 = .ok (.getfield 97, 3) := by decide +kernel
theorem dX11_needs_51 : decode cX11_needs 51 = .ok (.iload_n 1, 1) := by decide +kernel
theorem dX11_needs_52 : decode cX11_needs 52 = .ok (.invokevirtual 119, 3) := by decide +kernel
theorem dX11_needs_55 : decode cX11_needs 55 = .ok (.iload_n 3, 1) := by decide +kernel
theorem dX11_needs_56 : decode cX11_needs 56 = .ok (.iload 4, 2) := by decide +kernel
theorem dX11_needs_58 : decode cX11_needs 58 = .ok (.invokevirtual 166, 3) := by decide +kernel
theorem dX11_needs_61 : decode cX11_needs 61 = .ok (.ireturn, 1) := by decide +kernel
theorem dX11_feed_0 : decode cX11_feed 0 = .ok (.iload_n 1, 1) := by decide +kernel
theorem dX11_feed_1 : decode cX11_feed 1 = .ok (.ifCond .lt 10, 3) := by decide +kernel
theorem dX11_feed_4 : decode cX11_feed 4 = .ok (.iload_n 1, 1) := by decide +kernel
theorem dX11_feed_5 : decode cX11_feed 5 = .ok (.sipush 255, 3) := by decide +kernel
theorem dX11_feed_8 : decode cX11_feed 8 = .ok (.if_icmp .le 6, 3) := by decide +kernel
theorem dX11_feed_11 : decode cX11_feed 11 = .ok (.bipush (-2), 2) := by decide +kernel
theorem dX11_feed_13 : decode cX11_feed 13 = .ok (.ireturn, 1) := by decide +kernel
theorem dX11_feed_14 : decode cX11_feed 14 = .ok (.aload_n 0, 1) := by decide +kernel
theorem dX11_feed_15 : decode cX11_feed 15 = .ok (.getfield 18, 3) := by decide +kernel
theorem dX11_feed_18 : decode cX11_feed 18 = .ok (.iload_n 1, 1) := by decide +kernel
theorem dX11_feed_19 : decode cX11_feed 19 = .ok (.invokevirtual 170, 3) := by decide +kernel
theorem dX11_feed_22 : decode cX11_feed 22 = .ok (.ifCond .eq 13, 3) := by decide +kernel
theorem dX11_feed_25 : decode cX11_feed 25 = .ok (.aload_n 0, 1) := by decide +kernel
theorem dX11_feed_26 : decode cX11_feed 26 = .ok (.getfield 18, 3) := by decide +kernel
theorem dX11_feed_29 : decode cX11_feed 29 = .ok (.getfield 91, 3) := by decide +kernel
theorem dX11_feed_32 : decode cX11_feed 32 = .ok (.goto 5, 3) := by decide +kernel
theorem dX11_feed_35 : decode cX11_feed 35 = .ok (.bipush (-4), 2) := by decide +kernel
theorem dX11_feed_37 : decode cX11_feed 37 = .ok (.ireturn, 1) := by decide +kernel
theorem dX11_text_0 : decode cX11_text 0 = .ok (.aload_n 0, 1) := by decide +kernel
theorem dX11_text_1 : decode cX11_text 1 = .ok (.getfield 22, 3) := by decide +kernel
theorem dX11_text_4 : decode cX11_text 4 = .ok (.bipush 6, 2) := by decide +kernel
theorem dX11_text_6 : decode cX11_text 6 = .ok (.if_icmp .lt 6, 3) := by decide +kernel
theorem dX11_text_9 : decode cX11_text 9 = .ok (.bipush (-4), 2) := by decide +kernel
theorem dX11_text_11 : decode cX11_text 11 = .ok (.ireturn, 1) := by decide +kernel
theorem dX11_text_12 : decode cX11_text 12 = .ok (.aload_n 0, 1) := by decide +kernel
theorem dX11_text_13 : decode cX11_text 13 = .ok (.getfield 18, 3) := by decide +kernel
theorem dX11_text_16 : decode cX11_text 16 = .ok (.aload_n 0, 1) := by decide +kernel
theorem dX11_text_17 : decode cX11_text 17 = .ok (.getfield 11, 3) := by decide +kernel
theorem dX11_text_20 : decode cX11_text 20 = .ok (.aload_n 0, 1) := by decide +kernel
theorem dX11_text_21 : decode cX11_text 21 = .ok (.getfield 22, 3) := by decide +kernel
theorem dX11_text_24 : decode cX11_text 24 = .ok (.aaload, 1) := by decide +kernel
theorem dX11_text_25 : decode cX11_text 25 = .ok (.invokevirtual 87, 3) := by decide +kernel
theorem dX11_text_28 : decode cX11_text 28 = .ok (.istore_n 1, 1) := by decide +kernel
theorem dX11_text_29 : decode cX11_text 29 = .ok (.aload_n 0, 1) := by decide +kernel
theorem dX11_text_30 : decode cX11_text 30 = .ok (.getfield 18, 3) := by decide +kernel
theorem dX11_text_33 : decode cX11_text 33 = .ok (.iconst 0, 1) := by decide +kernel
theorem dX11_text_34 : decode cX11_text 34 = .ok (.putfield 91, 3) := by decide +kernel
theorem dX11_text_37 : decode cX11_text 37 = .ok (.iload_n 1, 1) := by decide +kernel
theorem dX11_text_38 : decode cX11_text 38 = .ok (.iconst (-1), 1) := by decide +kernel
theorem dX11_text_39 : decode cX11_text 39 = .ok (.if_icmp .eq 8, 3) := by decide +kernel
theorem dX11_text_42 : decode cX11_text 42 = .ok (.bipush (-100), 2) := by decide +kernel
theorem dX11_text_44 : decode cX11_text 44 = .ok (.iload_n 1, 1) := by decide +kernel
theorem dX11_text_45 : decode cX11_text 45 = .ok (.isub, 1) := by decide +kernel
theorem dX11_text_46 : decode cX11_text 46 = .ok (.ireturn, 1) := by decide +kernel
theorem dX11_text_47 : decode cX11_text 47 = .ok (.aload_n 0, 1) := by decide +kernel
theorem dX11_text_48 : decode cX11_text 48 = .ok (.dup, 1) := by decide +kernel
theorem dX11_text_49 : decode cX11_text 49 = .ok (.getfield 22, 3) := by decide +kernel
theorem dX11_text_52 : decode cX11_text 52 = .ok (.iconst 1, 1) := by decide +kernel
theorem dX11_text_53 : decode cX11_text 53 = .ok (.iadd, 1) := by decide +kernel
theorem dX11_text_54 : decode cX11_text 54 = .ok (.putfield 22, 3) := by decide +kernel
theorem dX11_text_57 : decode cX11_text 57 = .ok (.aload_n 0, 1) := by decide +kernel
theorem dX11_text_58 : decode cX11_text 58 = .ok (.getfield 22, 3) := by decide +kernel
theorem dX11_text_61 : decode cX11_text 61 = .ok (.iconst 1, 1) := by decide +kernel
theorem dX11_text_62 : decode cX11_text 62 = .ok (.isub, 1) := by decide +kernel
theorem dX11_text_63 : decode cX11_text 63 = .ok (.ireturn, 1) := by decide +kernel
theorem dX11_force_0 : decode cX11_force 0 = .ok (.iload_n 1, 1) := by decide +kernel
theorem dX11_force_1 : decode cX11_force 1 = .ok (.ifCond .lt 11, 3) := by decide +kernel
theorem dX11_force_4 : decode cX11_force 4 = .ok (.iload_n 1, 1) := by decide +kernel
theorem dX11_force_5 : decode cX11_force 5 = .ok (.aload_n 0, 1) := by decide +kernel
theorem dX11_force_6 : decode cX11_force 6 = .ok (.getfield 22, 3) := by decide +kernel
theorem dX11_force_9 : decode cX11_force 9 = .ok (.if_icmp .lt 6, 3) := by decide +kernel
theorem dX11_force_12 : decode cX11_force 12 = .ok (.bipush (-2), 2) := by decide +kernel
theorem dX11_force_14 : decode cX11_force 14 = .ok (.ireturn, 1) := by decide +kernel
theorem dX11_force_15 : decode cX11_force 15 = .ok (.aload_n 0, 1) := by decide +kernel
theorem dX11_force_16 : decode cX11_force 16 = .ok (.getfield 97, 3) := by decide +kernel
theorem dX11_force_19 : decode cX11_force 19 = .ok (.getfield 173, 3) := by decide +kernel
theorem dX11_force_22 : decode cX11_force 22 = .ok (.getfield 177, 3) := by decide +kernel
theorem dX11_force_25 : decode cX11_force 25 = .ok (.istore_n 2, 1) := by decide +kernel
theorem dX11_force_26 : decode cX11_force 26 = .ok (.aload_n 0, 1) := by decide +kernel
theorem dX11_force_27 : decode cX11_force 27 = .ok (.getfield 97, 3) := by decide +kernel
theorem dX11_force_30 : decode cX11_force 30 = .ok (.aload_n 0, 1) := by decide +kernel
theorem dX11_force_31 : decode cX11_force 31 = .ok (.getfield 11, 3) := by decide +kernel
theorem dX11_force_34 : decode cX11_force 34 = .ok (.iload_n 1, 1) := by decide +kernel
theorem dX11_force_35 : decode cX11_force 35 = .ok (.aaload, 1) := by decide +kernel
theorem dX11_force_36 : decode cX11_force 36 = .ok (.putfield 173, 3) := by decide +kernel
theorem dX11_force_39 : decode cX11_force 39 = .ok (.iload_n 2, 1) := by decide +kernel
theorem dX11_force_40 : decode cX11_force 40 = .ok (.ireturn, 1) := by decide +kernel
theorem dX11_rally_0 : decode cX11_rally 0 = .ok (.iload_n 2, 1) := by decide +kernel
theorem dX11_rally_1 : decode cX11_rally 1 = .ok (.ifCond .lt 9, 3) := by decide +kernel
theorem dX11_rally_4 : decode cX11_rally 4 = .ok (.iload_n 2, 1) := by decide +kernel
theorem dX11_rally_5 : decode cX11_rally 5 = .ok (.bipush 6, 2) := by decide +kernel
theorem dX11_rally_7 : decode cX11_rally 7 = .ok (.if_icmp .le 6, 3) := by decide +kernel
theorem dX11_rally_10 : decode cX11_rally 10 = .ok (.bipush (-2), 2) := by decide +kernel
theorem dX11_rally_12 : decode cX11_rally 12 = .ok (.ireturn, 1) := by decide +kernel
theorem dX11_rally_13 : decode cX11_rally 13 = .ok (.aload_n 0, 1) := by decide +kernel
theorem dX11_rally_14 : decode cX11_rally 14 = .ok (.iload_n 1, 1) := by decide +kernel
theorem dX11_rally_15 : decode cX11_rally 15 = .ok (.invokevirtual 180, 3) := by decide +kernel
theorem dX11_rally_18 : decode cX11_rally 18 = .ok (.istore_n 3, 1) := by decide +kernel
theorem dX11_rally_19 : decode cX11_rally 19 = .ok (.iload_n 3, 1) := by decide +kernel
theorem dX11_rally_20 : decode cX11_rally 20 = .ok (.ifCond .eq 5, 3) := by decide +kernel
theorem dX11_rally_23 : decode cX11_rally 23 = .ok (.iload_n 3, 1) := by decide +kernel
