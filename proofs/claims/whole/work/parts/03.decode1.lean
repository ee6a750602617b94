theorem dX11_rally_24 : decode cX11_rally 24 = .ok (.ireturn, 1) := by decide +kernel
theorem dX11_rally_25 : decode cX11_rally 25 = .ok (.aload_n 0, 1) := by decide +kernel
theorem dX11_rally_26 : decode cX11_rally 26 = .ok (.iload_n 1, 1) := by decide +kernel
theorem dX11_rally_27 : decode cX11_rally 27 = .ok (.invokevirtual 183, 3) := by decide +kernel
theorem dX11_rally_30 : decode cX11_rally 30 = .ok (.istore 4, 2) := by decide +kernel
theorem dX11_rally_32 : decode cX11_rally 32 = .ok (.iload_n 2, 1) := by decide +kernel
theorem dX11_rally_33 : decode cX11_rally 33 = .ok (.tableswitch 91 0 5 #[39, 42, 47, 58, 69, 80], 39) := by decide +kernel
theorem dX11_rally_72 : decode cX11_rally 72 = .ok (.iload 4, 2) := by decide +kernel
theorem dX11_rally_74 : decode cX11_rally 74 = .ok (.ireturn, 1) := by decide +kernel
theorem dX11_rally_75 : decode cX11_rally 75 = .ok (.aload_n 0, 1) := by decide +kernel
theorem dX11_rally_76 : decode cX11_rally 76 = .ok (.getfield 60, 3) := by decide +kernel
theorem dX11_rally_79 : decode cX11_rally 79 = .ok (.ireturn, 1) := by decide +kernel
theorem dX11_rally_80 : decode cX11_rally 80 = .ok (.aload_n 0, 1) := by decide +kernel
theorem dX11_rally_81 : decode cX11_rally 81 = .ok (.getfield 101, 3) := by decide +kernel
theorem dX11_rally_84 : decode cX11_rally 84 = .ok (.getfield 186, 3) := by decide +kernel
theorem dX11_rally_87 : decode cX11_rally 87 = .ok (.getfield 190, 3) := by decide +kernel
theorem dX11_rally_90 : decode cX11_rally 90 = .ok (.ireturn, 1) := by decide +kernel
theorem dX11_rally_91 : decode cX11_rally 91 = .ok (.aload_n 0, 1) := by decide +kernel
theorem dX11_rally_92 : decode cX11_rally 92 = .ok (.getfield 101, 3) := by decide +kernel
theorem dX11_rally_95 : decode cX11_rally 95 = .ok (.getfield 193, 3) := by decide +kernel
theorem dX11_rally_98 : decode cX11_rally 98 = .ok (.getfield 190, 3) := by decide +kernel
theorem dX11_rally_101 : decode cX11_rally 101 = .ok (.ireturn, 1) := by decide +kernel
theorem dX11_rally_102 : decode cX11_rally 102 = .ok (.aload_n 0, 1) := by decide +kernel
theorem dX11_rally_103 : decode cX11_rally 103 = .ok (.getfield 101, 3) := by decide +kernel
theorem dX11_rally_106 : decode cX11_rally 106 = .ok (.getfield 186, 3) := by decide +kernel
theorem dX11_rally_109 : decode cX11_rally 109 = .ok (.getfield 150, 3) := by decide +kernel
theorem dX11_rally_112 : decode cX11_rally 112 = .ok (.ireturn, 1) := by decide +kernel
theorem dX11_rally_113 : decode cX11_rally 113 = .ok (.aload_n 0, 1) := by decide +kernel
theorem dX11_rally_114 : decode cX11_rally 114 = .ok (.getfield 101, 3) := by decide +kernel
theorem dX11_rally_117 : decode cX11_rally 117 = .ok (.getfield 193, 3) := by decide +kernel
theorem dX11_rally_120 : decode cX11_rally 120 = .ok (.getfield 150, 3) := by decide +kernel
theorem dX11_rally_123 : decode cX11_rally 123 = .ok (.ireturn, 1) := by decide +kernel
theorem dX11_rally_124 : decode cX11_rally 124 = .ok (.aload_n 0, 1) := by decide +kernel
theorem dX11_rally_125 : decode cX11_rally 125 = .ok (.getfield 101, 3) := by decide +kernel
theorem dX11_rally_128 : decode cX11_rally 128 = .ok (.getfield 112, 3) := by decide +kernel
theorem dX11_rally_131 : decode cX11_rally 131 = .ok (.ireturn, 1) := by decide +kernel
theorem dX11_play_0 : decode cX11_play 0 = .ok (.aload_n 0, 1) := by decide +kernel
theorem dX11_play_1 : decode cX11_play 1 = .ok (.iload_n 1, 1) := by decide +kernel
theorem dX11_play_2 : decode cX11_play 2 = .ok (.invokevirtual 180, 3) := by decide +kernel
theorem dX11_play_5 : decode cX11_play 5 = .ok (.istore_n 2, 1) := by decide +kernel
theorem dX11_play_6 : decode cX11_play 6 = .ok (.iload_n 2, 1) := by decide +kernel
theorem dX11_play_7 : decode cX11_play 7 = .ok (.ifCond .eq 7, 3) := by decide +kernel
theorem dX11_play_10 : decode cX11_play 10 = .ok (.iload_n 2, 1) := by decide +kernel
theorem dX11_play_11 : decode cX11_play 11 = .ok (.goto 16, 3) := by decide +kernel
theorem dX11_play_14 : decode cX11_play 14 = .ok (.aload_n 0, 1) := by decide +kernel
theorem dX11_play_15 : decode cX11_play 15 = .ok (.aload_n 0, 1) := by decide +kernel
theorem dX11_play_16 : decode cX11_play 16 = .ok (.getfield 97, 3) := by decide +kernel
theorem dX11_play_19 : decode cX11_play 19 = .ok (.aload_n 0, 1) := by decide +kernel
theorem dX11_play_20 : decode cX11_play 20 = .ok (.iload_n 1, 1) := by decide +kernel
theorem dX11_play_21 : decode cX11_play 21 = .ok (.invokevirtual 196, 3) := by decide +kernel
theorem dX11_play_24 : decode cX11_play 24 = .ok (.invokevirtual 200, 3) := by decide +kernel
theorem dX11_play_27 : decode cX11_play 27 = .ok (.ireturn, 1) := by decide +kernel
theorem dX11_likely_0 : decode cX11_likely 0 = .ok (.aload_n 0, 1) := by decide +kernel
theorem dX11_likely_1 : decode cX11_likely 1 = .ok (.iload_n 1, 1) := by decide +kernel
theorem dX11_likely_2 : decode cX11_likely 2 = .ok (.invokevirtual 180, 3) := by decide +kernel
theorem dX11_likely_5 : decode cX11_likely 5 = .ok (.ifCond .eq 7, 3) := by decide +kernel
theorem dX11_likely_8 : decode cX11_likely 8 = .ok (.ldc2_w 204, 3) := by decide +kernel
theorem dX11_likely_11 : decode cX11_likely 11 = .ok (.lreturn, 1) := by decide +kernel
theorem dX11_likely_12 : decode cX11_likely 12 = .ok (.aload_n 0, 1) := by decide +kernel
theorem dX11_likely_13 : decode cX11_likely 13 = .ok (.iload_n 1, 1) := by decide +kernel
theorem dX11_likely_14 : decode cX11_likely 14 = .ok (.invokevirtual 183, 3) := by decide +kernel
theorem dX11_likely_17 : decode cX11_likely 17 = .ok (.pop, 1) := by decide +kernel
theorem dX11_likely_18 : decode cX11_likely 18 = .ok (.aload_n 0, 1) := by decide +kernel
theorem dX11_likely_19 : decode cX11_likely 19 = .ok (.getfield 65, 3) := by decide +kernel
theorem dX11_likely_22 : decode cX11_likely 22 = .ok (.lreturn, 1) := by decide +kernel
theorem dX11_best_0 : decode cX11_best 0 = .ok (.iload_n 1, 1) := by decide +kernel
theorem dX11_best_1 : decode cX11_best 1 = .ok (.invokestatic 115, 3) := by decide +kernel
theorem dX11_best_4 : decode cX11_best 4 = .ok (.ifCond .eq 21, 3) := by decide +kernel
theorem dX11_best_7 : decode cX11_best 7 = .ok (.iload_n 2, 1) := by decide +kernel
theorem dX11_best_8 : decode cX11_best 8 = .ok (.ifCond .lt 17, 3) := by decide +kernel
theorem dX11_best_11 : decode cX11_best 11 = .ok (.iload_n 2, 1) := by decide +kernel
theorem dX11_best_12 : decode cX11_best 12 = .ok (.iconst 5, 1) := by decide +kernel
theorem dX11_best_13 : decode cX11_best 13 = .ok (.if_icmp .gt 12, 3) := by decide +kernel
theorem dX11_best_16 : decode cX11_best 16 = .ok (.iload_n 3, 1) := by decide +kernel
theorem dX11_best_17 : decode cX11_best 17 = .ok (.ifCond .lt 8, 3) := by decide +kernel
theorem dX11_best_20 : decode cX11_best 20 = .ok (.iload_n 3, 1) := by decide +kernel
theorem dX11_best_21 : decode cX11_best 21 = .ok (.iconst 1, 1) := by decide +kernel
theorem dX11_best_22 : decode cX11_best 22 = .ok (.if_icmp .le 6, 3) := by decide +kernel
theorem dX11_best_25 : decode cX11_best 25 = .ok (.bipush (-100), 2) := by decide +kernel
theorem dX11_best_27 : decode cX11_best 27 = .ok (.ireturn, 1) := by decide +kernel
theorem dX11_best_28 : decode cX11_best 28 = .ok (.aload_n 0, 1) := by decide +kernel
theorem dX11_best_29 : decode cX11_best 29 = .ok (.aload_n 0, 1) := by decide +kernel
theorem dX11_best_30 : decode cX11_best 30 = .ok (.getfield 97, 3) := by decide +kernel
theorem dX11_best_33 : decode cX11_best 33 = .ok (.iload_n 1, 1) := by decide +kernel
theorem dX11_best_34 : decode cX11_best 34 = .ok (.iload_n 2, 1) := by decide +kernel
theorem dX11_best_35 : decode cX11_best 35 = .ok (.iconst 1, 1) := by decide +kernel
theorem dX11_best_36 : decode cX11_best 36 = .ok (.invokevirtual 206, 3) := by decide +kernel
theorem dX11_best_39 : decode cX11_best 39 = .ok (.istore 4, 2) := by decide +kernel
theorem dX11_best_41 : decode cX11_best 41 = .ok (.iload_n 3, 1) := by decide +kernel
theorem dX11_best_42 : decode cX11_best 42 = .ok (.ifCond .ne 8, 3) := by decide +kernel
theorem dX11_best_45 : decode cX11_best 45 = .ok (.iload 4, 2) := by decide +kernel
theorem dX11_best_47 : decode cX11_best 47 = .ok (.goto 7, 3) := by decide +kernel
theorem dX11_best_50 : decode cX11_best 50 = .ok (.aload_n 0, 1) := by decide +kernel
theorem dX11_best_51 : decode cX11_best 51 = .ok (.getfield 72, 3) := by decide +kernel
theorem dX11_best_54 : decode cX11_best 54 = .ok (.ireturn, 1) := by decide +kernel
theorem dX11_sure_0 : decode cX11_sure 0 = .ok (.iload_n 1, 1) := by decide +kernel
theorem dX11_sure_1 : decode cX11_sure 1 = .ok (.invokestatic 115, 3) := by decide +kernel
theorem dX11_sure_4 : decode cX11_sure 4 = .ok (.ifCond .ne 6, 3) := by decide +kernel
theorem dX11_sure_7 : decode cX11_sure 7 = .ok (.bipush (-2), 2) := by decide +kernel
theorem dX11_sure_9 : decode cX11_sure 9 = .ok (.ireturn, 1) := by decide +kernel
theorem dX11_sure_10 : decode cX11_sure 10 = .ok (.iconst 1, 1) := by decide +kernel
theorem dX11_sure_11 : decode cX11_sure 11 = .ok (.istore_n 2, 1) := by decide +kernel
theorem dX11_sure_12 : decode cX11_sure 12 = .ok (.iload_n 2, 1) := by decide +kernel
theorem dX11_sure_13 : decode cX11_sure 13 = .ok (.iconst 5, 1) := by decide +kernel
theorem dX11_sure_14 : decode cX11_sure 14 = .ok (.if_icmp .gt 26, 3) := by decide +kernel
theorem dX11_sure_17 : decode cX11_sure 17 = .ok (.aload_n 0, 1) := by decide +kernel
theorem dX11_sure_18 : decode cX11_sure 18 = .ok (.aload_n 0, 1) := by decide +kernel
theorem dX11_sure_19 : decode cX11_sure 19 = .ok (.getfield 97, 3) := by decide +kernel
theorem dX11_sure_22 : decode cX11_sure 22 = .ok (.iload_n 1, 1) := by decide +kernel
theorem dX11_sure_23 : decode cX11_sure 23 = .ok (.iload_n 2, 1) := by decide +kernel
theorem dX11_sure_24 : decode cX11_sure 24 = .ok (.iconst 1, 1) := by decide +kernel
theorem dX11_sure_25 : decode cX11_sure 25 = .ok (.invokevirtual 206, 3) := by decide +kernel
theorem dX11_sure_28 : decode cX11_sure 28 = .ok (.iconst 1, 1) := by decide +kernel
theorem dX11_sure_29 : decode cX11_sure 29 = .ok (.if_icmp .ne 5, 3) := by decide +kernel
theorem dX11_sure_32 : decode cX11_sure 32 = .ok (.iload_n 2, 1) := by decide +kernel
theorem dX11_sure_33 : decode cX11_sure 33 = .ok (.ireturn, 1) := by decide +kernel
theorem dX11_sure_34 : decode cX11_sure 34 = .ok (.iinc 2 2, 3) := by decide +kernel
theorem dX11_sure_37 : decode cX11_sure 37 = .ok (.goto (-25), 3) := by decide +kernel
theorem dX11_sure_40 : decode cX11_sure 40 = .ok (.iconst (-1), 1) := by decide +kernel
theorem dX11_sure_41 : decode cX11_sure 41 = .ok (.ireturn, 1) := by decide +kernel
theorem dX11_stand_0 : decode cX11_stand 0 = .ok (.iload_n 1, 1) := by decide +kernel
theorem dX11_stand_1 : decode cX11_stand 1 = .ok (.invokestatic 115, 3) := by decide +kernel
theorem dX11_stand_4 : decode cX11_stand 4 = .ok (.ifCond .eq 12, 3) := by decide +kernel
theorem dX11_stand_7 : decode cX11_stand 7 = .ok (.iload_n 2, 1) := by decide +kernel
theorem dX11_stand_8 : decode cX11_stand 8 = .ok (.ifCond .lt 8, 3) := by decide +kernel
theorem dX11_stand_11 : decode cX11_stand 11 = .ok (.iload_n 2, 1) := by decide +kernel
theorem dX11_stand_12 : decode cX11_stand 12 = .ok (.iconst 1, 1) := by decide +kernel
theorem dX11_stand_13 : decode cX11_stand 13 = .ok (.if_icmp .le 6, 3) := by decide +kernel
theorem dX11_stand_16 : decode cX11_stand 16 = .ok (.ldc 210, 2) := by decide +kernel
theorem dX11_stand_18 : decode cX11_stand 18 = .ok (.ireturn, 1) := by decide +kernel
theorem dX11_stand_19 : decode cX11_stand 19 = .ok (.iconst 0, 1) := by decide +kernel
theorem dX11_stand_20 : decode cX11_stand 20 = .ok (.istore_n 3, 1) := by decide +kernel
theorem dX11_stand_21 : decode cX11_stand 21 = .ok (.aload_n 0, 1) := by decide +kernel
theorem dX11_stand_22 : decode cX11_stand 22 = .ok (.iload_n 1, 1) := by decide +kernel
theorem dX11_stand_23 : decode cX11_stand 23 = .ok (.iconst 0, 1) := by decide +kernel
theorem dX11_stand_24 : decode cX11_stand 24 = .ok (.invokevirtual 211, 3) := by decide +kernel
theorem dX11_stand_27 : decode cX11_stand 27 = .ok (.istore 4, 2) := by decide +kernel
theorem dX11_stand_29 : decode cX11_stand 29 = .ok (.iconst 1, 1) := by decide +kernel
theorem dX11_stand_30 : decode cX11_stand 30 = .ok (.istore 5, 2) := by decide +kernel
theorem dX11_stand_32 : decode cX11_stand 32 = .ok (.iload 5, 2) := by decide +kernel
theorem dX11_stand_34 : decode cX11_stand 34 = .ok (.bipush 25, 2) := by decide +kernel
theorem dX11_stand_36 : decode cX11_stand 36 = .ok (.if_icmp .ge 32, 3) := by decide +kernel
theorem dX11_stand_39 : decode cX11_stand 39 = .ok (.aload_n 0, 1) := by decide +kernel
theorem dX11_stand_40 : decode cX11_stand 40 = .ok (.iload_n 1, 1) := by decide +kernel
theorem dX11_stand_41 : decode cX11_stand 41 = .ok (.iload 5, 2) := by decide +kernel
theorem dX11_stand_43 : decode cX11_stand 43 = .ok (.invokevirtual 211, 3) := by decide +kernel
theorem dX11_stand_46 : decode cX11_stand 46 = .ok (.istore 6, 2) := by decide +kernel
theorem dX11_stand_48 : decode cX11_stand 48 = .ok (.iload 6, 2) := by decide +kernel
theorem dX11_stand_50 : decode cX11_stand 50 = .ok (.iload 4, 2) := by decide +kernel
theorem dX11_stand_52 : decode cX11_stand 52 = .ok (.if_icmp .ge 10, 3) := by decide +kernel
theorem dX11_stand_55 : decode cX11_stand 55 = .ok (.iload 6, 2) := by decide +kernel
theorem dX11_stand_57 : decode cX11_stand 57 = .ok (.istore 4, 2) := by decide +kernel
theorem dX11_stand_59 : decode cX11_stand 59 = .ok (.iload 5, 2) := by decide +kernel
theorem dX11_stand_61 : decode cX11_stand 61 = .ok (.istore_n 3, 1) := by decide +kernel
theorem dX11_stand_62 : decode cX11_stand 62 = .ok (.iinc 5 1, 3) := by decide +kernel
theorem dX11_stand_65 : decode cX11_stand 65 = .ok (.goto (-33), 3) := by decide +kernel
theorem dX11_stand_68 : decode cX11_stand 68 = .ok (.iload_n 2, 1) := by decide +kernel
theorem dX11_stand_69 : decode cX11_stand 69 = .ok (.ifCond .ne 7, 3) := by decide +kernel
theorem dX11_stand_72 : decode cX11_stand 72 = .ok (.iload_n 3, 1) := by decide +kernel
theorem dX11_stand_73 : decode cX11_stand 73 = .ok (.goto 5, 3) := by decide +kernel
theorem dX11_stand_76 : decode cX11_stand 76 = .ok (.iload 4, 2) := by decide +kernel
theorem dX11_stand_78 : decode cX11_stand 78 = .ok (.ireturn, 1) := by decide +kernel
theorem dX11_tires_0 : decode cX11_tires 0 = .ok (.iload_n 1, 1) := by decide +kernel
theorem dX11_tires_1 : decode cX11_tires 1 = .ok (.invokestatic 115, 3) := by decide +kernel
theorem dX11_tires_4 : decode cX11_tires 4 = .ok (.ifCond .ne 6, 3) := by decide +kernel
theorem dX11_tires_7 : decode cX11_tires 7 = .ok (.bipush (-2), 2) := by decide +kernel
theorem dX11_tires_9 : decode cX11_tires 9 = .ok (.ireturn, 1) := by decide +kernel
theorem dX11_tires_10 : decode cX11_tires 10 = .ok (.aload_n 0, 1) := by decide +kernel
theorem dX11_tires_11 : decode cX11_tires 11 = .ok (.getfield 97, 3) := by decide +kernel
theorem dX11_tires_14 : decode cX11_tires 14 = .ok (.iload_n 1, 1) := by decide +kernel
theorem dX11_tires_15 : decode cX11_tires 15 = .ok (.invokevirtual 119, 3) := by decide +kernel
theorem dX11_tires_18 : decode cX11_tires 18 = .ok (.astore_n 2, 1) := by decide +kernel
theorem dX11_tires_19 : decode cX11_tires 19 = .ok (.aload_n 0, 1) := by decide +kernel
theorem dX11_tires_20 : decode cX11_tires 20 = .ok (.getfield 97, 3) := by decide +kernel
theorem dX11_tires_23 : decode cX11_tires 23 = .ok (.iconst 1, 1) := by decide +kernel
theorem dX11_tires_24 : decode cX11_tires 24 = .ok (.iload_n 1, 1) := by decide +kernel
theorem dX11_tires_25 : decode cX11_tires 25 = .ok (.isub, 1) := by decide +kernel
theorem dX11_tires_26 : decode cX11_tires 26 = .ok (.invokevirtual 119, 3) := by decide +kernel
theorem dX11_tires_29 : decode cX11_tires 29 = .ok (.astore_n 3, 1) := by decide +kernel
theorem dX11_tires_30 : decode cX11_tires 30 = .ok (.iconst (-1), 1) := by decide +kernel
theorem dX11_tires_31 : decode cX11_tires 31 = .ok (.istore 4, 2) := by decide +kernel
theorem dX11_tires_33 : decode cX11_tires 33 = .ok (.iconst (-1), 1) := by decide +kernel
theorem dX11_tires_34 : decode cX11_tires 34 = .ok (.istore 5, 2) := by decide +kernel
theorem dX11_tires_36 : decode cX11_tires 36 = .ok (.iconst 0, 1) := by decide +kernel
theorem dX11_tires_37 : decode cX11_tires 37 = .ok (.istore 6, 2) := by decide +kernel
theorem dX11_tires_39 : decode cX11_tires 39 = .ok (.iload 6, 2) := by decide +kernel
theorem dX11_tires_41 : decode cX11_tires 41 = .ok (.aload_n 0, 1) := by decide +kernel
theorem dX11_tires_42 : decode cX11_tires 42 = .ok (.getfield 32, 3) := by decide +kernel
theorem dX11_tires_45 : decode cX11_tires 45 = .ok (.if_icmp .ge 72, 3) := by decide +kernel
theorem dX11_tires_48 : decode cX11_tires 48 = .ok (.aload_n 0, 1) := by decide +kernel
theorem dX11_tires_49 : decode cX11_tires 49 = .ok (.iload 6, 2) := by decide +kernel
theorem dX11_tires_51 : decode cX11_tires 51 = .ok (.invokevirtual 129, 3) := by decide +kernel
theorem dX11_tires_54 : decode cX11_tires 54 = .ok (.astore 7, 2) := by decide +kernel
theorem dX11_tires_56 : decode cX11_tires 56 = .ok (.aload 7, 2) := by decide +kernel
theorem dX11_tires_58 : decode cX11_tires 58 = .ok (.ifnonnull 7, 3) := by decide +kernel
theorem dX11_tires_61 : decode cX11_tires 61 = .ok (.iconst (-1), 1) := by decide +kernel
theorem dX11_tires_62 : decode cX11_tires 62 = .ok (.goto 19, 3) := by decide +kernel
theorem dX11_tires_65 : decode cX11_tires 65 = .ok (.aload_n 3, 1) := by decide +kernel
theorem dX11_tires_66 : decode cX11_tires 66 = .ok (.getfield 150, 3) := by decide +kernel
theorem dX11_tires_69 : decode cX11_tires 69 = .ok (.aload 7, 2) := by decide +kernel
theorem dX11_tires_71 : decode cX11_tires 71 = .ok (.aload_n 2, 1) := by decide +kernel
theorem dX11_tires_72 : decode cX11_tires 72 = .ok (.getfield 150, 3) := by decide +kernel
theorem dX11_tires_75 : decode cX11_tires 75 = .ok (.invokevirtual 153, 3) := by decide +kernel
theorem dX11_tires_78 : decode cX11_tires 78 = .ok (.invokestatic 214, 3) := by decide +kernel
theorem dX11_tires_81 : decode cX11_tires 81 = .ok (.istore 8, 2) := by decide +kernel
theorem dX11_tires_83 : decode cX11_tires 83 = .ok (.iload 8, 2) := by decide +kernel
theorem dX11_tires_85 : decode cX11_tires 85 = .ok (.iload 4, 2) := by decide +kernel
theorem dX11_tires_87 : decode cX11_tires 87 = .ok (.if_icmp .le 24, 3) := by decide +kernel
theorem dX11_tires_90 : decode cX11_tires 90 = .ok (.aload_n 0, 1) := by decide +kernel
theorem dX11_tires_91 : decode cX11_tires 91 = .ok (.getfield 97, 3) := by decide +kernel
theorem dX11_tires_94 : decode cX11_tires 94 = .ok (.iload_n 1, 1) := by decide +kernel
theorem dX11_tires_95 : decode cX11_tires 95 = .ok (.aload 7, 2) := by decide +kernel
theorem dX11_tires_97 : decode cX11_tires 97 = .ok (.invokevirtual 217, 3) := by decide +kernel
theorem dX11_tires_100 : decode cX11_tires 100 = .ok (.ifCond .ne 11, 3) := by decide +kernel
theorem dX11_tires_103 : decode cX11_tires 103 = .ok (.iload 8, 2) := by decide +kernel
theorem dX11_tires_105 : decode cX11_tires 105 = .ok (.istore 4, 2) := by decide +kernel
theorem dX11_tires_107 : decode cX11_tires 107 = .ok (.iload 6, 2) := by decide +kernel
theorem dX11_tires_109 : decode cX11_tires 109 = .ok (.istore 5, 2) := by decide +kernel
theorem dX11_tires_111 : decode cX11_tires 111 = .ok (.iinc 6 1, 3) := by decide +kernel
theorem dX11_tires_114 : decode cX11_tires 114 = .ok (.goto (-75), 3) := by decide +kernel
theorem dX11_tires_117 : decode cX11_tires 117 = .ok (.iload 5, 2) := by decide +kernel
theorem dX11_tires_119 : decode cX11_tires 119 = .ok (.ireturn, 1) := by decide +kernel
theorem dX11_inTheWay_0 : decode cX11_inTheWay 0 = .ok (.aload_n 0, 1) := by decide +kernel
theorem dX11_inTheWay_1 : decode cX11_inTheWay 1 = .ok (.iload_n 1, 1) := by decide +kernel
theorem dX11_inTheWay_2 : decode cX11_inTheWay 2 = .ok (.invokevirtual 180, 3) := by decide +kernel
theorem dX11_inTheWay_5 : decode cX11_inTheWay 5 = .ok (.istore_n 2, 1) := by decide +kernel
theorem dX11_inTheWay_6 : decode cX11_inTheWay 6 = .ok (.iload_n 2, 1) := by decide +kernel
theorem dX11_inTheWay_7 : decode cX11_inTheWay 7 = .ok (.ifCond .eq 5, 3) := by decide +kernel
theorem dX11_inTheWay_10 : decode cX11_inTheWay 10 = .ok (.iload_n 2, 1) := by decide +kernel
theorem dX11_inTheWay_11 : decode cX11_inTheWay 11 = .ok (.ireturn, 1) := by decide +kernel
theorem dX11_inTheWay_12 : decode cX11_inTheWay 12 = .ok (.aload_n 0, 1) := by decide +kernel
theorem dX11_inTheWay_13 : decode cX11_inTheWay 13 = .ok (.iload_n 1, 1) := by decide +kernel
theorem dX11_inTheWay_14 : decode cX11_inTheWay 14 = .ok (.invokevirtual 183, 3) := by decide +kernel
theorem dX11_inTheWay_17 : decode cX11_inTheWay 17 = .ok (.pop, 1) := by decide +kernel
theorem dX11_inTheWay_18 : decode cX11_inTheWay 18 = .ok (.aload_n 0, 1) := by decide +kernel
theorem dX11_inTheWay_19 : decode cX11_inTheWay 19 = .ok (.getfield 69, 3) := by decide +kernel
theorem dX11_inTheWay_22 : decode cX11_inTheWay 22 = .ok (.ireturn, 1) := by decide +kernel
theorem dX11_balls_0 : decode cX11_balls 0 = .ok (.aload_n 0, 1) := by decide +kernel
theorem dX11_balls_1 : decode cX11_balls 1 = .ok (.iload_n 1, 1) := by decide +kernel
theorem dX11_balls_2 : decode cX11_balls 2 = .ok (.invokevirtual 196, 3) := by decide +kernel
theorem dX11_balls_5 : decode cX11_balls 5 = .ok (.astore_n 3, 1) := by decide +kernel
theorem dX11_balls_6 : decode cX11_balls 6 = .ok (.aload_n 3, 1) := by decide +kernel
theorem dX11_balls_7 : decode cX11_balls 7 = .ok (.ifnull 12, 3) := by decide +kernel
theorem dX11_balls_10 : decode cX11_balls 10 = .ok (.iload_n 2, 1) := by decide +kernel
theorem dX11_balls_11 : decode cX11_balls 11 = .ok (.ifCond .lt 8, 3) := by decide +kernel
theorem dX11_balls_14 : decode cX11_balls 14 = .ok (.iload_n 2, 1) := by decide +kernel
theorem dX11_balls_15 : decode cX11_balls 15 = .ok (.iconst 1, 1) := by decide +kernel
theorem dX11_balls_16 : decode cX11_balls 16 = .ok (.if_icmp .le 6, 3) := by decide +kernel
theorem dX11_balls_19 : decode cX11_balls 19 = .ok (.bipush (-2), 2) := by decide +kernel
theorem dX11_balls_21 : decode cX11_balls 21 = .ok (.ireturn, 1) := by decide +kernel
theorem dX11_balls_22 : decode cX11_balls 22 = .ok (.aload_n 3, 1) := by decide +kernel
theorem dX11_balls_23 : decode cX11_balls 23 = .ok (.invokevirtual 221, 3) := by decide +kernel
theorem dX11_balls_26 : decode cX11_balls 26 = .ok (.ifCond .eq 6, 3) := by decide +kernel
theorem dX11_balls_29 : decode cX11_balls 29 = .ok (.bipush (-11), 2) := by decide +kernel
theorem dX11_balls_31 : decode cX11_balls 31 = .ok (.ireturn, 1) := by decide +kernel
theorem dX11_balls_32 : decode cX11_balls 32 = .ok (.aload_n 3, 1) := by decide +kernel
theorem dX11_balls_33 : decode cX11_balls 33 = .ok (.getfield 225, 3) := by decide +kernel
theorem dX11_balls_36 : decode cX11_balls 36 = .ok (.iconst 4, 1) := by decide +kernel
theorem dX11_balls_37 : decode cX11_balls 37 = .ok (.if_icmp .le 6, 3) := by decide +kernel
theorem dX11_balls_40 : decode cX11_balls 40 = .ok (.bipush (-2), 2) := by decide +kernel
theorem dX11_balls_42 : decode cX11_balls 42 = .ok (.ireturn, 1) := by decide +kernel
theorem dX11_balls_43 : decode cX11_balls 43 = .ok (.aload_n 0, 1) := by decide +kernel
theorem dX11_balls_44 : decode cX11_balls 44 = .ok (.iconst (-1), 1) := by decide +kernel
theorem dX11_balls_45 : decode cX11_balls 45 = .ok (.putfield 75, 3) := by decide +kernel
theorem dX11_balls_48 : decode cX11_balls 48 = .ok (.aload_n 0, 1) := by decide +kernel
theorem dX11_balls_49 : decode cX11_balls 49 = .ok (.aload_n 0, 1) := by decide +kernel
theorem dX11_balls_50 : decode cX11_balls 50 = .ok (.getfield 97, 3) := by decide +kernel
theorem dX11_balls_53 : decode cX11_balls 53 = .ok (.aload_n 3, 1) := by decide +kernel
theorem dX11_balls_54 : decode cX11_balls 54 = .ok (.iconst 0, 1) := by decide +kernel
theorem dX11_balls_55 : decode cX11_balls 55 = .ok (.iconst 0, 1) := by decide +kernel
theorem dX11_balls_56 : decode cX11_balls 56 = .ok (.invokevirtual 226, 3) := by decide +kernel
theorem dX11_balls_59 : decode cX11_balls 59 = .ok (.istore 4, 2) := by decide +kernel
theorem dX11_balls_61 : decode cX11_balls 61 = .ok (.iload_n 2, 1) := by decide +kernel
theorem dX11_balls_62 : decode cX11_balls 62 = .ok (.ifCond .ne 8, 3) := by decide +kernel
theorem dX11_balls_65 : decode cX11_balls 65 = .ok (.iload 4, 2) := by decide +kernel
theorem dX11_balls_67 : decode cX11_balls 67 = .ok (.goto 7, 3) := by decide +kernel
theorem dX11_balls_70 : decode cX11_balls 70 = .ok (.aload_n 0, 1) := by decide +kernel
theorem dX11_balls_71 : decode cX11_balls 71 = .ok (.getfield 75, 3) := by decide +kernel
theorem dX11_balls_74 : decode cX11_balls 74 = .ok (.ireturn, 1) := by decide +kernel
theorem dX11_quicks_0 : decode cX11_quicks 0 = .ok (.iload_n 2, 1) := by decide +kernel
theorem dX11_quicks_1 : decode cX11_quicks 1 = .ok (.ifCond .lt 18, 3) := by decide +kernel
theorem dX11_quicks_4 : decode cX11_quicks 4 = .ok (.iload_n 2, 1) := by decide +kernel
theorem dX11_quicks_5 : decode cX11_quicks 5 = .ok (.iconst 2, 1) := by decide +kernel
theorem dX11_quicks_6 : decode cX11_quicks 6 = .ok (.if_icmp .gt 13, 3) := by decide +kernel
theorem dX11_quicks_9 : decode cX11_quicks 9 = .ok (.iload_n 3, 1) := by decide +kernel
theorem dX11_quicks_10 : decode cX11_quicks 10 = .ok (.iconst (-1), 1) := by decide +kernel
theorem dX11_quicks_11 : decode cX11_quicks 11 = .ok (.if_icmp .lt 8, 3) := by decide +kernel
theorem dX11_quicks_14 : decode cX11_quicks 14 = .ok (.iload_n 3, 1) := by decide +kernel
theorem dX11_quicks_15 : decode cX11_quicks 15 = .ok (.iconst 1, 1) := by decide +kernel
theorem dX11_quicks_16 : decode cX11_quicks 16 = .ok (.if_icmp .le 6, 3) := by decide +kernel
theorem dX11_quicks_19 : decode cX11_quicks 19 = .ok (.bipush (-2), 2) := by decide +kernel
theorem dX11_quicks_21 : decode cX11_quicks 21 = .ok (.ireturn, 1) := by decide +kernel
theorem dX11_quicks_22 : decode cX11_quicks 22 = .ok (.aload_n 0, 1) := by decide +kernel
theorem dX11_quicks_23 : decode cX11_quicks 23 = .ok (.iload_n 1, 1) := by decide +kernel
theorem dX11_quicks_24 : decode cX11_quicks 24 = .ok (.invokevirtual 180, 3) := by decide +kernel
theorem dX11_quicks_27 : decode cX11_quicks 27 = .ok (.istore 4, 2) := by decide +kernel
theorem dX11_quicks_29 : decode cX11_quicks 29 = .ok (.iload 4, 2) := by decide +kernel
theorem dX11_quicks_31 : decode cX11_quicks 31 = .ok (.ifCond .eq 6, 3) := by decide +kernel
theorem dX11_quicks_34 : decode cX11_quicks 34 = .ok (.iload 4, 2) := by decide +kernel
theorem dX11_quicks_36 : decode cX11_quicks 36 = .ok (.ireturn, 1) := by decide +kernel
theorem dX11_quicks_37 : decode cX11_quicks 37 = .ok (.aload_n 0, 1) := by decide +kernel
theorem dX11_quicks_38 : decode cX11_quicks 38 = .ok (.iload_n 1, 1) := by decide +kernel
theorem dX11_quicks_39 : decode cX11_quicks 39 = .ok (.invokevirtual 196, 3) := by decide +kernel
theorem dX11_quicks_42 : decode cX11_quicks 42 = .ok (.astore 5, 2) := by decide +kernel
theorem dX11_quicks_44 : decode cX11_quicks 44 = .ok (.iload_n 2, 1) := by decide +kernel
theorem dX11_quicks_45 : decode cX11_quicks 45 = .ok (.iconst 2, 1) := by decide +kernel
theorem dX11_quicks_46 : decode cX11_quicks 46 = .ok (.if_icmp .ne 13, 3) := by decide +kernel
theorem dX11_quicks_49 : decode cX11_quicks 49 = .ok (.aload_n 0, 1) := by decide +kernel
theorem dX11_quicks_50 : decode cX11_quicks 50 = .ok (.aload 5, 2) := by decide +kernel
theorem dX11_quicks_52 : decode cX11_quicks 52 = .ok (.iload_n 3, 1) := by decide +kernel
theorem dX11_quicks_53 : decode cX11_quicks 53 = .ok (.invokevirtual 230, 3) := by decide +kernel
theorem dX11_quicks_56 : decode cX11_quicks 56 = .ok (.goto 11, 3) := by decide +kernel
theorem dX11_quicks_59 : decode cX11_quicks 59 = .ok (.aload_n 0, 1) := by decide +kernel
theorem dX11_quicks_60 : decode cX11_quicks 60 = .ok (.aload 5, 2) := by decide +kernel
theorem dX11_quicks_62 : decode cX11_quicks 62 = .ok (.iload_n 2, 1) := by decide +kernel
theorem dX11_quicks_63 : decode cX11_quicks 63 = .ok (.iload_n 3, 1) := by decide +kernel
theorem dX11_quicks_64 : decode cX11_quicks 64 = .ok (.invokevirtual 234, 3) := by decide +kernel
theorem dX11_quicks_67 : decode cX11_quicks 67 = .ok (.ireturn, 1) := by decide +kernel
theorem dX11_film_0 : decode cX11_film 0 = .ok (.aload_n 0, 1) := by decide +kernel
theorem dX11_film_1 : decode cX11_film 1 = .ok (.iload_n 1, 1) := by decide +kernel
theorem dX11_film_2 : decode cX11_film 2 = .ok (.invokevirtual 196, 3) := by decide +kernel
theorem dX11_film_5 : decode cX11_film 5 = .ok (.astore_n 3, 1) := by decide +kernel
theorem dX11_film_6 : decode cX11_film 6 = .ok (.aload_n 3, 1) := by decide +kernel
theorem dX11_film_7 : decode cX11_film 7 = .ok (.ifnonnull 6, 3) := by decide +kernel
theorem dX11_film_10 : decode cX11_film 10 = .ok (.bipush (-2), 2) := by decide +kernel
theorem dX11_film_12 : decode cX11_film 12 = .ok (.ireturn, 1) := by decide +kernel
theorem dX11_film_13 : decode cX11_film 13 = .ok (.aload_n 0, 1) := by decide +kernel
theorem dX11_film_14 : decode cX11_film 14 = .ok (.iload_n 2, 1) := by decide +kernel
theorem dX11_film_15 : decode cX11_film 15 = .ok (.invokevirtual 180, 3) := by decide +kernel
theorem dX11_film_18 : decode cX11_film 18 = .ok (.istore 4, 2) := by decide +kernel
theorem dX11_film_20 : decode cX11_film 20 = .ok (.iload 4, 2) := by decide +kernel
theorem dX11_film_22 : decode cX11_film 22 = .ok (.ifCond .eq 6, 3) := by decide +kernel
theorem dX11_film_25 : decode cX11_film 25 = .ok (.iload 4, 2) := by decide +kernel
theorem dX11_film_27 : decode cX11_film 27 = .ok (.ireturn, 1) := by decide +kernel
theorem dX11_film_28 : decode cX11_film 28 = .ok (.aload_n 0, 1) := by decide +kernel
theorem dX11_film_29 : decode cX11_film 29 = .ok (.iload_n 2, 1) := by decide +kernel
theorem dX11_film_30 : decode cX11_film 30 = .ok (.invokevirtual 183, 3) := by decide +kernel
theorem dX11_film_33 : decode cX11_film 33 = .ok (.pop, 1) := by decide +kernel
theorem dX11_film_34 : decode cX11_film 34 = .ok (.aload_n 3, 1) := by decide +kernel
theorem dX11_film_35 : decode cX11_film 35 = .ok (.iconst 0, 1) := by decide +kernel
theorem dX11_film_36 : decode cX11_film 36 = .ok (.aload_n 0, 1) := by decide +kernel
theorem dX11_film_37 : decode cX11_film 37 = .ok (.getfield 60, 3) := by decide +kernel
theorem dX11_film_40 : decode cX11_film 40 = .ok (.invokevirtual 238, 3) := by decide +kernel
theorem dX11_film_43 : decode cX11_film 43 = .ok (.iconst 0, 1) := by decide +kernel
theorem dX11_film_44 : decode cX11_film 44 = .ok (.istore 5, 2) := by decide +kernel
theorem dX11_film_46 : decode cX11_film 46 = .ok (.iload 5, 2) := by decide +kernel
theorem dX11_film_48 : decode cX11_film 48 = .ok (.aload_n 0, 1) := by decide +kernel
theorem dX11_film_49 : decode cX11_film 49 = .ok (.getfield 60, 3) := by decide +kernel
theorem dX11_film_52 : decode cX11_film 52 = .ok (.if_icmp .ge 32, 3) := by decide +kernel
theorem dX11_film_55 : decode cX11_film 55 = .ok (.iload 5, 2) := by decide +kernel
theorem dX11_film_57 : decode cX11_film 57 = .ok (.aload_n 0, 1) := by decide +kernel
theorem dX11_film_58 : decode cX11_film 58 = .ok (.getfield 57, 3) := by decide +kernel
theorem dX11_film_61 : decode cX11_film 61 = .ok (.arraylength, 1) := by decide +kernel
theorem dX11_film_62 : decode cX11_film 62 = .ok (.if_icmp .ge 22, 3) := by decide +kernel
theorem dX11_film_65 : decode cX11_film 65 = .ok (.aload_n 3, 1) := by decide +kernel
theorem dX11_film_66 : decode cX11_film 66 = .ok (.iload 5, 2) := by decide +kernel
theorem dX11_film_68 : decode cX11_film 68 = .ok (.aload_n 0, 1) := by decide +kernel
theorem dX11_film_69 : decode cX11_film 69 = .ok (.getfield 57, 3) := by decide +kernel
theorem dX11_film_72 : decode cX11_film 72 = .ok (.iload 5, 2) := by decide +kernel
theorem dX11_film_74 : decode cX11_film 74 = .ok (.iaload, 1) := by decide +kernel
theorem dX11_film_75 : decode cX11_film 75 = .ok (.invokevirtual 242, 3) := by decide +kernel
theorem dX11_film_78 : decode cX11_film 78 = .ok (.iinc 5 1, 3) := by decide +kernel
theorem dX11_film_81 : decode cX11_film 81 = .ok (.goto (-35), 3) := by decide +kernel
theorem dX11_film_84 : decode cX11_film 84 = .ok (.aload_n 0, 1) := by decide +kernel
theorem dX11_film_85 : decode cX11_film 85 = .ok (.getfield 60, 3) := by decide +kernel
theorem dX11_film_88 : decode cX11_film 88 = .ok (.ireturn, 1) := by decide +kernel
theorem dX11_drawn_0 : decode cX11_drawn 0 = .ok (.aload_n 0, 1) := by decide +kernel
theorem dX11_drawn_1 : decode cX11_drawn 1 = .ok (.getfield 32, 3) := by decide +kernel
theorem dX11_drawn_4 : decode cX11_drawn 4 = .ok (.ifCond .gt 5, 3) := by decide +kernel
theorem dX11_drawn_7 : decode cX11_drawn 7 = .ok (.iconst (-1), 1) := by decide +kernel
theorem dX11_drawn_8 : decode cX11_drawn 8 = .ok (.ireturn, 1) := by decide +kernel
theorem dX11_drawn_9 : decode cX11_drawn 9 = .ok (.aload_n 0, 1) := by decide +kernel
theorem dX11_drawn_10 : decode cX11_drawn 10 = .ok (.getfield 101, 3) := by decide +kernel
theorem dX11_drawn_13 : decode cX11_drawn 13 = .ok (.aload_n 0, 1) := by decide +kernel
theorem dX11_drawn_14 : decode cX11_drawn 14 = .ok (.getfield 97, 3) := by decide +kernel
theorem dX11_drawn_17 : decode cX11_drawn 17 = .ok (.invokevirtual 245, 3) := by decide +kernel
theorem dX11_drawn_20 : decode cX11_drawn 20 = .ok (.iload_n 1, 1) := by decide +kernel
theorem dX11_drawn_21 : decode cX11_drawn 21 = .ok (.istore_n 2, 1) := by decide +kernel
theorem dX11_drawn_22 : decode cX11_drawn 22 = .ok (.iconst 0, 1) := by decide +kernel
theorem dX11_drawn_23 : decode cX11_drawn 23 = .ok (.istore_n 3, 1) := by decide +kernel
theorem dX11_drawn_24 : decode cX11_drawn 24 = .ok (.iload_n 3, 1) := by decide +kernel
theorem dX11_drawn_25 : decode cX11_drawn 25 = .ok (.bipush 40, 2) := by decide +kernel
theorem dX11_drawn_27 : decode cX11_drawn 27 = .ok (.if_icmp .ge 60, 3) := by decide +kernel
theorem dX11_drawn_30 : decode cX11_drawn 30 = .ok (.iload_n 2, 1) := by decide +kernel
theorem dX11_drawn_31 : decode cX11_drawn 31 = .ok (.ldc 249, 2) := by decide +kernel
theorem dX11_drawn_33 : decode cX11_drawn 33 = .ok (.imul, 1) := by decide +kernel
theorem dX11_drawn_34 : decode cX11_drawn 34 = .ok (.sipush 12345, 3) := by decide +kernel
theorem dX11_drawn_37 : decode cX11_drawn 37 = .ok (.iadd, 1) := by decide +kernel
theorem dX11_drawn_38 : decode cX11_drawn 38 = .ok (.istore_n 2, 1) := by decide +kernel
theorem dX11_drawn_39 : decode cX11_drawn 39 = .ok (.aload_n 0, 1) := by decide +kernel
theorem dX11_drawn_40 : decode cX11_drawn 40 = .ok (.iload_n 2, 1) := by decide +kernel
theorem dX11_drawn_41 : decode cX11_drawn 41 = .ok (.bipush 9, 2) := by decide +kernel
theorem dX11_drawn_43 : decode cX11_drawn 43 = .ok (.iushr, 1) := by decide +kernel
theorem dX11_drawn_44 : decode cX11_drawn 44 = .ok (.aload_n 0, 1) := by decide +kernel
theorem dX11_drawn_45 : decode cX11_drawn 45 = .ok (.getfield 32, 3) := by decide +kernel
theorem dX11_drawn_48 : decode cX11_drawn 48 = .ok (.irem, 1) := by decide +kernel
theorem dX11_drawn_49 : decode cX11_drawn 49 = .ok (.invokevirtual 129, 3) := by decide +kernel
theorem dX11_drawn_52 : decode cX11_drawn 52 = .ok (.astore 4, 2) := by decide +kernel
theorem dX11_drawn_54 : decode cX11_drawn 54 = .ok (.iload_n 3, 1) := by decide +kernel
theorem dX11_drawn_55 : decode cX11_drawn 55 = .ok (.iconst 2, 1) := by decide +kernel
theorem dX11_drawn_56 : decode cX11_drawn 56 = .ok (.irem, 1) := by decide +kernel
theorem dX11_drawn_57 : decode cX11_drawn 57 = .ok (.istore 5, 2) := by decide +kernel
theorem dX11_drawn_59 : decode cX11_drawn 59 = .ok (.aload 4, 2) := by decide +kernel
theorem dX11_drawn_61 : decode cX11_drawn 61 = .ok (.ifnull 20, 3) := by decide +kernel
theorem dX11_drawn_64 : decode cX11_drawn 64 = .ok (.aload_n 0, 1) := by decide +kernel
theorem dX11_drawn_65 : decode cX11_drawn 65 = .ok (.getfield 101, 3) := by decide +kernel
theorem dX11_drawn_68 : decode cX11_drawn 68 = .ok (.iload 5, 2) := by decide +kernel
theorem dX11_drawn_70 : decode cX11_drawn 70 = .ok (.aload 4, 2) := by decide +kernel
theorem dX11_drawn_72 : decode cX11_drawn 72 = .ok (.invokevirtual 250, 3) := by decide +kernel
theorem dX11_drawn_75 : decode cX11_drawn 75 = .ok (.ifCond .eq 6, 3) := by decide +kernel
theorem dX11_drawn_78 : decode cX11_drawn 78 = .ok (.iload 5, 2) := by decide +kernel
theorem dX11_drawn_80 : decode cX11_drawn 80 = .ok (.ireturn, 1) := by decide +kernel
theorem dX11_drawn_81 : decode cX11_drawn 81 = .ok (.iinc 3 1, 3) := by decide +kernel
theorem dX11_drawn_84 : decode cX11_drawn 84 = .ok (.goto (-60), 3) := by decide +kernel
theorem dX11_drawn_87 : decode cX11_drawn 87 = .ok (.iconst (-1), 1) := by decide +kernel
theorem dX11_drawn_88 : decode cX11_drawn 88 = .ok (.ireturn, 1) := by decide +kernel
theorem dX11_chance_0 : decode cX11_chance 0 = .ok (.iload_n 2, 1) := by decide +kernel
theorem dX11_chance_1 : decode cX11_chance 1 = .ok (.iconst 1, 1) := by decide +kernel
theorem dX11_chance_2 : decode cX11_chance 2 = .ok (.if_icmp .lt 18, 3) := by decide +kernel
theorem dX11_chance_5 : decode cX11_chance 5 = .ok (.iload_n 2, 1) := by decide +kernel
theorem dX11_chance_6 : decode cX11_chance 6 = .ok (.bipush 20, 2) := by decide +kernel
theorem dX11_chance_8 : decode cX11_chance 8 = .ok (.if_icmp .gt 12, 3) := by decide +kernel
theorem dX11_chance_11 : decode cX11_chance 11 = .ok (.iload_n 3, 1) := by decide +kernel
theorem dX11_chance_12 : decode cX11_chance 12 = .ok (.ifCond .lt 8, 3) := by decide +kernel
theorem dX11_chance_15 : decode cX11_chance 15 = .ok (.iload_n 3, 1) := by decide +kernel
theorem dX11_chance_16 : decode cX11_chance 16 = .ok (.iconst 1, 1) := by decide +kernel
theorem dX11_chance_17 : decode cX11_chance 17 = .ok (.if_icmp .le 7, 3) := by decide +kernel
theorem dX11_chance_20 : decode cX11_chance 20 = .ok (.ldc2_w 204, 3) := by decide +kernel
theorem dX11_chance_23 : decode cX11_chance 23 = .ok (.lreturn, 1) := by decide +kernel
theorem dX11_chance_24 : decode cX11_chance 24 = .ok (.iconst 0, 1) := by decide +kernel
theorem dX11_chance_25 : decode cX11_chance 25 = .ok (.istore 4, 2) := by decide +kernel
theorem dX11_chance_27 : decode cX11_chance 27 = .ok (.iconst 0, 1) := by decide +kernel
theorem dX11_chance_28 : decode cX11_chance 28 = .ok (.istore 5, 2) := by decide +kernel
theorem dX11_chance_30 : decode cX11_chance 30 = .ok (.iload 5, 2) := by decide +kernel
theorem dX11_chance_32 : decode cX11_chance 32 = .ok (.iload_n 2, 1) := by decide +kernel
theorem dX11_chance_33 : decode cX11_chance 33 = .ok (.if_icmp .ge 23, 3) := by decide +kernel
theorem dX11_chance_36 : decode cX11_chance 36 = .ok (.aload_n 0, 1) := by decide +kernel
theorem dX11_chance_37 : decode cX11_chance 37 = .ok (.iload_n 1, 1) := by decide +kernel
theorem dX11_chance_38 : decode cX11_chance 38 = .ok (.iload 5, 2) := by decide +kernel
theorem dX11_chance_40 : decode cX11_chance 40 = .ok (.iadd, 1) := by decide +kernel
theorem dX11_chance_41 : decode cX11_chance 41 = .ok (.invokevirtual 253, 3) := by decide +kernel
theorem dX11_chance_44 : decode cX11_chance 44 = .ok (.ifCond .ne 6, 3) := by decide +kernel
theorem dX11_chance_47 : decode cX11_chance 47 = .ok (.iinc 4 1, 3) := by decide +kernel
theorem dX11_chance_50 : decode cX11_chance 50 = .ok (.iinc 5 1, 3) := by decide +kernel
theorem dX11_chance_53 : decode cX11_chance 53 = .ok (.goto (-23), 3) := by decide +kernel
theorem dX11_chance_56 : decode cX11_chance 56 = .ok (.iload_n 2, 1) := by decide +kernel
theorem dX11_chance_57 : decode cX11_chance 57 = .ok (.istore 5, 2) := by decide +kernel
theorem dX11_chance_59 : decode cX11_chance 59 = .ok (.iload 5, 2) := by decide +kernel
theorem dX11_chance_61 : decode cX11_chance 61 = .ok (.iconst 1, 1) := by decide +kernel
theorem dX11_chance_62 : decode cX11_chance 62 = .ok (.if_icmp .le 24, 3) := by decide +kernel
theorem dX11_chance_65 : decode cX11_chance 65 = .ok (.iload 4, 2) := by decide +kernel
theorem dX11_chance_67 : decode cX11_chance 67 = .ok (.iload 5, 2) := by decide +kernel
theorem dX11_chance_69 : decode cX11_chance 69 = .ok (.irem, 1) := by decide +kernel
theorem dX11_chance_70 : decode cX11_chance 70 = .ok (.ifCond .ne 10, 3) := by decide +kernel
theorem dX11_chance_73 : decode cX11_chance 73 = .ok (.iload_n 2, 1) := by decide +kernel
theorem dX11_chance_74 : decode cX11_chance 74 = .ok (.iload 5, 2) := by decide +kernel
theorem dX11_chance_76 : decode cX11_chance 76 = .ok (.irem, 1) := by decide +kernel
theorem dX11_chance_77 : decode cX11_chance 77 = .ok (.ifCond .eq 9, 3) := by decide +kernel
theorem dX11_chance_80 : decode cX11_chance 80 = .ok (.iinc 5 (-1), 3) := by decide +kernel
theorem dX11_chance_83 : decode cX11_chance 83 = .ok (.goto (-24), 3) := by decide +kernel
theorem dX11_chance_86 : decode cX11_chance 86 = .ok (.iload_n 3, 1) := by decide +kernel
theorem dX11_chance_87 : decode cX11_chance 87 = .ok (.ifCond .ne 12, 3) := by decide +kernel
theorem dX11_chance_90 : decode cX11_chance 90 = .ok (.iload 4, 2) := by decide +kernel
theorem dX11_chance_92 : decode cX11_chance 92 = .ok (.iload 5, 2) := by decide +kernel
theorem dX11_chance_94 : decode cX11_chance 94 = .ok (.idiv, 1) := by decide +kernel
theorem dX11_chance_95 : decode cX11_chance 95 = .ok (.i2l, 1) := by decide +kernel
theorem dX11_chance_96 : decode cX11_chance 96 = .ok (.goto 8, 3) := by decide +kernel
theorem dX11_chance_99 : decode cX11_chance 99 = .ok (.iload_n 2, 1) := by decide +kernel
theorem dX11_chance_100 : decode cX11_chance 100 = .ok (.iload 5, 2) := by decide +kernel
theorem dX11_chance_102 : decode cX11_chance 102 = .ok (.idiv, 1) := by decide +kernel
theorem dX11_chance_103 : decode cX11_chance 103 = .ok (.i2l, 1) := by decide +kernel
theorem dX11_chance_104 : decode cX11_chance 104 = .ok (.lreturn, 1) := by decide +kernel
theorem dX11_image_0 : decode cX11_image 0 = .ok (.aload_n 0, 1) := by decide +kernel
theorem dX11_image_1 : decode cX11_image 1 = .ok (.getfield 104, 3) := by decide +kernel
theorem dX11_image_4 : decode cX11_image 4 = .ok (.aload_n 0, 1) := by decide +kernel
theorem dX11_image_5 : decode cX11_image 5 = .ok (.getfield 97, 3) := by decide +kernel
theorem dX11_image_8 : decode cX11_image 8 = .ok (.invokevirtual 245, 3) := by decide +kernel
theorem dX11_image_11 : decode cX11_image 11 = .ok (.iconst 0, 1) := by decide +kernel
theorem dX11_image_12 : decode cX11_image 12 = .ok (.istore_n 1, 1) := by decide +kernel
theorem dX11_image_13 : decode cX11_image 13 = .ok (.iload_n 1, 1) := by decide +kernel
theorem dX11_image_14 : decode cX11_image 14 = .ok (.aload_n 0, 1) := by decide +kernel
theorem dX11_image_15 : decode cX11_image 15 = .ok (.getfield 32, 3) := by decide +kernel
theorem dX11_image_18 : decode cX11_image 18 = .ok (.if_icmp .ge 39, 3) := by decide +kernel
theorem dX11_image_21 : decode cX11_image 21 = .ok (.aload_n 0, 1) := by decide +kernel
theorem dX11_image_22 : decode cX11_image 22 = .ok (.iload_n 1, 1) := by decide +kernel
theorem dX11_image_23 : decode cX11_image 23 = .ok (.invokevirtual 129, 3) := by decide +kernel
theorem dX11_image_26 : decode cX11_image 26 = .ok (.astore_n 2, 1) := by decide +kernel
theorem dX11_image_27 : decode cX11_image 27 = .ok (.aload_n 2, 1) := by decide +kernel
theorem dX11_image_28 : decode cX11_image 28 = .ok (.ifnull 23, 3) := by decide +kernel
theorem dX11_image_31 : decode cX11_image 31 = .ok (.aload_n 0, 1) := by decide +kernel
theorem dX11_image_32 : decode cX11_image 32 = .ok (.getfield 41, 3) := by decide +kernel
theorem dX11_image_35 : decode cX11_image 35 = .ok (.iload_n 1, 1) := by decide +kernel
theorem dX11_image_36 : decode cX11_image 36 = .ok (.aload_n 2, 1) := by decide +kernel
theorem dX11_image_37 : decode cX11_image 37 = .ok (.getfield 256, 3) := by decide +kernel
theorem dX11_image_40 : decode cX11_image 40 = .ok (.iastore, 1) := by decide +kernel
theorem dX11_image_41 : decode cX11_image 41 = .ok (.aload_n 0, 1) := by decide +kernel
theorem dX11_image_42 : decode cX11_image 42 = .ok (.getfield 45, 3) := by decide +kernel
theorem dX11_image_45 : decode cX11_image 45 = .ok (.iload_n 1, 1) := by decide +kernel
theorem dX11_image_46 : decode cX11_image 46 = .ok (.aload_n 2, 1) := by decide +kernel
theorem dX11_image_47 : decode cX11_image 47 = .ok (.getfield 259, 3) := by decide +kernel
theorem dX11_image_50 : decode cX11_image 50 = .ok (.iastore, 1) := by decide +kernel
theorem dX11_image_51 : decode cX11_image 51 = .ok (.iinc 1 1, 3) := by decide +kernel
theorem dX11_image_54 : decode cX11_image 54 = .ok (.goto (-41), 3) := by decide +kernel
theorem dX11_image_57 : decode cX11_image 57 = .ok (.aload_n 0, 1) := by decide +kernel
theorem dX11_image_58 : decode cX11_image 58 = .ok (.aload_n 0, 1) := by decide +kernel
theorem dX11_image_59 : decode cX11_image 59 = .ok (.getfield 32, 3) := by decide +kernel
theorem dX11_image_62 : decode cX11_image 62 = .ok (.putfield 48, 3) := by decide +kernel
theorem dX11_image_65 : decode cX11_image 65 = .ok (.aload_n 0, 1) := by decide +kernel
theorem dX11_image_66 : decode cX11_image 66 = .ok (.getfield 32, 3) := by decide +kernel
theorem dX11_image_69 : decode cX11_image 69 = .ok (.ireturn, 1) := by decide +kernel
theorem dX11_back_0 : decode cX11_back 0 = .ok (.aload_n 0, 1) := by decide +kernel
theorem dX11_back_1 : decode cX11_back 1 = .ok (.getfield 48, 3) := by decide +kernel
theorem dX11_back_4 : decode cX11_back 4 = .ok (.ifCond .ge 6, 3) := by decide +kernel
theorem dX11_back_7 : decode cX11_back 7 = .ok (.bipush (-3), 2) := by decide +kernel
theorem dX11_back_9 : decode cX11_back 9 = .ok (.ireturn, 1) := by decide +kernel
theorem dX11_back_10 : decode cX11_back 10 = .ok (.aload_n 0, 1) := by decide +kernel
theorem dX11_back_11 : decode cX11_back 11 = .ok (.getfield 97, 3) := by decide +kernel
theorem dX11_back_14 : decode cX11_back 14 = .ok (.aload_n 0, 1) := by decide +kernel
theorem dX11_back_15 : decode cX11_back 15 = .ok (.getfield 104, 3) := by decide +kernel
theorem dX11_back_18 : decode cX11_back 18 = .ok (.invokevirtual 245, 3) := by decide +kernel
theorem dX11_back_21 : decode cX11_back 21 = .ok (.iconst 0, 1) := by decide +kernel
theorem dX11_back_22 : decode cX11_back 22 = .ok (.istore_n 1, 1) := by decide +kernel
theorem dX11_back_23 : decode cX11_back 23 = .ok (.iload_n 1, 1) := by decide +kernel
theorem dX11_back_24 : decode cX11_back 24 = .ok (.aload_n 0, 1) := by decide +kernel
theorem dX11_back_25 : decode cX11_back 25 = .ok (.getfield 28, 3) := by decide +kernel
theorem dX11_back_28 : decode cX11_back 28 = .ok (.arraylength, 1) := by decide +kernel
theorem dX11_back_29 : decode cX11_back 29 = .ok (.if_icmp .ge 57, 3) := by decide +kernel
theorem dX11_back_32 : decode cX11_back 32 = .ok (.aload_n 0, 1) := by decide +kernel
theorem dX11_back_33 : decode cX11_back 33 = .ok (.iload_n 1, 1) := by decide +kernel
theorem dX11_back_34 : decode cX11_back 34 = .ok (.invokevirtual 129, 3) := by decide +kernel
theorem dX11_back_37 : decode cX11_back 37 = .ok (.astore_n 2, 1) := by decide +kernel
theorem dX11_back_38 : decode cX11_back 38 = .ok (.iload_n 1, 1) := by decide +kernel
theorem dX11_back_39 : decode cX11_back 39 = .ok (.aload_n 0, 1) := by decide +kernel
theorem dX11_back_40 : decode cX11_back 40 = .ok (.getfield 48, 3) := by decide +kernel
theorem dX11_back_43 : decode cX11_back 43 = .ok (.if_icmp .lt 13, 3) := by decide +kernel
theorem dX11_back_46 : decode cX11_back 46 = .ok (.aload_n 0, 1) := by decide +kernel
theorem dX11_back_47 : decode cX11_back 47 = .ok (.getfield 28, 3) := by decide +kernel
theorem dX11_back_50 : decode cX11_back 50 = .ok (.iload_n 1, 1) := by decide +kernel
theorem dX11_back_51 : decode cX11_back 51 = .ok (.aconst_null, 1) := by decide +kernel
theorem dX11_back_52 : decode cX11_back 52 = .ok (.aastore, 1) := by decide +kernel
theorem dX11_back_53 : decode cX11_back 53 = .ok (.goto 27, 3) := by decide +kernel
theorem dX11_back_56 : decode cX11_back 56 = .ok (.aload_n 2, 1) := by decide +kernel
theorem dX11_back_57 : decode cX11_back 57 = .ok (.ifnull 23, 3) := by decide +kernel
theorem dX11_back_60 : decode cX11_back 60 = .ok (.aload_n 2, 1) := by decide +kernel
theorem dX11_back_61 : decode cX11_back 61 = .ok (.aload_n 0, 1) := by decide +kernel
theorem dX11_back_62 : decode cX11_back 62 = .ok (.getfield 41, 3) := by decide +kernel
theorem dX11_back_65 : decode cX11_back 65 = .ok (.iload_n 1, 1) := by decide +kernel
theorem dX11_back_66 : decode cX11_back 66 = .ok (.iaload, 1) := by decide +kernel
theorem dX11_back_67 : decode cX11_back 67 = .ok (.putfield 256, 3) := by decide +kernel
theorem dX11_back_70 : decode cX11_back 70 = .ok (.aload_n 2, 1) := by decide +kernel
theorem dX11_back_71 : decode cX11_back 71 = .ok (.aload_n 0, 1) := by decide +kernel
theorem dX11_back_72 : decode cX11_back 72 = .ok (.getfield 45, 3) := by decide +kernel
theorem dX11_back_75 : decode cX11_back 75 = .ok (.iload_n 1, 1) := by decide +kernel
theorem dX11_back_76 : decode cX11_back 76 = .ok (.iaload, 1) := by decide +kernel
theorem dX11_back_77 : decode cX11_back 77 = .ok (.putfield 259, 3) := by decide +kernel
theorem dX11_back_80 : decode cX11_back 80 = .ok (.iinc 1 1, 3) := by decide +kernel
theorem dX11_back_83 : decode cX11_back 83 = .ok (.goto (-60), 3) := by decide +kernel
theorem dX11_back_86 : decode cX11_back 86 = .ok (.aload_n 0, 1) := by decide +kernel
theorem dX11_back_87 : decode cX11_back 87 = .ok (.aload_n 0, 1) := by decide +kernel
theorem dX11_back_88 : decode cX11_back 88 = .ok (.getfield 48, 3) := by decide +kernel
theorem dX11_back_91 : decode cX11_back 91 = .ok (.putfield 32, 3) := by decide +kernel
theorem dX11_back_94 : decode cX11_back 94 = .ok (.aload_n 0, 1) := by decide +kernel
theorem dX11_back_95 : decode cX11_back 95 = .ok (.getfield 32, 3) := by decide +kernel
theorem dX11_back_98 : decode cX11_back 98 = .ok (.ireturn, 1) := by decide +kernel
theorem dX11_count_0 : decode cX11_count 0 = .ok (.iload_n 1, 1) := by decide +kernel
theorem dX11_count_1 : decode cX11_count 1 = .ok (.tableswitch 72 0 4 #[35, 40, 48, 53, 61], 35) := by decide +kernel
theorem dX11_count_36 : decode cX11_count 36 = .ok (.aload_n 0, 1) := by decide +kernel
theorem dX11_count_37 : decode cX11_count 37 = .ok (.getfield 32, 3) := by decide +kernel
theorem dX11_count_40 : decode cX11_count 40 = .ok (.ireturn, 1) := by decide +kernel
theorem dX11_count_41 : decode cX11_count 41 = .ok (.aload_n 0, 1) := by decide +kernel
theorem dX11_count_42 : decode cX11_count 42 = .ok (.getfield 97, 3) := by decide +kernel
theorem dX11_count_45 : decode cX11_count 45 = .ok (.getfield 112, 3) := by decide +kernel
theorem dX11_count_48 : decode cX11_count 48 = .ok (.ireturn, 1) := by decide +kernel
theorem dX11_count_49 : decode cX11_count 49 = .ok (.aload_n 0, 1) := by decide +kernel
theorem dX11_count_50 : decode cX11_count 50 = .ok (.getfield 22, 3) := by decide +kernel
theorem dX11_count_53 : decode cX11_count 53 = .ok (.ireturn, 1) := by decide +kernel
theorem dX11_count_54 : decode cX11_count 54 = .ok (.aload_n 0, 1) := by decide +kernel
theorem dX11_count_55 : decode cX11_count 55 = .ok (.getfield 18, 3) := by decide +kernel
theorem dX11_count_58 : decode cX11_count 58 = .ok (.getfield 91, 3) := by decide +kernel
theorem dX11_count_61 : decode cX11_count 61 = .ok (.ireturn, 1) := by decide +kernel
theorem dX11_count_62 : decode cX11_count 62 = .ok (.aload_n 0, 1) := by decide +kernel
theorem dX11_count_63 : decode cX11_count 63 = .ok (.getfield 97, 3) := by decide +kernel
theorem dX11_count_66 : decode cX11_count 66 = .ok (.getfield 173, 3) := by decide +kernel
theorem dX11_count_69 : decode cX11_count 69 = .ok (.getfield 177, 3) := by decide +kernel
theorem dX11_count_72 : decode cX11_count 72 = .ok (.ireturn, 1) := by decide +kernel
theorem dX11_count_73 : decode cX11_count 73 = .ok (.bipush (-2), 2) := by decide +kernel
theorem dX11_count_75 : decode cX11_count 75 = .ok (.ireturn, 1) := by decide +kernel
theorem dX11_sheet_0 : decode cX11_sheet 0 = .ok (.aload_n 0, 1) := by decide +kernel
theorem dX11_sheet_1 : decode cX11_sheet 1 = .ok (.iload_n 1, 1) := by decide +kernel
theorem dX11_sheet_2 : decode cX11_sheet 2 = .ok (.invokevirtual 196, 3) := by decide +kernel
theorem dX11_sheet_5 : decode cX11_sheet 5 = .ok (.astore 4, 2) := by decide +kernel
theorem dX11_sheet_7 : decode cX11_sheet 7 = .ok (.aload 4, 2) := by decide +kernel
theorem dX11_sheet_9 : decode cX11_sheet 9 = .ok (.ifnull 13, 3) := by decide +kernel
theorem dX11_sheet_12 : decode cX11_sheet 12 = .ok (.iload_n 2, 1) := by decide +kernel
theorem dX11_sheet_13 : decode cX11_sheet 13 = .ok (.iconst (-1), 1) := by decide +kernel
theorem dX11_sheet_14 : decode cX11_sheet 14 = .ok (.if_icmp .lt 8, 3) := by decide +kernel
theorem dX11_sheet_17 : decode cX11_sheet 17 = .ok (.iload_n 2, 1) := by decide +kernel
theorem dX11_sheet_18 : decode cX11_sheet 18 = .ok (.iconst 2, 1) := by decide +kernel
theorem dX11_sheet_19 : decode cX11_sheet 19 = .ok (.if_icmp .le 6, 3) := by decide +kernel
theorem dX11_sheet_22 : decode cX11_sheet 22 = .ok (.bipush (-2), 2) := by decide +kernel
theorem dX11_sheet_24 : decode cX11_sheet 24 = .ok (.ireturn, 1) := by decide +kernel
theorem dX11_sheet_25 : decode cX11_sheet 25 = .ok (.iload_n 2, 1) := by decide +kernel
theorem dX11_sheet_26 : decode cX11_sheet 26 = .ok (.iconst (-1), 1) := by decide +kernel
theorem dX11_sheet_27 : decode cX11_sheet 27 = .ok (.if_icmp .ne 12, 3) := by decide +kernel
theorem dX11_sheet_30 : decode cX11_sheet 30 = .ok (.aload 4, 2) := by decide +kernel
theorem dX11_sheet_32 : decode cX11_sheet 32 = .ok (.iconst (-1), 1) := by decide +kernel
theorem dX11_sheet_33 : decode cX11_sheet 33 = .ok (.iconst 0, 1) := by decide +kernel
theorem dX11_sheet_34 : decode cX11_sheet 34 = .ok (.invokevirtual 238, 3) := by decide +kernel
theorem dX11_sheet_37 : decode cX11_sheet 37 = .ok (.iconst 1, 1) := by decide +kernel
theorem dX11_sheet_38 : decode cX11_sheet 38 = .ok (.ireturn, 1) := by decide +kernel
theorem dX11_sheet_39 : decode cX11_sheet 39 = .ok (.iload_n 3, 1) := by decide +kernel
theorem dX11_sheet_40 : decode cX11_sheet 40 = .ok (.bipush 40, 2) := by decide +kernel
theorem dX11_sheet_42 : decode cX11_sheet 42 = .ok (.if_icmp .le 6, 3) := by decide +kernel
theorem dX11_sheet_45 : decode cX11_sheet 45 = .ok (.bipush (-2), 2) := by decide +kernel
theorem dX11_sheet_47 : decode cX11_sheet 47 = .ok (.ireturn, 1) := by decide +kernel
theorem dX11_sheet_48 : decode cX11_sheet 48 = .ok (.iload_n 3, 1) := by decide +kernel
theorem dX11_sheet_49 : decode cX11_sheet 49 = .ok (.ifCond .ge 6, 3) := by decide +kernel
theorem dX11_sheet_52 : decode cX11_sheet 52 = .ok (.bipush (-14), 2) := by decide +kernel
theorem dX11_sheet_54 : decode cX11_sheet 54 = .ok (.ireturn, 1) := by decide +kernel
theorem dX11_sheet_55 : decode cX11_sheet 55 = .ok (.aload 4, 2) := by decide +kernel
theorem dX11_sheet_57 : decode cX11_sheet 57 = .ok (.iload_n 2, 1) := by decide +kernel
theorem dX11_sheet_58 : decode cX11_sheet 58 = .ok (.iload_n 3, 1) := by decide +kernel
theorem dX11_sheet_59 : decode cX11_sheet 59 = .ok (.invokevirtual 238, 3) := by decide +kernel
theorem dX11_sheet_62 : decode cX11_sheet 62 = .ok (.iconst 1, 1) := by decide +kernel
theorem dX11_sheet_63 : decode cX11_sheet 63 = .ok (.ireturn, 1) := by decide +kernel
theorem dX11_cell_0 : decode cX11_cell 0 = .ok (.aload_n 0, 1) := by decide +kernel
theorem dX11_cell_1 : decode cX11_cell 1 = .ok (.iload_n 1, 1) := by decide +kernel
theorem dX11_cell_2 : decode cX11_cell 2 = .ok (.invokevirtual 196, 3) := by decide +kernel
theorem dX11_cell_5 : decode cX11_cell 5 = .ok (.astore 4, 2) := by decide +kernel
theorem dX11_cell_7 : decode cX11_cell 7 = .ok (.aload 4, 2) := by decide +kernel
theorem dX11_cell_9 : decode cX11_cell 9 = .ok (.ifnonnull 6, 3) := by decide +kernel
theorem dX11_cell_12 : decode cX11_cell 12 = .ok (.bipush (-2), 2) := by decide +kernel
theorem dX11_cell_14 : decode cX11_cell 14 = .ok (.ireturn, 1) := by decide +kernel
theorem dX11_cell_15 : decode cX11_cell 15 = .ok (.aload 4, 2) := by decide +kernel
theorem dX11_cell_17 : decode cX11_cell 17 = .ok (.invokevirtual 221, 3) := by decide +kernel
theorem dX11_cell_20 : decode cX11_cell 20 = .ok (.ifCond .eq 6, 3) := by decide +kernel
theorem dX11_cell_23 : decode cX11_cell 23 = .ok (.bipush (-11), 2) := by decide +kernel
theorem dX11_cell_25 : decode cX11_cell 25 = .ok (.ireturn, 1) := by decide +kernel
theorem dX11_cell_26 : decode cX11_cell 26 = .ok (.aload 4, 2) := by decide +kernel
theorem dX11_cell_28 : decode cX11_cell 28 = .ok (.iload_n 2, 1) := by decide +kernel
theorem dX11_cell_29 : decode cX11_cell 29 = .ok (.iconst 1, 1) := by decide +kernel
theorem dX11_cell_30 : decode cX11_cell 30 = .ok (.invokevirtual 262, 3) := by decide +kernel
theorem dX11_cell_33 : decode cX11_cell 33 = .ok (.ifCond .ne 6, 3) := by decide +kernel
theorem dX11_cell_36 : decode cX11_cell 36 = .ok (.bipush (-12), 2) := by decide +kernel
theorem dX11_cell_38 : decode cX11_cell 38 = .ok (.ireturn, 1) := by decide +kernel
theorem dX11_cell_39 : decode cX11_cell 39 = .ok (.aload 4, 2) := by decide +kernel
theorem dX11_cell_41 : decode cX11_cell 41 = .ok (.iload_n 2, 1) := by decide +kernel
theorem dX11_cell_42 : decode cX11_cell 42 = .ok (.iload_n 3, 1) := by decide +kernel
theorem dX11_cell_43 : decode cX11_cell 43 = .ok (.invokevirtual 242, 3) := by decide +kernel
theorem dX11_cell_46 : decode cX11_cell 46 = .ok (.iconst 1, 1) := by decide +kernel
theorem dX11_cell_47 : decode cX11_cell 47 = .ok (.ireturn, 1) := by decide +kernel
theorem dX11_copy_0 : decode cX11_copy 0 = .ok (.aload_n 0, 1) := by decide +kernel
theorem dX11_copy_1 : decode cX11_copy 1 = .ok (.iload_n 1, 1) := by decide +kernel
theorem dX11_copy_2 : decode cX11_copy 2 = .ok (.invokevirtual 196, 3) := by decide +kernel
theorem dX11_copy_5 : decode cX11_copy 5 = .ok (.astore 6, 2) := by decide +kernel
theorem dX11_copy_7 : decode cX11_copy 7 = .ok (.aload_n 0, 1) := by decide +kernel
theorem dX11_copy_8 : decode cX11_copy 8 = .ok (.iload_n 3, 1) := by decide +kernel
theorem dX11_copy_9 : decode cX11_copy 9 = .ok (.invokevirtual 196, 3) := by decide +kernel
theorem dX11_copy_12 : decode cX11_copy 12 = .ok (.astore 7, 2) := by decide +kernel
theorem dX11_copy_14 : decode cX11_copy 14 = .ok (.aload 6, 2) := by decide +kernel
theorem dX11_copy_16 : decode cX11_copy 16 = .ok (.ifnull 8, 3) := by decide +kernel
theorem dX11_copy_19 : decode cX11_copy 19 = .ok (.aload 7, 2) := by decide +kernel
theorem dX11_copy_21 : decode cX11_copy 21 = .ok (.ifnonnull 6, 3) := by decide +kernel
theorem dX11_copy_24 : decode cX11_copy 24 = .ok (.bipush (-2), 2) := by decide +kernel
theorem dX11_copy_26 : decode cX11_copy 26 = .ok (.ireturn, 1) := by decide +kernel
theorem dX11_copy_27 : decode cX11_copy 27 = .ok (.aload 6, 2) := by decide +kernel
theorem dX11_copy_29 : decode cX11_copy 29 = .ok (.invokevirtual 221, 3) := by decide +kernel
theorem dX11_copy_32 : decode cX11_copy 32 = .ok (.ifCond .ne 11, 3) := by decide +kernel
theorem dX11_copy_35 : decode cX11_copy 35 = .ok (.aload 7, 2) := by decide +kernel
theorem dX11_copy_37 : decode cX11_copy 37 = .ok (.invokevirtual 221, 3) := by decide +kernel
theorem dX11_copy_40 : decode cX11_copy 40 = .ok (.ifCond .eq 6, 3) := by decide +kernel
theorem dX11_copy_43 : decode cX11_copy 43 = .ok (.bipush (-11), 2) := by decide +kernel
theorem dX11_copy_45 : decode cX11_copy 45 = .ok (.ireturn, 1) := by decide +kernel
theorem dX11_copy_46 : decode cX11_copy 46 = .ok (.aload 6, 2) := by decide +kernel
theorem dX11_copy_48 : decode cX11_copy 48 = .ok (.getfield 265, 3) := by decide +kernel
theorem dX11_copy_51 : decode cX11_copy 51 = .ok (.aload 7, 2) := by decide +kernel
theorem dX11_copy_53 : decode cX11_copy 53 = .ok (.getfield 265, 3) := by decide +kernel
theorem dX11_copy_56 : decode cX11_copy 56 = .ok (.if_icmp .eq 6, 3) := by decide +kernel
theorem dX11_copy_59 : decode cX11_copy 59 = .ok (.bipush (-13), 2) := by decide +kernel
theorem dX11_copy_61 : decode cX11_copy 61 = .ok (.ireturn, 1) := by decide +kernel
theorem dX11_copy_62 : decode cX11_copy 62 = .ok (.aload 6, 2) := by decide +kernel
theorem dX11_copy_64 : decode cX11_copy 64 = .ok (.iload_n 2, 1) := by decide +kernel
theorem dX11_copy_65 : decode cX11_copy 65 = .ok (.iload 5, 2) := by decide +kernel
theorem dX11_copy_67 : decode cX11_copy 67 = .ok (.invokevirtual 262, 3) := by decide +kernel
theorem dX11_copy_70 : decode cX11_copy 70 = .ok (.ifCond .eq 15, 3) := by decide +kernel
theorem dX11_copy_73 : decode cX11_copy 73 = .ok (.aload 7, 2) := by decide +kernel
theorem dX11_copy_75 : decode cX11_copy 75 = .ok (.iload 4, 2) := by decide +kernel
theorem dX11_copy_77 : decode cX11_copy 77 = .ok (.iload 5, 2) := by decide +kernel
theorem dX11_copy_79 : decode cX11_copy 79 = .ok (.invokevirtual 262, 3) := by decide +kernel
theorem dX11_copy_82 : decode cX11_copy 82 = .ok (.ifCond .ne 6, 3) := by decide +kernel
theorem dX11_copy_85 : decode cX11_copy 85 = .ok (.bipush (-12), 2) := by decide +kernel
theorem dX11_copy_87 : decode cX11_copy 87 = .ok (.ireturn, 1) := by decide +kernel
theorem dX11_copy_88 : decode cX11_copy 88 = .ok (.aload 6, 2) := by decide +kernel
theorem dX11_copy_90 : decode cX11_copy 90 = .ok (.getfield 268, 3) := by decide +kernel
theorem dX11_copy_93 : decode cX11_copy 93 = .ok (.iload_n 2, 1) := by decide +kernel
theorem dX11_copy_94 : decode cX11_copy 94 = .ok (.aload 7, 2) := by decide +kernel
theorem dX11_copy_96 : decode cX11_copy 96 = .ok (.getfield 268, 3) := by decide +kernel
theorem dX11_copy_99 : decode cX11_copy 99 = .ok (.iload 4, 2) := by decide +kernel
theorem dX11_copy_101 : decode cX11_copy 101 = .ok (.iload 5, 2) := by decide +kernel
theorem dX11_copy_103 : decode cX11_copy 103 = .ok (.invokestatic 271, 3) := by decide +kernel
theorem dX11_copy_106 : decode cX11_copy 106 = .ok (.iload 5, 2) := by decide +kernel
theorem dX11_copy_108 : decode cX11_copy 108 = .ok (.ireturn, 1) := by decide +kernel
theorem dX11_strokes_0 : decode cX11_strokes 0 = .ok (.aload_n 0, 1) := by decide +kernel
theorem dX11_strokes_1 : decode cX11_strokes 1 = .ok (.iload_n 1, 1) := by decide +kernel
theorem dX11_strokes_2 : decode cX11_strokes 2 = .ok (.invokevirtual 196, 3) := by decide +kernel
theorem dX11_strokes_5 : decode cX11_strokes 5 = .ok (.astore 5, 2) := by decide +kernel
theorem dX11_strokes_7 : decode cX11_strokes 7 = .ok (.aload 5, 2) := by decide +kernel
theorem dX11_strokes_9 : decode cX11_strokes 9 = .ok (.ifnull 24, 3) := by decide +kernel
theorem dX11_strokes_12 : decode cX11_strokes 12 = .ok (.iload_n 2, 1) := by decide +kernel
theorem dX11_strokes_13 : decode cX11_strokes 13 = .ok (.ifCond .lt 20, 3) := by decide +kernel
theorem dX11_strokes_16 : decode cX11_strokes 16 = .ok (.iload_n 2, 1) := by decide +kernel
theorem dX11_strokes_17 : decode cX11_strokes 17 = .ok (.iconst 2, 1) := by decide +kernel
theorem dX11_strokes_18 : decode cX11_strokes 18 = .ok (.if_icmp .gt 15, 3) := by decide +kernel
theorem dX11_strokes_21 : decode cX11_strokes 21 = .ok (.iload 4, 2) := by decide +kernel
theorem dX11_strokes_23 : decode cX11_strokes 23 = .ok (.ifCond .lt 10, 3) := by decide +kernel
theorem dX11_strokes_26 : decode cX11_strokes 26 = .ok (.iload 4, 2) := by decide +kernel
theorem dX11_strokes_28 : decode cX11_strokes 28 = .ok (.bipush 6, 2) := by decide +kernel
theorem dX11_strokes_30 : decode cX11_strokes 30 = .ok (.if_icmp .le 6, 3) := by decide +kernel
theorem dX11_strokes_33 : decode cX11_strokes 33 = .ok (.bipush (-2), 2) := by decide +kernel
theorem dX11_strokes_35 : decode cX11_strokes 35 = .ok (.ireturn, 1) := by decide +kernel
theorem dX11_strokes_36 : decode cX11_strokes 36 = .ok (.aload 5, 2) := by decide +kernel
theorem dX11_strokes_38 : decode cX11_strokes 38 = .ok (.invokevirtual 221, 3) := by decide +kernel
theorem dX11_strokes_41 : decode cX11_strokes 41 = .ok (.ifCond .eq 6, 3) := by decide +kernel
theorem dX11_strokes_44 : decode cX11_strokes 44 = .ok (.bipush (-11), 2) := by decide +kernel
theorem dX11_strokes_46 : decode cX11_strokes 46 = .ok (.ireturn, 1) := by decide +kernel
theorem dX11_strokes_47 : decode cX11_strokes 47 = .ok (.aload 5, 2) := by decide +kernel
theorem dX11_strokes_49 : decode cX11_strokes 49 = .ok (.getfield 265, 3) := by decide +kernel
theorem dX11_strokes_52 : decode cX11_strokes 52 = .ok (.iload_n 2, 1) := by decide +kernel
theorem dX11_strokes_53 : decode cX11_strokes 53 = .ok (.if_icmp .eq 6, 3) := by decide +kernel
theorem dX11_strokes_56 : decode cX11_strokes 56 = .ok (.bipush (-13), 2) := by decide +kernel
theorem dX11_strokes_58 : decode cX11_strokes 58 = .ok (.ireturn, 1) := by decide +kernel
theorem dX11_strokes_59 : decode cX11_strokes 59 = .ok (.iconst 0, 1) := by decide +kernel
theorem dX11_strokes_60 : decode cX11_strokes 60 = .ok (.istore 6, 2) := by decide +kernel
theorem dX11_strokes_62 : decode cX11_strokes 62 = .ok (.iconst 0, 1) := by decide +kernel
theorem dX11_strokes_63 : decode cX11_strokes 63 = .ok (.istore 7, 2) := by decide +kernel
theorem dX11_strokes_65 : decode cX11_strokes 65 = .ok (.iload 7, 2) := by decide +kernel
theorem dX11_strokes_67 : decode cX11_strokes 67 = .ok (.iload 4, 2) := by decide +kernel
theorem dX11_strokes_69 : decode cX11_strokes 69 = .ok (.if_icmp .ge 66, 3) := by decide +kernel
theorem dX11_strokes_72 : decode cX11_strokes 72 = .ok (.iload_n 3, 1) := by decide +kernel
theorem dX11_strokes_73 : decode cX11_strokes 73 = .ok (.iconst 3, 1) := by decide +kernel
theorem dX11_strokes_74 : decode cX11_strokes 74 = .ok (.iload 7, 2) := by decide +kernel
theorem dX11_strokes_76 : decode cX11_strokes 76 = .ok (.imul, 1) := by decide +kernel
theorem dX11_strokes_77 : decode cX11_strokes 77 = .ok (.iadd, 1) := by decide +kernel
theorem dX11_strokes_78 : decode cX11_strokes 78 = .ok (.istore 8, 2) := by decide +kernel
theorem dX11_strokes_80 : decode cX11_strokes 80 = .ok (.aload 5, 2) := by decide +kernel
theorem dX11_strokes_82 : decode cX11_strokes 82 = .ok (.iload 8, 2) := by decide +kernel
theorem dX11_strokes_84 : decode cX11_strokes 84 = .ok (.iconst 3, 1) := by decide +kernel
theorem dX11_strokes_85 : decode cX11_strokes 85 = .ok (.invokevirtual 262, 3) := by decide +kernel
theorem dX11_strokes_88 : decode cX11_strokes 88 = .ok (.ifCond .ne 6, 3) := by decide +kernel
theorem dX11_strokes_91 : decode cX11_strokes 91 = .ok (.bipush (-12), 2) := by decide +kernel
theorem dX11_strokes_93 : decode cX11_strokes 93 = .ok (.ireturn, 1) := by decide +kernel
theorem dX11_strokes_94 : decode cX11_strokes 94 = .ok (.aload_n 0, 1) := by decide +kernel
theorem dX11_strokes_95 : decode cX11_strokes 95 = .ok (.aload 5, 2) := by decide +kernel
theorem dX11_strokes_97 : decode cX11_strokes 97 = .ok (.iload 8, 2) := by decide +kernel
theorem dX11_strokes_99 : decode cX11_strokes 99 = .ok (.invokevirtual 277, 3) := by decide +kernel
theorem dX11_strokes_102 : decode cX11_strokes 102 = .ok (.aload 5, 2) := by decide +kernel
theorem dX11_strokes_104 : decode cX11_strokes 104 = .ok (.iload 8, 2) := by decide +kernel
theorem dX11_strokes_106 : decode cX11_strokes 106 = .ok (.iconst 1, 1) := by decide +kernel
theorem dX11_strokes_107 : decode cX11_strokes 107 = .ok (.iadd, 1) := by decide +kernel
theorem dX11_strokes_108 : decode cX11_strokes 108 = .ok (.invokevirtual 277, 3) := by decide +kernel
theorem dX11_strokes_111 : decode cX11_strokes 111 = .ok (.aload 5, 2) := by decide +kernel
theorem dX11_strokes_113 : decode cX11_strokes 113 = .ok (.iload 8, 2) := by decide +kernel
theorem dX11_strokes_115 : decode cX11_strokes 115 = .ok (.iconst 2, 1) := by decide +kernel
theorem dX11_strokes_116 : decode cX11_strokes 116 = .ok (.iadd, 1) := by decide +kernel
theorem dX11_strokes_117 : decode cX11_strokes 117 = .ok (.invokevirtual 277, 3) := by decide +kernel
theorem dX11_strokes_120 : decode cX11_strokes 120 = .ok (.invokevirtual 280, 3) := by decide +kernel
theorem dX11_strokes_123 : decode cX11_strokes 123 = .ok (.ifCond .lt 6, 3) := by decide +kernel
theorem dX11_strokes_126 : decode cX11_strokes 126 = .ok (.iinc 6 1, 3) := by decide +kernel
theorem dX11_strokes_129 : decode cX11_strokes 129 = .ok (.iinc 7 1, 3) := by decide +kernel
theorem dX11_strokes_132 : decode cX11_strokes 132 = .ok (.goto (-67), 3) := by decide +kernel
theorem dX11_strokes_135 : decode cX11_strokes 135 = .ok (.iload 6, 2) := by decide +kernel
theorem dX11_strokes_137 : decode cX11_strokes 137 = .ok (.ireturn, 1) := by decide +kernel
theorem dX11_taken_0 : decode cX11_taken 0 = .ok (.iload_n 2, 1) := by decide +kernel
theorem dX11_taken_1 : decode cX11_taken 1 = .ok (.ifCond .lt 8, 3) := by decide +kernel
theorem dX11_taken_4 : decode cX11_taken 4 = .ok (.iload_n 2, 1) := by decide +kernel
theorem dX11_taken_5 : decode cX11_taken 5 = .ok (.iconst 5, 1) := by decide +kernel
theorem dX11_taken_6 : decode cX11_taken 6 = .ok (.if_icmp .le 6, 3) := by decide +kernel
theorem dX11_taken_9 : decode cX11_taken 9 = .ok (.bipush (-2), 2) := by decide +kernel
theorem dX11_taken_11 : decode cX11_taken 11 = .ok (.ireturn, 1) := by decide +kernel
theorem dX11_taken_12 : decode cX11_taken 12 = .ok (.aload_n 0, 1) := by decide +kernel
theorem dX11_taken_13 : decode cX11_taken 13 = .ok (.iload_n 1, 1) := by decide +kernel
theorem dX11_taken_14 : decode cX11_taken 14 = .ok (.invokevirtual 129, 3) := by decide +kernel
theorem dX11_taken_17 : decode cX11_taken 17 = .ok (.astore_n 3, 1) := by decide +kernel
theorem dX11_taken_18 : decode cX11_taken 18 = .ok (.aload_n 3, 1) := by decide +kernel
theorem dX11_taken_19 : decode cX11_taken 19 = .ok (.ifnonnull 6, 3) := by decide +kernel
theorem dX11_taken_22 : decode cX11_taken 22 = .ok (.bipush (-11), 2) := by decide +kernel
theorem dX11_taken_24 : decode cX11_taken 24 = .ok (.ireturn, 1) := by decide +kernel
theorem dX11_taken_25 : decode cX11_taken 25 = .ok (.aload_n 3, 1) := by decide +kernel
theorem dX11_taken_26 : decode cX11_taken 26 = .ok (.iload_n 2, 1) := by decide +kernel
theorem dX11_taken_27 : decode cX11_taken 27 = .ok (.invokestatic 284, 3) := by decide +kernel
theorem dX11_taken_30 : decode cX11_taken 30 = .ok (.ifCond .eq 10, 3) := by decide +kernel
theorem dX11_taken_33 : decode cX11_taken 33 = .ok (.aload_n 3, 1) := by decide +kernel
theorem dX11_taken_34 : decode cX11_taken 34 = .ok (.getfield 256, 3) := by decide +kernel
theorem dX11_taken_37 : decode cX11_taken 37 = .ok (.goto 5, 3) := by decide +kernel
theorem dX11_taken_40 : decode cX11_taken 40 = .ok (.bipush (-13), 2) := by decide +kernel
theorem dX11_taken_42 : decode cX11_taken 42 = .ok (.ireturn, 1) := by decide +kernel
theorem dX11_isPlayer_0 : decode cX11_isPlayer 0 = .ok (.iload_n 0, 1) := by decide +kernel
theorem dX11_isPlayer_1 : decode cX11_isPlayer 1 = .ok (.ifCond .eq 8, 3) := by decide +kernel
theorem dX11_isPlayer_4 : decode cX11_isPlayer 4 = .ok (.iload_n 0, 1) := by decide +kernel
theorem dX11_isPlayer_5 : decode cX11_isPlayer 5 = .ok (.iconst 1, 1) := by decide +kernel
theorem dX11_isPlayer_6 : decode cX11_isPlayer 6 = .ok (.if_icmp .ne 7, 3) := by decide +kernel
theorem dX11_isPlayer_9 : decode cX11_isPlayer 9 = .ok (.iconst 1, 1) := by decide +kernel
theorem dX11_isPlayer_10 : decode cX11_isPlayer 10 = .ok (.goto 4, 3) := by decide +kernel
theorem dX11_isPlayer_13 : decode cX11_isPlayer 13 = .ok (.iconst 0, 1) := by decide +kernel
theorem dX11_isPlayer_14 : decode cX11_isPlayer 14 = .ok (.ireturn, 1) := by decide +kernel
theorem dX11_isCell_0 : decode cX11_isCell 0 = .ok (.iload_n 0, 1) := by decide +kernel
theorem dX11_isCell_1 : decode cX11_isCell 1 = .ok (.ifCond .lt 13, 3) := by decide +kernel
theorem dX11_isCell_4 : decode cX11_isCell 4 = .ok (.iload_n 0, 1) := by decide +kernel
theorem dX11_isCell_5 : decode cX11_isCell 5 = .ok (.bipush 25, 2) := by decide +kernel
theorem dX11_isCell_7 : decode cX11_isCell 7 = .ok (.if_icmp .ge 7, 3) := by decide +kernel
theorem dX11_isCell_10 : decode cX11_isCell 10 = .ok (.iconst 1, 1) := by decide +kernel
theorem dX11_isCell_11 : decode cX11_isCell 11 = .ok (.goto 4, 3) := by decide +kernel
theorem dX11_isCell_14 : decode cX11_isCell 14 = .ok (.iconst 0, 1) := by decide +kernel
theorem dX11_isCell_15 : decode cX11_isCell 15 = .ok (.ireturn, 1) := by decide +kernel
theorem dX11_strokeAt_0 : decode cX11_strokeAt 0 = .ok (.iload_n 1, 1) := by decide +kernel
theorem dX11_strokeAt_1 : decode cX11_strokeAt 1 = .ok (.ifCond .lt 20, 3) := by decide +kernel
theorem dX11_strokeAt_4 : decode cX11_strokeAt 4 = .ok (.iload_n 1, 1) := by decide +kernel
theorem dX11_strokeAt_5 : decode cX11_strokeAt 5 = .ok (.aload_n 0, 1) := by decide +kernel
theorem dX11_strokeAt_6 : decode cX11_strokeAt 6 = .ok (.getfield 32, 3) := by decide +kernel
theorem dX11_strokeAt_9 : decode cX11_strokeAt 9 = .ok (.if_icmp .ge 12, 3) := by decide +kernel
theorem dX11_strokeAt_12 : decode cX11_strokeAt 12 = .ok (.iload_n 1, 1) := by decide +kernel
theorem dX11_strokeAt_13 : decode cX11_strokeAt 13 = .ok (.aload_n 0, 1) := by decide +kernel
theorem dX11_strokeAt_14 : decode cX11_strokeAt 14 = .ok (.getfield 28, 3) := by decide +kernel
theorem dX11_strokeAt_17 : decode cX11_strokeAt 17 = .ok (.arraylength, 1) := by decide +kernel
theorem dX11_strokeAt_18 : decode cX11_strokeAt 18 = .ok (.if_icmp .lt 7, 3) := by decide +kernel
theorem dX11_strokeAt_21 : decode cX11_strokeAt 21 = .ok (.aconst_null, 1) := by decide +kernel
theorem dX11_strokeAt_22 : decode cX11_strokeAt 22 = .ok (.goto 9, 3) := by decide +kernel
theorem dX11_strokeAt_25 : decode cX11_strokeAt 25 = .ok (.aload_n 0, 1) := by decide +kernel
theorem dX11_strokeAt_26 : decode cX11_strokeAt 26 = .ok (.getfield 28, 3) := by decide +kernel
theorem dX11_strokeAt_29 : decode cX11_strokeAt 29 = .ok (.iload_n 1, 1) := by decide +kernel
theorem dX11_strokeAt_30 : decode cX11_strokeAt 30 = .ok (.aaload, 1) := by decide +kernel
theorem dX11_strokeAt_31 : decode cX11_strokeAt 31 = .ok (.areturn, 1) := by decide +kernel
theorem dX11_sheetAt_0 : decode cX11_sheetAt 0 = .ok (.iload_n 1, 1) := by decide +kernel
theorem dX11_sheetAt_1 : decode cX11_sheetAt 1 = .ok (.ifCond .lt 12, 3) := by decide +kernel
theorem dX11_sheetAt_4 : decode cX11_sheetAt 4 = .ok (.iload_n 1, 1) := by decide +kernel
theorem dX11_sheetAt_5 : decode cX11_sheetAt 5 = .ok (.aload_n 0, 1) := by decide +kernel
theorem dX11_sheetAt_6 : decode cX11_sheetAt 6 = .ok (.getfield 53, 3) := by decide +kernel
theorem dX11_sheetAt_9 : decode cX11_sheetAt 9 = .ok (.arraylength, 1) := by decide +kernel
theorem dX11_sheetAt_10 : decode cX11_sheetAt 10 = .ok (.if_icmp .lt 7, 3) := by decide +kernel
theorem dX11_sheetAt_13 : decode cX11_sheetAt 13 = .ok (.aconst_null, 1) := by decide +kernel
theorem dX11_sheetAt_14 : decode cX11_sheetAt 14 = .ok (.goto 9, 3) := by decide +kernel
theorem dX11_sheetAt_17 : decode cX11_sheetAt 17 = .ok (.aload_n 0, 1) := by decide +kernel
theorem dX11_sheetAt_18 : decode cX11_sheetAt 18 = .ok (.getfield 53, 3) := by decide +kernel
theorem dX11_sheetAt_21 : decode cX11_sheetAt 21 = .ok (.iload_n 1, 1) := by decide +kernel
theorem dX11_sheetAt_22 : decode cX11_sheetAt 22 = .ok (.aaload, 1) := by decide +kernel
theorem dX11_sheetAt_23 : decode cX11_sheetAt 23 = .ok (.areturn, 1) := by decide +kernel
theorem dX11_fits_0 : decode cX11_fits 0 = .ok (.iload_n 0, 1) := by decide +kernel
theorem dX11_fits_1 : decode cX11_fits 1 = .ok (.tableswitch 131 0 6 #[43, 48, 65, 81, 99, 43, 115], 43) := by decide +kernel
theorem dX11_fits_44 : decode cX11_fits 44 = .ok (.iload_n 1, 1) := by decide +kernel
theorem dX11_fits_45 : decode cX11_fits 45 = .ok (.invokestatic 134, 3) := by decide +kernel
theorem dX11_fits_48 : decode cX11_fits 48 = .ok (.ireturn, 1) := by decide +kernel
theorem dX11_fits_49 : decode cX11_fits 49 = .ok (.iload_n 1, 1) := by decide +kernel
theorem dX11_fits_50 : decode cX11_fits 50 = .ok (.ifCond .lt 14, 3) := by decide +kernel
theorem dX11_fits_53 : decode cX11_fits 53 = .ok (.iload_n 1, 1) := by decide +kernel
theorem dX11_fits_54 : decode cX11_fits 54 = .ok (.sipush 999, 3) := by decide +kernel
theorem dX11_fits_57 : decode cX11_fits 57 = .ok (.if_icmp .gt 7, 3) := by decide +kernel
theorem dX11_fits_60 : decode cX11_fits 60 = .ok (.iconst 1, 1) := by decide +kernel
theorem dX11_fits_61 : decode cX11_fits 61 = .ok (.goto 4, 3) := by decide +kernel
theorem dX11_fits_64 : decode cX11_fits 64 = .ok (.iconst 0, 1) := by decide +kernel
theorem dX11_fits_65 : decode cX11_fits 65 = .ok (.ireturn, 1) := by decide +kernel
theorem dX11_fits_66 : decode cX11_fits 66 = .ok (.iload_n 1, 1) := by decide +kernel
theorem dX11_fits_67 : decode cX11_fits 67 = .ok (.ifCond .lt 13, 3) := by decide +kernel
theorem dX11_fits_70 : decode cX11_fits 70 = .ok (.iload_n 1, 1) := by decide +kernel
theorem dX11_fits_71 : decode cX11_fits 71 = .ok (.bipush 9, 2) := by decide +kernel
theorem dX11_fits_73 : decode cX11_fits 73 = .ok (.if_icmp .gt 7, 3) := by decide +kernel
theorem dX11_fits_76 : decode cX11_fits 76 = .ok (.iconst 1, 1) := by decide +kernel
theorem dX11_fits_77 : decode cX11_fits 77 = .ok (.goto 4, 3) := by decide +kernel
theorem dX11_fits_80 : decode cX11_fits 80 = .ok (.iconst 0, 1) := by decide +kernel
theorem dX11_fits_81 : decode cX11_fits 81 = .ok (.ireturn, 1) := by decide +kernel
theorem dX11_fits_82 : decode cX11_fits 82 = .ok (.iload_n 1, 1) := by decide +kernel
theorem dX11_fits_83 : decode cX11_fits 83 = .ok (.iconst (-1), 1) := by decide +kernel
theorem dX11_fits_84 : decode cX11_fits 84 = .ok (.if_icmp .eq 10, 3) := by decide +kernel
theorem dX11_fits_87 : decode cX11_fits 87 = .ok (.iload_n 1, 1) := by decide +kernel
theorem dX11_fits_88 : decode cX11_fits 88 = .ok (.invokestatic 134, 3) := by decide +kernel
theorem dX11_fits_91 : decode cX11_fits 91 = .ok (.ifCond .eq 7, 3) := by decide +kernel
theorem dX11_fits_94 : decode cX11_fits 94 = .ok (.iconst 1, 1) := by decide +kernel
theorem dX11_fits_95 : decode cX11_fits 95 = .ok (.goto 4, 3) := by decide +kernel
theorem dX11_fits_98 : decode cX11_fits 98 = .ok (.iconst 0, 1) := by decide +kernel
theorem dX11_fits_99 : decode cX11_fits 99 = .ok (.ireturn, 1) := by decide +kernel
theorem dX11_fits_100 : decode cX11_fits 100 = .ok (.iload_n 1, 1) := by decide +kernel
theorem dX11_fits_101 : decode cX11_fits 101 = .ok (.ifCond .lt 13, 3) := by decide +kernel
theorem dX11_fits_104 : decode cX11_fits 104 = .ok (.iload_n 1, 1) := by decide +kernel
theorem dX11_fits_105 : decode cX11_fits 105 = .ok (.bipush 9, 2) := by decide +kernel
theorem dX11_fits_107 : decode cX11_fits 107 = .ok (.if_icmp .gt 7, 3) := by decide +kernel
theorem dX11_fits_110 : decode cX11_fits 110 = .ok (.iconst 1, 1) := by decide +kernel
theorem dX11_fits_111 : decode cX11_fits 111 = .ok (.goto 4, 3) := by decide +kernel
theorem dX11_fits_114 : decode cX11_fits 114 = .ok (.iconst 0, 1) := by decide +kernel
theorem dX11_fits_115 : decode cX11_fits 115 = .ok (.ireturn, 1) := by decide +kernel
theorem dX11_fits_116 : decode cX11_fits 116 = .ok (.iload_n 1, 1) := by decide +kernel
theorem dX11_fits_117 : decode cX11_fits 117 = .ok (.ifCond .lt 13, 3) := by decide +kernel
theorem dX11_fits_120 : decode cX11_fits 120 = .ok (.iload_n 1, 1) := by decide +kernel
theorem dX11_fits_121 : decode cX11_fits 121 = .ok (.bipush 99, 2) := by decide +kernel
theorem dX11_fits_123 : decode cX11_fits 123 = .ok (.if_icmp .gt 7, 3) := by decide +kernel
theorem dX11_fits_126 : decode cX11_fits 126 = .ok (.iconst 1, 1) := by decide +kernel
theorem dX11_fits_127 : decode cX11_fits 127 = .ok (.goto 4, 3) := by decide +kernel
theorem dX11_fits_130 : decode cX11_fits 130 = .ok (.iconst 0, 1) := by decide +kernel
theorem dX11_fits_131 : decode cX11_fits 131 = .ok (.ireturn, 1) := by decide +kernel
theorem dX11_fits_132 : decode cX11_fits 132 = .ok (.iconst 0, 1) := by decide +kernel
theorem dX11_fits_133 : decode cX11_fits 133 = .ok (.ireturn, 1) := by decide +kernel
theorem dX11_newStroke_0 : decode cX11_newStroke 0 = .ok (.iload_n 0, 1) := by decide +kernel
theorem dX11_newStroke_1 : decode cX11_newStroke 1 = .ok (.tableswitch 85 1 5 #[35, 45, 55, 65, 75], 35) := by decide +kernel
theorem dX11_newStroke_36 : decode cX11_newStroke 36 = .ok (.new 288, 3) := by decide +kernel
theorem dX11_newStroke_39 : decode cX11_newStroke 39 = .ok (.dup, 1) := by decide +kernel
theorem dX11_newStroke_40 : decode cX11_newStroke 40 = .ok (.iload_n 1, 1) := by decide +kernel
theorem dX11_newStroke_41 : decode cX11_newStroke 41 = .ok (.iload_n 2, 1) := by decide +kernel
theorem dX11_newStroke_42 : decode cX11_newStroke 42 = .ok (.invokespecial 290, 3) := by decide +kernel
theorem dX11_newStroke_45 : decode cX11_newStroke 45 = .ok (.areturn, 1) := by decide +kernel
theorem dX11_newStroke_46 : decode cX11_newStroke 46 = .ok (.new 292, 3) := by decide +kernel
theorem dX11_newStroke_49 : decode cX11_newStroke 49 = .ok (.dup, 1) := by decide +kernel
theorem dX11_newStroke_50 : decode cX11_newStroke 50 = .ok (.iload_n 1, 1) := by decide +kernel
theorem dX11_newStroke_51 : decode cX11_newStroke 51 = .ok (.iload_n 2, 1) := by decide +kernel
theorem dX11_newStroke_52 : decode cX11_newStroke 52 = .ok (.invokespecial 294, 3) := by decide +kernel
theorem dX11_newStroke_55 : decode cX11_newStroke 55 = .ok (.areturn, 1) := by decide +kernel
theorem dX11_newStroke_56 : decode cX11_newStroke 56 = .ok (.new 295, 3) := by decide +kernel
theorem dX11_newStroke_59 : decode cX11_newStroke 59 = .ok (.dup, 1) := by decide +kernel
theorem dX11_newStroke_60 : decode cX11_newStroke 60 = .ok (.iload_n 1, 1) := by decide +kernel
theorem dX11_newStroke_61 : decode cX11_newStroke 61 = .ok (.iload_n 2, 1) := by decide +kernel
theorem dX11_newStroke_62 : decode cX11_newStroke 62 = .ok (.invokespecial 297, 3) := by decide +kernel
theorem dX11_newStroke_65 : decode cX11_newStroke 65 = .ok (.areturn, 1) := by decide +kernel
theorem dX11_newStroke_66 : decode cX11_newStroke 66 = .ok (.new 298, 3) := by decide +kernel
theorem dX11_newStroke_69 : decode cX11_newStroke 69 = .ok (.dup, 1) := by decide +kernel
theorem dX11_newStroke_70 : decode cX11_newStroke 70 = .ok (.iload_n 1, 1) := by decide +kernel
theorem dX11_newStroke_71 : decode cX11_newStroke 71 = .ok (.iload_n 2, 1) := by decide +kernel
theorem dX11_newStroke_72 : decode cX11_newStroke 72 = .ok (.invokespecial 300, 3) := by decide +kernel
theorem dX11_newStroke_75 : decode cX11_newStroke 75 = .ok (.areturn, 1) := by decide +kernel
theorem dX11_newStroke_76 : decode cX11_newStroke 76 = .ok (.new 301, 3) := by decide +kernel
theorem dX11_newStroke_79 : decode cX11_newStroke 79 = .ok (.dup, 1) := by decide +kernel
theorem dX11_newStroke_80 : decode cX11_newStroke 80 = .ok (.iload_n 1, 1) := by decide +kernel
theorem dX11_newStroke_81 : decode cX11_newStroke 81 = .ok (.iload_n 2, 1) := by decide +kernel
theorem dX11_newStroke_82 : decode cX11_newStroke 82 = .ok (.invokespecial 303, 3) := by decide +kernel
theorem dX11_newStroke_85 : decode cX11_newStroke 85 = .ok (.areturn, 1) := by decide +kernel
theorem dX11_newStroke_86 : decode cX11_newStroke 86 = .ok (.new 26, 3) := by decide +kernel
theorem dX11_newStroke_89 : decode cX11_newStroke 89 = .ok (.dup, 1) := by decide +kernel
theorem dX11_newStroke_90 : decode cX11_newStroke 90 = .ok (.iload_n 1, 1) := by decide +kernel
theorem dX11_newStroke_91 : decode cX11_newStroke 91 = .ok (.iload_n 2, 1) := by decide +kernel
theorem dX11_newStroke_92 : decode cX11_newStroke 92 = .ok (.invokespecial 304, 3) := by decide +kernel
theorem dX11_newStroke_95 : decode cX11_newStroke 95 = .ok (.areturn, 1) := by decide +kernel
theorem dX11_isUnder_0 : decode cX11_isUnder 0 = .ok (.iload_n 1, 1) := by decide +kernel
theorem dX11_isUnder_1 : decode cX11_isUnder 1 = .ok (.tableswitch 60 1 5 #[35, 40, 45, 50, 55], 35) := by decide +kernel
theorem dX11_isUnder_36 : decode cX11_isUnder 36 = .ok (.aload_n 0, 1) := by decide +kernel
theorem dX11_isUnder_37 : decode cX11_isUnder 37 = .ok (.instanceof 288, 3) := by decide +kernel
theorem dX11_isUnder_40 : decode cX11_isUnder 40 = .ok (.ireturn, 1) := by decide +kernel
theorem dX11_isUnder_41 : decode cX11_isUnder 41 = .ok (.aload_n 0, 1) := by decide +kernel
theorem dX11_isUnder_42 : decode cX11_isUnder 42 = .ok (.instanceof 292, 3) := by decide +kernel
theorem dX11_isUnder_45 : decode cX11_isUnder 45 = .ok (.ireturn, 1) := by decide +kernel
theorem dX11_isUnder_46 : decode cX11_isUnder 46 = .ok (.aload_n 0, 1) := by decide +kernel
theorem dX11_isUnder_47 : decode cX11_isUnder 47 = .ok (.instanceof 295, 3) := by decide +kernel
theorem dX11_isUnder_50 : decode cX11_isUnder 50 = .ok (.ireturn, 1) := by decide +kernel
theorem dX11_isUnder_51 : decode cX11_isUnder 51 = .ok (.aload_n 0, 1) := by decide +kernel
theorem dX11_isUnder_52 : decode cX11_isUnder 52 = .ok (.instanceof 298, 3) := by decide +kernel
theorem dX11_isUnder_55 : decode cX11_isUnder 55 = .ok (.ireturn, 1) := by decide +kernel
theorem dX11_isUnder_56 : decode cX11_isUnder 56 = .ok (.aload_n 0, 1) := by decide +kernel
theorem dX11_isUnder_57 : decode cX11_isUnder 57 = .ok (.instanceof 301, 3) := by decide +kernel
theorem dX11_isUnder_60 : decode cX11_isUnder 60 = .ok (.ireturn, 1) := by decide +kernel
theorem dX11_isUnder_61 : decode cX11_isUnder 61 = .ok (.iconst 1, 1) := by decide +kernel
theorem dX11_isUnder_62 : decode cX11_isUnder 62 = .ok (.ireturn, 1) := by decide +kernel
theorem dX11_apart_0 : decode cX11_apart 0 = .ok (.iload_n 0, 1) := by decide +kernel
theorem dX11_apart_1 : decode cX11_apart 1 = .ok (.iconst 5, 1) := by decide +kernel
theorem dX11_apart_2 : decode cX11_apart 2 = .ok (.irem, 1) := by decide +kernel
theorem dX11_apart_3 : decode cX11_apart 3 = .ok (.iload_n 1, 1) := by decide +kernel
theorem dX11_apart_4 : decode cX11_apart 4 = .ok (.iconst 5, 1) := by decide +kernel
theorem dX11_apart_5 : decode cX11_apart 5 = .ok (.irem, 1) := by decide +kernel
theorem dX11_apart_6 : decode cX11_apart 6 = .ok (.isub, 1) := by decide +kernel
theorem dX11_apart_7 : decode cX11_apart 7 = .ok (.invokestatic 305, 3) := by decide +kernel
theorem dX11_apart_10 : decode cX11_apart 10 = .ok (.iload_n 0, 1) := by decide +kernel
theorem dX11_apart_11 : decode cX11_apart 11 = .ok (.iconst 5, 1) := by decide +kernel
theorem dX11_apart_12 : decode cX11_apart 12 = .ok (.idiv, 1) := by decide +kernel
theorem dX11_apart_13 : decode cX11_apart 13 = .ok (.iload_n 1, 1) := by decide +kernel
theorem dX11_apart_14 : decode cX11_apart 14 = .ok (.iconst 5, 1) := by decide +kernel
theorem dX11_apart_15 : decode cX11_apart 15 = .ok (.idiv, 1) := by decide +kernel
theorem dX11_apart_16 : decode cX11_apart 16 = .ok (.isub, 1) := by decide +kernel
theorem dX11_apart_17 : decode cX11_apart 17 = .ok (.invokestatic 305, 3) := by decide +kernel
theorem dX11_apart_20 : decode cX11_apart 20 = .ok (.invokestatic 310, 3) := by decide +kernel
theorem dX11_apart_23 : decode cX11_apart 23 = .ok (.ireturn, 1) := by decide +kernel
theorem dX11_across_0 : decode cX11_across 0 = .ok (.iload_n 0, 1) := by decide +kernel
theorem dX11_across_1 : decode cX11_across 1 = .ok (.iload_n 0, 1) := by decide +kernel
theorem dX11_across_2 : decode cX11_across 2 = .ok (.iconst 5, 1) := by decide +kernel
theorem dX11_across_3 : decode cX11_across 3 = .ok (.irem, 1) := by decide +kernel
theorem dX11_across_4 : decode cX11_across 4 = .ok (.isub, 1) := by decide +kernel
theorem dX11_across_5 : decode cX11_across 5 = .ok (.iconst 5, 1) := by decide +kernel
theorem dX11_across_6 : decode cX11_across 6 = .ok (.iadd, 1) := by decide +kernel
theorem dX11_across_7 : decode cX11_across 7 = .ok (.iconst 1, 1) := by decide +kernel
theorem dX11_across_8 : decode cX11_across 8 = .ok (.isub, 1) := by decide +kernel
theorem dX11_across_9 : decode cX11_across 9 = .ok (.iload_n 0, 1) := by decide +kernel
theorem dX11_across_10 : decode cX11_across 10 = .ok (.iconst 5, 1) := by decide +kernel
theorem dX11_across_11 : decode cX11_across 11 = .ok (.irem, 1) := by decide +kernel
theorem dX11_across_12 : decode cX11_across 12 = .ok (.isub, 1) := by decide +kernel
theorem dX11_across_13 : decode cX11_across 13 = .ok (.ireturn, 1) := by decide +kernel
theorem dX11_within_0 : decode cX11_within 0 = .ok (.iconst 0, 1) := by decide +kernel
theorem dX11_within_1 : decode cX11_within 1 = .ok (.iload_n 1, 1) := by decide +kernel
theorem dX11_within_2 : decode cX11_within 2 = .ok (.iload_n 0, 1) := by decide +kernel
theorem dX11_within_3 : decode cX11_within 3 = .ok (.invokestatic 313, 3) := by decide +kernel
theorem dX11_within_6 : decode cX11_within 6 = .ok (.invokestatic 310, 3) := by decide +kernel
theorem dX11_within_9 : decode cX11_within 9 = .ok (.ireturn, 1) := by decide +kernel
theorem dX11_goesOver_0 : decode cX11_goesOver 0 = .ok (.iload_n 0, 1) := by decide +kernel
theorem dX11_goesOver_1 : decode cX11_goesOver 1 = .ok (.iconst 5, 1) := by decide +kernel
theorem dX11_goesOver_2 : decode cX11_goesOver 2 = .ok (.irem, 1) := by decide +kernel
theorem dX11_goesOver_3 : decode cX11_goesOver 3 = .ok (.istore_n 3, 1) := by decide +kernel
theorem dX11_goesOver_4 : decode cX11_goesOver 4 = .ok (.iload_n 0, 1) := by decide +kernel
theorem dX11_goesOver_5 : decode cX11_goesOver 5 = .ok (.iconst 5, 1) := by decide +kernel
theorem dX11_goesOver_6 : decode cX11_goesOver 6 = .ok (.idiv, 1) := by decide +kernel
theorem dX11_goesOver_7 : decode cX11_goesOver 7 = .ok (.istore 4, 2) := by decide +kernel
theorem dX11_goesOver_9 : decode cX11_goesOver 9 = .ok (.iload_n 0, 1) := by decide +kernel
theorem dX11_goesOver_10 : decode cX11_goesOver 10 = .ok (.iload_n 1, 1) := by decide +kernel
theorem dX11_goesOver_11 : decode cX11_goesOver 11 = .ok (.invokestatic 214, 3) := by decide +kernel
theorem dX11_goesOver_14 : decode cX11_goesOver 14 = .ok (.istore 5, 2) := by decide +kernel
theorem dX11_goesOver_16 : decode cX11_goesOver 16 = .ok (.iload 5, 2) := by decide +kernel
theorem dX11_goesOver_18 : decode cX11_goesOver 18 = .ok (.ifCond .le 44, 3) := by decide +kernel
theorem dX11_goesOver_21 : decode cX11_goesOver 21 = .ok (.iload_n 3, 1) := by decide +kernel
theorem dX11_goesOver_22 : decode cX11_goesOver 22 = .ok (.iload_n 1, 1) := by decide +kernel
theorem dX11_goesOver_23 : decode cX11_goesOver 23 = .ok (.iconst 5, 1) := by decide +kernel
theorem dX11_goesOver_24 : decode cX11_goesOver 24 = .ok (.irem, 1) := by decide +kernel
theorem dX11_goesOver_25 : decode cX11_goesOver 25 = .ok (.iload_n 3, 1) := by decide +kernel
theorem dX11_goesOver_26 : decode cX11_goesOver 26 = .ok (.invokestatic 316, 3) := by decide +kernel
theorem dX11_goesOver_29 : decode cX11_goesOver 29 = .ok (.iadd, 1) := by decide +kernel
theorem dX11_goesOver_30 : decode cX11_goesOver 30 = .ok (.istore_n 3, 1) := by decide +kernel
theorem dX11_goesOver_31 : decode cX11_goesOver 31 = .ok (.iload 4, 2) := by decide +kernel
theorem dX11_goesOver_33 : decode cX11_goesOver 33 = .ok (.iload_n 1, 1) := by decide +kernel
theorem dX11_goesOver_34 : decode cX11_goesOver 34 = .ok (.iconst 5, 1) := by decide +kernel
theorem dX11_goesOver_35 : decode cX11_goesOver 35 = .ok (.idiv, 1) := by decide +kernel
theorem dX11_goesOver_36 : decode cX11_goesOver 36 = .ok (.iload 4, 2) := by decide +kernel
theorem dX11_goesOver_38 : decode cX11_goesOver 38 = .ok (.invokestatic 316, 3) := by decide +kernel
theorem dX11_goesOver_41 : decode cX11_goesOver 41 = .ok (.iadd, 1) := by decide +kernel
theorem dX11_goesOver_42 : decode cX11_goesOver 42 = .ok (.istore 4, 2) := by decide +kernel
theorem dX11_goesOver_44 : decode cX11_goesOver 44 = .ok (.iload 4, 2) := by decide +kernel
theorem dX11_goesOver_46 : decode cX11_goesOver 46 = .ok (.iconst 5, 1) := by decide +kernel
theorem dX11_goesOver_47 : decode cX11_goesOver 47 = .ok (.imul, 1) := by decide +kernel
theorem dX11_goesOver_48 : decode cX11_goesOver 48 = .ok (.iload_n 3, 1) := by decide +kernel
theorem dX11_goesOver_49 : decode cX11_goesOver 49 = .ok (.iadd, 1) := by decide +kernel
theorem dX11_goesOver_50 : decode cX11_goesOver 50 = .ok (.iload_n 2, 1) := by decide +kernel
theorem dX11_goesOver_51 : decode cX11_goesOver 51 = .ok (.if_icmp .ne 5, 3) := by decide +kernel
theorem dX11_goesOver_54 : decode cX11_goesOver 54 = .ok (.iconst 1, 1) := by decide +kernel
theorem dX11_goesOver_55 : decode cX11_goesOver 55 = .ok (.ireturn, 1) := by decide +kernel
theorem dX11_goesOver_56 : decode cX11_goesOver 56 = .ok (.iinc 5 (-1), 3) := by decide +kernel
theorem dX11_goesOver_59 : decode cX11_goesOver 59 = .ok (.goto (-43), 3) := by decide +kernel
theorem dX11_goesOver_62 : decode cX11_goesOver 62 = .ok (.iconst 0, 1) := by decide +kernel
theorem dX11_goesOver_63 : decode cX11_goesOver 63 = .ok (.ireturn, 1) := by decide +kernel
theorem dX11_refusalOfRally_0 : decode cX11_refusalOfRally 0 = .ok (.aload_n 0, 1) := by decide +kernel
theorem dX11_refusalOfRally_1 : decode cX11_refusalOfRally 1 = .ok (.iload_n 1, 1) := by decide +kernel
theorem dX11_refusalOfRally_2 : decode cX11_refusalOfRally 2 = .ok (.invokevirtual 196, 3) := by decide +kernel
theorem dX11_refusalOfRally_5 : decode cX11_refusalOfRally 5 = .ok (.astore_n 2, 1) := by decide +kernel
theorem dX11_refusalOfRally_6 : decode cX11_refusalOfRally 6 = .ok (.aload_n 2, 1) := by decide +kernel
theorem dX11_refusalOfRally_7 : decode cX11_refusalOfRally 7 = .ok (.ifnonnull 6, 3) := by decide +kernel
theorem dX11_refusalOfRally_10 : decode cX11_refusalOfRally 10 = .ok (.bipush (-2), 2) := by decide +kernel
theorem dX11_refusalOfRally_12 : decode cX11_refusalOfRally 12 = .ok (.ireturn, 1) := by decide +kernel
theorem dX11_refusalOfRally_13 : decode cX11_refusalOfRally 13 = .ok (.aload_n 2, 1) := by decide +kernel
theorem dX11_refusalOfRally_14 : decode cX11_refusalOfRally 14 = .ok (.invokevirtual 221, 3) := by decide +kernel
theorem dX11_refusalOfRally_17 : decode cX11_refusalOfRally 17 = .ok (.ifCond .eq 6, 3) := by decide +kernel
theorem dX11_refusalOfRally_20 : decode cX11_refusalOfRally 20 = .ok (.bipush (-11), 2) := by decide +kernel
theorem dX11_refusalOfRally_22 : decode cX11_refusalOfRally 22 = .ok (.ireturn, 1) := by decide +kernel
theorem dX11_refusalOfRally_23 : decode cX11_refusalOfRally 23 = .ok (.iconst 0, 1) := by decide +kernel
theorem dX11_refusalOfRally_24 : decode cX11_refusalOfRally 24 = .ok (.istore_n 3, 1) := by decide +kernel
theorem dX11_refusalOfRally_25 : decode cX11_refusalOfRally 25 = .ok (.iload_n 3, 1) := by decide +kernel
theorem dX11_refusalOfRally_26 : decode cX11_refusalOfRally 26 = .ok (.aload_n 2, 1) := by decide +kernel
theorem dX11_refusalOfRally_27 : decode cX11_refusalOfRally 27 = .ok (.getfield 225, 3) := by decide +kernel
theorem dX11_refusalOfRally_30 : decode cX11_refusalOfRally 30 = .ok (.if_icmp .ge 24, 3) := by decide +kernel
theorem dX11_refusalOfRally_33 : decode cX11_refusalOfRally 33 = .ok (.aload_n 0, 1) := by decide +kernel
theorem dX11_refusalOfRally_34 : decode cX11_refusalOfRally 34 = .ok (.aload_n 2, 1) := by decide +kernel
theorem dX11_refusalOfRally_35 : decode cX11_refusalOfRally 35 = .ok (.iload_n 3, 1) := by decide +kernel
theorem dX11_refusalOfRally_36 : decode cX11_refusalOfRally 36 = .ok (.invokevirtual 277, 3) := by decide +kernel
theorem dX11_refusalOfRally_39 : decode cX11_refusalOfRally 39 = .ok (.invokevirtual 129, 3) := by decide +kernel
theorem dX11_refusalOfRally_42 : decode cX11_refusalOfRally 42 = .ok (.ifnonnull 6, 3) := by decide +kernel
theorem dX11_refusalOfRally_45 : decode cX11_refusalOfRally 45 = .ok (.bipush (-2), 2) := by decide +kernel
theorem dX11_refusalOfRally_47 : decode cX11_refusalOfRally 47 = .ok (.ireturn, 1) := by decide +kernel
theorem dX11_refusalOfRally_48 : decode cX11_refusalOfRally 48 = .ok (.iinc 3 1, 3) := by decide +kernel
theorem dX11_refusalOfRally_51 : decode cX11_refusalOfRally 51 = .ok (.goto (-26), 3) := by decide +kernel
theorem dX11_refusalOfRally_54 : decode cX11_refusalOfRally 54 = .ok (.iconst 0, 1) := by decide +kernel
theorem dX11_refusalOfRally_55 : decode cX11_refusalOfRally 55 = .ok (.ireturn, 1) := by decide +kernel
theorem dX11_playInThought_0 : decode cX11_playInThought 0 = .ok (.aload_n 0, 1) := by decide +kernel
theorem dX11_playInThought_1 : decode cX11_playInThought 1 = .ok (.getfield 101, 3) := by decide +kernel
theorem dX11_playInThought_4 : decode cX11_playInThought 4 = .ok (.aload_n 0, 1) := by decide +kernel
theorem dX11_playInThought_5 : decode cX11_playInThought 5 = .ok (.getfield 97, 3) := by decide +kernel
theorem dX11_playInThought_8 : decode cX11_playInThought 8 = .ok (.invokevirtual 245, 3) := by decide +kernel
theorem dX11_playInThought_11 : decode cX11_playInThought 11 = .ok (.aload_n 0, 1) := by decide +kernel
theorem dX11_playInThought_12 : decode cX11_playInThought 12 = .ok (.aload_n 0, 1) := by decide +kernel
theorem dX11_playInThought_13 : decode cX11_playInThought 13 = .ok (.getfield 101, 3) := by decide +kernel
theorem dX11_playInThought_16 : decode cX11_playInThought 16 = .ok (.aload_n 0, 1) := by decide +kernel
theorem dX11_playInThought_17 : decode cX11_playInThought 17 = .ok (.iload_n 1, 1) := by decide +kernel
theorem dX11_playInThought_18 : decode cX11_playInThought 18 = .ok (.invokevirtual 196, 3) := by decide +kernel
theorem dX11_playInThought_21 : decode cX11_playInThought 21 = .ok (.invokevirtual 200, 3) := by decide +kernel
theorem dX11_playInThought_24 : decode cX11_playInThought 24 = .ok (.ireturn, 1) := by decide +kernel
theorem dX11_playOut_0 : decode cX11_playOut 0 = .ok (.aload_n 0, 1) := by decide +kernel
theorem dX11_playOut_1 : decode cX11_playOut 1 = .ok (.iconst 0, 1) := by decide +kernel
theorem dX11_playOut_2 : decode cX11_playOut 2 = .ok (.putfield 60, 3) := by decide +kernel
theorem dX11_playOut_5 : decode cX11_playOut 5 = .ok (.aload_n 0, 1) := by decide +kernel
theorem dX11_playOut_6 : decode cX11_playOut 6 = .ok (.ldc2_w 63, 3) := by decide +kernel
theorem dX11_playOut_9 : decode cX11_playOut 9 = .ok (.putfield 65, 3) := by decide +kernel
theorem dX11_playOut_12 : decode cX11_playOut 12 = .ok (.aload_n 0, 1) := by decide +kernel
theorem dX11_playOut_13 : decode cX11_playOut 13 = .ok (.iconst (-1), 1) := by decide +kernel
theorem dX11_playOut_14 : decode cX11_playOut 14 = .ok (.putfield 69, 3) := by decide +kernel
theorem dX11_playOut_17 : decode cX11_playOut 17 = .ok (.aload_n 2, 1) := by decide +kernel
theorem dX11_playOut_18 : decode cX11_playOut 18 = .ok (.ifnonnull 5, 3) := by decide +kernel
theorem dX11_playOut_21 : decode cX11_playOut 21 = .ok (.iconst (-1), 1) := by decide +kernel
theorem dX11_playOut_22 : decode cX11_playOut 22 = .ok (.ireturn, 1) := by decide +kernel
theorem dX11_playOut_23 : decode cX11_playOut 23 = .ok (.iconst 0, 1) := by decide +kernel
theorem dX11_playOut_24 : decode cX11_playOut 24 = .ok (.istore_n 3, 1) := by decide +kernel
theorem dX11_playOut_25 : decode cX11_playOut 25 = .ok (.iload_n 3, 1) := by decide +kernel
theorem dX11_playOut_26 : decode cX11_playOut 26 = .ok (.aload_n 2, 1) := by decide +kernel
theorem dX11_playOut_27 : decode cX11_playOut 27 = .ok (.getfield 225, 3) := by decide +kernel
theorem dX11_playOut_30 : decode cX11_playOut 30 = .ok (.if_icmp .ge 157, 3) := by decide +kernel
theorem dX11_playOut_33 : decode cX11_playOut 33 = .ok (.iload_n 3, 1) := by decide +kernel
theorem dX11_playOut_34 : decode cX11_playOut 34 = .ok (.aload_n 0, 1) := by decide +kernel
theorem dX11_playOut_35 : decode cX11_playOut 35 = .ok (.getfield 57, 3) := by decide +kernel
theorem dX11_playOut_38 : decode cX11_playOut 38 = .ok (.arraylength, 1) := by decide +kernel
theorem dX11_playOut_39 : decode cX11_playOut 39 = .ok (.if_icmp .ge 148, 3) := by decide +kernel
theorem dX11_playOut_42 : decode cX11_playOut 42 = .ok (.aload_n 0, 1) := by decide +kernel
theorem dX11_playOut_43 : decode cX11_playOut 43 = .ok (.aload_n 2, 1) := by decide +kernel
theorem dX11_playOut_44 : decode cX11_playOut 44 = .ok (.iload_n 3, 1) := by decide +kernel
theorem dX11_playOut_45 : decode cX11_playOut 45 = .ok (.invokevirtual 277, 3) := by decide +kernel
theorem dX11_playOut_48 : decode cX11_playOut 48 = .ok (.invokevirtual 129, 3) := by decide +kernel
theorem dX11_playOut_51 : decode cX11_playOut 51 = .ok (.astore 4, 2) := by decide +kernel
theorem dX11_playOut_53 : decode cX11_playOut 53 = .ok (.aload 4, 2) := by decide +kernel
theorem dX11_playOut_55 : decode cX11_playOut 55 = .ok (.ifnonnull 5, 3) := by decide +kernel
theorem dX11_playOut_58 : decode cX11_playOut 58 = .ok (.iconst (-1), 1) := by decide +kernel
theorem dX11_playOut_59 : decode cX11_playOut 59 = .ok (.ireturn, 1) := by decide +kernel
theorem dX11_playOut_60 : decode cX11_playOut 60 = .ok (.iload_n 3, 1) := by decide +kernel
theorem dX11_playOut_61 : decode cX11_playOut 61 = .ok (.iconst 2, 1) := by decide +kernel
theorem dX11_playOut_62 : decode cX11_playOut 62 = .ok (.irem, 1) := by decide +kernel
theorem dX11_playOut_63 : decode cX11_playOut 63 = .ok (.istore 5, 2) := by decide +kernel
theorem dX11_playOut_65 : decode cX11_playOut 65 = .ok (.aload_n 1, 1) := by decide +kernel
theorem dX11_playOut_66 : decode cX11_playOut 66 = .ok (.iload 5, 2) := by decide +kernel
theorem dX11_playOut_68 : decode cX11_playOut 68 = .ok (.invokevirtual 119, 3) := by decide +kernel
theorem dX11_playOut_71 : decode cX11_playOut 71 = .ok (.astore 6, 2) := by decide +kernel
theorem dX11_playOut_73 : decode cX11_playOut 73 = .ok (.aload 6, 2) := by decide +kernel
theorem dX11_playOut_75 : decode cX11_playOut 75 = .ok (.getfield 150, 3) := by decide +kernel
theorem dX11_playOut_78 : decode cX11_playOut 78 = .ok (.istore 7, 2) := by decide +kernel
theorem dX11_playOut_80 : decode cX11_playOut 80 = .ok (.aload_n 1, 1) := by decide +kernel
theorem dX11_playOut_81 : decode cX11_playOut 81 = .ok (.iconst 1, 1) := by decide +kernel
theorem dX11_playOut_82 : decode cX11_playOut 82 = .ok (.iload 5, 2) := by decide +kernel
theorem dX11_playOut_84 : decode cX11_playOut 84 = .ok (.isub, 1) := by decide +kernel
theorem dX11_playOut_85 : decode cX11_playOut 85 = .ok (.invokevirtual 119, 3) := by decide +kernel
theorem dX11_playOut_88 : decode cX11_playOut 88 = .ok (.getfield 150, 3) := by decide +kernel
theorem dX11_playOut_91 : decode cX11_playOut 91 = .ok (.istore 8, 2) := by decide +kernel
theorem dX11_playOut_93 : decode cX11_playOut 93 = .ok (.aload_n 0, 1) := by decide +kernel
theorem dX11_playOut_94 : decode cX11_playOut 94 = .ok (.getfield 57, 3) := by decide +kernel
theorem dX11_playOut_97 : decode cX11_playOut 97 = .ok (.iload_n 3, 1) := by decide +kernel
theorem dX11_playOut_98 : decode cX11_playOut 98 = .ok (.aload 4, 2) := by decide +kernel
theorem dX11_playOut_100 : decode cX11_playOut 100 = .ok (.iload 7, 2) := by decide +kernel
theorem dX11_playOut_102 : decode cX11_playOut 102 = .ok (.invokevirtual 153, 3) := by decide +kernel
theorem dX11_playOut_105 : decode cX11_playOut 105 = .ok (.iastore, 1) := by decide +kernel
theorem dX11_playOut_106 : decode cX11_playOut 106 = .ok (.aload_n 0, 1) := by decide +kernel
theorem dX11_playOut_107 : decode cX11_playOut 107 = .ok (.aload_n 0, 1) := by decide +kernel
theorem dX11_playOut_108 : decode cX11_playOut 108 = .ok (.getfield 65, 3) := by decide +kernel
theorem dX11_playOut_111 : decode cX11_playOut 111 = .ok (.bipush 100, 2) := by decide +kernel
theorem dX11_playOut_113 : decode cX11_playOut 113 = .ok (.aload_n 1, 1) := by decide +kernel
theorem dX11_playOut_114 : decode cX11_playOut 114 = .ok (.aload 6, 2) := by decide +kernel
theorem dX11_playOut_116 : decode cX11_playOut 116 = .ok (.aload 4, 2) := by decide +kernel
theorem dX11_playOut_118 : decode cX11_playOut 118 = .ok (.invokevirtual 160, 3) := by decide +kernel
theorem dX11_playOut_121 : decode cX11_playOut 121 = .ok (.isub, 1) := by decide +kernel
theorem dX11_playOut_122 : decode cX11_playOut 122 = .ok (.i2l, 1) := by decide +kernel
theorem dX11_playOut_123 : decode cX11_playOut 123 = .ok (.lmul, 1) := by decide +kernel
theorem dX11_playOut_124 : decode cX11_playOut 124 = .ok (.ldc2_w 321, 3) := by decide +kernel
theorem dX11_playOut_127 : decode cX11_playOut 127 = .ok (.ldiv, 1) := by decide +kernel
theorem dX11_playOut_128 : decode cX11_playOut 128 = .ok (.putfield 65, 3) := by decide +kernel
theorem dX11_playOut_131 : decode cX11_playOut 131 = .ok (.aload_n 0, 1) := by decide +kernel
theorem dX11_playOut_132 : decode cX11_playOut 132 = .ok (.iload_n 3, 1) := by decide +kernel
theorem dX11_playOut_133 : decode cX11_playOut 133 = .ok (.iconst 1, 1) := by decide +kernel
theorem dX11_playOut_134 : decode cX11_playOut 134 = .ok (.iadd, 1) := by decide +kernel
theorem dX11_playOut_135 : decode cX11_playOut 135 = .ok (.putfield 60, 3) := by decide +kernel
theorem dX11_playOut_138 : decode cX11_playOut 138 = .ok (.aload_n 1, 1) := by decide +kernel
theorem dX11_playOut_139 : decode cX11_playOut 139 = .ok (.iload 5, 2) := by decide +kernel
theorem dX11_playOut_141 : decode cX11_playOut 141 = .ok (.aload 4, 2) := by decide +kernel
theorem dX11_playOut_143 : decode cX11_playOut 143 = .ok (.invokevirtual 250, 3) := by decide +kernel
theorem dX11_playOut_146 : decode cX11_playOut 146 = .ok (.ifCond .eq 6, 3) := by decide +kernel
theorem dX11_playOut_149 : decode cX11_playOut 149 = .ok (.iload 5, 2) := by decide +kernel
theorem dX11_playOut_151 : decode cX11_playOut 151 = .ok (.ireturn, 1) := by decide +kernel
theorem dX11_playOut_152 : decode cX11_playOut 152 = .ok (.aload_n 0, 1) := by decide +kernel
theorem dX11_playOut_153 : decode cX11_playOut 153 = .ok (.getfield 69, 3) := by decide +kernel
theorem dX11_playOut_156 : decode cX11_playOut 156 = .ok (.iconst (-1), 1) := by decide +kernel
theorem dX11_playOut_157 : decode cX11_playOut 157 = .ok (.if_icmp .ne 24, 3) := by decide +kernel
theorem dX11_playOut_160 : decode cX11_playOut 160 = .ok (.iload 8, 2) := by decide +kernel
theorem dX11_playOut_162 : decode cX11_playOut 162 = .ok (.aload_n 0, 1) := by decide +kernel
theorem dX11_playOut_163 : decode cX11_playOut 163 = .ok (.getfield 57, 3) := by decide +kernel
theorem dX11_playOut_166 : decode cX11_playOut 166 = .ok (.iload_n 3, 1) := by decide +kernel
theorem dX11_playOut_167 : decode cX11_playOut 167 = .ok (.iaload, 1) := by decide +kernel
theorem dX11_playOut_168 : decode cX11_playOut 168 = .ok (.iload 7, 2) := by decide +kernel
theorem dX11_playOut_170 : decode cX11_playOut 170 = .ok (.invokestatic 323, 3) := by decide +kernel
theorem dX11_playOut_173 : decode cX11_playOut 173 = .ok (.ifCond .eq 8, 3) := by decide +kernel
theorem dX11_playOut_176 : decode cX11_playOut 176 = .ok (.aload_n 0, 1) := by decide +kernel
theorem dX11_playOut_177 : decode cX11_playOut 177 = .ok (.iload_n 3, 1) := by decide +kernel
theorem dX11_playOut_178 : decode cX11_playOut 178 = .ok (.putfield 69, 3) := by decide +kernel
theorem dX11_playOut_181 : decode cX11_playOut 181 = .ok (.iinc 3 1, 3) := by decide +kernel
theorem dX11_playOut_184 : decode cX11_playOut 184 = .ok (.goto (-159), 3) := by decide +kernel
theorem dX11_playOut_187 : decode cX11_playOut 187 = .ok (.iconst (-1), 1) := by decide +kernel
theorem dX11_playOut_188 : decode cX11_playOut 188 = .ok (.ireturn, 1) := by decide +kernel
theorem dX11_valueFor_0 : decode cX11_valueFor 0 = .ok (.bipush (-2), 2) := by decide +kernel
theorem dX11_valueFor_2 : decode cX11_valueFor 2 = .ok (.istore 5, 2) := by decide +kernel
theorem dX11_valueFor_4 : decode cX11_valueFor 4 = .ok (.iconst (-1), 1) := by decide +kernel
theorem dX11_valueFor_5 : decode cX11_valueFor 5 = .ok (.istore 6, 2) := by decide +kernel
theorem dX11_valueFor_7 : decode cX11_valueFor 7 = .ok (.iconst 0, 1) := by decide +kernel
theorem dX11_valueFor_8 : decode cX11_valueFor 8 = .ok (.istore 7, 2) := by decide +kernel
theorem dX11_valueFor_10 : decode cX11_valueFor 10 = .ok (.iload_n 3, 1) := by decide +kernel
theorem dX11_valueFor_11 : decode cX11_valueFor 11 = .ok (.ifCond .le 57, 3) := by decide +kernel
theorem dX11_valueFor_14 : decode cX11_valueFor 14 = .ok (.iload 7, 2) := by decide +kernel
theorem dX11_valueFor_16 : decode cX11_valueFor 16 = .ok (.aload_n 0, 1) := by decide +kernel
theorem dX11_valueFor_17 : decode cX11_valueFor 17 = .ok (.getfield 32, 3) := by decide +kernel
theorem dX11_valueFor_20 : decode cX11_valueFor 20 = .ok (.if_icmp .ge 48, 3) := by decide +kernel
theorem dX11_valueFor_23 : decode cX11_valueFor 23 = .ok (.iload 5, 2) := by decide +kernel
theorem dX11_valueFor_25 : decode cX11_valueFor 25 = .ok (.iload 4, 2) := by decide +kernel
theorem dX11_valueFor_27 : decode cX11_valueFor 27 = .ok (.if_icmp .ge 41, 3) := by decide +kernel
theorem dX11_valueFor_30 : decode cX11_valueFor 30 = .ok (.aload_n 0, 1) := by decide +kernel
theorem dX11_valueFor_31 : decode cX11_valueFor 31 = .ok (.aload_n 1, 1) := by decide +kernel
theorem dX11_valueFor_32 : decode cX11_valueFor 32 = .ok (.iload_n 2, 1) := by decide +kernel
theorem dX11_valueFor_33 : decode cX11_valueFor 33 = .ok (.aload_n 0, 1) := by decide +kernel
theorem dX11_valueFor_34 : decode cX11_valueFor 34 = .ok (.iload 7, 2) := by decide +kernel
theorem dX11_valueFor_36 : decode cX11_valueFor 36 = .ok (.invokevirtual 129, 3) := by decide +kernel
theorem dX11_valueFor_39 : decode cX11_valueFor 39 = .ok (.iload_n 3, 1) := by decide +kernel
theorem dX11_valueFor_40 : decode cX11_valueFor 40 = .ok (.iload 5, 2) := by decide +kernel
theorem dX11_valueFor_42 : decode cX11_valueFor 42 = .ok (.invokevirtual 327, 3) := by decide +kernel
theorem dX11_valueFor_45 : decode cX11_valueFor 45 = .ok (.istore 8, 2) := by decide +kernel
theorem dX11_valueFor_47 : decode cX11_valueFor 47 = .ok (.iload 8, 2) := by decide +kernel
theorem dX11_valueFor_49 : decode cX11_valueFor 49 = .ok (.iload 5, 2) := by decide +kernel
theorem dX11_valueFor_51 : decode cX11_valueFor 51 = .ok (.if_icmp .le 11, 3) := by decide +kernel
theorem dX11_valueFor_54 : decode cX11_valueFor 54 = .ok (.iload 8, 2) := by decide +kernel
theorem dX11_valueFor_56 : decode cX11_valueFor 56 = .ok (.istore 5, 2) := by decide +kernel
theorem dX11_valueFor_58 : decode cX11_valueFor 58 = .ok (.iload 7, 2) := by decide +kernel
theorem dX11_valueFor_60 : decode cX11_valueFor 60 = .ok (.istore 6, 2) := by decide +kernel
theorem dX11_valueFor_62 : decode cX11_valueFor 62 = .ok (.iinc 7 1, 3) := by decide +kernel
theorem dX11_valueFor_65 : decode cX11_valueFor 65 = .ok (.goto (-55), 3) := by decide +kernel
theorem dX11_valueFor_68 : decode cX11_valueFor 68 = .ok (.aload_n 0, 1) := by decide +kernel
theorem dX11_valueFor_69 : decode cX11_valueFor 69 = .ok (.iload 6, 2) := by decide +kernel
theorem dX11_valueFor_71 : decode cX11_valueFor 71 = .ok (.putfield 72, 3) := by decide +kernel
theorem dX11_valueFor_74 : decode cX11_valueFor 74 = .ok (.iload 6, 2) := by decide +kernel
theorem dX11_valueFor_76 : decode cX11_valueFor 76 = .ok (.iconst (-1), 1) := by decide +kernel
theorem dX11_valueFor_77 : decode cX11_valueFor 77 = .ok (.if_icmp .ne 7, 3) := by decide +kernel
theorem dX11_valueFor_80 : decode cX11_valueFor 80 = .ok (.iconst 0, 1) := by decide +kernel
theorem dX11_valueFor_81 : decode cX11_valueFor 81 = .ok (.goto 5, 3) := by decide +kernel
theorem dX11_valueFor_84 : decode cX11_valueFor 84 = .ok (.iload 5, 2) := by decide +kernel
theorem dX11_valueFor_86 : decode cX11_valueFor 86 = .ok (.ireturn, 1) := by decide +kernel
theorem dX11_valueBy_0 : decode cX11_valueBy 0 = .ok (.aload_n 3, 1) := by decide +kernel
theorem dX11_valueBy_1 : decode cX11_valueBy 1 = .ok (.ifnull 19, 3) := by decide +kernel
theorem dX11_valueBy_4 : decode cX11_valueBy 4 = .ok (.iload 4, 2) := by decide +kernel
theorem dX11_valueBy_6 : decode cX11_valueBy 6 = .ok (.iconst 1, 1) := by decide +kernel
theorem dX11_valueBy_7 : decode cX11_valueBy 7 = .ok (.if_icmp .lt 13, 3) := by decide +kernel
theorem dX11_valueBy_10 : decode cX11_valueBy 10 = .ok (.iload 4, 2) := by decide +kernel
theorem dX11_valueBy_12 : decode cX11_valueBy 12 = .ok (.aload_n 0, 1) := by decide +kernel
theorem dX11_valueBy_13 : decode cX11_valueBy 13 = .ok (.getfield 37, 3) := by decide +kernel
theorem dX11_valueBy_16 : decode cX11_valueBy 16 = .ok (.arraylength, 1) := by decide +kernel
theorem dX11_valueBy_17 : decode cX11_valueBy 17 = .ok (.if_icmp .lt 5, 3) := by decide +kernel
theorem dX11_valueBy_20 : decode cX11_valueBy 20 = .ok (.iconst 0, 1) := by decide +kernel
theorem dX11_valueBy_21 : decode cX11_valueBy 21 = .ok (.ireturn, 1) := by decide +kernel
theorem dX11_valueBy_22 : decode cX11_valueBy 22 = .ok (.iload 4, 2) := by decide +kernel
theorem dX11_valueBy_24 : decode cX11_valueBy 24 = .ok (.iconst 1, 1) := by decide +kernel
theorem dX11_valueBy_25 : decode cX11_valueBy 25 = .ok (.if_icmp .ne 18, 3) := by decide +kernel
theorem dX11_valueBy_28 : decode cX11_valueBy 28 = .ok (.aload_n 1, 1) := by decide +kernel
theorem dX11_valueBy_29 : decode cX11_valueBy 29 = .ok (.iload_n 2, 1) := by decide +kernel
theorem dX11_valueBy_30 : decode cX11_valueBy 30 = .ok (.aload_n 3, 1) := by decide +kernel
theorem dX11_valueBy_31 : decode cX11_valueBy 31 = .ok (.invokevirtual 217, 3) := by decide +kernel
theorem dX11_valueBy_34 : decode cX11_valueBy 34 = .ok (.ifCond .eq 7, 3) := by decide +kernel
theorem dX11_valueBy_37 : decode cX11_valueBy 37 = .ok (.iconst 1, 1) := by decide +kernel
theorem dX11_valueBy_38 : decode cX11_valueBy 38 = .ok (.goto 4, 3) := by decide +kernel
theorem dX11_valueBy_41 : decode cX11_valueBy 41 = .ok (.iconst 0, 1) := by decide +kernel
theorem dX11_valueBy_42 : decode cX11_valueBy 42 = .ok (.ireturn, 1) := by decide +kernel
theorem dX11_valueBy_43 : decode cX11_valueBy 43 = .ok (.aload_n 0, 1) := by decide +kernel
theorem dX11_valueBy_44 : decode cX11_valueBy 44 = .ok (.getfield 37, 3) := by decide +kernel
theorem dX11_valueBy_47 : decode cX11_valueBy 47 = .ok (.iload 4, 2) := by decide +kernel
theorem dX11_valueBy_49 : decode cX11_valueBy 49 = .ok (.aaload, 1) := by decide +kernel
theorem dX11_valueBy_50 : decode cX11_valueBy 50 = .ok (.astore 6, 2) := by decide +kernel
theorem dX11_valueBy_52 : decode cX11_valueBy 52 = .ok (.aload 6, 2) := by decide +kernel
theorem dX11_valueBy_54 : decode cX11_valueBy 54 = .ok (.aload_n 1, 1) := by decide +kernel
theorem dX11_valueBy_55 : decode cX11_valueBy 55 = .ok (.invokevirtual 245, 3) := by decide +kernel
theorem dX11_valueBy_58 : decode cX11_valueBy 58 = .ok (.aload 6, 2) := by decide +kernel
theorem dX11_valueBy_60 : decode cX11_valueBy 60 = .ok (.iload_n 2, 1) := by decide +kernel
theorem dX11_valueBy_61 : decode cX11_valueBy 61 = .ok (.aload_n 3, 1) := by decide +kernel
theorem dX11_valueBy_62 : decode cX11_valueBy 62 = .ok (.invokevirtual 250, 3) := by decide +kernel
theorem dX11_valueBy_65 : decode cX11_valueBy 65 = .ok (.ifCond .eq 5, 3) := by decide +kernel
theorem dX11_valueBy_68 : decode cX11_valueBy 68 = .ok (.iconst 1, 1) := by decide +kernel
theorem dX11_valueBy_69 : decode cX11_valueBy 69 = .ok (.ireturn, 1) := by decide +kernel
theorem dX11_valueBy_70 : decode cX11_valueBy 70 = .ok (.aload_n 0, 1) := by decide +kernel
theorem dX11_valueBy_71 : decode cX11_valueBy 71 = .ok (.aload 6, 2) := by decide +kernel
theorem dX11_valueBy_73 : decode cX11_valueBy 73 = .ok (.iconst 1, 1) := by decide +kernel
theorem dX11_valueBy_74 : decode cX11_valueBy 74 = .ok (.iload_n 2, 1) := by decide +kernel
theorem dX11_valueBy_75 : decode cX11_valueBy 75 = .ok (.isub, 1) := by decide +kernel
theorem dX11_valueBy_76 : decode cX11_valueBy 76 = .ok (.iload 4, 2) := by decide +kernel
theorem dX11_valueBy_78 : decode cX11_valueBy 78 = .ok (.iconst 1, 1) := by decide +kernel
theorem dX11_valueBy_79 : decode cX11_valueBy 79 = .ok (.isub, 1) := by decide +kernel
theorem dX11_valueBy_80 : decode cX11_valueBy 80 = .ok (.iconst 1, 1) := by decide +kernel
theorem dX11_valueBy_81 : decode cX11_valueBy 81 = .ok (.iload 5, 2) := by decide +kernel
theorem dX11_valueBy_83 : decode cX11_valueBy 83 = .ok (.ineg, 1) := by decide +kernel
theorem dX11_valueBy_84 : decode cX11_valueBy 84 = .ok (.invokestatic 313, 3) := by decide +kernel
theorem dX11_valueBy_87 : decode cX11_valueBy 87 = .ok (.invokevirtual 206, 3) := by decide +kernel
theorem dX11_valueBy_90 : decode cX11_valueBy 90 = .ok (.ineg, 1) := by decide +kernel
theorem dX11_valueBy_91 : decode cX11_valueBy 91 = .ok (.ireturn, 1) := by decide +kernel
theorem dX11_badness_0 : decode cX11_badness 0 = .ok (.aload_n 0, 1) := by decide +kernel
theorem dX11_badness_1 : decode cX11_badness 1 = .ok (.getfield 97, 3) := by decide +kernel
theorem dX11_badness_4 : decode cX11_badness 4 = .ok (.iload_n 1, 1) := by decide +kernel
theorem dX11_badness_5 : decode cX11_badness 5 = .ok (.invokevirtual 119, 3) := by decide +kernel
theorem dX11_badness_8 : decode cX11_badness 8 = .ok (.astore_n 3, 1) := by decide +kernel
theorem dX11_badness_9 : decode cX11_badness 9 = .ok (.aload_n 0, 1) := by decide +kernel
theorem dX11_badness_10 : decode cX11_badness 10 = .ok (.getfield 97, 3) := by decide +kernel
theorem dX11_badness_13 : decode cX11_badness 13 = .ok (.iconst 1, 1) := by decide +kernel
theorem dX11_badness_14 : decode cX11_badness 14 = .ok (.iload_n 1, 1) := by decide +kernel
theorem dX11_badness_15 : decode cX11_badness 15 = .ok (.isub, 1) := by decide +kernel
theorem dX11_badness_16 : decode cX11_badness 16 = .ok (.invokevirtual 119, 3) := by decide +kernel
theorem dX11_badness_19 : decode cX11_badness 19 = .ok (.astore 4, 2) := by decide +kernel
theorem dX11_badness_21 : decode cX11_badness 21 = .ok (.iconst 0, 1) := by decide +kernel
theorem dX11_badness_22 : decode cX11_badness 22 = .ok (.istore 5, 2) := by decide +kernel
theorem dX11_badness_24 : decode cX11_badness 24 = .ok (.iconst 0, 1) := by decide +kernel
theorem dX11_badness_25 : decode cX11_badness 25 = .ok (.istore 6, 2) := by decide +kernel
theorem dX11_badness_27 : decode cX11_badness 27 = .ok (.iload 6, 2) := by decide +kernel
theorem dX11_badness_29 : decode cX11_badness 29 = .ok (.aload_n 0, 1) := by decide +kernel
theorem dX11_badness_30 : decode cX11_badness 30 = .ok (.getfield 32, 3) := by decide +kernel
theorem dX11_badness_33 : decode cX11_badness 33 = .ok (.if_icmp .ge 78, 3) := by decide +kernel
theorem dX11_badness_36 : decode cX11_badness 36 = .ok (.aload_n 0, 1) := by decide +kernel
theorem dX11_badness_37 : decode cX11_badness 37 = .ok (.iload 6, 2) := by decide +kernel
theorem dX11_badness_39 : decode cX11_badness 39 = .ok (.invokevirtual 129, 3) := by decide +kernel
theorem dX11_badness_42 : decode cX11_badness 42 = .ok (.astore 7, 2) := by decide +kernel
theorem dX11_badness_44 : decode cX11_badness 44 = .ok (.aload 7, 2) := by decide +kernel
theorem dX11_badness_46 : decode cX11_badness 46 = .ok (.ifnull 59, 3) := by decide +kernel
theorem dX11_badness_49 : decode cX11_badness 49 = .ok (.aload 7, 2) := by decide +kernel
theorem dX11_badness_51 : decode cX11_badness 51 = .ok (.aload 4, 2) := by decide +kernel
theorem dX11_badness_53 : decode cX11_badness 53 = .ok (.getfield 150, 3) := by decide +kernel
theorem dX11_badness_56 : decode cX11_badness 56 = .ok (.invokevirtual 153, 3) := by decide +kernel
theorem dX11_badness_59 : decode cX11_badness 59 = .ok (.istore 8, 2) := by decide +kernel
theorem dX11_badness_61 : decode cX11_badness 61 = .ok (.aload_n 0, 1) := by decide +kernel
theorem dX11_badness_62 : decode cX11_badness 62 = .ok (.getfield 97, 3) := by decide +kernel
theorem dX11_badness_65 : decode cX11_badness 65 = .ok (.aload_n 3, 1) := by decide +kernel
theorem dX11_badness_66 : decode cX11_badness 66 = .ok (.iload_n 2, 1) := by decide +kernel
theorem dX11_badness_67 : decode cX11_badness 67 = .ok (.iload 8, 2) := by decide +kernel
theorem dX11_badness_69 : decode cX11_badness 69 = .ok (.invokevirtual 166, 3) := by decide +kernel
theorem dX11_badness_72 : decode cX11_badness 72 = .ok (.aload_n 0, 1) := by decide +kernel
theorem dX11_badness_73 : decode cX11_badness 73 = .ok (.getfield 97, 3) := by decide +kernel
theorem dX11_badness_76 : decode cX11_badness 76 = .ok (.aload 4, 2) := by decide +kernel
theorem dX11_badness_78 : decode cX11_badness 78 = .ok (.aload 7, 2) := by decide +kernel
theorem dX11_badness_80 : decode cX11_badness 80 = .ok (.invokevirtual 156, 3) := by decide +kernel
theorem dX11_badness_83 : decode cX11_badness 83 = .ok (.isub, 1) := by decide +kernel
theorem dX11_badness_84 : decode cX11_badness 84 = .ok (.istore 9, 2) := by decide +kernel
theorem dX11_badness_86 : decode cX11_badness 86 = .ok (.iload 6, 2) := by decide +kernel
theorem dX11_badness_88 : decode cX11_badness 88 = .ok (.ifCond .ne 8, 3) := by decide +kernel
theorem dX11_badness_91 : decode cX11_badness 91 = .ok (.iload 9, 2) := by decide +kernel
theorem dX11_badness_93 : decode cX11_badness 93 = .ok (.goto 10, 3) := by decide +kernel
theorem dX11_badness_96 : decode cX11_badness 96 = .ok (.iload 5, 2) := by decide +kernel
theorem dX11_badness_98 : decode cX11_badness 98 = .ok (.iload 9, 2) := by decide +kernel
theorem dX11_badness_100 : decode cX11_badness 100 = .ok (.invokestatic 310, 3) := by decide +kernel
theorem dX11_badness_103 : decode cX11_badness 103 = .ok (.istore 5, 2) := by decide +kernel
theorem dX11_badness_105 : decode cX11_badness 105 = .ok (.iinc 6 1, 3) := by decide +kernel
theorem dX11_badness_108 : decode cX11_badness 108 = .ok (.goto (-81), 3) := by decide +kernel
theorem dX11_badness_111 : decode cX11_badness 111 = .ok (.iload 5, 2) := by decide +kernel
theorem dX11_badness_113 : decode cX11_badness 113 = .ok (.ireturn, 1) := by decide +kernel
theorem dX11_rowsBy_0 : decode cX11_rowsBy 0 = .ok (.iload_n 3, 1) := by decide +kernel
theorem dX11_rowsBy_1 : decode cX11_rowsBy 1 = .ok (.aload_n 2, 1) := by decide +kernel
theorem dX11_rowsBy_2 : decode cX11_rowsBy 2 = .ok (.getfield 225, 3) := by decide +kernel
theorem dX11_rowsBy_5 : decode cX11_rowsBy 5 = .ok (.if_icmp .ge 12, 3) := by decide +kernel
theorem dX11_rowsBy_8 : decode cX11_rowsBy 8 = .ok (.iload_n 3, 1) := by decide +kernel
theorem dX11_rowsBy_9 : decode cX11_rowsBy 9 = .ok (.aload_n 0, 1) := by decide +kernel
theorem dX11_rowsBy_10 : decode cX11_rowsBy 10 = .ok (.getfield 37, 3) := by decide +kernel
theorem dX11_rowsBy_13 : decode cX11_rowsBy 13 = .ok (.arraylength, 1) := by decide +kernel
theorem dX11_rowsBy_14 : decode cX11_rowsBy 14 = .ok (.if_icmp .lt 19, 3) := by decide +kernel
theorem dX11_rowsBy_17 : decode cX11_rowsBy 17 = .ok (.aload_n 0, 1) := by decide +kernel
theorem dX11_rowsBy_18 : decode cX11_rowsBy 18 = .ok (.getfield 75, 3) := by decide +kernel
theorem dX11_rowsBy_21 : decode cX11_rowsBy 21 = .ok (.iconst (-1), 1) := by decide +kernel
theorem dX11_rowsBy_22 : decode cX11_rowsBy 22 = .ok (.if_icmp .ne 9, 3) := by decide +kernel
theorem dX11_rowsBy_25 : decode cX11_rowsBy 25 = .ok (.aload_n 0, 1) := by decide +kernel
theorem dX11_rowsBy_26 : decode cX11_rowsBy 26 = .ok (.iload 4, 2) := by decide +kernel
theorem dX11_rowsBy_28 : decode cX11_rowsBy 28 = .ok (.putfield 75, 3) := by decide +kernel
theorem dX11_rowsBy_31 : decode cX11_rowsBy 31 = .ok (.iconst 1, 1) := by decide +kernel
theorem dX11_rowsBy_32 : decode cX11_rowsBy 32 = .ok (.ireturn, 1) := by decide +kernel
theorem dX11_rowsBy_33 : decode cX11_rowsBy 33 = .ok (.iload_n 3, 1) := by decide +kernel
theorem dX11_rowsBy_34 : decode cX11_rowsBy 34 = .ok (.iconst 2, 1) := by decide +kernel
theorem dX11_rowsBy_35 : decode cX11_rowsBy 35 = .ok (.irem, 1) := by decide +kernel
theorem dX11_rowsBy_36 : decode cX11_rowsBy 36 = .ok (.istore 5, 2) := by decide +kernel
theorem dX11_rowsBy_38 : decode cX11_rowsBy 38 = .ok (.iload_n 3, 1) := by decide +kernel
theorem dX11_rowsBy_39 : decode cX11_rowsBy 39 = .ok (.aload_n 2, 1) := by decide +kernel
theorem dX11_rowsBy_40 : decode cX11_rowsBy 40 = .ok (.getfield 225, 3) := by decide +kernel
theorem dX11_rowsBy_43 : decode cX11_rowsBy 43 = .ok (.iconst 1, 1) := by decide +kernel
theorem dX11_rowsBy_44 : decode cX11_rowsBy 44 = .ok (.isub, 1) := by decide +kernel
theorem dX11_rowsBy_45 : decode cX11_rowsBy 45 = .ok (.if_icmp .ne 7, 3) := by decide +kernel
theorem dX11_rowsBy_48 : decode cX11_rowsBy 48 = .ok (.iconst 1, 1) := by decide +kernel
theorem dX11_rowsBy_49 : decode cX11_rowsBy 49 = .ok (.goto 4, 3) := by decide +kernel
theorem dX11_rowsBy_52 : decode cX11_rowsBy 52 = .ok (.iconst 0, 1) := by decide +kernel
theorem dX11_rowsBy_53 : decode cX11_rowsBy 53 = .ok (.istore 6, 2) := by decide +kernel
theorem dX11_rowsBy_55 : decode cX11_rowsBy 55 = .ok (.aload_n 0, 1) := by decide +kernel
theorem dX11_rowsBy_56 : decode cX11_rowsBy 56 = .ok (.getfield 37, 3) := by decide +kernel
theorem dX11_rowsBy_59 : decode cX11_rowsBy 59 = .ok (.iload_n 3, 1) := by decide +kernel
theorem dX11_rowsBy_60 : decode cX11_rowsBy 60 = .ok (.aaload, 1) := by decide +kernel
theorem dX11_rowsBy_61 : decode cX11_rowsBy 61 = .ok (.astore 7, 2) := by decide +kernel
theorem dX11_rowsBy_63 : decode cX11_rowsBy 63 = .ok (.iconst 0, 1) := by decide +kernel
theorem dX11_rowsBy_64 : decode cX11_rowsBy 64 = .ok (.istore 8, 2) := by decide +kernel
theorem dX11_rowsBy_66 : decode cX11_rowsBy 66 = .ok (.iconst 0, 1) := by decide +kernel
theorem dX11_rowsBy_67 : decode cX11_rowsBy 67 = .ok (.istore 9, 2) := by decide +kernel
theorem dX11_rowsBy_69 : decode cX11_rowsBy 69 = .ok (.iload 9, 2) := by decide +kernel
theorem dX11_rowsBy_71 : decode cX11_rowsBy 71 = .ok (.aload_n 0, 1) := by decide +kernel
theorem dX11_rowsBy_72 : decode cX11_rowsBy 72 = .ok (.getfield 32, 3) := by decide +kernel
theorem dX11_rowsBy_75 : decode cX11_rowsBy 75 = .ok (.if_icmp .ge 95, 3) := by decide +kernel
theorem dX11_rowsBy_78 : decode cX11_rowsBy 78 = .ok (.aload_n 0, 1) := by decide +kernel
theorem dX11_rowsBy_79 : decode cX11_rowsBy 79 = .ok (.iload 9, 2) := by decide +kernel
theorem dX11_rowsBy_81 : decode cX11_rowsBy 81 = .ok (.invokevirtual 129, 3) := by decide +kernel
theorem dX11_rowsBy_84 : decode cX11_rowsBy 84 = .ok (.astore 10, 2) := by decide +kernel
theorem dX11_rowsBy_86 : decode cX11_rowsBy 86 = .ok (.aload 10, 2) := by decide +kernel
theorem dX11_rowsBy_88 : decode cX11_rowsBy 88 = .ok (.ifnull 76, 3) := by decide +kernel
theorem dX11_rowsBy_91 : decode cX11_rowsBy 91 = .ok (.aload 10, 2) := by decide +kernel
theorem dX11_rowsBy_93 : decode cX11_rowsBy 93 = .ok (.aload_n 1, 1) := by decide +kernel
theorem dX11_rowsBy_94 : decode cX11_rowsBy 94 = .ok (.iload 5, 2) := by decide +kernel
theorem dX11_rowsBy_96 : decode cX11_rowsBy 96 = .ok (.invokevirtual 119, 3) := by decide +kernel
theorem dX11_rowsBy_99 : decode cX11_rowsBy 99 = .ok (.getfield 150, 3) := by decide +kernel
theorem dX11_rowsBy_102 : decode cX11_rowsBy 102 = .ok (.invokevirtual 153, 3) := by decide +kernel
theorem dX11_rowsBy_105 : decode cX11_rowsBy 105 = .ok (.aload_n 2, 1) := by decide +kernel
theorem dX11_rowsBy_106 : decode cX11_rowsBy 106 = .ok (.iload_n 3, 1) := by decide +kernel
theorem dX11_rowsBy_107 : decode cX11_rowsBy 107 = .ok (.invokevirtual 277, 3) := by decide +kernel
theorem dX11_rowsBy_110 : decode cX11_rowsBy 110 = .ok (.if_icmp .eq 6, 3) := by decide +kernel
theorem dX11_rowsBy_113 : decode cX11_rowsBy 113 = .ok (.goto 51, 3) := by decide +kernel
theorem dX11_rowsBy_116 : decode cX11_rowsBy 116 = .ok (.aload 7, 2) := by decide +kernel
theorem dX11_rowsBy_118 : decode cX11_rowsBy 118 = .ok (.aload_n 1, 1) := by decide +kernel
theorem dX11_rowsBy_119 : decode cX11_rowsBy 119 = .ok (.invokevirtual 245, 3) := by decide +kernel
theorem dX11_rowsBy_122 : decode cX11_rowsBy 122 = .ok (.aload 7, 2) := by decide +kernel
theorem dX11_rowsBy_124 : decode cX11_rowsBy 124 = .ok (.iload 5, 2) := by decide +kernel
theorem dX11_rowsBy_126 : decode cX11_rowsBy 126 = .ok (.aload 10, 2) := by decide +kernel
theorem dX11_rowsBy_128 : decode cX11_rowsBy 128 = .ok (.invokevirtual 250, 3) := by decide +kernel
theorem dX11_rowsBy_131 : decode cX11_rowsBy 131 = .ok (.ifCond .eq 8, 3) := by decide +kernel
theorem dX11_rowsBy_134 : decode cX11_rowsBy 134 = .ok (.iload 6, 2) := by decide +kernel
theorem dX11_rowsBy_136 : decode cX11_rowsBy 136 = .ok (.ifCond .eq 28, 3) := by decide +kernel
theorem dX11_rowsBy_139 : decode cX11_rowsBy 139 = .ok (.iload 8, 2) := by decide +kernel
theorem dX11_rowsBy_141 : decode cX11_rowsBy 141 = .ok (.aload_n 0, 1) := by decide +kernel
theorem dX11_rowsBy_142 : decode cX11_rowsBy 142 = .ok (.aload 7, 2) := by decide +kernel
theorem dX11_rowsBy_144 : decode cX11_rowsBy 144 = .ok (.aload_n 2, 1) := by decide +kernel
theorem dX11_rowsBy_145 : decode cX11_rowsBy 145 = .ok (.iload_n 3, 1) := by decide +kernel
theorem dX11_rowsBy_146 : decode cX11_rowsBy 146 = .ok (.iconst 1, 1) := by decide +kernel
theorem dX11_rowsBy_147 : decode cX11_rowsBy 147 = .ok (.iadd, 1) := by decide +kernel
theorem dX11_rowsBy_148 : decode cX11_rowsBy 148 = .ok (.iload 4, 2) := by decide +kernel
theorem dX11_rowsBy_150 : decode cX11_rowsBy 150 = .ok (.bipush 10, 2) := by decide +kernel
theorem dX11_rowsBy_152 : decode cX11_rowsBy 152 = .ok (.imul, 1) := by decide +kernel
theorem dX11_rowsBy_153 : decode cX11_rowsBy 153 = .ok (.iload 9, 2) := by decide +kernel
theorem dX11_rowsBy_155 : decode cX11_rowsBy 155 = .ok (.iadd, 1) := by decide +kernel
theorem dX11_rowsBy_156 : decode cX11_rowsBy 156 = .ok (.iconst 1, 1) := by decide +kernel
theorem dX11_rowsBy_157 : decode cX11_rowsBy 157 = .ok (.iadd, 1) := by decide +kernel
theorem dX11_rowsBy_158 : decode cX11_rowsBy 158 = .ok (.invokevirtual 226, 3) := by decide +kernel
theorem dX11_rowsBy_161 : decode cX11_rowsBy 161 = .ok (.iadd, 1) := by decide +kernel
theorem dX11_rowsBy_162 : decode cX11_rowsBy 162 = .ok (.istore 8, 2) := by decide +kernel
theorem dX11_rowsBy_164 : decode cX11_rowsBy 164 = .ok (.iinc 9 1, 3) := by decide +kernel
theorem dX11_rowsBy_167 : decode cX11_rowsBy 167 = .ok (.goto (-98), 3) := by decide +kernel
theorem dX11_rowsBy_170 : decode cX11_rowsBy 170 = .ok (.iload 8, 2) := by decide +kernel
theorem dX11_rowsBy_172 : decode cX11_rowsBy 172 = .ok (.ireturn, 1) := by decide +kernel
theorem dX11_quicksBy_0 : decode cX11_quicksBy 0 = .ok (.iconst 0, 1) := by decide +kernel
theorem dX11_quicksBy_1 : decode cX11_quicksBy 1 = .ok (.istore 4, 2) := by decide +kernel
theorem dX11_quicksBy_3 : decode cX11_quicksBy 3 = .ok (.iconst 0, 1) := by decide +kernel
theorem dX11_quicksBy_4 : decode cX11_quicksBy 4 = .ok (.istore 5, 2) := by decide +kernel
theorem dX11_quicksBy_6 : decode cX11_quicksBy 6 = .ok (.iload 5, 2) := by decide +kernel
theorem dX11_quicksBy_8 : decode cX11_quicksBy 8 = .ok (.bipush 9, 2) := by decide +kernel
theorem dX11_quicksBy_10 : decode cX11_quicksBy 10 = .ok (.if_icmp .gt 55, 3) := by decide +kernel
theorem dX11_quicksBy_13 : decode cX11_quicksBy 13 = .ok (.aload_n 0, 1) := by decide +kernel
theorem dX11_quicksBy_14 : decode cX11_quicksBy 14 = .ok (.getfield 101, 3) := by decide +kernel
theorem dX11_quicksBy_17 : decode cX11_quicksBy 17 = .ok (.aload_n 0, 1) := by decide +kernel
theorem dX11_quicksBy_18 : decode cX11_quicksBy 18 = .ok (.getfield 97, 3) := by decide +kernel
theorem dX11_quicksBy_21 : decode cX11_quicksBy 21 = .ok (.invokevirtual 245, 3) := by decide +kernel
theorem dX11_quicksBy_24 : decode cX11_quicksBy 24 = .ok (.aload_n 0, 1) := by decide +kernel
theorem dX11_quicksBy_25 : decode cX11_quicksBy 25 = .ok (.getfield 101, 3) := by decide +kernel
theorem dX11_quicksBy_28 : decode cX11_quicksBy 28 = .ok (.iload_n 2, 1) := by decide +kernel
theorem dX11_quicksBy_29 : decode cX11_quicksBy 29 = .ok (.invokevirtual 119, 3) := by decide +kernel
theorem dX11_quicksBy_32 : decode cX11_quicksBy 32 = .ok (.iload 5, 2) := by decide +kernel
theorem dX11_quicksBy_34 : decode cX11_quicksBy 34 = .ok (.putfield 331, 3) := by decide +kernel
theorem dX11_quicksBy_37 : decode cX11_quicksBy 37 = .ok (.aload_n 0, 1) := by decide +kernel
theorem dX11_quicksBy_38 : decode cX11_quicksBy 38 = .ok (.aload_n 0, 1) := by decide +kernel
theorem dX11_quicksBy_39 : decode cX11_quicksBy 39 = .ok (.getfield 101, 3) := by decide +kernel
theorem dX11_quicksBy_42 : decode cX11_quicksBy 42 = .ok (.aload_n 1, 1) := by decide +kernel
theorem dX11_quicksBy_43 : decode cX11_quicksBy 43 = .ok (.invokevirtual 200, 3) := by decide +kernel
theorem dX11_quicksBy_46 : decode cX11_quicksBy 46 = .ok (.iload_n 3, 1) := by decide +kernel
theorem dX11_quicksBy_47 : decode cX11_quicksBy 47 = .ok (.if_icmp .ne 12, 3) := by decide +kernel
theorem dX11_quicksBy_50 : decode cX11_quicksBy 50 = .ok (.iload 4, 2) := by decide +kernel
theorem dX11_quicksBy_52 : decode cX11_quicksBy 52 = .ok (.iconst 1, 1) := by decide +kernel
theorem dX11_quicksBy_53 : decode cX11_quicksBy 53 = .ok (.iload 5, 2) := by decide +kernel
theorem dX11_quicksBy_55 : decode cX11_quicksBy 55 = .ok (.ishl, 1) := by decide +kernel
theorem dX11_quicksBy_56 : decode cX11_quicksBy 56 = .ok (.ior, 1) := by decide +kernel
theorem dX11_quicksBy_57 : decode cX11_quicksBy 57 = .ok (.istore 4, 2) := by decide +kernel
theorem dX11_quicksBy_59 : decode cX11_quicksBy 59 = .ok (.iinc 5 1, 3) := by decide +kernel
theorem dX11_quicksBy_62 : decode cX11_quicksBy 62 = .ok (.goto (-56), 3) := by decide +kernel
theorem dX11_quicksBy_65 : decode cX11_quicksBy 65 = .ok (.iload 4, 2) := by decide +kernel
theorem dX11_quicksBy_67 : decode cX11_quicksBy 67 = .ok (.ireturn, 1) := by decide +kernel
theorem dX11_rulesBy_0 : decode cX11_rulesBy 0 = .ok (.iconst 0, 1) := by decide +kernel
theorem dX11_rulesBy_1 : decode cX11_rulesBy 1 = .ok (.istore_n 3, 1) := by decide +kernel
theorem dX11_rulesBy_2 : decode cX11_rulesBy 2 = .ok (.iconst 0, 1) := by decide +kernel
theorem dX11_rulesBy_3 : decode cX11_rulesBy 3 = .ok (.istore 4, 2) := by decide +kernel
theorem dX11_rulesBy_5 : decode cX11_rulesBy 5 = .ok (.iload 4, 2) := by decide +kernel
theorem dX11_rulesBy_7 : decode cX11_rulesBy 7 = .ok (.aload_n 0, 1) := by decide +kernel
theorem dX11_rulesBy_8 : decode cX11_rulesBy 8 = .ok (.getfield 22, 3) := by decide +kernel
theorem dX11_rulesBy_11 : decode cX11_rulesBy 11 = .ok (.if_icmp .ge 64, 3) := by decide +kernel
theorem dX11_rulesBy_14 : decode cX11_rulesBy 14 = .ok (.iload 4, 2) := by decide +kernel
theorem dX11_rulesBy_16 : decode cX11_rulesBy 16 = .ok (.aload_n 0, 1) := by decide +kernel
theorem dX11_rulesBy_17 : decode cX11_rulesBy 17 = .ok (.getfield 11, 3) := by decide +kernel
theorem dX11_rulesBy_20 : decode cX11_rulesBy 20 = .ok (.arraylength, 1) := by decide +kernel
theorem dX11_rulesBy_21 : decode cX11_rulesBy 21 = .ok (.if_icmp .ge 54, 3) := by decide +kernel
theorem dX11_rulesBy_24 : decode cX11_rulesBy 24 = .ok (.aload_n 0, 1) := by decide +kernel
theorem dX11_rulesBy_25 : decode cX11_rulesBy 25 = .ok (.getfield 101, 3) := by decide +kernel
theorem dX11_rulesBy_28 : decode cX11_rulesBy 28 = .ok (.aload_n 0, 1) := by decide +kernel
theorem dX11_rulesBy_29 : decode cX11_rulesBy 29 = .ok (.getfield 97, 3) := by decide +kernel
theorem dX11_rulesBy_32 : decode cX11_rulesBy 32 = .ok (.invokevirtual 245, 3) := by decide +kernel
theorem dX11_rulesBy_35 : decode cX11_rulesBy 35 = .ok (.aload_n 0, 1) := by decide +kernel
theorem dX11_rulesBy_36 : decode cX11_rulesBy 36 = .ok (.getfield 101, 3) := by decide +kernel
theorem dX11_rulesBy_39 : decode cX11_rulesBy 39 = .ok (.aload_n 0, 1) := by decide +kernel
theorem dX11_rulesBy_40 : decode cX11_rulesBy 40 = .ok (.getfield 11, 3) := by decide +kernel
theorem dX11_rulesBy_43 : decode cX11_rulesBy 43 = .ok (.iload 4, 2) := by decide +kernel
theorem dX11_rulesBy_45 : decode cX11_rulesBy 45 = .ok (.aaload, 1) := by decide +kernel
theorem dX11_rulesBy_46 : decode cX11_rulesBy 46 = .ok (.putfield 173, 3) := by decide +kernel
theorem dX11_rulesBy_49 : decode cX11_rulesBy 49 = .ok (.aload_n 0, 1) := by decide +kernel
theorem dX11_rulesBy_50 : decode cX11_rulesBy 50 = .ok (.aload_n 0, 1) := by decide +kernel
theorem dX11_rulesBy_51 : decode cX11_rulesBy 51 = .ok (.getfield 101, 3) := by decide +kernel
theorem dX11_rulesBy_54 : decode cX11_rulesBy 54 = .ok (.aload_n 1, 1) := by decide +kernel
theorem dX11_rulesBy_55 : decode cX11_rulesBy 55 = .ok (.invokevirtual 200, 3) := by decide +kernel
theorem dX11_rulesBy_58 : decode cX11_rulesBy 58 = .ok (.iload_n 2, 1) := by decide +kernel
theorem dX11_rulesBy_59 : decode cX11_rulesBy 59 = .ok (.if_icmp .ne 10, 3) := by decide +kernel
theorem dX11_rulesBy_62 : decode cX11_rulesBy 62 = .ok (.iload_n 3, 1) := by decide +kernel
theorem dX11_rulesBy_63 : decode cX11_rulesBy 63 = .ok (.iconst 1, 1) := by decide +kernel
theorem dX11_rulesBy_64 : decode cX11_rulesBy 64 = .ok (.iload 4, 2) := by decide +kernel
theorem dX11_rulesBy_66 : decode cX11_rulesBy 66 = .ok (.ishl, 1) := by decide +kernel
theorem dX11_rulesBy_67 : decode cX11_rulesBy 67 = .ok (.ior, 1) := by decide +kernel
theorem dX11_rulesBy_68 : decode cX11_rulesBy 68 = .ok (.istore_n 3, 1) := by decide +kernel
theorem dX11_rulesBy_69 : decode cX11_rulesBy 69 = .ok (.iinc 4 1, 3) := by decide +kernel
theorem dX11_rulesBy_72 : decode cX11_rulesBy 72 = .ok (.goto (-67), 3) := by decide +kernel
theorem dX11_rulesBy_75 : decode cX11_rulesBy 75 = .ok (.iload_n 3, 1) := by decide +kernel
theorem dX11_rulesBy_76 : decode cX11_rulesBy 76 = .ok (.ireturn, 1) := by decide +kernel
theorem dX12_in_0 : decode cX12_in 0 = .ok (.lload_n 0, 1) := by decide +kernel
theorem dX12_in_1 : decode cX12_in 1 = .ok (.lload_n 2, 1) := by decide +kernel
theorem dX12_in_2 : decode cX12_in 2 = .ok (.lcmp, 1) := by decide +kernel
theorem dX12_in_3 : decode cX12_in 3 = .ok (.ifCond .lt 14, 3) := by decide +kernel
theorem dX12_in_6 : decode cX12_in 6 = .ok (.lload_n 0, 1) := by decide +kernel
theorem dX12_in_7 : decode cX12_in 7 = .ok (.lload 4, 2) := by decide +kernel
theorem dX12_in_9 : decode cX12_in 9 = .ok (.lcmp, 1) := by decide +kernel
theorem dX12_in_10 : decode cX12_in 10 = .ok (.ifCond .gt 7, 3) := by decide +kernel
theorem dX12_in_13 : decode cX12_in 13 = .ok (.iconst 1, 1) := by decide +kernel
theorem dX12_in_14 : decode cX12_in 14 = .ok (.goto 4, 3) := by decide +kernel
theorem dX12_in_17 : decode cX12_in 17 = .ok (.iconst 0, 1) := by decide +kernel
theorem dX12_in_18 : decode cX12_in 18 = .ok (.ireturn, 1) := by decide +kernel
theorem dX12_within_0 : decode cX12_within 0 = .ok (.iload_n 0, 1) := by decide +kernel
theorem dX12_within_1 : decode cX12_within 1 = .ok (.iload_n 1, 1) := by decide +kernel
theorem dX12_within_2 : decode cX12_within 2 = .ok (.if_icmp .ge 7, 3) := by decide +kernel
theorem dX12_within_5 : decode cX12_within 5 = .ok (.iload_n 1, 1) := by decide +kernel
theorem dX12_within_6 : decode cX12_within 6 = .ok (.goto 13, 3) := by decide +kernel
theorem dX12_within_9 : decode cX12_within 9 = .ok (.iload_n 0, 1) := by decide +kernel
theorem dX12_within_10 : decode cX12_within 10 = .ok (.iload_n 2, 1) := by decide +kernel
theorem dX12_within_11 : decode cX12_within 11 = .ok (.if_icmp .le 7, 3) := by decide +kernel
theorem dX12_within_14 : decode cX12_within 14 = .ok (.iload_n 2, 1) := by decide +kernel
theorem dX12_within_15 : decode cX12_within 15 = .ok (.goto 4, 3) := by decide +kernel
theorem dX12_within_18 : decode cX12_within 18 = .ok (.iload_n 0, 1) := by decide +kernel
theorem dX12_within_19 : decode cX12_within 19 = .ok (.ireturn, 1) := by decide +kernel
theorem dX12_init_0 : decode cX12_init 0 = .ok (.aload_n 0, 1) := by decide +kernel
theorem dX12_init_1 : decode cX12_init 1 = .ok (.invokespecial 7, 3) := by decide +kernel
theorem dX12_init_4 : decode cX12_init 4 = .ok (.aload_n 0, 1) := by decide +kernel
theorem dX12_init_5 : decode cX12_init 5 = .ok (.sipush 960, 3) := by decide +kernel
theorem dX12_init_8 : decode cX12_init 8 = .ok (.newarray .int, 2) := by decide +kernel
theorem dX12_init_10 : decode cX12_init 10 = .ok (.putfield 13, 3) := by decide +kernel
theorem dX12_init_13 : decode cX12_init 13 = .ok (.aload_n 0, 1) := by decide +kernel
theorem dX12_init_14 : decode cX12_init 14 = .ok (.bipush 6, 2) := by decide +kernel
theorem dX12_init_16 : decode cX12_init 16 = .ok (.newarray .int, 2) := by decide +kernel
theorem dX12_init_18 : decode cX12_init 18 = .ok (.putfield 17, 3) := by decide +kernel
theorem dX12_init_21 : decode cX12_init 21 = .ok (.aload_n 0, 1) := by decide +kernel
theorem dX12_init_22 : decode cX12_init 22 = .ok (.sipush 160, 3) := by decide +kernel
theorem dX12_init_25 : decode cX12_init 25 = .ok (.newarray .int, 2) := by decide +kernel
theorem dX12_init_27 : decode cX12_init 27 = .ok (.putfield 20, 3) := by decide +kernel
theorem dX12_init_30 : decode cX12_init 30 = .ok (.aload_n 0, 1) := by decide +kernel
theorem dX12_init_31 : decode cX12_init 31 = .ok (.iconst 2, 1) := by decide +kernel
theorem dX12_init_32 : decode cX12_init 32 = .ok (.newarray .int, 2) := by decide +kernel
theorem dX12_init_34 : decode cX12_init 34 = .ok (.putfield 23, 3) := by decide +kernel
theorem dX12_init_37 : decode cX12_init 37 = .ok (.aload_n 0, 1) := by decide +kernel
theorem dX12_init_38 : decode cX12_init 38 = .ok (.iconst 2, 1) := by decide +kernel
theorem dX12_init_39 : decode cX12_init 39 = .ok (.newarray .int, 2) := by decide +kernel
theorem dX12_init_41 : decode cX12_init 41 = .ok (.putfield 26, 3) := by decide +kernel
theorem dX12_init_44 : decode cX12_init 44 = .ok (.aload_n 0, 1) := by decide +kernel
theorem dX12_init_45 : decode cX12_init 45 = .ok (.iconst 2, 1) := by decide +kernel
theorem dX12_init_46 : decode cX12_init 46 = .ok (.newarray .int, 2) := by decide +kernel
theorem dX12_init_48 : decode cX12_init 48 = .ok (.putfield 29, 3) := by decide +kernel
theorem dX12_init_51 : decode cX12_init 51 = .ok (.aload_n 0, 1) := by decide +kernel
theorem dX12_init_52 : decode cX12_init 52 = .ok (.iconst 2, 1) := by decide +kernel
theorem dX12_init_53 : decode cX12_init 53 = .ok (.newarray .int, 2) := by decide +kernel
theorem dX12_init_55 : decode cX12_init 55 = .ok (.putfield 32, 3) := by decide +kernel
theorem dX12_init_58 : decode cX12_init 58 = .ok (.aload_n 0, 1) := by decide +kernel
theorem dX12_init_59 : decode cX12_init 59 = .ok (.bipush 6, 2) := by decide +kernel
theorem dX12_init_61 : decode cX12_init 61 = .ok (.newarray .int, 2) := by decide +kernel
theorem dX12_init_63 : decode cX12_init 63 = .ok (.putfield 35, 3) := by decide +kernel
theorem dX12_init_66 : decode cX12_init 66 = .ok (.aload_n 0, 1) := by decide +kernel
theorem dX12_init_67 : decode cX12_init 67 = .ok (.bipush 6, 2) := by decide +kernel
theorem dX12_init_69 : decode cX12_init 69 = .ok (.newarray .int, 2) := by decide +kernel
theorem dX12_init_71 : decode cX12_init 71 = .ok (.putfield 38, 3) := by decide +kernel
theorem dX12_init_74 : decode cX12_init 74 = .ok (.aload_n 0, 1) := by decide +kernel
theorem dX12_init_75 : decode cX12_init 75 = .ok (.bipush 6, 2) := by decide +kernel
theorem dX12_init_77 : decode cX12_init 77 = .ok (.newarray .int, 2) := by decide +kernel
theorem dX12_init_79 : decode cX12_init 79 = .ok (.putfield 41, 3) := by decide +kernel
theorem dX12_init_82 : decode cX12_init 82 = .ok (.aload_n 0, 1) := by decide +kernel
theorem dX12_init_83 : decode cX12_init 83 = .ok (.bipush 60, 2) := by decide +kernel
theorem dX12_init_85 : decode cX12_init 85 = .ok (.newarray .int, 2) := by decide +kernel
theorem dX12_init_87 : decode cX12_init 87 = .ok (.putfield 44, 3) := by decide +kernel
theorem dX12_init_90 : decode cX12_init 90 = .ok (.aload_n 0, 1) := by decide +kernel
theorem dX12_init_91 : decode cX12_init 91 = .ok (.bipush 40, 2) := by decide +kernel
theorem dX12_init_93 : decode cX12_init 93 = .ok (.newarray .int, 2) := by decide +kernel
theorem dX12_init_95 : decode cX12_init 95 = .ok (.putfield 47, 3) := by decide +kernel
theorem dX12_init_98 : decode cX12_init 98 = .ok (.aload_n 0, 1) := by decide +kernel
theorem dX12_init_99 : decode cX12_init 99 = .ok (.bipush 8, 2) := by decide +kernel
theorem dX12_init_101 : decode cX12_init 101 = .ok (.newarray .int, 2) := by decide +kernel
theorem dX12_init_103 : decode cX12_init 103 = .ok (.putfield 50, 3) := by decide +kernel
theorem dX12_init_106 : decode cX12_init 106 = .ok (.aload_n 0, 1) := by decide +kernel
theorem dX12_init_107 : decode cX12_init 107 = .ok (.bipush 12, 2) := by decide +kernel
theorem dX12_init_109 : decode cX12_init 109 = .ok (.newarray .int, 2) := by decide +kernel
theorem dX12_init_111 : decode cX12_init 111 = .ok (.putfield 53, 3) := by decide +kernel
theorem dX12_init_114 : decode cX12_init 114 = .ok (.aload_n 0, 1) := by decide +kernel
theorem dX12_init_115 : decode cX12_init 115 = .ok (.iconst (-1), 1) := by decide +kernel
theorem dX12_init_116 : decode cX12_init 116 = .ok (.putfield 56, 3) := by decide +kernel
theorem dX12_init_119 : decode cX12_init 119 = .ok (.aload_n 0, 1) := by decide +kernel
theorem dX12_init_120 : decode cX12_init 120 = .ok (.iconst 4, 1) := by decide +kernel
theorem dX12_init_121 : decode cX12_init 121 = .ok (.newarray .boolean, 2) := by decide +kernel
theorem dX12_init_123 : decode cX12_init 123 = .ok (.putfield 59, 3) := by decide +kernel
theorem dX12_init_126 : decode cX12_init 126 = .ok (.aload_n 0, 1) := by decide +kernel
theorem dX12_init_127 : decode cX12_init 127 = .ok (.iconst 4, 1) := by decide +kernel
theorem dX12_init_128 : decode cX12_init 128 = .ok (.newarray .int, 2) := by decide +kernel
theorem dX12_init_130 : decode cX12_init 130 = .ok (.putfield 63, 3) := by decide +kernel
theorem dX12_init_133 : decode cX12_init 133 = .ok (.aload_n 0, 1) := by decide +kernel
theorem dX12_init_134 : decode cX12_init 134 = .ok (.iconst 4, 1) := by decide +kernel
theorem dX12_init_135 : decode cX12_init 135 = .ok (.newarray .int, 2) := by decide +kernel
theorem dX12_init_137 : decode cX12_init 137 = .ok (.putfield 66, 3) := by decide +kernel
theorem dX12_init_140 : decode cX12_init 140 = .ok (.aload_n 0, 1) := by decide +kernel
theorem dX12_init_141 : decode cX12_init 141 = .ok (.sipush 160, 3) := by decide +kernel
theorem dX12_init_144 : decode cX12_init 144 = .ok (.newarray .int, 2) := by decide +kernel
theorem dX12_init_146 : decode cX12_init 146 = .ok (.putfield 69, 3) := by decide +kernel
theorem dX12_init_149 : decode cX12_init 149 = .ok (.iconst 0, 1) := by decide +kernel
theorem dX12_init_150 : decode cX12_init 150 = .ok (.istore_n 1, 1) := by decide +kernel
theorem dX12_init_151 : decode cX12_init 151 = .ok (.iload_n 1, 1) := by decide +kernel
theorem dX12_init_152 : decode cX12_init 152 = .ok (.iconst 2, 1) := by decide +kernel
theorem dX12_init_153 : decode cX12_init 153 = .ok (.if_icmp .ge 41, 3) := by decide +kernel
theorem dX12_init_156 : decode cX12_init 156 = .ok (.aload_n 0, 1) := by decide +kernel
theorem dX12_init_157 : decode cX12_init 157 = .ok (.getfield 23, 3) := by decide +kernel
theorem dX12_init_160 : decode cX12_init 160 = .ok (.iload_n 1, 1) := by decide +kernel
theorem dX12_init_161 : decode cX12_init 161 = .ok (.bipush 12, 2) := by decide +kernel
theorem dX12_init_163 : decode cX12_init 163 = .ok (.iastore, 1) := by decide +kernel
theorem dX12_init_164 : decode cX12_init 164 = .ok (.aload_n 0, 1) := by decide +kernel
theorem dX12_init_165 : decode cX12_init 165 = .ok (.getfield 26, 3) := by decide +kernel
theorem dX12_init_168 : decode cX12_init 168 = .ok (.iload_n 1, 1) := by decide +kernel
theorem dX12_init_169 : decode cX12_init 169 = .ok (.sipush 500, 3) := by decide +kernel
theorem dX12_init_172 : decode cX12_init 172 = .ok (.iastore, 1) := by decide +kernel
theorem dX12_init_173 : decode cX12_init 173 = .ok (.aload_n 0, 1) := by decide +kernel
theorem dX12_init_174 : decode cX12_init 174 = .ok (.getfield 29, 3) := by decide +kernel
theorem dX12_init_177 : decode cX12_init 177 = .ok (.iload_n 1, 1) := by decide +kernel
theorem dX12_init_178 : decode cX12_init 178 = .ok (.iconst 5, 1) := by decide +kernel
theorem dX12_init_179 : decode cX12_init 179 = .ok (.iastore, 1) := by decide +kernel
theorem dX12_init_180 : decode cX12_init 180 = .ok (.aload_n 0, 1) := by decide +kernel
theorem dX12_init_181 : decode cX12_init 181 = .ok (.getfield 32, 3) := by decide +kernel
theorem dX12_init_184 : decode cX12_init 184 = .ok (.iload_n 1, 1) := by decide +kernel
theorem dX12_init_185 : decode cX12_init 185 = .ok (.bipush 12, 2) := by decide +kernel
theorem dX12_init_187 : decode cX12_init 187 = .ok (.iastore, 1) := by decide +kernel
theorem dX12_init_188 : decode cX12_init 188 = .ok (.iinc 1 1, 3) := by decide +kernel
theorem dX12_init_191 : decode cX12_init 191 = .ok (.goto (-40), 3) := by decide +kernel
theorem dX12_init_194 : decode cX12_init 194 = .ok (.aload_n 0, 1) := by decide +kernel
theorem dX12_init_195 : decode cX12_init 195 = .ok (.iconst 0, 1) := by decide +kernel
theorem dX12_init_196 : decode cX12_init 196 = .ok (.bipush 102, 2) := by decide +kernel
theorem dX12_init_198 : decode cX12_init 198 = .ok (.bipush 108, 2) := by decide +kernel
theorem dX12_init_200 : decode cX12_init 200 = .ok (.bipush 105, 2) := by decide +kernel
theorem dX12_init_202 : decode cX12_init 202 = .ok (.bipush 101, 2) := by decide +kernel
theorem dX12_init_204 : decode cX12_init 204 = .ok (.bipush 115, 2) := by decide +kernel
theorem dX12_init_206 : decode cX12_init 206 = .ok (.bipush 32, 2) := by decide +kernel
theorem dX12_init_208 : decode cX12_init 208 = .ok (.bipush 56, 2) := by decide +kernel
theorem dX12_init_210 : decode cX12_init 210 = .ok (.bipush 32, 2) := by decide +kernel
theorem dX12_init_212 : decode cX12_init 212 = .ok (.invokevirtual 72, 3) := by decide +kernel
theorem dX12_init_215 : decode cX12_init 215 = .ok (.aload_n 0, 1) := by decide +kernel
theorem dX12_init_216 : decode cX12_init 216 = .ok (.bipush 8, 2) := by decide +kernel
theorem dX12_init_218 : decode cX12_init 218 = .ok (.bipush 43, 2) := by decide +kernel
theorem dX12_init_220 : decode cX12_init 220 = .ok (.bipush 32, 2) := by decide +kernel
theorem dX12_init_222 : decode cX12_init 222 = .ok (.bipush 102, 2) := by decide +kernel
theorem dX12_init_224 : decode cX12_init 224 = .ok (.bipush 97, 2) := by decide +kernel
theorem dX12_init_226 : decode cX12_init 226 = .ok (.bipush 114, 2) := by decide +kernel
theorem dX12_init_228 : decode cX12_init 228 = .ok (.bipush 32, 2) := by decide +kernel
theorem dX12_init_230 : decode cX12_init 230 = .ok (.bipush 42, 2) := by decide +kernel
theorem dX12_init_232 : decode cX12_init 232 = .ok (.bipush 32, 2) := by decide +kernel
theorem dX12_init_234 : decode cX12_init 234 = .ok (.invokevirtual 72, 3) := by decide +kernel
theorem dX12_init_237 : decode cX12_init 237 = .ok (.aload_n 0, 1) := by decide +kernel
theorem dX12_init_238 : decode cX12_init 238 = .ok (.bipush 16, 2) := by decide +kernel
theorem dX12_init_240 : decode cX12_init 240 = .ok (.bipush 51, 2) := by decide +kernel
theorem dX12_init_242 : decode cX12_init 242 = .ok (.bipush 32, 2) := by decide +kernel
theorem dX12_init_244 : decode cX12_init 244 = .ok (.bipush 59, 2) := by decide +kernel
theorem dX12_init_246 : decode cX12_init 246 = .ok (.bipush 32, 2) := by decide +kernel
theorem dX12_init_248 : decode cX12_init 248 = .ok (.bipush 115, 2) := by decide +kernel
theorem dX12_init_250 : decode cX12_init 250 = .ok (.bipush 116, 2) := by decide +kernel
theorem dX12_init_252 : decode cX12_init 252 = .ok (.bipush 101, 2) := by decide +kernel
theorem dX12_init_254 : decode cX12_init 254 = .ok (.bipush 112, 2) := by decide +kernel
theorem dX12_init_256 : decode cX12_init 256 = .ok (.invokevirtual 72, 3) := by decide +kernel
theorem dX12_init_259 : decode cX12_init 259 = .ok (.aload_n 0, 1) := by decide +kernel
theorem dX12_init_260 : decode cX12_init 260 = .ok (.bipush 24, 2) := by decide +kernel
theorem dX12_init_262 : decode cX12_init 262 = .ok (.bipush 115, 2) := by decide +kernel
theorem dX12_init_264 : decode cX12_init 264 = .ok (.bipush 32, 2) := by decide +kernel
theorem dX12_init_266 : decode cX12_init 266 = .ok (.bipush 57, 2) := by decide +kernel
theorem dX12_init_268 : decode cX12_init 268 = .ok (.bipush 32, 2) := by decide +kernel
theorem dX12_init_270 : decode cX12_init 270 = .ok (.bipush 45, 2) := by decide +kernel
theorem dX12_init_272 : decode cX12_init 272 = .ok (.bipush 32, 2) := by decide +kernel
theorem dX12_init_274 : decode cX12_init 274 = .ok (.bipush 113, 2) := by decide +kernel
theorem dX12_init_276 : decode cX12_init 276 = .ok (.bipush 117, 2) := by decide +kernel
theorem dX12_init_278 : decode cX12_init 278 = .ok (.invokevirtual 72, 3) := by decide +kernel
theorem dX12_init_281 : decode cX12_init 281 = .ok (.aload_n 0, 1) := by decide +kernel
theorem dX12_init_282 : decode cX12_init 282 = .ok (.bipush 32, 2) := by decide +kernel
theorem dX12_init_284 : decode cX12_init 284 = .ok (.bipush 105, 2) := by decide +kernel
theorem dX12_init_286 : decode cX12_init 286 = .ok (.bipush 99, 2) := by decide +kernel
theorem dX12_init_288 : decode cX12_init 288 = .ok (.bipush 107, 2) := by decide +kernel
theorem dX12_init_290 : decode cX12_init 290 = .ok (.bipush 32, 2) := by decide +kernel
theorem dX12_init_292 : decode cX12_init 292 = .ok (.bipush 59, 2) := by decide +kernel
theorem dX12_init_294 : decode cX12_init 294 = .ok (.bipush 32, 2) := by decide +kernel
theorem dX12_init_296 : decode cX12_init 296 = .ok (.bipush 115, 2) := by decide +kernel
theorem dX12_init_298 : decode cX12_init 298 = .ok (.bipush 108, 2) := by decide +kernel
theorem dX12_init_300 : decode cX12_init 300 = .ok (.invokevirtual 72, 3) := by decide +kernel
theorem dX12_init_303 : decode cX12_init 303 = .ok (.aload_n 0, 1) := by decide +kernel
theorem dX12_init_304 : decode cX12_init 304 = .ok (.bipush 40, 2) := by decide +kernel
theorem dX12_init_306 : decode cX12_init 306 = .ok (.bipush 105, 2) := by decide +kernel
theorem dX12_init_308 : decode cX12_init 308 = .ok (.bipush 112, 2) := by decide +kernel
theorem dX12_init_310 : decode cX12_init 310 = .ok (.bipush 115, 2) := by decide +kernel
theorem dX12_init_312 : decode cX12_init 312 = .ok (.bipush 32, 2) := by decide +kernel
theorem dX12_init_314 : decode cX12_init 314 = .ok (.bipush 102, 2) := by decide +kernel
theorem dX12_init_316 : decode cX12_init 316 = .ok (.bipush 97, 2) := by decide +kernel
theorem dX12_init_318 : decode cX12_init 318 = .ok (.bipush 114, 2) := by decide +kernel
theorem dX12_init_320 : decode cX12_init 320 = .ok (.bipush 32, 2) := by decide +kernel
theorem dX12_init_322 : decode cX12_init 322 = .ok (.invokevirtual 72, 3) := by decide +kernel
theorem dX12_init_325 : decode cX12_init 325 = .ok (.aload_n 0, 1) := by decide +kernel
theorem dX12_init_326 : decode cX12_init 326 = .ok (.bipush 48, 2) := by decide +kernel
theorem dX12_init_328 : decode cX12_init 328 = .ok (.bipush 42, 2) := by decide +kernel
theorem dX12_init_330 : decode cX12_init 330 = .ok (.bipush 32, 2) := by decide +kernel
theorem dX12_init_332 : decode cX12_init 332 = .ok (.bipush 50, 2) := by decide +kernel
theorem dX12_init_334 : decode cX12_init 334 = .ok (.bipush 32, 2) := by decide +kernel
theorem dX12_init_336 : decode cX12_init 336 = .ok (.bipush 59, 2) := by decide +kernel
theorem dX12_init_338 : decode cX12_init 338 = .ok (.bipush 32, 2) := by decide +kernel
theorem dX12_init_340 : decode cX12_init 340 = .ok (.bipush 32, 2) := by decide +kernel
theorem dX12_init_342 : decode cX12_init 342 = .ok (.bipush 32, 2) := by decide +kernel
theorem dX12_init_344 : decode cX12_init 344 = .ok (.invokevirtual 72, 3) := by decide +kernel
theorem dX12_init_347 : decode cX12_init 347 = .ok (.aload_n 0, 1) := by decide +kernel
theorem dX12_init_348 : decode cX12_init 348 = .ok (.getfield 17, 3) := by decide +kernel
theorem dX12_init_351 : decode cX12_init 351 = .ok (.iconst 0, 1) := by decide +kernel
theorem dX12_init_352 : decode cX12_init 352 = .ok (.bipush 56, 2) := by decide +kernel
theorem dX12_init_354 : decode cX12_init 354 = .ok (.iastore, 1) := by decide +kernel
theorem dX12_init_355 : decode cX12_init 355 = .ok (.aload_n 0, 1) := by decide +kernel
theorem dX12_init_356 : decode cX12_init 356 = .ok (.iconst 1, 1) := by decide +kernel
theorem dX12_init_357 : decode cX12_init 357 = .ok (.putfield 76, 3) := by decide +kernel
theorem dX12_init_360 : decode cX12_init 360 = .ok (.return_, 1) := by decide +kernel
theorem dX12_spell_0 : decode cX12_spell 0 = .ok (.aload_n 0, 1) := by decide +kernel
theorem dX12_spell_1 : decode cX12_spell 1 = .ok (.getfield 13, 3) := by decide +kernel
theorem dX12_spell_4 : decode cX12_spell 4 = .ok (.iload_n 1, 1) := by decide +kernel
theorem dX12_spell_5 : decode cX12_spell 5 = .ok (.iload_n 2, 1) := by decide +kernel
theorem dX12_spell_6 : decode cX12_spell 6 = .ok (.iastore, 1) := by decide +kernel
theorem dX12_spell_7 : decode cX12_spell 7 = .ok (.aload_n 0, 1) := by decide +kernel
theorem dX12_spell_8 : decode cX12_spell 8 = .ok (.getfield 13, 3) := by decide +kernel
theorem dX12_spell_11 : decode cX12_spell 11 = .ok (.iload_n 1, 1) := by decide +kernel
theorem dX12_spell_12 : decode cX12_spell 12 = .ok (.iconst 1, 1) := by decide +kernel
theorem dX12_spell_13 : decode cX12_spell 13 = .ok (.iadd, 1) := by decide +kernel
theorem dX12_spell_14 : decode cX12_spell 14 = .ok (.iload_n 3, 1) := by decide +kernel
theorem dX12_spell_15 : decode cX12_spell 15 = .ok (.iastore, 1) := by decide +kernel
theorem dX12_spell_16 : decode cX12_spell 16 = .ok (.aload_n 0, 1) := by decide +kernel
theorem dX12_spell_17 : decode cX12_spell 17 = .ok (.getfield 13, 3) := by decide +kernel
theorem dX12_spell_20 : decode cX12_spell 20 = .ok (.iload_n 1, 1) := by decide +kernel
theorem dX12_spell_21 : decode cX12_spell 21 = .ok (.iconst 2, 1) := by decide +kernel
theorem dX12_spell_22 : decode cX12_spell 22 = .ok (.iadd, 1) := by decide +kernel
theorem dX12_spell_23 : decode cX12_spell 23 = .ok (.iload 4, 2) := by decide +kernel
theorem dX12_spell_25 : decode cX12_spell 25 = .ok (.iastore, 1) := by decide +kernel
theorem dX12_spell_26 : decode cX12_spell 26 = .ok (.aload_n 0, 1) := by decide +kernel
theorem dX12_spell_27 : decode cX12_spell 27 = .ok (.getfield 13, 3) := by decide +kernel
theorem dX12_spell_30 : decode cX12_spell 30 = .ok (.iload_n 1, 1) := by decide +kernel
theorem dX12_spell_31 : decode cX12_spell 31 = .ok (.iconst 3, 1) := by decide +kernel
theorem dX12_spell_32 : decode cX12_spell 32 = .ok (.iadd, 1) := by decide +kernel
theorem dX12_spell_33 : decode cX12_spell 33 = .ok (.iload 5, 2) := by decide +kernel
theorem dX12_spell_35 : decode cX12_spell 35 = .ok (.iastore, 1) := by decide +kernel
theorem dX12_spell_36 : decode cX12_spell 36 = .ok (.aload_n 0, 1) := by decide +kernel
theorem dX12_spell_37 : decode cX12_spell 37 = .ok (.getfield 13, 3) := by decide +kernel
theorem dX12_spell_40 : decode cX12_spell 40 = .ok (.iload_n 1, 1) := by decide +kernel
theorem dX12_spell_41 : decode cX12_spell 41 = .ok (.iconst 4, 1) := by decide +kernel
theorem dX12_spell_42 : decode cX12_spell 42 = .ok (.iadd, 1) := by decide +kernel
theorem dX12_spell_43 : decode cX12_spell 43 = .ok (.iload 6, 2) := by decide +kernel
theorem dX12_spell_45 : decode cX12_spell 45 = .ok (.iastore, 1) := by decide +kernel
theorem dX12_spell_46 : decode cX12_spell 46 = .ok (.aload_n 0, 1) := by decide +kernel
theorem dX12_spell_47 : decode cX12_spell 47 = .ok (.getfield 13, 3) := by decide +kernel
theorem dX12_spell_50 : decode cX12_spell 50 = .ok (.iload_n 1, 1) := by decide +kernel
theorem dX12_spell_51 : decode cX12_spell 51 = .ok (.iconst 5, 1) := by decide +kernel
theorem dX12_spell_52 : decode cX12_spell 52 = .ok (.iadd, 1) := by decide +kernel
theorem dX12_spell_53 : decode cX12_spell 53 = .ok (.iload 7, 2) := by decide +kernel
theorem dX12_spell_55 : decode cX12_spell 55 = .ok (.iastore, 1) := by decide +kernel
theorem dX12_spell_56 : decode cX12_spell 56 = .ok (.aload_n 0, 1) := by decide +kernel
theorem dX12_spell_57 : decode cX12_spell 57 = .ok (.getfield 13, 3) := by decide +kernel
theorem dX12_spell_60 : decode cX12_spell 60 = .ok (.iload_n 1, 1) := by decide +kernel
theorem dX12_spell_61 : decode cX12_spell 61 = .ok (.bipush 6, 2) := by decide +kernel
theorem dX12_spell_63 : decode cX12_spell 63 = .ok (.iadd, 1) := by decide +kernel
theorem dX12_spell_64 : decode cX12_spell 64 = .ok (.iload 8, 2) := by decide +kernel
theorem dX12_spell_66 : decode cX12_spell 66 = .ok (.iastore, 1) := by decide +kernel
theorem dX12_spell_67 : decode cX12_spell 67 = .ok (.aload_n 0, 1) := by decide +kernel
theorem dX12_spell_68 : decode cX12_spell 68 = .ok (.getfield 13, 3) := by decide +kernel
theorem dX12_spell_71 : decode cX12_spell 71 = .ok (.iload_n 1, 1) := by decide +kernel
theorem dX12_spell_72 : decode cX12_spell 72 = .ok (.bipush 7, 2) := by decide +kernel
theorem dX12_spell_74 : decode cX12_spell 74 = .ok (.iadd, 1) := by decide +kernel
theorem dX12_spell_75 : decode cX12_spell 75 = .ok (.iload 9, 2) := by decide +kernel
theorem dX12_spell_77 : decode cX12_spell 77 = .ok (.iastore, 1) := by decide +kernel
theorem dX12_spell_78 : decode cX12_spell 78 = .ok (.return_, 1) := by decide +kernel
theorem dX12_isStroke_0 : decode cX12_isStroke 0 = .ok (.iload_n 1, 1) := by decide +kernel
theorem dX12_isStroke_1 : decode cX12_isStroke 1 = .ok (.i2l, 1) := by decide +kernel
theorem dX12_isStroke_2 : decode cX12_isStroke 2 = .ok (.lconst 0, 1) := by decide +kernel
theorem dX12_isStroke_3 : decode cX12_isStroke 3 = .ok (.aload_n 0, 1) := by decide +kernel
theorem dX12_isStroke_4 : decode cX12_isStroke 4 = .ok (.getfield 79, 3) := by decide +kernel
theorem dX12_isStroke_7 : decode cX12_isStroke 7 = .ok (.iconst 1, 1) := by decide +kernel
theorem dX12_isStroke_8 : decode cX12_isStroke 8 = .ok (.isub, 1) := by decide +kernel
theorem dX12_isStroke_9 : decode cX12_isStroke 9 = .ok (.i2l, 1) := by decide +kernel
theorem dX12_isStroke_10 : decode cX12_isStroke 10 = .ok (.invokestatic 82, 3) := by decide +kernel
theorem dX12_isStroke_13 : decode cX12_isStroke 13 = .ok (.ireturn, 1) := by decide +kernel
theorem dX12_isPlayer_0 : decode cX12_isPlayer 0 = .ok (.iload_n 0, 1) := by decide +kernel
theorem dX12_isPlayer_1 : decode cX12_isPlayer 1 = .ok (.i2l, 1) := by decide +kernel
theorem dX12_isPlayer_2 : decode cX12_isPlayer 2 = .ok (.lconst 0, 1) := by decide +kernel
theorem dX12_isPlayer_3 : decode cX12_isPlayer 3 = .ok (.lconst 1, 1) := by decide +kernel
theorem dX12_isPlayer_4 : decode cX12_isPlayer 4 = .ok (.invokestatic 82, 3) := by decide +kernel
theorem dX12_isPlayer_7 : decode cX12_isPlayer 7 = .ok (.ireturn, 1) := by decide +kernel
theorem dX12_isCell_0 : decode cX12_isCell 0 = .ok (.iload_n 0, 1) := by decide +kernel
theorem dX12_isCell_1 : decode cX12_isCell 1 = .ok (.i2l, 1) := by decide +kernel
theorem dX12_isCell_2 : decode cX12_isCell 2 = .ok (.lconst 0, 1) := by decide +kernel
theorem dX12_isCell_3 : decode cX12_isCell 3 = .ok (.ldc2_w 86, 3) := by decide +kernel
theorem dX12_isCell_6 : decode cX12_isCell 6 = .ok (.invokestatic 82, 3) := by decide +kernel
theorem dX12_isCell_9 : decode cX12_isCell 9 = .ok (.ireturn, 1) := by decide +kernel
theorem dX12_set_0 : decode cX12_set 0 = .ok (.iload_n 1, 1) := by decide +kernel
theorem dX12_set_1 : decode cX12_set 1 = .ok (.i2l, 1) := by decide +kernel
theorem dX12_set_2 : decode cX12_set 2 = .ok (.lconst 0, 1) := by decide +kernel
theorem dX12_set_3 : decode cX12_set 3 = .ok (.ldc2_w 88, 3) := by decide +kernel
theorem dX12_set_6 : decode cX12_set 6 = .ok (.invokestatic 82, 3) := by decide +kernel
theorem dX12_set_9 : decode cX12_set 9 = .ok (.ifCond .eq 37, 3) := by decide +kernel
theorem dX12_set_12 : decode cX12_set 12 = .ok (.iload_n 1, 1) := by decide +kernel
theorem dX12_set_13 : decode cX12_set 13 = .ok (.iconst 4, 1) := by decide +kernel
theorem dX12_set_14 : decode cX12_set 14 = .ok (.if_icmp .ge 10, 3) := by decide +kernel
theorem dX12_set_17 : decode cX12_set 17 = .ok (.iload_n 2, 1) := by decide +kernel
theorem dX12_set_18 : decode cX12_set 18 = .ok (.invokestatic 90, 3) := by decide +kernel
theorem dX12_set_21 : decode cX12_set 21 = .ok (.ifCond .eq 25, 3) := by decide +kernel
theorem dX12_set_24 : decode cX12_set 24 = .ok (.iload_n 1, 1) := by decide +kernel
theorem dX12_set_25 : decode cX12_set 25 = .ok (.i2l, 1) := by decide +kernel
theorem dX12_set_26 : decode cX12_set 26 = .ok (.ldc2_w 94, 3) := by decide +kernel
theorem dX12_set_29 : decode cX12_set 29 = .ok (.ldc2_w 96, 3) := by decide +kernel
theorem dX12_set_32 : decode cX12_set 32 = .ok (.invokestatic 82, 3) := by decide +kernel
theorem dX12_set_35 : decode cX12_set 35 = .ok (.ifCond .eq 14, 3) := by decide +kernel
theorem dX12_set_38 : decode cX12_set 38 = .ok (.aload_n 0, 1) := by decide +kernel
theorem dX12_set_39 : decode cX12_set 39 = .ok (.iload_n 2, 1) := by decide +kernel
theorem dX12_set_40 : decode cX12_set 40 = .ok (.invokevirtual 98, 3) := by decide +kernel
theorem dX12_set_43 : decode cX12_set 43 = .ok (.ifCond .ne 6, 3) := by decide +kernel
theorem dX12_set_46 : decode cX12_set 46 = .ok (.bipush (-100), 2) := by decide +kernel
theorem dX12_set_48 : decode cX12_set 48 = .ok (.ireturn, 1) := by decide +kernel
theorem dX12_set_49 : decode cX12_set 49 = .ok (.iload_n 3, 1) := by decide +kernel
theorem dX12_set_50 : decode cX12_set 50 = .ok (.i2l, 1) := by decide +kernel
theorem dX12_set_51 : decode cX12_set 51 = .ok (.iload_n 1, 1) := by decide +kernel
theorem dX12_set_52 : decode cX12_set 52 = .ok (.iconst 3, 1) := by decide +kernel
theorem dX12_set_53 : decode cX12_set 53 = .ok (.if_icmp .ne 9, 3) := by decide +kernel
theorem dX12_set_56 : decode cX12_set 56 = .ok (.ldc2_w 101, 3) := by decide +kernel
theorem dX12_set_59 : decode cX12_set 59 = .ok (.goto 4, 3) := by decide +kernel
theorem dX12_set_62 : decode cX12_set 62 = .ok (.lconst 0, 1) := by decide +kernel
theorem dX12_set_63 : decode cX12_set 63 = .ok (.iload_n 1, 1) := by decide +kernel
theorem dX12_set_64 : decode cX12_set 64 = .ok (.iconst 1, 1) := by decide +kernel
theorem dX12_set_65 : decode cX12_set 65 = .ok (.if_icmp .ne 9, 3) := by decide +kernel
theorem dX12_set_68 : decode cX12_set 68 = .ok (.ldc2_w 103, 3) := by decide +kernel
theorem dX12_set_71 : decode cX12_set 71 = .ok (.goto 34, 3) := by decide +kernel
theorem dX12_set_74 : decode cX12_set 74 = .ok (.iload_n 1, 1) := by decide +kernel
theorem dX12_set_75 : decode cX12_set 75 = .ok (.iconst 2, 1) := by decide +kernel
theorem dX12_set_76 : decode cX12_set 76 = .ok (.if_icmp .eq 8, 3) := by decide +kernel
theorem dX12_set_79 : decode cX12_set 79 = .ok (.iload_n 1, 1) := by decide +kernel
theorem dX12_set_80 : decode cX12_set 80 = .ok (.iconst 4, 1) := by decide +kernel
theorem dX12_set_81 : decode cX12_set 81 = .ok (.if_icmp .ne 9, 3) := by decide +kernel
theorem dX12_set_84 : decode cX12_set 84 = .ok (.ldc2_w 105, 3) := by decide +kernel
theorem dX12_set_87 : decode cX12_set 87 = .ok (.goto 18, 3) := by decide +kernel
theorem dX12_set_90 : decode cX12_set 90 = .ok (.iload_n 1, 1) := by decide +kernel
theorem dX12_set_91 : decode cX12_set 91 = .ok (.bipush 6, 2) := by decide +kernel
theorem dX12_set_93 : decode cX12_set 93 = .ok (.if_icmp .ne 9, 3) := by decide +kernel
theorem dX12_set_96 : decode cX12_set 96 = .ok (.ldc2_w 107, 3) := by decide +kernel
theorem dX12_set_99 : decode cX12_set 99 = .ok (.goto 6, 3) := by decide +kernel
theorem dX12_set_102 : decode cX12_set 102 = .ok (.ldc2_w 86, 3) := by decide +kernel
theorem dX12_set_105 : decode cX12_set 105 = .ok (.invokestatic 82, 3) := by decide +kernel
theorem dX12_set_108 : decode cX12_set 108 = .ok (.ifCond .ne 6, 3) := by decide +kernel
theorem dX12_set_111 : decode cX12_set 111 = .ok (.bipush (-100), 2) := by decide +kernel
theorem dX12_set_113 : decode cX12_set 113 = .ok (.ireturn, 1) := by decide +kernel
theorem dX12_set_114 : decode cX12_set 114 = .ok (.iload_n 1, 1) := by decide +kernel
theorem dX12_set_115 : decode cX12_set 115 = .ok (.bipush 6, 2) := by decide +kernel
theorem dX12_set_117 : decode cX12_set 117 = .ok (.if_icmp .ne 10, 3) := by decide +kernel
theorem dX12_set_120 : decode cX12_set 120 = .ok (.aload_n 0, 1) := by decide +kernel
theorem dX12_set_121 : decode cX12_set 121 = .ok (.getfield 109, 3) := by decide +kernel
theorem dX12_set_124 : decode cX12_set 124 = .ok (.goto 9, 3) := by decide +kernel
theorem dX12_set_127 : decode cX12_set 127 = .ok (.aload_n 0, 1) := by decide +kernel
theorem dX12_set_128 : decode cX12_set 128 = .ok (.iload_n 2, 1) := by decide +kernel
theorem dX12_set_129 : decode cX12_set 129 = .ok (.iload_n 1, 1) := by decide +kernel
theorem dX12_set_130 : decode cX12_set 130 = .ok (.invokevirtual 112, 3) := by decide +kernel
theorem dX12_set_133 : decode cX12_set 133 = .ok (.istore 4, 2) := by decide +kernel
theorem dX12_set_135 : decode cX12_set 135 = .ok (.iload_n 1, 1) := by decide +kernel
theorem dX12_set_136 : decode cX12_set 136 = .ok (.ifCond .ne 13, 3) := by decide +kernel
theorem dX12_set_139 : decode cX12_set 139 = .ok (.aload_n 0, 1) := by decide +kernel
theorem dX12_set_140 : decode cX12_set 140 = .ok (.getfield 23, 3) := by decide +kernel
theorem dX12_set_143 : decode cX12_set 143 = .ok (.iload_n 2, 1) := by decide +kernel
theorem dX12_set_144 : decode cX12_set 144 = .ok (.iload_n 3, 1) := by decide +kernel
theorem dX12_set_145 : decode cX12_set 145 = .ok (.iastore, 1) := by decide +kernel
theorem dX12_set_146 : decode cX12_set 146 = .ok (.goto 83, 3) := by decide +kernel
theorem dX12_set_149 : decode cX12_set 149 = .ok (.iload_n 1, 1) := by decide +kernel
theorem dX12_set_150 : decode cX12_set 150 = .ok (.iconst 1, 1) := by decide +kernel
theorem dX12_set_151 : decode cX12_set 151 = .ok (.if_icmp .ne 13, 3) := by decide +kernel
theorem dX12_set_154 : decode cX12_set 154 = .ok (.aload_n 0, 1) := by decide +kernel
theorem dX12_set_155 : decode cX12_set 155 = .ok (.getfield 26, 3) := by decide +kernel
theorem dX12_set_158 : decode cX12_set 158 = .ok (.iload_n 2, 1) := by decide +kernel
theorem dX12_set_159 : decode cX12_set 159 = .ok (.iload_n 3, 1) := by decide +kernel
theorem dX12_set_160 : decode cX12_set 160 = .ok (.iastore, 1) := by decide +kernel
theorem dX12_set_161 : decode cX12_set 161 = .ok (.goto 68, 3) := by decide +kernel
theorem dX12_set_164 : decode cX12_set 164 = .ok (.iload_n 1, 1) := by decide +kernel
theorem dX12_set_165 : decode cX12_set 165 = .ok (.iconst 2, 1) := by decide +kernel
theorem dX12_set_166 : decode cX12_set 166 = .ok (.if_icmp .ne 13, 3) := by decide +kernel
theorem dX12_set_169 : decode cX12_set 169 = .ok (.aload_n 0, 1) := by decide +kernel
theorem dX12_set_170 : decode cX12_set 170 = .ok (.getfield 29, 3) := by decide +kernel
theorem dX12_set_173 : decode cX12_set 173 = .ok (.iload_n 2, 1) := by decide +kernel
theorem dX12_set_174 : decode cX12_set 174 = .ok (.iload_n 3, 1) := by decide +kernel
theorem dX12_set_175 : decode cX12_set 175 = .ok (.iastore, 1) := by decide +kernel
theorem dX12_set_176 : decode cX12_set 176 = .ok (.goto 53, 3) := by decide +kernel
theorem dX12_set_179 : decode cX12_set 179 = .ok (.iload_n 1, 1) := by decide +kernel
theorem dX12_set_180 : decode cX12_set 180 = .ok (.iconst 3, 1) := by decide +kernel
theorem dX12_set_181 : decode cX12_set 181 = .ok (.if_icmp .ne 13, 3) := by decide +kernel
theorem dX12_set_184 : decode cX12_set 184 = .ok (.aload_n 0, 1) := by decide +kernel
theorem dX12_set_185 : decode cX12_set 185 = .ok (.getfield 32, 3) := by decide +kernel
theorem dX12_set_188 : decode cX12_set 188 = .ok (.iload_n 2, 1) := by decide +kernel
theorem dX12_set_189 : decode cX12_set 189 = .ok (.iload_n 3, 1) := by decide +kernel
theorem dX12_set_190 : decode cX12_set 190 = .ok (.iastore, 1) := by decide +kernel
theorem dX12_set_191 : decode cX12_set 191 = .ok (.goto 38, 3) := by decide +kernel
theorem dX12_set_194 : decode cX12_set 194 = .ok (.iload_n 1, 1) := by decide +kernel
theorem dX12_set_195 : decode cX12_set 195 = .ok (.iconst 4, 1) := by decide +kernel
theorem dX12_set_196 : decode cX12_set 196 = .ok (.if_icmp .ne 13, 3) := by decide +kernel
theorem dX12_set_199 : decode cX12_set 199 = .ok (.aload_n 0, 1) := by decide +kernel
theorem dX12_set_200 : decode cX12_set 200 = .ok (.getfield 38, 3) := by decide +kernel
theorem dX12_set_203 : decode cX12_set 203 = .ok (.iload_n 2, 1) := by decide +kernel
theorem dX12_set_204 : decode cX12_set 204 = .ok (.iload_n 3, 1) := by decide +kernel
theorem dX12_set_205 : decode cX12_set 205 = .ok (.iastore, 1) := by decide +kernel
theorem dX12_set_206 : decode cX12_set 206 = .ok (.goto 23, 3) := by decide +kernel
theorem dX12_set_209 : decode cX12_set 209 = .ok (.iload_n 1, 1) := by decide +kernel
theorem dX12_set_210 : decode cX12_set 210 = .ok (.iconst 5, 1) := by decide +kernel
theorem dX12_set_211 : decode cX12_set 211 = .ok (.if_icmp .ne 13, 3) := by decide +kernel
theorem dX12_set_214 : decode cX12_set 214 = .ok (.aload_n 0, 1) := by decide +kernel
theorem dX12_set_215 : decode cX12_set 215 = .ok (.getfield 41, 3) := by decide +kernel
theorem dX12_set_218 : decode cX12_set 218 = .ok (.iload_n 2, 1) := by decide +kernel
theorem dX12_set_219 : decode cX12_set 219 = .ok (.iload_n 3, 1) := by decide +kernel
theorem dX12_set_220 : decode cX12_set 220 = .ok (.iastore, 1) := by decide +kernel
theorem dX12_set_221 : decode cX12_set 221 = .ok (.goto 8, 3) := by decide +kernel
theorem dX12_set_224 : decode cX12_set 224 = .ok (.aload_n 0, 1) := by decide +kernel
theorem dX12_set_225 : decode cX12_set 225 = .ok (.iload_n 3, 1) := by decide +kernel
theorem dX12_set_226 : decode cX12_set 226 = .ok (.putfield 109, 3) := by decide +kernel
theorem dX12_set_229 : decode cX12_set 229 = .ok (.iload 4, 2) := by decide +kernel
theorem dX12_set_231 : decode cX12_set 231 = .ok (.ireturn, 1) := by decide +kernel
theorem dX12_stroke_0 : decode cX12_stroke 0 = .ok (.iload_n 1, 1) := by decide +kernel
theorem dX12_stroke_1 : decode cX12_stroke 1 = .ok (.i2l, 1) := by decide +kernel
theorem dX12_stroke_2 : decode cX12_stroke 2 = .ok (.lconst 0, 1) := by decide +kernel
theorem dX12_stroke_3 : decode cX12_stroke 3 = .ok (.ldc2_w 96, 3) := by decide +kernel
theorem dX12_stroke_6 : decode cX12_stroke 6 = .ok (.invokestatic 82, 3) := by decide +kernel
theorem dX12_stroke_9 : decode cX12_stroke 9 = .ok (.ifCond .eq 22, 3) := by decide +kernel
theorem dX12_stroke_12 : decode cX12_stroke 12 = .ok (.iload_n 2, 1) := by decide +kernel
theorem dX12_stroke_13 : decode cX12_stroke 13 = .ok (.i2l, 1) := by decide +kernel
theorem dX12_stroke_14 : decode cX12_stroke 14 = .ok (.lconst 0, 1) := by decide +kernel
theorem dX12_stroke_15 : decode cX12_stroke 15 = .ok (.ldc2_w 105, 3) := by decide +kernel
theorem dX12_stroke_18 : decode cX12_stroke 18 = .ok (.invokestatic 82, 3) := by decide +kernel
theorem dX12_stroke_21 : decode cX12_stroke 21 = .ok (.ifCond .eq 10, 3) := by decide +kernel
theorem dX12_stroke_24 : decode cX12_stroke 24 = .ok (.iload_n 3, 1) := by decide +kernel
theorem dX12_stroke_25 : decode cX12_stroke 25 = .ok (.invokestatic 116, 3) := by decide +kernel
theorem dX12_stroke_28 : decode cX12_stroke 28 = .ok (.ifCond .ne 6, 3) := by decide +kernel
theorem dX12_stroke_31 : decode cX12_stroke 31 = .ok (.bipush (-2), 2) := by decide +kernel
theorem dX12_stroke_33 : decode cX12_stroke 33 = .ok (.ireturn, 1) := by decide +kernel
theorem dX12_stroke_34 : decode cX12_stroke 34 = .ok (.aload_n 0, 1) := by decide +kernel
theorem dX12_stroke_35 : decode cX12_stroke 35 = .ok (.getfield 79, 3) := by decide +kernel
theorem dX12_stroke_38 : decode cX12_stroke 38 = .ok (.bipush 6, 2) := by decide +kernel
theorem dX12_stroke_40 : decode cX12_stroke 40 = .ok (.if_icmp .ne 6, 3) := by decide +kernel
theorem dX12_stroke_43 : decode cX12_stroke 43 = .ok (.bipush (-4), 2) := by decide +kernel
theorem dX12_stroke_45 : decode cX12_stroke 45 = .ok (.ireturn, 1) := by decide +kernel
theorem dX12_stroke_46 : decode cX12_stroke 46 = .ok (.aload_n 0, 1) := by decide +kernel
theorem dX12_stroke_47 : decode cX12_stroke 47 = .ok (.getfield 35, 3) := by decide +kernel
theorem dX12_stroke_50 : decode cX12_stroke 50 = .ok (.aload_n 0, 1) := by decide +kernel
theorem dX12_stroke_51 : decode cX12_stroke 51 = .ok (.getfield 79, 3) := by decide +kernel
theorem dX12_stroke_54 : decode cX12_stroke 54 = .ok (.iload_n 1, 1) := by decide +kernel
theorem dX12_stroke_55 : decode cX12_stroke 55 = .ok (.iastore, 1) := by decide +kernel
theorem dX12_stroke_56 : decode cX12_stroke 56 = .ok (.aload_n 0, 1) := by decide +kernel
theorem dX12_stroke_57 : decode cX12_stroke 57 = .ok (.getfield 38, 3) := by decide +kernel
theorem dX12_stroke_60 : decode cX12_stroke 60 = .ok (.aload_n 0, 1) := by decide +kernel
theorem dX12_stroke_61 : decode cX12_stroke 61 = .ok (.getfield 79, 3) := by decide +kernel
theorem dX12_stroke_64 : decode cX12_stroke 64 = .ok (.iload_n 2, 1) := by decide +kernel
theorem dX12_stroke_65 : decode cX12_stroke 65 = .ok (.iastore, 1) := by decide +kernel
theorem dX12_stroke_66 : decode cX12_stroke 66 = .ok (.aload_n 0, 1) := by decide +kernel
theorem dX12_stroke_67 : decode cX12_stroke 67 = .ok (.getfield 41, 3) := by decide +kernel
theorem dX12_stroke_70 : decode cX12_stroke 70 = .ok (.aload_n 0, 1) := by decide +kernel
theorem dX12_stroke_71 : decode cX12_stroke 71 = .ok (.getfield 79, 3) := by decide +kernel
theorem dX12_stroke_74 : decode cX12_stroke 74 = .ok (.iload_n 3, 1) := by decide +kernel
theorem dX12_stroke_75 : decode cX12_stroke 75 = .ok (.iastore, 1) := by decide +kernel
theorem dX12_stroke_76 : decode cX12_stroke 76 = .ok (.aload_n 0, 1) := by decide +kernel
theorem dX12_stroke_77 : decode cX12_stroke 77 = .ok (.dup, 1) := by decide +kernel
theorem dX12_stroke_78 : decode cX12_stroke 78 = .ok (.getfield 79, 3) := by decide +kernel
theorem dX12_stroke_81 : decode cX12_stroke 81 = .ok (.iconst 1, 1) := by decide +kernel
theorem dX12_stroke_82 : decode cX12_stroke 82 = .ok (.iadd, 1) := by decide +kernel
theorem dX12_stroke_83 : decode cX12_stroke 83 = .ok (.putfield 79, 3) := by decide +kernel
theorem dX12_stroke_86 : decode cX12_stroke 86 = .ok (.aload_n 0, 1) := by decide +kernel
theorem dX12_stroke_87 : decode cX12_stroke 87 = .ok (.getfield 79, 3) := by decide +kernel
theorem dX12_stroke_90 : decode cX12_stroke 90 = .ok (.iconst 1, 1) := by decide +kernel
theorem dX12_stroke_91 : decode cX12_stroke 91 = .ok (.isub, 1) := by decide +kernel
theorem dX12_stroke_92 : decode cX12_stroke 92 = .ok (.ireturn, 1) := by decide +kernel
theorem dX12_told_0 : decode cX12_told 0 = .ok (.iload_n 2, 1) := by decide +kernel
theorem dX12_told_1 : decode cX12_told 1 = .ok (.i2l, 1) := by decide +kernel
theorem dX12_told_2 : decode cX12_told 2 = .ok (.lconst 0, 1) := by decide +kernel
theorem dX12_told_3 : decode cX12_told 3 = .ok (.ldc2_w 88, 3) := by decide +kernel
theorem dX12_told_6 : decode cX12_told 6 = .ok (.invokestatic 82, 3) := by decide +kernel
theorem dX12_told_9 : decode cX12_told 9 = .ok (.ifCond .eq 26, 3) := by decide +kernel
theorem dX12_told_12 : decode cX12_told 12 = .ok (.iload_n 2, 1) := by decide +kernel
theorem dX12_told_13 : decode cX12_told 13 = .ok (.iconst 4, 1) := by decide +kernel
theorem dX12_told_14 : decode cX12_told 14 = .ok (.if_icmp .ge 13, 3) := by decide +kernel
theorem dX12_told_17 : decode cX12_told 17 = .ok (.iload_n 1, 1) := by decide +kernel
theorem dX12_told_18 : decode cX12_told 18 = .ok (.invokestatic 90, 3) := by decide +kernel
theorem dX12_told_21 : decode cX12_told 21 = .ok (.ifCond .eq 14, 3) := by decide +kernel
theorem dX12_told_24 : decode cX12_told 24 = .ok (.goto 14, 3) := by decide +kernel
theorem dX12_told_27 : decode cX12_told 27 = .ok (.aload_n 0, 1) := by decide +kernel
theorem dX12_told_28 : decode cX12_told 28 = .ok (.iload_n 1, 1) := by decide +kernel
theorem dX12_told_29 : decode cX12_told 29 = .ok (.invokevirtual 98, 3) := by decide +kernel
theorem dX12_told_32 : decode cX12_told 32 = .ok (.ifCond .ne 6, 3) := by decide +kernel
theorem dX12_told_35 : decode cX12_told 35 = .ok (.bipush (-100), 2) := by decide +kernel
theorem dX12_told_37 : decode cX12_told 37 = .ok (.ireturn, 1) := by decide +kernel
theorem dX12_told_38 : decode cX12_told 38 = .ok (.iload_n 2, 1) := by decide +kernel
theorem dX12_told_39 : decode cX12_told 39 = .ok (.iconst 4, 1) := by decide +kernel
theorem dX12_told_40 : decode cX12_told 40 = .ok (.if_icmp .ge 51, 3) := by decide +kernel
theorem dX12_told_43 : decode cX12_told 43 = .ok (.iload_n 2, 1) := by decide +kernel
theorem dX12_told_44 : decode cX12_told 44 = .ok (.ifCond .ne 12, 3) := by decide +kernel
