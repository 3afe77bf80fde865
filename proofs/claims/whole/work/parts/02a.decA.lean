theorem dX0_init_0 : decode cX0_init 0 = .ok (.aload_n 0, 1) := by decide +kernel
theorem dX0_init_1 : decode cX0_init 1 = .ok (.invokespecial 3, 3) := by decide +kernel
theorem dX0_init_4 : decode cX0_init 4 = .ok (.aload_n 0, 1) := by decide +kernel
theorem dX0_init_5 : decode cX0_init 5 = .ok (.bipush 24, 2) := by decide +kernel
theorem dX0_init_7 : decode cX0_init 7 = .ok (.newarray .long, 2) := by decide +kernel
theorem dX0_init_9 : decode cX0_init 9 = .ok (.putfield 9, 3) := by decide +kernel
theorem dX0_init_12 : decode cX0_init 12 = .ok (.aload_n 0, 1) := by decide +kernel
theorem dX0_init_13 : decode cX0_init 13 = .ok (.bipush 24, 2) := by decide +kernel
theorem dX0_init_15 : decode cX0_init 15 = .ok (.newarray .long, 2) := by decide +kernel
theorem dX0_init_17 : decode cX0_init 17 = .ok (.putfield 15, 3) := by decide +kernel
theorem dX0_init_20 : decode cX0_init 20 = .ok (.aload_n 0, 1) := by decide +kernel
theorem dX0_init_21 : decode cX0_init 21 = .ok (.aload_n 1, 1) := by decide +kernel
theorem dX0_init_22 : decode cX0_init 22 = .ok (.putfield 18, 3) := by decide +kernel
theorem dX0_init_25 : decode cX0_init 25 = .ok (.aload_n 0, 1) := by decide +kernel
theorem dX0_init_26 : decode cX0_init 26 = .ok (.aload_n 2, 1) := by decide +kernel
theorem dX0_init_27 : decode cX0_init 27 = .ok (.putfield 22, 3) := by decide +kernel
theorem dX0_init_30 : decode cX0_init 30 = .ok (.return_, 1) := by decide +kernel
theorem dX0_lost_0 : decode cX0_lost 0 = .ok (.iconst 0, 1) := by decide +kernel
theorem dX0_lost_1 : decode cX0_lost 1 = .ok (.istore_n 2, 1) := by decide +kernel
theorem dX0_lost_2 : decode cX0_lost 2 = .ok (.iconst 0, 1) := by decide +kernel
theorem dX0_lost_3 : decode cX0_lost 3 = .ok (.istore_n 3, 1) := by decide +kernel
theorem dX0_lost_4 : decode cX0_lost 4 = .ok (.iload_n 3, 1) := by decide +kernel
theorem dX0_lost_5 : decode cX0_lost 5 = .ok (.aload_n 0, 1) := by decide +kernel
theorem dX0_lost_6 : decode cX0_lost 6 = .ok (.getfield 18, 3) := by decide +kernel
theorem dX0_lost_9 : decode cX0_lost 9 = .ok (.getfield 26, 3) := by decide +kernel
theorem dX0_lost_12 : decode cX0_lost 12 = .ok (.if_icmp .ge 47, 3) := by decide +kernel
theorem dX0_lost_15 : decode cX0_lost 15 = .ok (.aload_n 0, 1) := by decide +kernel
theorem dX0_lost_16 : decode cX0_lost 16 = .ok (.getfield 18, 3) := by decide +kernel
theorem dX0_lost_19 : decode cX0_lost 19 = .ok (.getfield 32, 3) := by decide +kernel
theorem dX0_lost_22 : decode cX0_lost 22 = .ok (.iload_n 3, 1) := by decide +kernel
theorem dX0_lost_23 : decode cX0_lost 23 = .ok (.aaload, 1) := by decide +kernel
theorem dX0_lost_24 : decode cX0_lost 24 = .ok (.astore 4, 2) := by decide +kernel
theorem dX0_lost_26 : decode cX0_lost 26 = .ok (.aload 4, 2) := by decide +kernel
theorem dX0_lost_28 : decode cX0_lost 28 = .ok (.ifnull 25, 3) := by decide +kernel
theorem dX0_lost_31 : decode cX0_lost 31 = .ok (.aload 4, 2) := by decide +kernel
theorem dX0_lost_33 : decode cX0_lost 33 = .ok (.aload_n 1, 1) := by decide +kernel
theorem dX0_lost_34 : decode cX0_lost 34 = .ok (.invokevirtual 36, 3) := by decide +kernel
theorem dX0_lost_37 : decode cX0_lost 37 = .ok (.ifCond .eq 16, 3) := by decide +kernel
theorem dX0_lost_40 : decode cX0_lost 40 = .ok (.iload_n 2, 1) := by decide +kernel
theorem dX0_lost_41 : decode cX0_lost 41 = .ok (.aload_n 0, 1) := by decide +kernel
theorem dX0_lost_42 : decode cX0_lost 42 = .ok (.aload_n 1, 1) := by decide +kernel
theorem dX0_lost_43 : decode cX0_lost 43 = .ok (.aload 4, 2) := by decide +kernel
theorem dX0_lost_45 : decode cX0_lost 45 = .ok (.getfield 42, 3) := by decide +kernel
theorem dX0_lost_48 : decode cX0_lost 48 = .ok (.invokevirtual 45, 3) := by decide +kernel
theorem dX0_lost_51 : decode cX0_lost 51 = .ok (.iadd, 1) := by decide +kernel
theorem dX0_lost_52 : decode cX0_lost 52 = .ok (.istore_n 2, 1) := by decide +kernel
theorem dX0_lost_53 : decode cX0_lost 53 = .ok (.iinc 3 1, 3) := by decide +kernel
theorem dX0_lost_56 : decode cX0_lost 56 = .ok (.goto (-52), 3) := by decide +kernel
theorem dX0_lost_59 : decode cX0_lost 59 = .ok (.bipush 100, 2) := by decide +kernel
theorem dX0_lost_61 : decode cX0_lost 61 = .ok (.iload_n 2, 1) := by decide +kernel
theorem dX0_lost_62 : decode cX0_lost 62 = .ok (.invokestatic 49, 3) := by decide +kernel
theorem dX0_lost_65 : decode cX0_lost 65 = .ok (.ireturn, 1) := by decide +kernel
theorem dX0_harm_0 : decode cX0_harm 0 = .ok (.iload_n 2, 1) := by decide +kernel
theorem dX0_harm_1 : decode cX0_harm 1 = .ok (.aload_n 0, 1) := by decide +kernel
theorem dX0_harm_2 : decode cX0_harm 2 = .ok (.getfield 18, 3) := by decide +kernel
theorem dX0_harm_5 : decode cX0_harm 5 = .ok (.aload_n 1, 1) := by decide +kernel
theorem dX0_harm_6 : decode cX0_harm 6 = .ok (.getfield 55, 3) := by decide +kernel
theorem dX0_harm_9 : decode cX0_harm 9 = .ok (.invokevirtual 60, 3) := by decide +kernel
theorem dX0_harm_12 : decode cX0_harm 12 = .ok (.imul, 1) := by decide +kernel
theorem dX0_harm_13 : decode cX0_harm 13 = .ok (.bipush 100, 2) := by decide +kernel
theorem dX0_harm_15 : decode cX0_harm 15 = .ok (.idiv, 1) := by decide +kernel
theorem dX0_harm_16 : decode cX0_harm 16 = .ok (.ireturn, 1) := by decide +kernel
theorem dX0_paid_0 : decode cX0_paid 0 = .ok (.aload_n 0, 1) := by decide +kernel
theorem dX0_paid_1 : decode cX0_paid 1 = .ok (.getfield 22, 3) := by decide +kernel
theorem dX0_paid_4 : decode cX0_paid 4 = .ok (.getfield 64, 3) := by decide +kernel
theorem dX0_paid_7 : decode cX0_paid 7 = .ok (.ifCond .ne 16, 3) := by decide +kernel
theorem dX0_paid_10 : decode cX0_paid 10 = .ok (.iload_n 2, 1) := by decide +kernel
theorem dX0_paid_11 : decode cX0_paid 11 = .ok (.bipush 8, 2) := by decide +kernel
theorem dX0_paid_13 : decode cX0_paid 13 = .ok (.if_icmp .ge 7, 3) := by decide +kernel
theorem dX0_paid_16 : decode cX0_paid 16 = .ok (.lconst 0, 1) := by decide +kernel
theorem dX0_paid_17 : decode cX0_paid 17 = .ok (.goto 5, 3) := by decide +kernel
theorem dX0_paid_20 : decode cX0_paid 20 = .ok (.iload_n 2, 1) := by decide +kernel
theorem dX0_paid_21 : decode cX0_paid 21 = .ok (.i2l, 1) := by decide +kernel
theorem dX0_paid_22 : decode cX0_paid 22 = .ok (.lreturn, 1) := by decide +kernel
theorem dX0_paid_23 : decode cX0_paid 23 = .ok (.aload_n 0, 1) := by decide +kernel
theorem dX0_paid_24 : decode cX0_paid 24 = .ok (.getfield 18, 3) := by decide +kernel
theorem dX0_paid_27 : decode cX0_paid 27 = .ok (.aload_n 1, 1) := by decide +kernel
theorem dX0_paid_28 : decode cX0_paid 28 = .ok (.getfield 69, 3) := by decide +kernel
theorem dX0_paid_31 : decode cX0_paid 31 = .ok (.invokevirtual 72, 3) := by decide +kernel
theorem dX0_paid_34 : decode cX0_paid 34 = .ok (.ifCond .eq 18, 3) := by decide +kernel
theorem dX0_paid_37 : decode cX0_paid 37 = .ok (.aload_n 0, 1) := by decide +kernel
theorem dX0_paid_38 : decode cX0_paid 38 = .ok (.getfield 18, 3) := by decide +kernel
theorem dX0_paid_41 : decode cX0_paid 41 = .ok (.getfield 76, 3) := by decide +kernel
theorem dX0_paid_44 : decode cX0_paid 44 = .ok (.aload_n 1, 1) := by decide +kernel
theorem dX0_paid_45 : decode cX0_paid 45 = .ok (.getfield 69, 3) := by decide +kernel
theorem dX0_paid_48 : decode cX0_paid 48 = .ok (.iaload, 1) := by decide +kernel
theorem dX0_paid_49 : decode cX0_paid 49 = .ok (.goto 4, 3) := by decide +kernel
theorem dX0_paid_52 : decode cX0_paid 52 = .ok (.iconst 0, 1) := by decide +kernel
theorem dX0_paid_53 : decode cX0_paid 53 = .ok (.istore_n 3, 1) := by decide +kernel
theorem dX0_paid_54 : decode cX0_paid 54 = .ok (.aload_n 0, 1) := by decide +kernel
theorem dX0_paid_55 : decode cX0_paid 55 = .ok (.getfield 22, 3) := by decide +kernel
theorem dX0_paid_58 : decode cX0_paid 58 = .ok (.iload_n 2, 1) := by decide +kernel
theorem dX0_paid_59 : decode cX0_paid 59 = .ok (.aload_n 0, 1) := by decide +kernel
theorem dX0_paid_60 : decode cX0_paid 60 = .ok (.getfield 18, 3) := by decide +kernel
theorem dX0_paid_63 : decode cX0_paid 63 = .ok (.aload_n 1, 1) := by decide +kernel
theorem dX0_paid_64 : decode cX0_paid 64 = .ok (.getfield 80, 3) := by decide +kernel
theorem dX0_paid_67 : decode cX0_paid 67 = .ok (.aload_n 1, 1) := by decide +kernel
theorem dX0_paid_68 : decode cX0_paid 68 = .ok (.getfield 83, 3) := by decide +kernel
theorem dX0_paid_71 : decode cX0_paid 71 = .ok (.invokevirtual 86, 3) := by decide +kernel
theorem dX0_paid_74 : decode cX0_paid 74 = .ok (.iload_n 3, 1) := by decide +kernel
theorem dX0_paid_75 : decode cX0_paid 75 = .ok (.aload_n 1, 1) := by decide +kernel
theorem dX0_paid_76 : decode cX0_paid 76 = .ok (.getfield 55, 3) := by decide +kernel
theorem dX0_paid_79 : decode cX0_paid 79 = .ok (.invokevirtual 89, 3) := by decide +kernel
theorem dX0_paid_82 : decode cX0_paid 82 = .ok (.lstore 4, 2) := by decide +kernel
theorem dX0_paid_84 : decode cX0_paid 84 = .ok (.lconst 0, 1) := by decide +kernel
theorem dX0_paid_85 : decode cX0_paid 85 = .ok (.iload_n 2, 1) := by decide +kernel
theorem dX0_paid_86 : decode cX0_paid 86 = .ok (.i2l, 1) := by decide +kernel
theorem dX0_paid_87 : decode cX0_paid 87 = .ok (.lload 4, 2) := by decide +kernel
theorem dX0_paid_89 : decode cX0_paid 89 = .ok (.invokestatic 93, 3) := by decide +kernel
theorem dX0_paid_92 : decode cX0_paid 92 = .ok (.invokestatic 96, 3) := by decide +kernel
theorem dX0_paid_95 : decode cX0_paid 95 = .ok (.lreturn, 1) := by decide +kernel
theorem dX0_claim_0 : decode cX0_claim 0 = .ok (.aload_n 1, 1) := by decide +kernel
theorem dX0_claim_1 : decode cX0_claim 1 = .ok (.invokevirtual 99, 3) := by decide +kernel
theorem dX0_claim_4 : decode cX0_claim 4 = .ok (.aload_n 0, 1) := by decide +kernel
theorem dX0_claim_5 : decode cX0_claim 5 = .ok (.aload_n 1, 1) := by decide +kernel
theorem dX0_claim_6 : decode cX0_claim 6 = .ok (.iload_n 2, 1) := by decide +kernel
theorem dX0_claim_7 : decode cX0_claim 7 = .ok (.invokevirtual 103, 3) := by decide +kernel
theorem dX0_claim_10 : decode cX0_claim 10 = .ok (.lmul, 1) := by decide +kernel
theorem dX0_claim_11 : decode cX0_claim 11 = .ok (.ldc2_w 107, 3) := by decide +kernel
theorem dX0_claim_14 : decode cX0_claim 14 = .ok (.ldiv, 1) := by decide +kernel
theorem dX0_claim_15 : decode cX0_claim 15 = .ok (.lreturn, 1) := by decide +kernel
theorem dX0_claimsOf_0 : decode cX0_claimsOf 0 = .ok (.lconst 0, 1) := by decide +kernel
theorem dX0_claimsOf_1 : decode cX0_claimsOf 1 = .ok (.lstore_n 2, 1) := by decide +kernel
theorem dX0_claimsOf_2 : decode cX0_claimsOf 2 = .ok (.iconst 0, 1) := by decide +kernel
theorem dX0_claimsOf_3 : decode cX0_claimsOf 3 = .ok (.istore 4, 2) := by decide +kernel
theorem dX0_claimsOf_5 : decode cX0_claimsOf 5 = .ok (.iload 4, 2) := by decide +kernel
theorem dX0_claimsOf_7 : decode cX0_claimsOf 7 = .ok (.aload_n 0, 1) := by decide +kernel
theorem dX0_claimsOf_8 : decode cX0_claimsOf 8 = .ok (.getfield 18, 3) := by decide +kernel
theorem dX0_claimsOf_11 : decode cX0_claimsOf 11 = .ok (.getfield 109, 3) := by decide +kernel
theorem dX0_claimsOf_14 : decode cX0_claimsOf 14 = .ok (.if_icmp .ge 53, 3) := by decide +kernel
theorem dX0_claimsOf_17 : decode cX0_claimsOf 17 = .ok (.aload_n 0, 1) := by decide +kernel
theorem dX0_claimsOf_18 : decode cX0_claimsOf 18 = .ok (.getfield 18, 3) := by decide +kernel
theorem dX0_claimsOf_21 : decode cX0_claimsOf 21 = .ok (.iload 4, 2) := by decide +kernel
theorem dX0_claimsOf_23 : decode cX0_claimsOf 23 = .ok (.iload_n 1, 1) := by decide +kernel
theorem dX0_claimsOf_24 : decode cX0_claimsOf 24 = .ok (.invokevirtual 112, 3) := by decide +kernel
theorem dX0_claimsOf_27 : decode cX0_claimsOf 27 = .ok (.ifCond .eq 34, 3) := by decide +kernel
theorem dX0_claimsOf_30 : decode cX0_claimsOf 30 = .ok (.lload_n 2, 1) := by decide +kernel
theorem dX0_claimsOf_31 : decode cX0_claimsOf 31 = .ok (.aload_n 0, 1) := by decide +kernel
theorem dX0_claimsOf_32 : decode cX0_claimsOf 32 = .ok (.aload_n 0, 1) := by decide +kernel
theorem dX0_claimsOf_33 : decode cX0_claimsOf 33 = .ok (.getfield 18, 3) := by decide +kernel
theorem dX0_claimsOf_36 : decode cX0_claimsOf 36 = .ok (.getfield 116, 3) := by decide +kernel
theorem dX0_claimsOf_39 : decode cX0_claimsOf 39 = .ok (.iload 4, 2) := by decide +kernel
theorem dX0_claimsOf_41 : decode cX0_claimsOf 41 = .ok (.aaload, 1) := by decide +kernel
theorem dX0_claimsOf_42 : decode cX0_claimsOf 42 = .ok (.aload_n 0, 1) := by decide +kernel
theorem dX0_claimsOf_43 : decode cX0_claimsOf 43 = .ok (.aload_n 0, 1) := by decide +kernel
theorem dX0_claimsOf_44 : decode cX0_claimsOf 44 = .ok (.getfield 18, 3) := by decide +kernel
theorem dX0_claimsOf_47 : decode cX0_claimsOf 47 = .ok (.getfield 116, 3) := by decide +kernel
theorem dX0_claimsOf_50 : decode cX0_claimsOf 50 = .ok (.iload 4, 2) := by decide +kernel
theorem dX0_claimsOf_52 : decode cX0_claimsOf 52 = .ok (.aaload, 1) := by decide +kernel
theorem dX0_claimsOf_53 : decode cX0_claimsOf 53 = .ok (.invokevirtual 120, 3) := by decide +kernel
theorem dX0_claimsOf_56 : decode cX0_claimsOf 56 = .ok (.invokevirtual 124, 3) := by decide +kernel
theorem dX0_claimsOf_59 : decode cX0_claimsOf 59 = .ok (.ladd, 1) := by decide +kernel
theorem dX0_claimsOf_60 : decode cX0_claimsOf 60 = .ok (.lstore_n 2, 1) := by decide +kernel
theorem dX0_claimsOf_61 : decode cX0_claimsOf 61 = .ok (.iinc 4 1, 3) := by decide +kernel
theorem dX0_claimsOf_64 : decode cX0_claimsOf 64 = .ok (.goto (-59), 3) := by decide +kernel
theorem dX0_claimsOf_67 : decode cX0_claimsOf 67 = .ok (.lload_n 2, 1) := by decide +kernel
theorem dX0_claimsOf_68 : decode cX0_claimsOf 68 = .ok (.lreturn, 1) := by decide +kernel
theorem dX0_claimsOfOne_0 : decode cX0_claimsOfOne 0 = .ok (.lconst 0, 1) := by decide +kernel
theorem dX0_claimsOfOne_1 : decode cX0_claimsOfOne 1 = .ok (.lstore_n 3, 1) := by decide +kernel
theorem dX0_claimsOfOne_2 : decode cX0_claimsOfOne 2 = .ok (.iconst 0, 1) := by decide +kernel
theorem dX0_claimsOfOne_3 : decode cX0_claimsOfOne 3 = .ok (.istore 5, 2) := by decide +kernel
theorem dX0_claimsOfOne_5 : decode cX0_claimsOfOne 5 = .ok (.iload 5, 2) := by decide +kernel
theorem dX0_claimsOfOne_7 : decode cX0_claimsOfOne 7 = .ok (.aload_n 0, 1) := by decide +kernel
theorem dX0_claimsOfOne_8 : decode cX0_claimsOfOne 8 = .ok (.getfield 18, 3) := by decide +kernel
theorem dX0_claimsOfOne_11 : decode cX0_claimsOfOne 11 = .ok (.getfield 109, 3) := by decide +kernel
theorem dX0_claimsOfOne_14 : decode cX0_claimsOfOne 14 = .ok (.if_icmp .ge 99, 3) := by decide +kernel
theorem dX0_claimsOfOne_17 : decode cX0_claimsOfOne 17 = .ok (.aload_n 1, 1) := by decide +kernel
theorem dX0_claimsOfOne_18 : decode cX0_claimsOfOne 18 = .ok (.ifnull 89, 3) := by decide +kernel
theorem dX0_claimsOfOne_21 : decode cX0_claimsOfOne 21 = .ok (.aload_n 0, 1) := by decide +kernel
theorem dX0_claimsOfOne_22 : decode cX0_claimsOfOne 22 = .ok (.getfield 18, 3) := by decide +kernel
theorem dX0_claimsOfOne_25 : decode cX0_claimsOfOne 25 = .ok (.iload 5, 2) := by decide +kernel
theorem dX0_claimsOfOne_27 : decode cX0_claimsOfOne 27 = .ok (.invokevirtual 127, 3) := by decide +kernel
theorem dX0_claimsOfOne_30 : decode cX0_claimsOfOne 30 = .ok (.ifCond .eq 77, 3) := by decide +kernel
theorem dX0_claimsOfOne_33 : decode cX0_claimsOfOne 33 = .ok (.aload_n 0, 1) := by decide +kernel
theorem dX0_claimsOfOne_34 : decode cX0_claimsOfOne 34 = .ok (.getfield 18, 3) := by decide +kernel
theorem dX0_claimsOfOne_37 : decode cX0_claimsOfOne 37 = .ok (.getfield 116, 3) := by decide +kernel
theorem dX0_claimsOfOne_40 : decode cX0_claimsOfOne 40 = .ok (.iload 5, 2) := by decide +kernel
theorem dX0_claimsOfOne_42 : decode cX0_claimsOfOne 42 = .ok (.aaload, 1) := by decide +kernel
theorem dX0_claimsOfOne_43 : decode cX0_claimsOfOne 43 = .ok (.getfield 55, 3) := by decide +kernel
theorem dX0_claimsOfOne_46 : decode cX0_claimsOfOne 46 = .ok (.iload_n 2, 1) := by decide +kernel
theorem dX0_claimsOfOne_47 : decode cX0_claimsOfOne 47 = .ok (.if_icmp .ne 60, 3) := by decide +kernel
theorem dX0_claimsOfOne_50 : decode cX0_claimsOfOne 50 = .ok (.aload_n 1, 1) := by decide +kernel
theorem dX0_claimsOfOne_51 : decode cX0_claimsOfOne 51 = .ok (.aload_n 0, 1) := by decide +kernel
theorem dX0_claimsOfOne_52 : decode cX0_claimsOfOne 52 = .ok (.getfield 18, 3) := by decide +kernel
theorem dX0_claimsOfOne_55 : decode cX0_claimsOfOne 55 = .ok (.getfield 116, 3) := by decide +kernel
theorem dX0_claimsOfOne_58 : decode cX0_claimsOfOne 58 = .ok (.iload 5, 2) := by decide +kernel
theorem dX0_claimsOfOne_60 : decode cX0_claimsOfOne 60 = .ok (.aaload, 1) := by decide +kernel
theorem dX0_claimsOfOne_61 : decode cX0_claimsOfOne 61 = .ok (.invokevirtual 36, 3) := by decide +kernel
theorem dX0_claimsOfOne_64 : decode cX0_claimsOfOne 64 = .ok (.ifCond .eq 43, 3) := by decide +kernel
theorem dX0_claimsOfOne_67 : decode cX0_claimsOfOne 67 = .ok (.lload_n 3, 1) := by decide +kernel
theorem dX0_claimsOfOne_68 : decode cX0_claimsOfOne 68 = .ok (.aload_n 0, 1) := by decide +kernel
theorem dX0_claimsOfOne_69 : decode cX0_claimsOfOne 69 = .ok (.aload_n 0, 1) := by decide +kernel
theorem dX0_claimsOfOne_70 : decode cX0_claimsOfOne 70 = .ok (.getfield 18, 3) := by decide +kernel
theorem dX0_claimsOfOne_73 : decode cX0_claimsOfOne 73 = .ok (.getfield 116, 3) := by decide +kernel
theorem dX0_claimsOfOne_76 : decode cX0_claimsOfOne 76 = .ok (.iload 5, 2) := by decide +kernel
theorem dX0_claimsOfOne_78 : decode cX0_claimsOfOne 78 = .ok (.aaload, 1) := by decide +kernel
theorem dX0_claimsOfOne_79 : decode cX0_claimsOfOne 79 = .ok (.bipush 100, 2) := by decide +kernel
theorem dX0_claimsOfOne_81 : decode cX0_claimsOfOne 81 = .ok (.aload_n 0, 1) := by decide +kernel
theorem dX0_claimsOfOne_82 : decode cX0_claimsOfOne 82 = .ok (.aload_n 0, 1) := by decide +kernel
theorem dX0_claimsOfOne_83 : decode cX0_claimsOfOne 83 = .ok (.getfield 18, 3) := by decide +kernel
theorem dX0_claimsOfOne_86 : decode cX0_claimsOfOne 86 = .ok (.getfield 116, 3) := by decide +kernel
theorem dX0_claimsOfOne_89 : decode cX0_claimsOfOne 89 = .ok (.iload 5, 2) := by decide +kernel
theorem dX0_claimsOfOne_91 : decode cX0_claimsOfOne 91 = .ok (.aaload, 1) := by decide +kernel
theorem dX0_claimsOfOne_92 : decode cX0_claimsOfOne 92 = .ok (.aload_n 1, 1) := by decide +kernel
theorem dX0_claimsOfOne_93 : decode cX0_claimsOfOne 93 = .ok (.getfield 42, 3) := by decide +kernel
theorem dX0_claimsOfOne_96 : decode cX0_claimsOfOne 96 = .ok (.invokevirtual 45, 3) := by decide +kernel
theorem dX0_claimsOfOne_99 : decode cX0_claimsOfOne 99 = .ok (.invokestatic 49, 3) := by decide +kernel
theorem dX0_claimsOfOne_102 : decode cX0_claimsOfOne 102 = .ok (.invokevirtual 124, 3) := by decide +kernel
theorem dX0_claimsOfOne_105 : decode cX0_claimsOfOne 105 = .ok (.ladd, 1) := by decide +kernel
theorem dX0_claimsOfOne_106 : decode cX0_claimsOfOne 106 = .ok (.lstore_n 3, 1) := by decide +kernel
theorem dX0_claimsOfOne_107 : decode cX0_claimsOfOne 107 = .ok (.iinc 5 1, 3) := by decide +kernel
theorem dX0_claimsOfOne_110 : decode cX0_claimsOfOne 110 = .ok (.goto (-105), 3) := by decide +kernel
theorem dX0_claimsOfOne_113 : decode cX0_claimsOfOne 113 = .ok (.lload_n 3, 1) := by decide +kernel
theorem dX0_claimsOfOne_114 : decode cX0_claimsOfOne 114 = .ok (.lreturn, 1) := by decide +kernel
theorem dX0_findWorst_0 : decode cX0_findWorst 0 = .ok (.aload_n 0, 1) := by decide +kernel
theorem dX0_findWorst_1 : decode cX0_findWorst 1 = .ok (.iload_n 3, 1) := by decide +kernel
theorem dX0_findWorst_2 : decode cX0_findWorst 2 = .ok (.invokevirtual 130, 3) := by decide +kernel
theorem dX0_findWorst_5 : decode cX0_findWorst 5 = .ok (.aload_n 0, 1) := by decide +kernel
theorem dX0_findWorst_6 : decode cX0_findWorst 6 = .ok (.ldc2_w 134, 3) := by decide +kernel
theorem dX0_findWorst_9 : decode cX0_findWorst 9 = .ok (.putfield 136, 3) := by decide +kernel
theorem dX0_findWorst_12 : decode cX0_findWorst 12 = .ok (.iconst 0, 1) := by decide +kernel
theorem dX0_findWorst_13 : decode cX0_findWorst 13 = .ok (.istore 4, 2) := by decide +kernel
theorem dX0_findWorst_15 : decode cX0_findWorst 15 = .ok (.iload 4, 2) := by decide +kernel
theorem dX0_findWorst_17 : decode cX0_findWorst 17 = .ok (.iload_n 2, 1) := by decide +kernel
theorem dX0_findWorst_18 : decode cX0_findWorst 18 = .ok (.iadd, 1) := by decide +kernel
theorem dX0_findWorst_19 : decode cX0_findWorst 19 = .ok (.bipush 8, 2) := by decide +kernel
theorem dX0_findWorst_21 : decode cX0_findWorst 21 = .ok (.if_icmp .gt 77, 3) := by decide +kernel
theorem dX0_findWorst_24 : decode cX0_findWorst 24 = .ok (.iconst 0, 1) := by decide +kernel
theorem dX0_findWorst_25 : decode cX0_findWorst 25 = .ok (.istore 5, 2) := by decide +kernel
theorem dX0_findWorst_27 : decode cX0_findWorst 27 = .ok (.iload 5, 2) := by decide +kernel
theorem dX0_findWorst_29 : decode cX0_findWorst 29 = .ok (.iload_n 1, 1) := by decide +kernel
theorem dX0_findWorst_30 : decode cX0_findWorst 30 = .ok (.iadd, 1) := by decide +kernel
theorem dX0_findWorst_31 : decode cX0_findWorst 31 = .ok (.bipush 8, 2) := by decide +kernel
theorem dX0_findWorst_33 : decode cX0_findWorst 33 = .ok (.if_icmp .gt 59, 3) := by decide +kernel
theorem dX0_findWorst_36 : decode cX0_findWorst 36 = .ok (.aload_n 0, 1) := by decide +kernel
theorem dX0_findWorst_37 : decode cX0_findWorst 37 = .ok (.iload 5, 2) := by decide +kernel
theorem dX0_findWorst_39 : decode cX0_findWorst 39 = .ok (.iload 4, 2) := by decide +kernel
theorem dX0_findWorst_41 : decode cX0_findWorst 41 = .ok (.iload 5, 2) := by decide +kernel
theorem dX0_findWorst_43 : decode cX0_findWorst 43 = .ok (.iload_n 1, 1) := by decide +kernel
theorem dX0_findWorst_44 : decode cX0_findWorst 44 = .ok (.iadd, 1) := by decide +kernel
theorem dX0_findWorst_45 : decode cX0_findWorst 45 = .ok (.iconst 1, 1) := by decide +kernel
theorem dX0_findWorst_46 : decode cX0_findWorst 46 = .ok (.isub, 1) := by decide +kernel
theorem dX0_findWorst_47 : decode cX0_findWorst 47 = .ok (.iload 4, 2) := by decide +kernel
theorem dX0_findWorst_49 : decode cX0_findWorst 49 = .ok (.iload_n 2, 1) := by decide +kernel
theorem dX0_findWorst_50 : decode cX0_findWorst 50 = .ok (.iadd, 1) := by decide +kernel
theorem dX0_findWorst_51 : decode cX0_findWorst 51 = .ok (.iconst 1, 1) := by decide +kernel
theorem dX0_findWorst_52 : decode cX0_findWorst 52 = .ok (.isub, 1) := by decide +kernel
theorem dX0_findWorst_53 : decode cX0_findWorst 53 = .ok (.invokevirtual 140, 3) := by decide +kernel
theorem dX0_findWorst_56 : decode cX0_findWorst 56 = .ok (.lstore 6, 2) := by decide +kernel
theorem dX0_findWorst_58 : decode cX0_findWorst 58 = .ok (.lload 6, 2) := by decide +kernel
theorem dX0_findWorst_60 : decode cX0_findWorst 60 = .ok (.aload_n 0, 1) := by decide +kernel
theorem dX0_findWorst_61 : decode cX0_findWorst 61 = .ok (.getfield 136, 3) := by decide +kernel
theorem dX0_findWorst_64 : decode cX0_findWorst 64 = .ok (.lcmp, 1) := by decide +kernel
theorem dX0_findWorst_65 : decode cX0_findWorst 65 = .ok (.ifCond .le 21, 3) := by decide +kernel
theorem dX0_findWorst_68 : decode cX0_findWorst 68 = .ok (.aload_n 0, 1) := by decide +kernel
theorem dX0_findWorst_69 : decode cX0_findWorst 69 = .ok (.lload 6, 2) := by decide +kernel
theorem dX0_findWorst_71 : decode cX0_findWorst 71 = .ok (.putfield 136, 3) := by decide +kernel
theorem dX0_findWorst_74 : decode cX0_findWorst 74 = .ok (.aload_n 0, 1) := by decide +kernel
theorem dX0_findWorst_75 : decode cX0_findWorst 75 = .ok (.iload 5, 2) := by decide +kernel
theorem dX0_findWorst_77 : decode cX0_findWorst 77 = .ok (.putfield 143, 3) := by decide +kernel
theorem dX0_findWorst_80 : decode cX0_findWorst 80 = .ok (.aload_n 0, 1) := by decide +kernel
theorem dX0_findWorst_81 : decode cX0_findWorst 81 = .ok (.iload 4, 2) := by decide +kernel
theorem dX0_findWorst_83 : decode cX0_findWorst 83 = .ok (.putfield 146, 3) := by decide +kernel
theorem dX0_findWorst_86 : decode cX0_findWorst 86 = .ok (.iinc 5 1, 3) := by decide +kernel
theorem dX0_findWorst_89 : decode cX0_findWorst 89 = .ok (.goto (-62), 3) := by decide +kernel
theorem dX0_findWorst_92 : decode cX0_findWorst 92 = .ok (.iinc 4 1, 3) := by decide +kernel
theorem dX0_findWorst_95 : decode cX0_findWorst 95 = .ok (.goto (-80), 3) := by decide +kernel
theorem dX0_findWorst_98 : decode cX0_findWorst 98 = .ok (.return_, 1) := by decide +kernel
theorem dX0_weigh_0 : decode cX0_weigh 0 = .ok (.iconst 0, 1) := by decide +kernel
theorem dX0_weigh_1 : decode cX0_weigh 1 = .ok (.istore_n 2, 1) := by decide +kernel
theorem dX0_weigh_2 : decode cX0_weigh 2 = .ok (.iload_n 2, 1) := by decide +kernel
theorem dX0_weigh_3 : decode cX0_weigh 3 = .ok (.bipush 24, 2) := by decide +kernel
theorem dX0_weigh_5 : decode cX0_weigh 5 = .ok (.if_icmp .ge 89, 3) := by decide +kernel
theorem dX0_weigh_8 : decode cX0_weigh 8 = .ok (.aload_n 0, 1) := by decide +kernel
theorem dX0_weigh_9 : decode cX0_weigh 9 = .ok (.getfield 9, 3) := by decide +kernel
theorem dX0_weigh_12 : decode cX0_weigh 12 = .ok (.iload_n 2, 1) := by decide +kernel
theorem dX0_weigh_13 : decode cX0_weigh 13 = .ok (.lconst 0, 1) := by decide +kernel
theorem dX0_weigh_14 : decode cX0_weigh 14 = .ok (.lastore, 1) := by decide +kernel
theorem dX0_weigh_15 : decode cX0_weigh 15 = .ok (.aload_n 0, 1) := by decide +kernel
theorem dX0_weigh_16 : decode cX0_weigh 16 = .ok (.getfield 15, 3) := by decide +kernel
theorem dX0_weigh_19 : decode cX0_weigh 19 = .ok (.iload_n 2, 1) := by decide +kernel
theorem dX0_weigh_20 : decode cX0_weigh 20 = .ok (.lconst 0, 1) := by decide +kernel
theorem dX0_weigh_21 : decode cX0_weigh 21 = .ok (.lastore, 1) := by decide +kernel
theorem dX0_weigh_22 : decode cX0_weigh 22 = .ok (.aload_n 0, 1) := by decide +kernel
theorem dX0_weigh_23 : decode cX0_weigh 23 = .ok (.getfield 18, 3) := by decide +kernel
theorem dX0_weigh_26 : decode cX0_weigh 26 = .ok (.iload_n 2, 1) := by decide +kernel
theorem dX0_weigh_27 : decode cX0_weigh 27 = .ok (.invokevirtual 127, 3) := by decide +kernel
theorem dX0_weigh_30 : decode cX0_weigh 30 = .ok (.ifCond .eq 58, 3) := by decide +kernel
theorem dX0_weigh_33 : decode cX0_weigh 33 = .ok (.aload_n 0, 1) := by decide +kernel
theorem dX0_weigh_34 : decode cX0_weigh 34 = .ok (.getfield 18, 3) := by decide +kernel
theorem dX0_weigh_37 : decode cX0_weigh 37 = .ok (.getfield 116, 3) := by decide +kernel
theorem dX0_weigh_40 : decode cX0_weigh 40 = .ok (.iload_n 2, 1) := by decide +kernel
theorem dX0_weigh_41 : decode cX0_weigh 41 = .ok (.aaload, 1) := by decide +kernel
theorem dX0_weigh_42 : decode cX0_weigh 42 = .ok (.astore_n 3, 1) := by decide +kernel
theorem dX0_weigh_43 : decode cX0_weigh 43 = .ok (.aload_n 0, 1) := by decide +kernel
theorem dX0_weigh_44 : decode cX0_weigh 44 = .ok (.aload_n 3, 1) := by decide +kernel
theorem dX0_weigh_45 : decode cX0_weigh 45 = .ok (.invokevirtual 120, 3) := by decide +kernel
theorem dX0_weigh_48 : decode cX0_weigh 48 = .ok (.istore 4, 2) := by decide +kernel
theorem dX0_weigh_50 : decode cX0_weigh 50 = .ok (.aload_n 0, 1) := by decide +kernel
theorem dX0_weigh_51 : decode cX0_weigh 51 = .ok (.getfield 9, 3) := by decide +kernel
theorem dX0_weigh_54 : decode cX0_weigh 54 = .ok (.iload_n 2, 1) := by decide +kernel
theorem dX0_weigh_55 : decode cX0_weigh 55 = .ok (.aload_n 0, 1) := by decide +kernel
theorem dX0_weigh_56 : decode cX0_weigh 56 = .ok (.aload_n 3, 1) := by decide +kernel
theorem dX0_weigh_57 : decode cX0_weigh 57 = .ok (.iload 4, 2) := by decide +kernel
theorem dX0_weigh_59 : decode cX0_weigh 59 = .ok (.invokevirtual 124, 3) := by decide +kernel
theorem dX0_weigh_62 : decode cX0_weigh 62 = .ok (.lastore, 1) := by decide +kernel
theorem dX0_weigh_63 : decode cX0_weigh 63 = .ok (.aload_n 0, 1) := by decide +kernel
theorem dX0_weigh_64 : decode cX0_weigh 64 = .ok (.getfield 15, 3) := by decide +kernel
theorem dX0_weigh_67 : decode cX0_weigh 67 = .ok (.iload_n 2, 1) := by decide +kernel
theorem dX0_weigh_68 : decode cX0_weigh 68 = .ok (.aload_n 0, 1) := by decide +kernel
theorem dX0_weigh_69 : decode cX0_weigh 69 = .ok (.aload_n 3, 1) := by decide +kernel
theorem dX0_weigh_70 : decode cX0_weigh 70 = .ok (.bipush 100, 2) := by decide +kernel
theorem dX0_weigh_72 : decode cX0_weigh 72 = .ok (.iload 4, 2) := by decide +kernel
theorem dX0_weigh_74 : decode cX0_weigh 74 = .ok (.aload_n 0, 1) := by decide +kernel
theorem dX0_weigh_75 : decode cX0_weigh 75 = .ok (.aload_n 3, 1) := by decide +kernel
theorem dX0_weigh_76 : decode cX0_weigh 76 = .ok (.iload_n 1, 1) := by decide +kernel
theorem dX0_weigh_77 : decode cX0_weigh 77 = .ok (.invokevirtual 45, 3) := by decide +kernel
theorem dX0_weigh_80 : decode cX0_weigh 80 = .ok (.iadd, 1) := by decide +kernel
theorem dX0_weigh_81 : decode cX0_weigh 81 = .ok (.invokestatic 49, 3) := by decide +kernel
theorem dX0_weigh_84 : decode cX0_weigh 84 = .ok (.invokevirtual 124, 3) := by decide +kernel
theorem dX0_weigh_87 : decode cX0_weigh 87 = .ok (.lastore, 1) := by decide +kernel
theorem dX0_weigh_88 : decode cX0_weigh 88 = .ok (.iinc 2 1, 3) := by decide +kernel
theorem dX0_weigh_91 : decode cX0_weigh 91 = .ok (.goto (-89), 3) := by decide +kernel
theorem dX0_weigh_94 : decode cX0_weigh 94 = .ok (.return_, 1) := by decide +kernel
theorem dX0_lossesWith_0 : decode cX0_lossesWith 0 = .ok (.lconst 0, 1) := by decide +kernel
theorem dX0_lossesWith_1 : decode cX0_lossesWith 1 = .ok (.lstore 5, 2) := by decide +kernel
theorem dX0_lossesWith_3 : decode cX0_lossesWith 3 = .ok (.iconst 0, 1) := by decide +kernel
theorem dX0_lossesWith_4 : decode cX0_lossesWith 4 = .ok (.istore 7, 2) := by decide +kernel
theorem dX0_lossesWith_6 : decode cX0_lossesWith 6 = .ok (.iload 7, 2) := by decide +kernel
theorem dX0_lossesWith_8 : decode cX0_lossesWith 8 = .ok (.aload_n 0, 1) := by decide +kernel
theorem dX0_lossesWith_9 : decode cX0_lossesWith 9 = .ok (.getfield 18, 3) := by decide +kernel
theorem dX0_lossesWith_12 : decode cX0_lossesWith 12 = .ok (.getfield 109, 3) := by decide +kernel
theorem dX0_lossesWith_15 : decode cX0_lossesWith 15 = .ok (.if_icmp .ge 104, 3) := by decide +kernel
theorem dX0_lossesWith_18 : decode cX0_lossesWith 18 = .ok (.iload 7, 2) := by decide +kernel
theorem dX0_lossesWith_20 : decode cX0_lossesWith 20 = .ok (.bipush 24, 2) := by decide +kernel
theorem dX0_lossesWith_22 : decode cX0_lossesWith 22 = .ok (.if_icmp .ge 97, 3) := by decide +kernel
theorem dX0_lossesWith_25 : decode cX0_lossesWith 25 = .ok (.aload_n 0, 1) := by decide +kernel
theorem dX0_lossesWith_26 : decode cX0_lossesWith 26 = .ok (.getfield 18, 3) := by decide +kernel
theorem dX0_lossesWith_29 : decode cX0_lossesWith 29 = .ok (.getfield 116, 3) := by decide +kernel
theorem dX0_lossesWith_32 : decode cX0_lossesWith 32 = .ok (.iload 7, 2) := by decide +kernel
theorem dX0_lossesWith_34 : decode cX0_lossesWith 34 = .ok (.aaload, 1) := by decide +kernel
theorem dX0_lossesWith_35 : decode cX0_lossesWith 35 = .ok (.astore 8, 2) := by decide +kernel
theorem dX0_lossesWith_37 : decode cX0_lossesWith 37 = .ok (.aload 8, 2) := by decide +kernel
theorem dX0_lossesWith_39 : decode cX0_lossesWith 39 = .ok (.ifnull 74, 3) := by decide +kernel
theorem dX0_lossesWith_42 : decode cX0_lossesWith 42 = .ok (.aload 8, 2) := by decide +kernel
theorem dX0_lossesWith_44 : decode cX0_lossesWith 44 = .ok (.getfield 80, 3) := by decide +kernel
theorem dX0_lossesWith_47 : decode cX0_lossesWith 47 = .ok (.iload_n 1, 1) := by decide +kernel
theorem dX0_lossesWith_48 : decode cX0_lossesWith 48 = .ok (.if_icmp .lt 35, 3) := by decide +kernel
theorem dX0_lossesWith_51 : decode cX0_lossesWith 51 = .ok (.aload 8, 2) := by decide +kernel
theorem dX0_lossesWith_53 : decode cX0_lossesWith 53 = .ok (.getfield 80, 3) := by decide +kernel
theorem dX0_lossesWith_56 : decode cX0_lossesWith 56 = .ok (.iload_n 3, 1) := by decide +kernel
theorem dX0_lossesWith_57 : decode cX0_lossesWith 57 = .ok (.if_icmp .gt 26, 3) := by decide +kernel
theorem dX0_lossesWith_60 : decode cX0_lossesWith 60 = .ok (.aload 8, 2) := by decide +kernel
theorem dX0_lossesWith_62 : decode cX0_lossesWith 62 = .ok (.getfield 83, 3) := by decide +kernel
theorem dX0_lossesWith_65 : decode cX0_lossesWith 65 = .ok (.iload_n 2, 1) := by decide +kernel
theorem dX0_lossesWith_66 : decode cX0_lossesWith 66 = .ok (.if_icmp .lt 17, 3) := by decide +kernel
theorem dX0_lossesWith_69 : decode cX0_lossesWith 69 = .ok (.aload 8, 2) := by decide +kernel
theorem dX0_lossesWith_71 : decode cX0_lossesWith 71 = .ok (.getfield 83, 3) := by decide +kernel
theorem dX0_lossesWith_74 : decode cX0_lossesWith 74 = .ok (.iload 4, 2) := by decide +kernel
theorem dX0_lossesWith_76 : decode cX0_lossesWith 76 = .ok (.if_icmp .gt 7, 3) := by decide +kernel
theorem dX0_lossesWith_79 : decode cX0_lossesWith 79 = .ok (.iconst 1, 1) := by decide +kernel
theorem dX0_lossesWith_80 : decode cX0_lossesWith 80 = .ok (.goto 4, 3) := by decide +kernel
theorem dX0_lossesWith_83 : decode cX0_lossesWith 83 = .ok (.iconst 0, 1) := by decide +kernel
theorem dX0_lossesWith_84 : decode cX0_lossesWith 84 = .ok (.istore 9, 2) := by decide +kernel
theorem dX0_lossesWith_86 : decode cX0_lossesWith 86 = .ok (.lload 5, 2) := by decide +kernel
theorem dX0_lossesWith_88 : decode cX0_lossesWith 88 = .ok (.iload 9, 2) := by decide +kernel
theorem dX0_lossesWith_90 : decode cX0_lossesWith 90 = .ok (.ifCond .eq 13, 3) := by decide +kernel
theorem dX0_lossesWith_93 : decode cX0_lossesWith 93 = .ok (.aload_n 0, 1) := by decide +kernel
theorem dX0_lossesWith_94 : decode cX0_lossesWith 94 = .ok (.getfield 15, 3) := by decide +kernel
theorem dX0_lossesWith_97 : decode cX0_lossesWith 97 = .ok (.iload 7, 2) := by decide +kernel
theorem dX0_lossesWith_99 : decode cX0_lossesWith 99 = .ok (.laload, 1) := by decide +kernel
theorem dX0_lossesWith_100 : decode cX0_lossesWith 100 = .ok (.goto 10, 3) := by decide +kernel
theorem dX0_lossesWith_103 : decode cX0_lossesWith 103 = .ok (.aload_n 0, 1) := by decide +kernel
theorem dX0_lossesWith_104 : decode cX0_lossesWith 104 = .ok (.getfield 9, 3) := by decide +kernel
theorem dX0_lossesWith_107 : decode cX0_lossesWith 107 = .ok (.iload 7, 2) := by decide +kernel
theorem dX0_lossesWith_109 : decode cX0_lossesWith 109 = .ok (.laload, 1) := by decide +kernel
theorem dX0_lossesWith_110 : decode cX0_lossesWith 110 = .ok (.ladd, 1) := by decide +kernel
theorem dX0_lossesWith_111 : decode cX0_lossesWith 111 = .ok (.lstore 5, 2) := by decide +kernel
theorem dX0_lossesWith_113 : decode cX0_lossesWith 113 = .ok (.iinc 7 1, 3) := by decide +kernel
theorem dX0_lossesWith_116 : decode cX0_lossesWith 116 = .ok (.goto (-110), 3) := by decide +kernel
theorem dX0_lossesWith_119 : decode cX0_lossesWith 119 = .ok (.lload 5, 2) := by decide +kernel
theorem dX0_lossesWith_121 : decode cX0_lossesWith 121 = .ok (.lreturn, 1) := by decide +kernel
theorem dX2_init_0 : decode cX2_init 0 = .ok (.aload_n 0, 1) := by decide +kernel
theorem dX2_init_1 : decode cX2_init 1 = .ok (.invokespecial 1, 3) := by decide +kernel
theorem dX2_init_4 : decode cX2_init 4 = .ok (.aload_n 0, 1) := by decide +kernel
theorem dX2_init_5 : decode cX2_init 5 = .ok (.iload_n 1, 1) := by decide +kernel
theorem dX2_init_6 : decode cX2_init 6 = .ok (.putfield 7, 3) := by decide +kernel
theorem dX2_init_9 : decode cX2_init 9 = .ok (.aload_n 0, 1) := by decide +kernel
theorem dX2_init_10 : decode cX2_init 10 = .ok (.iload_n 2, 1) := by decide +kernel
theorem dX2_init_11 : decode cX2_init 11 = .ok (.putfield 13, 3) := by decide +kernel
theorem dX2_init_14 : decode cX2_init 14 = .ok (.aload_n 0, 1) := by decide +kernel
theorem dX2_init_15 : decode cX2_init 15 = .ok (.iload_n 3, 1) := by decide +kernel
theorem dX2_init_16 : decode cX2_init 16 = .ok (.putfield 16, 3) := by decide +kernel
theorem dX2_init_19 : decode cX2_init 19 = .ok (.aload_n 0, 1) := by decide +kernel
theorem dX2_init_20 : decode cX2_init 20 = .ok (.iload 4, 2) := by decide +kernel
theorem dX2_init_22 : decode cX2_init 22 = .ok (.putfield 19, 3) := by decide +kernel
theorem dX2_init_25 : decode cX2_init 25 = .ok (.aload_n 0, 1) := by decide +kernel
theorem dX2_init_26 : decode cX2_init 26 = .ok (.iload 5, 2) := by decide +kernel
theorem dX2_init_28 : decode cX2_init 28 = .ok (.putfield 22, 3) := by decide +kernel
theorem dX2_init_31 : decode cX2_init 31 = .ok (.aload_n 0, 1) := by decide +kernel
theorem dX2_init_32 : decode cX2_init 32 = .ok (.iload 6, 2) := by decide +kernel
theorem dX2_init_34 : decode cX2_init 34 = .ok (.putfield 25, 3) := by decide +kernel
theorem dX2_init_37 : decode cX2_init 37 = .ok (.return_, 1) := by decide +kernel
theorem dX2_coins_0 : decode cX2_coins 0 = .ok (.aload_n 0, 1) := by decide +kernel
theorem dX2_coins_1 : decode cX2_coins 1 = .ok (.getfield 22, 3) := by decide +kernel
theorem dX2_coins_4 : decode cX2_coins 4 = .ok (.i2l, 1) := by decide +kernel
theorem dX2_coins_5 : decode cX2_coins 5 = .ok (.aload_n 0, 1) := by decide +kernel
theorem dX2_coins_6 : decode cX2_coins 6 = .ok (.getfield 25, 3) := by decide +kernel
theorem dX2_coins_9 : decode cX2_coins 9 = .ok (.i2l, 1) := by decide +kernel
theorem dX2_coins_10 : decode cX2_coins 10 = .ok (.lmul, 1) := by decide +kernel
theorem dX2_coins_11 : decode cX2_coins 11 = .ok (.lreturn, 1) := by decide +kernel
theorem dX2_isBeside_0 : decode cX2_isBeside 0 = .ok (.aload_n 0, 1) := by decide +kernel
theorem dX2_isBeside_1 : decode cX2_isBeside 1 = .ok (.getfield 13, 3) := by decide +kernel
theorem dX2_isBeside_4 : decode cX2_isBeside 4 = .ok (.iload_n 1, 1) := by decide +kernel
theorem dX2_isBeside_5 : decode cX2_isBeside 5 = .ok (.isub, 1) := by decide +kernel
theorem dX2_isBeside_6 : decode cX2_isBeside 6 = .ok (.invokestatic 28, 3) := by decide +kernel
theorem dX2_isBeside_9 : decode cX2_isBeside 9 = .ok (.aload_n 0, 1) := by decide +kernel
theorem dX2_isBeside_10 : decode cX2_isBeside 10 = .ok (.getfield 16, 3) := by decide +kernel
theorem dX2_isBeside_13 : decode cX2_isBeside 13 = .ok (.iload_n 2, 1) := by decide +kernel
theorem dX2_isBeside_14 : decode cX2_isBeside 14 = .ok (.isub, 1) := by decide +kernel
theorem dX2_isBeside_15 : decode cX2_isBeside 15 = .ok (.invokestatic 28, 3) := by decide +kernel
theorem dX2_isBeside_18 : decode cX2_isBeside 18 = .ok (.iadd, 1) := by decide +kernel
theorem dX2_isBeside_19 : decode cX2_isBeside 19 = .ok (.iconst 1, 1) := by decide +kernel
theorem dX2_isBeside_20 : decode cX2_isBeside 20 = .ok (.if_icmp .gt 7, 3) := by decide +kernel
theorem dX2_isBeside_23 : decode cX2_isBeside 23 = .ok (.iconst 1, 1) := by decide +kernel
theorem dX2_isBeside_24 : decode cX2_isBeside 24 = .ok (.goto 4, 3) := by decide +kernel
theorem dX2_isBeside_27 : decode cX2_isBeside 27 = .ok (.iconst 0, 1) := by decide +kernel
theorem dX2_isBeside_28 : decode cX2_isBeside 28 = .ok (.ireturn, 1) := by decide +kernel
theorem dX3_init_0 : decode cX3_init 0 = .ok (.aload_n 0, 1) := by decide +kernel
theorem dX3_init_1 : decode cX3_init 1 = .ok (.invokespecial 3, 3) := by decide +kernel
theorem dX3_init_4 : decode cX3_init 4 = .ok (.aload_n 0, 1) := by decide +kernel
theorem dX3_init_5 : decode cX3_init 5 = .ok (.bipush 8, 2) := by decide +kernel
theorem dX3_init_7 : decode cX3_init 7 = .ok (.anewarray 9, 3) := by decide +kernel
theorem dX3_init_10 : decode cX3_init 10 = .ok (.putfield 11, 3) := by decide +kernel
theorem dX3_init_13 : decode cX3_init 13 = .ok (.iconst 0, 1) := by decide +kernel
theorem dX3_init_14 : decode cX3_init 14 = .ok (.istore_n 1, 1) := by decide +kernel
theorem dX3_init_15 : decode cX3_init 15 = .ok (.iload_n 1, 1) := by decide +kernel
theorem dX3_init_16 : decode cX3_init 16 = .ok (.bipush 8, 2) := by decide +kernel
theorem dX3_init_18 : decode cX3_init 18 = .ok (.if_icmp .ge 22, 3) := by decide +kernel
theorem dX3_init_21 : decode cX3_init 21 = .ok (.aload_n 0, 1) := by decide +kernel
theorem dX3_init_22 : decode cX3_init 22 = .ok (.getfield 11, 3) := by decide +kernel
theorem dX3_init_25 : decode cX3_init 25 = .ok (.iload_n 1, 1) := by decide +kernel
theorem dX3_init_26 : decode cX3_init 26 = .ok (.new 9, 3) := by decide +kernel
theorem dX3_init_29 : decode cX3_init 29 = .ok (.dup, 1) := by decide +kernel
theorem dX3_init_30 : decode cX3_init 30 = .ok (.invokespecial 17, 3) := by decide +kernel
theorem dX3_init_33 : decode cX3_init 33 = .ok (.aastore, 1) := by decide +kernel
theorem dX3_init_34 : decode cX3_init 34 = .ok (.iinc 1 1, 3) := by decide +kernel
theorem dX3_init_37 : decode cX3_init 37 = .ok (.goto (-22), 3) := by decide +kernel
theorem dX3_init_40 : decode cX3_init 40 = .ok (.return_, 1) := by decide +kernel
theorem dX3_keep_0 : decode cX3_keep 0 = .ok (.aload_n 0, 1) := by decide +kernel
theorem dX3_keep_1 : decode cX3_keep 1 = .ok (.getfield 11, 3) := by decide +kernel
theorem dX3_keep_4 : decode cX3_keep 4 = .ok (.aload_n 0, 1) := by decide +kernel
theorem dX3_keep_5 : decode cX3_keep 5 = .ok (.getfield 18, 3) := by decide +kernel
theorem dX3_keep_8 : decode cX3_keep 8 = .ok (.aaload, 1) := by decide +kernel
theorem dX3_keep_9 : decode cX3_keep 9 = .ok (.ifnull 44, 3) := by decide +kernel
theorem dX3_keep_12 : decode cX3_keep 12 = .ok (.aload_n 0, 1) := by decide +kernel
theorem dX3_keep_13 : decode cX3_keep 13 = .ok (.getfield 11, 3) := by decide +kernel
theorem dX3_keep_16 : decode cX3_keep 16 = .ok (.aload_n 0, 1) := by decide +kernel
theorem dX3_keep_17 : decode cX3_keep 17 = .ok (.getfield 18, 3) := by decide +kernel
theorem dX3_keep_20 : decode cX3_keep 20 = .ok (.aaload, 1) := by decide +kernel
theorem dX3_keep_21 : decode cX3_keep 21 = .ok (.aload_n 1, 1) := by decide +kernel
theorem dX3_keep_22 : decode cX3_keep 22 = .ok (.invokevirtual 22, 3) := by decide +kernel
theorem dX3_keep_25 : decode cX3_keep 25 = .ok (.aload_n 0, 1) := by decide +kernel
theorem dX3_keep_26 : decode cX3_keep 26 = .ok (.aload_n 0, 1) := by decide +kernel
theorem dX3_keep_27 : decode cX3_keep 27 = .ok (.getfield 18, 3) := by decide +kernel
theorem dX3_keep_30 : decode cX3_keep 30 = .ok (.iconst 1, 1) := by decide +kernel
theorem dX3_keep_31 : decode cX3_keep 31 = .ok (.iadd, 1) := by decide +kernel
theorem dX3_keep_32 : decode cX3_keep 32 = .ok (.bipush 8, 2) := by decide +kernel
theorem dX3_keep_34 : decode cX3_keep 34 = .ok (.irem, 1) := by decide +kernel
theorem dX3_keep_35 : decode cX3_keep 35 = .ok (.putfield 18, 3) := by decide +kernel
theorem dX3_keep_38 : decode cX3_keep 38 = .ok (.aload_n 0, 1) := by decide +kernel
theorem dX3_keep_39 : decode cX3_keep 39 = .ok (.bipush 8, 2) := by decide +kernel
theorem dX3_keep_41 : decode cX3_keep 41 = .ok (.aload_n 0, 1) := by decide +kernel
theorem dX3_keep_42 : decode cX3_keep 42 = .ok (.getfield 26, 3) := by decide +kernel
theorem dX3_keep_45 : decode cX3_keep 45 = .ok (.iconst 1, 1) := by decide +kernel
theorem dX3_keep_46 : decode cX3_keep 46 = .ok (.iadd, 1) := by decide +kernel
theorem dX3_keep_47 : decode cX3_keep 47 = .ok (.invokestatic 29, 3) := by decide +kernel
theorem dX3_keep_50 : decode cX3_keep 50 = .ok (.putfield 26, 3) := by decide +kernel
theorem dX3_keep_53 : decode cX3_keep 53 = .ok (.return_, 1) := by decide +kernel
theorem dX3_takeBack_0 : decode cX3_takeBack 0 = .ok (.aload_n 0, 1) := by decide +kernel
theorem dX3_takeBack_1 : decode cX3_takeBack 1 = .ok (.getfield 18, 3) := by decide +kernel
theorem dX3_takeBack_4 : decode cX3_takeBack 4 = .ok (.bipush 8, 2) := by decide +kernel
theorem dX3_takeBack_6 : decode cX3_takeBack 6 = .ok (.iadd, 1) := by decide +kernel
theorem dX3_takeBack_7 : decode cX3_takeBack 7 = .ok (.iconst 1, 1) := by decide +kernel
theorem dX3_takeBack_8 : decode cX3_takeBack 8 = .ok (.isub, 1) := by decide +kernel
theorem dX3_takeBack_9 : decode cX3_takeBack 9 = .ok (.bipush 8, 2) := by decide +kernel
theorem dX3_takeBack_11 : decode cX3_takeBack 11 = .ok (.irem, 1) := by decide +kernel
theorem dX3_takeBack_12 : decode cX3_takeBack 12 = .ok (.istore_n 2, 1) := by decide +kernel
theorem dX3_takeBack_13 : decode cX3_takeBack 13 = .ok (.aload_n 0, 1) := by decide +kernel
theorem dX3_takeBack_14 : decode cX3_takeBack 14 = .ok (.getfield 26, 3) := by decide +kernel
theorem dX3_takeBack_17 : decode cX3_takeBack 17 = .ok (.ifCond .eq 12, 3) := by decide +kernel
theorem dX3_takeBack_20 : decode cX3_takeBack 20 = .ok (.aload_n 0, 1) := by decide +kernel
theorem dX3_takeBack_21 : decode cX3_takeBack 21 = .ok (.getfield 11, 3) := by decide +kernel
theorem dX3_takeBack_24 : decode cX3_takeBack 24 = .ok (.iload_n 2, 1) := by decide +kernel
theorem dX3_takeBack_25 : decode cX3_takeBack 25 = .ok (.aaload, 1) := by decide +kernel
theorem dX3_takeBack_26 : decode cX3_takeBack 26 = .ok (.ifnonnull 5, 3) := by decide +kernel
theorem dX3_takeBack_29 : decode cX3_takeBack 29 = .ok (.iconst 0, 1) := by decide +kernel
theorem dX3_takeBack_30 : decode cX3_takeBack 30 = .ok (.ireturn, 1) := by decide +kernel
theorem dX3_takeBack_31 : decode cX3_takeBack 31 = .ok (.aload_n 1, 1) := by decide +kernel
theorem dX3_takeBack_32 : decode cX3_takeBack 32 = .ok (.aload_n 0, 1) := by decide +kernel
theorem dX3_takeBack_33 : decode cX3_takeBack 33 = .ok (.getfield 11, 3) := by decide +kernel
theorem dX3_takeBack_36 : decode cX3_takeBack 36 = .ok (.iload_n 2, 1) := by decide +kernel
theorem dX3_takeBack_37 : decode cX3_takeBack 37 = .ok (.aaload, 1) := by decide +kernel
theorem dX3_takeBack_38 : decode cX3_takeBack 38 = .ok (.invokevirtual 22, 3) := by decide +kernel
theorem dX3_takeBack_41 : decode cX3_takeBack 41 = .ok (.aload_n 0, 1) := by decide +kernel
theorem dX3_takeBack_42 : decode cX3_takeBack 42 = .ok (.iload_n 2, 1) := by decide +kernel
theorem dX3_takeBack_43 : decode cX3_takeBack 43 = .ok (.putfield 18, 3) := by decide +kernel
theorem dX3_takeBack_46 : decode cX3_takeBack 46 = .ok (.aload_n 0, 1) := by decide +kernel
theorem dX3_takeBack_47 : decode cX3_takeBack 47 = .ok (.dup, 1) := by decide +kernel
theorem dX3_takeBack_48 : decode cX3_takeBack 48 = .ok (.getfield 26, 3) := by decide +kernel
theorem dX3_takeBack_51 : decode cX3_takeBack 51 = .ok (.iconst 1, 1) := by decide +kernel
theorem dX3_takeBack_52 : decode cX3_takeBack 52 = .ok (.isub, 1) := by decide +kernel
theorem dX3_takeBack_53 : decode cX3_takeBack 53 = .ok (.putfield 26, 3) := by decide +kernel
theorem dX3_takeBack_56 : decode cX3_takeBack 56 = .ok (.iconst 1, 1) := by decide +kernel
theorem dX3_takeBack_57 : decode cX3_takeBack 57 = .ok (.ireturn, 1) := by decide +kernel
theorem dX4_init_0 : decode cX4_init 0 = .ok (.aload_n 0, 1) := by decide +kernel
theorem dX4_init_1 : decode cX4_init 1 = .ok (.invokespecial 3, 3) := by decide +kernel
theorem dX4_init_4 : decode cX4_init 4 = .ok (.aload_n 0, 1) := by decide +kernel
theorem dX4_init_5 : decode cX4_init 5 = .ok (.sipush 700, 3) := by decide +kernel
theorem dX4_init_8 : decode cX4_init 8 = .ok (.newarray .int, 2) := by decide +kernel
theorem dX4_init_10 : decode cX4_init 10 = .ok (.putfield 9, 3) := by decide +kernel
theorem dX4_init_13 : decode cX4_init 13 = .ok (.aload_n 0, 1) := by decide +kernel
theorem dX4_init_14 : decode cX4_init 14 = .ok (.bipush 40, 2) := by decide +kernel
theorem dX4_init_16 : decode cX4_init 16 = .ok (.newarray .long, 2) := by decide +kernel
theorem dX4_init_18 : decode cX4_init 18 = .ok (.putfield 15, 3) := by decide +kernel
theorem dX4_init_21 : decode cX4_init 21 = .ok (.return_, 1) := by decide +kernel
theorem dX4_add_0 : decode cX4_add 0 = .ok (.aload_n 0, 1) := by decide +kernel
theorem dX4_add_1 : decode cX4_add 1 = .ok (.getfield 19, 3) := by decide +kernel
theorem dX4_add_4 : decode cX4_add 4 = .ok (.aload_n 0, 1) := by decide +kernel
theorem dX4_add_5 : decode cX4_add 5 = .ok (.getfield 9, 3) := by decide +kernel
theorem dX4_add_8 : decode cX4_add 8 = .ok (.arraylength, 1) := by decide +kernel
theorem dX4_add_9 : decode cX4_add 9 = .ok (.if_icmp .ge 23, 3) := by decide +kernel
theorem dX4_add_12 : decode cX4_add 12 = .ok (.aload_n 0, 1) := by decide +kernel
theorem dX4_add_13 : decode cX4_add 13 = .ok (.getfield 9, 3) := by decide +kernel
theorem dX4_add_16 : decode cX4_add 16 = .ok (.aload_n 0, 1) := by decide +kernel
theorem dX4_add_17 : decode cX4_add 17 = .ok (.getfield 19, 3) := by decide +kernel
theorem dX4_add_20 : decode cX4_add 20 = .ok (.iload_n 1, 1) := by decide +kernel
theorem dX4_add_21 : decode cX4_add 21 = .ok (.iastore, 1) := by decide +kernel
theorem dX4_add_22 : decode cX4_add 22 = .ok (.aload_n 0, 1) := by decide +kernel
theorem dX4_add_23 : decode cX4_add 23 = .ok (.dup, 1) := by decide +kernel
theorem dX4_add_24 : decode cX4_add 24 = .ok (.getfield 19, 3) := by decide +kernel
theorem dX4_add_27 : decode cX4_add 27 = .ok (.iconst 1, 1) := by decide +kernel
theorem dX4_add_28 : decode cX4_add 28 = .ok (.iadd, 1) := by decide +kernel
theorem dX4_add_29 : decode cX4_add 29 = .ok (.putfield 19, 3) := by decide +kernel
theorem dX4_add_32 : decode cX4_add 32 = .ok (.return_, 1) := by decide +kernel
theorem dX4_copyFrom_0 : decode cX4_copyFrom 0 = .ok (.aload_n 1, 1) := by decide +kernel
theorem dX4_copyFrom_1 : decode cX4_copyFrom 1 = .ok (.getfield 9, 3) := by decide +kernel
theorem dX4_copyFrom_4 : decode cX4_copyFrom 4 = .ok (.iconst 0, 1) := by decide +kernel
theorem dX4_copyFrom_5 : decode cX4_copyFrom 5 = .ok (.aload_n 0, 1) := by decide +kernel
theorem dX4_copyFrom_6 : decode cX4_copyFrom 6 = .ok (.getfield 9, 3) := by decide +kernel
theorem dX4_copyFrom_9 : decode cX4_copyFrom 9 = .ok (.iconst 0, 1) := by decide +kernel
theorem dX4_copyFrom_10 : decode cX4_copyFrom 10 = .ok (.sipush 700, 3) := by decide +kernel
theorem dX4_copyFrom_13 : decode cX4_copyFrom 13 = .ok (.invokestatic 23, 3) := by decide +kernel
theorem dX4_copyFrom_16 : decode cX4_copyFrom 16 = .ok (.aload_n 0, 1) := by decide +kernel
theorem dX4_copyFrom_17 : decode cX4_copyFrom 17 = .ok (.aload_n 1, 1) := by decide +kernel
theorem dX4_copyFrom_18 : decode cX4_copyFrom 18 = .ok (.getfield 19, 3) := by decide +kernel
theorem dX4_copyFrom_21 : decode cX4_copyFrom 21 = .ok (.putfield 19, 3) := by decide +kernel
theorem dX4_copyFrom_24 : decode cX4_copyFrom 24 = .ok (.return_, 1) := by decide +kernel
theorem dX4_value_0 : decode cX4_value 0 = .ok (.iconst 0, 1) := by decide +kernel
theorem dX4_value_1 : decode cX4_value 1 = .ok (.istore 5, 2) := by decide +kernel
theorem dX4_value_3 : decode cX4_value 3 = .ok (.iconst 0, 1) := by decide +kernel
theorem dX4_value_4 : decode cX4_value 4 = .ok (.istore 6, 2) := by decide +kernel
theorem dX4_value_6 : decode cX4_value 6 = .ok (.iload 6, 2) := by decide +kernel
theorem dX4_value_8 : decode cX4_value 8 = .ok (.aload_n 0, 1) := by decide +kernel
theorem dX4_value_9 : decode cX4_value 9 = .ok (.getfield 19, 3) := by decide +kernel
theorem dX4_value_12 : decode cX4_value 12 = .ok (.if_icmp .ge 124, 3) := by decide +kernel
theorem dX4_value_15 : decode cX4_value 15 = .ok (.iload 6, 2) := by decide +kernel
theorem dX4_value_17 : decode cX4_value 17 = .ok (.aload_n 0, 1) := by decide +kernel
theorem dX4_value_18 : decode cX4_value 18 = .ok (.getfield 9, 3) := by decide +kernel
theorem dX4_value_21 : decode cX4_value 21 = .ok (.arraylength, 1) := by decide +kernel
theorem dX4_value_22 : decode cX4_value 22 = .ok (.if_icmp .ge 114, 3) := by decide +kernel
theorem dX4_value_25 : decode cX4_value 25 = .ok (.aload_n 0, 1) := by decide +kernel
theorem dX4_value_26 : decode cX4_value 26 = .ok (.getfield 9, 3) := by decide +kernel
theorem dX4_value_29 : decode cX4_value 29 = .ok (.iload 6, 2) := by decide +kernel
theorem dX4_value_31 : decode cX4_value 31 = .ok (.iaload, 1) := by decide +kernel
theorem dX4_value_32 : decode cX4_value 32 = .ok (.istore 7, 2) := by decide +kernel
theorem dX4_value_34 : decode cX4_value 34 = .ok (.iload 5, 2) := by decide +kernel
theorem dX4_value_36 : decode cX4_value 36 = .ok (.iload 7, 2) := by decide +kernel
theorem dX4_value_38 : decode cX4_value 38 = .ok (.invokestatic 29, 3) := by decide +kernel
theorem dX4_value_41 : decode cX4_value 41 = .ok (.isub, 1) := by decide +kernel
theorem dX4_value_42 : decode cX4_value 42 = .ok (.istore 8, 2) := by decide +kernel
theorem dX4_value_44 : decode cX4_value 44 = .ok (.iload 8, 2) := by decide +kernel
theorem dX4_value_46 : decode cX4_value 46 = .ok (.ifCond .lt 12, 3) := by decide +kernel
theorem dX4_value_49 : decode cX4_value 49 = .ok (.iload 8, 2) := by decide +kernel
theorem dX4_value_51 : decode cX4_value 51 = .ok (.iconst 2, 1) := by decide +kernel
theorem dX4_value_52 : decode cX4_value 52 = .ok (.iadd, 1) := by decide +kernel
theorem dX4_value_53 : decode cX4_value 53 = .ok (.bipush 40, 2) := by decide +kernel
theorem dX4_value_55 : decode cX4_value 55 = .ok (.if_icmp .lt 5, 3) := by decide +kernel
theorem dX4_value_58 : decode cX4_value 58 = .ok (.lconst 0, 1) := by decide +kernel
theorem dX4_value_59 : decode cX4_value 59 = .ok (.lreturn, 1) := by decide +kernel
theorem dX4_value_60 : decode cX4_value 60 = .ok (.iload 8, 2) := by decide +kernel
theorem dX4_value_62 : decode cX4_value 62 = .ok (.iload 5, 2) := by decide +kernel
theorem dX4_value_64 : decode cX4_value 64 = .ok (.if_icmp .ne 23, 3) := by decide +kernel
theorem dX4_value_67 : decode cX4_value 67 = .ok (.aload_n 0, 1) := by decide +kernel
theorem dX4_value_68 : decode cX4_value 68 = .ok (.getfield 15, 3) := by decide +kernel
theorem dX4_value_71 : decode cX4_value 71 = .ok (.iload 8, 2) := by decide +kernel
theorem dX4_value_73 : decode cX4_value 73 = .ok (.iload 7, 2) := by decide +kernel
theorem dX4_value_75 : decode cX4_value 75 = .ok (.iload_n 1, 1) := by decide +kernel
theorem dX4_value_76 : decode cX4_value 76 = .ok (.iload_n 2, 1) := by decide +kernel
theorem dX4_value_77 : decode cX4_value 77 = .ok (.iload_n 3, 1) := by decide +kernel
theorem dX4_value_78 : decode cX4_value 78 = .ok (.iload 4, 2) := by decide +kernel
theorem dX4_value_80 : decode cX4_value 80 = .ok (.invokestatic 33, 3) := by decide +kernel
theorem dX4_value_83 : decode cX4_value 83 = .ok (.lastore, 1) := by decide +kernel
theorem dX4_value_84 : decode cX4_value 84 = .ok (.goto 40, 3) := by decide +kernel
theorem dX4_value_87 : decode cX4_value 87 = .ok (.aload_n 0, 1) := by decide +kernel
theorem dX4_value_88 : decode cX4_value 88 = .ok (.getfield 15, 3) := by decide +kernel
theorem dX4_value_91 : decode cX4_value 91 = .ok (.iload 8, 2) := by decide +kernel
theorem dX4_value_93 : decode cX4_value 93 = .ok (.iload 7, 2) := by decide +kernel
theorem dX4_value_95 : decode cX4_value 95 = .ok (.aload_n 0, 1) := by decide +kernel
theorem dX4_value_96 : decode cX4_value 96 = .ok (.getfield 15, 3) := by decide +kernel
theorem dX4_value_99 : decode cX4_value 99 = .ok (.iload 8, 2) := by decide +kernel
theorem dX4_value_101 : decode cX4_value 101 = .ok (.laload, 1) := by decide +kernel
theorem dX4_value_102 : decode cX4_value 102 = .ok (.aload_n 0, 1) := by decide +kernel
theorem dX4_value_103 : decode cX4_value 103 = .ok (.getfield 15, 3) := by decide +kernel
theorem dX4_value_106 : decode cX4_value 106 = .ok (.iload 8, 2) := by decide +kernel
theorem dX4_value_108 : decode cX4_value 108 = .ok (.iconst 1, 1) := by decide +kernel
theorem dX4_value_109 : decode cX4_value 109 = .ok (.iadd, 1) := by decide +kernel
theorem dX4_value_110 : decode cX4_value 110 = .ok (.laload, 1) := by decide +kernel
theorem dX4_value_111 : decode cX4_value 111 = .ok (.aload_n 0, 1) := by decide +kernel
theorem dX4_value_112 : decode cX4_value 112 = .ok (.getfield 15, 3) := by decide +kernel
theorem dX4_value_115 : decode cX4_value 115 = .ok (.iload 8, 2) := by decide +kernel
theorem dX4_value_117 : decode cX4_value 117 = .ok (.iconst 2, 1) := by decide +kernel
theorem dX4_value_118 : decode cX4_value 118 = .ok (.iadd, 1) := by decide +kernel
theorem dX4_value_119 : decode cX4_value 119 = .ok (.laload, 1) := by decide +kernel
theorem dX4_value_120 : decode cX4_value 120 = .ok (.invokestatic 37, 3) := by decide +kernel
theorem dX4_value_123 : decode cX4_value 123 = .ok (.lastore, 1) := by decide +kernel
theorem dX4_value_124 : decode cX4_value 124 = .ok (.iload 8, 2) := by decide +kernel
theorem dX4_value_126 : decode cX4_value 126 = .ok (.iconst 1, 1) := by decide +kernel
theorem dX4_value_127 : decode cX4_value 127 = .ok (.iadd, 1) := by decide +kernel
theorem dX4_value_128 : decode cX4_value 128 = .ok (.istore 5, 2) := by decide +kernel
theorem dX4_value_130 : decode cX4_value 130 = .ok (.iinc 6 1, 3) := by decide +kernel
theorem dX4_value_133 : decode cX4_value 133 = .ok (.goto (-127), 3) := by decide +kernel
theorem dX4_value_136 : decode cX4_value 136 = .ok (.aload_n 0, 1) := by decide +kernel
theorem dX4_value_137 : decode cX4_value 137 = .ok (.getfield 15, 3) := by decide +kernel
theorem dX4_value_140 : decode cX4_value 140 = .ok (.iconst 0, 1) := by decide +kernel
theorem dX4_value_141 : decode cX4_value 141 = .ok (.laload, 1) := by decide +kernel
theorem dX4_value_142 : decode cX4_value 142 = .ok (.lreturn, 1) := by decide +kernel
theorem dX4_operands_0 : decode cX4_operands 0 = .ok (.iload_n 0, 1) := by decide +kernel
theorem dX4_operands_1 : decode cX4_operands 1 = .ok (.lookupswitch 71 #[(-1015, 67), (-1014, 69), (-1013, 69), (-47, 69), (-45, 69), (-43, 69), (-42, 69)], 67) := by decide +kernel
theorem dX4_operands_68 : decode cX4_operands 68 = .ok (.iconst 3, 1) := by decide +kernel
theorem dX4_operands_69 : decode cX4_operands 69 = .ok (.ireturn, 1) := by decide +kernel
theorem dX4_operands_70 : decode cX4_operands 70 = .ok (.iconst 2, 1) := by decide +kernel
theorem dX4_operands_71 : decode cX4_operands 71 = .ok (.ireturn, 1) := by decide +kernel
theorem dX4_operands_72 : decode cX4_operands 72 = .ok (.iconst 0, 1) := by decide +kernel
theorem dX4_operands_73 : decode cX4_operands 73 = .ok (.ireturn, 1) := by decide +kernel
theorem dX4_leaf_0 : decode cX4_leaf 0 = .ok (.iload_n 0, 1) := by decide +kernel
theorem dX4_leaf_1 : decode cX4_leaf 1 = .ok (.lookupswitch 56 #[(-1012, 49), (-1011, 43), (-1003, 52), (-1002, 46)], 43) := by decide +kernel
theorem dX4_leaf_44 : decode cX4_leaf 44 = .ok (.iload_n 1, 1) := by decide +kernel
theorem dX4_leaf_45 : decode cX4_leaf 45 = .ok (.i2l, 1) := by decide +kernel
theorem dX4_leaf_46 : decode cX4_leaf 46 = .ok (.lreturn, 1) := by decide +kernel
theorem dX4_leaf_47 : decode cX4_leaf 47 = .ok (.iload_n 2, 1) := by decide +kernel
theorem dX4_leaf_48 : decode cX4_leaf 48 = .ok (.i2l, 1) := by decide +kernel
theorem dX4_leaf_49 : decode cX4_leaf 49 = .ok (.lreturn, 1) := by decide +kernel
theorem dX4_leaf_50 : decode cX4_leaf 50 = .ok (.iload_n 3, 1) := by decide +kernel
theorem dX4_leaf_51 : decode cX4_leaf 51 = .ok (.i2l, 1) := by decide +kernel
theorem dX4_leaf_52 : decode cX4_leaf 52 = .ok (.lreturn, 1) := by decide +kernel
theorem dX4_leaf_53 : decode cX4_leaf 53 = .ok (.iload 4, 2) := by decide +kernel
theorem dX4_leaf_55 : decode cX4_leaf 55 = .ok (.i2l, 1) := by decide +kernel
theorem dX4_leaf_56 : decode cX4_leaf 56 = .ok (.lreturn, 1) := by decide +kernel
theorem dX4_leaf_57 : decode cX4_leaf 57 = .ok (.iload_n 0, 1) := by decide +kernel
theorem dX4_leaf_58 : decode cX4_leaf 58 = .ok (.i2l, 1) := by decide +kernel
theorem dX4_leaf_59 : decode cX4_leaf 59 = .ok (.lreturn, 1) := by decide +kernel
theorem dX4_operate_0 : decode cX4_operate 0 = .ok (.iload_n 0, 1) := by decide +kernel
theorem dX4_operate_1 : decode cX4_operate 1 = .ok (.lookupswitch 109 #[(-1014, 97), (-1013, 85), (-47, 71), (-45, 63), (-43, 59), (-42, 67)], 59) := by decide +kernel
theorem dX4_operate_60 : decode cX4_operate 60 = .ok (.lload_n 1, 1) := by decide +kernel
theorem dX4_operate_61 : decode cX4_operate 61 = .ok (.lload_n 3, 1) := by decide +kernel
theorem dX4_operate_62 : decode cX4_operate 62 = .ok (.ladd, 1) := by decide +kernel
theorem dX4_operate_63 : decode cX4_operate 63 = .ok (.lreturn, 1) := by decide +kernel
theorem dX4_operate_64 : decode cX4_operate 64 = .ok (.lload_n 1, 1) := by decide +kernel
theorem dX4_operate_65 : decode cX4_operate 65 = .ok (.lload_n 3, 1) := by decide +kernel
theorem dX4_operate_66 : decode cX4_operate 66 = .ok (.lsub, 1) := by decide +kernel
theorem dX4_operate_67 : decode cX4_operate 67 = .ok (.lreturn, 1) := by decide +kernel
theorem dX4_operate_68 : decode cX4_operate 68 = .ok (.lload_n 1, 1) := by decide +kernel
theorem dX4_operate_69 : decode cX4_operate 69 = .ok (.lload_n 3, 1) := by decide +kernel
theorem dX4_operate_70 : decode cX4_operate 70 = .ok (.lmul, 1) := by decide +kernel
theorem dX4_operate_71 : decode cX4_operate 71 = .ok (.lreturn, 1) := by decide +kernel
theorem dX4_operate_72 : decode cX4_operate 72 = .ok (.lload_n 3, 1) := by decide +kernel
theorem dX4_operate_73 : decode cX4_operate 73 = .ok (.lconst 0, 1) := by decide +kernel
theorem dX4_operate_74 : decode cX4_operate 74 = .ok (.lcmp, 1) := by decide +kernel
theorem dX4_operate_75 : decode cX4_operate 75 = .ok (.ifCond .ne 7, 3) := by decide +kernel
theorem dX4_operate_78 : decode cX4_operate 78 = .ok (.lconst 0, 1) := by decide +kernel
theorem dX4_operate_79 : decode cX4_operate 79 = .ok (.goto 6, 3) := by decide +kernel
theorem dX4_operate_82 : decode cX4_operate 82 = .ok (.lload_n 1, 1) := by decide +kernel
theorem dX4_operate_83 : decode cX4_operate 83 = .ok (.lload_n 3, 1) := by decide +kernel
theorem dX4_operate_84 : decode cX4_operate 84 = .ok (.ldiv, 1) := by decide +kernel
theorem dX4_operate_85 : decode cX4_operate 85 = .ok (.lreturn, 1) := by decide +kernel
theorem dX4_operate_86 : decode cX4_operate 86 = .ok (.lload_n 1, 1) := by decide +kernel
theorem dX4_operate_87 : decode cX4_operate 87 = .ok (.lload_n 3, 1) := by decide +kernel
theorem dX4_operate_88 : decode cX4_operate 88 = .ok (.lcmp, 1) := by decide +kernel
theorem dX4_operate_89 : decode cX4_operate 89 = .ok (.ifCond .ge 7, 3) := by decide +kernel
theorem dX4_operate_92 : decode cX4_operate 92 = .ok (.lload_n 1, 1) := by decide +kernel
theorem dX4_operate_93 : decode cX4_operate 93 = .ok (.goto 4, 3) := by decide +kernel
theorem dX4_operate_96 : decode cX4_operate 96 = .ok (.lload_n 3, 1) := by decide +kernel
theorem dX4_operate_97 : decode cX4_operate 97 = .ok (.lreturn, 1) := by decide +kernel
theorem dX4_operate_98 : decode cX4_operate 98 = .ok (.lload_n 1, 1) := by decide +kernel
theorem dX4_operate_99 : decode cX4_operate 99 = .ok (.lload_n 3, 1) := by decide +kernel
theorem dX4_operate_100 : decode cX4_operate 100 = .ok (.lcmp, 1) := by decide +kernel
theorem dX4_operate_101 : decode cX4_operate 101 = .ok (.ifCond .le 7, 3) := by decide +kernel
theorem dX4_operate_104 : decode cX4_operate 104 = .ok (.lload_n 1, 1) := by decide +kernel
theorem dX4_operate_105 : decode cX4_operate 105 = .ok (.goto 4, 3) := by decide +kernel
theorem dX4_operate_108 : decode cX4_operate 108 = .ok (.lload_n 3, 1) := by decide +kernel
theorem dX4_operate_109 : decode cX4_operate 109 = .ok (.lreturn, 1) := by decide +kernel
theorem dX4_operate_110 : decode cX4_operate 110 = .ok (.lload_n 1, 1) := by decide +kernel
theorem dX4_operate_111 : decode cX4_operate 111 = .ok (.lconst 0, 1) := by decide +kernel
theorem dX4_operate_112 : decode cX4_operate 112 = .ok (.lcmp, 1) := by decide +kernel
theorem dX4_operate_113 : decode cX4_operate 113 = .ok (.ifCond .le 7, 3) := by decide +kernel
theorem dX4_operate_116 : decode cX4_operate 116 = .ok (.lload_n 3, 1) := by decide +kernel
theorem dX4_operate_117 : decode cX4_operate 117 = .ok (.goto 5, 3) := by decide +kernel
theorem dX4_operate_120 : decode cX4_operate 120 = .ok (.lload 5, 2) := by decide +kernel
theorem dX4_operate_122 : decode cX4_operate 122 = .ok (.lreturn, 1) := by decide +kernel
theorem dX6_init_0 : decode cX6_init 0 = .ok (.aload_n 0, 1) := by decide +kernel
theorem dX6_init_1 : decode cX6_init 1 = .ok (.invokespecial 3, 3) := by decide +kernel
theorem dX6_init_4 : decode cX6_init 4 = .ok (.aload_n 0, 1) := by decide +kernel
theorem dX6_init_5 : decode cX6_init 5 = .ok (.bipush 7, 2) := by decide +kernel
theorem dX6_init_7 : decode cX6_init 7 = .ok (.newarray .long, 2) := by decide +kernel
theorem dX6_init_9 : decode cX6_init 9 = .ok (.putfield 9, 3) := by decide +kernel
theorem dX6_init_12 : decode cX6_init 12 = .ok (.aload_n 0, 1) := by decide +kernel
theorem dX6_init_13 : decode cX6_init 13 = .ok (.bipush 64, 2) := by decide +kernel
theorem dX6_init_15 : decode cX6_init 15 = .ok (.newarray .int, 2) := by decide +kernel
theorem dX6_init_17 : decode cX6_init 17 = .ok (.putfield 15, 3) := by decide +kernel
theorem dX6_init_20 : decode cX6_init 20 = .ok (.aload_n 0, 1) := by decide +kernel
theorem dX6_init_21 : decode cX6_init 21 = .ok (.iconst 4, 1) := by decide +kernel
theorem dX6_init_22 : decode cX6_init 22 = .ok (.newarray .int, 2) := by decide +kernel
theorem dX6_init_24 : decode cX6_init 24 = .ok (.putfield 19, 3) := by decide +kernel
theorem dX6_init_27 : decode cX6_init 27 = .ok (.aload_n 0, 1) := by decide +kernel
theorem dX6_init_28 : decode cX6_init 28 = .ok (.bipush 12, 2) := by decide +kernel
theorem dX6_init_30 : decode cX6_init 30 = .ok (.newarray .long, 2) := by decide +kernel
theorem dX6_init_32 : decode cX6_init 32 = .ok (.putfield 22, 3) := by decide +kernel
theorem dX6_init_35 : decode cX6_init 35 = .ok (.aload_n 0, 1) := by decide +kernel
theorem dX6_init_36 : decode cX6_init 36 = .ok (.bipush 12, 2) := by decide +kernel
theorem dX6_init_38 : decode cX6_init 38 = .ok (.newarray .boolean, 2) := by decide +kernel
theorem dX6_init_40 : decode cX6_init 40 = .ok (.putfield 25, 3) := by decide +kernel
theorem dX6_init_43 : decode cX6_init 43 = .ok (.aload_n 0, 1) := by decide +kernel
theorem dX6_init_44 : decode cX6_init 44 = .ok (.bipush 12, 2) := by decide +kernel
theorem dX6_init_46 : decode cX6_init 46 = .ok (.newarray .boolean, 2) := by decide +kernel
theorem dX6_init_48 : decode cX6_init 48 = .ok (.putfield 29, 3) := by decide +kernel
theorem dX6_init_51 : decode cX6_init 51 = .ok (.aload_n 0, 1) := by decide +kernel
theorem dX6_init_52 : decode cX6_init 52 = .ok (.bipush 12, 2) := by decide +kernel
theorem dX6_init_54 : decode cX6_init 54 = .ok (.newarray .int, 2) := by decide +kernel
theorem dX6_init_56 : decode cX6_init 56 = .ok (.putfield 32, 3) := by decide +kernel
theorem dX6_init_59 : decode cX6_init 59 = .ok (.aload_n 0, 1) := by decide +kernel
theorem dX6_init_60 : decode cX6_init 60 = .ok (.bipush 24, 2) := by decide +kernel
theorem dX6_init_62 : decode cX6_init 62 = .ok (.anewarray 35, 3) := by decide +kernel
theorem dX6_init_65 : decode cX6_init 65 = .ok (.putfield 37, 3) := by decide +kernel
theorem dX6_init_68 : decode cX6_init 68 = .ok (.aload_n 0, 1) := by decide +kernel
theorem dX6_init_69 : decode cX6_init 69 = .ok (.bipush 16, 2) := by decide +kernel
theorem dX6_init_71 : decode cX6_init 71 = .ok (.anewarray 41, 3) := by decide +kernel
theorem dX6_init_74 : decode cX6_init 74 = .ok (.putfield 43, 3) := by decide +kernel
theorem dX6_init_77 : decode cX6_init 77 = .ok (.aload_n 0, 1) := by decide +kernel
theorem dX6_init_78 : decode cX6_init 78 = .ok (.bipush 12, 2) := by decide +kernel
theorem dX6_init_80 : decode cX6_init 80 = .ok (.newarray .boolean, 2) := by decide +kernel
theorem dX6_init_82 : decode cX6_init 82 = .ok (.putfield 47, 3) := by decide +kernel
theorem dX6_init_85 : decode cX6_init 85 = .ok (.aload_n 0, 1) := by decide +kernel
theorem dX6_init_86 : decode cX6_init 86 = .ok (.bipush 6, 2) := by decide +kernel
theorem dX6_init_88 : decode cX6_init 88 = .ok (.bipush 12, 2) := by decide +kernel
theorem dX6_init_90 : decode cX6_init 90 = .ok (.multianewarray 50 2, 4) := by decide +kernel
theorem dX6_init_94 : decode cX6_init 94 = .ok (.putfield 52, 3) := by decide +kernel
theorem dX6_init_97 : decode cX6_init 97 = .ok (.aload_n 0, 1) := by decide +kernel
theorem dX6_init_98 : decode cX6_init 98 = .ok (.invokevirtual 55, 3) := by decide +kernel
theorem dX6_init_101 : decode cX6_init 101 = .ok (.return_, 1) := by decide +kernel
theorem dX6_clear_0 : decode cX6_clear 0 = .ok (.iconst 0, 1) := by decide +kernel
theorem dX6_clear_1 : decode cX6_clear 1 = .ok (.istore_n 1, 1) := by decide +kernel
theorem dX6_clear_2 : decode cX6_clear 2 = .ok (.iload_n 1, 1) := by decide +kernel
theorem dX6_clear_3 : decode cX6_clear 3 = .ok (.bipush 64, 2) := by decide +kernel
theorem dX6_clear_5 : decode cX6_clear 5 = .ok (.if_icmp .ge 16, 3) := by decide +kernel
theorem dX6_clear_8 : decode cX6_clear 8 = .ok (.aload_n 0, 1) := by decide +kernel
theorem dX6_clear_9 : decode cX6_clear 9 = .ok (.getfield 15, 3) := by decide +kernel
theorem dX6_clear_12 : decode cX6_clear 12 = .ok (.iload_n 1, 1) := by decide +kernel
theorem dX6_clear_13 : decode cX6_clear 13 = .ok (.iconst 1, 1) := by decide +kernel
theorem dX6_clear_14 : decode cX6_clear 14 = .ok (.iastore, 1) := by decide +kernel
theorem dX6_clear_15 : decode cX6_clear 15 = .ok (.iinc 1 1, 3) := by decide +kernel
theorem dX6_clear_18 : decode cX6_clear 18 = .ok (.goto (-16), 3) := by decide +kernel
theorem dX6_clear_21 : decode cX6_clear 21 = .ok (.iconst 0, 1) := by decide +kernel
theorem dX6_clear_22 : decode cX6_clear 22 = .ok (.istore_n 1, 1) := by decide +kernel
theorem dX6_clear_23 : decode cX6_clear 23 = .ok (.iload_n 1, 1) := by decide +kernel
theorem dX6_clear_24 : decode cX6_clear 24 = .ok (.iconst 4, 1) := by decide +kernel
theorem dX6_clear_25 : decode cX6_clear 25 = .ok (.if_icmp .ge 17, 3) := by decide +kernel
theorem dX6_clear_28 : decode cX6_clear 28 = .ok (.aload_n 0, 1) := by decide +kernel
theorem dX6_clear_29 : decode cX6_clear 29 = .ok (.getfield 19, 3) := by decide +kernel
theorem dX6_clear_32 : decode cX6_clear 32 = .ok (.iload_n 1, 1) := by decide +kernel
theorem dX6_clear_33 : decode cX6_clear 33 = .ok (.bipush 100, 2) := by decide +kernel
theorem dX6_clear_35 : decode cX6_clear 35 = .ok (.iastore, 1) := by decide +kernel
theorem dX6_clear_36 : decode cX6_clear 36 = .ok (.iinc 1 1, 3) := by decide +kernel
theorem dX6_clear_39 : decode cX6_clear 39 = .ok (.goto (-16), 3) := by decide +kernel
theorem dX6_clear_42 : decode cX6_clear 42 = .ok (.iconst 0, 1) := by decide +kernel
theorem dX6_clear_43 : decode cX6_clear 43 = .ok (.istore_n 1, 1) := by decide +kernel
theorem dX6_clear_44 : decode cX6_clear 44 = .ok (.iload_n 1, 1) := by decide +kernel
theorem dX6_clear_45 : decode cX6_clear 45 = .ok (.bipush 12, 2) := by decide +kernel
theorem dX6_clear_47 : decode cX6_clear 47 = .ok (.if_icmp .ge 37, 3) := by decide +kernel
theorem dX6_clear_50 : decode cX6_clear 50 = .ok (.aload_n 0, 1) := by decide +kernel
theorem dX6_clear_51 : decode cX6_clear 51 = .ok (.getfield 25, 3) := by decide +kernel
theorem dX6_clear_54 : decode cX6_clear 54 = .ok (.iload_n 1, 1) := by decide +kernel
theorem dX6_clear_55 : decode cX6_clear 55 = .ok (.iconst 0, 1) := by decide +kernel
theorem dX6_clear_56 : decode cX6_clear 56 = .ok (.bastore, 1) := by decide +kernel
theorem dX6_clear_57 : decode cX6_clear 57 = .ok (.aload_n 0, 1) := by decide +kernel
theorem dX6_clear_58 : decode cX6_clear 58 = .ok (.getfield 29, 3) := by decide +kernel
theorem dX6_clear_61 : decode cX6_clear 61 = .ok (.iload_n 1, 1) := by decide +kernel
theorem dX6_clear_62 : decode cX6_clear 62 = .ok (.iconst 0, 1) := by decide +kernel
theorem dX6_clear_63 : decode cX6_clear 63 = .ok (.bastore, 1) := by decide +kernel
theorem dX6_clear_64 : decode cX6_clear 64 = .ok (.aload_n 0, 1) := by decide +kernel
theorem dX6_clear_65 : decode cX6_clear 65 = .ok (.getfield 32, 3) := by decide +kernel
theorem dX6_clear_68 : decode cX6_clear 68 = .ok (.iload_n 1, 1) := by decide +kernel
theorem dX6_clear_69 : decode cX6_clear 69 = .ok (.iconst 0, 1) := by decide +kernel
theorem dX6_clear_70 : decode cX6_clear 70 = .ok (.iastore, 1) := by decide +kernel
theorem dX6_clear_71 : decode cX6_clear 71 = .ok (.aload_n 0, 1) := by decide +kernel
theorem dX6_clear_72 : decode cX6_clear 72 = .ok (.getfield 47, 3) := by decide +kernel
theorem dX6_clear_75 : decode cX6_clear 75 = .ok (.iload_n 1, 1) := by decide +kernel
theorem dX6_clear_76 : decode cX6_clear 76 = .ok (.iconst 0, 1) := by decide +kernel
theorem dX6_clear_77 : decode cX6_clear 77 = .ok (.bastore, 1) := by decide +kernel
theorem dX6_clear_78 : decode cX6_clear 78 = .ok (.iinc 1 1, 3) := by decide +kernel
theorem dX6_clear_81 : decode cX6_clear 81 = .ok (.goto (-37), 3) := by decide +kernel
theorem dX6_clear_84 : decode cX6_clear 84 = .ok (.aload_n 0, 1) := by decide +kernel
theorem dX6_clear_85 : decode cX6_clear 85 = .ok (.getfield 9, 3) := by decide +kernel
theorem dX6_clear_88 : decode cX6_clear 88 = .ok (.iconst 0, 1) := by decide +kernel
theorem dX6_clear_89 : decode cX6_clear 89 = .ok (.ldc2_w 58, 3) := by decide +kernel
theorem dX6_clear_92 : decode cX6_clear 92 = .ok (.lastore, 1) := by decide +kernel
theorem dX6_clear_93 : decode cX6_clear 93 = .ok (.aload_n 0, 1) := by decide +kernel
theorem dX6_clear_94 : decode cX6_clear 94 = .ok (.getfield 9, 3) := by decide +kernel
theorem dX6_clear_97 : decode cX6_clear 97 = .ok (.iconst 1, 1) := by decide +kernel
theorem dX6_clear_98 : decode cX6_clear 98 = .ok (.lconst 0, 1) := by decide +kernel
theorem dX6_clear_99 : decode cX6_clear 99 = .ok (.lastore, 1) := by decide +kernel
theorem dX6_clear_100 : decode cX6_clear 100 = .ok (.aload_n 0, 1) := by decide +kernel
theorem dX6_clear_101 : decode cX6_clear 101 = .ok (.getfield 9, 3) := by decide +kernel
theorem dX6_clear_104 : decode cX6_clear 104 = .ok (.iconst 2, 1) := by decide +kernel
theorem dX6_clear_105 : decode cX6_clear 105 = .ok (.ldc2_w 60, 3) := by decide +kernel
theorem dX6_clear_108 : decode cX6_clear 108 = .ok (.lastore, 1) := by decide +kernel
theorem dX6_clear_109 : decode cX6_clear 109 = .ok (.aload_n 0, 1) := by decide +kernel
theorem dX6_clear_110 : decode cX6_clear 110 = .ok (.getfield 9, 3) := by decide +kernel
theorem dX6_clear_113 : decode cX6_clear 113 = .ok (.iconst 3, 1) := by decide +kernel
theorem dX6_clear_114 : decode cX6_clear 114 = .ok (.lconst 0, 1) := by decide +kernel
theorem dX6_clear_115 : decode cX6_clear 115 = .ok (.lastore, 1) := by decide +kernel
theorem dX6_clear_116 : decode cX6_clear 116 = .ok (.aload_n 0, 1) := by decide +kernel
theorem dX6_clear_117 : decode cX6_clear 117 = .ok (.getfield 9, 3) := by decide +kernel
theorem dX6_clear_120 : decode cX6_clear 120 = .ok (.iconst 4, 1) := by decide +kernel
theorem dX6_clear_121 : decode cX6_clear 121 = .ok (.ldc2_w 62, 3) := by decide +kernel
theorem dX6_clear_124 : decode cX6_clear 124 = .ok (.lastore, 1) := by decide +kernel
theorem dX6_clear_125 : decode cX6_clear 125 = .ok (.aload_n 0, 1) := by decide +kernel
theorem dX6_clear_126 : decode cX6_clear 126 = .ok (.getfield 9, 3) := by decide +kernel
theorem dX6_clear_129 : decode cX6_clear 129 = .ok (.iconst 5, 1) := by decide +kernel
theorem dX6_clear_130 : decode cX6_clear 130 = .ok (.ldc2_w 64, 3) := by decide +kernel
theorem dX6_clear_133 : decode cX6_clear 133 = .ok (.lastore, 1) := by decide +kernel
theorem dX6_clear_134 : decode cX6_clear 134 = .ok (.aload_n 0, 1) := by decide +kernel
theorem dX6_clear_135 : decode cX6_clear 135 = .ok (.getfield 9, 3) := by decide +kernel
theorem dX6_clear_138 : decode cX6_clear 138 = .ok (.bipush 6, 2) := by decide +kernel
theorem dX6_clear_140 : decode cX6_clear 140 = .ok (.ldc2_w 58, 3) := by decide +kernel
theorem dX6_clear_143 : decode cX6_clear 143 = .ok (.lastore, 1) := by decide +kernel
theorem dX6_clear_144 : decode cX6_clear 144 = .ok (.aload_n 0, 1) := by decide +kernel
theorem dX6_clear_145 : decode cX6_clear 145 = .ok (.iconst 0, 1) := by decide +kernel
theorem dX6_clear_146 : decode cX6_clear 146 = .ok (.putfield 66, 3) := by decide +kernel
theorem dX6_clear_149 : decode cX6_clear 149 = .ok (.aload_n 0, 1) := by decide +kernel
theorem dX6_clear_150 : decode cX6_clear 150 = .ok (.iconst 0, 1) := by decide +kernel
theorem dX6_clear_151 : decode cX6_clear 151 = .ok (.putfield 70, 3) := by decide +kernel
theorem dX6_clear_154 : decode cX6_clear 154 = .ok (.aload_n 0, 1) := by decide +kernel
theorem dX6_clear_155 : decode cX6_clear 155 = .ok (.iconst 0, 1) := by decide +kernel
theorem dX6_clear_156 : decode cX6_clear 156 = .ok (.putfield 73, 3) := by decide +kernel
theorem dX6_clear_159 : decode cX6_clear 159 = .ok (.aload_n 0, 1) := by decide +kernel
theorem dX6_clear_160 : decode cX6_clear 160 = .ok (.iconst 0, 1) := by decide +kernel
theorem dX6_clear_161 : decode cX6_clear 161 = .ok (.putfield 76, 3) := by decide +kernel
theorem dX6_clear_164 : decode cX6_clear 164 = .ok (.return_, 1) := by decide +kernel
theorem dX6_copyFrom_0 : decode cX6_copyFrom 0 = .ok (.aload_n 1, 1) := by decide +kernel
theorem dX6_copyFrom_1 : decode cX6_copyFrom 1 = .ok (.getfield 9, 3) := by decide +kernel
theorem dX6_copyFrom_4 : decode cX6_copyFrom 4 = .ok (.iconst 0, 1) := by decide +kernel
theorem dX6_copyFrom_5 : decode cX6_copyFrom 5 = .ok (.aload_n 0, 1) := by decide +kernel
theorem dX6_copyFrom_6 : decode cX6_copyFrom 6 = .ok (.getfield 9, 3) := by decide +kernel
theorem dX6_copyFrom_9 : decode cX6_copyFrom 9 = .ok (.iconst 0, 1) := by decide +kernel
theorem dX6_copyFrom_10 : decode cX6_copyFrom 10 = .ok (.bipush 7, 2) := by decide +kernel
theorem dX6_copyFrom_12 : decode cX6_copyFrom 12 = .ok (.invokestatic 79, 3) := by decide +kernel
theorem dX6_copyFrom_15 : decode cX6_copyFrom 15 = .ok (.aload_n 1, 1) := by decide +kernel
theorem dX6_copyFrom_16 : decode cX6_copyFrom 16 = .ok (.getfield 15, 3) := by decide +kernel
theorem dX6_copyFrom_19 : decode cX6_copyFrom 19 = .ok (.iconst 0, 1) := by decide +kernel
theorem dX6_copyFrom_20 : decode cX6_copyFrom 20 = .ok (.aload_n 0, 1) := by decide +kernel
theorem dX6_copyFrom_21 : decode cX6_copyFrom 21 = .ok (.getfield 15, 3) := by decide +kernel
theorem dX6_copyFrom_24 : decode cX6_copyFrom 24 = .ok (.iconst 0, 1) := by decide +kernel
theorem dX6_copyFrom_25 : decode cX6_copyFrom 25 = .ok (.bipush 64, 2) := by decide +kernel
theorem dX6_copyFrom_27 : decode cX6_copyFrom 27 = .ok (.invokestatic 79, 3) := by decide +kernel
theorem dX6_copyFrom_30 : decode cX6_copyFrom 30 = .ok (.aload_n 1, 1) := by decide +kernel
theorem dX6_copyFrom_31 : decode cX6_copyFrom 31 = .ok (.getfield 19, 3) := by decide +kernel
theorem dX6_copyFrom_34 : decode cX6_copyFrom 34 = .ok (.iconst 0, 1) := by decide +kernel
theorem dX6_copyFrom_35 : decode cX6_copyFrom 35 = .ok (.aload_n 0, 1) := by decide +kernel
theorem dX6_copyFrom_36 : decode cX6_copyFrom 36 = .ok (.getfield 19, 3) := by decide +kernel
theorem dX6_copyFrom_39 : decode cX6_copyFrom 39 = .ok (.iconst 0, 1) := by decide +kernel
theorem dX6_copyFrom_40 : decode cX6_copyFrom 40 = .ok (.iconst 4, 1) := by decide +kernel
theorem dX6_copyFrom_41 : decode cX6_copyFrom 41 = .ok (.invokestatic 79, 3) := by decide +kernel
theorem dX6_copyFrom_44 : decode cX6_copyFrom 44 = .ok (.aload_n 1, 1) := by decide +kernel
theorem dX6_copyFrom_45 : decode cX6_copyFrom 45 = .ok (.getfield 22, 3) := by decide +kernel
theorem dX6_copyFrom_48 : decode cX6_copyFrom 48 = .ok (.iconst 0, 1) := by decide +kernel
theorem dX6_copyFrom_49 : decode cX6_copyFrom 49 = .ok (.aload_n 0, 1) := by decide +kernel
theorem dX6_copyFrom_50 : decode cX6_copyFrom 50 = .ok (.getfield 22, 3) := by decide +kernel
theorem dX6_copyFrom_53 : decode cX6_copyFrom 53 = .ok (.iconst 0, 1) := by decide +kernel
theorem dX6_copyFrom_54 : decode cX6_copyFrom 54 = .ok (.bipush 12, 2) := by decide +kernel
theorem dX6_copyFrom_56 : decode cX6_copyFrom 56 = .ok (.invokestatic 79, 3) := by decide +kernel
theorem dX6_copyFrom_59 : decode cX6_copyFrom 59 = .ok (.aload_n 1, 1) := by decide +kernel
theorem dX6_copyFrom_60 : decode cX6_copyFrom 60 = .ok (.getfield 32, 3) := by decide +kernel
theorem dX6_copyFrom_63 : decode cX6_copyFrom 63 = .ok (.iconst 0, 1) := by decide +kernel
theorem dX6_copyFrom_64 : decode cX6_copyFrom 64 = .ok (.aload_n 0, 1) := by decide +kernel
theorem dX6_copyFrom_65 : decode cX6_copyFrom 65 = .ok (.getfield 32, 3) := by decide +kernel
theorem dX6_copyFrom_68 : decode cX6_copyFrom 68 = .ok (.iconst 0, 1) := by decide +kernel
theorem dX6_copyFrom_69 : decode cX6_copyFrom 69 = .ok (.bipush 12, 2) := by decide +kernel
theorem dX6_copyFrom_71 : decode cX6_copyFrom 71 = .ok (.invokestatic 79, 3) := by decide +kernel
theorem dX6_copyFrom_74 : decode cX6_copyFrom 74 = .ok (.iconst 0, 1) := by decide +kernel
theorem dX6_copyFrom_75 : decode cX6_copyFrom 75 = .ok (.istore_n 2, 1) := by decide +kernel
theorem dX6_copyFrom_76 : decode cX6_copyFrom 76 = .ok (.iload_n 2, 1) := by decide +kernel
theorem dX6_copyFrom_77 : decode cX6_copyFrom 77 = .ok (.bipush 12, 2) := by decide +kernel
theorem dX6_copyFrom_79 : decode cX6_copyFrom 79 = .ok (.if_icmp .ge 45, 3) := by decide +kernel
theorem dX6_copyFrom_82 : decode cX6_copyFrom 82 = .ok (.aload_n 0, 1) := by decide +kernel
theorem dX6_copyFrom_83 : decode cX6_copyFrom 83 = .ok (.getfield 25, 3) := by decide +kernel
theorem dX6_copyFrom_86 : decode cX6_copyFrom 86 = .ok (.iload_n 2, 1) := by decide +kernel
theorem dX6_copyFrom_87 : decode cX6_copyFrom 87 = .ok (.aload_n 1, 1) := by decide +kernel
theorem dX6_copyFrom_88 : decode cX6_copyFrom 88 = .ok (.getfield 25, 3) := by decide +kernel
theorem dX6_copyFrom_91 : decode cX6_copyFrom 91 = .ok (.iload_n 2, 1) := by decide +kernel
theorem dX6_copyFrom_92 : decode cX6_copyFrom 92 = .ok (.baload, 1) := by decide +kernel
theorem dX6_copyFrom_93 : decode cX6_copyFrom 93 = .ok (.bastore, 1) := by decide +kernel
theorem dX6_copyFrom_94 : decode cX6_copyFrom 94 = .ok (.aload_n 0, 1) := by decide +kernel
theorem dX6_copyFrom_95 : decode cX6_copyFrom 95 = .ok (.getfield 29, 3) := by decide +kernel
theorem dX6_copyFrom_98 : decode cX6_copyFrom 98 = .ok (.iload_n 2, 1) := by decide +kernel
theorem dX6_copyFrom_99 : decode cX6_copyFrom 99 = .ok (.aload_n 1, 1) := by decide +kernel
theorem dX6_copyFrom_100 : decode cX6_copyFrom 100 = .ok (.getfield 29, 3) := by decide +kernel
theorem dX6_copyFrom_103 : decode cX6_copyFrom 103 = .ok (.iload_n 2, 1) := by decide +kernel
theorem dX6_copyFrom_104 : decode cX6_copyFrom 104 = .ok (.baload, 1) := by decide +kernel
theorem dX6_copyFrom_105 : decode cX6_copyFrom 105 = .ok (.bastore, 1) := by decide +kernel
theorem dX6_copyFrom_106 : decode cX6_copyFrom 106 = .ok (.aload_n 0, 1) := by decide +kernel
theorem dX6_copyFrom_107 : decode cX6_copyFrom 107 = .ok (.getfield 47, 3) := by decide +kernel
theorem dX6_copyFrom_110 : decode cX6_copyFrom 110 = .ok (.iload_n 2, 1) := by decide +kernel
theorem dX6_copyFrom_111 : decode cX6_copyFrom 111 = .ok (.aload_n 1, 1) := by decide +kernel
theorem dX6_copyFrom_112 : decode cX6_copyFrom 112 = .ok (.getfield 47, 3) := by decide +kernel
theorem dX6_copyFrom_115 : decode cX6_copyFrom 115 = .ok (.iload_n 2, 1) := by decide +kernel
theorem dX6_copyFrom_116 : decode cX6_copyFrom 116 = .ok (.baload, 1) := by decide +kernel
theorem dX6_copyFrom_117 : decode cX6_copyFrom 117 = .ok (.bastore, 1) := by decide +kernel
theorem dX6_copyFrom_118 : decode cX6_copyFrom 118 = .ok (.iinc 2 1, 3) := by decide +kernel
theorem dX6_copyFrom_121 : decode cX6_copyFrom 121 = .ok (.goto (-45), 3) := by decide +kernel
theorem dX6_copyFrom_124 : decode cX6_copyFrom 124 = .ok (.iconst 0, 1) := by decide +kernel
theorem dX6_copyFrom_125 : decode cX6_copyFrom 125 = .ok (.istore_n 2, 1) := by decide +kernel
theorem dX6_copyFrom_126 : decode cX6_copyFrom 126 = .ok (.iload_n 2, 1) := by decide +kernel
theorem dX6_copyFrom_127 : decode cX6_copyFrom 127 = .ok (.bipush 24, 2) := by decide +kernel
theorem dX6_copyFrom_129 : decode cX6_copyFrom 129 = .ok (.if_icmp .ge 21, 3) := by decide +kernel
theorem dX6_copyFrom_132 : decode cX6_copyFrom 132 = .ok (.aload_n 0, 1) := by decide +kernel
theorem dX6_copyFrom_133 : decode cX6_copyFrom 133 = .ok (.getfield 37, 3) := by decide +kernel
theorem dX6_copyFrom_136 : decode cX6_copyFrom 136 = .ok (.iload_n 2, 1) := by decide +kernel
theorem dX6_copyFrom_137 : decode cX6_copyFrom 137 = .ok (.aload_n 1, 1) := by decide +kernel
theorem dX6_copyFrom_138 : decode cX6_copyFrom 138 = .ok (.getfield 37, 3) := by decide +kernel
theorem dX6_copyFrom_141 : decode cX6_copyFrom 141 = .ok (.iload_n 2, 1) := by decide +kernel
theorem dX6_copyFrom_142 : decode cX6_copyFrom 142 = .ok (.aaload, 1) := by decide +kernel
theorem dX6_copyFrom_143 : decode cX6_copyFrom 143 = .ok (.aastore, 1) := by decide +kernel
theorem dX6_copyFrom_144 : decode cX6_copyFrom 144 = .ok (.iinc 2 1, 3) := by decide +kernel
theorem dX6_copyFrom_147 : decode cX6_copyFrom 147 = .ok (.goto (-21), 3) := by decide +kernel
theorem dX6_copyFrom_150 : decode cX6_copyFrom 150 = .ok (.iconst 0, 1) := by decide +kernel
theorem dX6_copyFrom_151 : decode cX6_copyFrom 151 = .ok (.istore_n 2, 1) := by decide +kernel
theorem dX6_copyFrom_152 : decode cX6_copyFrom 152 = .ok (.iload_n 2, 1) := by decide +kernel
theorem dX6_copyFrom_153 : decode cX6_copyFrom 153 = .ok (.bipush 16, 2) := by decide +kernel
theorem dX6_copyFrom_155 : decode cX6_copyFrom 155 = .ok (.if_icmp .ge 21, 3) := by decide +kernel
theorem dX6_copyFrom_158 : decode cX6_copyFrom 158 = .ok (.aload_n 0, 1) := by decide +kernel
theorem dX6_copyFrom_159 : decode cX6_copyFrom 159 = .ok (.getfield 43, 3) := by decide +kernel
theorem dX6_copyFrom_162 : decode cX6_copyFrom 162 = .ok (.iload_n 2, 1) := by decide +kernel
theorem dX6_copyFrom_163 : decode cX6_copyFrom 163 = .ok (.aload_n 1, 1) := by decide +kernel
theorem dX6_copyFrom_164 : decode cX6_copyFrom 164 = .ok (.getfield 43, 3) := by decide +kernel
theorem dX6_copyFrom_167 : decode cX6_copyFrom 167 = .ok (.iload_n 2, 1) := by decide +kernel
theorem dX6_copyFrom_168 : decode cX6_copyFrom 168 = .ok (.aaload, 1) := by decide +kernel
theorem dX6_copyFrom_169 : decode cX6_copyFrom 169 = .ok (.aastore, 1) := by decide +kernel
theorem dX6_copyFrom_170 : decode cX6_copyFrom 170 = .ok (.iinc 2 1, 3) := by decide +kernel
theorem dX6_copyFrom_173 : decode cX6_copyFrom 173 = .ok (.goto (-21), 3) := by decide +kernel
theorem dX6_copyFrom_176 : decode cX6_copyFrom 176 = .ok (.aload_n 0, 1) := by decide +kernel
theorem dX6_copyFrom_177 : decode cX6_copyFrom 177 = .ok (.aload_n 1, 1) := by decide +kernel
theorem dX6_copyFrom_178 : decode cX6_copyFrom 178 = .ok (.getfield 52, 3) := by decide +kernel
theorem dX6_copyFrom_181 : decode cX6_copyFrom 181 = .ok (.invokevirtual 85, 3) := by decide +kernel
theorem dX6_copyFrom_184 : decode cX6_copyFrom 184 = .ok (.aload_n 0, 1) := by decide +kernel
theorem dX6_copyFrom_185 : decode cX6_copyFrom 185 = .ok (.aload_n 1, 1) := by decide +kernel
theorem dX6_copyFrom_186 : decode cX6_copyFrom 186 = .ok (.getfield 66, 3) := by decide +kernel
theorem dX6_copyFrom_189 : decode cX6_copyFrom 189 = .ok (.putfield 66, 3) := by decide +kernel
theorem dX6_copyFrom_192 : decode cX6_copyFrom 192 = .ok (.aload_n 0, 1) := by decide +kernel
theorem dX6_copyFrom_193 : decode cX6_copyFrom 193 = .ok (.aload_n 1, 1) := by decide +kernel
theorem dX6_copyFrom_194 : decode cX6_copyFrom 194 = .ok (.getfield 70, 3) := by decide +kernel
theorem dX6_copyFrom_197 : decode cX6_copyFrom 197 = .ok (.putfield 70, 3) := by decide +kernel
theorem dX6_copyFrom_200 : decode cX6_copyFrom 200 = .ok (.aload_n 0, 1) := by decide +kernel
theorem dX6_copyFrom_201 : decode cX6_copyFrom 201 = .ok (.aload_n 1, 1) := by decide +kernel
theorem dX6_copyFrom_202 : decode cX6_copyFrom 202 = .ok (.getfield 73, 3) := by decide +kernel
theorem dX6_copyFrom_205 : decode cX6_copyFrom 205 = .ok (.putfield 73, 3) := by decide +kernel
theorem dX6_copyFrom_208 : decode cX6_copyFrom 208 = .ok (.aload_n 0, 1) := by decide +kernel
theorem dX6_copyFrom_209 : decode cX6_copyFrom 209 = .ok (.aload_n 1, 1) := by decide +kernel
theorem dX6_copyFrom_210 : decode cX6_copyFrom 210 = .ok (.getfield 76, 3) := by decide +kernel
theorem dX6_copyFrom_213 : decode cX6_copyFrom 213 = .ok (.putfield 76, 3) := by decide +kernel
theorem dX6_copyFrom_216 : decode cX6_copyFrom 216 = .ok (.return_, 1) := by decide +kernel
theorem dX6_copyEndRows_0 : decode cX6_copyEndRows 0 = .ok (.iconst 0, 1) := by decide +kernel
theorem dX6_copyEndRows_1 : decode cX6_copyEndRows 1 = .ok (.istore_n 2, 1) := by decide +kernel
theorem dX6_copyEndRows_2 : decode cX6_copyEndRows 2 = .ok (.iload_n 2, 1) := by decide +kernel
theorem dX6_copyEndRows_3 : decode cX6_copyEndRows 3 = .ok (.bipush 6, 2) := by decide +kernel
theorem dX6_copyEndRows_5 : decode cX6_copyEndRows 5 = .ok (.if_icmp .ge 25, 3) := by decide +kernel
theorem dX6_copyEndRows_8 : decode cX6_copyEndRows 8 = .ok (.aload_n 1, 1) := by decide +kernel
theorem dX6_copyEndRows_9 : decode cX6_copyEndRows 9 = .ok (.iload_n 2, 1) := by decide +kernel
theorem dX6_copyEndRows_10 : decode cX6_copyEndRows 10 = .ok (.aaload, 1) := by decide +kernel
theorem dX6_copyEndRows_11 : decode cX6_copyEndRows 11 = .ok (.iconst 0, 1) := by decide +kernel
theorem dX6_copyEndRows_12 : decode cX6_copyEndRows 12 = .ok (.aload_n 0, 1) := by decide +kernel
theorem dX6_copyEndRows_13 : decode cX6_copyEndRows 13 = .ok (.getfield 52, 3) := by decide +kernel
theorem dX6_copyEndRows_16 : decode cX6_copyEndRows 16 = .ok (.iload_n 2, 1) := by decide +kernel
theorem dX6_copyEndRows_17 : decode cX6_copyEndRows 17 = .ok (.aaload, 1) := by decide +kernel
theorem dX6_copyEndRows_18 : decode cX6_copyEndRows 18 = .ok (.iconst 0, 1) := by decide +kernel
theorem dX6_copyEndRows_19 : decode cX6_copyEndRows 19 = .ok (.bipush 12, 2) := by decide +kernel
theorem dX6_copyEndRows_21 : decode cX6_copyEndRows 21 = .ok (.invokestatic 79, 3) := by decide +kernel
theorem dX6_copyEndRows_24 : decode cX6_copyEndRows 24 = .ok (.iinc 2 1, 3) := by decide +kernel
theorem dX6_copyEndRows_27 : decode cX6_copyEndRows 27 = .ok (.goto (-25), 3) := by decide +kernel
theorem dX6_copyEndRows_30 : decode cX6_copyEndRows 30 = .ok (.return_, 1) := by decide +kernel
theorem dX6_addMember_0 : decode cX6_addMember 0 = .ok (.aload_n 0, 1) := by decide +kernel
theorem dX6_addMember_1 : decode cX6_addMember 1 = .ok (.getfield 66, 3) := by decide +kernel
theorem dX6_addMember_4 : decode cX6_addMember 4 = .ok (.bipush 12, 2) := by decide +kernel
theorem dX6_addMember_6 : decode cX6_addMember 6 = .ok (.if_icmp .ge 33, 3) := by decide +kernel
theorem dX6_addMember_9 : decode cX6_addMember 9 = .ok (.aload_n 0, 1) := by decide +kernel
theorem dX6_addMember_10 : decode cX6_addMember 10 = .ok (.getfield 22, 3) := by decide +kernel
theorem dX6_addMember_13 : decode cX6_addMember 13 = .ok (.aload_n 0, 1) := by decide +kernel
theorem dX6_addMember_14 : decode cX6_addMember 14 = .ok (.getfield 66, 3) := by decide +kernel
theorem dX6_addMember_17 : decode cX6_addMember 17 = .ok (.lload_n 1, 1) := by decide +kernel
theorem dX6_addMember_18 : decode cX6_addMember 18 = .ok (.lastore, 1) := by decide +kernel
theorem dX6_addMember_19 : decode cX6_addMember 19 = .ok (.aload_n 0, 1) := by decide +kernel
theorem dX6_addMember_20 : decode cX6_addMember 20 = .ok (.getfield 25, 3) := by decide +kernel
theorem dX6_addMember_23 : decode cX6_addMember 23 = .ok (.aload_n 0, 1) := by decide +kernel
theorem dX6_addMember_24 : decode cX6_addMember 24 = .ok (.getfield 66, 3) := by decide +kernel
theorem dX6_addMember_27 : decode cX6_addMember 27 = .ok (.iconst 1, 1) := by decide +kernel
theorem dX6_addMember_28 : decode cX6_addMember 28 = .ok (.bastore, 1) := by decide +kernel
theorem dX6_addMember_29 : decode cX6_addMember 29 = .ok (.aload_n 0, 1) := by decide +kernel
theorem dX6_addMember_30 : decode cX6_addMember 30 = .ok (.dup, 1) := by decide +kernel
theorem dX6_addMember_31 : decode cX6_addMember 31 = .ok (.getfield 66, 3) := by decide +kernel
theorem dX6_addMember_34 : decode cX6_addMember 34 = .ok (.iconst 1, 1) := by decide +kernel
theorem dX6_addMember_35 : decode cX6_addMember 35 = .ok (.iadd, 1) := by decide +kernel
theorem dX6_addMember_36 : decode cX6_addMember 36 = .ok (.putfield 66, 3) := by decide +kernel
theorem dX6_addMember_39 : decode cX6_addMember 39 = .ok (.return_, 1) := by decide +kernel
theorem dX6_addField_0 : decode cX6_addField 0 = .ok (.aload_n 0, 1) := by decide +kernel
theorem dX6_addField_1 : decode cX6_addField 1 = .ok (.getfield 70, 3) := by decide +kernel
theorem dX6_addField_4 : decode cX6_addField 4 = .ok (.bipush 24, 2) := by decide +kernel
theorem dX6_addField_6 : decode cX6_addField 6 = .ok (.if_icmp .ge 23, 3) := by decide +kernel
theorem dX6_addField_9 : decode cX6_addField 9 = .ok (.aload_n 0, 1) := by decide +kernel
theorem dX6_addField_10 : decode cX6_addField 10 = .ok (.getfield 37, 3) := by decide +kernel
theorem dX6_addField_13 : decode cX6_addField 13 = .ok (.aload_n 0, 1) := by decide +kernel
theorem dX6_addField_14 : decode cX6_addField 14 = .ok (.getfield 70, 3) := by decide +kernel
theorem dX6_addField_17 : decode cX6_addField 17 = .ok (.aload_n 1, 1) := by decide +kernel
theorem dX6_addField_18 : decode cX6_addField 18 = .ok (.aastore, 1) := by decide +kernel
theorem dX6_addField_19 : decode cX6_addField 19 = .ok (.aload_n 0, 1) := by decide +kernel
theorem dX6_addField_20 : decode cX6_addField 20 = .ok (.dup, 1) := by decide +kernel
theorem dX6_addField_21 : decode cX6_addField 21 = .ok (.getfield 70, 3) := by decide +kernel
theorem dX6_addField_24 : decode cX6_addField 24 = .ok (.iconst 1, 1) := by decide +kernel
theorem dX6_addField_25 : decode cX6_addField 25 = .ok (.iadd, 1) := by decide +kernel
theorem dX6_addField_26 : decode cX6_addField 26 = .ok (.putfield 70, 3) := by decide +kernel
theorem dX6_addField_29 : decode cX6_addField 29 = .ok (.return_, 1) := by decide +kernel
theorem dX6_addStorm_0 : decode cX6_addStorm 0 = .ok (.aload_n 0, 1) := by decide +kernel
theorem dX6_addStorm_1 : decode cX6_addStorm 1 = .ok (.getfield 73, 3) := by decide +kernel
theorem dX6_addStorm_4 : decode cX6_addStorm 4 = .ok (.bipush 16, 2) := by decide +kernel
theorem dX6_addStorm_6 : decode cX6_addStorm 6 = .ok (.if_icmp .ge 23, 3) := by decide +kernel
theorem dX6_addStorm_9 : decode cX6_addStorm 9 = .ok (.aload_n 0, 1) := by decide +kernel
theorem dX6_addStorm_10 : decode cX6_addStorm 10 = .ok (.getfield 43, 3) := by decide +kernel
theorem dX6_addStorm_13 : decode cX6_addStorm 13 = .ok (.aload_n 0, 1) := by decide +kernel
theorem dX6_addStorm_14 : decode cX6_addStorm 14 = .ok (.getfield 73, 3) := by decide +kernel
theorem dX6_addStorm_17 : decode cX6_addStorm 17 = .ok (.aload_n 1, 1) := by decide +kernel
theorem dX6_addStorm_18 : decode cX6_addStorm 18 = .ok (.aastore, 1) := by decide +kernel
theorem dX6_addStorm_19 : decode cX6_addStorm 19 = .ok (.aload_n 0, 1) := by decide +kernel
theorem dX6_addStorm_20 : decode cX6_addStorm 20 = .ok (.dup, 1) := by decide +kernel
theorem dX6_addStorm_21 : decode cX6_addStorm 21 = .ok (.getfield 73, 3) := by decide +kernel
theorem dX6_addStorm_24 : decode cX6_addStorm 24 = .ok (.iconst 1, 1) := by decide +kernel
theorem dX6_addStorm_25 : decode cX6_addStorm 25 = .ok (.iadd, 1) := by decide +kernel
theorem dX6_addStorm_26 : decode cX6_addStorm 26 = .ok (.putfield 73, 3) := by decide +kernel
theorem dX6_addStorm_29 : decode cX6_addStorm 29 = .ok (.return_, 1) := by decide +kernel
theorem dX6_endYear_0 : decode cX6_endYear 0 = .ok (.iconst 0, 1) := by decide +kernel
theorem dX6_endYear_1 : decode cX6_endYear 1 = .ok (.istore_n 2, 1) := by decide +kernel
theorem dX6_endYear_2 : decode cX6_endYear 2 = .ok (.iload_n 2, 1) := by decide +kernel
theorem dX6_endYear_3 : decode cX6_endYear 3 = .ok (.bipush 12, 2) := by decide +kernel
theorem dX6_endYear_5 : decode cX6_endYear 5 = .ok (.if_icmp .ge 69, 3) := by decide +kernel
theorem dX6_endYear_8 : decode cX6_endYear 8 = .ok (.aload_n 0, 1) := by decide +kernel
theorem dX6_endYear_9 : decode cX6_endYear 9 = .ok (.getfield 47, 3) := by decide +kernel
theorem dX6_endYear_12 : decode cX6_endYear 12 = .ok (.iload_n 2, 1) := by decide +kernel
theorem dX6_endYear_13 : decode cX6_endYear 13 = .ok (.aload_n 1, 1) := by decide +kernel
theorem dX6_endYear_14 : decode cX6_endYear 14 = .ok (.getfield 89, 3) := by decide +kernel
theorem dX6_endYear_17 : decode cX6_endYear 17 = .ok (.iload_n 2, 1) := by decide +kernel
theorem dX6_endYear_18 : decode cX6_endYear 18 = .ok (.baload, 1) := by decide +kernel
theorem dX6_endYear_19 : decode cX6_endYear 19 = .ok (.bastore, 1) := by decide +kernel
theorem dX6_endYear_20 : decode cX6_endYear 20 = .ok (.aload_n 1, 1) := by decide +kernel
theorem dX6_endYear_21 : decode cX6_endYear 21 = .ok (.getfield 89, 3) := by decide +kernel
theorem dX6_endYear_24 : decode cX6_endYear 24 = .ok (.iload_n 2, 1) := by decide +kernel
theorem dX6_endYear_25 : decode cX6_endYear 25 = .ok (.baload, 1) := by decide +kernel
theorem dX6_endYear_26 : decode cX6_endYear 26 = .ok (.ifCond .ne 6, 3) := by decide +kernel
theorem dX6_endYear_29 : decode cX6_endYear 29 = .ok (.goto 39, 3) := by decide +kernel
theorem dX6_endYear_32 : decode cX6_endYear 32 = .ok (.aload_n 0, 1) := by decide +kernel
theorem dX6_endYear_33 : decode cX6_endYear 33 = .ok (.getfield 29, 3) := by decide +kernel
theorem dX6_endYear_36 : decode cX6_endYear 36 = .ok (.iload_n 2, 1) := by decide +kernel
theorem dX6_endYear_37 : decode cX6_endYear 37 = .ok (.baload, 1) := by decide +kernel
theorem dX6_endYear_38 : decode cX6_endYear 38 = .ok (.ifCond .eq 20, 3) := by decide +kernel
theorem dX6_endYear_41 : decode cX6_endYear 41 = .ok (.aload_n 0, 1) := by decide +kernel
theorem dX6_endYear_42 : decode cX6_endYear 42 = .ok (.getfield 25, 3) := by decide +kernel
theorem dX6_endYear_45 : decode cX6_endYear 45 = .ok (.iload_n 2, 1) := by decide +kernel
theorem dX6_endYear_46 : decode cX6_endYear 46 = .ok (.iconst 0, 1) := by decide +kernel
theorem dX6_endYear_47 : decode cX6_endYear 47 = .ok (.bastore, 1) := by decide +kernel
theorem dX6_endYear_48 : decode cX6_endYear 48 = .ok (.aload_n 0, 1) := by decide +kernel
theorem dX6_endYear_49 : decode cX6_endYear 49 = .ok (.getfield 29, 3) := by decide +kernel
theorem dX6_endYear_52 : decode cX6_endYear 52 = .ok (.iload_n 2, 1) := by decide +kernel
theorem dX6_endYear_53 : decode cX6_endYear 53 = .ok (.iconst 0, 1) := by decide +kernel
theorem dX6_endYear_54 : decode cX6_endYear 54 = .ok (.bastore, 1) := by decide +kernel
theorem dX6_endYear_55 : decode cX6_endYear 55 = .ok (.goto 13, 3) := by decide +kernel
theorem dX6_endYear_58 : decode cX6_endYear 58 = .ok (.aload_n 0, 1) := by decide +kernel
theorem dX6_endYear_59 : decode cX6_endYear 59 = .ok (.getfield 32, 3) := by decide +kernel
theorem dX6_endYear_62 : decode cX6_endYear 62 = .ok (.iload_n 2, 1) := by decide +kernel
theorem dX6_endYear_63 : decode cX6_endYear 63 = .ok (.dup2, 1) := by decide +kernel
theorem dX6_endYear_64 : decode cX6_endYear 64 = .ok (.iaload, 1) := by decide +kernel
theorem dX6_endYear_65 : decode cX6_endYear 65 = .ok (.iconst 1, 1) := by decide +kernel
theorem dX6_endYear_66 : decode cX6_endYear 66 = .ok (.iadd, 1) := by decide +kernel
theorem dX6_endYear_67 : decode cX6_endYear 67 = .ok (.iastore, 1) := by decide +kernel
theorem dX6_endYear_68 : decode cX6_endYear 68 = .ok (.iinc 2 1, 3) := by decide +kernel
theorem dX6_endYear_71 : decode cX6_endYear 71 = .ok (.goto (-69), 3) := by decide +kernel
theorem dX6_endYear_74 : decode cX6_endYear 74 = .ok (.aload_n 0, 1) := by decide +kernel
theorem dX6_endYear_75 : decode cX6_endYear 75 = .ok (.aload_n 1, 1) := by decide +kernel
theorem dX6_endYear_76 : decode cX6_endYear 76 = .ok (.getfield 94, 3) := by decide +kernel
theorem dX6_endYear_79 : decode cX6_endYear 79 = .ok (.invokevirtual 85, 3) := by decide +kernel
theorem dX6_endYear_82 : decode cX6_endYear 82 = .ok (.aload_n 0, 1) := by decide +kernel
theorem dX6_endYear_83 : decode cX6_endYear 83 = .ok (.getfield 9, 3) := by decide +kernel
theorem dX6_endYear_86 : decode cX6_endYear 86 = .ok (.iconst 1, 1) := by decide +kernel
theorem dX6_endYear_87 : decode cX6_endYear 87 = .ok (.aload_n 1, 1) := by decide +kernel
theorem dX6_endYear_88 : decode cX6_endYear 88 = .ok (.getfield 97, 3) := by decide +kernel
theorem dX6_endYear_91 : decode cX6_endYear 91 = .ok (.bipush 10, 2) := by decide +kernel
theorem dX6_endYear_93 : decode cX6_endYear 93 = .ok (.laload, 1) := by decide +kernel
theorem dX6_endYear_94 : decode cX6_endYear 94 = .ok (.lastore, 1) := by decide +kernel
theorem dX6_endYear_95 : decode cX6_endYear 95 = .ok (.aload_n 0, 1) := by decide +kernel
theorem dX6_endYear_96 : decode cX6_endYear 96 = .ok (.iconst 0, 1) := by decide +kernel
theorem dX6_endYear_97 : decode cX6_endYear 97 = .ok (.putfield 73, 3) := by decide +kernel
theorem dX6_endYear_100 : decode cX6_endYear 100 = .ok (.aload_n 0, 1) := by decide +kernel
theorem dX6_endYear_101 : decode cX6_endYear 101 = .ok (.dup, 1) := by decide +kernel
theorem dX6_endYear_102 : decode cX6_endYear 102 = .ok (.getfield 76, 3) := by decide +kernel
theorem dX6_endYear_105 : decode cX6_endYear 105 = .ok (.iconst 1, 1) := by decide +kernel
theorem dX6_endYear_106 : decode cX6_endYear 106 = .ok (.iadd, 1) := by decide +kernel
theorem dX6_endYear_107 : decode cX6_endYear 107 = .ok (.putfield 76, 3) := by decide +kernel
theorem dX6_endYear_110 : decode cX6_endYear 110 = .ok (.return_, 1) := by decide +kernel
theorem dX6_isKnown_0 : decode cX6_isKnown 0 = .ok (.iload_n 1, 1) := by decide +kernel
theorem dX6_isKnown_1 : decode cX6_isKnown 1 = .ok (.ifCond .lt 15, 3) := by decide +kernel
theorem dX6_isKnown_4 : decode cX6_isKnown 4 = .ok (.iload_n 1, 1) := by decide +kernel
theorem dX6_isKnown_5 : decode cX6_isKnown 5 = .ok (.aload_n 0, 1) := by decide +kernel
theorem dX6_isKnown_6 : decode cX6_isKnown 6 = .ok (.getfield 66, 3) := by decide +kernel
theorem dX6_isKnown_9 : decode cX6_isKnown 9 = .ok (.if_icmp .ge 7, 3) := by decide +kernel
theorem dX6_isKnown_12 : decode cX6_isKnown 12 = .ok (.iconst 1, 1) := by decide +kernel
theorem dX6_isKnown_13 : decode cX6_isKnown 13 = .ok (.goto 4, 3) := by decide +kernel
theorem dX6_isKnown_16 : decode cX6_isKnown 16 = .ok (.iconst 0, 1) := by decide +kernel
theorem dX6_isKnown_17 : decode cX6_isKnown 17 = .ok (.ireturn, 1) := by decide +kernel
theorem dX6_isThere_0 : decode cX6_isThere 0 = .ok (.aload_n 0, 1) := by decide +kernel
theorem dX6_isThere_1 : decode cX6_isThere 1 = .ok (.iload_n 1, 1) := by decide +kernel
theorem dX6_isThere_2 : decode cX6_isThere 2 = .ok (.invokevirtual 100, 3) := by decide +kernel
theorem dX6_isThere_5 : decode cX6_isThere 5 = .ok (.ifCond .eq 16, 3) := by decide +kernel
theorem dX6_isThere_8 : decode cX6_isThere 8 = .ok (.aload_n 0, 1) := by decide +kernel
theorem dX6_isThere_9 : decode cX6_isThere 9 = .ok (.getfield 25, 3) := by decide +kernel
theorem dX6_isThere_12 : decode cX6_isThere 12 = .ok (.iload_n 1, 1) := by decide +kernel
theorem dX6_isThere_13 : decode cX6_isThere 13 = .ok (.baload, 1) := by decide +kernel
theorem dX6_isThere_14 : decode cX6_isThere 14 = .ok (.ifCond .eq 7, 3) := by decide +kernel
theorem dX6_isThere_17 : decode cX6_isThere 17 = .ok (.iconst 1, 1) := by decide +kernel
theorem dX6_isThere_18 : decode cX6_isThere 18 = .ok (.goto 4, 3) := by decide +kernel
theorem dX6_isThere_21 : decode cX6_isThere 21 = .ok (.iconst 0, 1) := by decide +kernel
theorem dX6_isThere_22 : decode cX6_isThere 22 = .ok (.ireturn, 1) := by decide +kernel
theorem dX6_isFieldKnown_0 : decode cX6_isFieldKnown 0 = .ok (.iload_n 1, 1) := by decide +kernel
theorem dX6_isFieldKnown_1 : decode cX6_isFieldKnown 1 = .ok (.ifCond .lt 24, 3) := by decide +kernel
theorem dX6_isFieldKnown_4 : decode cX6_isFieldKnown 4 = .ok (.iload_n 1, 1) := by decide +kernel
theorem dX6_isFieldKnown_5 : decode cX6_isFieldKnown 5 = .ok (.aload_n 0, 1) := by decide +kernel
theorem dX6_isFieldKnown_6 : decode cX6_isFieldKnown 6 = .ok (.getfield 70, 3) := by decide +kernel
theorem dX6_isFieldKnown_9 : decode cX6_isFieldKnown 9 = .ok (.if_icmp .ge 16, 3) := by decide +kernel
theorem dX6_isFieldKnown_12 : decode cX6_isFieldKnown 12 = .ok (.aload_n 0, 1) := by decide +kernel
theorem dX6_isFieldKnown_13 : decode cX6_isFieldKnown 13 = .ok (.getfield 37, 3) := by decide +kernel
theorem dX6_isFieldKnown_16 : decode cX6_isFieldKnown 16 = .ok (.iload_n 1, 1) := by decide +kernel
theorem dX6_isFieldKnown_17 : decode cX6_isFieldKnown 17 = .ok (.aaload, 1) := by decide +kernel
theorem dX6_isFieldKnown_18 : decode cX6_isFieldKnown 18 = .ok (.ifnull 7, 3) := by decide +kernel
theorem dX6_isFieldKnown_21 : decode cX6_isFieldKnown 21 = .ok (.iconst 1, 1) := by decide +kernel
theorem dX6_isFieldKnown_22 : decode cX6_isFieldKnown 22 = .ok (.goto 4, 3) := by decide +kernel
theorem dX6_isFieldKnown_25 : decode cX6_isFieldKnown 25 = .ok (.iconst 0, 1) := by decide +kernel
theorem dX6_isFieldKnown_26 : decode cX6_isFieldKnown 26 = .ok (.ireturn, 1) := by decide +kernel
theorem dX6_stands_0 : decode cX6_stands 0 = .ok (.aload_n 0, 1) := by decide +kernel
theorem dX6_stands_1 : decode cX6_stands 1 = .ok (.iload_n 1, 1) := by decide +kernel
theorem dX6_stands_2 : decode cX6_stands 2 = .ok (.invokevirtual 104, 3) := by decide +kernel
theorem dX6_stands_5 : decode cX6_stands 5 = .ok (.ifCond .eq 23, 3) := by decide +kernel
theorem dX6_stands_8 : decode cX6_stands 8 = .ok (.aload_n 0, 1) := by decide +kernel
theorem dX6_stands_9 : decode cX6_stands 9 = .ok (.aload_n 0, 1) := by decide +kernel
theorem dX6_stands_10 : decode cX6_stands 10 = .ok (.getfield 37, 3) := by decide +kernel
theorem dX6_stands_13 : decode cX6_stands 13 = .ok (.iload_n 1, 1) := by decide +kernel
theorem dX6_stands_14 : decode cX6_stands 14 = .ok (.aaload, 1) := by decide +kernel
theorem dX6_stands_15 : decode cX6_stands 15 = .ok (.getfield 107, 3) := by decide +kernel
theorem dX6_stands_18 : decode cX6_stands 18 = .ok (.invokevirtual 110, 3) := by decide +kernel
theorem dX6_stands_21 : decode cX6_stands 21 = .ok (.ifCond .eq 7, 3) := by decide +kernel
theorem dX6_stands_24 : decode cX6_stands 24 = .ok (.iconst 1, 1) := by decide +kernel
theorem dX6_stands_25 : decode cX6_stands 25 = .ok (.goto 4, 3) := by decide +kernel
theorem dX6_stands_28 : decode cX6_stands 28 = .ok (.iconst 0, 1) := by decide +kernel
theorem dX6_stands_29 : decode cX6_stands 29 = .ok (.ireturn, 1) := by decide +kernel
theorem dX6_standsFor_0 : decode cX6_standsFor 0 = .ok (.aload_n 0, 1) := by decide +kernel
theorem dX6_standsFor_1 : decode cX6_standsFor 1 = .ok (.iload_n 1, 1) := by decide +kernel
theorem dX6_standsFor_2 : decode cX6_standsFor 2 = .ok (.invokevirtual 113, 3) := by decide +kernel
theorem dX6_standsFor_5 : decode cX6_standsFor 5 = .ok (.ifCond .eq 20, 3) := by decide +kernel
theorem dX6_standsFor_8 : decode cX6_standsFor 8 = .ok (.aload_n 0, 1) := by decide +kernel
theorem dX6_standsFor_9 : decode cX6_standsFor 9 = .ok (.getfield 37, 3) := by decide +kernel
theorem dX6_standsFor_12 : decode cX6_standsFor 12 = .ok (.iload_n 1, 1) := by decide +kernel
theorem dX6_standsFor_13 : decode cX6_standsFor 13 = .ok (.aaload, 1) := by decide +kernel
theorem dX6_standsFor_14 : decode cX6_standsFor 14 = .ok (.getfield 107, 3) := by decide +kernel
theorem dX6_standsFor_17 : decode cX6_standsFor 17 = .ok (.iload_n 2, 1) := by decide +kernel
theorem dX6_standsFor_18 : decode cX6_standsFor 18 = .ok (.if_icmp .ne 7, 3) := by decide +kernel
theorem dX6_standsFor_21 : decode cX6_standsFor 21 = .ok (.iconst 1, 1) := by decide +kernel
theorem dX6_standsFor_22 : decode cX6_standsFor 22 = .ok (.goto 4, 3) := by decide +kernel
theorem dX6_standsFor_25 : decode cX6_standsFor 25 = .ok (.iconst 0, 1) := by decide +kernel
theorem dX6_standsFor_26 : decode cX6_standsFor 26 = .ok (.ireturn, 1) := by decide +kernel
theorem dX6_memberNamed_0 : decode cX6_memberNamed 0 = .ok (.iconst 0, 1) := by decide +kernel
theorem dX6_memberNamed_1 : decode cX6_memberNamed 1 = .ok (.istore_n 3, 1) := by decide +kernel
theorem dX6_memberNamed_2 : decode cX6_memberNamed 2 = .ok (.iload_n 3, 1) := by decide +kernel
theorem dX6_memberNamed_3 : decode cX6_memberNamed 3 = .ok (.aload_n 0, 1) := by decide +kernel
theorem dX6_memberNamed_4 : decode cX6_memberNamed 4 = .ok (.getfield 66, 3) := by decide +kernel
theorem dX6_memberNamed_7 : decode cX6_memberNamed 7 = .ok (.if_icmp .ge 22, 3) := by decide +kernel
theorem dX6_memberNamed_10 : decode cX6_memberNamed 10 = .ok (.aload_n 0, 1) := by decide +kernel
theorem dX6_memberNamed_11 : decode cX6_memberNamed 11 = .ok (.getfield 22, 3) := by decide +kernel
theorem dX6_memberNamed_14 : decode cX6_memberNamed 14 = .ok (.iload_n 3, 1) := by decide +kernel
theorem dX6_memberNamed_15 : decode cX6_memberNamed 15 = .ok (.laload, 1) := by decide +kernel
theorem dX6_memberNamed_16 : decode cX6_memberNamed 16 = .ok (.lload_n 1, 1) := by decide +kernel
theorem dX6_memberNamed_17 : decode cX6_memberNamed 17 = .ok (.lcmp, 1) := by decide +kernel
theorem dX6_memberNamed_18 : decode cX6_memberNamed 18 = .ok (.ifCond .ne 5, 3) := by decide +kernel
theorem dX6_memberNamed_21 : decode cX6_memberNamed 21 = .ok (.iload_n 3, 1) := by decide +kernel
theorem dX6_memberNamed_22 : decode cX6_memberNamed 22 = .ok (.ireturn, 1) := by decide +kernel
theorem dX6_memberNamed_23 : decode cX6_memberNamed 23 = .ok (.iinc 3 1, 3) := by decide +kernel
theorem dX6_memberNamed_26 : decode cX6_memberNamed 26 = .ok (.goto (-24), 3) := by decide +kernel
theorem dX6_memberNamed_29 : decode cX6_memberNamed 29 = .ok (.iconst (-1), 1) := by decide +kernel
theorem dX6_memberNamed_30 : decode cX6_memberNamed 30 = .ok (.ireturn, 1) := by decide +kernel
theorem dX6_hazardAt_0 : decode cX6_hazardAt 0 = .ok (.iload_n 1, 1) := by decide +kernel
theorem dX6_hazardAt_1 : decode cX6_hazardAt 1 = .ok (.iload_n 2, 1) := by decide +kernel
theorem dX6_hazardAt_2 : decode cX6_hazardAt 2 = .ok (.invokestatic 116, 3) := by decide +kernel
theorem dX6_hazardAt_5 : decode cX6_hazardAt 5 = .ok (.ifCond .eq 17, 3) := by decide +kernel
theorem dX6_hazardAt_8 : decode cX6_hazardAt 8 = .ok (.aload_n 0, 1) := by decide +kernel
theorem dX6_hazardAt_9 : decode cX6_hazardAt 9 = .ok (.getfield 15, 3) := by decide +kernel
theorem dX6_hazardAt_12 : decode cX6_hazardAt 12 = .ok (.iload_n 2, 1) := by decide +kernel
theorem dX6_hazardAt_13 : decode cX6_hazardAt 13 = .ok (.bipush 8, 2) := by decide +kernel
theorem dX6_hazardAt_15 : decode cX6_hazardAt 15 = .ok (.imul, 1) := by decide +kernel
theorem dX6_hazardAt_16 : decode cX6_hazardAt 16 = .ok (.iload_n 1, 1) := by decide +kernel
theorem dX6_hazardAt_17 : decode cX6_hazardAt 17 = .ok (.iadd, 1) := by decide +kernel
theorem dX6_hazardAt_18 : decode cX6_hazardAt 18 = .ok (.iaload, 1) := by decide +kernel
theorem dX6_hazardAt_19 : decode cX6_hazardAt 19 = .ok (.goto 4, 3) := by decide +kernel
theorem dX6_hazardAt_22 : decode cX6_hazardAt 22 = .ok (.iconst 0, 1) := by decide +kernel
theorem dX6_hazardAt_23 : decode cX6_hazardAt 23 = .ok (.ireturn, 1) := by decide +kernel
theorem dX6_setHazards_0 : decode cX6_setHazards 0 = .ok (.iload_n 2, 1) := by decide +kernel
theorem dX6_setHazards_1 : decode cX6_setHazards 1 = .ok (.istore 6, 2) := by decide +kernel
theorem dX6_setHazards_3 : decode cX6_setHazards 3 = .ok (.iload 6, 2) := by decide +kernel
theorem dX6_setHazards_5 : decode cX6_setHazards 5 = .ok (.iload 4, 2) := by decide +kernel
theorem dX6_setHazards_7 : decode cX6_setHazards 7 = .ok (.if_icmp .gt 49, 3) := by decide +kernel
theorem dX6_setHazards_10 : decode cX6_setHazards 10 = .ok (.iload_n 1, 1) := by decide +kernel
theorem dX6_setHazards_11 : decode cX6_setHazards 11 = .ok (.istore 7, 2) := by decide +kernel
theorem dX6_setHazards_13 : decode cX6_setHazards 13 = .ok (.iload 7, 2) := by decide +kernel
theorem dX6_setHazards_15 : decode cX6_setHazards 15 = .ok (.iload_n 3, 1) := by decide +kernel
theorem dX6_setHazards_16 : decode cX6_setHazards 16 = .ok (.if_icmp .gt 34, 3) := by decide +kernel
theorem dX6_setHazards_19 : decode cX6_setHazards 19 = .ok (.iload 7, 2) := by decide +kernel
theorem dX6_setHazards_21 : decode cX6_setHazards 21 = .ok (.iload 6, 2) := by decide +kernel
theorem dX6_setHazards_23 : decode cX6_setHazards 23 = .ok (.invokestatic 116, 3) := by decide +kernel
theorem dX6_setHazards_26 : decode cX6_setHazards 26 = .ok (.ifCond .eq 18, 3) := by decide +kernel
theorem dX6_setHazards_29 : decode cX6_setHazards 29 = .ok (.aload_n 0, 1) := by decide +kernel
theorem dX6_setHazards_30 : decode cX6_setHazards 30 = .ok (.getfield 15, 3) := by decide +kernel
theorem dX6_setHazards_33 : decode cX6_setHazards 33 = .ok (.iload 6, 2) := by decide +kernel
theorem dX6_setHazards_35 : decode cX6_setHazards 35 = .ok (.bipush 8, 2) := by decide +kernel
theorem dX6_setHazards_37 : decode cX6_setHazards 37 = .ok (.imul, 1) := by decide +kernel
theorem dX6_setHazards_38 : decode cX6_setHazards 38 = .ok (.iload 7, 2) := by decide +kernel
theorem dX6_setHazards_40 : decode cX6_setHazards 40 = .ok (.iadd, 1) := by decide +kernel
theorem dX6_setHazards_41 : decode cX6_setHazards 41 = .ok (.iload 5, 2) := by decide +kernel
theorem dX6_setHazards_43 : decode cX6_setHazards 43 = .ok (.iastore, 1) := by decide +kernel
theorem dX6_setHazards_44 : decode cX6_setHazards 44 = .ok (.iinc 7 1, 3) := by decide +kernel
theorem dX6_setHazards_47 : decode cX6_setHazards 47 = .ok (.goto (-34), 3) := by decide +kernel
theorem dX6_setHazards_50 : decode cX6_setHazards 50 = .ok (.iinc 6 1, 3) := by decide +kernel
theorem dX6_setHazards_53 : decode cX6_setHazards 53 = .ok (.goto (-50), 3) := by decide +kernel
theorem dX6_setHazards_56 : decode cX6_setHazards 56 = .ok (.return_, 1) := by decide +kernel
theorem dX6_setSoft_0 : decode cX6_setSoft 0 = .ok (.iload_n 1, 1) := by decide +kernel
theorem dX6_setSoft_1 : decode cX6_setSoft 1 = .ok (.ifCond .lt 15, 3) := by decide +kernel
theorem dX6_setSoft_4 : decode cX6_setSoft 4 = .ok (.iload_n 1, 1) := by decide +kernel
theorem dX6_setSoft_5 : decode cX6_setSoft 5 = .ok (.iconst 4, 1) := by decide +kernel
theorem dX6_setSoft_6 : decode cX6_setSoft 6 = .ok (.if_icmp .ge 10, 3) := by decide +kernel
theorem dX6_setSoft_9 : decode cX6_setSoft 9 = .ok (.aload_n 0, 1) := by decide +kernel
theorem dX6_setSoft_10 : decode cX6_setSoft 10 = .ok (.getfield 19, 3) := by decide +kernel
theorem dX6_setSoft_13 : decode cX6_setSoft 13 = .ok (.iload_n 1, 1) := by decide +kernel
theorem dX6_setSoft_14 : decode cX6_setSoft 14 = .ok (.iload_n 2, 1) := by decide +kernel
theorem dX6_setSoft_15 : decode cX6_setSoft 15 = .ok (.iastore, 1) := by decide +kernel
theorem dX6_setSoft_16 : decode cX6_setSoft 16 = .ok (.return_, 1) := by decide +kernel
theorem dX6_softOf_0 : decode cX6_softOf 0 = .ok (.iload_n 1, 1) := by decide +kernel
theorem dX6_softOf_1 : decode cX6_softOf 1 = .ok (.ifCond .lt 17, 3) := by decide +kernel
theorem dX6_softOf_4 : decode cX6_softOf 4 = .ok (.iload_n 1, 1) := by decide +kernel
theorem dX6_softOf_5 : decode cX6_softOf 5 = .ok (.iconst 4, 1) := by decide +kernel
theorem dX6_softOf_6 : decode cX6_softOf 6 = .ok (.if_icmp .ge 12, 3) := by decide +kernel
theorem dX6_softOf_9 : decode cX6_softOf 9 = .ok (.aload_n 0, 1) := by decide +kernel
theorem dX6_softOf_10 : decode cX6_softOf 10 = .ok (.getfield 19, 3) := by decide +kernel
theorem dX6_softOf_13 : decode cX6_softOf 13 = .ok (.iload_n 1, 1) := by decide +kernel
theorem dX6_softOf_14 : decode cX6_softOf 14 = .ok (.iaload, 1) := by decide +kernel
theorem dX6_softOf_15 : decode cX6_softOf 15 = .ok (.goto 4, 3) := by decide +kernel
theorem dX6_softOf_18 : decode cX6_softOf 18 = .ok (.iconst 0, 1) := by decide +kernel
theorem dX6_softOf_19 : decode cX6_softOf 19 = .ok (.ireturn, 1) := by decide +kernel
theorem dX6_pointsOfField_0 : decode cX6_pointsOfField 0 = .ok (.aload_n 1, 1) := by decide +kernel
theorem dX6_pointsOfField_1 : decode cX6_pointsOfField 1 = .ok (.invokevirtual 120, 3) := by decide +kernel
theorem dX6_pointsOfField_4 : decode cX6_pointsOfField 4 = .ok (.aload_n 0, 1) := by decide +kernel
theorem dX6_pointsOfField_5 : decode cX6_pointsOfField 5 = .ok (.aload_n 1, 1) := by decide +kernel
theorem dX6_pointsOfField_6 : decode cX6_pointsOfField 6 = .ok (.getfield 124, 3) := by decide +kernel
theorem dX6_pointsOfField_9 : decode cX6_pointsOfField 9 = .ok (.aload_n 1, 1) := by decide +kernel
theorem dX6_pointsOfField_10 : decode cX6_pointsOfField 10 = .ok (.getfield 127, 3) := by decide +kernel
theorem dX6_pointsOfField_13 : decode cX6_pointsOfField 13 = .ok (.invokevirtual 130, 3) := by decide +kernel
theorem dX6_pointsOfField_16 : decode cX6_pointsOfField 16 = .ok (.i2l, 1) := by decide +kernel
theorem dX6_pointsOfField_17 : decode cX6_pointsOfField 17 = .ok (.lmul, 1) := by decide +kernel
theorem dX6_pointsOfField_18 : decode cX6_pointsOfField 18 = .ok (.lreturn, 1) := by decide +kernel
theorem dX6_membersThere_0 : decode cX6_membersThere 0 = .ok (.iconst 0, 1) := by decide +kernel
theorem dX6_membersThere_1 : decode cX6_membersThere 1 = .ok (.istore_n 1, 1) := by decide +kernel
theorem dX6_membersThere_2 : decode cX6_membersThere 2 = .ok (.iconst 0, 1) := by decide +kernel
theorem dX6_membersThere_3 : decode cX6_membersThere 3 = .ok (.istore_n 2, 1) := by decide +kernel
theorem dX6_membersThere_4 : decode cX6_membersThere 4 = .ok (.iload_n 2, 1) := by decide +kernel
theorem dX6_membersThere_5 : decode cX6_membersThere 5 = .ok (.aload_n 0, 1) := by decide +kernel
theorem dX6_membersThere_6 : decode cX6_membersThere 6 = .ok (.getfield 66, 3) := by decide +kernel
theorem dX6_membersThere_9 : decode cX6_membersThere 9 = .ok (.if_icmp .ge 26, 3) := by decide +kernel
theorem dX6_membersThere_12 : decode cX6_membersThere 12 = .ok (.iload_n 1, 1) := by decide +kernel
theorem dX6_membersThere_13 : decode cX6_membersThere 13 = .ok (.aload_n 0, 1) := by decide +kernel
theorem dX6_membersThere_14 : decode cX6_membersThere 14 = .ok (.getfield 25, 3) := by decide +kernel
theorem dX6_membersThere_17 : decode cX6_membersThere 17 = .ok (.iload_n 2, 1) := by decide +kernel
theorem dX6_membersThere_18 : decode cX6_membersThere 18 = .ok (.baload, 1) := by decide +kernel
theorem dX6_membersThere_19 : decode cX6_membersThere 19 = .ok (.ifCond .eq 7, 3) := by decide +kernel
theorem dX6_membersThere_22 : decode cX6_membersThere 22 = .ok (.iconst 1, 1) := by decide +kernel
theorem dX6_membersThere_23 : decode cX6_membersThere 23 = .ok (.goto 4, 3) := by decide +kernel
theorem dX6_membersThere_26 : decode cX6_membersThere 26 = .ok (.iconst 0, 1) := by decide +kernel
theorem dX6_membersThere_27 : decode cX6_membersThere 27 = .ok (.iadd, 1) := by decide +kernel
theorem dX6_membersThere_28 : decode cX6_membersThere 28 = .ok (.istore_n 1, 1) := by decide +kernel
theorem dX6_membersThere_29 : decode cX6_membersThere 29 = .ok (.iinc 2 1, 3) := by decide +kernel
theorem dX6_membersThere_32 : decode cX6_membersThere 32 = .ok (.goto (-28), 3) := by decide +kernel
theorem dX6_membersThere_35 : decode cX6_membersThere 35 = .ok (.iload_n 1, 1) := by decide +kernel
theorem dX6_membersThere_36 : decode cX6_membersThere 36 = .ok (.ireturn, 1) := by decide +kernel
theorem dX6_fieldsThere_0 : decode cX6_fieldsThere 0 = .ok (.iconst 0, 1) := by decide +kernel
theorem dX6_fieldsThere_1 : decode cX6_fieldsThere 1 = .ok (.istore_n 1, 1) := by decide +kernel
theorem dX6_fieldsThere_2 : decode cX6_fieldsThere 2 = .ok (.iconst 0, 1) := by decide +kernel
theorem dX6_fieldsThere_3 : decode cX6_fieldsThere 3 = .ok (.istore_n 2, 1) := by decide +kernel
theorem dX6_fieldsThere_4 : decode cX6_fieldsThere 4 = .ok (.iload_n 2, 1) := by decide +kernel
theorem dX6_fieldsThere_5 : decode cX6_fieldsThere 5 = .ok (.aload_n 0, 1) := by decide +kernel
theorem dX6_fieldsThere_6 : decode cX6_fieldsThere 6 = .ok (.getfield 70, 3) := by decide +kernel
theorem dX6_fieldsThere_9 : decode cX6_fieldsThere 9 = .ok (.if_icmp .ge 25, 3) := by decide +kernel
theorem dX6_fieldsThere_12 : decode cX6_fieldsThere 12 = .ok (.iload_n 1, 1) := by decide +kernel
theorem dX6_fieldsThere_13 : decode cX6_fieldsThere 13 = .ok (.aload_n 0, 1) := by decide +kernel
theorem dX6_fieldsThere_14 : decode cX6_fieldsThere 14 = .ok (.iload_n 2, 1) := by decide +kernel
theorem dX6_fieldsThere_15 : decode cX6_fieldsThere 15 = .ok (.invokevirtual 113, 3) := by decide +kernel
theorem dX6_fieldsThere_18 : decode cX6_fieldsThere 18 = .ok (.ifCond .eq 7, 3) := by decide +kernel
theorem dX6_fieldsThere_21 : decode cX6_fieldsThere 21 = .ok (.iconst 1, 1) := by decide +kernel
theorem dX6_fieldsThere_22 : decode cX6_fieldsThere 22 = .ok (.goto 4, 3) := by decide +kernel
theorem dX6_fieldsThere_25 : decode cX6_fieldsThere 25 = .ok (.iconst 0, 1) := by decide +kernel
theorem dX6_fieldsThere_26 : decode cX6_fieldsThere 26 = .ok (.iadd, 1) := by decide +kernel
theorem dX6_fieldsThere_27 : decode cX6_fieldsThere 27 = .ok (.istore_n 1, 1) := by decide +kernel
theorem dX6_fieldsThere_28 : decode cX6_fieldsThere 28 = .ok (.iinc 2 1, 3) := by decide +kernel
theorem dX6_fieldsThere_31 : decode cX6_fieldsThere 31 = .ok (.goto (-27), 3) := by decide +kernel
theorem dX6_fieldsThere_34 : decode cX6_fieldsThere 34 = .ok (.iload_n 1, 1) := by decide +kernel
theorem dX6_fieldsThere_35 : decode cX6_fieldsThere 35 = .ok (.ireturn, 1) := by decide +kernel
theorem dX6_fieldsOf_0 : decode cX6_fieldsOf 0 = .ok (.iconst 0, 1) := by decide +kernel
theorem dX6_fieldsOf_1 : decode cX6_fieldsOf 1 = .ok (.istore_n 2, 1) := by decide +kernel
theorem dX6_fieldsOf_2 : decode cX6_fieldsOf 2 = .ok (.iconst 0, 1) := by decide +kernel
theorem dX6_fieldsOf_3 : decode cX6_fieldsOf 3 = .ok (.istore_n 3, 1) := by decide +kernel
theorem dX6_fieldsOf_4 : decode cX6_fieldsOf 4 = .ok (.iload_n 3, 1) := by decide +kernel
theorem dX6_fieldsOf_5 : decode cX6_fieldsOf 5 = .ok (.aload_n 0, 1) := by decide +kernel
theorem dX6_fieldsOf_6 : decode cX6_fieldsOf 6 = .ok (.getfield 70, 3) := by decide +kernel
theorem dX6_fieldsOf_9 : decode cX6_fieldsOf 9 = .ok (.if_icmp .ge 26, 3) := by decide +kernel
theorem dX6_fieldsOf_12 : decode cX6_fieldsOf 12 = .ok (.iload_n 2, 1) := by decide +kernel
theorem dX6_fieldsOf_13 : decode cX6_fieldsOf 13 = .ok (.aload_n 0, 1) := by decide +kernel
theorem dX6_fieldsOf_14 : decode cX6_fieldsOf 14 = .ok (.iload_n 3, 1) := by decide +kernel
theorem dX6_fieldsOf_15 : decode cX6_fieldsOf 15 = .ok (.iload_n 1, 1) := by decide +kernel
theorem dX6_fieldsOf_16 : decode cX6_fieldsOf 16 = .ok (.invokevirtual 134, 3) := by decide +kernel
theorem dX6_fieldsOf_19 : decode cX6_fieldsOf 19 = .ok (.ifCond .eq 7, 3) := by decide +kernel
theorem dX6_fieldsOf_22 : decode cX6_fieldsOf 22 = .ok (.iconst 1, 1) := by decide +kernel
theorem dX6_fieldsOf_23 : decode cX6_fieldsOf 23 = .ok (.goto 4, 3) := by decide +kernel
theorem dX6_fieldsOf_26 : decode cX6_fieldsOf 26 = .ok (.iconst 0, 1) := by decide +kernel
theorem dX6_fieldsOf_27 : decode cX6_fieldsOf 27 = .ok (.iadd, 1) := by decide +kernel
theorem dX6_fieldsOf_28 : decode cX6_fieldsOf 28 = .ok (.istore_n 2, 1) := by decide +kernel
theorem dX6_fieldsOf_29 : decode cX6_fieldsOf 29 = .ok (.iinc 3 1, 3) := by decide +kernel
theorem dX6_fieldsOf_32 : decode cX6_fieldsOf 32 = .ok (.goto (-28), 3) := by decide +kernel
theorem dX6_fieldsOf_35 : decode cX6_fieldsOf 35 = .ok (.iload_n 2, 1) := by decide +kernel
theorem dX6_fieldsOf_36 : decode cX6_fieldsOf 36 = .ok (.ireturn, 1) := by decide +kernel
theorem dX6_fieldsUnder_0 : decode cX6_fieldsUnder 0 = .ok (.iconst 0, 1) := by decide +kernel
theorem dX6_fieldsUnder_1 : decode cX6_fieldsUnder 1 = .ok (.istore_n 2, 1) := by decide +kernel
theorem dX6_fieldsUnder_2 : decode cX6_fieldsUnder 2 = .ok (.iconst 0, 1) := by decide +kernel
theorem dX6_fieldsUnder_3 : decode cX6_fieldsUnder 3 = .ok (.istore_n 3, 1) := by decide +kernel
theorem dX6_fieldsUnder_4 : decode cX6_fieldsUnder 4 = .ok (.iload_n 3, 1) := by decide +kernel
theorem dX6_fieldsUnder_5 : decode cX6_fieldsUnder 5 = .ok (.aload_n 0, 1) := by decide +kernel
theorem dX6_fieldsUnder_6 : decode cX6_fieldsUnder 6 = .ok (.getfield 70, 3) := by decide +kernel
theorem dX6_fieldsUnder_9 : decode cX6_fieldsUnder 9 = .ok (.if_icmp .ge 38, 3) := by decide +kernel
theorem dX6_fieldsUnder_12 : decode cX6_fieldsUnder 12 = .ok (.iload_n 2, 1) := by decide +kernel
theorem dX6_fieldsUnder_13 : decode cX6_fieldsUnder 13 = .ok (.aload_n 0, 1) := by decide +kernel
theorem dX6_fieldsUnder_14 : decode cX6_fieldsUnder 14 = .ok (.iload_n 3, 1) := by decide +kernel
theorem dX6_fieldsUnder_15 : decode cX6_fieldsUnder 15 = .ok (.invokevirtual 113, 3) := by decide +kernel
theorem dX6_fieldsUnder_18 : decode cX6_fieldsUnder 18 = .ok (.ifCond .eq 20, 3) := by decide +kernel
theorem dX6_fieldsUnder_21 : decode cX6_fieldsUnder 21 = .ok (.aload_n 1, 1) := by decide +kernel
theorem dX6_fieldsUnder_22 : decode cX6_fieldsUnder 22 = .ok (.aload_n 0, 1) := by decide +kernel
theorem dX6_fieldsUnder_23 : decode cX6_fieldsUnder 23 = .ok (.getfield 37, 3) := by decide +kernel
theorem dX6_fieldsUnder_26 : decode cX6_fieldsUnder 26 = .ok (.iload_n 3, 1) := by decide +kernel
theorem dX6_fieldsUnder_27 : decode cX6_fieldsUnder 27 = .ok (.aaload, 1) := by decide +kernel
theorem dX6_fieldsUnder_28 : decode cX6_fieldsUnder 28 = .ok (.invokevirtual 137, 3) := by decide +kernel
theorem dX6_fieldsUnder_31 : decode cX6_fieldsUnder 31 = .ok (.ifCond .eq 7, 3) := by decide +kernel
theorem dX6_fieldsUnder_34 : decode cX6_fieldsUnder 34 = .ok (.iconst 1, 1) := by decide +kernel
theorem dX6_fieldsUnder_35 : decode cX6_fieldsUnder 35 = .ok (.goto 4, 3) := by decide +kernel
theorem dX6_fieldsUnder_38 : decode cX6_fieldsUnder 38 = .ok (.iconst 0, 1) := by decide +kernel
theorem dX6_fieldsUnder_39 : decode cX6_fieldsUnder 39 = .ok (.iadd, 1) := by decide +kernel
theorem dX6_fieldsUnder_40 : decode cX6_fieldsUnder 40 = .ok (.istore_n 2, 1) := by decide +kernel
theorem dX6_fieldsUnder_41 : decode cX6_fieldsUnder 41 = .ok (.iinc 3 1, 3) := by decide +kernel
theorem dX6_fieldsUnder_44 : decode cX6_fieldsUnder 44 = .ok (.goto (-40), 3) := by decide +kernel
theorem dX6_fieldsUnder_47 : decode cX6_fieldsUnder 47 = .ok (.iload_n 2, 1) := by decide +kernel
theorem dX6_fieldsUnder_48 : decode cX6_fieldsUnder 48 = .ok (.ireturn, 1) := by decide +kernel
theorem dX6_sumsOf_0 : decode cX6_sumsOf 0 = .ok (.lconst 0, 1) := by decide +kernel
theorem dX6_sumsOf_1 : decode cX6_sumsOf 1 = .ok (.lstore_n 2, 1) := by decide +kernel
theorem dX6_sumsOf_2 : decode cX6_sumsOf 2 = .ok (.iconst 0, 1) := by decide +kernel
theorem dX6_sumsOf_3 : decode cX6_sumsOf 3 = .ok (.istore 4, 2) := by decide +kernel
theorem dX6_sumsOf_5 : decode cX6_sumsOf 5 = .ok (.iload 4, 2) := by decide +kernel
theorem dX6_sumsOf_7 : decode cX6_sumsOf 7 = .ok (.aload_n 0, 1) := by decide +kernel
theorem dX6_sumsOf_8 : decode cX6_sumsOf 8 = .ok (.getfield 70, 3) := by decide +kernel
theorem dX6_sumsOf_11 : decode cX6_sumsOf 11 = .ok (.if_icmp .ge 36, 3) := by decide +kernel
theorem dX6_sumsOf_14 : decode cX6_sumsOf 14 = .ok (.lload_n 2, 1) := by decide +kernel
theorem dX6_sumsOf_15 : decode cX6_sumsOf 15 = .ok (.aload_n 0, 1) := by decide +kernel
theorem dX6_sumsOf_16 : decode cX6_sumsOf 16 = .ok (.iload 4, 2) := by decide +kernel
theorem dX6_sumsOf_18 : decode cX6_sumsOf 18 = .ok (.iload_n 1, 1) := by decide +kernel
theorem dX6_sumsOf_19 : decode cX6_sumsOf 19 = .ok (.invokevirtual 134, 3) := by decide +kernel
theorem dX6_sumsOf_22 : decode cX6_sumsOf 22 = .ok (.ifCond .eq 16, 3) := by decide +kernel
theorem dX6_sumsOf_25 : decode cX6_sumsOf 25 = .ok (.aload_n 0, 1) := by decide +kernel
theorem dX6_sumsOf_26 : decode cX6_sumsOf 26 = .ok (.getfield 37, 3) := by decide +kernel
theorem dX6_sumsOf_29 : decode cX6_sumsOf 29 = .ok (.iload 4, 2) := by decide +kernel
theorem dX6_sumsOf_31 : decode cX6_sumsOf 31 = .ok (.aaload, 1) := by decide +kernel
theorem dX6_sumsOf_32 : decode cX6_sumsOf 32 = .ok (.invokevirtual 120, 3) := by decide +kernel
theorem dX6_sumsOf_35 : decode cX6_sumsOf 35 = .ok (.goto 4, 3) := by decide +kernel
theorem dX6_sumsOf_38 : decode cX6_sumsOf 38 = .ok (.lconst 0, 1) := by decide +kernel
theorem dX6_sumsOf_39 : decode cX6_sumsOf 39 = .ok (.ladd, 1) := by decide +kernel
theorem dX6_sumsOf_40 : decode cX6_sumsOf 40 = .ok (.lstore_n 2, 1) := by decide +kernel
theorem dX6_sumsOf_41 : decode cX6_sumsOf 41 = .ok (.iinc 4 1, 3) := by decide +kernel
theorem dX6_sumsOf_44 : decode cX6_sumsOf 44 = .ok (.goto (-39), 3) := by decide +kernel
theorem dX6_sumsOf_47 : decode cX6_sumsOf 47 = .ok (.lload_n 2, 1) := by decide +kernel
theorem dX6_sumsOf_48 : decode cX6_sumsOf 48 = .ok (.lreturn, 1) := by decide +kernel
theorem dX6_pointsOf_0 : decode cX6_pointsOf 0 = .ok (.lconst 0, 1) := by decide +kernel
theorem dX6_pointsOf_1 : decode cX6_pointsOf 1 = .ok (.lstore_n 2, 1) := by decide +kernel
theorem dX6_pointsOf_2 : decode cX6_pointsOf 2 = .ok (.iconst 0, 1) := by decide +kernel
theorem dX6_pointsOf_3 : decode cX6_pointsOf 3 = .ok (.istore 4, 2) := by decide +kernel
theorem dX6_pointsOf_5 : decode cX6_pointsOf 5 = .ok (.iload 4, 2) := by decide +kernel
theorem dX6_pointsOf_7 : decode cX6_pointsOf 7 = .ok (.aload_n 0, 1) := by decide +kernel
theorem dX6_pointsOf_8 : decode cX6_pointsOf 8 = .ok (.getfield 70, 3) := by decide +kernel
theorem dX6_pointsOf_11 : decode cX6_pointsOf 11 = .ok (.if_icmp .ge 37, 3) := by decide +kernel
theorem dX6_pointsOf_14 : decode cX6_pointsOf 14 = .ok (.lload_n 2, 1) := by decide +kernel
theorem dX6_pointsOf_15 : decode cX6_pointsOf 15 = .ok (.aload_n 0, 1) := by decide +kernel
theorem dX6_pointsOf_16 : decode cX6_pointsOf 16 = .ok (.iload 4, 2) := by decide +kernel
theorem dX6_pointsOf_18 : decode cX6_pointsOf 18 = .ok (.iload_n 1, 1) := by decide +kernel
theorem dX6_pointsOf_19 : decode cX6_pointsOf 19 = .ok (.invokevirtual 134, 3) := by decide +kernel
theorem dX6_pointsOf_22 : decode cX6_pointsOf 22 = .ok (.ifCond .eq 17, 3) := by decide +kernel
theorem dX6_pointsOf_25 : decode cX6_pointsOf 25 = .ok (.aload_n 0, 1) := by decide +kernel
theorem dX6_pointsOf_26 : decode cX6_pointsOf 26 = .ok (.aload_n 0, 1) := by decide +kernel
theorem dX6_pointsOf_27 : decode cX6_pointsOf 27 = .ok (.getfield 37, 3) := by decide +kernel
theorem dX6_pointsOf_30 : decode cX6_pointsOf 30 = .ok (.iload 4, 2) := by decide +kernel
theorem dX6_pointsOf_32 : decode cX6_pointsOf 32 = .ok (.aaload, 1) := by decide +kernel
theorem dX6_pointsOf_33 : decode cX6_pointsOf 33 = .ok (.invokevirtual 141, 3) := by decide +kernel
theorem dX6_pointsOf_36 : decode cX6_pointsOf 36 = .ok (.goto 4, 3) := by decide +kernel
theorem dX6_pointsOf_39 : decode cX6_pointsOf 39 = .ok (.lconst 0, 1) := by decide +kernel
theorem dX6_pointsOf_40 : decode cX6_pointsOf 40 = .ok (.ladd, 1) := by decide +kernel
theorem dX6_pointsOf_41 : decode cX6_pointsOf 41 = .ok (.lstore_n 2, 1) := by decide +kernel
theorem dX6_pointsOf_42 : decode cX6_pointsOf 42 = .ok (.iinc 4 1, 3) := by decide +kernel
theorem dX6_pointsOf_45 : decode cX6_pointsOf 45 = .ok (.goto (-40), 3) := by decide +kernel
theorem dX6_pointsOf_48 : decode cX6_pointsOf 48 = .ok (.lload_n 2, 1) := by decide +kernel
theorem dX6_pointsOf_49 : decode cX6_pointsOf 49 = .ok (.lreturn, 1) := by decide +kernel
theorem dX6_allSums_0 : decode cX6_allSums 0 = .ok (.lconst 0, 1) := by decide +kernel
theorem dX6_allSums_1 : decode cX6_allSums 1 = .ok (.lstore_n 1, 1) := by decide +kernel
theorem dX6_allSums_2 : decode cX6_allSums 2 = .ok (.iconst 0, 1) := by decide +kernel
theorem dX6_allSums_3 : decode cX6_allSums 3 = .ok (.istore_n 3, 1) := by decide +kernel
theorem dX6_allSums_4 : decode cX6_allSums 4 = .ok (.iload_n 3, 1) := by decide +kernel
theorem dX6_allSums_5 : decode cX6_allSums 5 = .ok (.aload_n 0, 1) := by decide +kernel
theorem dX6_allSums_6 : decode cX6_allSums 6 = .ok (.getfield 70, 3) := by decide +kernel
theorem dX6_allSums_9 : decode cX6_allSums 9 = .ok (.if_icmp .ge 33, 3) := by decide +kernel
theorem dX6_allSums_12 : decode cX6_allSums 12 = .ok (.lload_n 1, 1) := by decide +kernel
theorem dX6_allSums_13 : decode cX6_allSums 13 = .ok (.aload_n 0, 1) := by decide +kernel
theorem dX6_allSums_14 : decode cX6_allSums 14 = .ok (.iload_n 3, 1) := by decide +kernel
theorem dX6_allSums_15 : decode cX6_allSums 15 = .ok (.invokevirtual 113, 3) := by decide +kernel
theorem dX6_allSums_18 : decode cX6_allSums 18 = .ok (.ifCond .eq 15, 3) := by decide +kernel
theorem dX6_allSums_21 : decode cX6_allSums 21 = .ok (.aload_n 0, 1) := by decide +kernel
theorem dX6_allSums_22 : decode cX6_allSums 22 = .ok (.getfield 37, 3) := by decide +kernel
theorem dX6_allSums_25 : decode cX6_allSums 25 = .ok (.iload_n 3, 1) := by decide +kernel
theorem dX6_allSums_26 : decode cX6_allSums 26 = .ok (.aaload, 1) := by decide +kernel
theorem dX6_allSums_27 : decode cX6_allSums 27 = .ok (.invokevirtual 120, 3) := by decide +kernel
theorem dX6_allSums_30 : decode cX6_allSums 30 = .ok (.goto 4, 3) := by decide +kernel
theorem dX6_allSums_33 : decode cX6_allSums 33 = .ok (.lconst 0, 1) := by decide +kernel
theorem dX6_allSums_34 : decode cX6_allSums 34 = .ok (.ladd, 1) := by decide +kernel
theorem dX6_allSums_35 : decode cX6_allSums 35 = .ok (.lstore_n 1, 1) := by decide +kernel
theorem dX6_allSums_36 : decode cX6_allSums 36 = .ok (.iinc 3 1, 3) := by decide +kernel
theorem dX6_allSums_39 : decode cX6_allSums 39 = .ok (.goto (-35), 3) := by decide +kernel
theorem dX6_allSums_42 : decode cX6_allSums 42 = .ok (.lload_n 1, 1) := by decide +kernel
theorem dX6_allSums_43 : decode cX6_allSums 43 = .ok (.lreturn, 1) := by decide +kernel
theorem dX6_allPoints_0 : decode cX6_allPoints 0 = .ok (.lconst 0, 1) := by decide +kernel
theorem dX6_allPoints_1 : decode cX6_allPoints 1 = .ok (.lstore_n 1, 1) := by decide +kernel
theorem dX6_allPoints_2 : decode cX6_allPoints 2 = .ok (.iconst 0, 1) := by decide +kernel
theorem dX6_allPoints_3 : decode cX6_allPoints 3 = .ok (.istore_n 3, 1) := by decide +kernel
theorem dX6_allPoints_4 : decode cX6_allPoints 4 = .ok (.iload_n 3, 1) := by decide +kernel
theorem dX6_allPoints_5 : decode cX6_allPoints 5 = .ok (.aload_n 0, 1) := by decide +kernel
theorem dX6_allPoints_6 : decode cX6_allPoints 6 = .ok (.getfield 70, 3) := by decide +kernel
theorem dX6_allPoints_9 : decode cX6_allPoints 9 = .ok (.if_icmp .ge 34, 3) := by decide +kernel
theorem dX6_allPoints_12 : decode cX6_allPoints 12 = .ok (.lload_n 1, 1) := by decide +kernel
theorem dX6_allPoints_13 : decode cX6_allPoints 13 = .ok (.aload_n 0, 1) := by decide +kernel
theorem dX6_allPoints_14 : decode cX6_allPoints 14 = .ok (.iload_n 3, 1) := by decide +kernel
theorem dX6_allPoints_15 : decode cX6_allPoints 15 = .ok (.invokevirtual 113, 3) := by decide +kernel
theorem dX6_allPoints_18 : decode cX6_allPoints 18 = .ok (.ifCond .eq 16, 3) := by decide +kernel
theorem dX6_allPoints_21 : decode cX6_allPoints 21 = .ok (.aload_n 0, 1) := by decide +kernel
theorem dX6_allPoints_22 : decode cX6_allPoints 22 = .ok (.aload_n 0, 1) := by decide +kernel
theorem dX6_allPoints_23 : decode cX6_allPoints 23 = .ok (.getfield 37, 3) := by decide +kernel
theorem dX6_allPoints_26 : decode cX6_allPoints 26 = .ok (.iload_n 3, 1) := by decide +kernel
theorem dX6_allPoints_27 : decode cX6_allPoints 27 = .ok (.aaload, 1) := by decide +kernel
theorem dX6_allPoints_28 : decode cX6_allPoints 28 = .ok (.invokevirtual 141, 3) := by decide +kernel
theorem dX6_allPoints_31 : decode cX6_allPoints 31 = .ok (.goto 4, 3) := by decide +kernel
theorem dX6_allPoints_34 : decode cX6_allPoints 34 = .ok (.lconst 0, 1) := by decide +kernel
theorem dX6_allPoints_35 : decode cX6_allPoints 35 = .ok (.ladd, 1) := by decide +kernel
theorem dX6_allPoints_36 : decode cX6_allPoints 36 = .ok (.lstore_n 1, 1) := by decide +kernel
theorem dX6_allPoints_37 : decode cX6_allPoints 37 = .ok (.iinc 3 1, 3) := by decide +kernel
theorem dX6_allPoints_40 : decode cX6_allPoints 40 = .ok (.goto (-36), 3) := by decide +kernel
theorem dX6_allPoints_43 : decode cX6_allPoints 43 = .ok (.lload_n 1, 1) := by decide +kernel
theorem dX6_allPoints_44 : decode cX6_allPoints 44 = .ok (.lreturn, 1) := by decide +kernel
theorem dX7_init_0 : decode cX7_init 0 = .ok (.aload_n 0, 1) := by decide +kernel
theorem dX7_init_1 : decode cX7_init 1 = .ok (.invokespecial 1, 3) := by decide +kernel
theorem dX7_init_4 : decode cX7_init 4 = .ok (.aload_n 0, 1) := by decide +kernel
theorem dX7_init_5 : decode cX7_init 5 = .ok (.iload_n 1, 1) := by decide +kernel
theorem dX7_init_6 : decode cX7_init 6 = .ok (.putfield 7, 3) := by decide +kernel
theorem dX7_init_9 : decode cX7_init 9 = .ok (.aload_n 0, 1) := by decide +kernel
theorem dX7_init_10 : decode cX7_init 10 = .ok (.iload_n 2, 1) := by decide +kernel
theorem dX7_init_11 : decode cX7_init 11 = .ok (.putfield 13, 3) := by decide +kernel
theorem dX7_init_14 : decode cX7_init 14 = .ok (.aload_n 0, 1) := by decide +kernel
theorem dX7_init_15 : decode cX7_init 15 = .ok (.iload_n 3, 1) := by decide +kernel
theorem dX7_init_16 : decode cX7_init 16 = .ok (.putfield 16, 3) := by decide +kernel
theorem dX7_init_19 : decode cX7_init 19 = .ok (.aload_n 0, 1) := by decide +kernel
theorem dX7_init_20 : decode cX7_init 20 = .ok (.iload 4, 2) := by decide +kernel
theorem dX7_init_22 : decode cX7_init 22 = .ok (.putfield 19, 3) := by decide +kernel
theorem dX7_init_25 : decode cX7_init 25 = .ok (.aload_n 0, 1) := by decide +kernel
theorem dX7_init_26 : decode cX7_init 26 = .ok (.iload 5, 2) := by decide +kernel
theorem dX7_init_28 : decode cX7_init 28 = .ok (.putfield 22, 3) := by decide +kernel
theorem dX7_init_31 : decode cX7_init 31 = .ok (.return_, 1) := by decide +kernel
theorem dX7_isOver_0 : decode cX7_isOver 0 = .ok (.aload_n 1, 1) := by decide +kernel
theorem dX7_isOver_1 : decode cX7_isOver 1 = .ok (.getfield 25, 3) := by decide +kernel
theorem dX7_isOver_4 : decode cX7_isOver 4 = .ok (.aload_n 0, 1) := by decide +kernel
theorem dX7_isOver_5 : decode cX7_isOver 5 = .ok (.getfield 7, 3) := by decide +kernel
theorem dX7_isOver_8 : decode cX7_isOver 8 = .ok (.if_icmp .lt 40, 3) := by decide +kernel
theorem dX7_isOver_11 : decode cX7_isOver 11 = .ok (.aload_n 1, 1) := by decide +kernel
theorem dX7_isOver_12 : decode cX7_isOver 12 = .ok (.getfield 25, 3) := by decide +kernel
theorem dX7_isOver_15 : decode cX7_isOver 15 = .ok (.aload_n 0, 1) := by decide +kernel
theorem dX7_isOver_16 : decode cX7_isOver 16 = .ok (.getfield 16, 3) := by decide +kernel
theorem dX7_isOver_19 : decode cX7_isOver 19 = .ok (.if_icmp .gt 29, 3) := by decide +kernel
theorem dX7_isOver_22 : decode cX7_isOver 22 = .ok (.aload_n 1, 1) := by decide +kernel
theorem dX7_isOver_23 : decode cX7_isOver 23 = .ok (.getfield 28, 3) := by decide +kernel
theorem dX7_isOver_26 : decode cX7_isOver 26 = .ok (.aload_n 0, 1) := by decide +kernel
theorem dX7_isOver_27 : decode cX7_isOver 27 = .ok (.getfield 13, 3) := by decide +kernel
theorem dX7_isOver_30 : decode cX7_isOver 30 = .ok (.if_icmp .lt 18, 3) := by decide +kernel
theorem dX7_isOver_33 : decode cX7_isOver 33 = .ok (.aload_n 1, 1) := by decide +kernel
theorem dX7_isOver_34 : decode cX7_isOver 34 = .ok (.getfield 28, 3) := by decide +kernel
theorem dX7_isOver_37 : decode cX7_isOver 37 = .ok (.aload_n 0, 1) := by decide +kernel
theorem dX7_isOver_38 : decode cX7_isOver 38 = .ok (.getfield 19, 3) := by decide +kernel
theorem dX7_isOver_41 : decode cX7_isOver 41 = .ok (.if_icmp .gt 7, 3) := by decide +kernel
theorem dX7_isOver_44 : decode cX7_isOver 44 = .ok (.iconst 1, 1) := by decide +kernel
theorem dX7_isOver_45 : decode cX7_isOver 45 = .ok (.goto 4, 3) := by decide +kernel
theorem dX7_isOver_48 : decode cX7_isOver 48 = .ok (.iconst 0, 1) := by decide +kernel
theorem dX7_isOver_49 : decode cX7_isOver 49 = .ok (.ireturn, 1) := by decide +kernel
theorem dX8_init_0 : decode cX8_init 0 = .ok (.aload_n 0, 1) := by decide +kernel
theorem dX8_init_1 : decode cX8_init 1 = .ok (.invokespecial 3, 3) := by decide +kernel
theorem dX8_init_4 : decode cX8_init 4 = .ok (.aload_n 0, 1) := by decide +kernel
theorem dX8_init_5 : decode cX8_init 5 = .ok (.sipush 700, 3) := by decide +kernel
theorem dX8_init_8 : decode cX8_init 8 = .ok (.newarray .byte, 2) := by decide +kernel
theorem dX8_init_10 : decode cX8_init 10 = .ok (.putfield 9, 3) := by decide +kernel
theorem dX8_init_13 : decode cX8_init 13 = .ok (.return_, 1) := by decide +kernel
theorem dX8_takes_0 : decode cX8_takes 0 = .ok (.aload_n 0, 1) := by decide +kernel
theorem dX8_takes_1 : decode cX8_takes 1 = .ok (.getfield 15, 3) := by decide +kernel
theorem dX8_takes_4 : decode cX8_takes 4 = .ok (.sipush 700, 3) := by decide +kernel
theorem dX8_takes_7 : decode cX8_takes 7 = .ok (.iload_n 1, 1) := by decide +kernel
theorem dX8_takes_8 : decode cX8_takes 8 = .ok (.isub, 1) := by decide +kernel
theorem dX8_takes_9 : decode cX8_takes 9 = .ok (.if_icmp .gt 7, 3) := by decide +kernel
theorem dX8_takes_12 : decode cX8_takes 12 = .ok (.iconst 1, 1) := by decide +kernel
theorem dX8_takes_13 : decode cX8_takes 13 = .ok (.goto 4, 3) := by decide +kernel
theorem dX8_takes_16 : decode cX8_takes 16 = .ok (.iconst 0, 1) := by decide +kernel
theorem dX8_takes_17 : decode cX8_takes 17 = .ok (.ireturn, 1) := by decide +kernel
theorem dX8_append_0 : decode cX8_append 0 = .ok (.bipush 24, 2) := by decide +kernel
theorem dX8_append_2 : decode cX8_append 2 = .ok (.istore_n 2, 1) := by decide +kernel
theorem dX8_append_3 : decode cX8_append 3 = .ok (.iload_n 2, 1) := by decide +kernel
theorem dX8_append_4 : decode cX8_append 4 = .ok (.ifCond .lt 49, 3) := by decide +kernel
theorem dX8_append_7 : decode cX8_append 7 = .ok (.aload_n 0, 1) := by decide +kernel
theorem dX8_append_8 : decode cX8_append 8 = .ok (.getfield 15, 3) := by decide +kernel
theorem dX8_append_11 : decode cX8_append 11 = .ok (.ifCond .lt 36, 3) := by decide +kernel
theorem dX8_append_14 : decode cX8_append 14 = .ok (.aload_n 0, 1) := by decide +kernel
theorem dX8_append_15 : decode cX8_append 15 = .ok (.getfield 15, 3) := by decide +kernel
theorem dX8_append_18 : decode cX8_append 18 = .ok (.sipush 700, 3) := by decide +kernel
theorem dX8_append_21 : decode cX8_append 21 = .ok (.if_icmp .ge 26, 3) := by decide +kernel
theorem dX8_append_24 : decode cX8_append 24 = .ok (.aload_n 0, 1) := by decide +kernel
theorem dX8_append_25 : decode cX8_append 25 = .ok (.getfield 9, 3) := by decide +kernel
theorem dX8_append_28 : decode cX8_append 28 = .ok (.aload_n 0, 1) := by decide +kernel
theorem dX8_append_29 : decode cX8_append 29 = .ok (.getfield 15, 3) := by decide +kernel
theorem dX8_append_32 : decode cX8_append 32 = .ok (.iload_n 1, 1) := by decide +kernel
theorem dX8_append_33 : decode cX8_append 33 = .ok (.iload_n 2, 1) := by decide +kernel
theorem dX8_append_34 : decode cX8_append 34 = .ok (.ishr, 1) := by decide +kernel
theorem dX8_append_35 : decode cX8_append 35 = .ok (.i2b, 1) := by decide +kernel
theorem dX8_append_36 : decode cX8_append 36 = .ok (.bastore, 1) := by decide +kernel
theorem dX8_append_37 : decode cX8_append 37 = .ok (.aload_n 0, 1) := by decide +kernel
theorem dX8_append_38 : decode cX8_append 38 = .ok (.dup, 1) := by decide +kernel
theorem dX8_append_39 : decode cX8_append 39 = .ok (.getfield 15, 3) := by decide +kernel
theorem dX8_append_42 : decode cX8_append 42 = .ok (.iconst 1, 1) := by decide +kernel
theorem dX8_append_43 : decode cX8_append 43 = .ok (.iadd, 1) := by decide +kernel
theorem dX8_append_44 : decode cX8_append 44 = .ok (.putfield 15, 3) := by decide +kernel
theorem dX8_append_47 : decode cX8_append 47 = .ok (.iinc 2 (-8), 3) := by decide +kernel
theorem dX8_append_50 : decode cX8_append 50 = .ok (.goto (-47), 3) := by decide +kernel
theorem dX8_append_53 : decode cX8_append 53 = .ok (.return_, 1) := by decide +kernel
theorem dJ0_length_8abf5_0 : decode cJ0_length_8abf5 0 = .ok (.aload_n 0, 1) := by decide +kernel
theorem dJ0_length_8abf5_1 : decode cJ0_length_8abf5 1 = .ok (.getfield 9, 3) := by decide +kernel
theorem dJ0_length_8abf5_4 : decode cJ0_length_8abf5 4 = .ok (.arraylength, 1) := by decide +kernel
theorem dJ0_length_8abf5_5 : decode cJ0_length_8abf5 5 = .ok (.aload_n 0, 1) := by decide +kernel
theorem dJ0_length_8abf5_6 : decode cJ0_length_8abf5 6 = .ok (.invokevirtual 335, 3) := by decide +kernel
theorem dJ0_length_8abf5_9 : decode cJ0_length_8abf5 9 = .ok (.ishr, 1) := by decide +kernel
theorem dJ0_length_8abf5_10 : decode cJ0_length_8abf5 10 = .ok (.ireturn, 1) := by decide +kernel
theorem dJ0_charAt_5068e_0 : decode cJ0_charAt_5068e 0 = .ok (.aload_n 0, 1) := by decide +kernel
theorem dJ0_charAt_5068e_1 : decode cJ0_charAt_5068e 1 = .ok (.invokevirtual 492, 3) := by decide +kernel
theorem dJ0_charAt_5068e_4 : decode cJ0_charAt_5068e 4 = .ok (.ifCond .eq 12, 3) := by decide +kernel
theorem dJ0_charAt_5068e_7 : decode cJ0_charAt_5068e 7 = .ok (.aload_n 0, 1) := by decide +kernel
theorem dJ0_charAt_5068e_8 : decode cJ0_charAt_5068e 8 = .ok (.getfield 9, 3) := by decide +kernel
theorem dJ0_charAt_5068e_11 : decode cJ0_charAt_5068e 11 = .ok (.iload_n 1, 1) := by decide +kernel
theorem dJ0_charAt_5068e_12 : decode cJ0_charAt_5068e 12 = .ok (.invokestatic 495, 3) := by decide +kernel
theorem dJ0_charAt_5068e_15 : decode cJ0_charAt_5068e 15 = .ok (.ireturn, 1) := by decide +kernel
theorem dJ0_charAt_5068e_16 : decode cJ0_charAt_5068e 16 = .ok (.aload_n 0, 1) := by decide +kernel
theorem dJ0_charAt_5068e_17 : decode cJ0_charAt_5068e 17 = .ok (.getfield 9, 3) := by decide +kernel
theorem dJ0_charAt_5068e_20 : decode cJ0_charAt_5068e 20 = .ok (.iload_n 1, 1) := by decide +kernel
theorem dJ0_charAt_5068e_21 : decode cJ0_charAt_5068e 21 = .ok (.invokestatic 498, 3) := by decide +kernel
theorem dJ0_charAt_5068e_24 : decode cJ0_charAt_5068e 24 = .ok (.ireturn, 1) := by decide +kernel
theorem dJ0_coder_7d493_0 : decode cJ0_coder_7d493 0 = .ok (.getstatic 38, 3) := by decide +kernel
theorem dJ0_coder_7d493_3 : decode cJ0_coder_7d493 3 = .ok (.ifCond .eq 10, 3) := by decide +kernel
theorem dJ0_coder_7d493_6 : decode cJ0_coder_7d493 6 = .ok (.aload_n 0, 1) := by decide +kernel
theorem dJ0_coder_7d493_7 : decode cJ0_coder_7d493 7 = .ok (.getfield 15, 3) := by decide +kernel
theorem dJ0_coder_7d493_10 : decode cJ0_coder_7d493 10 = .ok (.goto 4, 3) := by decide +kernel
theorem dJ0_coder_7d493_13 : decode cJ0_coder_7d493 13 = .ok (.iconst 1, 1) := by decide +kernel
theorem dJ0_coder_7d493_14 : decode cJ0_coder_7d493 14 = .ok (.ireturn, 1) := by decide +kernel
theorem dJ0_isLatin1_aae02_0 : decode cJ0_isLatin1_aae02 0 = .ok (.getstatic 38, 3) := by decide +kernel
theorem dJ0_isLatin1_aae02_3 : decode cJ0_isLatin1_aae02 3 = .ok (.ifCond .eq 14, 3) := by decide +kernel
theorem dJ0_isLatin1_aae02_6 : decode cJ0_isLatin1_aae02 6 = .ok (.aload_n 0, 1) := by decide +kernel
theorem dJ0_isLatin1_aae02_7 : decode cJ0_isLatin1_aae02 7 = .ok (.getfield 15, 3) := by decide +kernel
theorem dJ0_isLatin1_aae02_10 : decode cJ0_isLatin1_aae02 10 = .ok (.ifCond .ne 7, 3) := by decide +kernel
theorem dJ0_isLatin1_aae02_13 : decode cJ0_isLatin1_aae02 13 = .ok (.iconst 1, 1) := by decide +kernel
theorem dJ0_isLatin1_aae02_14 : decode cJ0_isLatin1_aae02 14 = .ok (.goto 4, 3) := by decide +kernel
theorem dJ0_isLatin1_aae02_17 : decode cJ0_isLatin1_aae02 17 = .ok (.iconst 0, 1) := by decide +kernel
theorem dJ0_isLatin1_aae02_18 : decode cJ0_isLatin1_aae02 18 = .ok (.ireturn, 1) := by decide +kernel
theorem dJ0_checkIndex_df160_0 : decode cJ0_checkIndex_df160 0 = .ok (.iload_n 0, 1) := by decide +kernel
theorem dJ0_checkIndex_df160_1 : decode cJ0_checkIndex_df160 1 = .ok (.iload_n 1, 1) := by decide +kernel
theorem dJ0_checkIndex_df160_2 : decode cJ0_checkIndex_df160 2 = .ok (.getstatic 1053, 3) := by decide +kernel
theorem dJ0_checkIndex_df160_5 : decode cJ0_checkIndex_df160 5 = .ok (.invokestatic 1059, 3) := by decide +kernel
theorem dJ0_checkIndex_df160_8 : decode cJ0_checkIndex_df160 8 = .ok (.pop, 1) := by decide +kernel
theorem dJ0_checkIndex_df160_9 : decode cJ0_checkIndex_df160 9 = .ok (.return_, 1) := by decide +kernel
theorem dJ1_charAt_3b067_0 : decode cJ1_charAt_3b067 0 = .ok (.iload_n 1, 1) := by decide +kernel
theorem dJ1_charAt_3b067_1 : decode cJ1_charAt_3b067 1 = .ok (.aload_n 0, 1) := by decide +kernel
theorem dJ1_charAt_3b067_2 : decode cJ1_charAt_3b067 2 = .ok (.arraylength, 1) := by decide +kernel
theorem dJ1_charAt_3b067_3 : decode cJ1_charAt_3b067 3 = .ok (.invokestatic 9, 3) := by decide +kernel
theorem dJ1_charAt_3b067_6 : decode cJ1_charAt_3b067 6 = .ok (.aload_n 0, 1) := by decide +kernel
theorem dJ1_charAt_3b067_7 : decode cJ1_charAt_3b067 7 = .ok (.iload_n 1, 1) := by decide +kernel
theorem dJ1_charAt_3b067_8 : decode cJ1_charAt_3b067 8 = .ok (.baload, 1) := by decide +kernel
theorem dJ1_charAt_3b067_9 : decode cJ1_charAt_3b067 9 = .ok (.sipush 255, 3) := by decide +kernel
theorem dJ1_charAt_3b067_12 : decode cJ1_charAt_3b067 12 = .ok (.iand, 1) := by decide +kernel
theorem dJ1_charAt_3b067_13 : decode cJ1_charAt_3b067 13 = .ok (.i2c, 1) := by decide +kernel
theorem dJ1_charAt_3b067_14 : decode cJ1_charAt_3b067 14 = .ok (.ireturn, 1) := by decide +kernel
theorem dJ3_checkIndex_8e157_0 : decode cJ3_checkIndex_8e157 0 = .ok (.iload_n 0, 1) := by decide +kernel
theorem dJ3_checkIndex_8e157_1 : decode cJ3_checkIndex_8e157 1 = .ok (.ifCond .lt 8, 3) := by decide +kernel
theorem dJ3_checkIndex_8e157_4 : decode cJ3_checkIndex_8e157 4 = .ok (.iload_n 0, 1) := by decide +kernel
theorem dJ3_checkIndex_8e157_5 : decode cJ3_checkIndex_8e157 5 = .ok (.iload_n 1, 1) := by decide +kernel
theorem dJ3_checkIndex_8e157_6 : decode cJ3_checkIndex_8e157 6 = .ok (.if_icmp .lt 10, 3) := by decide +kernel
theorem dJ3_checkIndex_8e157_9 : decode cJ3_checkIndex_8e157 9 = .ok (.aload_n 2, 1) := by decide +kernel
theorem dJ3_checkIndex_8e157_10 : decode cJ3_checkIndex_8e157 10 = .ok (.iload_n 0, 1) := by decide +kernel
theorem dJ3_checkIndex_8e157_11 : decode cJ3_checkIndex_8e157 11 = .ok (.iload_n 1, 1) := by decide +kernel
theorem dJ3_checkIndex_8e157_12 : decode cJ3_checkIndex_8e157 12 = .ok (.invokestatic 95, 3) := by decide +kernel
theorem dJ3_checkIndex_8e157_15 : decode cJ3_checkIndex_8e157 15 = .ok (.athrow, 1) := by decide +kernel
theorem dJ3_checkIndex_8e157_16 : decode cJ3_checkIndex_8e157 16 = .ok (.iload_n 0, 1) := by decide +kernel
theorem dJ3_checkIndex_8e157_17 : decode cJ3_checkIndex_8e157 17 = .ok (.ireturn, 1) := by decide +kernel
