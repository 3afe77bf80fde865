theorem dX1_init_0 : decode cX1_init 0 = .ok (.aload_n 0, 1) := by decide +kernel
theorem dX1_init_1 : decode cX1_init 1 = .ok (.invokespecial 3, 3) := by decide +kernel
theorem dX1_init_4 : decode cX1_init 4 = .ok (.aload_n 0, 1) := by decide +kernel
theorem dX1_init_5 : decode cX1_init 5 = .ok (.bipush 11, 2) := by decide +kernel
theorem dX1_init_7 : decode cX1_init 7 = .ok (.newarray .long, 2) := by decide +kernel
theorem dX1_init_9 : decode cX1_init 9 = .ok (.putfield 9, 3) := by decide +kernel
theorem dX1_init_12 : decode cX1_init 12 = .ok (.aload_n 0, 1) := by decide +kernel
theorem dX1_init_13 : decode cX1_init 13 = .ok (.bipush 6, 2) := by decide +kernel
theorem dX1_init_15 : decode cX1_init 15 = .ok (.bipush 12, 2) := by decide +kernel
theorem dX1_init_17 : decode cX1_init 17 = .ok (.multianewarray 15 2, 4) := by decide +kernel
theorem dX1_init_21 : decode cX1_init 21 = .ok (.putfield 17, 3) := by decide +kernel
theorem dX1_init_24 : decode cX1_init 24 = .ok (.aload_n 0, 1) := by decide +kernel
theorem dX1_init_25 : decode cX1_init 25 = .ok (.bipush 12, 2) := by decide +kernel
theorem dX1_init_27 : decode cX1_init 27 = .ok (.newarray .boolean, 2) := by decide +kernel
theorem dX1_init_29 : decode cX1_init 29 = .ok (.putfield 20, 3) := by decide +kernel
theorem dX1_init_32 : decode cX1_init 32 = .ok (.aload_n 0, 1) := by decide +kernel
theorem dX1_init_33 : decode cX1_init 33 = .ok (.bipush 12, 2) := by decide +kernel
theorem dX1_init_35 : decode cX1_init 35 = .ok (.newarray .boolean, 2) := by decide +kernel
theorem dX1_init_37 : decode cX1_init 37 = .ok (.putfield 24, 3) := by decide +kernel
theorem dX1_init_40 : decode cX1_init 40 = .ok (.aload_n 0, 1) := by decide +kernel
theorem dX1_init_41 : decode cX1_init 41 = .ok (.bipush 12, 2) := by decide +kernel
theorem dX1_init_43 : decode cX1_init 43 = .ok (.newarray .long, 2) := by decide +kernel
theorem dX1_init_45 : decode cX1_init 45 = .ok (.putfield 27, 3) := by decide +kernel
theorem dX1_init_48 : decode cX1_init 48 = .ok (.aload_n 0, 1) := by decide +kernel
theorem dX1_init_49 : decode cX1_init 49 = .ok (.bipush 12, 2) := by decide +kernel
theorem dX1_init_51 : decode cX1_init 51 = .ok (.newarray .long, 2) := by decide +kernel
theorem dX1_init_53 : decode cX1_init 53 = .ok (.putfield 30, 3) := by decide +kernel
theorem dX1_init_56 : decode cX1_init 56 = .ok (.aload_n 0, 1) := by decide +kernel
theorem dX1_init_57 : decode cX1_init 57 = .ok (.bipush 12, 2) := by decide +kernel
theorem dX1_init_59 : decode cX1_init 59 = .ok (.newarray .long, 2) := by decide +kernel
theorem dX1_init_61 : decode cX1_init 61 = .ok (.putfield 33, 3) := by decide +kernel
theorem dX1_init_64 : decode cX1_init 64 = .ok (.aload_n 0, 1) := by decide +kernel
theorem dX1_init_65 : decode cX1_init 65 = .ok (.bipush 12, 2) := by decide +kernel
theorem dX1_init_67 : decode cX1_init 67 = .ok (.newarray .long, 2) := by decide +kernel
theorem dX1_init_69 : decode cX1_init 69 = .ok (.putfield 36, 3) := by decide +kernel
theorem dX1_init_72 : decode cX1_init 72 = .ok (.aload_n 0, 1) := by decide +kernel
theorem dX1_init_73 : decode cX1_init 73 = .ok (.bipush 12, 2) := by decide +kernel
theorem dX1_init_75 : decode cX1_init 75 = .ok (.newarray .long, 2) := by decide +kernel
theorem dX1_init_77 : decode cX1_init 77 = .ok (.putfield 39, 3) := by decide +kernel
theorem dX1_init_80 : decode cX1_init 80 = .ok (.aload_n 0, 1) := by decide +kernel
theorem dX1_init_81 : decode cX1_init 81 = .ok (.aload_n 1, 1) := by decide +kernel
theorem dX1_init_82 : decode cX1_init 82 = .ok (.putfield 42, 3) := by decide +kernel
theorem dX1_init_85 : decode cX1_init 85 = .ok (.aload_n 0, 1) := by decide +kernel
theorem dX1_init_86 : decode cX1_init 86 = .ok (.aload_n 2, 1) := by decide +kernel
theorem dX1_init_87 : decode cX1_init 87 = .ok (.putfield 46, 3) := by decide +kernel
theorem dX1_init_90 : decode cX1_init 90 = .ok (.return_, 1) := by decide +kernel
theorem dX1_reckon_0 : decode cX1_reckon 0 = .ok (.aload_n 0, 1) := by decide +kernel
theorem dX1_reckon_1 : decode cX1_reckon 1 = .ok (.invokevirtual 50, 3) := by decide +kernel
theorem dX1_reckon_4 : decode cX1_reckon 4 = .ok (.iconst 0, 1) := by decide +kernel
theorem dX1_reckon_5 : decode cX1_reckon 5 = .ok (.istore_n 2, 1) := by decide +kernel
theorem dX1_reckon_6 : decode cX1_reckon 6 = .ok (.iload_n 2, 1) := by decide +kernel
theorem dX1_reckon_7 : decode cX1_reckon 7 = .ok (.bipush 12, 2) := by decide +kernel
theorem dX1_reckon_9 : decode cX1_reckon 9 = .ok (.if_icmp .ge 41, 3) := by decide +kernel
theorem dX1_reckon_12 : decode cX1_reckon 12 = .ok (.aload_n 0, 1) := by decide +kernel
theorem dX1_reckon_13 : decode cX1_reckon 13 = .ok (.getfield 20, 3) := by decide +kernel
theorem dX1_reckon_16 : decode cX1_reckon 16 = .ok (.iload_n 2, 1) := by decide +kernel
theorem dX1_reckon_17 : decode cX1_reckon 17 = .ok (.iload_n 2, 1) := by decide +kernel
theorem dX1_reckon_18 : decode cX1_reckon 18 = .ok (.iload_n 1, 1) := by decide +kernel
theorem dX1_reckon_19 : decode cX1_reckon 19 = .ok (.if_icmp .eq 18, 3) := by decide +kernel
theorem dX1_reckon_22 : decode cX1_reckon 22 = .ok (.aload_n 0, 1) := by decide +kernel
theorem dX1_reckon_23 : decode cX1_reckon 23 = .ok (.getfield 42, 3) := by decide +kernel
theorem dX1_reckon_26 : decode cX1_reckon 26 = .ok (.iload_n 2, 1) := by decide +kernel
theorem dX1_reckon_27 : decode cX1_reckon 27 = .ok (.invokevirtual 53, 3) := by decide +kernel
theorem dX1_reckon_30 : decode cX1_reckon 30 = .ok (.ifCond .eq 7, 3) := by decide +kernel
theorem dX1_reckon_33 : decode cX1_reckon 33 = .ok (.iconst 1, 1) := by decide +kernel
theorem dX1_reckon_34 : decode cX1_reckon 34 = .ok (.goto 4, 3) := by decide +kernel
theorem dX1_reckon_37 : decode cX1_reckon 37 = .ok (.iconst 0, 1) := by decide +kernel
theorem dX1_reckon_38 : decode cX1_reckon 38 = .ok (.bastore, 1) := by decide +kernel
theorem dX1_reckon_39 : decode cX1_reckon 39 = .ok (.aload_n 0, 1) := by decide +kernel
theorem dX1_reckon_40 : decode cX1_reckon 40 = .ok (.iload_n 2, 1) := by decide +kernel
theorem dX1_reckon_41 : decode cX1_reckon 41 = .ok (.invokevirtual 59, 3) := by decide +kernel
theorem dX1_reckon_44 : decode cX1_reckon 44 = .ok (.iinc 2 1, 3) := by decide +kernel
theorem dX1_reckon_47 : decode cX1_reckon 47 = .ok (.goto (-41), 3) := by decide +kernel
theorem dX1_reckon_50 : decode cX1_reckon 50 = .ok (.aload_n 0, 1) := by decide +kernel
theorem dX1_reckon_51 : decode cX1_reckon 51 = .ok (.invokevirtual 63, 3) := by decide +kernel
theorem dX1_reckon_54 : decode cX1_reckon 54 = .ok (.aload_n 0, 1) := by decide +kernel
theorem dX1_reckon_55 : decode cX1_reckon 55 = .ok (.getfield 9, 3) := by decide +kernel
theorem dX1_reckon_58 : decode cX1_reckon 58 = .ok (.iconst 3, 1) := by decide +kernel
theorem dX1_reckon_59 : decode cX1_reckon 59 = .ok (.laload, 1) := by decide +kernel
theorem dX1_reckon_60 : decode cX1_reckon 60 = .ok (.aload_n 0, 1) := by decide +kernel
theorem dX1_reckon_61 : decode cX1_reckon 61 = .ok (.getfield 9, 3) := by decide +kernel
theorem dX1_reckon_64 : decode cX1_reckon 64 = .ok (.iconst 2, 1) := by decide +kernel
theorem dX1_reckon_65 : decode cX1_reckon 65 = .ok (.laload, 1) := by decide +kernel
theorem dX1_reckon_66 : decode cX1_reckon 66 = .ok (.lsub, 1) := by decide +kernel
theorem dX1_reckon_67 : decode cX1_reckon 67 = .ok (.lstore_n 2, 1) := by decide +kernel
theorem dX1_reckon_68 : decode cX1_reckon 68 = .ok (.lload_n 2, 1) := by decide +kernel
theorem dX1_reckon_69 : decode cX1_reckon 69 = .ok (.lconst 0, 1) := by decide +kernel
theorem dX1_reckon_70 : decode cX1_reckon 70 = .ok (.lcmp, 1) := by decide +kernel
theorem dX1_reckon_71 : decode cX1_reckon 71 = .ok (.ifCond .lt 11, 3) := by decide +kernel
theorem dX1_reckon_74 : decode cX1_reckon 74 = .ok (.aload_n 0, 1) := by decide +kernel
theorem dX1_reckon_75 : decode cX1_reckon 75 = .ok (.lload_n 2, 1) := by decide +kernel
theorem dX1_reckon_76 : decode cX1_reckon 76 = .ok (.invokevirtual 66, 3) := by decide +kernel
theorem dX1_reckon_79 : decode cX1_reckon 79 = .ok (.goto 9, 3) := by decide +kernel
theorem dX1_reckon_82 : decode cX1_reckon 82 = .ok (.aload_n 0, 1) := by decide +kernel
theorem dX1_reckon_83 : decode cX1_reckon 83 = .ok (.lload_n 2, 1) := by decide +kernel
theorem dX1_reckon_84 : decode cX1_reckon 84 = .ok (.lneg, 1) := by decide +kernel
theorem dX1_reckon_85 : decode cX1_reckon 85 = .ok (.invokevirtual 70, 3) := by decide +kernel
theorem dX1_reckon_88 : decode cX1_reckon 88 = .ok (.aload_n 0, 1) := by decide +kernel
theorem dX1_reckon_89 : decode cX1_reckon 89 = .ok (.getfield 9, 3) := by decide +kernel
theorem dX1_reckon_92 : decode cX1_reckon 92 = .ok (.bipush 10, 2) := by decide +kernel
theorem dX1_reckon_94 : decode cX1_reckon 94 = .ok (.aload_n 0, 1) := by decide +kernel
theorem dX1_reckon_95 : decode cX1_reckon 95 = .ok (.getfield 42, 3) := by decide +kernel
theorem dX1_reckon_98 : decode cX1_reckon 98 = .ok (.getfield 73, 3) := by decide +kernel
theorem dX1_reckon_101 : decode cX1_reckon 101 = .ok (.iconst 1, 1) := by decide +kernel
theorem dX1_reckon_102 : decode cX1_reckon 102 = .ok (.laload, 1) := by decide +kernel
theorem dX1_reckon_103 : decode cX1_reckon 103 = .ok (.aload_n 0, 1) := by decide +kernel
theorem dX1_reckon_104 : decode cX1_reckon 104 = .ok (.getfield 9, 3) := by decide +kernel
theorem dX1_reckon_107 : decode cX1_reckon 107 = .ok (.iconst 4, 1) := by decide +kernel
theorem dX1_reckon_108 : decode cX1_reckon 108 = .ok (.laload, 1) := by decide +kernel
theorem dX1_reckon_109 : decode cX1_reckon 109 = .ok (.ladd, 1) := by decide +kernel
theorem dX1_reckon_110 : decode cX1_reckon 110 = .ok (.aload_n 0, 1) := by decide +kernel
theorem dX1_reckon_111 : decode cX1_reckon 111 = .ok (.getfield 9, 3) := by decide +kernel
theorem dX1_reckon_114 : decode cX1_reckon 114 = .ok (.bipush 6, 2) := by decide +kernel
theorem dX1_reckon_116 : decode cX1_reckon 116 = .ok (.laload, 1) := by decide +kernel
theorem dX1_reckon_117 : decode cX1_reckon 117 = .ok (.lsub, 1) := by decide +kernel
theorem dX1_reckon_118 : decode cX1_reckon 118 = .ok (.lastore, 1) := by decide +kernel
theorem dX1_reckon_119 : decode cX1_reckon 119 = .ok (.aload_n 0, 1) := by decide +kernel
theorem dX1_reckon_120 : decode cX1_reckon 120 = .ok (.invokevirtual 76, 3) := by decide +kernel
theorem dX1_reckon_123 : decode cX1_reckon 123 = .ok (.aload_n 0, 1) := by decide +kernel
theorem dX1_reckon_124 : decode cX1_reckon 124 = .ok (.invokevirtual 79, 3) := by decide +kernel
theorem dX1_reckon_127 : decode cX1_reckon 127 = .ok (.return_, 1) := by decide +kernel
theorem dX1_clear_0 : decode cX1_clear 0 = .ok (.iconst 0, 1) := by decide +kernel
theorem dX1_clear_1 : decode cX1_clear 1 = .ok (.istore_n 1, 1) := by decide +kernel
theorem dX1_clear_2 : decode cX1_clear 2 = .ok (.iload_n 1, 1) := by decide +kernel
theorem dX1_clear_3 : decode cX1_clear 3 = .ok (.bipush 11, 2) := by decide +kernel
theorem dX1_clear_5 : decode cX1_clear 5 = .ok (.if_icmp .ge 16, 3) := by decide +kernel
theorem dX1_clear_8 : decode cX1_clear 8 = .ok (.aload_n 0, 1) := by decide +kernel
theorem dX1_clear_9 : decode cX1_clear 9 = .ok (.getfield 9, 3) := by decide +kernel
theorem dX1_clear_12 : decode cX1_clear 12 = .ok (.iload_n 1, 1) := by decide +kernel
theorem dX1_clear_13 : decode cX1_clear 13 = .ok (.lconst 0, 1) := by decide +kernel
theorem dX1_clear_14 : decode cX1_clear 14 = .ok (.lastore, 1) := by decide +kernel
theorem dX1_clear_15 : decode cX1_clear 15 = .ok (.iinc 1 1, 3) := by decide +kernel
theorem dX1_clear_18 : decode cX1_clear 18 = .ok (.goto (-16), 3) := by decide +kernel
theorem dX1_clear_21 : decode cX1_clear 21 = .ok (.iconst 0, 1) := by decide +kernel
theorem dX1_clear_22 : decode cX1_clear 22 = .ok (.istore_n 1, 1) := by decide +kernel
theorem dX1_clear_23 : decode cX1_clear 23 = .ok (.iload_n 1, 1) := by decide +kernel
theorem dX1_clear_24 : decode cX1_clear 24 = .ok (.bipush 6, 2) := by decide +kernel
theorem dX1_clear_26 : decode cX1_clear 26 = .ok (.if_icmp .ge 32, 3) := by decide +kernel
theorem dX1_clear_29 : decode cX1_clear 29 = .ok (.iconst 0, 1) := by decide +kernel
theorem dX1_clear_30 : decode cX1_clear 30 = .ok (.istore_n 2, 1) := by decide +kernel
theorem dX1_clear_31 : decode cX1_clear 31 = .ok (.iload_n 2, 1) := by decide +kernel
theorem dX1_clear_32 : decode cX1_clear 32 = .ok (.bipush 12, 2) := by decide +kernel
theorem dX1_clear_34 : decode cX1_clear 34 = .ok (.if_icmp .ge 18, 3) := by decide +kernel
theorem dX1_clear_37 : decode cX1_clear 37 = .ok (.aload_n 0, 1) := by decide +kernel
theorem dX1_clear_38 : decode cX1_clear 38 = .ok (.getfield 17, 3) := by decide +kernel
theorem dX1_clear_41 : decode cX1_clear 41 = .ok (.iload_n 1, 1) := by decide +kernel
theorem dX1_clear_42 : decode cX1_clear 42 = .ok (.aaload, 1) := by decide +kernel
theorem dX1_clear_43 : decode cX1_clear 43 = .ok (.iload_n 2, 1) := by decide +kernel
theorem dX1_clear_44 : decode cX1_clear 44 = .ok (.lconst 0, 1) := by decide +kernel
theorem dX1_clear_45 : decode cX1_clear 45 = .ok (.lastore, 1) := by decide +kernel
theorem dX1_clear_46 : decode cX1_clear 46 = .ok (.iinc 2 1, 3) := by decide +kernel
theorem dX1_clear_49 : decode cX1_clear 49 = .ok (.goto (-18), 3) := by decide +kernel
theorem dX1_clear_52 : decode cX1_clear 52 = .ok (.iinc 1 1, 3) := by decide +kernel
theorem dX1_clear_55 : decode cX1_clear 55 = .ok (.goto (-32), 3) := by decide +kernel
theorem dX1_clear_58 : decode cX1_clear 58 = .ok (.return_, 1) := by decide +kernel
theorem dX1_gather_0 : decode cX1_gather 0 = .ok (.aload_n 0, 1) := by decide +kernel
theorem dX1_gather_1 : decode cX1_gather 1 = .ok (.getfield 20, 3) := by decide +kernel
theorem dX1_gather_4 : decode cX1_gather 4 = .ok (.iload_n 1, 1) := by decide +kernel
theorem dX1_gather_5 : decode cX1_gather 5 = .ok (.baload, 1) := by decide +kernel
theorem dX1_gather_6 : decode cX1_gather 6 = .ok (.istore_n 2, 1) := by decide +kernel
theorem dX1_gather_7 : decode cX1_gather 7 = .ok (.aload_n 0, 1) := by decide +kernel
theorem dX1_gather_8 : decode cX1_gather 8 = .ok (.getfield 27, 3) := by decide +kernel
theorem dX1_gather_11 : decode cX1_gather 11 = .ok (.iload_n 1, 1) := by decide +kernel
theorem dX1_gather_12 : decode cX1_gather 12 = .ok (.iload_n 2, 1) := by decide +kernel
theorem dX1_gather_13 : decode cX1_gather 13 = .ok (.ifCond .eq 14, 3) := by decide +kernel
theorem dX1_gather_16 : decode cX1_gather 16 = .ok (.aload_n 0, 1) := by decide +kernel
theorem dX1_gather_17 : decode cX1_gather 17 = .ok (.getfield 42, 3) := by decide +kernel
theorem dX1_gather_20 : decode cX1_gather 20 = .ok (.iload_n 1, 1) := by decide +kernel
theorem dX1_gather_21 : decode cX1_gather 21 = .ok (.invokevirtual 82, 3) := by decide +kernel
theorem dX1_gather_24 : decode cX1_gather 24 = .ok (.goto 4, 3) := by decide +kernel
theorem dX1_gather_27 : decode cX1_gather 27 = .ok (.lconst 0, 1) := by decide +kernel
theorem dX1_gather_28 : decode cX1_gather 28 = .ok (.lastore, 1) := by decide +kernel
theorem dX1_gather_29 : decode cX1_gather 29 = .ok (.aload_n 0, 1) := by decide +kernel
theorem dX1_gather_30 : decode cX1_gather 30 = .ok (.getfield 30, 3) := by decide +kernel
theorem dX1_gather_33 : decode cX1_gather 33 = .ok (.iload_n 1, 1) := by decide +kernel
theorem dX1_gather_34 : decode cX1_gather 34 = .ok (.iload_n 2, 1) := by decide +kernel
theorem dX1_gather_35 : decode cX1_gather 35 = .ok (.ifCond .eq 14, 3) := by decide +kernel
theorem dX1_gather_38 : decode cX1_gather 38 = .ok (.aload_n 0, 1) := by decide +kernel
theorem dX1_gather_39 : decode cX1_gather 39 = .ok (.getfield 42, 3) := by decide +kernel
theorem dX1_gather_42 : decode cX1_gather 42 = .ok (.iload_n 1, 1) := by decide +kernel
theorem dX1_gather_43 : decode cX1_gather 43 = .ok (.invokevirtual 86, 3) := by decide +kernel
theorem dX1_gather_46 : decode cX1_gather 46 = .ok (.goto 4, 3) := by decide +kernel
theorem dX1_gather_49 : decode cX1_gather 49 = .ok (.lconst 0, 1) := by decide +kernel
theorem dX1_gather_50 : decode cX1_gather 50 = .ok (.lastore, 1) := by decide +kernel
theorem dX1_gather_51 : decode cX1_gather 51 = .ok (.aload_n 0, 1) := by decide +kernel
theorem dX1_gather_52 : decode cX1_gather 52 = .ok (.getfield 33, 3) := by decide +kernel
theorem dX1_gather_55 : decode cX1_gather 55 = .ok (.iload_n 1, 1) := by decide +kernel
theorem dX1_gather_56 : decode cX1_gather 56 = .ok (.aload_n 0, 1) := by decide +kernel
theorem dX1_gather_57 : decode cX1_gather 57 = .ok (.getfield 30, 3) := by decide +kernel
theorem dX1_gather_60 : decode cX1_gather 60 = .ok (.iload_n 1, 1) := by decide +kernel
theorem dX1_gather_61 : decode cX1_gather 61 = .ok (.laload, 1) := by decide +kernel
theorem dX1_gather_62 : decode cX1_gather 62 = .ok (.aload_n 0, 1) := by decide +kernel
theorem dX1_gather_63 : decode cX1_gather 63 = .ok (.getfield 42, 3) := by decide +kernel
theorem dX1_gather_66 : decode cX1_gather 66 = .ok (.getfield 73, 3) := by decide +kernel
theorem dX1_gather_69 : decode cX1_gather 69 = .ok (.iconst 0, 1) := by decide +kernel
theorem dX1_gather_70 : decode cX1_gather 70 = .ok (.laload, 1) := by decide +kernel
theorem dX1_gather_71 : decode cX1_gather 71 = .ok (.invokestatic 89, 3) := by decide +kernel
theorem dX1_gather_74 : decode cX1_gather 74 = .ok (.lastore, 1) := by decide +kernel
theorem dX1_gather_75 : decode cX1_gather 75 = .ok (.aload_n 0, 1) := by decide +kernel
theorem dX1_gather_76 : decode cX1_gather 76 = .ok (.getfield 17, 3) := by decide +kernel
theorem dX1_gather_79 : decode cX1_gather 79 = .ok (.iconst 0, 1) := by decide +kernel
theorem dX1_gather_80 : decode cX1_gather 80 = .ok (.aaload, 1) := by decide +kernel
theorem dX1_gather_81 : decode cX1_gather 81 = .ok (.iload_n 1, 1) := by decide +kernel
theorem dX1_gather_82 : decode cX1_gather 82 = .ok (.iload_n 2, 1) := by decide +kernel
theorem dX1_gather_83 : decode cX1_gather 83 = .ok (.ifCond .eq 14, 3) := by decide +kernel
theorem dX1_gather_86 : decode cX1_gather 86 = .ok (.aload_n 0, 1) := by decide +kernel
theorem dX1_gather_87 : decode cX1_gather 87 = .ok (.getfield 46, 3) := by decide +kernel
theorem dX1_gather_90 : decode cX1_gather 90 = .ok (.iload_n 1, 1) := by decide +kernel
theorem dX1_gather_91 : decode cX1_gather 91 = .ok (.invokevirtual 93, 3) := by decide +kernel
theorem dX1_gather_94 : decode cX1_gather 94 = .ok (.goto 4, 3) := by decide +kernel
theorem dX1_gather_97 : decode cX1_gather 97 = .ok (.lconst 0, 1) := by decide +kernel
theorem dX1_gather_98 : decode cX1_gather 98 = .ok (.lastore, 1) := by decide +kernel
theorem dX1_gather_99 : decode cX1_gather 99 = .ok (.aload_n 0, 1) := by decide +kernel
theorem dX1_gather_100 : decode cX1_gather 100 = .ok (.getfield 9, 3) := by decide +kernel
theorem dX1_gather_103 : decode cX1_gather 103 = .ok (.iconst 0, 1) := by decide +kernel
theorem dX1_gather_104 : decode cX1_gather 104 = .ok (.dup2, 1) := by decide +kernel
theorem dX1_gather_105 : decode cX1_gather 105 = .ok (.laload, 1) := by decide +kernel
theorem dX1_gather_106 : decode cX1_gather 106 = .ok (.aload_n 0, 1) := by decide +kernel
theorem dX1_gather_107 : decode cX1_gather 107 = .ok (.getfield 17, 3) := by decide +kernel
theorem dX1_gather_110 : decode cX1_gather 110 = .ok (.iconst 0, 1) := by decide +kernel
theorem dX1_gather_111 : decode cX1_gather 111 = .ok (.aaload, 1) := by decide +kernel
theorem dX1_gather_112 : decode cX1_gather 112 = .ok (.iload_n 1, 1) := by decide +kernel
theorem dX1_gather_113 : decode cX1_gather 113 = .ok (.laload, 1) := by decide +kernel
theorem dX1_gather_114 : decode cX1_gather 114 = .ok (.ladd, 1) := by decide +kernel
theorem dX1_gather_115 : decode cX1_gather 115 = .ok (.lastore, 1) := by decide +kernel
theorem dX1_gather_116 : decode cX1_gather 116 = .ok (.aload_n 0, 1) := by decide +kernel
theorem dX1_gather_117 : decode cX1_gather 117 = .ok (.getfield 9, 3) := by decide +kernel
theorem dX1_gather_120 : decode cX1_gather 120 = .ok (.iconst 3, 1) := by decide +kernel
theorem dX1_gather_121 : decode cX1_gather 121 = .ok (.dup2, 1) := by decide +kernel
theorem dX1_gather_122 : decode cX1_gather 122 = .ok (.laload, 1) := by decide +kernel
theorem dX1_gather_123 : decode cX1_gather 123 = .ok (.aload_n 0, 1) := by decide +kernel
theorem dX1_gather_124 : decode cX1_gather 124 = .ok (.getfield 33, 3) := by decide +kernel
theorem dX1_gather_127 : decode cX1_gather 127 = .ok (.iload_n 1, 1) := by decide +kernel
theorem dX1_gather_128 : decode cX1_gather 128 = .ok (.laload, 1) := by decide +kernel
theorem dX1_gather_129 : decode cX1_gather 129 = .ok (.ladd, 1) := by decide +kernel
theorem dX1_gather_130 : decode cX1_gather 130 = .ok (.lastore, 1) := by decide +kernel
theorem dX1_gather_131 : decode cX1_gather 131 = .ok (.return_, 1) := by decide +kernel
theorem dX1_coverAgain_0 : decode cX1_coverAgain 0 = .ok (.lconst 0, 1) := by decide +kernel
theorem dX1_coverAgain_1 : decode cX1_coverAgain 1 = .ok (.aload_n 0, 1) := by decide +kernel
theorem dX1_coverAgain_2 : decode cX1_coverAgain 2 = .ok (.getfield 9, 3) := by decide +kernel
theorem dX1_coverAgain_5 : decode cX1_coverAgain 5 = .ok (.iconst 0, 1) := by decide +kernel
theorem dX1_coverAgain_6 : decode cX1_coverAgain 6 = .ok (.laload, 1) := by decide +kernel
theorem dX1_coverAgain_7 : decode cX1_coverAgain 7 = .ok (.aload_n 0, 1) := by decide +kernel
theorem dX1_coverAgain_8 : decode cX1_coverAgain 8 = .ok (.getfield 42, 3) := by decide +kernel
theorem dX1_coverAgain_11 : decode cX1_coverAgain 11 = .ok (.getfield 73, 3) := by decide +kernel
theorem dX1_coverAgain_14 : decode cX1_coverAgain 14 = .ok (.iconst 2, 1) := by decide +kernel
theorem dX1_coverAgain_15 : decode cX1_coverAgain 15 = .ok (.laload, 1) := by decide +kernel
theorem dX1_coverAgain_16 : decode cX1_coverAgain 16 = .ok (.lsub, 1) := by decide +kernel
theorem dX1_coverAgain_17 : decode cX1_coverAgain 17 = .ok (.invokestatic 98, 3) := by decide +kernel
theorem dX1_coverAgain_20 : decode cX1_coverAgain 20 = .ok (.lstore_n 1, 1) := by decide +kernel
theorem dX1_coverAgain_21 : decode cX1_coverAgain 21 = .ok (.aload_n 0, 1) := by decide +kernel
theorem dX1_coverAgain_22 : decode cX1_coverAgain 22 = .ok (.getfield 9, 3) := by decide +kernel
theorem dX1_coverAgain_25 : decode cX1_coverAgain 25 = .ok (.iconst 1, 1) := by decide +kernel
theorem dX1_coverAgain_26 : decode cX1_coverAgain 26 = .ok (.lload_n 1, 1) := by decide +kernel
theorem dX1_coverAgain_27 : decode cX1_coverAgain 27 = .ok (.aload_n 0, 1) := by decide +kernel
theorem dX1_coverAgain_28 : decode cX1_coverAgain 28 = .ok (.getfield 42, 3) := by decide +kernel
theorem dX1_coverAgain_31 : decode cX1_coverAgain 31 = .ok (.getfield 73, 3) := by decide +kernel
theorem dX1_coverAgain_34 : decode cX1_coverAgain 34 = .ok (.iconst 3, 1) := by decide +kernel
theorem dX1_coverAgain_35 : decode cX1_coverAgain 35 = .ok (.laload, 1) := by decide +kernel
theorem dX1_coverAgain_36 : decode cX1_coverAgain 36 = .ok (.invokestatic 103, 3) := by decide +kernel
theorem dX1_coverAgain_39 : decode cX1_coverAgain 39 = .ok (.aload_n 0, 1) := by decide +kernel
theorem dX1_coverAgain_40 : decode cX1_coverAgain 40 = .ok (.getfield 42, 3) := by decide +kernel
theorem dX1_coverAgain_43 : decode cX1_coverAgain 43 = .ok (.getfield 73, 3) := by decide +kernel
theorem dX1_coverAgain_46 : decode cX1_coverAgain 46 = .ok (.iconst 4, 1) := by decide +kernel
theorem dX1_coverAgain_47 : decode cX1_coverAgain 47 = .ok (.laload, 1) := by decide +kernel
theorem dX1_coverAgain_48 : decode cX1_coverAgain 48 = .ok (.lmul, 1) := by decide +kernel
theorem dX1_coverAgain_49 : decode cX1_coverAgain 49 = .ok (.ldc2_w 106, 3) := by decide +kernel
theorem dX1_coverAgain_52 : decode cX1_coverAgain 52 = .ok (.ldiv, 1) := by decide +kernel
theorem dX1_coverAgain_53 : decode cX1_coverAgain 53 = .ok (.lastore, 1) := by decide +kernel
theorem dX1_coverAgain_54 : decode cX1_coverAgain 54 = .ok (.aload_n 0, 1) := by decide +kernel
theorem dX1_coverAgain_55 : decode cX1_coverAgain 55 = .ok (.getfield 9, 3) := by decide +kernel
theorem dX1_coverAgain_58 : decode cX1_coverAgain 58 = .ok (.iconst 2, 1) := by decide +kernel
theorem dX1_coverAgain_59 : decode cX1_coverAgain 59 = .ok (.aload_n 0, 1) := by decide +kernel
theorem dX1_coverAgain_60 : decode cX1_coverAgain 60 = .ok (.getfield 9, 3) := by decide +kernel
theorem dX1_coverAgain_63 : decode cX1_coverAgain 63 = .ok (.iconst 0, 1) := by decide +kernel
theorem dX1_coverAgain_64 : decode cX1_coverAgain 64 = .ok (.laload, 1) := by decide +kernel
theorem dX1_coverAgain_65 : decode cX1_coverAgain 65 = .ok (.aload_n 0, 1) := by decide +kernel
theorem dX1_coverAgain_66 : decode cX1_coverAgain 66 = .ok (.getfield 9, 3) := by decide +kernel
theorem dX1_coverAgain_69 : decode cX1_coverAgain 69 = .ok (.iconst 1, 1) := by decide +kernel
theorem dX1_coverAgain_70 : decode cX1_coverAgain 70 = .ok (.laload, 1) := by decide +kernel
theorem dX1_coverAgain_71 : decode cX1_coverAgain 71 = .ok (.lsub, 1) := by decide +kernel
theorem dX1_coverAgain_72 : decode cX1_coverAgain 72 = .ok (.lastore, 1) := by decide +kernel
theorem dX1_coverAgain_73 : decode cX1_coverAgain 73 = .ok (.return_, 1) := by decide +kernel
theorem dX1_spread_0 : decode cX1_spread 0 = .ok (.lconst 0, 1) := by decide +kernel
theorem dX1_spread_1 : decode cX1_spread 1 = .ok (.aload_n 0, 1) := by decide +kernel
theorem dX1_spread_2 : decode cX1_spread 2 = .ok (.getfield 42, 3) := by decide +kernel
theorem dX1_spread_5 : decode cX1_spread 5 = .ok (.getfield 73, 3) := by decide +kernel
theorem dX1_spread_8 : decode cX1_spread 8 = .ok (.bipush 6, 2) := by decide +kernel
theorem dX1_spread_10 : decode cX1_spread 10 = .ok (.laload, 1) := by decide +kernel
theorem dX1_spread_11 : decode cX1_spread 11 = .ok (.aload_n 0, 1) := by decide +kernel
theorem dX1_spread_12 : decode cX1_spread 12 = .ok (.getfield 27, 3) := by decide +kernel
theorem dX1_spread_15 : decode cX1_spread 15 = .ok (.invokestatic 108, 3) := by decide +kernel
theorem dX1_spread_18 : decode cX1_spread 18 = .ok (.invokestatic 112, 3) := by decide +kernel
theorem dX1_spread_21 : decode cX1_spread 21 = .ok (.aload_n 0, 1) := by decide +kernel
theorem dX1_spread_22 : decode cX1_spread 22 = .ok (.getfield 42, 3) := by decide +kernel
theorem dX1_spread_25 : decode cX1_spread 25 = .ok (.getfield 73, 3) := by decide +kernel
theorem dX1_spread_28 : decode cX1_spread 28 = .ok (.iconst 1, 1) := by decide +kernel
theorem dX1_spread_29 : decode cX1_spread 29 = .ok (.laload, 1) := by decide +kernel
theorem dX1_spread_30 : decode cX1_spread 30 = .ok (.lsub, 1) := by decide +kernel
theorem dX1_spread_31 : decode cX1_spread 31 = .ok (.invokestatic 98, 3) := by decide +kernel
theorem dX1_spread_34 : decode cX1_spread 34 = .ok (.lstore_n 3, 1) := by decide +kernel
theorem dX1_spread_35 : decode cX1_spread 35 = .ok (.aload_n 0, 1) := by decide +kernel
theorem dX1_spread_36 : decode cX1_spread 36 = .ok (.getfield 9, 3) := by decide +kernel
theorem dX1_spread_39 : decode cX1_spread 39 = .ok (.iconst 4, 1) := by decide +kernel
theorem dX1_spread_40 : decode cX1_spread 40 = .ok (.lload_n 1, 1) := by decide +kernel
theorem dX1_spread_41 : decode cX1_spread 41 = .ok (.lload_n 3, 1) := by decide +kernel
theorem dX1_spread_42 : decode cX1_spread 42 = .ok (.invokestatic 103, 3) := by decide +kernel
theorem dX1_spread_45 : decode cX1_spread 45 = .ok (.lastore, 1) := by decide +kernel
theorem dX1_spread_46 : decode cX1_spread 46 = .ok (.aload_n 0, 1) := by decide +kernel
theorem dX1_spread_47 : decode cX1_spread 47 = .ok (.lload_n 1, 1) := by decide +kernel
theorem dX1_spread_48 : decode cX1_spread 48 = .ok (.aload_n 0, 1) := by decide +kernel
theorem dX1_spread_49 : decode cX1_spread 49 = .ok (.getfield 9, 3) := by decide +kernel
theorem dX1_spread_52 : decode cX1_spread 52 = .ok (.iconst 4, 1) := by decide +kernel
theorem dX1_spread_53 : decode cX1_spread 53 = .ok (.laload, 1) := by decide +kernel
theorem dX1_spread_54 : decode cX1_spread 54 = .ok (.lsub, 1) := by decide +kernel
theorem dX1_spread_55 : decode cX1_spread 55 = .ok (.aload_n 0, 1) := by decide +kernel
theorem dX1_spread_56 : decode cX1_spread 56 = .ok (.getfield 33, 3) := by decide +kernel
theorem dX1_spread_59 : decode cX1_spread 59 = .ok (.aload_n 0, 1) := by decide +kernel
theorem dX1_spread_60 : decode cX1_spread 60 = .ok (.getfield 20, 3) := by decide +kernel
theorem dX1_spread_63 : decode cX1_spread 63 = .ok (.aload_n 0, 1) := by decide +kernel
theorem dX1_spread_64 : decode cX1_spread 64 = .ok (.getfield 17, 3) := by decide +kernel
theorem dX1_spread_67 : decode cX1_spread 67 = .ok (.iconst 2, 1) := by decide +kernel
theorem dX1_spread_68 : decode cX1_spread 68 = .ok (.aaload, 1) := by decide +kernel
theorem dX1_spread_69 : decode cX1_spread 69 = .ok (.invokevirtual 115, 3) := by decide +kernel
theorem dX1_spread_72 : decode cX1_spread 72 = .ok (.aload_n 0, 1) := by decide +kernel
theorem dX1_spread_73 : decode cX1_spread 73 = .ok (.getfield 9, 3) := by decide +kernel
theorem dX1_spread_76 : decode cX1_spread 76 = .ok (.iconst 5, 1) := by decide +kernel
theorem dX1_spread_77 : decode cX1_spread 77 = .ok (.aload_n 0, 1) := by decide +kernel
theorem dX1_spread_78 : decode cX1_spread 78 = .ok (.getfield 17, 3) := by decide +kernel
theorem dX1_spread_81 : decode cX1_spread 81 = .ok (.iconst 2, 1) := by decide +kernel
theorem dX1_spread_82 : decode cX1_spread 82 = .ok (.aaload, 1) := by decide +kernel
theorem dX1_spread_83 : decode cX1_spread 83 = .ok (.invokestatic 108, 3) := by decide +kernel
theorem dX1_spread_86 : decode cX1_spread 86 = .ok (.lastore, 1) := by decide +kernel
theorem dX1_spread_87 : decode cX1_spread 87 = .ok (.return_, 1) := by decide +kernel
theorem dX1_bear_0 : decode cX1_bear 0 = .ok (.aload_n 0, 1) := by decide +kernel
theorem dX1_bear_1 : decode cX1_bear 1 = .ok (.getfield 9, 3) := by decide +kernel
theorem dX1_bear_4 : decode cX1_bear 4 = .ok (.bipush 6, 2) := by decide +kernel
theorem dX1_bear_6 : decode cX1_bear 6 = .ok (.lload_n 1, 1) := by decide +kernel
theorem dX1_bear_7 : decode cX1_bear 7 = .ok (.aload_n 0, 1) := by decide +kernel
theorem dX1_bear_8 : decode cX1_bear 8 = .ok (.getfield 42, 3) := by decide +kernel
theorem dX1_bear_11 : decode cX1_bear 11 = .ok (.getfield 73, 3) := by decide +kernel
theorem dX1_bear_14 : decode cX1_bear 14 = .ok (.iconst 1, 1) := by decide +kernel
theorem dX1_bear_15 : decode cX1_bear 15 = .ok (.laload, 1) := by decide +kernel
theorem dX1_bear_16 : decode cX1_bear 16 = .ok (.ldc2_w 119, 3) := by decide +kernel
theorem dX1_bear_19 : decode cX1_bear 19 = .ok (.ldiv, 1) := by decide +kernel
theorem dX1_bear_20 : decode cX1_bear 20 = .ok (.invokestatic 103, 3) := by decide +kernel
theorem dX1_bear_23 : decode cX1_bear 23 = .ok (.lastore, 1) := by decide +kernel
theorem dX1_bear_24 : decode cX1_bear 24 = .ok (.aload_n 0, 1) := by decide +kernel
theorem dX1_bear_25 : decode cX1_bear 25 = .ok (.lload_n 1, 1) := by decide +kernel
theorem dX1_bear_26 : decode cX1_bear 26 = .ok (.aload_n 0, 1) := by decide +kernel
theorem dX1_bear_27 : decode cX1_bear 27 = .ok (.getfield 9, 3) := by decide +kernel
theorem dX1_bear_30 : decode cX1_bear 30 = .ok (.bipush 6, 2) := by decide +kernel
theorem dX1_bear_32 : decode cX1_bear 32 = .ok (.laload, 1) := by decide +kernel
theorem dX1_bear_33 : decode cX1_bear 33 = .ok (.lsub, 1) := by decide +kernel
theorem dX1_bear_34 : decode cX1_bear 34 = .ok (.invokevirtual 121, 3) := by decide +kernel
theorem dX1_bear_37 : decode cX1_bear 37 = .ok (.aload_n 0, 1) := by decide +kernel
theorem dX1_bear_38 : decode cX1_bear 38 = .ok (.getfield 9, 3) := by decide +kernel
theorem dX1_bear_41 : decode cX1_bear 41 = .ok (.bipush 7, 2) := by decide +kernel
theorem dX1_bear_43 : decode cX1_bear 43 = .ok (.aload_n 0, 1) := by decide +kernel
theorem dX1_bear_44 : decode cX1_bear 44 = .ok (.getfield 17, 3) := by decide +kernel
theorem dX1_bear_47 : decode cX1_bear 47 = .ok (.iconst 3, 1) := by decide +kernel
theorem dX1_bear_48 : decode cX1_bear 48 = .ok (.aaload, 1) := by decide +kernel
theorem dX1_bear_49 : decode cX1_bear 49 = .ok (.invokestatic 108, 3) := by decide +kernel
theorem dX1_bear_52 : decode cX1_bear 52 = .ok (.lastore, 1) := by decide +kernel
theorem dX1_bear_53 : decode cX1_bear 53 = .ok (.aload_n 0, 1) := by decide +kernel
theorem dX1_bear_54 : decode cX1_bear 54 = .ok (.lload_n 1, 1) := by decide +kernel
theorem dX1_bear_55 : decode cX1_bear 55 = .ok (.aload_n 0, 1) := by decide +kernel
theorem dX1_bear_56 : decode cX1_bear 56 = .ok (.getfield 9, 3) := by decide +kernel
theorem dX1_bear_59 : decode cX1_bear 59 = .ok (.bipush 6, 2) := by decide +kernel
theorem dX1_bear_61 : decode cX1_bear 61 = .ok (.laload, 1) := by decide +kernel
theorem dX1_bear_62 : decode cX1_bear 62 = .ok (.lsub, 1) := by decide +kernel
theorem dX1_bear_63 : decode cX1_bear 63 = .ok (.aload_n 0, 1) := by decide +kernel
theorem dX1_bear_64 : decode cX1_bear 64 = .ok (.getfield 9, 3) := by decide +kernel
theorem dX1_bear_67 : decode cX1_bear 67 = .ok (.bipush 7, 2) := by decide +kernel
theorem dX1_bear_69 : decode cX1_bear 69 = .ok (.laload, 1) := by decide +kernel
theorem dX1_bear_70 : decode cX1_bear 70 = .ok (.lsub, 1) := by decide +kernel
theorem dX1_bear_71 : decode cX1_bear 71 = .ok (.aload_n 0, 1) := by decide +kernel
theorem dX1_bear_72 : decode cX1_bear 72 = .ok (.getfield 17, 3) := by decide +kernel
theorem dX1_bear_75 : decode cX1_bear 75 = .ok (.iconst 0, 1) := by decide +kernel
theorem dX1_bear_76 : decode cX1_bear 76 = .ok (.aaload, 1) := by decide +kernel
theorem dX1_bear_77 : decode cX1_bear 77 = .ok (.aload_n 0, 1) := by decide +kernel
theorem dX1_bear_78 : decode cX1_bear 78 = .ok (.getfield 20, 3) := by decide +kernel
theorem dX1_bear_81 : decode cX1_bear 81 = .ok (.aload_n 0, 1) := by decide +kernel
theorem dX1_bear_82 : decode cX1_bear 82 = .ok (.getfield 17, 3) := by decide +kernel
theorem dX1_bear_85 : decode cX1_bear 85 = .ok (.iconst 1, 1) := by decide +kernel
theorem dX1_bear_86 : decode cX1_bear 86 = .ok (.aaload, 1) := by decide +kernel
theorem dX1_bear_87 : decode cX1_bear 87 = .ok (.invokevirtual 115, 3) := by decide +kernel
theorem dX1_bear_90 : decode cX1_bear 90 = .ok (.aload_n 0, 1) := by decide +kernel
theorem dX1_bear_91 : decode cX1_bear 91 = .ok (.getfield 9, 3) := by decide +kernel
theorem dX1_bear_94 : decode cX1_bear 94 = .ok (.bipush 8, 2) := by decide +kernel
theorem dX1_bear_96 : decode cX1_bear 96 = .ok (.aload_n 0, 1) := by decide +kernel
theorem dX1_bear_97 : decode cX1_bear 97 = .ok (.getfield 17, 3) := by decide +kernel
theorem dX1_bear_100 : decode cX1_bear 100 = .ok (.iconst 1, 1) := by decide +kernel
theorem dX1_bear_101 : decode cX1_bear 101 = .ok (.aaload, 1) := by decide +kernel
theorem dX1_bear_102 : decode cX1_bear 102 = .ok (.invokestatic 108, 3) := by decide +kernel
theorem dX1_bear_105 : decode cX1_bear 105 = .ok (.lastore, 1) := by decide +kernel
theorem dX1_bear_106 : decode cX1_bear 106 = .ok (.return_, 1) := by decide +kernel
theorem dX1_callFor_0 : decode cX1_callFor 0 = .ok (.iconst 0, 1) := by decide +kernel
theorem dX1_callFor_1 : decode cX1_callFor 1 = .ok (.istore_n 3, 1) := by decide +kernel
theorem dX1_callFor_2 : decode cX1_callFor 2 = .ok (.iload_n 3, 1) := by decide +kernel
theorem dX1_callFor_3 : decode cX1_callFor 3 = .ok (.bipush 12, 2) := by decide +kernel
theorem dX1_callFor_5 : decode cX1_callFor 5 = .ok (.if_icmp .ge 21, 3) := by decide +kernel
theorem dX1_callFor_8 : decode cX1_callFor 8 = .ok (.aload_n 0, 1) := by decide +kernel
theorem dX1_callFor_9 : decode cX1_callFor 9 = .ok (.getfield 24, 3) := by decide +kernel
theorem dX1_callFor_12 : decode cX1_callFor 12 = .ok (.iload_n 3, 1) := by decide +kernel
theorem dX1_callFor_13 : decode cX1_callFor 13 = .ok (.aload_n 0, 1) := by decide +kernel
theorem dX1_callFor_14 : decode cX1_callFor 14 = .ok (.getfield 20, 3) := by decide +kernel
theorem dX1_callFor_17 : decode cX1_callFor 17 = .ok (.iload_n 3, 1) := by decide +kernel
theorem dX1_callFor_18 : decode cX1_callFor 18 = .ok (.baload, 1) := by decide +kernel
theorem dX1_callFor_19 : decode cX1_callFor 19 = .ok (.bastore, 1) := by decide +kernel
theorem dX1_callFor_20 : decode cX1_callFor 20 = .ok (.iinc 3 1, 3) := by decide +kernel
theorem dX1_callFor_23 : decode cX1_callFor 23 = .ok (.goto (-21), 3) := by decide +kernel
theorem dX1_callFor_26 : decode cX1_callFor 26 = .ok (.lload_n 1, 1) := by decide +kernel
theorem dX1_callFor_27 : decode cX1_callFor 27 = .ok (.lstore_n 3, 1) := by decide +kernel
theorem dX1_callFor_28 : decode cX1_callFor 28 = .ok (.iconst 0, 1) := by decide +kernel
theorem dX1_callFor_29 : decode cX1_callFor 29 = .ok (.istore 5, 2) := by decide +kernel
theorem dX1_callFor_31 : decode cX1_callFor 31 = .ok (.iload 5, 2) := by decide +kernel
theorem dX1_callFor_33 : decode cX1_callFor 33 = .ok (.bipush 12, 2) := by decide +kernel
theorem dX1_callFor_35 : decode cX1_callFor 35 = .ok (.if_icmp .gt 49, 3) := by decide +kernel
theorem dX1_callFor_38 : decode cX1_callFor 38 = .ok (.aload_n 0, 1) := by decide +kernel
theorem dX1_callFor_39 : decode cX1_callFor 39 = .ok (.lload_n 3, 1) := by decide +kernel
theorem dX1_callFor_40 : decode cX1_callFor 40 = .ok (.aload_n 0, 1) := by decide +kernel
theorem dX1_callFor_41 : decode cX1_callFor 41 = .ok (.getfield 30, 3) := by decide +kernel
theorem dX1_callFor_44 : decode cX1_callFor 44 = .ok (.aload_n 0, 1) := by decide +kernel
theorem dX1_callFor_45 : decode cX1_callFor 45 = .ok (.getfield 24, 3) := by decide +kernel
theorem dX1_callFor_48 : decode cX1_callFor 48 = .ok (.aload_n 0, 1) := by decide +kernel
theorem dX1_callFor_49 : decode cX1_callFor 49 = .ok (.getfield 36, 3) := by decide +kernel
theorem dX1_callFor_52 : decode cX1_callFor 52 = .ok (.invokevirtual 115, 3) := by decide +kernel
theorem dX1_callFor_55 : decode cX1_callFor 55 = .ok (.aload_n 0, 1) := by decide +kernel
theorem dX1_callFor_56 : decode cX1_callFor 56 = .ok (.invokevirtual 124, 3) := by decide +kernel
theorem dX1_callFor_59 : decode cX1_callFor 59 = .ok (.lstore 6, 2) := by decide +kernel
theorem dX1_callFor_61 : decode cX1_callFor 61 = .ok (.lload 6, 2) := by decide +kernel
theorem dX1_callFor_63 : decode cX1_callFor 63 = .ok (.ldc2_w 128, 3) := by decide +kernel
theorem dX1_callFor_66 : decode cX1_callFor 66 = .ok (.lcmp, 1) := by decide +kernel
theorem dX1_callFor_67 : decode cX1_callFor 67 = .ok (.ifCond .ne 6, 3) := by decide +kernel
theorem dX1_callFor_70 : decode cX1_callFor 70 = .ok (.goto 14, 3) := by decide +kernel
theorem dX1_callFor_73 : decode cX1_callFor 73 = .ok (.lload_n 3, 1) := by decide +kernel
theorem dX1_callFor_74 : decode cX1_callFor 74 = .ok (.lload 6, 2) := by decide +kernel
theorem dX1_callFor_76 : decode cX1_callFor 76 = .ok (.lsub, 1) := by decide +kernel
theorem dX1_callFor_77 : decode cX1_callFor 77 = .ok (.lstore_n 3, 1) := by decide +kernel
theorem dX1_callFor_78 : decode cX1_callFor 78 = .ok (.iinc 5 1, 3) := by decide +kernel
theorem dX1_callFor_81 : decode cX1_callFor 81 = .ok (.goto (-50), 3) := by decide +kernel
theorem dX1_callFor_84 : decode cX1_callFor 84 = .ok (.iconst 0, 1) := by decide +kernel
theorem dX1_callFor_85 : decode cX1_callFor 85 = .ok (.istore 5, 2) := by decide +kernel
theorem dX1_callFor_87 : decode cX1_callFor 87 = .ok (.iload 5, 2) := by decide +kernel
theorem dX1_callFor_89 : decode cX1_callFor 89 = .ok (.bipush 12, 2) := by decide +kernel
theorem dX1_callFor_91 : decode cX1_callFor 91 = .ok (.if_icmp .ge 35, 3) := by decide +kernel
theorem dX1_callFor_94 : decode cX1_callFor 94 = .ok (.aload_n 0, 1) := by decide +kernel
theorem dX1_callFor_95 : decode cX1_callFor 95 = .ok (.getfield 24, 3) := by decide +kernel
theorem dX1_callFor_98 : decode cX1_callFor 98 = .ok (.iload 5, 2) := by decide +kernel
theorem dX1_callFor_100 : decode cX1_callFor 100 = .ok (.baload, 1) := by decide +kernel
theorem dX1_callFor_101 : decode cX1_callFor 101 = .ok (.ifCond .eq 19, 3) := by decide +kernel
theorem dX1_callFor_104 : decode cX1_callFor 104 = .ok (.aload_n 0, 1) := by decide +kernel
theorem dX1_callFor_105 : decode cX1_callFor 105 = .ok (.getfield 17, 3) := by decide +kernel
theorem dX1_callFor_108 : decode cX1_callFor 108 = .ok (.iconst 3, 1) := by decide +kernel
theorem dX1_callFor_109 : decode cX1_callFor 109 = .ok (.aaload, 1) := by decide +kernel
theorem dX1_callFor_110 : decode cX1_callFor 110 = .ok (.iload 5, 2) := by decide +kernel
theorem dX1_callFor_112 : decode cX1_callFor 112 = .ok (.aload_n 0, 1) := by decide +kernel
theorem dX1_callFor_113 : decode cX1_callFor 113 = .ok (.getfield 36, 3) := by decide +kernel
theorem dX1_callFor_116 : decode cX1_callFor 116 = .ok (.iload 5, 2) := by decide +kernel
theorem dX1_callFor_118 : decode cX1_callFor 118 = .ok (.laload, 1) := by decide +kernel
theorem dX1_callFor_119 : decode cX1_callFor 119 = .ok (.lastore, 1) := by decide +kernel
theorem dX1_callFor_120 : decode cX1_callFor 120 = .ok (.iinc 5 1, 3) := by decide +kernel
theorem dX1_callFor_123 : decode cX1_callFor 123 = .ok (.goto (-36), 3) := by decide +kernel
theorem dX1_callFor_126 : decode cX1_callFor 126 = .ok (.return_, 1) := by decide +kernel
theorem dX1_holdAtCap_0 : decode cX1_holdAtCap 0 = .ok (.ldc2_w 128, 3) := by decide +kernel
theorem dX1_holdAtCap_3 : decode cX1_holdAtCap 3 = .ok (.lstore_n 1, 1) := by decide +kernel
theorem dX1_holdAtCap_4 : decode cX1_holdAtCap 4 = .ok (.iconst 0, 1) := by decide +kernel
theorem dX1_holdAtCap_5 : decode cX1_holdAtCap 5 = .ok (.istore_n 3, 1) := by decide +kernel
theorem dX1_holdAtCap_6 : decode cX1_holdAtCap 6 = .ok (.iload_n 3, 1) := by decide +kernel
theorem dX1_holdAtCap_7 : decode cX1_holdAtCap 7 = .ok (.bipush 12, 2) := by decide +kernel
theorem dX1_holdAtCap_9 : decode cX1_holdAtCap 9 = .ok (.if_icmp .ge 74, 3) := by decide +kernel
theorem dX1_holdAtCap_12 : decode cX1_holdAtCap 12 = .ok (.aload_n 0, 1) := by decide +kernel
theorem dX1_holdAtCap_13 : decode cX1_holdAtCap 13 = .ok (.getfield 42, 3) := by decide +kernel
theorem dX1_holdAtCap_16 : decode cX1_holdAtCap 16 = .ok (.getfield 73, 3) := by decide +kernel
theorem dX1_holdAtCap_19 : decode cX1_holdAtCap 19 = .ok (.iconst 5, 1) := by decide +kernel
theorem dX1_holdAtCap_20 : decode cX1_holdAtCap 20 = .ok (.laload, 1) := by decide +kernel
theorem dX1_holdAtCap_21 : decode cX1_holdAtCap 21 = .ok (.aload_n 0, 1) := by decide +kernel
theorem dX1_holdAtCap_22 : decode cX1_holdAtCap 22 = .ok (.getfield 33, 3) := by decide +kernel
theorem dX1_holdAtCap_25 : decode cX1_holdAtCap 25 = .ok (.iload_n 3, 1) := by decide +kernel
theorem dX1_holdAtCap_26 : decode cX1_holdAtCap 26 = .ok (.laload, 1) := by decide +kernel
theorem dX1_holdAtCap_27 : decode cX1_holdAtCap 27 = .ok (.lmul, 1) := by decide +kernel
theorem dX1_holdAtCap_28 : decode cX1_holdAtCap 28 = .ok (.lstore 4, 2) := by decide +kernel
theorem dX1_holdAtCap_30 : decode cX1_holdAtCap 30 = .ok (.aload_n 0, 1) := by decide +kernel
theorem dX1_holdAtCap_31 : decode cX1_holdAtCap 31 = .ok (.getfield 24, 3) := by decide +kernel
theorem dX1_holdAtCap_34 : decode cX1_holdAtCap 34 = .ok (.iload_n 3, 1) := by decide +kernel
theorem dX1_holdAtCap_35 : decode cX1_holdAtCap 35 = .ok (.baload, 1) := by decide +kernel
theorem dX1_holdAtCap_36 : decode cX1_holdAtCap 36 = .ok (.ifCond .eq 41, 3) := by decide +kernel
theorem dX1_holdAtCap_39 : decode cX1_holdAtCap 39 = .ok (.aload_n 0, 1) := by decide +kernel
theorem dX1_holdAtCap_40 : decode cX1_holdAtCap 40 = .ok (.getfield 36, 3) := by decide +kernel
theorem dX1_holdAtCap_43 : decode cX1_holdAtCap 43 = .ok (.iload_n 3, 1) := by decide +kernel
theorem dX1_holdAtCap_44 : decode cX1_holdAtCap 44 = .ok (.laload, 1) := by decide +kernel
theorem dX1_holdAtCap_45 : decode cX1_holdAtCap 45 = .ok (.lload 4, 2) := by decide +kernel
theorem dX1_holdAtCap_47 : decode cX1_holdAtCap 47 = .ok (.lcmp, 1) := by decide +kernel
theorem dX1_holdAtCap_48 : decode cX1_holdAtCap 48 = .ok (.ifCond .le 29, 3) := by decide +kernel
theorem dX1_holdAtCap_51 : decode cX1_holdAtCap 51 = .ok (.aload_n 0, 1) := by decide +kernel
theorem dX1_holdAtCap_52 : decode cX1_holdAtCap 52 = .ok (.getfield 24, 3) := by decide +kernel
theorem dX1_holdAtCap_55 : decode cX1_holdAtCap 55 = .ok (.iload_n 3, 1) := by decide +kernel
theorem dX1_holdAtCap_56 : decode cX1_holdAtCap 56 = .ok (.iconst 0, 1) := by decide +kernel
theorem dX1_holdAtCap_57 : decode cX1_holdAtCap 57 = .ok (.bastore, 1) := by decide +kernel
theorem dX1_holdAtCap_58 : decode cX1_holdAtCap 58 = .ok (.aload_n 0, 1) := by decide +kernel
theorem dX1_holdAtCap_59 : decode cX1_holdAtCap 59 = .ok (.getfield 17, 3) := by decide +kernel
theorem dX1_holdAtCap_62 : decode cX1_holdAtCap 62 = .ok (.iconst 3, 1) := by decide +kernel
theorem dX1_holdAtCap_63 : decode cX1_holdAtCap 63 = .ok (.aaload, 1) := by decide +kernel
theorem dX1_holdAtCap_64 : decode cX1_holdAtCap 64 = .ok (.iload_n 3, 1) := by decide +kernel
theorem dX1_holdAtCap_65 : decode cX1_holdAtCap 65 = .ok (.lload 4, 2) := by decide +kernel
theorem dX1_holdAtCap_67 : decode cX1_holdAtCap 67 = .ok (.lastore, 1) := by decide +kernel
theorem dX1_holdAtCap_68 : decode cX1_holdAtCap 68 = .ok (.lconst 0, 1) := by decide +kernel
theorem dX1_holdAtCap_69 : decode cX1_holdAtCap 69 = .ok (.lload_n 1, 1) := by decide +kernel
theorem dX1_holdAtCap_70 : decode cX1_holdAtCap 70 = .ok (.invokestatic 98, 3) := by decide +kernel
theorem dX1_holdAtCap_73 : decode cX1_holdAtCap 73 = .ok (.lload 4, 2) := by decide +kernel
theorem dX1_holdAtCap_75 : decode cX1_holdAtCap 75 = .ok (.ladd, 1) := by decide +kernel
theorem dX1_holdAtCap_76 : decode cX1_holdAtCap 76 = .ok (.lstore_n 1, 1) := by decide +kernel
theorem dX1_holdAtCap_77 : decode cX1_holdAtCap 77 = .ok (.iinc 3 1, 3) := by decide +kernel
theorem dX1_holdAtCap_80 : decode cX1_holdAtCap 80 = .ok (.goto (-74), 3) := by decide +kernel
theorem dX1_holdAtCap_83 : decode cX1_holdAtCap 83 = .ok (.lload_n 1, 1) := by decide +kernel
theorem dX1_holdAtCap_84 : decode cX1_holdAtCap 84 = .ok (.lreturn, 1) := by decide +kernel
theorem dX1_takeDues_0 : decode cX1_takeDues 0 = .ok (.aload_n 0, 1) := by decide +kernel
theorem dX1_takeDues_1 : decode cX1_takeDues 1 = .ok (.getfield 27, 3) := by decide +kernel
theorem dX1_takeDues_4 : decode cX1_takeDues 4 = .ok (.invokestatic 108, 3) := by decide +kernel
theorem dX1_takeDues_7 : decode cX1_takeDues 7 = .ok (.lstore_n 1, 1) := by decide +kernel
theorem dX1_takeDues_8 : decode cX1_takeDues 8 = .ok (.aload_n 0, 1) := by decide +kernel
theorem dX1_takeDues_9 : decode cX1_takeDues 9 = .ok (.getfield 30, 3) := by decide +kernel
theorem dX1_takeDues_12 : decode cX1_takeDues 12 = .ok (.invokestatic 108, 3) := by decide +kernel
theorem dX1_takeDues_15 : decode cX1_takeDues 15 = .ok (.lstore_n 3, 1) := by decide +kernel
theorem dX1_takeDues_16 : decode cX1_takeDues 16 = .ok (.iconst 0, 1) := by decide +kernel
theorem dX1_takeDues_17 : decode cX1_takeDues 17 = .ok (.istore 5, 2) := by decide +kernel
theorem dX1_takeDues_19 : decode cX1_takeDues 19 = .ok (.iload 5, 2) := by decide +kernel
theorem dX1_takeDues_21 : decode cX1_takeDues 21 = .ok (.bipush 12, 2) := by decide +kernel
theorem dX1_takeDues_23 : decode cX1_takeDues 23 = .ok (.if_icmp .ge 178, 3) := by decide +kernel
theorem dX1_takeDues_26 : decode cX1_takeDues 26 = .ok (.aload_n 0, 1) := by decide +kernel
theorem dX1_takeDues_27 : decode cX1_takeDues 27 = .ok (.getfield 20, 3) := by decide +kernel
theorem dX1_takeDues_30 : decode cX1_takeDues 30 = .ok (.iload 5, 2) := by decide +kernel
theorem dX1_takeDues_32 : decode cX1_takeDues 32 = .ok (.baload, 1) := by decide +kernel
theorem dX1_takeDues_33 : decode cX1_takeDues 33 = .ok (.ifCond .eq 162, 3) := by decide +kernel
theorem dX1_takeDues_36 : decode cX1_takeDues 36 = .ok (.aload_n 0, 1) := by decide +kernel
theorem dX1_takeDues_37 : decode cX1_takeDues 37 = .ok (.getfield 42, 3) := by decide +kernel
theorem dX1_takeDues_40 : decode cX1_takeDues 40 = .ok (.getfield 130, 3) := by decide +kernel
theorem dX1_takeDues_43 : decode cX1_takeDues 43 = .ok (.iload 5, 2) := by decide +kernel
theorem dX1_takeDues_45 : decode cX1_takeDues 45 = .ok (.baload, 1) := by decide +kernel
theorem dX1_takeDues_46 : decode cX1_takeDues 46 = .ok (.ifCond .ne 6, 3) := by decide +kernel
theorem dX1_takeDues_49 : decode cX1_takeDues 49 = .ok (.goto 146, 3) := by decide +kernel
theorem dX1_takeDues_52 : decode cX1_takeDues 52 = .ok (.aload_n 0, 1) := by decide +kernel
theorem dX1_takeDues_53 : decode cX1_takeDues 53 = .ok (.getfield 42, 3) := by decide +kernel
theorem dX1_takeDues_56 : decode cX1_takeDues 56 = .ok (.getfield 73, 3) := by decide +kernel
theorem dX1_takeDues_59 : decode cX1_takeDues 59 = .ok (.bipush 6, 2) := by decide +kernel
theorem dX1_takeDues_61 : decode cX1_takeDues 61 = .ok (.laload, 1) := by decide +kernel
theorem dX1_takeDues_62 : decode cX1_takeDues 62 = .ok (.lload_n 1, 1) := by decide +kernel
theorem dX1_takeDues_63 : decode cX1_takeDues 63 = .ok (.invokestatic 112, 3) := by decide +kernel
theorem dX1_takeDues_66 : decode cX1_takeDues 66 = .ok (.lstore 6, 2) := by decide +kernel
theorem dX1_takeDues_68 : decode cX1_takeDues 68 = .ok (.lconst 0, 1) := by decide +kernel
theorem dX1_takeDues_69 : decode cX1_takeDues 69 = .ok (.lload 6, 2) := by decide +kernel
theorem dX1_takeDues_71 : decode cX1_takeDues 71 = .ok (.aload_n 0, 1) := by decide +kernel
theorem dX1_takeDues_72 : decode cX1_takeDues 72 = .ok (.getfield 9, 3) := by decide +kernel
theorem dX1_takeDues_75 : decode cX1_takeDues 75 = .ok (.bipush 10, 2) := by decide +kernel
theorem dX1_takeDues_77 : decode cX1_takeDues 77 = .ok (.laload, 1) := by decide +kernel
theorem dX1_takeDues_78 : decode cX1_takeDues 78 = .ok (.lsub, 1) := by decide +kernel
theorem dX1_takeDues_79 : decode cX1_takeDues 79 = .ok (.invokestatic 98, 3) := by decide +kernel
theorem dX1_takeDues_82 : decode cX1_takeDues 82 = .ok (.lstore 8, 2) := by decide +kernel
theorem dX1_takeDues_84 : decode cX1_takeDues 84 = .ok (.lload_n 3, 1) := by decide +kernel
theorem dX1_takeDues_85 : decode cX1_takeDues 85 = .ok (.lconst 0, 1) := by decide +kernel
theorem dX1_takeDues_86 : decode cX1_takeDues 86 = .ok (.lcmp, 1) := by decide +kernel
theorem dX1_takeDues_87 : decode cX1_takeDues 87 = .ok (.ifCond .le 18, 3) := by decide +kernel
theorem dX1_takeDues_90 : decode cX1_takeDues 90 = .ok (.lload 8, 2) := by decide +kernel
theorem dX1_takeDues_92 : decode cX1_takeDues 92 = .ok (.aload_n 0, 1) := by decide +kernel
theorem dX1_takeDues_93 : decode cX1_takeDues 93 = .ok (.getfield 30, 3) := by decide +kernel
theorem dX1_takeDues_96 : decode cX1_takeDues 96 = .ok (.iload 5, 2) := by decide +kernel
theorem dX1_takeDues_98 : decode cX1_takeDues 98 = .ok (.laload, 1) := by decide +kernel
theorem dX1_takeDues_99 : decode cX1_takeDues 99 = .ok (.lmul, 1) := by decide +kernel
theorem dX1_takeDues_100 : decode cX1_takeDues 100 = .ok (.lload_n 3, 1) := by decide +kernel
theorem dX1_takeDues_101 : decode cX1_takeDues 101 = .ok (.ldiv, 1) := by decide +kernel
theorem dX1_takeDues_102 : decode cX1_takeDues 102 = .ok (.goto 4, 3) := by decide +kernel
theorem dX1_takeDues_105 : decode cX1_takeDues 105 = .ok (.lconst 0, 1) := by decide +kernel
theorem dX1_takeDues_106 : decode cX1_takeDues 106 = .ok (.lstore 10, 2) := by decide +kernel
theorem dX1_takeDues_108 : decode cX1_takeDues 108 = .ok (.iconst 0, 1) := by decide +kernel
theorem dX1_takeDues_109 : decode cX1_takeDues 109 = .ok (.iconst 5, 1) := by decide +kernel
theorem dX1_takeDues_110 : decode cX1_takeDues 110 = .ok (.aload_n 0, 1) := by decide +kernel
theorem dX1_takeDues_111 : decode cX1_takeDues 111 = .ok (.getfield 42, 3) := by decide +kernel
theorem dX1_takeDues_114 : decode cX1_takeDues 114 = .ok (.getfield 133, 3) := by decide +kernel
theorem dX1_takeDues_117 : decode cX1_takeDues 117 = .ok (.iload 5, 2) := by decide +kernel
theorem dX1_takeDues_119 : decode cX1_takeDues 119 = .ok (.iaload, 1) := by decide +kernel
theorem dX1_takeDues_120 : decode cX1_takeDues 120 = .ok (.iconst 1, 1) := by decide +kernel
theorem dX1_takeDues_121 : decode cX1_takeDues 121 = .ok (.iadd, 1) := by decide +kernel
theorem dX1_takeDues_122 : decode cX1_takeDues 122 = .ok (.isub, 1) := by decide +kernel
theorem dX1_takeDues_123 : decode cX1_takeDues 123 = .ok (.invokestatic 137, 3) := by decide +kernel
theorem dX1_takeDues_126 : decode cX1_takeDues 126 = .ok (.i2l, 1) := by decide +kernel
theorem dX1_takeDues_127 : decode cX1_takeDues 127 = .ok (.lstore 12, 2) := by decide +kernel
theorem dX1_takeDues_129 : decode cX1_takeDues 129 = .ok (.lload 10, 2) := by decide +kernel
theorem dX1_takeDues_131 : decode cX1_takeDues 131 = .ok (.lload 12, 2) := by decide +kernel
theorem dX1_takeDues_133 : decode cX1_takeDues 133 = .ok (.lmul, 1) := by decide +kernel
theorem dX1_takeDues_134 : decode cX1_takeDues 134 = .ok (.ldc2_w 140, 3) := by decide +kernel
theorem dX1_takeDues_137 : decode cX1_takeDues 137 = .ok (.ldiv, 1) := by decide +kernel
theorem dX1_takeDues_138 : decode cX1_takeDues 138 = .ok (.lstore 14, 2) := by decide +kernel
theorem dX1_takeDues_140 : decode cX1_takeDues 140 = .ok (.aload_n 0, 1) := by decide +kernel
theorem dX1_takeDues_141 : decode cX1_takeDues 141 = .ok (.getfield 17, 3) := by decide +kernel
theorem dX1_takeDues_144 : decode cX1_takeDues 144 = .ok (.iconst 4, 1) := by decide +kernel
theorem dX1_takeDues_145 : decode cX1_takeDues 145 = .ok (.aaload, 1) := by decide +kernel
theorem dX1_takeDues_146 : decode cX1_takeDues 146 = .ok (.iload 5, 2) := by decide +kernel
theorem dX1_takeDues_148 : decode cX1_takeDues 148 = .ok (.lload 14, 2) := by decide +kernel
theorem dX1_takeDues_150 : decode cX1_takeDues 150 = .ok (.lastore, 1) := by decide +kernel
theorem dX1_takeDues_151 : decode cX1_takeDues 151 = .ok (.aload_n 0, 1) := by decide +kernel
theorem dX1_takeDues_152 : decode cX1_takeDues 152 = .ok (.getfield 9, 3) := by decide +kernel
theorem dX1_takeDues_155 : decode cX1_takeDues 155 = .ok (.bipush 9, 2) := by decide +kernel
theorem dX1_takeDues_157 : decode cX1_takeDues 157 = .ok (.dup2, 1) := by decide +kernel
theorem dX1_takeDues_158 : decode cX1_takeDues 158 = .ok (.laload, 1) := by decide +kernel
theorem dX1_takeDues_159 : decode cX1_takeDues 159 = .ok (.lload 14, 2) := by decide +kernel
theorem dX1_takeDues_161 : decode cX1_takeDues 161 = .ok (.ladd, 1) := by decide +kernel
theorem dX1_takeDues_162 : decode cX1_takeDues 162 = .ok (.lastore, 1) := by decide +kernel
theorem dX1_takeDues_163 : decode cX1_takeDues 163 = .ok (.aload_n 0, 1) := by decide +kernel
theorem dX1_takeDues_164 : decode cX1_takeDues 164 = .ok (.getfield 9, 3) := by decide +kernel
theorem dX1_takeDues_167 : decode cX1_takeDues 167 = .ok (.bipush 10, 2) := by decide +kernel
theorem dX1_takeDues_169 : decode cX1_takeDues 169 = .ok (.dup2, 1) := by decide +kernel
theorem dX1_takeDues_170 : decode cX1_takeDues 170 = .ok (.laload, 1) := by decide +kernel
theorem dX1_takeDues_171 : decode cX1_takeDues 171 = .ok (.lload 14, 2) := by decide +kernel
theorem dX1_takeDues_173 : decode cX1_takeDues 173 = .ok (.ladd, 1) := by decide +kernel
theorem dX1_takeDues_174 : decode cX1_takeDues 174 = .ok (.lastore, 1) := by decide +kernel
theorem dX1_takeDues_175 : decode cX1_takeDues 175 = .ok (.lload_n 1, 1) := by decide +kernel
theorem dX1_takeDues_176 : decode cX1_takeDues 176 = .ok (.aload_n 0, 1) := by decide +kernel
theorem dX1_takeDues_177 : decode cX1_takeDues 177 = .ok (.getfield 27, 3) := by decide +kernel
theorem dX1_takeDues_180 : decode cX1_takeDues 180 = .ok (.iload 5, 2) := by decide +kernel
theorem dX1_takeDues_182 : decode cX1_takeDues 182 = .ok (.laload, 1) := by decide +kernel
theorem dX1_takeDues_183 : decode cX1_takeDues 183 = .ok (.lsub, 1) := by decide +kernel
theorem dX1_takeDues_184 : decode cX1_takeDues 184 = .ok (.lstore_n 1, 1) := by decide +kernel
theorem dX1_takeDues_185 : decode cX1_takeDues 185 = .ok (.lload_n 3, 1) := by decide +kernel
theorem dX1_takeDues_186 : decode cX1_takeDues 186 = .ok (.aload_n 0, 1) := by decide +kernel
theorem dX1_takeDues_187 : decode cX1_takeDues 187 = .ok (.getfield 30, 3) := by decide +kernel
theorem dX1_takeDues_190 : decode cX1_takeDues 190 = .ok (.iload 5, 2) := by decide +kernel
theorem dX1_takeDues_192 : decode cX1_takeDues 192 = .ok (.laload, 1) := by decide +kernel
theorem dX1_takeDues_193 : decode cX1_takeDues 193 = .ok (.lsub, 1) := by decide +kernel
theorem dX1_takeDues_194 : decode cX1_takeDues 194 = .ok (.lstore_n 3, 1) := by decide +kernel
theorem dX1_takeDues_195 : decode cX1_takeDues 195 = .ok (.iinc 5 1, 3) := by decide +kernel
theorem dX1_takeDues_198 : decode cX1_takeDues 198 = .ok (.goto (-179), 3) := by decide +kernel
theorem dX1_takeDues_201 : decode cX1_takeDues 201 = .ok (.return_, 1) := by decide +kernel
theorem dX1_balance_0 : decode cX1_balance 0 = .ok (.iconst 0, 1) := by decide +kernel
theorem dX1_balance_1 : decode cX1_balance 1 = .ok (.istore_n 1, 1) := by decide +kernel
theorem dX1_balance_2 : decode cX1_balance 2 = .ok (.iload_n 1, 1) := by decide +kernel
theorem dX1_balance_3 : decode cX1_balance 3 = .ok (.bipush 12, 2) := by decide +kernel
theorem dX1_balance_5 : decode cX1_balance 5 = .ok (.if_icmp .ge 70, 3) := by decide +kernel
theorem dX1_balance_8 : decode cX1_balance 8 = .ok (.aload_n 0, 1) := by decide +kernel
theorem dX1_balance_9 : decode cX1_balance 9 = .ok (.getfield 17, 3) := by decide +kernel
theorem dX1_balance_12 : decode cX1_balance 12 = .ok (.iconst 0, 1) := by decide +kernel
theorem dX1_balance_13 : decode cX1_balance 13 = .ok (.aaload, 1) := by decide +kernel
theorem dX1_balance_14 : decode cX1_balance 14 = .ok (.iload_n 1, 1) := by decide +kernel
theorem dX1_balance_15 : decode cX1_balance 15 = .ok (.laload, 1) := by decide +kernel
theorem dX1_balance_16 : decode cX1_balance 16 = .ok (.aload_n 0, 1) := by decide +kernel
theorem dX1_balance_17 : decode cX1_balance 17 = .ok (.getfield 17, 3) := by decide +kernel
theorem dX1_balance_20 : decode cX1_balance 20 = .ok (.iconst 1, 1) := by decide +kernel
theorem dX1_balance_21 : decode cX1_balance 21 = .ok (.aaload, 1) := by decide +kernel
theorem dX1_balance_22 : decode cX1_balance 22 = .ok (.iload_n 1, 1) := by decide +kernel
theorem dX1_balance_23 : decode cX1_balance 23 = .ok (.laload, 1) := by decide +kernel
theorem dX1_balance_24 : decode cX1_balance 24 = .ok (.lsub, 1) := by decide +kernel
theorem dX1_balance_25 : decode cX1_balance 25 = .ok (.aload_n 0, 1) := by decide +kernel
theorem dX1_balance_26 : decode cX1_balance 26 = .ok (.getfield 17, 3) := by decide +kernel
theorem dX1_balance_29 : decode cX1_balance 29 = .ok (.iconst 2, 1) := by decide +kernel
theorem dX1_balance_30 : decode cX1_balance 30 = .ok (.aaload, 1) := by decide +kernel
theorem dX1_balance_31 : decode cX1_balance 31 = .ok (.iload_n 1, 1) := by decide +kernel
theorem dX1_balance_32 : decode cX1_balance 32 = .ok (.laload, 1) := by decide +kernel
theorem dX1_balance_33 : decode cX1_balance 33 = .ok (.ladd, 1) := by decide +kernel
theorem dX1_balance_34 : decode cX1_balance 34 = .ok (.lstore_n 2, 1) := by decide +kernel
theorem dX1_balance_35 : decode cX1_balance 35 = .ok (.aload_n 0, 1) := by decide +kernel
theorem dX1_balance_36 : decode cX1_balance 36 = .ok (.getfield 17, 3) := by decide +kernel
theorem dX1_balance_39 : decode cX1_balance 39 = .ok (.iconst 5, 1) := by decide +kernel
theorem dX1_balance_40 : decode cX1_balance 40 = .ok (.aaload, 1) := by decide +kernel
theorem dX1_balance_41 : decode cX1_balance 41 = .ok (.iload_n 1, 1) := by decide +kernel
theorem dX1_balance_42 : decode cX1_balance 42 = .ok (.lload_n 2, 1) := by decide +kernel
theorem dX1_balance_43 : decode cX1_balance 43 = .ok (.aload_n 0, 1) := by decide +kernel
theorem dX1_balance_44 : decode cX1_balance 44 = .ok (.getfield 33, 3) := by decide +kernel
theorem dX1_balance_47 : decode cX1_balance 47 = .ok (.iload_n 1, 1) := by decide +kernel
theorem dX1_balance_48 : decode cX1_balance 48 = .ok (.laload, 1) := by decide +kernel
theorem dX1_balance_49 : decode cX1_balance 49 = .ok (.lsub, 1) := by decide +kernel
theorem dX1_balance_50 : decode cX1_balance 50 = .ok (.aload_n 0, 1) := by decide +kernel
theorem dX1_balance_51 : decode cX1_balance 51 = .ok (.getfield 17, 3) := by decide +kernel
theorem dX1_balance_54 : decode cX1_balance 54 = .ok (.iconst 3, 1) := by decide +kernel
theorem dX1_balance_55 : decode cX1_balance 55 = .ok (.aaload, 1) := by decide +kernel
theorem dX1_balance_56 : decode cX1_balance 56 = .ok (.iload_n 1, 1) := by decide +kernel
theorem dX1_balance_57 : decode cX1_balance 57 = .ok (.laload, 1) := by decide +kernel
theorem dX1_balance_58 : decode cX1_balance 58 = .ok (.lsub, 1) := by decide +kernel
theorem dX1_balance_59 : decode cX1_balance 59 = .ok (.aload_n 0, 1) := by decide +kernel
theorem dX1_balance_60 : decode cX1_balance 60 = .ok (.getfield 17, 3) := by decide +kernel
theorem dX1_balance_63 : decode cX1_balance 63 = .ok (.iconst 4, 1) := by decide +kernel
theorem dX1_balance_64 : decode cX1_balance 64 = .ok (.aaload, 1) := by decide +kernel
theorem dX1_balance_65 : decode cX1_balance 65 = .ok (.iload_n 1, 1) := by decide +kernel
theorem dX1_balance_66 : decode cX1_balance 66 = .ok (.laload, 1) := by decide +kernel
theorem dX1_balance_67 : decode cX1_balance 67 = .ok (.lsub, 1) := by decide +kernel
theorem dX1_balance_68 : decode cX1_balance 68 = .ok (.lastore, 1) := by decide +kernel
theorem dX1_balance_69 : decode cX1_balance 69 = .ok (.iinc 1 1, 3) := by decide +kernel
theorem dX1_balance_72 : decode cX1_balance 72 = .ok (.goto (-70), 3) := by decide +kernel
theorem dX1_balance_75 : decode cX1_balance 75 = .ok (.return_, 1) := by decide +kernel
theorem dX1_advancesBy_0 : decode cX1_advancesBy 0 = .ok (.lconst 0, 1) := by decide +kernel
theorem dX1_advancesBy_1 : decode cX1_advancesBy 1 = .ok (.lstore_n 2, 1) := by decide +kernel
theorem dX1_advancesBy_2 : decode cX1_advancesBy 2 = .ok (.iconst 0, 1) := by decide +kernel
theorem dX1_advancesBy_3 : decode cX1_advancesBy 3 = .ok (.istore 4, 2) := by decide +kernel
theorem dX1_advancesBy_5 : decode cX1_advancesBy 5 = .ok (.iload 4, 2) := by decide +kernel
theorem dX1_advancesBy_7 : decode cX1_advancesBy 7 = .ok (.bipush 12, 2) := by decide +kernel
theorem dX1_advancesBy_9 : decode cX1_advancesBy 9 = .ok (.if_icmp .ge 24, 3) := by decide +kernel
theorem dX1_advancesBy_12 : decode cX1_advancesBy 12 = .ok (.lload_n 2, 1) := by decide +kernel
theorem dX1_advancesBy_13 : decode cX1_advancesBy 13 = .ok (.aload_n 0, 1) := by decide +kernel
theorem dX1_advancesBy_14 : decode cX1_advancesBy 14 = .ok (.getfield 30, 3) := by decide +kernel
theorem dX1_advancesBy_17 : decode cX1_advancesBy 17 = .ok (.iload 4, 2) := by decide +kernel
theorem dX1_advancesBy_19 : decode cX1_advancesBy 19 = .ok (.laload, 1) := by decide +kernel
theorem dX1_advancesBy_20 : decode cX1_advancesBy 20 = .ok (.iload_n 1, 1) := by decide +kernel
theorem dX1_advancesBy_21 : decode cX1_advancesBy 21 = .ok (.i2l, 1) := by decide +kernel
theorem dX1_advancesBy_22 : decode cX1_advancesBy 22 = .ok (.invokestatic 89, 3) := by decide +kernel
theorem dX1_advancesBy_25 : decode cX1_advancesBy 25 = .ok (.ladd, 1) := by decide +kernel
theorem dX1_advancesBy_26 : decode cX1_advancesBy 26 = .ok (.lstore_n 2, 1) := by decide +kernel
theorem dX1_advancesBy_27 : decode cX1_advancesBy 27 = .ok (.iinc 4 1, 3) := by decide +kernel
theorem dX1_advancesBy_30 : decode cX1_advancesBy 30 = .ok (.goto (-25), 3) := by decide +kernel
theorem dX1_advancesBy_33 : decode cX1_advancesBy 33 = .ok (.lload_n 2, 1) := by decide +kernel
theorem dX1_advancesBy_34 : decode cX1_advancesBy 34 = .ok (.lreturn, 1) := by decide +kernel
theorem dX1_ahead_0 : decode cX1_ahead 0 = .ok (.iload_n 1, 1) := by decide +kernel
theorem dX1_ahead_1 : decode cX1_ahead 1 = .ok (.ifCond .lt 9, 3) := by decide +kernel
theorem dX1_ahead_4 : decode cX1_ahead 4 = .ok (.iload_n 1, 1) := by decide +kernel
theorem dX1_ahead_5 : decode cX1_ahead 5 = .ok (.bipush 12, 2) := by decide +kernel
theorem dX1_ahead_7 : decode cX1_ahead 7 = .ok (.if_icmp .lt 5, 3) := by decide +kernel
theorem dX1_ahead_10 : decode cX1_ahead 10 = .ok (.iconst (-1), 1) := by decide +kernel
theorem dX1_ahead_11 : decode cX1_ahead 11 = .ok (.ireturn, 1) := by decide +kernel
theorem dX1_ahead_12 : decode cX1_ahead 12 = .ok (.aload_n 0, 1) := by decide +kernel
theorem dX1_ahead_13 : decode cX1_ahead 13 = .ok (.getfield 17, 3) := by decide +kernel
theorem dX1_ahead_16 : decode cX1_ahead 16 = .ok (.iconst 5, 1) := by decide +kernel
theorem dX1_ahead_17 : decode cX1_ahead 17 = .ok (.aaload, 1) := by decide +kernel
theorem dX1_ahead_18 : decode cX1_ahead 18 = .ok (.iload_n 1, 1) := by decide +kernel
theorem dX1_ahead_19 : decode cX1_ahead 19 = .ok (.laload, 1) := by decide +kernel
theorem dX1_ahead_20 : decode cX1_ahead 20 = .ok (.lstore_n 2, 1) := by decide +kernel
theorem dX1_ahead_21 : decode cX1_ahead 21 = .ok (.iconst 0, 1) := by decide +kernel
theorem dX1_ahead_22 : decode cX1_ahead 22 = .ok (.istore 4, 2) := by decide +kernel
theorem dX1_ahead_24 : decode cX1_ahead 24 = .ok (.iconst 0, 1) := by decide +kernel
theorem dX1_ahead_25 : decode cX1_ahead 25 = .ok (.istore 5, 2) := by decide +kernel
theorem dX1_ahead_27 : decode cX1_ahead 27 = .ok (.iload 5, 2) := by decide +kernel
theorem dX1_ahead_29 : decode cX1_ahead 29 = .ok (.bipush 12, 2) := by decide +kernel
theorem dX1_ahead_31 : decode cX1_ahead 31 = .ok (.if_icmp .ge 53, 3) := by decide +kernel
theorem dX1_ahead_34 : decode cX1_ahead 34 = .ok (.aload_n 0, 1) := by decide +kernel
theorem dX1_ahead_35 : decode cX1_ahead 35 = .ok (.getfield 17, 3) := by decide +kernel
theorem dX1_ahead_38 : decode cX1_ahead 38 = .ok (.iconst 5, 1) := by decide +kernel
theorem dX1_ahead_39 : decode cX1_ahead 39 = .ok (.aaload, 1) := by decide +kernel
theorem dX1_ahead_40 : decode cX1_ahead 40 = .ok (.iload 5, 2) := by decide +kernel
theorem dX1_ahead_42 : decode cX1_ahead 42 = .ok (.laload, 1) := by decide +kernel
theorem dX1_ahead_43 : decode cX1_ahead 43 = .ok (.lstore 6, 2) := by decide +kernel
theorem dX1_ahead_45 : decode cX1_ahead 45 = .ok (.aload_n 0, 1) := by decide +kernel
theorem dX1_ahead_46 : decode cX1_ahead 46 = .ok (.getfield 20, 3) := by decide +kernel
theorem dX1_ahead_49 : decode cX1_ahead 49 = .ok (.iload 5, 2) := by decide +kernel
theorem dX1_ahead_51 : decode cX1_ahead 51 = .ok (.baload, 1) := by decide +kernel
theorem dX1_ahead_52 : decode cX1_ahead 52 = .ok (.ifCond .eq 26, 3) := by decide +kernel
theorem dX1_ahead_55 : decode cX1_ahead 55 = .ok (.lload 6, 2) := by decide +kernel
theorem dX1_ahead_57 : decode cX1_ahead 57 = .ok (.lload_n 2, 1) := by decide +kernel
theorem dX1_ahead_58 : decode cX1_ahead 58 = .ok (.lcmp, 1) := by decide +kernel
theorem dX1_ahead_59 : decode cX1_ahead 59 = .ok (.ifCond .gt 16, 3) := by decide +kernel
theorem dX1_ahead_62 : decode cX1_ahead 62 = .ok (.lload 6, 2) := by decide +kernel
theorem dX1_ahead_64 : decode cX1_ahead 64 = .ok (.lload_n 2, 1) := by decide +kernel
theorem dX1_ahead_65 : decode cX1_ahead 65 = .ok (.lcmp, 1) := by decide +kernel
theorem dX1_ahead_66 : decode cX1_ahead 66 = .ok (.ifCond .ne 12, 3) := by decide +kernel
theorem dX1_ahead_69 : decode cX1_ahead 69 = .ok (.iload 5, 2) := by decide +kernel
theorem dX1_ahead_71 : decode cX1_ahead 71 = .ok (.iload_n 1, 1) := by decide +kernel
theorem dX1_ahead_72 : decode cX1_ahead 72 = .ok (.if_icmp .ge 6, 3) := by decide +kernel
theorem dX1_ahead_75 : decode cX1_ahead 75 = .ok (.iinc 4 1, 3) := by decide +kernel
theorem dX1_ahead_78 : decode cX1_ahead 78 = .ok (.iinc 5 1, 3) := by decide +kernel
theorem dX1_ahead_81 : decode cX1_ahead 81 = .ok (.goto (-54), 3) := by decide +kernel
theorem dX1_ahead_84 : decode cX1_ahead 84 = .ok (.iload 4, 2) := by decide +kernel
theorem dX1_ahead_86 : decode cX1_ahead 86 = .ok (.ireturn, 1) := by decide +kernel
theorem dX1_divide_0 : decode cX1_divide 0 = .ok (.lconst 0, 1) := by decide +kernel
theorem dX1_divide_1 : decode cX1_divide 1 = .ok (.lstore 6, 2) := by decide +kernel
theorem dX1_divide_3 : decode cX1_divide 3 = .ok (.iconst 0, 1) := by decide +kernel
theorem dX1_divide_4 : decode cX1_divide 4 = .ok (.istore 8, 2) := by decide +kernel
theorem dX1_divide_6 : decode cX1_divide 6 = .ok (.iload 8, 2) := by decide +kernel
theorem dX1_divide_8 : decode cX1_divide 8 = .ok (.bipush 12, 2) := by decide +kernel
theorem dX1_divide_10 : decode cX1_divide 10 = .ok (.if_icmp .ge 30, 3) := by decide +kernel
theorem dX1_divide_13 : decode cX1_divide 13 = .ok (.lload 6, 2) := by decide +kernel
theorem dX1_divide_15 : decode cX1_divide 15 = .ok (.aload 4, 2) := by decide +kernel
theorem dX1_divide_17 : decode cX1_divide 17 = .ok (.iload 8, 2) := by decide +kernel
theorem dX1_divide_19 : decode cX1_divide 19 = .ok (.baload, 1) := by decide +kernel
theorem dX1_divide_20 : decode cX1_divide 20 = .ok (.ifCond .eq 10, 3) := by decide +kernel
theorem dX1_divide_23 : decode cX1_divide 23 = .ok (.aload_n 3, 1) := by decide +kernel
theorem dX1_divide_24 : decode cX1_divide 24 = .ok (.iload 8, 2) := by decide +kernel
theorem dX1_divide_26 : decode cX1_divide 26 = .ok (.laload, 1) := by decide +kernel
theorem dX1_divide_27 : decode cX1_divide 27 = .ok (.goto 4, 3) := by decide +kernel
theorem dX1_divide_30 : decode cX1_divide 30 = .ok (.lconst 0, 1) := by decide +kernel
theorem dX1_divide_31 : decode cX1_divide 31 = .ok (.ladd, 1) := by decide +kernel
theorem dX1_divide_32 : decode cX1_divide 32 = .ok (.lstore 6, 2) := by decide +kernel
theorem dX1_divide_34 : decode cX1_divide 34 = .ok (.iinc 8 1, 3) := by decide +kernel
theorem dX1_divide_37 : decode cX1_divide 37 = .ok (.goto (-31), 3) := by decide +kernel
theorem dX1_divide_40 : decode cX1_divide 40 = .ok (.lload 6, 2) := by decide +kernel
theorem dX1_divide_42 : decode cX1_divide 42 = .ok (.lconst 0, 1) := by decide +kernel
theorem dX1_divide_43 : decode cX1_divide 43 = .ok (.lcmp, 1) := by decide +kernel
theorem dX1_divide_44 : decode cX1_divide 44 = .ok (.ifCond .le 7, 3) := by decide +kernel
theorem dX1_divide_47 : decode cX1_divide 47 = .ok (.lload_n 1, 1) := by decide +kernel
theorem dX1_divide_48 : decode cX1_divide 48 = .ok (.goto 4, 3) := by decide +kernel
theorem dX1_divide_51 : decode cX1_divide 51 = .ok (.lconst 0, 1) := by decide +kernel
theorem dX1_divide_52 : decode cX1_divide 52 = .ok (.lstore 8, 2) := by decide +kernel
theorem dX1_divide_54 : decode cX1_divide 54 = .ok (.iconst 0, 1) := by decide +kernel
theorem dX1_divide_55 : decode cX1_divide 55 = .ok (.istore 10, 2) := by decide +kernel
theorem dX1_divide_57 : decode cX1_divide 57 = .ok (.iload 10, 2) := by decide +kernel
theorem dX1_divide_59 : decode cX1_divide 59 = .ok (.bipush 12, 2) := by decide +kernel
theorem dX1_divide_61 : decode cX1_divide 61 = .ok (.if_icmp .ge 90, 3) := by decide +kernel
theorem dX1_divide_64 : decode cX1_divide 64 = .ok (.aload 4, 2) := by decide +kernel
theorem dX1_divide_66 : decode cX1_divide 66 = .ok (.iload 10, 2) := by decide +kernel
theorem dX1_divide_68 : decode cX1_divide 68 = .ok (.baload, 1) := by decide +kernel
theorem dX1_divide_69 : decode cX1_divide 69 = .ok (.ifCond .eq 19, 3) := by decide +kernel
theorem dX1_divide_72 : decode cX1_divide 72 = .ok (.lload 6, 2) := by decide +kernel
theorem dX1_divide_74 : decode cX1_divide 74 = .ok (.lconst 0, 1) := by decide +kernel
theorem dX1_divide_75 : decode cX1_divide 75 = .ok (.lcmp, 1) := by decide +kernel
theorem dX1_divide_76 : decode cX1_divide 76 = .ok (.ifCond .le 12, 3) := by decide +kernel
theorem dX1_divide_79 : decode cX1_divide 79 = .ok (.lload_n 1, 1) := by decide +kernel
theorem dX1_divide_80 : decode cX1_divide 80 = .ok (.aload_n 3, 1) := by decide +kernel
theorem dX1_divide_81 : decode cX1_divide 81 = .ok (.iload 10, 2) := by decide +kernel
theorem dX1_divide_83 : decode cX1_divide 83 = .ok (.laload, 1) := by decide +kernel
theorem dX1_divide_84 : decode cX1_divide 84 = .ok (.lmul, 1) := by decide +kernel
theorem dX1_divide_85 : decode cX1_divide 85 = .ok (.goto 4, 3) := by decide +kernel
theorem dX1_divide_88 : decode cX1_divide 88 = .ok (.lconst 0, 1) := by decide +kernel
theorem dX1_divide_89 : decode cX1_divide 89 = .ok (.lstore 11, 2) := by decide +kernel
theorem dX1_divide_91 : decode cX1_divide 91 = .ok (.aload 5, 2) := by decide +kernel
theorem dX1_divide_93 : decode cX1_divide 93 = .ok (.iload 10, 2) := by decide +kernel
theorem dX1_divide_95 : decode cX1_divide 95 = .ok (.lload 6, 2) := by decide +kernel
theorem dX1_divide_97 : decode cX1_divide 97 = .ok (.lconst 0, 1) := by decide +kernel
theorem dX1_divide_98 : decode cX1_divide 98 = .ok (.lcmp, 1) := by decide +kernel
theorem dX1_divide_99 : decode cX1_divide 99 = .ok (.ifCond .le 11, 3) := by decide +kernel
theorem dX1_divide_102 : decode cX1_divide 102 = .ok (.lload 11, 2) := by decide +kernel
theorem dX1_divide_104 : decode cX1_divide 104 = .ok (.lload 6, 2) := by decide +kernel
theorem dX1_divide_106 : decode cX1_divide 106 = .ok (.ldiv, 1) := by decide +kernel
theorem dX1_divide_107 : decode cX1_divide 107 = .ok (.goto 4, 3) := by decide +kernel
theorem dX1_divide_110 : decode cX1_divide 110 = .ok (.lconst 0, 1) := by decide +kernel
theorem dX1_divide_111 : decode cX1_divide 111 = .ok (.lastore, 1) := by decide +kernel
theorem dX1_divide_112 : decode cX1_divide 112 = .ok (.aload_n 0, 1) := by decide +kernel
theorem dX1_divide_113 : decode cX1_divide 113 = .ok (.getfield 39, 3) := by decide +kernel
theorem dX1_divide_116 : decode cX1_divide 116 = .ok (.iload 10, 2) := by decide +kernel
theorem dX1_divide_118 : decode cX1_divide 118 = .ok (.lload 6, 2) := by decide +kernel
theorem dX1_divide_120 : decode cX1_divide 120 = .ok (.lconst 0, 1) := by decide +kernel
theorem dX1_divide_121 : decode cX1_divide 121 = .ok (.lcmp, 1) := by decide +kernel
theorem dX1_divide_122 : decode cX1_divide 122 = .ok (.ifCond .le 11, 3) := by decide +kernel
theorem dX1_divide_125 : decode cX1_divide 125 = .ok (.lload 11, 2) := by decide +kernel
theorem dX1_divide_127 : decode cX1_divide 127 = .ok (.lload 6, 2) := by decide +kernel
theorem dX1_divide_129 : decode cX1_divide 129 = .ok (.lrem, 1) := by decide +kernel
theorem dX1_divide_130 : decode cX1_divide 130 = .ok (.goto 4, 3) := by decide +kernel
theorem dX1_divide_133 : decode cX1_divide 133 = .ok (.lconst 0, 1) := by decide +kernel
theorem dX1_divide_134 : decode cX1_divide 134 = .ok (.lastore, 1) := by decide +kernel
theorem dX1_divide_135 : decode cX1_divide 135 = .ok (.lload 8, 2) := by decide +kernel
theorem dX1_divide_137 : decode cX1_divide 137 = .ok (.aload 5, 2) := by decide +kernel
theorem dX1_divide_139 : decode cX1_divide 139 = .ok (.iload 10, 2) := by decide +kernel
theorem dX1_divide_141 : decode cX1_divide 141 = .ok (.laload, 1) := by decide +kernel
theorem dX1_divide_142 : decode cX1_divide 142 = .ok (.lsub, 1) := by decide +kernel
theorem dX1_divide_143 : decode cX1_divide 143 = .ok (.lstore 8, 2) := by decide +kernel
theorem dX1_divide_145 : decode cX1_divide 145 = .ok (.iinc 10 1, 3) := by decide +kernel
theorem dX1_divide_148 : decode cX1_divide 148 = .ok (.goto (-91), 3) := by decide +kernel
theorem dX1_divide_151 : decode cX1_divide 151 = .ok (.iconst 0, 1) := by decide +kernel
theorem dX1_divide_152 : decode cX1_divide 152 = .ok (.istore 10, 2) := by decide +kernel
theorem dX1_divide_154 : decode cX1_divide 154 = .ok (.iload 10, 2) := by decide +kernel
theorem dX1_divide_156 : decode cX1_divide 156 = .ok (.bipush 12, 2) := by decide +kernel
theorem dX1_divide_158 : decode cX1_divide 158 = .ok (.if_icmp .ge 50, 3) := by decide +kernel
theorem dX1_divide_161 : decode cX1_divide 161 = .ok (.lload 8, 2) := by decide +kernel
theorem dX1_divide_163 : decode cX1_divide 163 = .ok (.lconst 0, 1) := by decide +kernel
theorem dX1_divide_164 : decode cX1_divide 164 = .ok (.lcmp, 1) := by decide +kernel
theorem dX1_divide_165 : decode cX1_divide 165 = .ok (.ifCond .le 43, 3) := by decide +kernel
theorem dX1_divide_168 : decode cX1_divide 168 = .ok (.aload_n 0, 1) := by decide +kernel
theorem dX1_divide_169 : decode cX1_divide 169 = .ok (.getfield 39, 3) := by decide +kernel
theorem dX1_divide_172 : decode cX1_divide 172 = .ok (.invokestatic 142, 3) := by decide +kernel
theorem dX1_divide_175 : decode cX1_divide 175 = .ok (.istore 11, 2) := by decide +kernel
theorem dX1_divide_177 : decode cX1_divide 177 = .ok (.aload 5, 2) := by decide +kernel
theorem dX1_divide_179 : decode cX1_divide 179 = .ok (.iload 11, 2) := by decide +kernel
theorem dX1_divide_181 : decode cX1_divide 181 = .ok (.dup2, 1) := by decide +kernel
theorem dX1_divide_182 : decode cX1_divide 182 = .ok (.laload, 1) := by decide +kernel
theorem dX1_divide_183 : decode cX1_divide 183 = .ok (.lconst 1, 1) := by decide +kernel
theorem dX1_divide_184 : decode cX1_divide 184 = .ok (.ladd, 1) := by decide +kernel
theorem dX1_divide_185 : decode cX1_divide 185 = .ok (.lastore, 1) := by decide +kernel
theorem dX1_divide_186 : decode cX1_divide 186 = .ok (.aload_n 0, 1) := by decide +kernel
theorem dX1_divide_187 : decode cX1_divide 187 = .ok (.getfield 39, 3) := by decide +kernel
theorem dX1_divide_190 : decode cX1_divide 190 = .ok (.iload 11, 2) := by decide +kernel
theorem dX1_divide_192 : decode cX1_divide 192 = .ok (.ldc2_w 128, 3) := by decide +kernel
theorem dX1_divide_195 : decode cX1_divide 195 = .ok (.lastore, 1) := by decide +kernel
theorem dX1_divide_196 : decode cX1_divide 196 = .ok (.lload 8, 2) := by decide +kernel
theorem dX1_divide_198 : decode cX1_divide 198 = .ok (.lconst 1, 1) := by decide +kernel
theorem dX1_divide_199 : decode cX1_divide 199 = .ok (.lsub, 1) := by decide +kernel
theorem dX1_divide_200 : decode cX1_divide 200 = .ok (.lstore 8, 2) := by decide +kernel
theorem dX1_divide_202 : decode cX1_divide 202 = .ok (.iinc 10 1, 3) := by decide +kernel
theorem dX1_divide_205 : decode cX1_divide 205 = .ok (.goto (-51), 3) := by decide +kernel
theorem dX1_divide_208 : decode cX1_divide 208 = .ok (.return_, 1) := by decide +kernel
theorem dX1_placeOfGreatest_0 : decode cX1_placeOfGreatest 0 = .ok (.iconst 0, 1) := by decide +kernel
theorem dX1_placeOfGreatest_1 : decode cX1_placeOfGreatest 1 = .ok (.istore_n 1, 1) := by decide +kernel
theorem dX1_placeOfGreatest_2 : decode cX1_placeOfGreatest 2 = .ok (.iconst 1, 1) := by decide +kernel
theorem dX1_placeOfGreatest_3 : decode cX1_placeOfGreatest 3 = .ok (.istore_n 2, 1) := by decide +kernel
theorem dX1_placeOfGreatest_4 : decode cX1_placeOfGreatest 4 = .ok (.iload_n 2, 1) := by decide +kernel
theorem dX1_placeOfGreatest_5 : decode cX1_placeOfGreatest 5 = .ok (.bipush 12, 2) := by decide +kernel
theorem dX1_placeOfGreatest_7 : decode cX1_placeOfGreatest 7 = .ok (.if_icmp .ge 21, 3) := by decide +kernel
theorem dX1_placeOfGreatest_10 : decode cX1_placeOfGreatest 10 = .ok (.aload_n 0, 1) := by decide +kernel
theorem dX1_placeOfGreatest_11 : decode cX1_placeOfGreatest 11 = .ok (.iload_n 2, 1) := by decide +kernel
theorem dX1_placeOfGreatest_12 : decode cX1_placeOfGreatest 12 = .ok (.laload, 1) := by decide +kernel
theorem dX1_placeOfGreatest_13 : decode cX1_placeOfGreatest 13 = .ok (.aload_n 0, 1) := by decide +kernel
theorem dX1_placeOfGreatest_14 : decode cX1_placeOfGreatest 14 = .ok (.iload_n 1, 1) := by decide +kernel
theorem dX1_placeOfGreatest_15 : decode cX1_placeOfGreatest 15 = .ok (.laload, 1) := by decide +kernel
theorem dX1_placeOfGreatest_16 : decode cX1_placeOfGreatest 16 = .ok (.lcmp, 1) := by decide +kernel
theorem dX1_placeOfGreatest_17 : decode cX1_placeOfGreatest 17 = .ok (.ifCond .le 5, 3) := by decide +kernel
theorem dX1_placeOfGreatest_20 : decode cX1_placeOfGreatest 20 = .ok (.iload_n 2, 1) := by decide +kernel
theorem dX1_placeOfGreatest_21 : decode cX1_placeOfGreatest 21 = .ok (.istore_n 1, 1) := by decide +kernel
theorem dX1_placeOfGreatest_22 : decode cX1_placeOfGreatest 22 = .ok (.iinc 2 1, 3) := by decide +kernel
theorem dX1_placeOfGreatest_25 : decode cX1_placeOfGreatest 25 = .ok (.goto (-21), 3) := by decide +kernel
theorem dX1_placeOfGreatest_28 : decode cX1_placeOfGreatest 28 = .ok (.iload_n 1, 1) := by decide +kernel
theorem dX1_placeOfGreatest_29 : decode cX1_placeOfGreatest 29 = .ok (.ireturn, 1) := by decide +kernel
theorem dX1_total_0 : decode cX1_total 0 = .ok (.lconst 0, 1) := by decide +kernel
theorem dX1_total_1 : decode cX1_total 1 = .ok (.lstore_n 1, 1) := by decide +kernel
theorem dX1_total_2 : decode cX1_total 2 = .ok (.iconst 0, 1) := by decide +kernel
theorem dX1_total_3 : decode cX1_total 3 = .ok (.istore_n 3, 1) := by decide +kernel
theorem dX1_total_4 : decode cX1_total 4 = .ok (.iload_n 3, 1) := by decide +kernel
theorem dX1_total_5 : decode cX1_total 5 = .ok (.bipush 12, 2) := by decide +kernel
theorem dX1_total_7 : decode cX1_total 7 = .ok (.if_icmp .ge 15, 3) := by decide +kernel
theorem dX1_total_10 : decode cX1_total 10 = .ok (.lload_n 1, 1) := by decide +kernel
theorem dX1_total_11 : decode cX1_total 11 = .ok (.aload_n 0, 1) := by decide +kernel
theorem dX1_total_12 : decode cX1_total 12 = .ok (.iload_n 3, 1) := by decide +kernel
theorem dX1_total_13 : decode cX1_total 13 = .ok (.laload, 1) := by decide +kernel
theorem dX1_total_14 : decode cX1_total 14 = .ok (.ladd, 1) := by decide +kernel
theorem dX1_total_15 : decode cX1_total 15 = .ok (.lstore_n 1, 1) := by decide +kernel
theorem dX1_total_16 : decode cX1_total 16 = .ok (.iinc 3 1, 3) := by decide +kernel
theorem dX1_total_19 : decode cX1_total 19 = .ok (.goto (-15), 3) := by decide +kernel
theorem dX1_total_22 : decode cX1_total 22 = .ok (.lload_n 1, 1) := by decide +kernel
theorem dX1_total_23 : decode cX1_total 23 = .ok (.lreturn, 1) := by decide +kernel
theorem dX5_init_0 : decode cX5_init 0 = .ok (.aload_n 0, 1) := by decide +kernel
theorem dX5_init_1 : decode cX5_init 1 = .ok (.invokespecial 3, 3) := by decide +kernel
theorem dX5_init_4 : decode cX5_init 4 = .ok (.aload_n 0, 1) := by decide +kernel
theorem dX5_init_5 : decode cX5_init 5 = .ok (.iconst 5, 1) := by decide +kernel
theorem dX5_init_6 : decode cX5_init 6 = .ok (.newarray .int, 2) := by decide +kernel
theorem dX5_init_8 : decode cX5_init 8 = .ok (.putfield 9, 3) := by decide +kernel
theorem dX5_init_11 : decode cX5_init 11 = .ok (.aload_n 0, 1) := by decide +kernel
theorem dX5_init_12 : decode cX5_init 12 = .ok (.iconst (-1), 1) := by decide +kernel
theorem dX5_init_13 : decode cX5_init 13 = .ok (.putfield 15, 3) := by decide +kernel
theorem dX5_init_16 : decode cX5_init 16 = .ok (.aload_n 0, 1) := by decide +kernel
theorem dX5_init_17 : decode cX5_init 17 = .ok (.new 19, 3) := by decide +kernel
theorem dX5_init_20 : decode cX5_init 20 = .ok (.dup, 1) := by decide +kernel
theorem dX5_init_21 : decode cX5_init 21 = .ok (.aload_n 1, 1) := by decide +kernel
theorem dX5_init_22 : decode cX5_init 22 = .ok (.invokespecial 21, 3) := by decide +kernel
theorem dX5_init_25 : decode cX5_init 25 = .ok (.putfield 24, 3) := by decide +kernel
theorem dX5_init_28 : decode cX5_init 28 = .ok (.aload_n 0, 1) := by decide +kernel
theorem dX5_init_29 : decode cX5_init 29 = .ok (.aload_n 2, 1) := by decide +kernel
theorem dX5_init_30 : decode cX5_init 30 = .ok (.putfield 28, 3) := by decide +kernel
theorem dX5_init_33 : decode cX5_init 33 = .ok (.aload_n 0, 1) := by decide +kernel
theorem dX5_init_34 : decode cX5_init 34 = .ok (.aload_n 3, 1) := by decide +kernel
theorem dX5_init_35 : decode cX5_init 35 = .ok (.putfield 32, 3) := by decide +kernel
theorem dX5_init_38 : decode cX5_init 38 = .ok (.return_, 1) := by decide +kernel
theorem dX5_readBook_0 : decode cX5_readBook 0 = .ok (.aload_n 0, 1) := by decide +kernel
theorem dX5_readBook_1 : decode cX5_readBook 1 = .ok (.invokevirtual 36, 3) := by decide +kernel
theorem dX5_readBook_4 : decode cX5_readBook 4 = .ok (.aload_n 0, 1) := by decide +kernel
theorem dX5_readBook_5 : decode cX5_readBook 5 = .ok (.getfield 28, 3) := by decide +kernel
theorem dX5_readBook_8 : decode cX5_readBook 8 = .ok (.invokevirtual 39, 3) := by decide +kernel
theorem dX5_readBook_11 : decode cX5_readBook 11 = .ok (.aload_n 0, 1) := by decide +kernel
theorem dX5_readBook_12 : decode cX5_readBook 12 = .ok (.getfield 32, 3) := by decide +kernel
theorem dX5_readBook_15 : decode cX5_readBook 15 = .ok (.iconst 0, 1) := by decide +kernel
theorem dX5_readBook_16 : decode cX5_readBook 16 = .ok (.putfield 44, 3) := by decide +kernel
theorem dX5_readBook_19 : decode cX5_readBook 19 = .ok (.iconst 0, 1) := by decide +kernel
theorem dX5_readBook_20 : decode cX5_readBook 20 = .ok (.istore_n 1, 1) := by decide +kernel
theorem dX5_readBook_21 : decode cX5_readBook 21 = .ok (.iload_n 1, 1) := by decide +kernel
theorem dX5_readBook_22 : decode cX5_readBook 22 = .ok (.sipush 700, 3) := by decide +kernel
theorem dX5_readBook_25 : decode cX5_readBook 25 = .ok (.if_icmp .gt 47, 3) := by decide +kernel
theorem dX5_readBook_28 : decode cX5_readBook 28 = .ok (.aload_n 0, 1) := by decide +kernel
theorem dX5_readBook_29 : decode cX5_readBook 29 = .ok (.getfield 49, 3) := by decide +kernel
theorem dX5_readBook_32 : decode cX5_readBook 32 = .ok (.sipush 2003, 3) := by decide +kernel
theorem dX5_readBook_35 : decode cX5_readBook 35 = .ok (.if_icmp .eq 37, 3) := by decide +kernel
theorem dX5_readBook_38 : decode cX5_readBook 38 = .ok (.aload_n 0, 1) := by decide +kernel
theorem dX5_readBook_39 : decode cX5_readBook 39 = .ok (.invokevirtual 52, 3) := by decide +kernel
theorem dX5_readBook_42 : decode cX5_readBook 42 = .ok (.ifCond .ne 5, 3) := by decide +kernel
theorem dX5_readBook_45 : decode cX5_readBook 45 = .ok (.iconst 0, 1) := by decide +kernel
theorem dX5_readBook_46 : decode cX5_readBook 46 = .ok (.ireturn, 1) := by decide +kernel
theorem dX5_readBook_47 : decode cX5_readBook 47 = .ok (.aload_n 0, 1) := by decide +kernel
theorem dX5_readBook_48 : decode cX5_readBook 48 = .ok (.getfield 49, 3) := by decide +kernel
theorem dX5_readBook_51 : decode cX5_readBook 51 = .ok (.bipush 59, 2) := by decide +kernel
theorem dX5_readBook_53 : decode cX5_readBook 53 = .ok (.if_icmp .eq 9, 3) := by decide +kernel
theorem dX5_readBook_56 : decode cX5_readBook 56 = .ok (.aload_n 0, 1) := by decide +kernel
theorem dX5_readBook_57 : decode cX5_readBook 57 = .ok (.iconst 1, 1) := by decide +kernel
theorem dX5_readBook_58 : decode cX5_readBook 58 = .ok (.invokevirtual 56, 3) := by decide +kernel
theorem dX5_readBook_61 : decode cX5_readBook 61 = .ok (.ireturn, 1) := by decide +kernel
theorem dX5_readBook_62 : decode cX5_readBook 62 = .ok (.aload_n 0, 1) := by decide +kernel
theorem dX5_readBook_63 : decode cX5_readBook 63 = .ok (.invokevirtual 60, 3) := by decide +kernel
theorem dX5_readBook_66 : decode cX5_readBook 66 = .ok (.iinc 1 1, 3) := by decide +kernel
theorem dX5_readBook_69 : decode cX5_readBook 69 = .ok (.goto (-48), 3) := by decide +kernel
theorem dX5_readBook_72 : decode cX5_readBook 72 = .ok (.iconst 1, 1) := by decide +kernel
theorem dX5_readBook_73 : decode cX5_readBook 73 = .ok (.ireturn, 1) := by decide +kernel
theorem dX5_readJoiner_0 : decode cX5_readJoiner 0 = .ok (.aload_n 0, 1) := by decide +kernel
theorem dX5_readJoiner_1 : decode cX5_readJoiner 1 = .ok (.invokevirtual 36, 3) := by decide +kernel
theorem dX5_readJoiner_4 : decode cX5_readJoiner 4 = .ok (.aload_n 0, 1) := by decide +kernel
theorem dX5_readJoiner_5 : decode cX5_readJoiner 5 = .ok (.invokevirtual 63, 3) := by decide +kernel
theorem dX5_readJoiner_8 : decode cX5_readJoiner 8 = .ok (.ifCond .ne 5, 3) := by decide +kernel
theorem dX5_readJoiner_11 : decode cX5_readJoiner 11 = .ok (.iconst 0, 1) := by decide +kernel
theorem dX5_readJoiner_12 : decode cX5_readJoiner 12 = .ok (.ireturn, 1) := by decide +kernel
theorem dX5_readJoiner_13 : decode cX5_readJoiner 13 = .ok (.iconst 0, 1) := by decide +kernel
theorem dX5_readJoiner_14 : decode cX5_readJoiner 14 = .ok (.istore_n 1, 1) := by decide +kernel
theorem dX5_readJoiner_15 : decode cX5_readJoiner 15 = .ok (.iload_n 1, 1) := by decide +kernel
theorem dX5_readJoiner_16 : decode cX5_readJoiner 16 = .ok (.bipush 24, 2) := by decide +kernel
theorem dX5_readJoiner_18 : decode cX5_readJoiner 18 = .ok (.if_icmp .gt 54, 3) := by decide +kernel
theorem dX5_readJoiner_21 : decode cX5_readJoiner 21 = .ok (.aload_n 0, 1) := by decide +kernel
theorem dX5_readJoiner_22 : decode cX5_readJoiner 22 = .ok (.getfield 49, 3) := by decide +kernel
theorem dX5_readJoiner_25 : decode cX5_readJoiner 25 = .ok (.sipush 2003, 3) := by decide +kernel
theorem dX5_readJoiner_28 : decode cX5_readJoiner 28 = .ok (.if_icmp .eq 44, 3) := by decide +kernel
theorem dX5_readJoiner_31 : decode cX5_readJoiner 31 = .ok (.aload_n 0, 1) := by decide +kernel
theorem dX5_readJoiner_32 : decode cX5_readJoiner 32 = .ok (.getfield 28, 3) := by decide +kernel
theorem dX5_readJoiner_35 : decode cX5_readJoiner 35 = .ok (.getfield 66, 3) := by decide +kernel
theorem dX5_readJoiner_38 : decode cX5_readJoiner 38 = .ok (.bipush 24, 2) := by decide +kernel
theorem dX5_readJoiner_40 : decode cX5_readJoiner 40 = .ok (.if_icmp .lt 8, 3) := by decide +kernel
theorem dX5_readJoiner_43 : decode cX5_readJoiner 43 = .ok (.aload_n 0, 1) := by decide +kernel
theorem dX5_readJoiner_44 : decode cX5_readJoiner 44 = .ok (.invokevirtual 69, 3) := by decide +kernel
theorem dX5_readJoiner_47 : decode cX5_readJoiner 47 = .ok (.ireturn, 1) := by decide +kernel
theorem dX5_readJoiner_48 : decode cX5_readJoiner 48 = .ok (.aload_n 0, 1) := by decide +kernel
theorem dX5_readJoiner_49 : decode cX5_readJoiner 49 = .ok (.aload_n 0, 1) := by decide +kernel
theorem dX5_readJoiner_50 : decode cX5_readJoiner 50 = .ok (.getfield 28, 3) := by decide +kernel
theorem dX5_readJoiner_53 : decode cX5_readJoiner 53 = .ok (.getfield 72, 3) := by decide +kernel
theorem dX5_readJoiner_56 : decode cX5_readJoiner 56 = .ok (.iconst 1, 1) := by decide +kernel
theorem dX5_readJoiner_57 : decode cX5_readJoiner 57 = .ok (.isub, 1) := by decide +kernel
theorem dX5_readJoiner_58 : decode cX5_readJoiner 58 = .ok (.invokevirtual 75, 3) := by decide +kernel
theorem dX5_readJoiner_61 : decode cX5_readJoiner 61 = .ok (.ifCond .ne 5, 3) := by decide +kernel
theorem dX5_readJoiner_64 : decode cX5_readJoiner 64 = .ok (.iconst 0, 1) := by decide +kernel
theorem dX5_readJoiner_65 : decode cX5_readJoiner 65 = .ok (.ireturn, 1) := by decide +kernel
theorem dX5_readJoiner_66 : decode cX5_readJoiner 66 = .ok (.iinc 1 1, 3) := by decide +kernel
theorem dX5_readJoiner_69 : decode cX5_readJoiner 69 = .ok (.goto (-54), 3) := by decide +kernel
theorem dX5_readJoiner_72 : decode cX5_readJoiner 72 = .ok (.iconst 1, 1) := by decide +kernel
theorem dX5_readJoiner_73 : decode cX5_readJoiner 73 = .ok (.ireturn, 1) := by decide +kernel
theorem dX5_readLoneName_0 : decode cX5_readLoneName 0 = .ok (.aload_n 0, 1) := by decide +kernel
theorem dX5_readLoneName_1 : decode cX5_readLoneName 1 = .ok (.getfield 24, 3) := by decide +kernel
theorem dX5_readLoneName_4 : decode cX5_readLoneName 4 = .ok (.invokevirtual 78, 3) := by decide +kernel
theorem dX5_readLoneName_7 : decode cX5_readLoneName 7 = .ok (.aload_n 0, 1) := by decide +kernel
theorem dX5_readLoneName_8 : decode cX5_readLoneName 8 = .ok (.getfield 24, 3) := by decide +kernel
theorem dX5_readLoneName_11 : decode cX5_readLoneName 11 = .ok (.getfield 81, 3) := by decide +kernel
theorem dX5_readLoneName_14 : decode cX5_readLoneName 14 = .ok (.iconst 2, 1) := by decide +kernel
theorem dX5_readLoneName_15 : decode cX5_readLoneName 15 = .ok (.if_icmp .ne 22, 3) := by decide +kernel
theorem dX5_readLoneName_18 : decode cX5_readLoneName 18 = .ok (.aload_n 0, 1) := by decide +kernel
theorem dX5_readLoneName_19 : decode cX5_readLoneName 19 = .ok (.getfield 24, 3) := by decide +kernel
theorem dX5_readLoneName_22 : decode cX5_readLoneName 22 = .ok (.getfield 84, 3) := by decide +kernel
theorem dX5_readLoneName_25 : decode cX5_readLoneName 25 = .ok (.iconst 0, 1) := by decide +kernel
theorem dX5_readLoneName_26 : decode cX5_readLoneName 26 = .ok (.iaload, 1) := by decide +kernel
theorem dX5_readLoneName_27 : decode cX5_readLoneName 27 = .ok (.sipush 2000, 3) := by decide +kernel
theorem dX5_readLoneName_30 : decode cX5_readLoneName 30 = .ok (.if_icmp .ne 7, 3) := by decide +kernel
theorem dX5_readLoneName_33 : decode cX5_readLoneName 33 = .ok (.iconst 1, 1) := by decide +kernel
theorem dX5_readLoneName_34 : decode cX5_readLoneName 34 = .ok (.goto 4, 3) := by decide +kernel
theorem dX5_readLoneName_37 : decode cX5_readLoneName 37 = .ok (.iconst 0, 1) := by decide +kernel
theorem dX5_readLoneName_38 : decode cX5_readLoneName 38 = .ok (.istore_n 1, 1) := by decide +kernel
theorem dX5_readLoneName_39 : decode cX5_readLoneName 39 = .ok (.iload_n 1, 1) := by decide +kernel
theorem dX5_readLoneName_40 : decode cX5_readLoneName 40 = .ok (.ifCond .eq 15, 3) := by decide +kernel
theorem dX5_readLoneName_43 : decode cX5_readLoneName 43 = .ok (.aload_n 0, 1) := by decide +kernel
theorem dX5_readLoneName_44 : decode cX5_readLoneName 44 = .ok (.getfield 24, 3) := by decide +kernel
theorem dX5_readLoneName_47 : decode cX5_readLoneName 47 = .ok (.getfield 87, 3) := by decide +kernel
theorem dX5_readLoneName_50 : decode cX5_readLoneName 50 = .ok (.iconst 0, 1) := by decide +kernel
theorem dX5_readLoneName_51 : decode cX5_readLoneName 51 = .ok (.laload, 1) := by decide +kernel
theorem dX5_readLoneName_52 : decode cX5_readLoneName 52 = .ok (.goto 4, 3) := by decide +kernel
theorem dX5_readLoneName_55 : decode cX5_readLoneName 55 = .ok (.lconst 0, 1) := by decide +kernel
theorem dX5_readLoneName_56 : decode cX5_readLoneName 56 = .ok (.lreturn, 1) := by decide +kernel
theorem dX5_begin_0 : decode cX5_begin 0 = .ok (.aload_n 0, 1) := by decide +kernel
theorem dX5_begin_1 : decode cX5_begin 1 = .ok (.getfield 24, 3) := by decide +kernel
theorem dX5_begin_4 : decode cX5_begin 4 = .ok (.invokevirtual 78, 3) := by decide +kernel
theorem dX5_begin_7 : decode cX5_begin 7 = .ok (.aload_n 0, 1) := by decide +kernel
theorem dX5_begin_8 : decode cX5_begin 8 = .ok (.iconst 0, 1) := by decide +kernel
theorem dX5_begin_9 : decode cX5_begin 9 = .ok (.putfield 91, 3) := by decide +kernel
theorem dX5_begin_12 : decode cX5_begin 12 = .ok (.aload_n 0, 1) := by decide +kernel
theorem dX5_begin_13 : decode cX5_begin 13 = .ok (.iconst (-1), 1) := by decide +kernel
theorem dX5_begin_14 : decode cX5_begin 14 = .ok (.putfield 15, 3) := by decide +kernel
theorem dX5_begin_17 : decode cX5_begin 17 = .ok (.aload_n 0, 1) := by decide +kernel
theorem dX5_begin_18 : decode cX5_begin 18 = .ok (.iconst 0, 1) := by decide +kernel
theorem dX5_begin_19 : decode cX5_begin 19 = .ok (.putfield 94, 3) := by decide +kernel
theorem dX5_begin_22 : decode cX5_begin 22 = .ok (.aload_n 0, 1) := by decide +kernel
theorem dX5_begin_23 : decode cX5_begin 23 = .ok (.iconst (-1), 1) := by decide +kernel
theorem dX5_begin_24 : decode cX5_begin 24 = .ok (.putfield 97, 3) := by decide +kernel
theorem dX5_begin_27 : decode cX5_begin 27 = .ok (.aload_n 0, 1) := by decide +kernel
theorem dX5_begin_28 : decode cX5_begin 28 = .ok (.invokevirtual 60, 3) := by decide +kernel
theorem dX5_begin_31 : decode cX5_begin 31 = .ok (.return_, 1) := by decide +kernel
theorem dX5_step_0 : decode cX5_step 0 = .ok (.aload_n 0, 1) := by decide +kernel
theorem dX5_step_1 : decode cX5_step 1 = .ok (.getfield 97, 3) := by decide +kernel
theorem dX5_step_4 : decode cX5_step 4 = .ok (.iconst 1, 1) := by decide +kernel
theorem dX5_step_5 : decode cX5_step 5 = .ok (.iadd, 1) := by decide +kernel
theorem dX5_step_6 : decode cX5_step 6 = .ok (.aload_n 0, 1) := by decide +kernel
theorem dX5_step_7 : decode cX5_step 7 = .ok (.getfield 24, 3) := by decide +kernel
theorem dX5_step_10 : decode cX5_step 10 = .ok (.getfield 81, 3) := by decide +kernel
theorem dX5_step_13 : decode cX5_step 13 = .ok (.if_icmp .ge 61, 3) := by decide +kernel
theorem dX5_step_16 : decode cX5_step 16 = .ok (.aload_n 0, 1) := by decide +kernel
theorem dX5_step_17 : decode cX5_step 17 = .ok (.dup, 1) := by decide +kernel
theorem dX5_step_18 : decode cX5_step 18 = .ok (.getfield 97, 3) := by decide +kernel
theorem dX5_step_21 : decode cX5_step 21 = .ok (.iconst 1, 1) := by decide +kernel
theorem dX5_step_22 : decode cX5_step 22 = .ok (.iadd, 1) := by decide +kernel
theorem dX5_step_23 : decode cX5_step 23 = .ok (.putfield 97, 3) := by decide +kernel
theorem dX5_step_26 : decode cX5_step 26 = .ok (.aload_n 0, 1) := by decide +kernel
theorem dX5_step_27 : decode cX5_step 27 = .ok (.aload_n 0, 1) := by decide +kernel
theorem dX5_step_28 : decode cX5_step 28 = .ok (.getfield 24, 3) := by decide +kernel
theorem dX5_step_31 : decode cX5_step 31 = .ok (.getfield 84, 3) := by decide +kernel
theorem dX5_step_34 : decode cX5_step 34 = .ok (.aload_n 0, 1) := by decide +kernel
theorem dX5_step_35 : decode cX5_step 35 = .ok (.getfield 97, 3) := by decide +kernel
theorem dX5_step_38 : decode cX5_step 38 = .ok (.iaload, 1) := by decide +kernel
theorem dX5_step_39 : decode cX5_step 39 = .ok (.putfield 49, 3) := by decide +kernel
theorem dX5_step_42 : decode cX5_step 42 = .ok (.aload_n 0, 1) := by decide +kernel
theorem dX5_step_43 : decode cX5_step 43 = .ok (.aload_n 0, 1) := by decide +kernel
theorem dX5_step_44 : decode cX5_step 44 = .ok (.getfield 24, 3) := by decide +kernel
theorem dX5_step_47 : decode cX5_step 47 = .ok (.getfield 100, 3) := by decide +kernel
theorem dX5_step_50 : decode cX5_step 50 = .ok (.aload_n 0, 1) := by decide +kernel
theorem dX5_step_51 : decode cX5_step 51 = .ok (.getfield 97, 3) := by decide +kernel
theorem dX5_step_54 : decode cX5_step 54 = .ok (.iaload, 1) := by decide +kernel
theorem dX5_step_55 : decode cX5_step 55 = .ok (.putfield 103, 3) := by decide +kernel
theorem dX5_step_58 : decode cX5_step 58 = .ok (.aload_n 0, 1) := by decide +kernel
theorem dX5_step_59 : decode cX5_step 59 = .ok (.aload_n 0, 1) := by decide +kernel
theorem dX5_step_60 : decode cX5_step 60 = .ok (.getfield 24, 3) := by decide +kernel
theorem dX5_step_63 : decode cX5_step 63 = .ok (.getfield 87, 3) := by decide +kernel
theorem dX5_step_66 : decode cX5_step 66 = .ok (.aload_n 0, 1) := by decide +kernel
theorem dX5_step_67 : decode cX5_step 67 = .ok (.getfield 97, 3) := by decide +kernel
theorem dX5_step_70 : decode cX5_step 70 = .ok (.laload, 1) := by decide +kernel
theorem dX5_step_71 : decode cX5_step 71 = .ok (.putfield 106, 3) := by decide +kernel
theorem dX5_step_74 : decode cX5_step 74 = .ok (.return_, 1) := by decide +kernel
theorem dX5_refuse_0 : decode cX5_refuse 0 = .ok (.aload_n 0, 1) := by decide +kernel
theorem dX5_refuse_1 : decode cX5_refuse 1 = .ok (.iload_n 1, 1) := by decide +kernel
theorem dX5_refuse_2 : decode cX5_refuse 2 = .ok (.putfield 91, 3) := by decide +kernel
theorem dX5_refuse_5 : decode cX5_refuse 5 = .ok (.aload_n 0, 1) := by decide +kernel
theorem dX5_refuse_6 : decode cX5_refuse 6 = .ok (.aload_n 0, 1) := by decide +kernel
theorem dX5_refuse_7 : decode cX5_refuse 7 = .ok (.getfield 103, 3) := by decide +kernel
theorem dX5_refuse_10 : decode cX5_refuse 10 = .ok (.putfield 15, 3) := by decide +kernel
theorem dX5_refuse_13 : decode cX5_refuse 13 = .ok (.iconst 0, 1) := by decide +kernel
theorem dX5_refuse_14 : decode cX5_refuse 14 = .ok (.ireturn, 1) := by decide +kernel
theorem dX5_readLine_0 : decode cX5_readLine 0 = .ok (.aload_n 0, 1) := by decide +kernel
theorem dX5_readLine_1 : decode cX5_readLine 1 = .ok (.getfield 49, 3) := by decide +kernel
theorem dX5_readLine_4 : decode cX5_readLine 4 = .ok (.tableswitch 121 1000 1010 #[60, 65, 70, 75, 80, 86, 92, 98, 103, 109, 116], 60) := by decide +kernel
theorem dX5_readLine_64 : decode cX5_readLine 64 = .ok (.aload_n 0, 1) := by decide +kernel
theorem dX5_readLine_65 : decode cX5_readLine 65 = .ok (.invokevirtual 110, 3) := by decide +kernel
theorem dX5_readLine_68 : decode cX5_readLine 68 = .ok (.ireturn, 1) := by decide +kernel
theorem dX5_readLine_69 : decode cX5_readLine 69 = .ok (.aload_n 0, 1) := by decide +kernel
theorem dX5_readLine_70 : decode cX5_readLine 70 = .ok (.invokevirtual 113, 3) := by decide +kernel
theorem dX5_readLine_73 : decode cX5_readLine 73 = .ok (.ireturn, 1) := by decide +kernel
theorem dX5_readLine_74 : decode cX5_readLine 74 = .ok (.aload_n 0, 1) := by decide +kernel
theorem dX5_readLine_75 : decode cX5_readLine 75 = .ok (.invokevirtual 116, 3) := by decide +kernel
theorem dX5_readLine_78 : decode cX5_readLine 78 = .ok (.ireturn, 1) := by decide +kernel
theorem dX5_readLine_79 : decode cX5_readLine 79 = .ok (.aload_n 0, 1) := by decide +kernel
theorem dX5_readLine_80 : decode cX5_readLine 80 = .ok (.invokevirtual 119, 3) := by decide +kernel
theorem dX5_readLine_83 : decode cX5_readLine 83 = .ok (.ireturn, 1) := by decide +kernel
theorem dX5_readLine_84 : decode cX5_readLine 84 = .ok (.aload_n 0, 1) := by decide +kernel
theorem dX5_readLine_85 : decode cX5_readLine 85 = .ok (.iconst 0, 1) := by decide +kernel
theorem dX5_readLine_86 : decode cX5_readLine 86 = .ok (.invokevirtual 122, 3) := by decide +kernel
theorem dX5_readLine_89 : decode cX5_readLine 89 = .ok (.ireturn, 1) := by decide +kernel
theorem dX5_readLine_90 : decode cX5_readLine 90 = .ok (.aload_n 0, 1) := by decide +kernel
theorem dX5_readLine_91 : decode cX5_readLine 91 = .ok (.iconst 1, 1) := by decide +kernel
theorem dX5_readLine_92 : decode cX5_readLine 92 = .ok (.invokevirtual 122, 3) := by decide +kernel
theorem dX5_readLine_95 : decode cX5_readLine 95 = .ok (.ireturn, 1) := by decide +kernel
theorem dX5_readLine_96 : decode cX5_readLine 96 = .ok (.aload_n 0, 1) := by decide +kernel
theorem dX5_readLine_97 : decode cX5_readLine 97 = .ok (.iconst 2, 1) := by decide +kernel
theorem dX5_readLine_98 : decode cX5_readLine 98 = .ok (.invokevirtual 122, 3) := by decide +kernel
theorem dX5_readLine_101 : decode cX5_readLine 101 = .ok (.ireturn, 1) := by decide +kernel
theorem dX5_readLine_102 : decode cX5_readLine 102 = .ok (.aload_n 0, 1) := by decide +kernel
theorem dX5_readLine_103 : decode cX5_readLine 103 = .ok (.invokevirtual 125, 3) := by decide +kernel
theorem dX5_readLine_106 : decode cX5_readLine 106 = .ok (.ireturn, 1) := by decide +kernel
theorem dX5_readLine_107 : decode cX5_readLine 107 = .ok (.aload_n 0, 1) := by decide +kernel
theorem dX5_readLine_108 : decode cX5_readLine 108 = .ok (.iconst 5, 1) := by decide +kernel
theorem dX5_readLine_109 : decode cX5_readLine 109 = .ok (.invokevirtual 122, 3) := by decide +kernel
theorem dX5_readLine_112 : decode cX5_readLine 112 = .ok (.ireturn, 1) := by decide +kernel
theorem dX5_readLine_113 : decode cX5_readLine 113 = .ok (.aload_n 0, 1) := by decide +kernel
theorem dX5_readLine_114 : decode cX5_readLine 114 = .ok (.bipush 6, 2) := by decide +kernel
theorem dX5_readLine_116 : decode cX5_readLine 116 = .ok (.invokevirtual 122, 3) := by decide +kernel
theorem dX5_readLine_119 : decode cX5_readLine 119 = .ok (.ireturn, 1) := by decide +kernel
theorem dX5_readLine_120 : decode cX5_readLine 120 = .ok (.aload_n 0, 1) := by decide +kernel
theorem dX5_readLine_121 : decode cX5_readLine 121 = .ok (.invokevirtual 128, 3) := by decide +kernel
theorem dX5_readLine_124 : decode cX5_readLine 124 = .ok (.ireturn, 1) := by decide +kernel
theorem dX5_readLine_125 : decode cX5_readLine 125 = .ok (.aload_n 0, 1) := by decide +kernel
theorem dX5_readLine_126 : decode cX5_readLine 126 = .ok (.iconst 1, 1) := by decide +kernel
theorem dX5_readLine_127 : decode cX5_readLine 127 = .ok (.invokevirtual 56, 3) := by decide +kernel
theorem dX5_readLine_130 : decode cX5_readLine 130 = .ok (.ireturn, 1) := by decide +kernel
theorem dX5_readMember_0 : decode cX5_readMember 0 = .ok (.aload_n 0, 1) := by decide +kernel
theorem dX5_readMember_1 : decode cX5_readMember 1 = .ok (.getfield 28, 3) := by decide +kernel
theorem dX5_readMember_4 : decode cX5_readMember 4 = .ok (.getfield 72, 3) := by decide +kernel
theorem dX5_readMember_7 : decode cX5_readMember 7 = .ok (.bipush 12, 2) := by decide +kernel
theorem dX5_readMember_9 : decode cX5_readMember 9 = .ok (.if_icmp .lt 9, 3) := by decide +kernel
theorem dX5_readMember_12 : decode cX5_readMember 12 = .ok (.aload_n 0, 1) := by decide +kernel
theorem dX5_readMember_13 : decode cX5_readMember 13 = .ok (.iconst 5, 1) := by decide +kernel
theorem dX5_readMember_14 : decode cX5_readMember 14 = .ok (.invokevirtual 56, 3) := by decide +kernel
theorem dX5_readMember_17 : decode cX5_readMember 17 = .ok (.ireturn, 1) := by decide +kernel
theorem dX5_readMember_18 : decode cX5_readMember 18 = .ok (.aload_n 0, 1) := by decide +kernel
theorem dX5_readMember_19 : decode cX5_readMember 19 = .ok (.invokevirtual 60, 3) := by decide +kernel
theorem dX5_readMember_22 : decode cX5_readMember 22 = .ok (.aload_n 0, 1) := by decide +kernel
theorem dX5_readMember_23 : decode cX5_readMember 23 = .ok (.invokevirtual 63, 3) := by decide +kernel
theorem dX5_readMember_26 : decode cX5_readMember 26 = .ok (.ireturn, 1) := by decide +kernel
theorem dX5_readNewName_0 : decode cX5_readNewName 0 = .ok (.aload_n 0, 1) := by decide +kernel
theorem dX5_readNewName_1 : decode cX5_readNewName 1 = .ok (.getfield 49, 3) := by decide +kernel
theorem dX5_readNewName_4 : decode cX5_readNewName 4 = .ok (.sipush 2000, 3) := by decide +kernel
theorem dX5_readNewName_7 : decode cX5_readNewName 7 = .ok (.if_icmp .eq 9, 3) := by decide +kernel
theorem dX5_readNewName_10 : decode cX5_readNewName 10 = .ok (.aload_n 0, 1) := by decide +kernel
theorem dX5_readNewName_11 : decode cX5_readNewName 11 = .ok (.iconst 1, 1) := by decide +kernel
theorem dX5_readNewName_12 : decode cX5_readNewName 12 = .ok (.invokevirtual 56, 3) := by decide +kernel
theorem dX5_readNewName_15 : decode cX5_readNewName 15 = .ok (.ireturn, 1) := by decide +kernel
theorem dX5_readNewName_16 : decode cX5_readNewName 16 = .ok (.aload_n 0, 1) := by decide +kernel
theorem dX5_readNewName_17 : decode cX5_readNewName 17 = .ok (.getfield 28, 3) := by decide +kernel
theorem dX5_readNewName_20 : decode cX5_readNewName 20 = .ok (.aload_n 0, 1) := by decide +kernel
theorem dX5_readNewName_21 : decode cX5_readNewName 21 = .ok (.getfield 106, 3) := by decide +kernel
theorem dX5_readNewName_24 : decode cX5_readNewName 24 = .ok (.invokevirtual 131, 3) := by decide +kernel
theorem dX5_readNewName_27 : decode cX5_readNewName 27 = .ok (.iconst (-1), 1) := by decide +kernel
theorem dX5_readNewName_28 : decode cX5_readNewName 28 = .ok (.if_icmp .eq 9, 3) := by decide +kernel
theorem dX5_readNewName_31 : decode cX5_readNewName 31 = .ok (.aload_n 0, 1) := by decide +kernel
theorem dX5_readNewName_32 : decode cX5_readNewName 32 = .ok (.iconst 2, 1) := by decide +kernel
theorem dX5_readNewName_33 : decode cX5_readNewName 33 = .ok (.invokevirtual 56, 3) := by decide +kernel
theorem dX5_readNewName_36 : decode cX5_readNewName 36 = .ok (.ireturn, 1) := by decide +kernel
theorem dX5_readNewName_37 : decode cX5_readNewName 37 = .ok (.aload_n 0, 1) := by decide +kernel
theorem dX5_readNewName_38 : decode cX5_readNewName 38 = .ok (.getfield 28, 3) := by decide +kernel
theorem dX5_readNewName_41 : decode cX5_readNewName 41 = .ok (.getfield 72, 3) := by decide +kernel
theorem dX5_readNewName_44 : decode cX5_readNewName 44 = .ok (.bipush 12, 2) := by decide +kernel
theorem dX5_readNewName_46 : decode cX5_readNewName 46 = .ok (.if_icmp .lt 9, 3) := by decide +kernel
theorem dX5_readNewName_49 : decode cX5_readNewName 49 = .ok (.aload_n 0, 1) := by decide +kernel
theorem dX5_readNewName_50 : decode cX5_readNewName 50 = .ok (.iconst 5, 1) := by decide +kernel
theorem dX5_readNewName_51 : decode cX5_readNewName 51 = .ok (.invokevirtual 56, 3) := by decide +kernel
theorem dX5_readNewName_54 : decode cX5_readNewName 54 = .ok (.ireturn, 1) := by decide +kernel
theorem dX5_readNewName_55 : decode cX5_readNewName 55 = .ok (.aload_n 0, 1) := by decide +kernel
theorem dX5_readNewName_56 : decode cX5_readNewName 56 = .ok (.getfield 28, 3) := by decide +kernel
theorem dX5_readNewName_59 : decode cX5_readNewName 59 = .ok (.aload_n 0, 1) := by decide +kernel
theorem dX5_readNewName_60 : decode cX5_readNewName 60 = .ok (.getfield 106, 3) := by decide +kernel
theorem dX5_readNewName_63 : decode cX5_readNewName 63 = .ok (.invokevirtual 135, 3) := by decide +kernel
theorem dX5_readNewName_66 : decode cX5_readNewName 66 = .ok (.aload_n 0, 1) := by decide +kernel
theorem dX5_readNewName_67 : decode cX5_readNewName 67 = .ok (.invokevirtual 60, 3) := by decide +kernel
theorem dX5_readNewName_70 : decode cX5_readNewName 70 = .ok (.iconst 1, 1) := by decide +kernel
theorem dX5_readNewName_71 : decode cX5_readNewName 71 = .ok (.ireturn, 1) := by decide +kernel
theorem dX5_readField_0 : decode cX5_readField 0 = .ok (.aload_n 0, 1) := by decide +kernel
theorem dX5_readField_1 : decode cX5_readField 1 = .ok (.getfield 28, 3) := by decide +kernel
theorem dX5_readField_4 : decode cX5_readField 4 = .ok (.getfield 66, 3) := by decide +kernel
theorem dX5_readField_7 : decode cX5_readField 7 = .ok (.bipush 24, 2) := by decide +kernel
theorem dX5_readField_9 : decode cX5_readField 9 = .ok (.if_icmp .lt 9, 3) := by decide +kernel
theorem dX5_readField_12 : decode cX5_readField 12 = .ok (.aload_n 0, 1) := by decide +kernel
theorem dX5_readField_13 : decode cX5_readField 13 = .ok (.iconst 5, 1) := by decide +kernel
theorem dX5_readField_14 : decode cX5_readField 14 = .ok (.invokevirtual 56, 3) := by decide +kernel
theorem dX5_readField_17 : decode cX5_readField 17 = .ok (.ireturn, 1) := by decide +kernel
theorem dX5_readField_18 : decode cX5_readField 18 = .ok (.aload_n 0, 1) := by decide +kernel
theorem dX5_readField_19 : decode cX5_readField 19 = .ok (.invokevirtual 60, 3) := by decide +kernel
theorem dX5_readField_22 : decode cX5_readField 22 = .ok (.aload_n 0, 1) := by decide +kernel
theorem dX5_readField_23 : decode cX5_readField 23 = .ok (.getfield 49, 3) := by decide +kernel
theorem dX5_readField_26 : decode cX5_readField 26 = .ok (.sipush 2000, 3) := by decide +kernel
theorem dX5_readField_29 : decode cX5_readField 29 = .ok (.if_icmp .eq 9, 3) := by decide +kernel
theorem dX5_readField_32 : decode cX5_readField 32 = .ok (.aload_n 0, 1) := by decide +kernel
theorem dX5_readField_33 : decode cX5_readField 33 = .ok (.iconst 1, 1) := by decide +kernel
theorem dX5_readField_34 : decode cX5_readField 34 = .ok (.invokevirtual 56, 3) := by decide +kernel
theorem dX5_readField_37 : decode cX5_readField 37 = .ok (.ireturn, 1) := by decide +kernel
theorem dX5_readField_38 : decode cX5_readField 38 = .ok (.aload_n 0, 1) := by decide +kernel
theorem dX5_readField_39 : decode cX5_readField 39 = .ok (.getfield 28, 3) := by decide +kernel
theorem dX5_readField_42 : decode cX5_readField 42 = .ok (.aload_n 0, 1) := by decide +kernel
theorem dX5_readField_43 : decode cX5_readField 43 = .ok (.getfield 106, 3) := by decide +kernel
theorem dX5_readField_46 : decode cX5_readField 46 = .ok (.invokevirtual 131, 3) := by decide +kernel
theorem dX5_readField_49 : decode cX5_readField 49 = .ok (.istore_n 1, 1) := by decide +kernel
theorem dX5_readField_50 : decode cX5_readField 50 = .ok (.iload_n 1, 1) := by decide +kernel
theorem dX5_readField_51 : decode cX5_readField 51 = .ok (.iconst (-1), 1) := by decide +kernel
theorem dX5_readField_52 : decode cX5_readField 52 = .ok (.if_icmp .ne 9, 3) := by decide +kernel
theorem dX5_readField_55 : decode cX5_readField 55 = .ok (.aload_n 0, 1) := by decide +kernel
theorem dX5_readField_56 : decode cX5_readField 56 = .ok (.iconst 3, 1) := by decide +kernel
theorem dX5_readField_57 : decode cX5_readField 57 = .ok (.invokevirtual 56, 3) := by decide +kernel
theorem dX5_readField_60 : decode cX5_readField 60 = .ok (.ireturn, 1) := by decide +kernel
theorem dX5_readField_61 : decode cX5_readField 61 = .ok (.aload_n 0, 1) := by decide +kernel
theorem dX5_readField_62 : decode cX5_readField 62 = .ok (.invokevirtual 60, 3) := by decide +kernel
theorem dX5_readField_65 : decode cX5_readField 65 = .ok (.aload_n 0, 1) := by decide +kernel
theorem dX5_readField_66 : decode cX5_readField 66 = .ok (.iload_n 1, 1) := by decide +kernel
theorem dX5_readField_67 : decode cX5_readField 67 = .ok (.invokevirtual 75, 3) := by decide +kernel
theorem dX5_readField_70 : decode cX5_readField 70 = .ok (.ireturn, 1) := by decide +kernel
theorem dX5_readLand_0 : decode cX5_readLand 0 = .ok (.aload_n 0, 1) := by decide +kernel
theorem dX5_readLand_1 : decode cX5_readLand 1 = .ok (.iconst 0, 1) := by decide +kernel
theorem dX5_readLand_2 : decode cX5_readLand 2 = .ok (.iconst 0, 1) := by decide +kernel
theorem dX5_readLand_3 : decode cX5_readLand 3 = .ok (.bipush 7, 2) := by decide +kernel
theorem dX5_readLand_5 : decode cX5_readLand 5 = .ok (.invokevirtual 139, 3) := by decide +kernel
theorem dX5_readLand_8 : decode cX5_readLand 8 = .ok (.ifCond .eq 51, 3) := by decide +kernel
theorem dX5_readLand_11 : decode cX5_readLand 11 = .ok (.aload_n 0, 1) := by decide +kernel
theorem dX5_readLand_12 : decode cX5_readLand 12 = .ok (.iconst 1, 1) := by decide +kernel
theorem dX5_readLand_13 : decode cX5_readLand 13 = .ok (.iconst 0, 1) := by decide +kernel
theorem dX5_readLand_14 : decode cX5_readLand 14 = .ok (.bipush 7, 2) := by decide +kernel
theorem dX5_readLand_16 : decode cX5_readLand 16 = .ok (.invokevirtual 139, 3) := by decide +kernel
theorem dX5_readLand_19 : decode cX5_readLand 19 = .ok (.ifCond .eq 40, 3) := by decide +kernel
theorem dX5_readLand_22 : decode cX5_readLand 22 = .ok (.aload_n 0, 1) := by decide +kernel
theorem dX5_readLand_23 : decode cX5_readLand 23 = .ok (.iconst 2, 1) := by decide +kernel
theorem dX5_readLand_24 : decode cX5_readLand 24 = .ok (.iconst 0, 1) := by decide +kernel
theorem dX5_readLand_25 : decode cX5_readLand 25 = .ok (.iconst 3, 1) := by decide +kernel
theorem dX5_readLand_26 : decode cX5_readLand 26 = .ok (.invokevirtual 139, 3) := by decide +kernel
theorem dX5_readLand_29 : decode cX5_readLand 29 = .ok (.ifCond .eq 30, 3) := by decide +kernel
theorem dX5_readLand_32 : decode cX5_readLand 32 = .ok (.aload_n 0, 1) := by decide +kernel
theorem dX5_readLand_33 : decode cX5_readLand 33 = .ok (.iconst 3, 1) := by decide +kernel
theorem dX5_readLand_34 : decode cX5_readLand 34 = .ok (.iconst 1, 1) := by decide +kernel
theorem dX5_readLand_35 : decode cX5_readLand 35 = .ok (.bipush 99, 2) := by decide +kernel
theorem dX5_readLand_37 : decode cX5_readLand 37 = .ok (.invokevirtual 139, 3) := by decide +kernel
theorem dX5_readLand_40 : decode cX5_readLand 40 = .ok (.ifCond .eq 19, 3) := by decide +kernel
theorem dX5_readLand_43 : decode cX5_readLand 43 = .ok (.aload_n 0, 1) := by decide +kernel
theorem dX5_readLand_44 : decode cX5_readLand 44 = .ok (.iconst 4, 1) := by decide +kernel
theorem dX5_readLand_45 : decode cX5_readLand 45 = .ok (.iconst 1, 1) := by decide +kernel
theorem dX5_readLand_46 : decode cX5_readLand 46 = .ok (.sipush 999, 3) := by decide +kernel
theorem dX5_readLand_49 : decode cX5_readLand 49 = .ok (.invokevirtual 139, 3) := by decide +kernel
theorem dX5_readLand_52 : decode cX5_readLand 52 = .ok (.ifCond .eq 7, 3) := by decide +kernel
theorem dX5_readLand_55 : decode cX5_readLand 55 = .ok (.iconst 1, 1) := by decide +kernel
theorem dX5_readLand_56 : decode cX5_readLand 56 = .ok (.goto 4, 3) := by decide +kernel
theorem dX5_readLand_59 : decode cX5_readLand 59 = .ok (.iconst 0, 1) := by decide +kernel
theorem dX5_readLand_60 : decode cX5_readLand 60 = .ok (.istore_n 2, 1) := by decide +kernel
theorem dX5_readLand_61 : decode cX5_readLand 61 = .ok (.iload_n 2, 1) := by decide +kernel
theorem dX5_readLand_62 : decode cX5_readLand 62 = .ok (.ifCond .eq 48, 3) := by decide +kernel
theorem dX5_readLand_65 : decode cX5_readLand 65 = .ok (.aload_n 0, 1) := by decide +kernel
theorem dX5_readLand_66 : decode cX5_readLand 66 = .ok (.getfield 28, 3) := by decide +kernel
theorem dX5_readLand_69 : decode cX5_readLand 69 = .ok (.new 143, 3) := by decide +kernel
theorem dX5_readLand_72 : decode cX5_readLand 72 = .ok (.dup, 1) := by decide +kernel
theorem dX5_readLand_73 : decode cX5_readLand 73 = .ok (.iload_n 1, 1) := by decide +kernel
theorem dX5_readLand_74 : decode cX5_readLand 74 = .ok (.aload_n 0, 1) := by decide +kernel
theorem dX5_readLand_75 : decode cX5_readLand 75 = .ok (.getfield 9, 3) := by decide +kernel
theorem dX5_readLand_78 : decode cX5_readLand 78 = .ok (.iconst 0, 1) := by decide +kernel
theorem dX5_readLand_79 : decode cX5_readLand 79 = .ok (.iaload, 1) := by decide +kernel
theorem dX5_readLand_80 : decode cX5_readLand 80 = .ok (.aload_n 0, 1) := by decide +kernel
theorem dX5_readLand_81 : decode cX5_readLand 81 = .ok (.getfield 9, 3) := by decide +kernel
theorem dX5_readLand_84 : decode cX5_readLand 84 = .ok (.iconst 1, 1) := by decide +kernel
theorem dX5_readLand_85 : decode cX5_readLand 85 = .ok (.iaload, 1) := by decide +kernel
theorem dX5_readLand_86 : decode cX5_readLand 86 = .ok (.aload_n 0, 1) := by decide +kernel
theorem dX5_readLand_87 : decode cX5_readLand 87 = .ok (.getfield 9, 3) := by decide +kernel
theorem dX5_readLand_90 : decode cX5_readLand 90 = .ok (.iconst 2, 1) := by decide +kernel
theorem dX5_readLand_91 : decode cX5_readLand 91 = .ok (.iaload, 1) := by decide +kernel
theorem dX5_readLand_92 : decode cX5_readLand 92 = .ok (.aload_n 0, 1) := by decide +kernel
theorem dX5_readLand_93 : decode cX5_readLand 93 = .ok (.getfield 9, 3) := by decide +kernel
theorem dX5_readLand_96 : decode cX5_readLand 96 = .ok (.iconst 3, 1) := by decide +kernel
theorem dX5_readLand_97 : decode cX5_readLand 97 = .ok (.iaload, 1) := by decide +kernel
theorem dX5_readLand_98 : decode cX5_readLand 98 = .ok (.aload_n 0, 1) := by decide +kernel
theorem dX5_readLand_99 : decode cX5_readLand 99 = .ok (.getfield 9, 3) := by decide +kernel
theorem dX5_readLand_102 : decode cX5_readLand 102 = .ok (.iconst 4, 1) := by decide +kernel
theorem dX5_readLand_103 : decode cX5_readLand 103 = .ok (.iaload, 1) := by decide +kernel
theorem dX5_readLand_104 : decode cX5_readLand 104 = .ok (.invokespecial 145, 3) := by decide +kernel
theorem dX5_readLand_107 : decode cX5_readLand 107 = .ok (.invokevirtual 148, 3) := by decide +kernel
theorem dX5_readLand_110 : decode cX5_readLand 110 = .ok (.iload_n 2, 1) := by decide +kernel
theorem dX5_readLand_111 : decode cX5_readLand 111 = .ok (.ireturn, 1) := by decide +kernel
theorem dX5_refuseLand_0 : decode cX5_refuseLand 0 = .ok (.aload_n 0, 1) := by decide +kernel
theorem dX5_refuseLand_1 : decode cX5_refuseLand 1 = .ok (.getfield 49, 3) := by decide +kernel
theorem dX5_refuseLand_4 : decode cX5_refuseLand 4 = .ok (.sipush 2001, 3) := by decide +kernel
theorem dX5_refuseLand_7 : decode cX5_refuseLand 7 = .ok (.if_icmp .eq 9, 3) := by decide +kernel
theorem dX5_refuseLand_10 : decode cX5_refuseLand 10 = .ok (.aload_n 0, 1) := by decide +kernel
theorem dX5_refuseLand_11 : decode cX5_refuseLand 11 = .ok (.iconst 1, 1) := by decide +kernel
theorem dX5_refuseLand_12 : decode cX5_refuseLand 12 = .ok (.invokevirtual 56, 3) := by decide +kernel
theorem dX5_refuseLand_15 : decode cX5_refuseLand 15 = .ok (.ireturn, 1) := by decide +kernel
theorem dX5_refuseLand_16 : decode cX5_refuseLand 16 = .ok (.aload_n 0, 1) := by decide +kernel
theorem dX5_refuseLand_17 : decode cX5_refuseLand 17 = .ok (.aload_n 0, 1) := by decide +kernel
theorem dX5_refuseLand_18 : decode cX5_refuseLand 18 = .ok (.getfield 106, 3) := by decide +kernel
theorem dX5_refuseLand_21 : decode cX5_refuseLand 21 = .ok (.ldc2_w 152, 3) := by decide +kernel
theorem dX5_refuseLand_24 : decode cX5_refuseLand 24 = .ok (.lcmp, 1) := by decide +kernel
theorem dX5_refuseLand_25 : decode cX5_refuseLand 25 = .ok (.ifCond .lt 7, 3) := by decide +kernel
theorem dX5_refuseLand_28 : decode cX5_refuseLand 28 = .ok (.iconst 4, 1) := by decide +kernel
theorem dX5_refuseLand_29 : decode cX5_refuseLand 29 = .ok (.goto 4, 3) := by decide +kernel
theorem dX5_refuseLand_32 : decode cX5_refuseLand 32 = .ok (.iconst 5, 1) := by decide +kernel
theorem dX5_refuseLand_33 : decode cX5_refuseLand 33 = .ok (.invokevirtual 56, 3) := by decide +kernel
theorem dX5_refuseLand_36 : decode cX5_refuseLand 36 = .ok (.ireturn, 1) := by decide +kernel
theorem dX5_readHazard_0 : decode cX5_readHazard 0 = .ok (.aload_n 0, 1) := by decide +kernel
theorem dX5_readHazard_1 : decode cX5_readHazard 1 = .ok (.invokevirtual 60, 3) := by decide +kernel
theorem dX5_readHazard_4 : decode cX5_readHazard 4 = .ok (.aload_n 0, 1) := by decide +kernel
theorem dX5_readHazard_5 : decode cX5_readHazard 5 = .ok (.iconst 0, 1) := by decide +kernel
theorem dX5_readHazard_6 : decode cX5_readHazard 6 = .ok (.iconst 0, 1) := by decide +kernel
theorem dX5_readHazard_7 : decode cX5_readHazard 7 = .ok (.bipush 7, 2) := by decide +kernel
theorem dX5_readHazard_9 : decode cX5_readHazard 9 = .ok (.invokevirtual 139, 3) := by decide +kernel
theorem dX5_readHazard_12 : decode cX5_readHazard 12 = .ok (.ifCond .eq 61, 3) := by decide +kernel
theorem dX5_readHazard_15 : decode cX5_readHazard 15 = .ok (.aload_n 0, 1) := by decide +kernel
theorem dX5_readHazard_16 : decode cX5_readHazard 16 = .ok (.iconst 1, 1) := by decide +kernel
theorem dX5_readHazard_17 : decode cX5_readHazard 17 = .ok (.iconst 0, 1) := by decide +kernel
theorem dX5_readHazard_18 : decode cX5_readHazard 18 = .ok (.bipush 7, 2) := by decide +kernel
theorem dX5_readHazard_20 : decode cX5_readHazard 20 = .ok (.invokevirtual 139, 3) := by decide +kernel
theorem dX5_readHazard_23 : decode cX5_readHazard 23 = .ok (.ifCond .eq 50, 3) := by decide +kernel
theorem dX5_readHazard_26 : decode cX5_readHazard 26 = .ok (.aload_n 0, 1) := by decide +kernel
theorem dX5_readHazard_27 : decode cX5_readHazard 27 = .ok (.iconst 2, 1) := by decide +kernel
theorem dX5_readHazard_28 : decode cX5_readHazard 28 = .ok (.aload_n 0, 1) := by decide +kernel
theorem dX5_readHazard_29 : decode cX5_readHazard 29 = .ok (.getfield 9, 3) := by decide +kernel
theorem dX5_readHazard_32 : decode cX5_readHazard 32 = .ok (.iconst 0, 1) := by decide +kernel
theorem dX5_readHazard_33 : decode cX5_readHazard 33 = .ok (.iaload, 1) := by decide +kernel
theorem dX5_readHazard_34 : decode cX5_readHazard 34 = .ok (.bipush 7, 2) := by decide +kernel
theorem dX5_readHazard_36 : decode cX5_readHazard 36 = .ok (.invokevirtual 139, 3) := by decide +kernel
theorem dX5_readHazard_39 : decode cX5_readHazard 39 = .ok (.ifCond .eq 34, 3) := by decide +kernel
theorem dX5_readHazard_42 : decode cX5_readHazard 42 = .ok (.aload_n 0, 1) := by decide +kernel
theorem dX5_readHazard_43 : decode cX5_readHazard 43 = .ok (.iconst 3, 1) := by decide +kernel
theorem dX5_readHazard_44 : decode cX5_readHazard 44 = .ok (.aload_n 0, 1) := by decide +kernel
theorem dX5_readHazard_45 : decode cX5_readHazard 45 = .ok (.getfield 9, 3) := by decide +kernel
theorem dX5_readHazard_48 : decode cX5_readHazard 48 = .ok (.iconst 1, 1) := by decide +kernel
theorem dX5_readHazard_49 : decode cX5_readHazard 49 = .ok (.iaload, 1) := by decide +kernel
theorem dX5_readHazard_50 : decode cX5_readHazard 50 = .ok (.bipush 7, 2) := by decide +kernel
theorem dX5_readHazard_52 : decode cX5_readHazard 52 = .ok (.invokevirtual 139, 3) := by decide +kernel
theorem dX5_readHazard_55 : decode cX5_readHazard 55 = .ok (.ifCond .eq 18, 3) := by decide +kernel
theorem dX5_readHazard_58 : decode cX5_readHazard 58 = .ok (.aload_n 0, 1) := by decide +kernel
theorem dX5_readHazard_59 : decode cX5_readHazard 59 = .ok (.iconst 4, 1) := by decide +kernel
theorem dX5_readHazard_60 : decode cX5_readHazard 60 = .ok (.iconst 1, 1) := by decide +kernel
theorem dX5_readHazard_61 : decode cX5_readHazard 61 = .ok (.bipush 9, 2) := by decide +kernel
theorem dX5_readHazard_63 : decode cX5_readHazard 63 = .ok (.invokevirtual 139, 3) := by decide +kernel
theorem dX5_readHazard_66 : decode cX5_readHazard 66 = .ok (.ifCond .eq 7, 3) := by decide +kernel
theorem dX5_readHazard_69 : decode cX5_readHazard 69 = .ok (.iconst 1, 1) := by decide +kernel
theorem dX5_readHazard_70 : decode cX5_readHazard 70 = .ok (.goto 4, 3) := by decide +kernel
theorem dX5_readHazard_73 : decode cX5_readHazard 73 = .ok (.iconst 0, 1) := by decide +kernel
theorem dX5_readHazard_74 : decode cX5_readHazard 74 = .ok (.istore_n 1, 1) := by decide +kernel
theorem dX5_readHazard_75 : decode cX5_readHazard 75 = .ok (.iload_n 1, 1) := by decide +kernel
theorem dX5_readHazard_76 : decode cX5_readHazard 76 = .ok (.ifCond .eq 40, 3) := by decide +kernel
theorem dX5_readHazard_79 : decode cX5_readHazard 79 = .ok (.aload_n 0, 1) := by decide +kernel
theorem dX5_readHazard_80 : decode cX5_readHazard 80 = .ok (.getfield 28, 3) := by decide +kernel
theorem dX5_readHazard_83 : decode cX5_readHazard 83 = .ok (.aload_n 0, 1) := by decide +kernel
theorem dX5_readHazard_84 : decode cX5_readHazard 84 = .ok (.getfield 9, 3) := by decide +kernel
theorem dX5_readHazard_87 : decode cX5_readHazard 87 = .ok (.iconst 0, 1) := by decide +kernel
theorem dX5_readHazard_88 : decode cX5_readHazard 88 = .ok (.iaload, 1) := by decide +kernel
theorem dX5_readHazard_89 : decode cX5_readHazard 89 = .ok (.aload_n 0, 1) := by decide +kernel
theorem dX5_readHazard_90 : decode cX5_readHazard 90 = .ok (.getfield 9, 3) := by decide +kernel
theorem dX5_readHazard_93 : decode cX5_readHazard 93 = .ok (.iconst 1, 1) := by decide +kernel
theorem dX5_readHazard_94 : decode cX5_readHazard 94 = .ok (.iaload, 1) := by decide +kernel
theorem dX5_readHazard_95 : decode cX5_readHazard 95 = .ok (.aload_n 0, 1) := by decide +kernel
theorem dX5_readHazard_96 : decode cX5_readHazard 96 = .ok (.getfield 9, 3) := by decide +kernel
theorem dX5_readHazard_99 : decode cX5_readHazard 99 = .ok (.iconst 2, 1) := by decide +kernel
theorem dX5_readHazard_100 : decode cX5_readHazard 100 = .ok (.iaload, 1) := by decide +kernel
theorem dX5_readHazard_101 : decode cX5_readHazard 101 = .ok (.aload_n 0, 1) := by decide +kernel
theorem dX5_readHazard_102 : decode cX5_readHazard 102 = .ok (.getfield 9, 3) := by decide +kernel
theorem dX5_readHazard_105 : decode cX5_readHazard 105 = .ok (.iconst 3, 1) := by decide +kernel
theorem dX5_readHazard_106 : decode cX5_readHazard 106 = .ok (.iaload, 1) := by decide +kernel
theorem dX5_readHazard_107 : decode cX5_readHazard 107 = .ok (.aload_n 0, 1) := by decide +kernel
theorem dX5_readHazard_108 : decode cX5_readHazard 108 = .ok (.getfield 9, 3) := by decide +kernel
theorem dX5_readHazard_111 : decode cX5_readHazard 111 = .ok (.iconst 4, 1) := by decide +kernel
theorem dX5_readHazard_112 : decode cX5_readHazard 112 = .ok (.iaload, 1) := by decide +kernel
theorem dX5_readHazard_113 : decode cX5_readHazard 113 = .ok (.invokevirtual 154, 3) := by decide +kernel
theorem dX5_readHazard_116 : decode cX5_readHazard 116 = .ok (.iload_n 1, 1) := by decide +kernel
theorem dX5_readHazard_117 : decode cX5_readHazard 117 = .ok (.ireturn, 1) := by decide +kernel
theorem dX5_readCrop_0 : decode cX5_readCrop 0 = .ok (.aload_n 0, 1) := by decide +kernel
theorem dX5_readCrop_1 : decode cX5_readCrop 1 = .ok (.invokevirtual 60, 3) := by decide +kernel
theorem dX5_readCrop_4 : decode cX5_readCrop 4 = .ok (.aload_n 0, 1) := by decide +kernel
theorem dX5_readCrop_5 : decode cX5_readCrop 5 = .ok (.iconst 0, 1) := by decide +kernel
theorem dX5_readCrop_6 : decode cX5_readCrop 6 = .ok (.iconst 0, 1) := by decide +kernel
theorem dX5_readCrop_7 : decode cX5_readCrop 7 = .ok (.iconst 3, 1) := by decide +kernel
theorem dX5_readCrop_8 : decode cX5_readCrop 8 = .ok (.invokevirtual 139, 3) := by decide +kernel
theorem dX5_readCrop_11 : decode cX5_readCrop 11 = .ok (.ifCond .eq 19, 3) := by decide +kernel
theorem dX5_readCrop_14 : decode cX5_readCrop 14 = .ok (.aload_n 0, 1) := by decide +kernel
theorem dX5_readCrop_15 : decode cX5_readCrop 15 = .ok (.iconst 1, 1) := by decide +kernel
theorem dX5_readCrop_16 : decode cX5_readCrop 16 = .ok (.iconst 0, 1) := by decide +kernel
theorem dX5_readCrop_17 : decode cX5_readCrop 17 = .ok (.sipush 200, 3) := by decide +kernel
theorem dX5_readCrop_20 : decode cX5_readCrop 20 = .ok (.invokevirtual 139, 3) := by decide +kernel
theorem dX5_readCrop_23 : decode cX5_readCrop 23 = .ok (.ifCond .eq 7, 3) := by decide +kernel
theorem dX5_readCrop_26 : decode cX5_readCrop 26 = .ok (.iconst 1, 1) := by decide +kernel
theorem dX5_readCrop_27 : decode cX5_readCrop 27 = .ok (.goto 4, 3) := by decide +kernel
theorem dX5_readCrop_30 : decode cX5_readCrop 30 = .ok (.iconst 0, 1) := by decide +kernel
theorem dX5_readCrop_31 : decode cX5_readCrop 31 = .ok (.istore_n 1, 1) := by decide +kernel
theorem dX5_readCrop_32 : decode cX5_readCrop 32 = .ok (.iload_n 1, 1) := by decide +kernel
theorem dX5_readCrop_33 : decode cX5_readCrop 33 = .ok (.ifCond .eq 22, 3) := by decide +kernel
theorem dX5_readCrop_36 : decode cX5_readCrop 36 = .ok (.aload_n 0, 1) := by decide +kernel
theorem dX5_readCrop_37 : decode cX5_readCrop 37 = .ok (.getfield 28, 3) := by decide +kernel
theorem dX5_readCrop_40 : decode cX5_readCrop 40 = .ok (.aload_n 0, 1) := by decide +kernel
theorem dX5_readCrop_41 : decode cX5_readCrop 41 = .ok (.getfield 9, 3) := by decide +kernel
theorem dX5_readCrop_44 : decode cX5_readCrop 44 = .ok (.iconst 0, 1) := by decide +kernel
theorem dX5_readCrop_45 : decode cX5_readCrop 45 = .ok (.iaload, 1) := by decide +kernel
theorem dX5_readCrop_46 : decode cX5_readCrop 46 = .ok (.aload_n 0, 1) := by decide +kernel
theorem dX5_readCrop_47 : decode cX5_readCrop 47 = .ok (.getfield 9, 3) := by decide +kernel
theorem dX5_readCrop_50 : decode cX5_readCrop 50 = .ok (.iconst 1, 1) := by decide +kernel
theorem dX5_readCrop_51 : decode cX5_readCrop 51 = .ok (.iaload, 1) := by decide +kernel
theorem dX5_readCrop_52 : decode cX5_readCrop 52 = .ok (.invokevirtual 158, 3) := by decide +kernel
theorem dX5_readCrop_55 : decode cX5_readCrop 55 = .ok (.iload_n 1, 1) := by decide +kernel
theorem dX5_readCrop_56 : decode cX5_readCrop 56 = .ok (.ireturn, 1) := by decide +kernel
theorem dX5_readCover_0 : decode cX5_readCover 0 = .ok (.aload_n 0, 1) := by decide +kernel
theorem dX5_readCover_1 : decode cX5_readCover 1 = .ok (.iconst 3, 1) := by decide +kernel
theorem dX5_readCover_2 : decode cX5_readCover 2 = .ok (.invokevirtual 122, 3) := by decide +kernel
theorem dX5_readCover_5 : decode cX5_readCover 5 = .ok (.ifCond .eq 21, 3) := by decide +kernel
theorem dX5_readCover_8 : decode cX5_readCover 8 = .ok (.aload_n 0, 1) := by decide +kernel
theorem dX5_readCover_9 : decode cX5_readCover 9 = .ok (.iconst 0, 1) := by decide +kernel
theorem dX5_readCover_10 : decode cX5_readCover 10 = .ok (.iconst 0, 1) := by decide +kernel
theorem dX5_readCover_11 : decode cX5_readCover 11 = .ok (.getstatic 162, 3) := by decide +kernel
theorem dX5_readCover_14 : decode cX5_readCover 14 = .ok (.iconst 4, 1) := by decide +kernel
theorem dX5_readCover_15 : decode cX5_readCover 15 = .ok (.iaload, 1) := by decide +kernel
theorem dX5_readCover_16 : decode cX5_readCover 16 = .ok (.invokevirtual 139, 3) := by decide +kernel
theorem dX5_readCover_19 : decode cX5_readCover 19 = .ok (.ifCond .eq 7, 3) := by decide +kernel
theorem dX5_readCover_22 : decode cX5_readCover 22 = .ok (.iconst 1, 1) := by decide +kernel
theorem dX5_readCover_23 : decode cX5_readCover 23 = .ok (.goto 4, 3) := by decide +kernel
theorem dX5_readCover_26 : decode cX5_readCover 26 = .ok (.iconst 0, 1) := by decide +kernel
theorem dX5_readCover_27 : decode cX5_readCover 27 = .ok (.istore_n 1, 1) := by decide +kernel
theorem dX5_readCover_28 : decode cX5_readCover 28 = .ok (.iload_n 1, 1) := by decide +kernel
theorem dX5_readCover_29 : decode cX5_readCover 29 = .ok (.ifCond .eq 19, 3) := by decide +kernel
theorem dX5_readCover_32 : decode cX5_readCover 32 = .ok (.aload_n 0, 1) := by decide +kernel
theorem dX5_readCover_33 : decode cX5_readCover 33 = .ok (.getfield 28, 3) := by decide +kernel
theorem dX5_readCover_36 : decode cX5_readCover 36 = .ok (.getfield 165, 3) := by decide +kernel
theorem dX5_readCover_39 : decode cX5_readCover 39 = .ok (.iconst 4, 1) := by decide +kernel
theorem dX5_readCover_40 : decode cX5_readCover 40 = .ok (.aload_n 0, 1) := by decide +kernel
theorem dX5_readCover_41 : decode cX5_readCover 41 = .ok (.getfield 9, 3) := by decide +kernel
theorem dX5_readCover_44 : decode cX5_readCover 44 = .ok (.iconst 0, 1) := by decide +kernel
theorem dX5_readCover_45 : decode cX5_readCover 45 = .ok (.iaload, 1) := by decide +kernel
theorem dX5_readCover_46 : decode cX5_readCover 46 = .ok (.i2l, 1) := by decide +kernel
theorem dX5_readCover_47 : decode cX5_readCover 47 = .ok (.lastore, 1) := by decide +kernel
theorem dX5_readCover_48 : decode cX5_readCover 48 = .ok (.iload_n 1, 1) := by decide +kernel
theorem dX5_readCover_49 : decode cX5_readCover 49 = .ok (.ireturn, 1) := by decide +kernel
theorem dX5_readRule_0 : decode cX5_readRule 0 = .ok (.aload_n 0, 1) := by decide +kernel
theorem dX5_readRule_1 : decode cX5_readRule 1 = .ok (.invokevirtual 60, 3) := by decide +kernel
theorem dX5_readRule_4 : decode cX5_readRule 4 = .ok (.aload_n 0, 1) := by decide +kernel
theorem dX5_readRule_5 : decode cX5_readRule 5 = .ok (.iconst 0, 1) := by decide +kernel
theorem dX5_readRule_6 : decode cX5_readRule 6 = .ok (.iconst 0, 1) := by decide +kernel
theorem dX5_readRule_7 : decode cX5_readRule 7 = .ok (.getstatic 162, 3) := by decide +kernel
theorem dX5_readRule_10 : decode cX5_readRule 10 = .ok (.iload_n 1, 1) := by decide +kernel
theorem dX5_readRule_11 : decode cX5_readRule 11 = .ok (.iaload, 1) := by decide +kernel
theorem dX5_readRule_12 : decode cX5_readRule 12 = .ok (.invokevirtual 139, 3) := by decide +kernel
theorem dX5_readRule_15 : decode cX5_readRule 15 = .ok (.istore_n 2, 1) := by decide +kernel
theorem dX5_readRule_16 : decode cX5_readRule 16 = .ok (.iload_n 2, 1) := by decide +kernel
theorem dX5_readRule_17 : decode cX5_readRule 17 = .ok (.ifCond .eq 19, 3) := by decide +kernel
theorem dX5_readRule_20 : decode cX5_readRule 20 = .ok (.aload_n 0, 1) := by decide +kernel
theorem dX5_readRule_21 : decode cX5_readRule 21 = .ok (.getfield 28, 3) := by decide +kernel
theorem dX5_readRule_24 : decode cX5_readRule 24 = .ok (.getfield 165, 3) := by decide +kernel
theorem dX5_readRule_27 : decode cX5_readRule 27 = .ok (.iload_n 1, 1) := by decide +kernel
theorem dX5_readRule_28 : decode cX5_readRule 28 = .ok (.aload_n 0, 1) := by decide +kernel
theorem dX5_readRule_29 : decode cX5_readRule 29 = .ok (.getfield 9, 3) := by decide +kernel
theorem dX5_readRule_32 : decode cX5_readRule 32 = .ok (.iconst 0, 1) := by decide +kernel
theorem dX5_readRule_33 : decode cX5_readRule 33 = .ok (.iaload, 1) := by decide +kernel
theorem dX5_readRule_34 : decode cX5_readRule 34 = .ok (.i2l, 1) := by decide +kernel
theorem dX5_readRule_35 : decode cX5_readRule 35 = .ok (.lastore, 1) := by decide +kernel
theorem dX5_readRule_36 : decode cX5_readRule 36 = .ok (.iload_n 2, 1) := by decide +kernel
theorem dX5_readRule_37 : decode cX5_readRule 37 = .ok (.ireturn, 1) := by decide +kernel
theorem dX5_readNumber_0 : decode cX5_readNumber 0 = .ok (.aload_n 0, 1) := by decide +kernel
theorem dX5_readNumber_1 : decode cX5_readNumber 1 = .ok (.getfield 49, 3) := by decide +kernel
theorem dX5_readNumber_4 : decode cX5_readNumber 4 = .ok (.sipush 2001, 3) := by decide +kernel
theorem dX5_readNumber_7 : decode cX5_readNumber 7 = .ok (.if_icmp .ne 16, 3) := by decide +kernel
theorem dX5_readNumber_10 : decode cX5_readNumber 10 = .ok (.iload_n 1, 1) := by decide +kernel
theorem dX5_readNumber_11 : decode cX5_readNumber 11 = .ok (.ifCond .lt 12, 3) := by decide +kernel
theorem dX5_readNumber_14 : decode cX5_readNumber 14 = .ok (.iload_n 1, 1) := by decide +kernel
theorem dX5_readNumber_15 : decode cX5_readNumber 15 = .ok (.aload_n 0, 1) := by decide +kernel
theorem dX5_readNumber_16 : decode cX5_readNumber 16 = .ok (.getfield 9, 3) := by decide +kernel
theorem dX5_readNumber_19 : decode cX5_readNumber 19 = .ok (.arraylength, 1) := by decide +kernel
theorem dX5_readNumber_20 : decode cX5_readNumber 20 = .ok (.if_icmp .lt 9, 3) := by decide +kernel
theorem dX5_readNumber_23 : decode cX5_readNumber 23 = .ok (.aload_n 0, 1) := by decide +kernel
theorem dX5_readNumber_24 : decode cX5_readNumber 24 = .ok (.iconst 1, 1) := by decide +kernel
theorem dX5_readNumber_25 : decode cX5_readNumber 25 = .ok (.invokevirtual 56, 3) := by decide +kernel
theorem dX5_readNumber_28 : decode cX5_readNumber 28 = .ok (.ireturn, 1) := by decide +kernel
theorem dX5_readNumber_29 : decode cX5_readNumber 29 = .ok (.aload_n 0, 1) := by decide +kernel
theorem dX5_readNumber_30 : decode cX5_readNumber 30 = .ok (.getfield 106, 3) := by decide +kernel
theorem dX5_readNumber_33 : decode cX5_readNumber 33 = .ok (.iload_n 2, 1) := by decide +kernel
theorem dX5_readNumber_34 : decode cX5_readNumber 34 = .ok (.i2l, 1) := by decide +kernel
theorem dX5_readNumber_35 : decode cX5_readNumber 35 = .ok (.lcmp, 1) := by decide +kernel
theorem dX5_readNumber_36 : decode cX5_readNumber 36 = .ok (.ifCond .lt 13, 3) := by decide +kernel
theorem dX5_readNumber_39 : decode cX5_readNumber 39 = .ok (.aload_n 0, 1) := by decide +kernel
theorem dX5_readNumber_40 : decode cX5_readNumber 40 = .ok (.getfield 106, 3) := by decide +kernel
theorem dX5_readNumber_43 : decode cX5_readNumber 43 = .ok (.iload_n 3, 1) := by decide +kernel
theorem dX5_readNumber_44 : decode cX5_readNumber 44 = .ok (.i2l, 1) := by decide +kernel
theorem dX5_readNumber_45 : decode cX5_readNumber 45 = .ok (.lcmp, 1) := by decide +kernel
theorem dX5_readNumber_46 : decode cX5_readNumber 46 = .ok (.ifCond .le 9, 3) := by decide +kernel
theorem dX5_readNumber_49 : decode cX5_readNumber 49 = .ok (.aload_n 0, 1) := by decide +kernel
theorem dX5_readNumber_50 : decode cX5_readNumber 50 = .ok (.iconst 4, 1) := by decide +kernel
theorem dX5_readNumber_51 : decode cX5_readNumber 51 = .ok (.invokevirtual 56, 3) := by decide +kernel
theorem dX5_readNumber_54 : decode cX5_readNumber 54 = .ok (.ireturn, 1) := by decide +kernel
theorem dX5_readNumber_55 : decode cX5_readNumber 55 = .ok (.aload_n 0, 1) := by decide +kernel
theorem dX5_readNumber_56 : decode cX5_readNumber 56 = .ok (.getfield 9, 3) := by decide +kernel
theorem dX5_readNumber_59 : decode cX5_readNumber 59 = .ok (.iload_n 1, 1) := by decide +kernel
theorem dX5_readNumber_60 : decode cX5_readNumber 60 = .ok (.aload_n 0, 1) := by decide +kernel
theorem dX5_readNumber_61 : decode cX5_readNumber 61 = .ok (.getfield 106, 3) := by decide +kernel
theorem dX5_readNumber_64 : decode cX5_readNumber 64 = .ok (.l2i, 1) := by decide +kernel
theorem dX5_readNumber_65 : decode cX5_readNumber 65 = .ok (.iastore, 1) := by decide +kernel
theorem dX5_readNumber_66 : decode cX5_readNumber 66 = .ok (.aload_n 0, 1) := by decide +kernel
theorem dX5_readNumber_67 : decode cX5_readNumber 67 = .ok (.invokevirtual 60, 3) := by decide +kernel
theorem dX5_readNumber_70 : decode cX5_readNumber 70 = .ok (.iconst 1, 1) := by decide +kernel
theorem dX5_readNumber_71 : decode cX5_readNumber 71 = .ok (.ireturn, 1) := by decide +kernel
theorem dX5_readPay_0 : decode cX5_readPay 0 = .ok (.aload_n 0, 1) := by decide +kernel
theorem dX5_readPay_1 : decode cX5_readPay 1 = .ok (.getfield 32, 3) := by decide +kernel
theorem dX5_readPay_4 : decode cX5_readPay 4 = .ok (.getfield 44, 3) := by decide +kernel
theorem dX5_readPay_7 : decode cX5_readPay 7 = .ok (.ifCond .le 9, 3) := by decide +kernel
theorem dX5_readPay_10 : decode cX5_readPay 10 = .ok (.aload_n 0, 1) := by decide +kernel
theorem dX5_readPay_11 : decode cX5_readPay 11 = .ok (.iconst 5, 1) := by decide +kernel
theorem dX5_readPay_12 : decode cX5_readPay 12 = .ok (.invokevirtual 56, 3) := by decide +kernel
theorem dX5_readPay_15 : decode cX5_readPay 15 = .ok (.ireturn, 1) := by decide +kernel
theorem dX5_readPay_16 : decode cX5_readPay 16 = .ok (.aload_n 0, 1) := by decide +kernel
theorem dX5_readPay_17 : decode cX5_readPay 17 = .ok (.invokevirtual 60, 3) := by decide +kernel
theorem dX5_readPay_20 : decode cX5_readPay 20 = .ok (.aload_n 0, 1) := by decide +kernel
theorem dX5_readPay_21 : decode cX5_readPay 21 = .ok (.invokevirtual 168, 3) := by decide +kernel
theorem dX5_readPay_24 : decode cX5_readPay 24 = .ok (.ireturn, 1) := by decide +kernel
theorem dX5_readSum_0 : decode cX5_readSum 0 = .ok (.iconst 0, 1) := by decide +kernel
theorem dX5_readSum_1 : decode cX5_readSum 1 = .ok (.istore_n 1, 1) := by decide +kernel
theorem dX5_readSum_2 : decode cX5_readSum 2 = .ok (.iconst 0, 1) := by decide +kernel
theorem dX5_readSum_3 : decode cX5_readSum 3 = .ok (.istore_n 2, 1) := by decide +kernel
theorem dX5_readSum_4 : decode cX5_readSum 4 = .ok (.iconst 0, 1) := by decide +kernel
theorem dX5_readSum_5 : decode cX5_readSum 5 = .ok (.istore_n 3, 1) := by decide +kernel
theorem dX5_readSum_6 : decode cX5_readSum 6 = .ok (.iload_n 3, 1) := by decide +kernel
theorem dX5_readSum_7 : decode cX5_readSum 7 = .ok (.sipush 700, 3) := by decide +kernel
theorem dX5_readSum_10 : decode cX5_readSum 10 = .ok (.if_icmp .gt 112, 3) := by decide +kernel
theorem dX5_readSum_13 : decode cX5_readSum 13 = .ok (.aload_n 0, 1) := by decide +kernel
theorem dX5_readSum_14 : decode cX5_readSum 14 = .ok (.invokevirtual 171, 3) := by decide +kernel
theorem dX5_readSum_17 : decode cX5_readSum 17 = .ok (.ifCond .ne 5, 3) := by decide +kernel
theorem dX5_readSum_20 : decode cX5_readSum 20 = .ok (.iconst 0, 1) := by decide +kernel
theorem dX5_readSum_21 : decode cX5_readSum 21 = .ok (.ireturn, 1) := by decide +kernel
theorem dX5_readSum_22 : decode cX5_readSum 22 = .ok (.iload_n 1, 1) := by decide +kernel
theorem dX5_readSum_23 : decode cX5_readSum 23 = .ok (.ifCond .eq 12, 3) := by decide +kernel
theorem dX5_readSum_26 : decode cX5_readSum 26 = .ok (.aload_n 0, 1) := by decide +kernel
theorem dX5_readSum_27 : decode cX5_readSum 27 = .ok (.getfield 32, 3) := by decide +kernel
theorem dX5_readSum_30 : decode cX5_readSum 30 = .ok (.iload_n 1, 1) := by decide +kernel
theorem dX5_readSum_31 : decode cX5_readSum 31 = .ok (.ineg, 1) := by decide +kernel
theorem dX5_readSum_32 : decode cX5_readSum 32 = .ok (.invokevirtual 174, 3) := by decide +kernel
theorem dX5_readSum_35 : decode cX5_readSum 35 = .ok (.aload_n 0, 1) := by decide +kernel
theorem dX5_readSum_36 : decode cX5_readSum 36 = .ok (.getfield 49, 3) := by decide +kernel
theorem dX5_readSum_39 : decode cX5_readSum 39 = .ok (.bipush 42, 2) := by decide +kernel
theorem dX5_readSum_41 : decode cX5_readSum 41 = .ok (.if_icmp .eq 12, 3) := by decide +kernel
theorem dX5_readSum_44 : decode cX5_readSum 44 = .ok (.aload_n 0, 1) := by decide +kernel
theorem dX5_readSum_45 : decode cX5_readSum 45 = .ok (.getfield 49, 3) := by decide +kernel
theorem dX5_readSum_48 : decode cX5_readSum 48 = .ok (.bipush 47, 2) := by decide +kernel
theorem dX5_readSum_50 : decode cX5_readSum 50 = .ok (.if_icmp .ne 10, 3) := by decide +kernel
theorem dX5_readSum_53 : decode cX5_readSum 53 = .ok (.aload_n 0, 1) := by decide +kernel
theorem dX5_readSum_54 : decode cX5_readSum 54 = .ok (.getfield 49, 3) := by decide +kernel
theorem dX5_readSum_57 : decode cX5_readSum 57 = .ok (.goto 4, 3) := by decide +kernel
theorem dX5_readSum_60 : decode cX5_readSum 60 = .ok (.iconst 0, 1) := by decide +kernel
theorem dX5_readSum_61 : decode cX5_readSum 61 = .ok (.istore_n 1, 1) := by decide +kernel
theorem dX5_readSum_62 : decode cX5_readSum 62 = .ok (.iload_n 1, 1) := by decide +kernel
theorem dX5_readSum_63 : decode cX5_readSum 63 = .ok (.ifCond .ne 49, 3) := by decide +kernel
theorem dX5_readSum_66 : decode cX5_readSum 66 = .ok (.iload_n 2, 1) := by decide +kernel
theorem dX5_readSum_67 : decode cX5_readSum 67 = .ok (.ifCond .eq 12, 3) := by decide +kernel
theorem dX5_readSum_70 : decode cX5_readSum 70 = .ok (.aload_n 0, 1) := by decide +kernel
theorem dX5_readSum_71 : decode cX5_readSum 71 = .ok (.getfield 32, 3) := by decide +kernel
theorem dX5_readSum_74 : decode cX5_readSum 74 = .ok (.iload_n 2, 1) := by decide +kernel
theorem dX5_readSum_75 : decode cX5_readSum 75 = .ok (.ineg, 1) := by decide +kernel
theorem dX5_readSum_76 : decode cX5_readSum 76 = .ok (.invokevirtual 174, 3) := by decide +kernel
theorem dX5_readSum_79 : decode cX5_readSum 79 = .ok (.aload_n 0, 1) := by decide +kernel
theorem dX5_readSum_80 : decode cX5_readSum 80 = .ok (.getfield 49, 3) := by decide +kernel
theorem dX5_readSum_83 : decode cX5_readSum 83 = .ok (.bipush 43, 2) := by decide +kernel
theorem dX5_readSum_85 : decode cX5_readSum 85 = .ok (.if_icmp .eq 12, 3) := by decide +kernel
theorem dX5_readSum_88 : decode cX5_readSum 88 = .ok (.aload_n 0, 1) := by decide +kernel
theorem dX5_readSum_89 : decode cX5_readSum 89 = .ok (.getfield 49, 3) := by decide +kernel
theorem dX5_readSum_92 : decode cX5_readSum 92 = .ok (.bipush 45, 2) := by decide +kernel
theorem dX5_readSum_94 : decode cX5_readSum 94 = .ok (.if_icmp .ne 10, 3) := by decide +kernel
theorem dX5_readSum_97 : decode cX5_readSum 97 = .ok (.aload_n 0, 1) := by decide +kernel
theorem dX5_readSum_98 : decode cX5_readSum 98 = .ok (.getfield 49, 3) := by decide +kernel
theorem dX5_readSum_101 : decode cX5_readSum 101 = .ok (.goto 4, 3) := by decide +kernel
theorem dX5_readSum_104 : decode cX5_readSum 104 = .ok (.iconst 0, 1) := by decide +kernel
theorem dX5_readSum_105 : decode cX5_readSum 105 = .ok (.istore_n 2, 1) := by decide +kernel
theorem dX5_readSum_106 : decode cX5_readSum 106 = .ok (.iload_n 2, 1) := by decide +kernel
theorem dX5_readSum_107 : decode cX5_readSum 107 = .ok (.ifCond .ne 5, 3) := by decide +kernel
theorem dX5_readSum_110 : decode cX5_readSum 110 = .ok (.iconst 1, 1) := by decide +kernel
theorem dX5_readSum_111 : decode cX5_readSum 111 = .ok (.ireturn, 1) := by decide +kernel
theorem dX5_readSum_112 : decode cX5_readSum 112 = .ok (.aload_n 0, 1) := by decide +kernel
theorem dX5_readSum_113 : decode cX5_readSum 113 = .ok (.invokevirtual 60, 3) := by decide +kernel
theorem dX5_readSum_116 : decode cX5_readSum 116 = .ok (.iinc 3 1, 3) := by decide +kernel
theorem dX5_readSum_119 : decode cX5_readSum 119 = .ok (.goto (-113), 3) := by decide +kernel
theorem dX5_readSum_122 : decode cX5_readSum 122 = .ok (.aload_n 0, 1) := by decide +kernel
theorem dX5_readSum_123 : decode cX5_readSum 123 = .ok (.iconst 1, 1) := by decide +kernel
theorem dX5_readSum_124 : decode cX5_readSum 124 = .ok (.invokevirtual 56, 3) := by decide +kernel
theorem dX5_readSum_127 : decode cX5_readSum 127 = .ok (.ireturn, 1) := by decide +kernel
theorem dX5_readPart_0 : decode cX5_readPart 0 = .ok (.aload_n 0, 1) := by decide +kernel
theorem dX5_readPart_1 : decode cX5_readPart 1 = .ok (.getfield 49, 3) := by decide +kernel
theorem dX5_readPart_4 : decode cX5_readPart 4 = .ok (.istore_n 1, 1) := by decide +kernel
theorem dX5_readPart_5 : decode cX5_readPart 5 = .ok (.iload_n 1, 1) := by decide +kernel
theorem dX5_readPart_6 : decode cX5_readPart 6 = .ok (.lookupswitch 143 #[(1002, 92), (1003, 92), (1011, 92), (1012, 92), (1013, 107), (1014, 107), (1015, 107), (2001, 74)], 74) := by decide +kernel
theorem dX5_readPart_80 : decode cX5_readPart 80 = .ok (.aload_n 0, 1) := by decide +kernel
theorem dX5_readPart_81 : decode cX5_readPart 81 = .ok (.getfield 32, 3) := by decide +kernel
theorem dX5_readPart_84 : decode cX5_readPart 84 = .ok (.aload_n 0, 1) := by decide +kernel
theorem dX5_readPart_85 : decode cX5_readPart 85 = .ok (.getfield 106, 3) := by decide +kernel
theorem dX5_readPart_88 : decode cX5_readPart 88 = .ok (.l2i, 1) := by decide +kernel
theorem dX5_readPart_89 : decode cX5_readPart 89 = .ok (.invokevirtual 174, 3) := by decide +kernel
theorem dX5_readPart_92 : decode cX5_readPart 92 = .ok (.aload_n 0, 1) := by decide +kernel
theorem dX5_readPart_93 : decode cX5_readPart 93 = .ok (.invokevirtual 60, 3) := by decide +kernel
theorem dX5_readPart_96 : decode cX5_readPart 96 = .ok (.iconst 1, 1) := by decide +kernel
theorem dX5_readPart_97 : decode cX5_readPart 97 = .ok (.ireturn, 1) := by decide +kernel
theorem dX5_readPart_98 : decode cX5_readPart 98 = .ok (.aload_n 0, 1) := by decide +kernel
theorem dX5_readPart_99 : decode cX5_readPart 99 = .ok (.getfield 32, 3) := by decide +kernel
theorem dX5_readPart_102 : decode cX5_readPart 102 = .ok (.iload_n 1, 1) := by decide +kernel
theorem dX5_readPart_103 : decode cX5_readPart 103 = .ok (.ineg, 1) := by decide +kernel
theorem dX5_readPart_104 : decode cX5_readPart 104 = .ok (.invokevirtual 174, 3) := by decide +kernel
theorem dX5_readPart_107 : decode cX5_readPart 107 = .ok (.aload_n 0, 1) := by decide +kernel
theorem dX5_readPart_108 : decode cX5_readPart 108 = .ok (.invokevirtual 60, 3) := by decide +kernel
theorem dX5_readPart_111 : decode cX5_readPart 111 = .ok (.iconst 1, 1) := by decide +kernel
theorem dX5_readPart_112 : decode cX5_readPart 112 = .ok (.ireturn, 1) := by decide +kernel
theorem dX5_readPart_113 : decode cX5_readPart 113 = .ok (.aload_n 0, 1) := by decide +kernel
theorem dX5_readPart_114 : decode cX5_readPart 114 = .ok (.invokevirtual 60, 3) := by decide +kernel
theorem dX5_readPart_117 : decode cX5_readPart 117 = .ok (.aload_n 0, 1) := by decide +kernel
theorem dX5_readPart_118 : decode cX5_readPart 118 = .ok (.iload_n 1, 1) := by decide +kernel
theorem dX5_readPart_119 : decode cX5_readPart 119 = .ok (.sipush 1015, 3) := by decide +kernel
theorem dX5_readPart_122 : decode cX5_readPart 122 = .ok (.if_icmp .ne 7, 3) := by decide +kernel
theorem dX5_readPart_125 : decode cX5_readPart 125 = .ok (.iconst 3, 1) := by decide +kernel
theorem dX5_readPart_126 : decode cX5_readPart 126 = .ok (.goto 4, 3) := by decide +kernel
theorem dX5_readPart_129 : decode cX5_readPart 129 = .ok (.iconst 2, 1) := by decide +kernel
theorem dX5_readPart_130 : decode cX5_readPart 130 = .ok (.invokevirtual 178, 3) := by decide +kernel
theorem dX5_readPart_133 : decode cX5_readPart 133 = .ok (.ifCond .ne 5, 3) := by decide +kernel
theorem dX5_readPart_136 : decode cX5_readPart 136 = .ok (.iconst 0, 1) := by decide +kernel
theorem dX5_readPart_137 : decode cX5_readPart 137 = .ok (.ireturn, 1) := by decide +kernel
theorem dX5_readPart_138 : decode cX5_readPart 138 = .ok (.aload_n 0, 1) := by decide +kernel
theorem dX5_readPart_139 : decode cX5_readPart 139 = .ok (.getfield 32, 3) := by decide +kernel
theorem dX5_readPart_142 : decode cX5_readPart 142 = .ok (.iload_n 1, 1) := by decide +kernel
theorem dX5_readPart_143 : decode cX5_readPart 143 = .ok (.ineg, 1) := by decide +kernel
theorem dX5_readPart_144 : decode cX5_readPart 144 = .ok (.invokevirtual 174, 3) := by decide +kernel
theorem dX5_readPart_147 : decode cX5_readPart 147 = .ok (.iconst 1, 1) := by decide +kernel
theorem dX5_readPart_148 : decode cX5_readPart 148 = .ok (.ireturn, 1) := by decide +kernel
theorem dX5_readPart_149 : decode cX5_readPart 149 = .ok (.aload_n 0, 1) := by decide +kernel
theorem dX5_readPart_150 : decode cX5_readPart 150 = .ok (.iconst 1, 1) := by decide +kernel
theorem dX5_readPart_151 : decode cX5_readPart 151 = .ok (.invokevirtual 178, 3) := by decide +kernel
theorem dX5_readPart_154 : decode cX5_readPart 154 = .ok (.ireturn, 1) := by decide +kernel
theorem dX5_readInBrackets_0 : decode cX5_readInBrackets 0 = .ok (.aload_n 0, 1) := by decide +kernel
theorem dX5_readInBrackets_1 : decode cX5_readInBrackets 1 = .ok (.getfield 49, 3) := by decide +kernel
theorem dX5_readInBrackets_4 : decode cX5_readInBrackets 4 = .ok (.bipush 40, 2) := by decide +kernel
theorem dX5_readInBrackets_6 : decode cX5_readInBrackets 6 = .ok (.if_icmp .eq 9, 3) := by decide +kernel
theorem dX5_readInBrackets_9 : decode cX5_readInBrackets 9 = .ok (.aload_n 0, 1) := by decide +kernel
theorem dX5_readInBrackets_10 : decode cX5_readInBrackets 10 = .ok (.iconst 1, 1) := by decide +kernel
theorem dX5_readInBrackets_11 : decode cX5_readInBrackets 11 = .ok (.invokevirtual 56, 3) := by decide +kernel
theorem dX5_readInBrackets_14 : decode cX5_readInBrackets 14 = .ok (.ireturn, 1) := by decide +kernel
theorem dX5_readInBrackets_15 : decode cX5_readInBrackets 15 = .ok (.aload_n 0, 1) := by decide +kernel
theorem dX5_readInBrackets_16 : decode cX5_readInBrackets 16 = .ok (.getfield 94, 3) := by decide +kernel
theorem dX5_readInBrackets_19 : decode cX5_readInBrackets 19 = .ok (.bipush 8, 2) := by decide +kernel
theorem dX5_readInBrackets_21 : decode cX5_readInBrackets 21 = .ok (.if_icmp .lt 9, 3) := by decide +kernel
theorem dX5_readInBrackets_24 : decode cX5_readInBrackets 24 = .ok (.aload_n 0, 1) := by decide +kernel
theorem dX5_readInBrackets_25 : decode cX5_readInBrackets 25 = .ok (.iconst 5, 1) := by decide +kernel
theorem dX5_readInBrackets_26 : decode cX5_readInBrackets 26 = .ok (.invokevirtual 56, 3) := by decide +kernel
theorem dX5_readInBrackets_29 : decode cX5_readInBrackets 29 = .ok (.ireturn, 1) := by decide +kernel
theorem dX5_readInBrackets_30 : decode cX5_readInBrackets 30 = .ok (.aload_n 0, 1) := by decide +kernel
theorem dX5_readInBrackets_31 : decode cX5_readInBrackets 31 = .ok (.dup, 1) := by decide +kernel
theorem dX5_readInBrackets_32 : decode cX5_readInBrackets 32 = .ok (.getfield 94, 3) := by decide +kernel
theorem dX5_readInBrackets_35 : decode cX5_readInBrackets 35 = .ok (.iconst 1, 1) := by decide +kernel
theorem dX5_readInBrackets_36 : decode cX5_readInBrackets 36 = .ok (.iadd, 1) := by decide +kernel
theorem dX5_readInBrackets_37 : decode cX5_readInBrackets 37 = .ok (.putfield 94, 3) := by decide +kernel
theorem dX5_readInBrackets_40 : decode cX5_readInBrackets 40 = .ok (.aload_n 0, 1) := by decide +kernel
theorem dX5_readInBrackets_41 : decode cX5_readInBrackets 41 = .ok (.invokevirtual 60, 3) := by decide +kernel
theorem dX5_readInBrackets_44 : decode cX5_readInBrackets 44 = .ok (.iconst 1, 1) := by decide +kernel
theorem dX5_readInBrackets_45 : decode cX5_readInBrackets 45 = .ok (.istore_n 2, 1) := by decide +kernel
theorem dX5_readInBrackets_46 : decode cX5_readInBrackets 46 = .ok (.iload_n 2, 1) := by decide +kernel
theorem dX5_readInBrackets_47 : decode cX5_readInBrackets 47 = .ok (.iload_n 1, 1) := by decide +kernel
theorem dX5_readInBrackets_48 : decode cX5_readInBrackets 48 = .ok (.if_icmp .gt 47, 3) := by decide +kernel
theorem dX5_readInBrackets_51 : decode cX5_readInBrackets 51 = .ok (.aload_n 0, 1) := by decide +kernel
theorem dX5_readInBrackets_52 : decode cX5_readInBrackets 52 = .ok (.invokevirtual 168, 3) := by decide +kernel
theorem dX5_readInBrackets_55 : decode cX5_readInBrackets 55 = .ok (.ifCond .ne 5, 3) := by decide +kernel
theorem dX5_readInBrackets_58 : decode cX5_readInBrackets 58 = .ok (.iconst 0, 1) := by decide +kernel
theorem dX5_readInBrackets_59 : decode cX5_readInBrackets 59 = .ok (.ireturn, 1) := by decide +kernel
theorem dX5_readInBrackets_60 : decode cX5_readInBrackets 60 = .ok (.aload_n 0, 1) := by decide +kernel
theorem dX5_readInBrackets_61 : decode cX5_readInBrackets 61 = .ok (.getfield 49, 3) := by decide +kernel
theorem dX5_readInBrackets_64 : decode cX5_readInBrackets 64 = .ok (.iload_n 2, 1) := by decide +kernel
theorem dX5_readInBrackets_65 : decode cX5_readInBrackets 65 = .ok (.iload_n 1, 1) := by decide +kernel
theorem dX5_readInBrackets_66 : decode cX5_readInBrackets 66 = .ok (.if_icmp .ge 8, 3) := by decide +kernel
theorem dX5_readInBrackets_69 : decode cX5_readInBrackets 69 = .ok (.bipush 44, 2) := by decide +kernel
theorem dX5_readInBrackets_71 : decode cX5_readInBrackets 71 = .ok (.goto 5, 3) := by decide +kernel
theorem dX5_readInBrackets_74 : decode cX5_readInBrackets 74 = .ok (.bipush 41, 2) := by decide +kernel
theorem dX5_readInBrackets_76 : decode cX5_readInBrackets 76 = .ok (.if_icmp .eq 9, 3) := by decide +kernel
theorem dX5_readInBrackets_79 : decode cX5_readInBrackets 79 = .ok (.aload_n 0, 1) := by decide +kernel
theorem dX5_readInBrackets_80 : decode cX5_readInBrackets 80 = .ok (.iconst 1, 1) := by decide +kernel
theorem dX5_readInBrackets_81 : decode cX5_readInBrackets 81 = .ok (.invokevirtual 56, 3) := by decide +kernel
theorem dX5_readInBrackets_84 : decode cX5_readInBrackets 84 = .ok (.ireturn, 1) := by decide +kernel
theorem dX5_readInBrackets_85 : decode cX5_readInBrackets 85 = .ok (.aload_n 0, 1) := by decide +kernel
theorem dX5_readInBrackets_86 : decode cX5_readInBrackets 86 = .ok (.invokevirtual 60, 3) := by decide +kernel
theorem dX5_readInBrackets_89 : decode cX5_readInBrackets 89 = .ok (.iinc 2 1, 3) := by decide +kernel
theorem dX5_readInBrackets_92 : decode cX5_readInBrackets 92 = .ok (.goto (-46), 3) := by decide +kernel
theorem dX5_readInBrackets_95 : decode cX5_readInBrackets 95 = .ok (.aload_n 0, 1) := by decide +kernel
theorem dX5_readInBrackets_96 : decode cX5_readInBrackets 96 = .ok (.dup, 1) := by decide +kernel
theorem dX5_readInBrackets_97 : decode cX5_readInBrackets 97 = .ok (.getfield 94, 3) := by decide +kernel
theorem dX5_readInBrackets_100 : decode cX5_readInBrackets 100 = .ok (.iconst 1, 1) := by decide +kernel
theorem dX5_readInBrackets_101 : decode cX5_readInBrackets 101 = .ok (.isub, 1) := by decide +kernel
theorem dX5_readInBrackets_102 : decode cX5_readInBrackets 102 = .ok (.putfield 94, 3) := by decide +kernel
theorem dX5_readInBrackets_105 : decode cX5_readInBrackets 105 = .ok (.iconst 1, 1) := by decide +kernel
theorem dX5_readInBrackets_106 : decode cX5_readInBrackets 106 = .ok (.ireturn, 1) := by decide +kernel
theorem dX9_init_0 : decode cX9_init 0 = .ok (.aload_n 0, 1) := by decide +kernel
theorem dX9_init_1 : decode cX9_init 1 = .ok (.invokespecial 3, 3) := by decide +kernel
theorem dX9_init_4 : decode cX9_init 4 = .ok (.aload_n 0, 1) := by decide +kernel
theorem dX9_init_5 : decode cX9_init 5 = .ok (.sipush 701, 3) := by decide +kernel
theorem dX9_init_8 : decode cX9_init 8 = .ok (.newarray .int, 2) := by decide +kernel
theorem dX9_init_10 : decode cX9_init 10 = .ok (.putfield 9, 3) := by decide +kernel
theorem dX9_init_13 : decode cX9_init 13 = .ok (.aload_n 0, 1) := by decide +kernel
theorem dX9_init_14 : decode cX9_init 14 = .ok (.sipush 701, 3) := by decide +kernel
theorem dX9_init_17 : decode cX9_init 17 = .ok (.newarray .int, 2) := by decide +kernel
theorem dX9_init_19 : decode cX9_init 19 = .ok (.putfield 15, 3) := by decide +kernel
theorem dX9_init_22 : decode cX9_init 22 = .ok (.aload_n 0, 1) := by decide +kernel
theorem dX9_init_23 : decode cX9_init 23 = .ok (.sipush 701, 3) := by decide +kernel
theorem dX9_init_26 : decode cX9_init 26 = .ok (.newarray .long, 2) := by decide +kernel
theorem dX9_init_28 : decode cX9_init 28 = .ok (.putfield 18, 3) := by decide +kernel
theorem dX9_init_31 : decode cX9_init 31 = .ok (.aload_n 0, 1) := by decide +kernel
theorem dX9_init_32 : decode cX9_init 32 = .ok (.bipush 18, 2) := by decide +kernel
theorem dX9_init_34 : decode cX9_init 34 = .ok (.newarray .long, 2) := by decide +kernel
theorem dX9_init_36 : decode cX9_init 36 = .ok (.putfield 22, 3) := by decide +kernel
theorem dX9_init_39 : decode cX9_init 39 = .ok (.aload_n 0, 1) := by decide +kernel
theorem dX9_init_40 : decode cX9_init 40 = .ok (.aload_n 1, 1) := by decide +kernel
theorem dX9_init_41 : decode cX9_init 41 = .ok (.putfield 25, 3) := by decide +kernel
theorem dX9_init_44 : decode cX9_init 44 = .ok (.iconst 0, 1) := by decide +kernel
theorem dX9_init_45 : decode cX9_init 45 = .ok (.istore_n 2, 1) := by decide +kernel
theorem dX9_init_46 : decode cX9_init 46 = .ok (.iconst 0, 1) := by decide +kernel
theorem dX9_init_47 : decode cX9_init 47 = .ok (.istore_n 3, 1) := by decide +kernel
theorem dX9_init_48 : decode cX9_init 48 = .ok (.iload_n 3, 1) := by decide +kernel
theorem dX9_init_49 : decode cX9_init 49 = .ok (.ldc 29, 2) := by decide +kernel
theorem dX9_init_51 : decode cX9_init 51 = .ok (.invokevirtual 31, 3) := by decide +kernel
theorem dX9_init_54 : decode cX9_init 54 = .ok (.if_icmp .ge 53, 3) := by decide +kernel
theorem dX9_init_57 : decode cX9_init 57 = .ok (.ldc 29, 2) := by decide +kernel
theorem dX9_init_59 : decode cX9_init 59 = .ok (.iload_n 3, 1) := by decide +kernel
theorem dX9_init_60 : decode cX9_init 60 = .ok (.invokevirtual 37, 3) := by decide +kernel
theorem dX9_init_63 : decode cX9_init 63 = .ok (.istore 4, 2) := by decide +kernel
theorem dX9_init_65 : decode cX9_init 65 = .ok (.iload 4, 2) := by decide +kernel
theorem dX9_init_67 : decode cX9_init 67 = .ok (.bipush 32, 2) := by decide +kernel
theorem dX9_init_69 : decode cX9_init 69 = .ok (.if_icmp .ne 9, 3) := by decide +kernel
theorem dX9_init_72 : decode cX9_init 72 = .ok (.iinc 2 1, 3) := by decide +kernel
theorem dX9_init_75 : decode cX9_init 75 = .ok (.goto 26, 3) := by decide +kernel
theorem dX9_init_78 : decode cX9_init 78 = .ok (.iload_n 2, 1) := by decide +kernel
theorem dX9_init_79 : decode cX9_init 79 = .ok (.bipush 18, 2) := by decide +kernel
theorem dX9_init_81 : decode cX9_init 81 = .ok (.if_icmp .ge 20, 3) := by decide +kernel
theorem dX9_init_84 : decode cX9_init 84 = .ok (.aload_n 0, 1) := by decide +kernel
theorem dX9_init_85 : decode cX9_init 85 = .ok (.getfield 22, 3) := by decide +kernel
theorem dX9_init_88 : decode cX9_init 88 = .ok (.iload_n 2, 1) := by decide +kernel
theorem dX9_init_89 : decode cX9_init 89 = .ok (.aload_n 0, 1) := by decide +kernel
theorem dX9_init_90 : decode cX9_init 90 = .ok (.getfield 22, 3) := by decide +kernel
theorem dX9_init_93 : decode cX9_init 93 = .ok (.iload_n 2, 1) := by decide +kernel
theorem dX9_init_94 : decode cX9_init 94 = .ok (.laload, 1) := by decide +kernel
theorem dX9_init_95 : decode cX9_init 95 = .ok (.iload 4, 2) := by decide +kernel
theorem dX9_init_97 : decode cX9_init 97 = .ok (.invokestatic 41, 3) := by decide +kernel
theorem dX9_init_100 : decode cX9_init 100 = .ok (.lastore, 1) := by decide +kernel
theorem dX9_init_101 : decode cX9_init 101 = .ok (.iinc 3 1, 3) := by decide +kernel
theorem dX9_init_104 : decode cX9_init 104 = .ok (.goto (-56), 3) := by decide +kernel
theorem dX9_init_107 : decode cX9_init 107 = .ok (.return_, 1) := by decide +kernel
theorem dX9_packed_0 : decode cX9_packed 0 = .ok (.lload_n 0, 1) := by decide +kernel
theorem dX9_packed_1 : decode cX9_packed 1 = .ok (.ldc2_w 45, 3) := by decide +kernel
theorem dX9_packed_4 : decode cX9_packed 4 = .ok (.lmul, 1) := by decide +kernel
theorem dX9_packed_5 : decode cX9_packed 5 = .ok (.iload_n 2, 1) := by decide +kernel
theorem dX9_packed_6 : decode cX9_packed 6 = .ok (.bipush 97, 2) := by decide +kernel
theorem dX9_packed_8 : decode cX9_packed 8 = .ok (.isub, 1) := by decide +kernel
theorem dX9_packed_9 : decode cX9_packed 9 = .ok (.iconst 1, 1) := by decide +kernel
theorem dX9_packed_10 : decode cX9_packed 10 = .ok (.iadd, 1) := by decide +kernel
theorem dX9_packed_11 : decode cX9_packed 11 = .ok (.i2l, 1) := by decide +kernel
theorem dX9_packed_12 : decode cX9_packed 12 = .ok (.ladd, 1) := by decide +kernel
theorem dX9_packed_13 : decode cX9_packed 13 = .ok (.lreturn, 1) := by decide +kernel
theorem dX9_cut_0 : decode cX9_cut 0 = .ok (.aload_n 0, 1) := by decide +kernel
theorem dX9_cut_1 : decode cX9_cut 1 = .ok (.iconst 0, 1) := by decide +kernel
theorem dX9_cut_2 : decode cX9_cut 2 = .ok (.putfield 47, 3) := by decide +kernel
theorem dX9_cut_5 : decode cX9_cut 5 = .ok (.iconst 0, 1) := by decide +kernel
theorem dX9_cut_6 : decode cX9_cut 6 = .ok (.istore_n 2, 1) := by decide +kernel
theorem dX9_cut_7 : decode cX9_cut 7 = .ok (.iload_n 2, 1) := by decide +kernel
theorem dX9_cut_8 : decode cX9_cut 8 = .ok (.aload_n 0, 1) := by decide +kernel
theorem dX9_cut_9 : decode cX9_cut 9 = .ok (.getfield 25, 3) := by decide +kernel
theorem dX9_cut_12 : decode cX9_cut 12 = .ok (.getfield 51, 3) := by decide +kernel
theorem dX9_cut_15 : decode cX9_cut 15 = .ok (.if_icmp .ge 20, 3) := by decide +kernel
theorem dX9_cut_18 : decode cX9_cut 18 = .ok (.aload_n 0, 1) := by decide +kernel
theorem dX9_cut_19 : decode cX9_cut 19 = .ok (.iload_n 2, 1) := by decide +kernel
theorem dX9_cut_20 : decode cX9_cut 20 = .ok (.invokevirtual 55, 3) := by decide +kernel
theorem dX9_cut_23 : decode cX9_cut 23 = .ok (.istore_n 1, 1) := by decide +kernel
theorem dX9_cut_24 : decode cX9_cut 24 = .ok (.iload_n 2, 1) := by decide +kernel
theorem dX9_cut_25 : decode cX9_cut 25 = .ok (.iconst 1, 1) := by decide +kernel
theorem dX9_cut_26 : decode cX9_cut 26 = .ok (.iadd, 1) := by decide +kernel
theorem dX9_cut_27 : decode cX9_cut 27 = .ok (.iload_n 1, 1) := by decide +kernel
theorem dX9_cut_28 : decode cX9_cut 28 = .ok (.invokestatic 59, 3) := by decide +kernel
theorem dX9_cut_31 : decode cX9_cut 31 = .ok (.istore_n 2, 1) := by decide +kernel
theorem dX9_cut_32 : decode cX9_cut 32 = .ok (.goto (-25), 3) := by decide +kernel
theorem dX9_cut_35 : decode cX9_cut 35 = .ok (.aload_n 0, 1) := by decide +kernel
theorem dX9_cut_36 : decode cX9_cut 36 = .ok (.sipush 2003, 3) := by decide +kernel
theorem dX9_cut_39 : decode cX9_cut 39 = .ok (.aload_n 0, 1) := by decide +kernel
theorem dX9_cut_40 : decode cX9_cut 40 = .ok (.getfield 25, 3) := by decide +kernel
theorem dX9_cut_43 : decode cX9_cut 43 = .ok (.getfield 51, 3) := by decide +kernel
theorem dX9_cut_46 : decode cX9_cut 46 = .ok (.lconst 0, 1) := by decide +kernel
theorem dX9_cut_47 : decode cX9_cut 47 = .ok (.invokevirtual 65, 3) := by decide +kernel
theorem dX9_cut_50 : decode cX9_cut 50 = .ok (.return_, 1) := by decide +kernel
theorem dX9_cutOne_0 : decode cX9_cutOne 0 = .ok (.aload_n 0, 1) := by decide +kernel
theorem dX9_cutOne_1 : decode cX9_cutOne 1 = .ok (.iload_n 1, 1) := by decide +kernel
theorem dX9_cutOne_2 : decode cX9_cutOne 2 = .ok (.invokevirtual 69, 3) := by decide +kernel
theorem dX9_cutOne_5 : decode cX9_cutOne 5 = .ok (.istore_n 2, 1) := by decide +kernel
theorem dX9_cutOne_6 : decode cX9_cutOne 6 = .ok (.iload_n 2, 1) := by decide +kernel
theorem dX9_cutOne_7 : decode cX9_cutOne 7 = .ok (.invokestatic 72, 3) := by decide +kernel
theorem dX9_cutOne_10 : decode cX9_cutOne 10 = .ok (.ifCond .eq 9, 3) := by decide +kernel
theorem dX9_cutOne_13 : decode cX9_cutOne 13 = .ok (.aload_n 0, 1) := by decide +kernel
theorem dX9_cutOne_14 : decode cX9_cutOne 14 = .ok (.iload_n 1, 1) := by decide +kernel
theorem dX9_cutOne_15 : decode cX9_cutOne 15 = .ok (.invokevirtual 76, 3) := by decide +kernel
theorem dX9_cutOne_18 : decode cX9_cutOne 18 = .ok (.ireturn, 1) := by decide +kernel
theorem dX9_cutOne_19 : decode cX9_cutOne 19 = .ok (.iload_n 2, 1) := by decide +kernel
theorem dX9_cutOne_20 : decode cX9_cutOne 20 = .ok (.invokestatic 79, 3) := by decide +kernel
theorem dX9_cutOne_23 : decode cX9_cutOne 23 = .ok (.ifCond .eq 9, 3) := by decide +kernel
theorem dX9_cutOne_26 : decode cX9_cutOne 26 = .ok (.aload_n 0, 1) := by decide +kernel
theorem dX9_cutOne_27 : decode cX9_cutOne 27 = .ok (.iload_n 1, 1) := by decide +kernel
theorem dX9_cutOne_28 : decode cX9_cutOne 28 = .ok (.invokevirtual 82, 3) := by decide +kernel
theorem dX9_cutOne_31 : decode cX9_cutOne 31 = .ok (.ireturn, 1) := by decide +kernel
theorem dX9_cutOne_32 : decode cX9_cutOne 32 = .ok (.iload_n 2, 1) := by decide +kernel
theorem dX9_cutOne_33 : decode cX9_cutOne 33 = .ok (.bipush 32, 2) := by decide +kernel
theorem dX9_cutOne_35 : decode cX9_cutOne 35 = .ok (.if_icmp .eq 16, 3) := by decide +kernel
theorem dX9_cutOne_38 : decode cX9_cutOne 38 = .ok (.iload_n 2, 1) := by decide +kernel
theorem dX9_cutOne_39 : decode cX9_cutOne 39 = .ok (.bipush 10, 2) := by decide +kernel
theorem dX9_cutOne_41 : decode cX9_cutOne 41 = .ok (.if_icmp .eq 10, 3) := by decide +kernel
theorem dX9_cutOne_44 : decode cX9_cutOne 44 = .ok (.aload_n 0, 1) := by decide +kernel
theorem dX9_cutOne_45 : decode cX9_cutOne 45 = .ok (.iload_n 2, 1) := by decide +kernel
theorem dX9_cutOne_46 : decode cX9_cutOne 46 = .ok (.iload_n 1, 1) := by decide +kernel
theorem dX9_cutOne_47 : decode cX9_cutOne 47 = .ok (.lconst 0, 1) := by decide +kernel
theorem dX9_cutOne_48 : decode cX9_cutOne 48 = .ok (.invokevirtual 65, 3) := by decide +kernel
theorem dX9_cutOne_51 : decode cX9_cutOne 51 = .ok (.iload_n 1, 1) := by decide +kernel
theorem dX9_cutOne_52 : decode cX9_cutOne 52 = .ok (.iconst 1, 1) := by decide +kernel
theorem dX9_cutOne_53 : decode cX9_cutOne 53 = .ok (.iadd, 1) := by decide +kernel
theorem dX9_cutOne_54 : decode cX9_cutOne 54 = .ok (.ireturn, 1) := by decide +kernel
theorem dX9_cutWord_0 : decode cX9_cutWord 0 = .ok (.lconst 0, 1) := by decide +kernel
theorem dX9_cutWord_1 : decode cX9_cutWord 1 = .ok (.lstore_n 2, 1) := by decide +kernel
theorem dX9_cutWord_2 : decode cX9_cutWord 2 = .ok (.iload_n 1, 1) := by decide +kernel
theorem dX9_cutWord_3 : decode cX9_cutWord 3 = .ok (.istore 4, 2) := by decide +kernel
theorem dX9_cutWord_5 : decode cX9_cutWord 5 = .ok (.iload 4, 2) := by decide +kernel
theorem dX9_cutWord_7 : decode cX9_cutWord 7 = .ok (.aload_n 0, 1) := by decide +kernel
theorem dX9_cutWord_8 : decode cX9_cutWord 8 = .ok (.getfield 25, 3) := by decide +kernel
theorem dX9_cutWord_11 : decode cX9_cutWord 11 = .ok (.getfield 51, 3) := by decide +kernel
theorem dX9_cutWord_14 : decode cX9_cutWord 14 = .ok (.if_icmp .ge 32, 3) := by decide +kernel
theorem dX9_cutWord_17 : decode cX9_cutWord 17 = .ok (.aload_n 0, 1) := by decide +kernel
theorem dX9_cutWord_18 : decode cX9_cutWord 18 = .ok (.iload 4, 2) := by decide +kernel
theorem dX9_cutWord_20 : decode cX9_cutWord 20 = .ok (.invokevirtual 69, 3) := by decide +kernel
theorem dX9_cutWord_23 : decode cX9_cutWord 23 = .ok (.invokestatic 72, 3) := by decide +kernel
theorem dX9_cutWord_26 : decode cX9_cutWord 26 = .ok (.ifCond .eq 20, 3) := by decide +kernel
theorem dX9_cutWord_29 : decode cX9_cutWord 29 = .ok (.lload_n 2, 1) := by decide +kernel
theorem dX9_cutWord_30 : decode cX9_cutWord 30 = .ok (.aload_n 0, 1) := by decide +kernel
theorem dX9_cutWord_31 : decode cX9_cutWord 31 = .ok (.iload 4, 2) := by decide +kernel
theorem dX9_cutWord_33 : decode cX9_cutWord 33 = .ok (.invokevirtual 69, 3) := by decide +kernel
theorem dX9_cutWord_36 : decode cX9_cutWord 36 = .ok (.invokestatic 41, 3) := by decide +kernel
theorem dX9_cutWord_39 : decode cX9_cutWord 39 = .ok (.lstore_n 2, 1) := by decide +kernel
theorem dX9_cutWord_40 : decode cX9_cutWord 40 = .ok (.iinc 4 1, 3) := by decide +kernel
theorem dX9_cutWord_43 : decode cX9_cutWord 43 = .ok (.goto (-38), 3) := by decide +kernel
theorem dX9_cutWord_46 : decode cX9_cutWord 46 = .ok (.aload_n 0, 1) := by decide +kernel
theorem dX9_cutWord_47 : decode cX9_cutWord 47 = .ok (.iload 4, 2) := by decide +kernel
theorem dX9_cutWord_49 : decode cX9_cutWord 49 = .ok (.iload_n 1, 1) := by decide +kernel
theorem dX9_cutWord_50 : decode cX9_cutWord 50 = .ok (.isub, 1) := by decide +kernel
theorem dX9_cutWord_51 : decode cX9_cutWord 51 = .ok (.bipush 7, 2) := by decide +kernel
theorem dX9_cutWord_53 : decode cX9_cutWord 53 = .ok (.if_icmp .le 9, 3) := by decide +kernel
theorem dX9_cutWord_56 : decode cX9_cutWord 56 = .ok (.sipush 2002, 3) := by decide +kernel
theorem dX9_cutWord_59 : decode cX9_cutWord 59 = .ok (.goto 8, 3) := by decide +kernel
theorem dX9_cutWord_62 : decode cX9_cutWord 62 = .ok (.aload_n 0, 1) := by decide +kernel
theorem dX9_cutWord_63 : decode cX9_cutWord 63 = .ok (.lload_n 2, 1) := by decide +kernel
theorem dX9_cutWord_64 : decode cX9_cutWord 64 = .ok (.invokevirtual 85, 3) := by decide +kernel
theorem dX9_cutWord_67 : decode cX9_cutWord 67 = .ok (.iload_n 1, 1) := by decide +kernel
theorem dX9_cutWord_68 : decode cX9_cutWord 68 = .ok (.lload_n 2, 1) := by decide +kernel
theorem dX9_cutWord_69 : decode cX9_cutWord 69 = .ok (.invokevirtual 65, 3) := by decide +kernel
theorem dX9_cutWord_72 : decode cX9_cutWord 72 = .ok (.iload 4, 2) := by decide +kernel
theorem dX9_cutWord_74 : decode cX9_cutWord 74 = .ok (.ireturn, 1) := by decide +kernel
theorem dX9_cutNumber_0 : decode cX9_cutNumber 0 = .ok (.lconst 0, 1) := by decide +kernel
theorem dX9_cutNumber_1 : decode cX9_cutNumber 1 = .ok (.lstore_n 2, 1) := by decide +kernel
theorem dX9_cutNumber_2 : decode cX9_cutNumber 2 = .ok (.iload_n 1, 1) := by decide +kernel
theorem dX9_cutNumber_3 : decode cX9_cutNumber 3 = .ok (.istore 4, 2) := by decide +kernel
theorem dX9_cutNumber_5 : decode cX9_cutNumber 5 = .ok (.iload 4, 2) := by decide +kernel
theorem dX9_cutNumber_7 : decode cX9_cutNumber 7 = .ok (.aload_n 0, 1) := by decide +kernel
theorem dX9_cutNumber_8 : decode cX9_cutNumber 8 = .ok (.getfield 25, 3) := by decide +kernel
theorem dX9_cutNumber_11 : decode cX9_cutNumber 11 = .ok (.getfield 51, 3) := by decide +kernel
theorem dX9_cutNumber_14 : decode cX9_cutNumber 14 = .ok (.if_icmp .ge 38, 3) := by decide +kernel
theorem dX9_cutNumber_17 : decode cX9_cutNumber 17 = .ok (.aload_n 0, 1) := by decide +kernel
theorem dX9_cutNumber_18 : decode cX9_cutNumber 18 = .ok (.iload 4, 2) := by decide +kernel
theorem dX9_cutNumber_20 : decode cX9_cutNumber 20 = .ok (.invokevirtual 69, 3) := by decide +kernel
theorem dX9_cutNumber_23 : decode cX9_cutNumber 23 = .ok (.invokestatic 79, 3) := by decide +kernel
theorem dX9_cutNumber_26 : decode cX9_cutNumber 26 = .ok (.ifCond .eq 26, 3) := by decide +kernel
theorem dX9_cutNumber_29 : decode cX9_cutNumber 29 = .ok (.lload_n 2, 1) := by decide +kernel
theorem dX9_cutNumber_30 : decode cX9_cutNumber 30 = .ok (.ldc2_w 89, 3) := by decide +kernel
theorem dX9_cutNumber_33 : decode cX9_cutNumber 33 = .ok (.lmul, 1) := by decide +kernel
theorem dX9_cutNumber_34 : decode cX9_cutNumber 34 = .ok (.aload_n 0, 1) := by decide +kernel
theorem dX9_cutNumber_35 : decode cX9_cutNumber 35 = .ok (.iload 4, 2) := by decide +kernel
theorem dX9_cutNumber_37 : decode cX9_cutNumber 37 = .ok (.invokevirtual 69, 3) := by decide +kernel
theorem dX9_cutNumber_40 : decode cX9_cutNumber 40 = .ok (.bipush 48, 2) := by decide +kernel
theorem dX9_cutNumber_42 : decode cX9_cutNumber 42 = .ok (.isub, 1) := by decide +kernel
theorem dX9_cutNumber_43 : decode cX9_cutNumber 43 = .ok (.i2l, 1) := by decide +kernel
theorem dX9_cutNumber_44 : decode cX9_cutNumber 44 = .ok (.ladd, 1) := by decide +kernel
theorem dX9_cutNumber_45 : decode cX9_cutNumber 45 = .ok (.lstore_n 2, 1) := by decide +kernel
theorem dX9_cutNumber_46 : decode cX9_cutNumber 46 = .ok (.iinc 4 1, 3) := by decide +kernel
theorem dX9_cutNumber_49 : decode cX9_cutNumber 49 = .ok (.goto (-44), 3) := by decide +kernel
theorem dX9_cutNumber_52 : decode cX9_cutNumber 52 = .ok (.aload_n 0, 1) := by decide +kernel
theorem dX9_cutNumber_53 : decode cX9_cutNumber 53 = .ok (.iload 4, 2) := by decide +kernel
theorem dX9_cutNumber_55 : decode cX9_cutNumber 55 = .ok (.iload_n 1, 1) := by decide +kernel
theorem dX9_cutNumber_56 : decode cX9_cutNumber 56 = .ok (.isub, 1) := by decide +kernel
theorem dX9_cutNumber_57 : decode cX9_cutNumber 57 = .ok (.bipush 8, 2) := by decide +kernel
theorem dX9_cutNumber_59 : decode cX9_cutNumber 59 = .ok (.if_icmp .le 9, 3) := by decide +kernel
theorem dX9_cutNumber_62 : decode cX9_cutNumber 62 = .ok (.sipush 2002, 3) := by decide +kernel
theorem dX9_cutNumber_65 : decode cX9_cutNumber 65 = .ok (.goto 6, 3) := by decide +kernel
theorem dX9_cutNumber_68 : decode cX9_cutNumber 68 = .ok (.sipush 2001, 3) := by decide +kernel
theorem dX9_cutNumber_71 : decode cX9_cutNumber 71 = .ok (.iload_n 1, 1) := by decide +kernel
theorem dX9_cutNumber_72 : decode cX9_cutNumber 72 = .ok (.lload_n 2, 1) := by decide +kernel
theorem dX9_cutNumber_73 : decode cX9_cutNumber 73 = .ok (.invokevirtual 65, 3) := by decide +kernel
theorem dX9_cutNumber_76 : decode cX9_cutNumber 76 = .ok (.iload 4, 2) := by decide +kernel
theorem dX9_cutNumber_78 : decode cX9_cutNumber 78 = .ok (.ireturn, 1) := by decide +kernel
theorem dX9_kindOf_0 : decode cX9_kindOf 0 = .ok (.iconst 0, 1) := by decide +kernel
theorem dX9_kindOf_1 : decode cX9_kindOf 1 = .ok (.istore_n 3, 1) := by decide +kernel
theorem dX9_kindOf_2 : decode cX9_kindOf 2 = .ok (.iload_n 3, 1) := by decide +kernel
theorem dX9_kindOf_3 : decode cX9_kindOf 3 = .ok (.bipush 18, 2) := by decide +kernel
theorem dX9_kindOf_5 : decode cX9_kindOf 5 = .ok (.if_icmp .ge 26, 3) := by decide +kernel
theorem dX9_kindOf_8 : decode cX9_kindOf 8 = .ok (.aload_n 0, 1) := by decide +kernel
theorem dX9_kindOf_9 : decode cX9_kindOf 9 = .ok (.getfield 22, 3) := by decide +kernel
theorem dX9_kindOf_12 : decode cX9_kindOf 12 = .ok (.iload_n 3, 1) := by decide +kernel
theorem dX9_kindOf_13 : decode cX9_kindOf 13 = .ok (.laload, 1) := by decide +kernel
theorem dX9_kindOf_14 : decode cX9_kindOf 14 = .ok (.lload_n 1, 1) := by decide +kernel
theorem dX9_kindOf_15 : decode cX9_kindOf 15 = .ok (.lcmp, 1) := by decide +kernel
theorem dX9_kindOf_16 : decode cX9_kindOf 16 = .ok (.ifCond .ne 9, 3) := by decide +kernel
theorem dX9_kindOf_19 : decode cX9_kindOf 19 = .ok (.sipush 1000, 3) := by decide +kernel
theorem dX9_kindOf_22 : decode cX9_kindOf 22 = .ok (.iload_n 3, 1) := by decide +kernel
theorem dX9_kindOf_23 : decode cX9_kindOf 23 = .ok (.iadd, 1) := by decide +kernel
theorem dX9_kindOf_24 : decode cX9_kindOf 24 = .ok (.ireturn, 1) := by decide +kernel
theorem dX9_kindOf_25 : decode cX9_kindOf 25 = .ok (.iinc 3 1, 3) := by decide +kernel
theorem dX9_kindOf_28 : decode cX9_kindOf 28 = .ok (.goto (-26), 3) := by decide +kernel
theorem dX9_kindOf_31 : decode cX9_kindOf 31 = .ok (.sipush 2000, 3) := by decide +kernel
theorem dX9_kindOf_34 : decode cX9_kindOf 34 = .ok (.ireturn, 1) := by decide +kernel
theorem dX9_signAt_0 : decode cX9_signAt 0 = .ok (.iload_n 1, 1) := by decide +kernel
theorem dX9_signAt_1 : decode cX9_signAt 1 = .ok (.ifCond .lt 22, 3) := by decide +kernel
theorem dX9_signAt_4 : decode cX9_signAt 4 = .ok (.iload_n 1, 1) := by decide +kernel
theorem dX9_signAt_5 : decode cX9_signAt 5 = .ok (.sipush 700, 3) := by decide +kernel
theorem dX9_signAt_8 : decode cX9_signAt 8 = .ok (.if_icmp .ge 15, 3) := by decide +kernel
theorem dX9_signAt_11 : decode cX9_signAt 11 = .ok (.aload_n 0, 1) := by decide +kernel
theorem dX9_signAt_12 : decode cX9_signAt 12 = .ok (.getfield 25, 3) := by decide +kernel
theorem dX9_signAt_15 : decode cX9_signAt 15 = .ok (.getfield 91, 3) := by decide +kernel
theorem dX9_signAt_18 : decode cX9_signAt 18 = .ok (.iload_n 1, 1) := by decide +kernel
theorem dX9_signAt_19 : decode cX9_signAt 19 = .ok (.baload, 1) := by decide +kernel
theorem dX9_signAt_20 : decode cX9_signAt 20 = .ok (.goto 4, 3) := by decide +kernel
theorem dX9_signAt_23 : decode cX9_signAt 23 = .ok (.iconst 0, 1) := by decide +kernel
theorem dX9_signAt_24 : decode cX9_signAt 24 = .ok (.ireturn, 1) := by decide +kernel
theorem dX9_isLetter_0 : decode cX9_isLetter 0 = .ok (.iload_n 0, 1) := by decide +kernel
theorem dX9_isLetter_1 : decode cX9_isLetter 1 = .ok (.bipush 97, 2) := by decide +kernel
theorem dX9_isLetter_3 : decode cX9_isLetter 3 = .ok (.if_icmp .lt 13, 3) := by decide +kernel
theorem dX9_isLetter_6 : decode cX9_isLetter 6 = .ok (.iload_n 0, 1) := by decide +kernel
theorem dX9_isLetter_7 : decode cX9_isLetter 7 = .ok (.bipush 122, 2) := by decide +kernel
theorem dX9_isLetter_9 : decode cX9_isLetter 9 = .ok (.if_icmp .gt 7, 3) := by decide +kernel
theorem dX9_isLetter_12 : decode cX9_isLetter 12 = .ok (.iconst 1, 1) := by decide +kernel
theorem dX9_isLetter_13 : decode cX9_isLetter 13 = .ok (.goto 4, 3) := by decide +kernel
theorem dX9_isLetter_16 : decode cX9_isLetter 16 = .ok (.iconst 0, 1) := by decide +kernel
theorem dX9_isLetter_17 : decode cX9_isLetter 17 = .ok (.ireturn, 1) := by decide +kernel
theorem dX9_isDigit_0 : decode cX9_isDigit 0 = .ok (.iload_n 0, 1) := by decide +kernel
theorem dX9_isDigit_1 : decode cX9_isDigit 1 = .ok (.bipush 48, 2) := by decide +kernel
theorem dX9_isDigit_3 : decode cX9_isDigit 3 = .ok (.if_icmp .lt 13, 3) := by decide +kernel
theorem dX9_isDigit_6 : decode cX9_isDigit 6 = .ok (.iload_n 0, 1) := by decide +kernel
theorem dX9_isDigit_7 : decode cX9_isDigit 7 = .ok (.bipush 57, 2) := by decide +kernel
theorem dX9_isDigit_9 : decode cX9_isDigit 9 = .ok (.if_icmp .gt 7, 3) := by decide +kernel
theorem dX9_isDigit_12 : decode cX9_isDigit 12 = .ok (.iconst 1, 1) := by decide +kernel
theorem dX9_isDigit_13 : decode cX9_isDigit 13 = .ok (.goto 4, 3) := by decide +kernel
theorem dX9_isDigit_16 : decode cX9_isDigit 16 = .ok (.iconst 0, 1) := by decide +kernel
theorem dX9_isDigit_17 : decode cX9_isDigit 17 = .ok (.ireturn, 1) := by decide +kernel
theorem dX9_add_0 : decode cX9_add 0 = .ok (.aload_n 0, 1) := by decide +kernel
theorem dX9_add_1 : decode cX9_add 1 = .ok (.getfield 47, 3) := by decide +kernel
theorem dX9_add_4 : decode cX9_add 4 = .ok (.aload_n 0, 1) := by decide +kernel
theorem dX9_add_5 : decode cX9_add 5 = .ok (.getfield 9, 3) := by decide +kernel
theorem dX9_add_8 : decode cX9_add 8 = .ok (.arraylength, 1) := by decide +kernel
theorem dX9_add_9 : decode cX9_add 9 = .ok (.if_icmp .ge 43, 3) := by decide +kernel
theorem dX9_add_12 : decode cX9_add 12 = .ok (.aload_n 0, 1) := by decide +kernel
theorem dX9_add_13 : decode cX9_add 13 = .ok (.getfield 9, 3) := by decide +kernel
theorem dX9_add_16 : decode cX9_add 16 = .ok (.aload_n 0, 1) := by decide +kernel
theorem dX9_add_17 : decode cX9_add 17 = .ok (.getfield 47, 3) := by decide +kernel
theorem dX9_add_20 : decode cX9_add 20 = .ok (.iload_n 1, 1) := by decide +kernel
theorem dX9_add_21 : decode cX9_add 21 = .ok (.iastore, 1) := by decide +kernel
theorem dX9_add_22 : decode cX9_add 22 = .ok (.aload_n 0, 1) := by decide +kernel
theorem dX9_add_23 : decode cX9_add 23 = .ok (.getfield 15, 3) := by decide +kernel
theorem dX9_add_26 : decode cX9_add 26 = .ok (.aload_n 0, 1) := by decide +kernel
theorem dX9_add_27 : decode cX9_add 27 = .ok (.getfield 47, 3) := by decide +kernel
theorem dX9_add_30 : decode cX9_add 30 = .ok (.iload_n 2, 1) := by decide +kernel
theorem dX9_add_31 : decode cX9_add 31 = .ok (.iastore, 1) := by decide +kernel
theorem dX9_add_32 : decode cX9_add 32 = .ok (.aload_n 0, 1) := by decide +kernel
theorem dX9_add_33 : decode cX9_add 33 = .ok (.getfield 18, 3) := by decide +kernel
theorem dX9_add_36 : decode cX9_add 36 = .ok (.aload_n 0, 1) := by decide +kernel
theorem dX9_add_37 : decode cX9_add 37 = .ok (.getfield 47, 3) := by decide +kernel
theorem dX9_add_40 : decode cX9_add 40 = .ok (.lload_n 3, 1) := by decide +kernel
theorem dX9_add_41 : decode cX9_add 41 = .ok (.lastore, 1) := by decide +kernel
theorem dX9_add_42 : decode cX9_add 42 = .ok (.aload_n 0, 1) := by decide +kernel
theorem dX9_add_43 : decode cX9_add 43 = .ok (.dup, 1) := by decide +kernel
theorem dX9_add_44 : decode cX9_add 44 = .ok (.getfield 47, 3) := by decide +kernel
theorem dX9_add_47 : decode cX9_add 47 = .ok (.iconst 1, 1) := by decide +kernel
theorem dX9_add_48 : decode cX9_add 48 = .ok (.iadd, 1) := by decide +kernel
theorem dX9_add_49 : decode cX9_add 49 = .ok (.putfield 47, 3) := by decide +kernel
theorem dX9_add_52 : decode cX9_add 52 = .ok (.return_, 1) := by decide +kernel
theorem dX10_init_0 : decode cX10_init 0 = .ok (.aload_n 0, 1) := by decide +kernel
theorem dX10_init_1 : decode cX10_init 1 = .ok (.invokespecial 3, 3) := by decide +kernel
theorem dX10_init_4 : decode cX10_init 4 = .ok (.aload_n 0, 1) := by decide +kernel
theorem dX10_init_5 : decode cX10_init 5 = .ok (.new 9, 3) := by decide +kernel
theorem dX10_init_8 : decode cX10_init 8 = .ok (.dup, 1) := by decide +kernel
theorem dX10_init_9 : decode cX10_init 9 = .ok (.invokespecial 11, 3) := by decide +kernel
theorem dX10_init_12 : decode cX10_init 12 = .ok (.putfield 12, 3) := by decide +kernel
theorem dX10_init_15 : decode cX10_init 15 = .ok (.aload_n 0, 1) := by decide +kernel
theorem dX10_init_16 : decode cX10_init 16 = .ok (.new 16, 3) := by decide +kernel
theorem dX10_init_19 : decode cX10_init 19 = .ok (.dup, 1) := by decide +kernel
theorem dX10_init_20 : decode cX10_init 20 = .ok (.invokespecial 18, 3) := by decide +kernel
theorem dX10_init_23 : decode cX10_init 23 = .ok (.putfield 19, 3) := by decide +kernel
theorem dX10_init_26 : decode cX10_init 26 = .ok (.aload_n 0, 1) := by decide +kernel
theorem dX10_init_27 : decode cX10_init 27 = .ok (.new 16, 3) := by decide +kernel
theorem dX10_init_30 : decode cX10_init 30 = .ok (.dup, 1) := by decide +kernel
theorem dX10_init_31 : decode cX10_init 31 = .ok (.invokespecial 18, 3) := by decide +kernel
theorem dX10_init_34 : decode cX10_init 34 = .ok (.putfield 23, 3) := by decide +kernel
theorem dX10_init_37 : decode cX10_init 37 = .ok (.aload_n 0, 1) := by decide +kernel
theorem dX10_init_38 : decode cX10_init 38 = .ok (.new 26, 3) := by decide +kernel
theorem dX10_init_41 : decode cX10_init 41 = .ok (.dup, 1) := by decide +kernel
theorem dX10_init_42 : decode cX10_init 42 = .ok (.invokespecial 28, 3) := by decide +kernel
theorem dX10_init_45 : decode cX10_init 45 = .ok (.putfield 29, 3) := by decide +kernel
theorem dX10_init_48 : decode cX10_init 48 = .ok (.aload_n 0, 1) := by decide +kernel
theorem dX10_init_49 : decode cX10_init 49 = .ok (.new 26, 3) := by decide +kernel
theorem dX10_init_52 : decode cX10_init 52 = .ok (.dup, 1) := by decide +kernel
theorem dX10_init_53 : decode cX10_init 53 = .ok (.invokespecial 28, 3) := by decide +kernel
theorem dX10_init_56 : decode cX10_init 56 = .ok (.putfield 33, 3) := by decide +kernel
theorem dX10_init_59 : decode cX10_init 59 = .ok (.aload_n 0, 1) := by decide +kernel
theorem dX10_init_60 : decode cX10_init 60 = .ok (.new 36, 3) := by decide +kernel
theorem dX10_init_63 : decode cX10_init 63 = .ok (.dup, 1) := by decide +kernel
theorem dX10_init_64 : decode cX10_init 64 = .ok (.aload_n 0, 1) := by decide +kernel
theorem dX10_init_65 : decode cX10_init 65 = .ok (.getfield 12, 3) := by decide +kernel
theorem dX10_init_68 : decode cX10_init 68 = .ok (.aload_n 0, 1) := by decide +kernel
theorem dX10_init_69 : decode cX10_init 69 = .ok (.getfield 23, 3) := by decide +kernel
theorem dX10_init_72 : decode cX10_init 72 = .ok (.aload_n 0, 1) := by decide +kernel
theorem dX10_init_73 : decode cX10_init 73 = .ok (.getfield 33, 3) := by decide +kernel
theorem dX10_init_76 : decode cX10_init 76 = .ok (.invokespecial 38, 3) := by decide +kernel
theorem dX10_init_79 : decode cX10_init 79 = .ok (.putfield 41, 3) := by decide +kernel
theorem dX10_init_82 : decode cX10_init 82 = .ok (.aload_n 0, 1) := by decide +kernel
theorem dX10_init_83 : decode cX10_init 83 = .ok (.new 45, 3) := by decide +kernel
theorem dX10_init_86 : decode cX10_init 86 = .ok (.dup, 1) := by decide +kernel
theorem dX10_init_87 : decode cX10_init 87 = .ok (.invokespecial 47, 3) := by decide +kernel
theorem dX10_init_90 : decode cX10_init 90 = .ok (.putfield 48, 3) := by decide +kernel
theorem dX10_init_93 : decode cX10_init 93 = .ok (.aload_n 0, 1) := by decide +kernel
theorem dX10_init_94 : decode cX10_init 94 = .ok (.new 52, 3) := by decide +kernel
theorem dX10_init_97 : decode cX10_init 97 = .ok (.dup, 1) := by decide +kernel
theorem dX10_init_98 : decode cX10_init 98 = .ok (.aload_n 0, 1) := by decide +kernel
theorem dX10_init_99 : decode cX10_init 99 = .ok (.getfield 19, 3) := by decide +kernel
theorem dX10_init_102 : decode cX10_init 102 = .ok (.aload_n 0, 1) := by decide +kernel
theorem dX10_init_103 : decode cX10_init 103 = .ok (.getfield 29, 3) := by decide +kernel
theorem dX10_init_106 : decode cX10_init 106 = .ok (.invokespecial 54, 3) := by decide +kernel
theorem dX10_init_109 : decode cX10_init 109 = .ok (.putfield 57, 3) := by decide +kernel
theorem dX10_init_112 : decode cX10_init 112 = .ok (.aload_n 0, 1) := by decide +kernel
theorem dX10_init_113 : decode cX10_init 113 = .ok (.new 61, 3) := by decide +kernel
theorem dX10_init_116 : decode cX10_init 116 = .ok (.dup, 1) := by decide +kernel
theorem dX10_init_117 : decode cX10_init 117 = .ok (.aload_n 0, 1) := by decide +kernel
theorem dX10_init_118 : decode cX10_init 118 = .ok (.getfield 19, 3) := by decide +kernel
theorem dX10_init_121 : decode cX10_init 121 = .ok (.aload_n 0, 1) := by decide +kernel
theorem dX10_init_122 : decode cX10_init 122 = .ok (.getfield 57, 3) := by decide +kernel
theorem dX10_init_125 : decode cX10_init 125 = .ok (.invokespecial 63, 3) := by decide +kernel
theorem dX10_init_128 : decode cX10_init 128 = .ok (.putfield 66, 3) := by decide +kernel
theorem dX10_init_131 : decode cX10_init 131 = .ok (.return_, 1) := by decide +kernel
theorem dX10_feed_0 : decode cX10_feed 0 = .ok (.aload_n 0, 1) := by decide +kernel
theorem dX10_feed_1 : decode cX10_feed 1 = .ok (.getfield 12, 3) := by decide +kernel
theorem dX10_feed_4 : decode cX10_feed 4 = .ok (.bipush 20, 2) := by decide +kernel
theorem dX10_feed_6 : decode cX10_feed 6 = .ok (.invokevirtual 70, 3) := by decide +kernel
theorem dX10_feed_9 : decode cX10_feed 9 = .ok (.ifCond .ne 5, 3) := by decide +kernel
theorem dX10_feed_12 : decode cX10_feed 12 = .ok (.iconst (-1), 1) := by decide +kernel
theorem dX10_feed_13 : decode cX10_feed 13 = .ok (.ireturn, 1) := by decide +kernel
theorem dX10_feed_14 : decode cX10_feed 14 = .ok (.aload_n 0, 1) := by decide +kernel
theorem dX10_feed_15 : decode cX10_feed 15 = .ok (.getfield 12, 3) := by decide +kernel
theorem dX10_feed_18 : decode cX10_feed 18 = .ok (.iload_n 1, 1) := by decide +kernel
theorem dX10_feed_19 : decode cX10_feed 19 = .ok (.invokevirtual 74, 3) := by decide +kernel
theorem dX10_feed_22 : decode cX10_feed 22 = .ok (.aload_n 0, 1) := by decide +kernel
theorem dX10_feed_23 : decode cX10_feed 23 = .ok (.getfield 12, 3) := by decide +kernel
theorem dX10_feed_26 : decode cX10_feed 26 = .ok (.iload_n 2, 1) := by decide +kernel
theorem dX10_feed_27 : decode cX10_feed 27 = .ok (.invokevirtual 74, 3) := by decide +kernel
theorem dX10_feed_30 : decode cX10_feed 30 = .ok (.aload_n 0, 1) := by decide +kernel
theorem dX10_feed_31 : decode cX10_feed 31 = .ok (.getfield 12, 3) := by decide +kernel
theorem dX10_feed_34 : decode cX10_feed 34 = .ok (.iload_n 3, 1) := by decide +kernel
theorem dX10_feed_35 : decode cX10_feed 35 = .ok (.invokevirtual 74, 3) := by decide +kernel
theorem dX10_feed_38 : decode cX10_feed 38 = .ok (.aload_n 0, 1) := by decide +kernel
theorem dX10_feed_39 : decode cX10_feed 39 = .ok (.getfield 12, 3) := by decide +kernel
theorem dX10_feed_42 : decode cX10_feed 42 = .ok (.iload 4, 2) := by decide +kernel
theorem dX10_feed_44 : decode cX10_feed 44 = .ok (.invokevirtual 74, 3) := by decide +kernel
theorem dX10_feed_47 : decode cX10_feed 47 = .ok (.aload_n 0, 1) := by decide +kernel
theorem dX10_feed_48 : decode cX10_feed 48 = .ok (.getfield 12, 3) := by decide +kernel
theorem dX10_feed_51 : decode cX10_feed 51 = .ok (.iload 5, 2) := by decide +kernel
theorem dX10_feed_53 : decode cX10_feed 53 = .ok (.invokevirtual 74, 3) := by decide +kernel
theorem dX10_feed_56 : decode cX10_feed 56 = .ok (.aload_n 0, 1) := by decide +kernel
theorem dX10_feed_57 : decode cX10_feed 57 = .ok (.getfield 12, 3) := by decide +kernel
theorem dX10_feed_60 : decode cX10_feed 60 = .ok (.getfield 78, 3) := by decide +kernel
theorem dX10_feed_63 : decode cX10_feed 63 = .ok (.ireturn, 1) := by decide +kernel
theorem dX10_end_0 : decode cX10_end 0 = .ok (.iload_n 1, 1) := by decide +kernel
theorem dX10_end_1 : decode cX10_end 1 = .ok (.ifCond .lt 14, 3) := by decide +kernel
theorem dX10_end_4 : decode cX10_end 4 = .ok (.iload_n 1, 1) := by decide +kernel
theorem dX10_end_5 : decode cX10_end 5 = .ok (.aload_n 0, 1) := by decide +kernel
theorem dX10_end_6 : decode cX10_end 6 = .ok (.getfield 12, 3) := by decide +kernel
theorem dX10_end_9 : decode cX10_end 9 = .ok (.getfield 78, 3) := by decide +kernel
theorem dX10_end_12 : decode cX10_end 12 = .ok (.if_icmp .le 5, 3) := by decide +kernel
theorem dX10_end_15 : decode cX10_end 15 = .ok (.iconst 0, 1) := by decide +kernel
theorem dX10_end_16 : decode cX10_end 16 = .ok (.ireturn, 1) := by decide +kernel
theorem dX10_end_17 : decode cX10_end 17 = .ok (.aload_n 0, 1) := by decide +kernel
theorem dX10_end_18 : decode cX10_end 18 = .ok (.getfield 12, 3) := by decide +kernel
theorem dX10_end_21 : decode cX10_end 21 = .ok (.iload_n 1, 1) := by decide +kernel
theorem dX10_end_22 : decode cX10_end 22 = .ok (.putfield 78, 3) := by decide +kernel
theorem dX10_end_25 : decode cX10_end 25 = .ok (.iconst 1, 1) := by decide +kernel
theorem dX10_end_26 : decode cX10_end 26 = .ok (.ireturn, 1) := by decide +kernel
theorem dX10_book_0 : decode cX10_book 0 = .ok (.aload_n 0, 1) := by decide +kernel
theorem dX10_book_1 : decode cX10_book 1 = .ok (.getfield 41, 3) := by decide +kernel
theorem dX10_book_4 : decode cX10_book 4 = .ok (.invokevirtual 82, 3) := by decide +kernel
theorem dX10_book_7 : decode cX10_book 7 = .ok (.istore_n 1, 1) := by decide +kernel
theorem dX10_book_8 : decode cX10_book 8 = .ok (.aload_n 0, 1) := by decide +kernel
theorem dX10_book_9 : decode cX10_book 9 = .ok (.getfield 12, 3) := by decide +kernel
theorem dX10_book_12 : decode cX10_book 12 = .ok (.iconst 0, 1) := by decide +kernel
theorem dX10_book_13 : decode cX10_book 13 = .ok (.putfield 78, 3) := by decide +kernel
theorem dX10_book_16 : decode cX10_book 16 = .ok (.iload_n 1, 1) := by decide +kernel
theorem dX10_book_17 : decode cX10_book 17 = .ok (.ifCond .ne 5, 3) := by decide +kernel
theorem dX10_book_20 : decode cX10_book 20 = .ok (.iconst (-1), 1) := by decide +kernel
theorem dX10_book_21 : decode cX10_book 21 = .ok (.ireturn, 1) := by decide +kernel
theorem dX10_book_22 : decode cX10_book 22 = .ok (.aload_n 0, 1) := by decide +kernel
theorem dX10_book_23 : decode cX10_book 23 = .ok (.getfield 19, 3) := by decide +kernel
theorem dX10_book_26 : decode cX10_book 26 = .ok (.aload_n 0, 1) := by decide +kernel
theorem dX10_book_27 : decode cX10_book 27 = .ok (.getfield 23, 3) := by decide +kernel
theorem dX10_book_30 : decode cX10_book 30 = .ok (.invokevirtual 86, 3) := by decide +kernel
theorem dX10_book_33 : decode cX10_book 33 = .ok (.aload_n 0, 1) := by decide +kernel
theorem dX10_book_34 : decode cX10_book 34 = .ok (.getfield 29, 3) := by decide +kernel
theorem dX10_book_37 : decode cX10_book 37 = .ok (.aload_n 0, 1) := by decide +kernel
theorem dX10_book_38 : decode cX10_book 38 = .ok (.getfield 33, 3) := by decide +kernel
theorem dX10_book_41 : decode cX10_book 41 = .ok (.invokevirtual 90, 3) := by decide +kernel
theorem dX10_book_44 : decode cX10_book 44 = .ok (.aload_n 0, 1) := by decide +kernel
theorem dX10_book_45 : decode cX10_book 45 = .ok (.getfield 48, 3) := by decide +kernel
theorem dX10_book_48 : decode cX10_book 48 = .ok (.iconst 0, 1) := by decide +kernel
theorem dX10_book_49 : decode cX10_book 49 = .ok (.putfield 93, 3) := by decide +kernel
theorem dX10_book_52 : decode cX10_book 52 = .ok (.aload_n 0, 1) := by decide +kernel
theorem dX10_book_53 : decode cX10_book 53 = .ok (.getfield 19, 3) := by decide +kernel
theorem dX10_book_56 : decode cX10_book 56 = .ok (.getfield 96, 3) := by decide +kernel
theorem dX10_book_59 : decode cX10_book 59 = .ok (.ireturn, 1) := by decide +kernel
theorem dX10_join_0 : decode cX10_join 0 = .ok (.aload_n 0, 1) := by decide +kernel
theorem dX10_join_1 : decode cX10_join 1 = .ok (.getfield 23, 3) := by decide +kernel
theorem dX10_join_4 : decode cX10_join 4 = .ok (.aload_n 0, 1) := by decide +kernel
theorem dX10_join_5 : decode cX10_join 5 = .ok (.getfield 19, 3) := by decide +kernel
theorem dX10_join_8 : decode cX10_join 8 = .ok (.invokevirtual 86, 3) := by decide +kernel
theorem dX10_join_11 : decode cX10_join 11 = .ok (.aload_n 0, 1) := by decide +kernel
theorem dX10_join_12 : decode cX10_join 12 = .ok (.getfield 41, 3) := by decide +kernel
theorem dX10_join_15 : decode cX10_join 15 = .ok (.invokevirtual 99, 3) := by decide +kernel
theorem dX10_join_18 : decode cX10_join 18 = .ok (.istore_n 1, 1) := by decide +kernel
theorem dX10_join_19 : decode cX10_join 19 = .ok (.aload_n 0, 1) := by decide +kernel
theorem dX10_join_20 : decode cX10_join 20 = .ok (.getfield 12, 3) := by decide +kernel
theorem dX10_join_23 : decode cX10_join 23 = .ok (.iconst 0, 1) := by decide +kernel
theorem dX10_join_24 : decode cX10_join 24 = .ok (.putfield 78, 3) := by decide +kernel
theorem dX10_join_27 : decode cX10_join 27 = .ok (.iload_n 1, 1) := by decide +kernel
theorem dX10_join_28 : decode cX10_join 28 = .ok (.ifCond .ne 5, 3) := by decide +kernel
theorem dX10_join_31 : decode cX10_join 31 = .ok (.iconst (-1), 1) := by decide +kernel
theorem dX10_join_32 : decode cX10_join 32 = .ok (.ireturn, 1) := by decide +kernel
theorem dX10_join_33 : decode cX10_join 33 = .ok (.aload_n 0, 1) := by decide +kernel
theorem dX10_join_34 : decode cX10_join 34 = .ok (.getfield 23, 3) := by decide +kernel
theorem dX10_join_37 : decode cX10_join 37 = .ok (.aload_n 0, 1) := by decide +kernel
theorem dX10_join_38 : decode cX10_join 38 = .ok (.getfield 23, 3) := by decide +kernel
theorem dX10_join_41 : decode cX10_join 41 = .ok (.getfield 102, 3) := by decide +kernel
theorem dX10_join_44 : decode cX10_join 44 = .ok (.iconst 1, 1) := by decide +kernel
theorem dX10_join_45 : decode cX10_join 45 = .ok (.isub, 1) := by decide +kernel
theorem dX10_join_46 : decode cX10_join 46 = .ok (.invokestatic 105, 3) := by decide +kernel
theorem dX10_join_49 : decode cX10_join 49 = .ok (.lstore_n 2, 1) := by decide +kernel
theorem dX10_join_50 : decode cX10_join 50 = .ok (.aload_n 0, 1) := by decide +kernel
theorem dX10_join_51 : decode cX10_join 51 = .ok (.getfield 23, 3) := by decide +kernel
theorem dX10_join_54 : decode cX10_join 54 = .ok (.getfield 109, 3) := by decide +kernel
theorem dX10_join_57 : decode cX10_join 57 = .ok (.iconst 1, 1) := by decide +kernel
theorem dX10_join_58 : decode cX10_join 58 = .ok (.dup2, 1) := by decide +kernel
theorem dX10_join_59 : decode cX10_join 59 = .ok (.laload, 1) := by decide +kernel
theorem dX10_join_60 : decode cX10_join 60 = .ok (.lload_n 2, 1) := by decide +kernel
theorem dX10_join_61 : decode cX10_join 61 = .ok (.ladd, 1) := by decide +kernel
theorem dX10_join_62 : decode cX10_join 62 = .ok (.lastore, 1) := by decide +kernel
theorem dX10_join_63 : decode cX10_join 63 = .ok (.aload_n 0, 1) := by decide +kernel
theorem dX10_join_64 : decode cX10_join 64 = .ok (.getfield 48, 3) := by decide +kernel
theorem dX10_join_67 : decode cX10_join 67 = .ok (.aload_n 0, 1) := by decide +kernel
theorem dX10_join_68 : decode cX10_join 68 = .ok (.getfield 19, 3) := by decide +kernel
theorem dX10_join_71 : decode cX10_join 71 = .ok (.invokevirtual 113, 3) := by decide +kernel
theorem dX10_join_74 : decode cX10_join 74 = .ok (.aload_n 0, 1) := by decide +kernel
theorem dX10_join_75 : decode cX10_join 75 = .ok (.getfield 19, 3) := by decide +kernel
theorem dX10_join_78 : decode cX10_join 78 = .ok (.aload_n 0, 1) := by decide +kernel
theorem dX10_join_79 : decode cX10_join 79 = .ok (.getfield 23, 3) := by decide +kernel
theorem dX10_join_82 : decode cX10_join 82 = .ok (.invokevirtual 86, 3) := by decide +kernel
theorem dX10_join_85 : decode cX10_join 85 = .ok (.lload_n 2, 1) := by decide +kernel
theorem dX10_join_86 : decode cX10_join 86 = .ok (.l2i, 1) := by decide +kernel
theorem dX10_join_87 : decode cX10_join 87 = .ok (.ireturn, 1) := by decide +kernel
theorem dX10_buyIn_0 : decode cX10_buyIn 0 = .ok (.aload_n 0, 1) := by decide +kernel
theorem dX10_buyIn_1 : decode cX10_buyIn 1 = .ok (.iload_n 1, 1) := by decide +kernel
theorem dX10_buyIn_2 : decode cX10_buyIn 2 = .ok (.invokevirtual 116, 3) := by decide +kernel
theorem dX10_buyIn_5 : decode cX10_buyIn 5 = .ok (.lstore_n 2, 1) := by decide +kernel
theorem dX10_buyIn_6 : decode cX10_buyIn 6 = .ok (.aload_n 0, 1) := by decide +kernel
theorem dX10_buyIn_7 : decode cX10_buyIn 7 = .ok (.invokevirtual 120, 3) := by decide +kernel
theorem dX10_buyIn_10 : decode cX10_buyIn 10 = .ok (.lload_n 2, 1) := by decide +kernel
theorem dX10_buyIn_11 : decode cX10_buyIn 11 = .ok (.lsub, 1) := by decide +kernel
theorem dX10_buyIn_12 : decode cX10_buyIn 12 = .ok (.lstore 4, 2) := by decide +kernel
theorem dX10_buyIn_14 : decode cX10_buyIn 14 = .ok (.lload 4, 2) := by decide +kernel
theorem dX10_buyIn_16 : decode cX10_buyIn 16 = .ok (.lconst 0, 1) := by decide +kernel
theorem dX10_buyIn_17 : decode cX10_buyIn 17 = .ok (.lcmp, 1) := by decide +kernel
theorem dX10_buyIn_18 : decode cX10_buyIn 18 = .ok (.ifCond .gt 5, 3) := by decide +kernel
theorem dX10_buyIn_21 : decode cX10_buyIn 21 = .ok (.lconst 0, 1) := by decide +kernel
theorem dX10_buyIn_22 : decode cX10_buyIn 22 = .ok (.lreturn, 1) := by decide +kernel
theorem dX10_buyIn_23 : decode cX10_buyIn 23 = .ok (.ldc2_w 124, 3) := by decide +kernel
theorem dX10_buyIn_26 : decode cX10_buyIn 26 = .ok (.aload_n 0, 1) := by decide +kernel
theorem dX10_buyIn_27 : decode cX10_buyIn 27 = .ok (.getfield 109, 3) := by decide +kernel
theorem dX10_buyIn_30 : decode cX10_buyIn 30 = .ok (.iconst 1, 1) := by decide +kernel
theorem dX10_buyIn_31 : decode cX10_buyIn 31 = .ok (.laload, 1) := by decide +kernel
theorem dX10_buyIn_32 : decode cX10_buyIn 32 = .ok (.lload_n 2, 1) := by decide +kernel
theorem dX10_buyIn_33 : decode cX10_buyIn 33 = .ok (.lmul, 1) := by decide +kernel
theorem dX10_buyIn_34 : decode cX10_buyIn 34 = .ok (.lload 4, 2) := by decide +kernel
theorem dX10_buyIn_36 : decode cX10_buyIn 36 = .ok (.ldiv, 1) := by decide +kernel
theorem dX10_buyIn_37 : decode cX10_buyIn 37 = .ok (.invokestatic 126, 3) := by decide +kernel
theorem dX10_buyIn_40 : decode cX10_buyIn 40 = .ok (.lreturn, 1) := by decide +kernel
theorem dX10_fault_0 : decode cX10_fault 0 = .ok (.iload_n 1, 1) := by decide +kernel
theorem dX10_fault_1 : decode cX10_fault 1 = .ok (.ifCond .ne 11, 3) := by decide +kernel
theorem dX10_fault_4 : decode cX10_fault 4 = .ok (.aload_n 0, 1) := by decide +kernel
theorem dX10_fault_5 : decode cX10_fault 5 = .ok (.getfield 41, 3) := by decide +kernel
theorem dX10_fault_8 : decode cX10_fault 8 = .ok (.getfield 132, 3) := by decide +kernel
theorem dX10_fault_11 : decode cX10_fault 11 = .ok (.ireturn, 1) := by decide +kernel
theorem dX10_fault_12 : decode cX10_fault 12 = .ok (.iload_n 1, 1) := by decide +kernel
theorem dX10_fault_13 : decode cX10_fault 13 = .ok (.iconst 1, 1) := by decide +kernel
theorem dX10_fault_14 : decode cX10_fault 14 = .ok (.if_icmp .ne 13, 3) := by decide +kernel
theorem dX10_fault_17 : decode cX10_fault 17 = .ok (.aload_n 0, 1) := by decide +kernel
theorem dX10_fault_18 : decode cX10_fault 18 = .ok (.getfield 41, 3) := by decide +kernel
theorem dX10_fault_21 : decode cX10_fault 21 = .ok (.getfield 135, 3) := by decide +kernel
theorem dX10_fault_24 : decode cX10_fault 24 = .ok (.goto 4, 3) := by decide +kernel
theorem dX10_fault_27 : decode cX10_fault 27 = .ok (.iconst (-1), 1) := by decide +kernel
theorem dX10_fault_28 : decode cX10_fault 28 = .ok (.ireturn, 1) := by decide +kernel
theorem dX10_named_0 : decode cX10_named 0 = .ok (.aload_n 0, 1) := by decide +kernel
theorem dX10_named_1 : decode cX10_named 1 = .ok (.getfield 41, 3) := by decide +kernel
theorem dX10_named_4 : decode cX10_named 4 = .ok (.invokevirtual 138, 3) := by decide +kernel
theorem dX10_named_7 : decode cX10_named 7 = .ok (.lstore_n 1, 1) := by decide +kernel
theorem dX10_named_8 : decode cX10_named 8 = .ok (.aload_n 0, 1) := by decide +kernel
theorem dX10_named_9 : decode cX10_named 9 = .ok (.getfield 12, 3) := by decide +kernel
theorem dX10_named_12 : decode cX10_named 12 = .ok (.iconst 0, 1) := by decide +kernel
theorem dX10_named_13 : decode cX10_named 13 = .ok (.putfield 78, 3) := by decide +kernel
theorem dX10_named_16 : decode cX10_named 16 = .ok (.aload_n 0, 1) := by decide +kernel
theorem dX10_named_17 : decode cX10_named 17 = .ok (.getfield 19, 3) := by decide +kernel
theorem dX10_named_20 : decode cX10_named 20 = .ok (.lload_n 1, 1) := by decide +kernel
theorem dX10_named_21 : decode cX10_named 21 = .ok (.invokevirtual 141, 3) := by decide +kernel
theorem dX10_named_24 : decode cX10_named 24 = .ok (.istore_n 3, 1) := by decide +kernel
theorem dX10_named_25 : decode cX10_named 25 = .ok (.aload_n 0, 1) := by decide +kernel
theorem dX10_named_26 : decode cX10_named 26 = .ok (.getfield 19, 3) := by decide +kernel
theorem dX10_named_29 : decode cX10_named 29 = .ok (.iload_n 3, 1) := by decide +kernel
theorem dX10_named_30 : decode cX10_named 30 = .ok (.invokevirtual 145, 3) := by decide +kernel
theorem dX10_named_33 : decode cX10_named 33 = .ok (.ifCond .eq 7, 3) := by decide +kernel
theorem dX10_named_36 : decode cX10_named 36 = .ok (.iload_n 3, 1) := by decide +kernel
theorem dX10_named_37 : decode cX10_named 37 = .ok (.goto 4, 3) := by decide +kernel
theorem dX10_named_40 : decode cX10_named 40 = .ok (.iconst (-1), 1) := by decide +kernel
theorem dX10_named_41 : decode cX10_named 41 = .ok (.ireturn, 1) := by decide +kernel
theorem dX10_storm_0 : decode cX10_storm 0 = .ok (.aload_n 0, 1) := by decide +kernel
theorem dX10_storm_1 : decode cX10_storm 1 = .ok (.getfield 19, 3) := by decide +kernel
theorem dX10_storm_4 : decode cX10_storm 4 = .ok (.getfield 148, 3) := by decide +kernel
theorem dX10_storm_7 : decode cX10_storm 7 = .ok (.bipush 16, 2) := by decide +kernel
theorem dX10_storm_9 : decode cX10_storm 9 = .ok (.if_icmp .ge 22, 3) := by decide +kernel
theorem dX10_storm_12 : decode cX10_storm 12 = .ok (.iload_n 1, 1) := by decide +kernel
theorem dX10_storm_13 : decode cX10_storm 13 = .ok (.iload_n 2, 1) := by decide +kernel
theorem dX10_storm_14 : decode cX10_storm 14 = .ok (.iload_n 3, 1) := by decide +kernel
theorem dX10_storm_15 : decode cX10_storm 15 = .ok (.iload 4, 2) := by decide +kernel
theorem dX10_storm_17 : decode cX10_storm 17 = .ok (.invokestatic 151, 3) := by decide +kernel
theorem dX10_storm_20 : decode cX10_storm 20 = .ok (.ifCond .eq 11, 3) := by decide +kernel
theorem dX10_storm_23 : decode cX10_storm 23 = .ok (.iload 5, 2) := by decide +kernel
theorem dX10_storm_25 : decode cX10_storm 25 = .ok (.invokestatic 155, 3) := by decide +kernel
theorem dX10_storm_28 : decode cX10_storm 28 = .ok (.ifCond .ne 5, 3) := by decide +kernel
theorem dX10_storm_31 : decode cX10_storm 31 = .ok (.iconst (-1), 1) := by decide +kernel
theorem dX10_storm_32 : decode cX10_storm 32 = .ok (.ireturn, 1) := by decide +kernel
theorem dX10_storm_33 : decode cX10_storm 33 = .ok (.aload_n 0, 1) := by decide +kernel
theorem dX10_storm_34 : decode cX10_storm 34 = .ok (.getfield 48, 3) := by decide +kernel
theorem dX10_storm_37 : decode cX10_storm 37 = .ok (.aload_n 0, 1) := by decide +kernel
theorem dX10_storm_38 : decode cX10_storm 38 = .ok (.getfield 19, 3) := by decide +kernel
theorem dX10_storm_41 : decode cX10_storm 41 = .ok (.invokevirtual 113, 3) := by decide +kernel
theorem dX10_storm_44 : decode cX10_storm 44 = .ok (.new 158, 3) := by decide +kernel
theorem dX10_storm_47 : decode cX10_storm 47 = .ok (.dup, 1) := by decide +kernel
theorem dX10_storm_48 : decode cX10_storm 48 = .ok (.iload_n 1, 1) := by decide +kernel
theorem dX10_storm_49 : decode cX10_storm 49 = .ok (.iload_n 2, 1) := by decide +kernel
theorem dX10_storm_50 : decode cX10_storm 50 = .ok (.iload_n 3, 1) := by decide +kernel
theorem dX10_storm_51 : decode cX10_storm 51 = .ok (.iload 4, 2) := by decide +kernel
theorem dX10_storm_53 : decode cX10_storm 53 = .ok (.iload 5, 2) := by decide +kernel
theorem dX10_storm_55 : decode cX10_storm 55 = .ok (.invokespecial 160, 3) := by decide +kernel
theorem dX10_storm_58 : decode cX10_storm 58 = .ok (.astore 6, 2) := by decide +kernel
theorem dX10_storm_60 : decode cX10_storm 60 = .ok (.aload_n 0, 1) := by decide +kernel
theorem dX10_storm_61 : decode cX10_storm 61 = .ok (.getfield 19, 3) := by decide +kernel
theorem dX10_storm_64 : decode cX10_storm 64 = .ok (.aload 6, 2) := by decide +kernel
theorem dX10_storm_66 : decode cX10_storm 66 = .ok (.invokevirtual 163, 3) := by decide +kernel
theorem dX10_storm_69 : decode cX10_storm 69 = .ok (.aload_n 0, 1) := by decide +kernel
theorem dX10_storm_70 : decode cX10_storm 70 = .ok (.getfield 19, 3) := by decide +kernel
theorem dX10_storm_73 : decode cX10_storm 73 = .ok (.aload 6, 2) := by decide +kernel
theorem dX10_storm_75 : decode cX10_storm 75 = .ok (.invokevirtual 167, 3) := by decide +kernel
theorem dX10_storm_78 : decode cX10_storm 78 = .ok (.ireturn, 1) := by decide +kernel
theorem dX10_leave_0 : decode cX10_leave 0 = .ok (.aload_n 0, 1) := by decide +kernel
theorem dX10_leave_1 : decode cX10_leave 1 = .ok (.getfield 19, 3) := by decide +kernel
theorem dX10_leave_4 : decode cX10_leave 4 = .ok (.iload_n 1, 1) := by decide +kernel
theorem dX10_leave_5 : decode cX10_leave 5 = .ok (.invokevirtual 145, 3) := by decide +kernel
theorem dX10_leave_8 : decode cX10_leave 8 = .ok (.ifCond .eq 15, 3) := by decide +kernel
theorem dX10_leave_11 : decode cX10_leave 11 = .ok (.aload_n 0, 1) := by decide +kernel
theorem dX10_leave_12 : decode cX10_leave 12 = .ok (.getfield 19, 3) := by decide +kernel
theorem dX10_leave_15 : decode cX10_leave 15 = .ok (.getfield 171, 3) := by decide +kernel
theorem dX10_leave_18 : decode cX10_leave 18 = .ok (.iload_n 1, 1) := by decide +kernel
theorem dX10_leave_19 : decode cX10_leave 19 = .ok (.baload, 1) := by decide +kernel
theorem dX10_leave_20 : decode cX10_leave 20 = .ok (.ifCond .eq 5, 3) := by decide +kernel
theorem dX10_leave_23 : decode cX10_leave 23 = .ok (.iconst 0, 1) := by decide +kernel
theorem dX10_leave_24 : decode cX10_leave 24 = .ok (.ireturn, 1) := by decide +kernel
theorem dX10_leave_25 : decode cX10_leave 25 = .ok (.aload_n 0, 1) := by decide +kernel
theorem dX10_leave_26 : decode cX10_leave 26 = .ok (.getfield 48, 3) := by decide +kernel
theorem dX10_leave_29 : decode cX10_leave 29 = .ok (.aload_n 0, 1) := by decide +kernel
theorem dX10_leave_30 : decode cX10_leave 30 = .ok (.getfield 19, 3) := by decide +kernel
theorem dX10_leave_33 : decode cX10_leave 33 = .ok (.invokevirtual 113, 3) := by decide +kernel
theorem dX10_leave_36 : decode cX10_leave 36 = .ok (.aload_n 0, 1) := by decide +kernel
theorem dX10_leave_37 : decode cX10_leave 37 = .ok (.getfield 19, 3) := by decide +kernel
theorem dX10_leave_40 : decode cX10_leave 40 = .ok (.getfield 171, 3) := by decide +kernel
theorem dX10_leave_43 : decode cX10_leave 43 = .ok (.iload_n 1, 1) := by decide +kernel
theorem dX10_leave_44 : decode cX10_leave 44 = .ok (.iconst 1, 1) := by decide +kernel
theorem dX10_leave_45 : decode cX10_leave 45 = .ok (.bastore, 1) := by decide +kernel
theorem dX10_leave_46 : decode cX10_leave 46 = .ok (.iconst 1, 1) := by decide +kernel
theorem dX10_leave_47 : decode cX10_leave 47 = .ok (.ireturn, 1) := by decide +kernel
theorem dX10_close_0 : decode cX10_close 0 = .ok (.aload_n 0, 1) := by decide +kernel
theorem dX10_close_1 : decode cX10_close 1 = .ok (.getfield 19, 3) := by decide +kernel
theorem dX10_close_4 : decode cX10_close 4 = .ok (.invokevirtual 175, 3) := by decide +kernel
theorem dX10_close_7 : decode cX10_close 7 = .ok (.ifCond .ne 7, 3) := by decide +kernel
theorem dX10_close_10 : decode cX10_close 10 = .ok (.ldc2_w 179, 3) := by decide +kernel
theorem dX10_close_13 : decode cX10_close 13 = .ok (.lreturn, 1) := by decide +kernel
theorem dX10_close_14 : decode cX10_close 14 = .ok (.aload_n 0, 1) := by decide +kernel
theorem dX10_close_15 : decode cX10_close 15 = .ok (.getfield 48, 3) := by decide +kernel
theorem dX10_close_18 : decode cX10_close 18 = .ok (.aload_n 0, 1) := by decide +kernel
theorem dX10_close_19 : decode cX10_close 19 = .ok (.getfield 19, 3) := by decide +kernel
theorem dX10_close_22 : decode cX10_close 22 = .ok (.invokevirtual 113, 3) := by decide +kernel
theorem dX10_close_25 : decode cX10_close 25 = .ok (.aload_n 0, 1) := by decide +kernel
theorem dX10_close_26 : decode cX10_close 26 = .ok (.getfield 66, 3) := by decide +kernel
theorem dX10_close_29 : decode cX10_close 29 = .ok (.iconst (-1), 1) := by decide +kernel
theorem dX10_close_30 : decode cX10_close 30 = .ok (.invokevirtual 181, 3) := by decide +kernel
theorem dX10_close_33 : decode cX10_close 33 = .ok (.aload_n 0, 1) := by decide +kernel
theorem dX10_close_34 : decode cX10_close 34 = .ok (.getfield 19, 3) := by decide +kernel
theorem dX10_close_37 : decode cX10_close 37 = .ok (.aload_n 0, 1) := by decide +kernel
theorem dX10_close_38 : decode cX10_close 38 = .ok (.getfield 66, 3) := by decide +kernel
theorem dX10_close_41 : decode cX10_close 41 = .ok (.invokevirtual 184, 3) := by decide +kernel
theorem dX10_close_44 : decode cX10_close 44 = .ok (.aload_n 0, 1) := by decide +kernel
theorem dX10_close_45 : decode cX10_close 45 = .ok (.getfield 66, 3) := by decide +kernel
theorem dX10_close_48 : decode cX10_close 48 = .ok (.getfield 188, 3) := by decide +kernel
theorem dX10_close_51 : decode cX10_close 51 = .ok (.iconst 0, 1) := by decide +kernel
theorem dX10_close_52 : decode cX10_close 52 = .ok (.laload, 1) := by decide +kernel
theorem dX10_close_53 : decode cX10_close 53 = .ok (.lreturn, 1) := by decide +kernel
theorem dX10_undo_0 : decode cX10_undo 0 = .ok (.aload_n 0, 1) := by decide +kernel
theorem dX10_undo_1 : decode cX10_undo 1 = .ok (.getfield 48, 3) := by decide +kernel
theorem dX10_undo_4 : decode cX10_undo 4 = .ok (.aload_n 0, 1) := by decide +kernel
theorem dX10_undo_5 : decode cX10_undo 5 = .ok (.getfield 19, 3) := by decide +kernel
theorem dX10_undo_8 : decode cX10_undo 8 = .ok (.invokevirtual 191, 3) := by decide +kernel
theorem dX10_undo_11 : decode cX10_undo 11 = .ok (.ireturn, 1) := by decide +kernel
theorem dX10_member_0 : decode cX10_member 0 = .ok (.aload_n 0, 1) := by decide +kernel
theorem dX10_member_1 : decode cX10_member 1 = .ok (.getfield 19, 3) := by decide +kernel
theorem dX10_member_4 : decode cX10_member 4 = .ok (.iload_n 1, 1) := by decide +kernel
theorem dX10_member_5 : decode cX10_member 5 = .ok (.invokevirtual 195, 3) := by decide +kernel
theorem dX10_member_8 : decode cX10_member 8 = .ok (.ifCond .ne 7, 3) := by decide +kernel
theorem dX10_member_11 : decode cX10_member 11 = .ok (.ldc2_w 179, 3) := by decide +kernel
theorem dX10_member_14 : decode cX10_member 14 = .ok (.lreturn, 1) := by decide +kernel
theorem dX10_member_15 : decode cX10_member 15 = .ok (.iload_n 2, 1) := by decide +kernel
theorem dX10_member_16 : decode cX10_member 16 = .ok (.tableswitch 153 0 7 #[48, 66, 84, 95, 105, 114, 123, 144], 48) := by decide +kernel
theorem dX10_member_64 : decode cX10_member 64 = .ok (.aload_n 0, 1) := by decide +kernel
theorem dX10_member_65 : decode cX10_member 65 = .ok (.getfield 19, 3) := by decide +kernel
theorem dX10_member_68 : decode cX10_member 68 = .ok (.getfield 198, 3) := by decide +kernel
theorem dX10_member_71 : decode cX10_member 71 = .ok (.iload_n 1, 1) := by decide +kernel
theorem dX10_member_72 : decode cX10_member 72 = .ok (.baload, 1) := by decide +kernel
theorem dX10_member_73 : decode cX10_member 73 = .ok (.ifCond .eq 7, 3) := by decide +kernel
theorem dX10_member_76 : decode cX10_member 76 = .ok (.lconst 1, 1) := by decide +kernel
theorem dX10_member_77 : decode cX10_member 77 = .ok (.goto 4, 3) := by decide +kernel
theorem dX10_member_80 : decode cX10_member 80 = .ok (.lconst 0, 1) := by decide +kernel
theorem dX10_member_81 : decode cX10_member 81 = .ok (.lreturn, 1) := by decide +kernel
theorem dX10_member_82 : decode cX10_member 82 = .ok (.aload_n 0, 1) := by decide +kernel
theorem dX10_member_83 : decode cX10_member 83 = .ok (.getfield 19, 3) := by decide +kernel
theorem dX10_member_86 : decode cX10_member 86 = .ok (.getfield 171, 3) := by decide +kernel
theorem dX10_member_89 : decode cX10_member 89 = .ok (.iload_n 1, 1) := by decide +kernel
theorem dX10_member_90 : decode cX10_member 90 = .ok (.baload, 1) := by decide +kernel
theorem dX10_member_91 : decode cX10_member 91 = .ok (.ifCond .eq 7, 3) := by decide +kernel
theorem dX10_member_94 : decode cX10_member 94 = .ok (.lconst 1, 1) := by decide +kernel
theorem dX10_member_95 : decode cX10_member 95 = .ok (.goto 4, 3) := by decide +kernel
theorem dX10_member_98 : decode cX10_member 98 = .ok (.lconst 0, 1) := by decide +kernel
theorem dX10_member_99 : decode cX10_member 99 = .ok (.lreturn, 1) := by decide +kernel
theorem dX10_member_100 : decode cX10_member 100 = .ok (.aload_n 0, 1) := by decide +kernel
theorem dX10_member_101 : decode cX10_member 101 = .ok (.getfield 19, 3) := by decide +kernel
theorem dX10_member_104 : decode cX10_member 104 = .ok (.getfield 201, 3) := by decide +kernel
theorem dX10_member_107 : decode cX10_member 107 = .ok (.iload_n 1, 1) := by decide +kernel
theorem dX10_member_108 : decode cX10_member 108 = .ok (.iaload, 1) := by decide +kernel
theorem dX10_member_109 : decode cX10_member 109 = .ok (.i2l, 1) := by decide +kernel
theorem dX10_member_110 : decode cX10_member 110 = .ok (.lreturn, 1) := by decide +kernel
theorem dX10_member_111 : decode cX10_member 111 = .ok (.aload_n 0, 1) := by decide +kernel
theorem dX10_member_112 : decode cX10_member 112 = .ok (.getfield 19, 3) := by decide +kernel
theorem dX10_member_115 : decode cX10_member 115 = .ok (.iload_n 1, 1) := by decide +kernel
theorem dX10_member_116 : decode cX10_member 116 = .ok (.invokevirtual 205, 3) := by decide +kernel
theorem dX10_member_119 : decode cX10_member 119 = .ok (.i2l, 1) := by decide +kernel
theorem dX10_member_120 : decode cX10_member 120 = .ok (.lreturn, 1) := by decide +kernel
theorem dX10_member_121 : decode cX10_member 121 = .ok (.aload_n 0, 1) := by decide +kernel
theorem dX10_member_122 : decode cX10_member 122 = .ok (.getfield 19, 3) := by decide +kernel
theorem dX10_member_125 : decode cX10_member 125 = .ok (.iload_n 1, 1) := by decide +kernel
theorem dX10_member_126 : decode cX10_member 126 = .ok (.invokevirtual 209, 3) := by decide +kernel
theorem dX10_member_129 : decode cX10_member 129 = .ok (.lreturn, 1) := by decide +kernel
theorem dX10_member_130 : decode cX10_member 130 = .ok (.aload_n 0, 1) := by decide +kernel
theorem dX10_member_131 : decode cX10_member 131 = .ok (.getfield 19, 3) := by decide +kernel
theorem dX10_member_134 : decode cX10_member 134 = .ok (.iload_n 1, 1) := by decide +kernel
theorem dX10_member_135 : decode cX10_member 135 = .ok (.invokevirtual 116, 3) := by decide +kernel
theorem dX10_member_138 : decode cX10_member 138 = .ok (.lreturn, 1) := by decide +kernel
theorem dX10_member_139 : decode cX10_member 139 = .ok (.aload_n 0, 1) := by decide +kernel
theorem dX10_member_140 : decode cX10_member 140 = .ok (.getfield 19, 3) := by decide +kernel
theorem dX10_member_143 : decode cX10_member 143 = .ok (.iload_n 1, 1) := by decide +kernel
theorem dX10_member_144 : decode cX10_member 144 = .ok (.invokevirtual 116, 3) := by decide +kernel
theorem dX10_member_147 : decode cX10_member 147 = .ok (.aload_n 0, 1) := by decide +kernel
theorem dX10_member_148 : decode cX10_member 148 = .ok (.getfield 19, 3) := by decide +kernel
theorem dX10_member_151 : decode cX10_member 151 = .ok (.getfield 109, 3) := by decide +kernel
theorem dX10_member_154 : decode cX10_member 154 = .ok (.iconst 0, 1) := by decide +kernel
theorem dX10_member_155 : decode cX10_member 155 = .ok (.laload, 1) := by decide +kernel
theorem dX10_member_156 : decode cX10_member 156 = .ok (.invokestatic 212, 3) := by decide +kernel
theorem dX10_member_159 : decode cX10_member 159 = .ok (.lreturn, 1) := by decide +kernel
theorem dX10_member_160 : decode cX10_member 160 = .ok (.aload_n 0, 1) := by decide +kernel
theorem dX10_member_161 : decode cX10_member 161 = .ok (.getfield 57, 3) := by decide +kernel
theorem dX10_member_164 : decode cX10_member 164 = .ok (.iload_n 1, 1) := by decide +kernel
theorem dX10_member_165 : decode cX10_member 165 = .ok (.invokevirtual 215, 3) := by decide +kernel
theorem dX10_member_168 : decode cX10_member 168 = .ok (.lreturn, 1) := by decide +kernel
theorem dX10_member_169 : decode cX10_member 169 = .ok (.ldc2_w 179, 3) := by decide +kernel
theorem dX10_member_172 : decode cX10_member 172 = .ok (.lreturn, 1) := by decide +kernel
theorem dX10_field_0 : decode cX10_field 0 = .ok (.aload_n 0, 1) := by decide +kernel
theorem dX10_field_1 : decode cX10_field 1 = .ok (.getfield 19, 3) := by decide +kernel
theorem dX10_field_4 : decode cX10_field 4 = .ok (.iload_n 1, 1) := by decide +kernel
theorem dX10_field_5 : decode cX10_field 5 = .ok (.invokevirtual 218, 3) := by decide +kernel
theorem dX10_field_8 : decode cX10_field 8 = .ok (.ifCond .ne 7, 3) := by decide +kernel
theorem dX10_field_11 : decode cX10_field 11 = .ok (.ldc2_w 179, 3) := by decide +kernel
theorem dX10_field_14 : decode cX10_field 14 = .ok (.lreturn, 1) := by decide +kernel
theorem dX10_field_15 : decode cX10_field 15 = .ok (.aload_n 0, 1) := by decide +kernel
theorem dX10_field_16 : decode cX10_field 16 = .ok (.getfield 19, 3) := by decide +kernel
theorem dX10_field_19 : decode cX10_field 19 = .ok (.getfield 221, 3) := by decide +kernel
theorem dX10_field_22 : decode cX10_field 22 = .ok (.iload_n 1, 1) := by decide +kernel
theorem dX10_field_23 : decode cX10_field 23 = .ok (.aaload, 1) := by decide +kernel
theorem dX10_field_24 : decode cX10_field 24 = .ok (.astore_n 3, 1) := by decide +kernel
theorem dX10_field_25 : decode cX10_field 25 = .ok (.aload_n 0, 1) := by decide +kernel
theorem dX10_field_26 : decode cX10_field 26 = .ok (.getfield 19, 3) := by decide +kernel
theorem dX10_field_29 : decode cX10_field 29 = .ok (.iload_n 1, 1) := by decide +kernel
theorem dX10_field_30 : decode cX10_field 30 = .ok (.invokevirtual 225, 3) := by decide +kernel
theorem dX10_field_33 : decode cX10_field 33 = .ok (.istore 4, 2) := by decide +kernel
theorem dX10_field_35 : decode cX10_field 35 = .ok (.iload_n 2, 1) := by decide +kernel
theorem dX10_field_36 : decode cX10_field 36 = .ok (.tableswitch 174 0 9 #[56, 62, 68, 74, 80, 86, 92, 103, 122, 148], 56) := by decide +kernel
theorem dX10_field_92 : decode cX10_field 92 = .ok (.aload_n 3, 1) := by decide +kernel
theorem dX10_field_93 : decode cX10_field 93 = .ok (.getfield 228, 3) := by decide +kernel
theorem dX10_field_96 : decode cX10_field 96 = .ok (.i2l, 1) := by decide +kernel
theorem dX10_field_97 : decode cX10_field 97 = .ok (.lreturn, 1) := by decide +kernel
theorem dX10_field_98 : decode cX10_field 98 = .ok (.aload_n 3, 1) := by decide +kernel
theorem dX10_field_99 : decode cX10_field 99 = .ok (.getfield 233, 3) := by decide +kernel
theorem dX10_field_102 : decode cX10_field 102 = .ok (.i2l, 1) := by decide +kernel
theorem dX10_field_103 : decode cX10_field 103 = .ok (.lreturn, 1) := by decide +kernel
theorem dX10_field_104 : decode cX10_field 104 = .ok (.aload_n 3, 1) := by decide +kernel
theorem dX10_field_105 : decode cX10_field 105 = .ok (.getfield 236, 3) := by decide +kernel
theorem dX10_field_108 : decode cX10_field 108 = .ok (.i2l, 1) := by decide +kernel
theorem dX10_field_109 : decode cX10_field 109 = .ok (.lreturn, 1) := by decide +kernel
theorem dX10_field_110 : decode cX10_field 110 = .ok (.aload_n 3, 1) := by decide +kernel
theorem dX10_field_111 : decode cX10_field 111 = .ok (.getfield 239, 3) := by decide +kernel
theorem dX10_field_114 : decode cX10_field 114 = .ok (.i2l, 1) := by decide +kernel
theorem dX10_field_115 : decode cX10_field 115 = .ok (.lreturn, 1) := by decide +kernel
theorem dX10_field_116 : decode cX10_field 116 = .ok (.aload_n 3, 1) := by decide +kernel
theorem dX10_field_117 : decode cX10_field 117 = .ok (.getfield 242, 3) := by decide +kernel
theorem dX10_field_120 : decode cX10_field 120 = .ok (.i2l, 1) := by decide +kernel
theorem dX10_field_121 : decode cX10_field 121 = .ok (.lreturn, 1) := by decide +kernel
theorem dX10_field_122 : decode cX10_field 122 = .ok (.aload_n 3, 1) := by decide +kernel
theorem dX10_field_123 : decode cX10_field 123 = .ok (.getfield 245, 3) := by decide +kernel
theorem dX10_field_126 : decode cX10_field 126 = .ok (.i2l, 1) := by decide +kernel
theorem dX10_field_127 : decode cX10_field 127 = .ok (.lreturn, 1) := by decide +kernel
theorem dX10_field_128 : decode cX10_field 128 = .ok (.iload 4, 2) := by decide +kernel
theorem dX10_field_130 : decode cX10_field 130 = .ok (.ifCond .eq 7, 3) := by decide +kernel
theorem dX10_field_133 : decode cX10_field 133 = .ok (.lconst 1, 1) := by decide +kernel
theorem dX10_field_134 : decode cX10_field 134 = .ok (.goto 4, 3) := by decide +kernel
theorem dX10_field_137 : decode cX10_field 137 = .ok (.lconst 0, 1) := by decide +kernel
theorem dX10_field_138 : decode cX10_field 138 = .ok (.lreturn, 1) := by decide +kernel
theorem dX10_field_139 : decode cX10_field 139 = .ok (.iload 4, 2) := by decide +kernel
theorem dX10_field_141 : decode cX10_field 141 = .ok (.ifCond .eq 15, 3) := by decide +kernel
theorem dX10_field_144 : decode cX10_field 144 = .ok (.aload_n 0, 1) := by decide +kernel
theorem dX10_field_145 : decode cX10_field 145 = .ok (.getfield 57, 3) := by decide +kernel
theorem dX10_field_148 : decode cX10_field 148 = .ok (.aload_n 3, 1) := by decide +kernel
theorem dX10_field_149 : decode cX10_field 149 = .ok (.invokevirtual 248, 3) := by decide +kernel
theorem dX10_field_152 : decode cX10_field 152 = .ok (.i2l, 1) := by decide +kernel
theorem dX10_field_153 : decode cX10_field 153 = .ok (.goto 4, 3) := by decide +kernel
theorem dX10_field_156 : decode cX10_field 156 = .ok (.lconst 0, 1) := by decide +kernel
theorem dX10_field_157 : decode cX10_field 157 = .ok (.lreturn, 1) := by decide +kernel
theorem dX10_field_158 : decode cX10_field 158 = .ok (.iload 4, 2) := by decide +kernel
theorem dX10_field_160 : decode cX10_field 160 = .ok (.ifCond .eq 22, 3) := by decide +kernel
theorem dX10_field_163 : decode cX10_field 163 = .ok (.aload_n 0, 1) := by decide +kernel
theorem dX10_field_164 : decode cX10_field 164 = .ok (.getfield 57, 3) := by decide +kernel
theorem dX10_field_167 : decode cX10_field 167 = .ok (.aload_n 3, 1) := by decide +kernel
theorem dX10_field_168 : decode cX10_field 168 = .ok (.aload_n 0, 1) := by decide +kernel
theorem dX10_field_169 : decode cX10_field 169 = .ok (.getfield 57, 3) := by decide +kernel
theorem dX10_field_172 : decode cX10_field 172 = .ok (.aload_n 3, 1) := by decide +kernel
theorem dX10_field_173 : decode cX10_field 173 = .ok (.invokevirtual 248, 3) := by decide +kernel
theorem dX10_field_176 : decode cX10_field 176 = .ok (.invokevirtual 252, 3) := by decide +kernel
theorem dX10_field_179 : decode cX10_field 179 = .ok (.goto 4, 3) := by decide +kernel
theorem dX10_field_182 : decode cX10_field 182 = .ok (.lconst 0, 1) := by decide +kernel
theorem dX10_field_183 : decode cX10_field 183 = .ok (.lreturn, 1) := by decide +kernel
theorem dX10_field_184 : decode cX10_field 184 = .ok (.iload 4, 2) := by decide +kernel
theorem dX10_field_186 : decode cX10_field 186 = .ok (.ifCond .eq 22, 3) := by decide +kernel
theorem dX10_field_189 : decode cX10_field 189 = .ok (.aload_n 0, 1) := by decide +kernel
theorem dX10_field_190 : decode cX10_field 190 = .ok (.getfield 57, 3) := by decide +kernel
theorem dX10_field_193 : decode cX10_field 193 = .ok (.aload_n 3, 1) := by decide +kernel
theorem dX10_field_194 : decode cX10_field 194 = .ok (.aload_n 0, 1) := by decide +kernel
theorem dX10_field_195 : decode cX10_field 195 = .ok (.getfield 57, 3) := by decide +kernel
theorem dX10_field_198 : decode cX10_field 198 = .ok (.aload_n 3, 1) := by decide +kernel
theorem dX10_field_199 : decode cX10_field 199 = .ok (.invokevirtual 248, 3) := by decide +kernel
theorem dX10_field_202 : decode cX10_field 202 = .ok (.invokevirtual 256, 3) := by decide +kernel
theorem dX10_field_205 : decode cX10_field 205 = .ok (.goto 4, 3) := by decide +kernel
theorem dX10_field_208 : decode cX10_field 208 = .ok (.lconst 0, 1) := by decide +kernel
theorem dX10_field_209 : decode cX10_field 209 = .ok (.lreturn, 1) := by decide +kernel
theorem dX10_field_210 : decode cX10_field 210 = .ok (.ldc2_w 179, 3) := by decide +kernel
theorem dX10_field_213 : decode cX10_field 213 = .ok (.lreturn, 1) := by decide +kernel
theorem dX10_hazard_0 : decode cX10_hazard 0 = .ok (.iload_n 1, 1) := by decide +kernel
theorem dX10_hazard_1 : decode cX10_hazard 1 = .ok (.iload_n 2, 1) := by decide +kernel
theorem dX10_hazard_2 : decode cX10_hazard 2 = .ok (.invokestatic 259, 3) := by decide +kernel
theorem dX10_hazard_5 : decode cX10_hazard 5 = .ok (.ifCond .eq 15, 3) := by decide +kernel
theorem dX10_hazard_8 : decode cX10_hazard 8 = .ok (.aload_n 0, 1) := by decide +kernel
theorem dX10_hazard_9 : decode cX10_hazard 9 = .ok (.getfield 19, 3) := by decide +kernel
theorem dX10_hazard_12 : decode cX10_hazard 12 = .ok (.iload_n 1, 1) := by decide +kernel
theorem dX10_hazard_13 : decode cX10_hazard 13 = .ok (.iload_n 2, 1) := by decide +kernel
theorem dX10_hazard_14 : decode cX10_hazard 14 = .ok (.invokevirtual 263, 3) := by decide +kernel
theorem dX10_hazard_17 : decode cX10_hazard 17 = .ok (.goto 4, 3) := by decide +kernel
theorem dX10_hazard_20 : decode cX10_hazard 20 = .ok (.iconst (-1), 1) := by decide +kernel
theorem dX10_hazard_21 : decode cX10_hazard 21 = .ok (.ireturn, 1) := by decide +kernel
theorem dX10_now_0 : decode cX10_now 0 = .ok (.iload_n 1, 1) := by decide +kernel
theorem dX10_now_1 : decode cX10_now 1 = .ok (.ifCond .lt 19, 3) := by decide +kernel
theorem dX10_now_4 : decode cX10_now 4 = .ok (.iload_n 1, 1) := by decide +kernel
theorem dX10_now_5 : decode cX10_now 5 = .ok (.bipush 11, 2) := by decide +kernel
theorem dX10_now_7 : decode cX10_now 7 = .ok (.if_icmp .ge 13, 3) := by decide +kernel
theorem dX10_now_10 : decode cX10_now 10 = .ok (.aload_n 0, 1) := by decide +kernel
theorem dX10_now_11 : decode cX10_now 11 = .ok (.getfield 19, 3) := by decide +kernel
theorem dX10_now_14 : decode cX10_now 14 = .ok (.invokevirtual 175, 3) := by decide +kernel
theorem dX10_now_17 : decode cX10_now 17 = .ok (.ifCond .ne 7, 3) := by decide +kernel
theorem dX10_now_20 : decode cX10_now 20 = .ok (.ldc2_w 179, 3) := by decide +kernel
theorem dX10_now_23 : decode cX10_now 23 = .ok (.lreturn, 1) := by decide +kernel
theorem dX10_now_24 : decode cX10_now 24 = .ok (.aload_n 0, 1) := by decide +kernel
theorem dX10_now_25 : decode cX10_now 25 = .ok (.getfield 66, 3) := by decide +kernel
theorem dX10_now_28 : decode cX10_now 28 = .ok (.iconst (-1), 1) := by decide +kernel
theorem dX10_now_29 : decode cX10_now 29 = .ok (.invokevirtual 181, 3) := by decide +kernel
theorem dX10_now_32 : decode cX10_now 32 = .ok (.aload_n 0, 1) := by decide +kernel
theorem dX10_now_33 : decode cX10_now 33 = .ok (.getfield 66, 3) := by decide +kernel
theorem dX10_now_36 : decode cX10_now 36 = .ok (.getfield 188, 3) := by decide +kernel
theorem dX10_now_39 : decode cX10_now 39 = .ok (.iload_n 1, 1) := by decide +kernel
theorem dX10_now_40 : decode cX10_now 40 = .ok (.laload, 1) := by decide +kernel
theorem dX10_now_41 : decode cX10_now 41 = .ok (.lreturn, 1) := by decide +kernel
theorem dX10_mine_0 : decode cX10_mine 0 = .ok (.iload_n 2, 1) := by decide +kernel
theorem dX10_mine_1 : decode cX10_mine 1 = .ok (.ifCond .lt 20, 3) := by decide +kernel
theorem dX10_mine_4 : decode cX10_mine 4 = .ok (.iload_n 2, 1) := by decide +kernel
theorem dX10_mine_5 : decode cX10_mine 5 = .ok (.bipush 6, 2) := by decide +kernel
theorem dX10_mine_7 : decode cX10_mine 7 = .ok (.if_icmp .ge 14, 3) := by decide +kernel
theorem dX10_mine_10 : decode cX10_mine 10 = .ok (.aload_n 0, 1) := by decide +kernel
theorem dX10_mine_11 : decode cX10_mine 11 = .ok (.getfield 19, 3) := by decide +kernel
theorem dX10_mine_14 : decode cX10_mine 14 = .ok (.iload_n 1, 1) := by decide +kernel
theorem dX10_mine_15 : decode cX10_mine 15 = .ok (.invokevirtual 145, 3) := by decide +kernel
theorem dX10_mine_18 : decode cX10_mine 18 = .ok (.ifCond .ne 7, 3) := by decide +kernel
theorem dX10_mine_21 : decode cX10_mine 21 = .ok (.ldc2_w 269, 3) := by decide +kernel
theorem dX10_mine_24 : decode cX10_mine 24 = .ok (.lreturn, 1) := by decide +kernel
theorem dX10_mine_25 : decode cX10_mine 25 = .ok (.aload_n 0, 1) := by decide +kernel
theorem dX10_mine_26 : decode cX10_mine 26 = .ok (.getfield 66, 3) := by decide +kernel
theorem dX10_mine_29 : decode cX10_mine 29 = .ok (.iconst (-1), 1) := by decide +kernel
theorem dX10_mine_30 : decode cX10_mine 30 = .ok (.invokevirtual 181, 3) := by decide +kernel
theorem dX10_mine_33 : decode cX10_mine 33 = .ok (.aload_n 0, 1) := by decide +kernel
theorem dX10_mine_34 : decode cX10_mine 34 = .ok (.getfield 66, 3) := by decide +kernel
theorem dX10_mine_37 : decode cX10_mine 37 = .ok (.getfield 271, 3) := by decide +kernel
theorem dX10_mine_40 : decode cX10_mine 40 = .ok (.iload_n 2, 1) := by decide +kernel
theorem dX10_mine_41 : decode cX10_mine 41 = .ok (.aaload, 1) := by decide +kernel
theorem dX10_mine_42 : decode cX10_mine 42 = .ok (.iload_n 1, 1) := by decide +kernel
theorem dX10_mine_43 : decode cX10_mine 43 = .ok (.laload, 1) := by decide +kernel
theorem dX10_mine_44 : decode cX10_mine 44 = .ok (.lreturn, 1) := by decide +kernel
theorem dX10_then_0 : decode cX10_then 0 = .ok (.iload_n 2, 1) := by decide +kernel
theorem dX10_then_1 : decode cX10_then 1 = .ok (.ifCond .lt 31, 3) := by decide +kernel
theorem dX10_then_4 : decode cX10_then 4 = .ok (.iload_n 2, 1) := by decide +kernel
theorem dX10_then_5 : decode cX10_then 5 = .ok (.bipush 6, 2) := by decide +kernel
theorem dX10_then_7 : decode cX10_then 7 = .ok (.if_icmp .ge 25, 3) := by decide +kernel
theorem dX10_then_10 : decode cX10_then 10 = .ok (.iload_n 1, 1) := by decide +kernel
theorem dX10_then_11 : decode cX10_then 11 = .ok (.ifCond .lt 21, 3) := by decide +kernel
theorem dX10_then_14 : decode cX10_then 14 = .ok (.iload_n 1, 1) := by decide +kernel
theorem dX10_then_15 : decode cX10_then 15 = .ok (.bipush 12, 2) := by decide +kernel
theorem dX10_then_17 : decode cX10_then 17 = .ok (.if_icmp .ge 15, 3) := by decide +kernel
theorem dX10_then_20 : decode cX10_then 20 = .ok (.aload_n 0, 1) := by decide +kernel
theorem dX10_then_21 : decode cX10_then 21 = .ok (.getfield 19, 3) := by decide +kernel
theorem dX10_then_24 : decode cX10_then 24 = .ok (.getfield 275, 3) := by decide +kernel
theorem dX10_then_27 : decode cX10_then 27 = .ok (.iload_n 1, 1) := by decide +kernel
theorem dX10_then_28 : decode cX10_then 28 = .ok (.baload, 1) := by decide +kernel
theorem dX10_then_29 : decode cX10_then 29 = .ok (.ifCond .ne 7, 3) := by decide +kernel
theorem dX10_then_32 : decode cX10_then 32 = .ok (.ldc2_w 269, 3) := by decide +kernel
theorem dX10_then_35 : decode cX10_then 35 = .ok (.lreturn, 1) := by decide +kernel
theorem dX10_then_36 : decode cX10_then 36 = .ok (.aload_n 0, 1) := by decide +kernel
theorem dX10_then_37 : decode cX10_then 37 = .ok (.getfield 19, 3) := by decide +kernel
theorem dX10_then_40 : decode cX10_then 40 = .ok (.getfield 278, 3) := by decide +kernel
theorem dX10_then_43 : decode cX10_then 43 = .ok (.iload_n 2, 1) := by decide +kernel
theorem dX10_then_44 : decode cX10_then 44 = .ok (.aaload, 1) := by decide +kernel
theorem dX10_then_45 : decode cX10_then 45 = .ok (.iload_n 1, 1) := by decide +kernel
theorem dX10_then_46 : decode cX10_then 46 = .ok (.laload, 1) := by decide +kernel
theorem dX10_then_47 : decode cX10_then 47 = .ok (.lreturn, 1) := by decide +kernel
theorem dX10_club_0 : decode cX10_club 0 = .ok (.iload_n 1, 1) := by decide +kernel
theorem dX10_club_1 : decode cX10_club 1 = .ok (.ifCond .lt 19, 3) := by decide +kernel
theorem dX10_club_4 : decode cX10_club 4 = .ok (.iload_n 1, 1) := by decide +kernel
theorem dX10_club_5 : decode cX10_club 5 = .ok (.bipush 7, 2) := by decide +kernel
theorem dX10_club_7 : decode cX10_club 7 = .ok (.if_icmp .ge 13, 3) := by decide +kernel
theorem dX10_club_10 : decode cX10_club 10 = .ok (.aload_n 0, 1) := by decide +kernel
theorem dX10_club_11 : decode cX10_club 11 = .ok (.getfield 19, 3) := by decide +kernel
theorem dX10_club_14 : decode cX10_club 14 = .ok (.getfield 109, 3) := by decide +kernel
theorem dX10_club_17 : decode cX10_club 17 = .ok (.iload_n 1, 1) := by decide +kernel
theorem dX10_club_18 : decode cX10_club 18 = .ok (.laload, 1) := by decide +kernel
theorem dX10_club_19 : decode cX10_club 19 = .ok (.lreturn, 1) := by decide +kernel
theorem dX10_club_20 : decode cX10_club 20 = .ok (.iload_n 1, 1) := by decide +kernel
theorem dX10_club_21 : decode cX10_club 21 = .ok (.tableswitch 64 7 9 #[27, 48, 56], 27) := by decide +kernel
theorem dX10_club_48 : decode cX10_club 48 = .ok (.aload_n 0, 1) := by decide +kernel
theorem dX10_club_49 : decode cX10_club 49 = .ok (.getfield 19, 3) := by decide +kernel
theorem dX10_club_52 : decode cX10_club 52 = .ok (.getfield 109, 3) := by decide +kernel
theorem dX10_club_55 : decode cX10_club 55 = .ok (.bipush 6, 2) := by decide +kernel
theorem dX10_club_57 : decode cX10_club 57 = .ok (.laload, 1) := by decide +kernel
theorem dX10_club_58 : decode cX10_club 58 = .ok (.aload_n 0, 1) := by decide +kernel
theorem dX10_club_59 : decode cX10_club 59 = .ok (.getfield 19, 3) := by decide +kernel
theorem dX10_club_62 : decode cX10_club 62 = .ok (.invokevirtual 281, 3) := by decide +kernel
theorem dX10_club_65 : decode cX10_club 65 = .ok (.invokestatic 284, 3) := by decide +kernel
theorem dX10_club_68 : decode cX10_club 68 = .ok (.lreturn, 1) := by decide +kernel
theorem dX10_club_69 : decode cX10_club 69 = .ok (.aload_n 0, 1) := by decide +kernel
theorem dX10_club_70 : decode cX10_club 70 = .ok (.getfield 19, 3) := by decide +kernel
theorem dX10_club_73 : decode cX10_club 73 = .ok (.invokevirtual 281, 3) := by decide +kernel
theorem dX10_club_76 : decode cX10_club 76 = .ok (.lreturn, 1) := by decide +kernel
theorem dX10_club_77 : decode cX10_club 77 = .ok (.aload_n 0, 1) := by decide +kernel
theorem dX10_club_78 : decode cX10_club 78 = .ok (.getfield 19, 3) := by decide +kernel
theorem dX10_club_81 : decode cX10_club 81 = .ok (.invokevirtual 120, 3) := by decide +kernel
theorem dX10_club_84 : decode cX10_club 84 = .ok (.lreturn, 1) := by decide +kernel
theorem dX10_club_85 : decode cX10_club 85 = .ok (.ldc2_w 179, 3) := by decide +kernel
theorem dX10_club_88 : decode cX10_club 88 = .ok (.lreturn, 1) := by decide +kernel
theorem dX10_set_0 : decode cX10_set 0 = .ok (.iload_n 1, 1) := by decide +kernel
theorem dX10_set_1 : decode cX10_set 1 = .ok (.ifCond .eq 16, 3) := by decide +kernel
theorem dX10_set_4 : decode cX10_set 4 = .ok (.iload_n 1, 1) := by decide +kernel
theorem dX10_set_5 : decode cX10_set 5 = .ok (.iconst 5, 1) := by decide +kernel
theorem dX10_set_6 : decode cX10_set 6 = .ok (.if_icmp .eq 11, 3) := by decide +kernel
theorem dX10_set_9 : decode cX10_set 9 = .ok (.iload_n 1, 1) := by decide +kernel
theorem dX10_set_10 : decode cX10_set 10 = .ok (.bipush 6, 2) := by decide +kernel
theorem dX10_set_12 : decode cX10_set 12 = .ok (.if_icmp .eq 5, 3) := by decide +kernel
theorem dX10_set_15 : decode cX10_set 15 = .ok (.iconst 0, 1) := by decide +kernel
theorem dX10_set_16 : decode cX10_set 16 = .ok (.ireturn, 1) := by decide +kernel
theorem dX10_set_17 : decode cX10_set 17 = .ok (.iload_n 2, 1) := by decide +kernel
theorem dX10_set_18 : decode cX10_set 18 = .ok (.ifCond .lt 27, 3) := by decide +kernel
theorem dX10_set_21 : decode cX10_set 21 = .ok (.iload_n 2, 1) := by decide +kernel
theorem dX10_set_22 : decode cX10_set 22 = .ok (.getstatic 287, 3) := by decide +kernel
theorem dX10_set_25 : decode cX10_set 25 = .ok (.iload_n 1, 1) := by decide +kernel
theorem dX10_set_26 : decode cX10_set 26 = .ok (.iaload, 1) := by decide +kernel
theorem dX10_set_27 : decode cX10_set 27 = .ok (.if_icmp .gt 18, 3) := by decide +kernel
theorem dX10_set_30 : decode cX10_set 30 = .ok (.iload_n 2, 1) := by decide +kernel
theorem dX10_set_31 : decode cX10_set 31 = .ok (.i2l, 1) := by decide +kernel
theorem dX10_set_32 : decode cX10_set 32 = .ok (.aload_n 0, 1) := by decide +kernel
theorem dX10_set_33 : decode cX10_set 33 = .ok (.getfield 19, 3) := by decide +kernel
theorem dX10_set_36 : decode cX10_set 36 = .ok (.getfield 109, 3) := by decide +kernel
theorem dX10_set_39 : decode cX10_set 39 = .ok (.iload_n 1, 1) := by decide +kernel
theorem dX10_set_40 : decode cX10_set 40 = .ok (.laload, 1) := by decide +kernel
theorem dX10_set_41 : decode cX10_set 41 = .ok (.lcmp, 1) := by decide +kernel
theorem dX10_set_42 : decode cX10_set 42 = .ok (.ifCond .ne 5, 3) := by decide +kernel
theorem dX10_set_45 : decode cX10_set 45 = .ok (.iconst 0, 1) := by decide +kernel
theorem dX10_set_46 : decode cX10_set 46 = .ok (.ireturn, 1) := by decide +kernel
theorem dX10_set_47 : decode cX10_set 47 = .ok (.aload_n 0, 1) := by decide +kernel
theorem dX10_set_48 : decode cX10_set 48 = .ok (.getfield 48, 3) := by decide +kernel
theorem dX10_set_51 : decode cX10_set 51 = .ok (.aload_n 0, 1) := by decide +kernel
theorem dX10_set_52 : decode cX10_set 52 = .ok (.getfield 19, 3) := by decide +kernel
theorem dX10_set_55 : decode cX10_set 55 = .ok (.invokevirtual 113, 3) := by decide +kernel
theorem dX10_set_58 : decode cX10_set 58 = .ok (.aload_n 0, 1) := by decide +kernel
theorem dX10_set_59 : decode cX10_set 59 = .ok (.getfield 19, 3) := by decide +kernel
theorem dX10_set_62 : decode cX10_set 62 = .ok (.getfield 109, 3) := by decide +kernel
theorem dX10_set_65 : decode cX10_set 65 = .ok (.iload_n 1, 1) := by decide +kernel
theorem dX10_set_66 : decode cX10_set 66 = .ok (.iload_n 2, 1) := by decide +kernel
theorem dX10_set_67 : decode cX10_set 67 = .ok (.i2l, 1) := by decide +kernel
theorem dX10_set_68 : decode cX10_set 68 = .ok (.lastore, 1) := by decide +kernel
theorem dX10_set_69 : decode cX10_set 69 = .ok (.iconst 1, 1) := by decide +kernel
theorem dX10_set_70 : decode cX10_set 70 = .ok (.ireturn, 1) := by decide +kernel
theorem dX10_worst_0 : decode cX10_worst 0 = .ok (.iload_n 1, 1) := by decide +kernel
theorem dX10_worst_1 : decode cX10_worst 1 = .ok (.invokestatic 290, 3) := by decide +kernel
theorem dX10_worst_4 : decode cX10_worst 4 = .ok (.ifCond .eq 29, 3) := by decide +kernel
theorem dX10_worst_7 : decode cX10_worst 7 = .ok (.iload_n 2, 1) := by decide +kernel
theorem dX10_worst_8 : decode cX10_worst 8 = .ok (.invokestatic 290, 3) := by decide +kernel
theorem dX10_worst_11 : decode cX10_worst 11 = .ok (.ifCond .eq 22, 3) := by decide +kernel
theorem dX10_worst_14 : decode cX10_worst 14 = .ok (.iload_n 3, 1) := by decide +kernel
theorem dX10_worst_15 : decode cX10_worst 15 = .ok (.invokestatic 155, 3) := by decide +kernel
theorem dX10_worst_18 : decode cX10_worst 18 = .ok (.ifCond .eq 15, 3) := by decide +kernel
theorem dX10_worst_21 : decode cX10_worst 21 = .ok (.aload_n 0, 1) := by decide +kernel
theorem dX10_worst_22 : decode cX10_worst 22 = .ok (.getfield 19, 3) := by decide +kernel
theorem dX10_worst_25 : decode cX10_worst 25 = .ok (.getfield 148, 3) := by decide +kernel
theorem dX10_worst_28 : decode cX10_worst 28 = .ok (.bipush 16, 2) := by decide +kernel
theorem dX10_worst_30 : decode cX10_worst 30 = .ok (.if_icmp .lt 7, 3) := by decide +kernel
theorem dX10_worst_33 : decode cX10_worst 33 = .ok (.ldc2_w 179, 3) := by decide +kernel
theorem dX10_worst_36 : decode cX10_worst 36 = .ok (.lreturn, 1) := by decide +kernel
theorem dX10_worst_37 : decode cX10_worst 37 = .ok (.iload 4, 2) := by decide +kernel
theorem dX10_worst_39 : decode cX10_worst 39 = .ok (.ifCond .lt 9, 3) := by decide +kernel
theorem dX10_worst_42 : decode cX10_worst 42 = .ok (.iload 4, 2) := by decide +kernel
theorem dX10_worst_44 : decode cX10_worst 44 = .ok (.iconst 2, 1) := by decide +kernel
theorem dX10_worst_45 : decode cX10_worst 45 = .ok (.if_icmp .le 7, 3) := by decide +kernel
theorem dX10_worst_48 : decode cX10_worst 48 = .ok (.ldc2_w 179, 3) := by decide +kernel
theorem dX10_worst_51 : decode cX10_worst 51 = .ok (.lreturn, 1) := by decide +kernel
theorem dX10_worst_52 : decode cX10_worst 52 = .ok (.aload_n 0, 1) := by decide +kernel
theorem dX10_worst_53 : decode cX10_worst 53 = .ok (.getfield 57, 3) := by decide +kernel
theorem dX10_worst_56 : decode cX10_worst 56 = .ok (.iload_n 1, 1) := by decide +kernel
theorem dX10_worst_57 : decode cX10_worst 57 = .ok (.iload_n 2, 1) := by decide +kernel
theorem dX10_worst_58 : decode cX10_worst 58 = .ok (.iload_n 3, 1) := by decide +kernel
theorem dX10_worst_59 : decode cX10_worst 59 = .ok (.invokevirtual 293, 3) := by decide +kernel
theorem dX10_worst_62 : decode cX10_worst 62 = .ok (.iload 4, 2) := by decide +kernel
theorem dX10_worst_64 : decode cX10_worst 64 = .ok (.ifCond .ne 12, 3) := by decide +kernel
theorem dX10_worst_67 : decode cX10_worst 67 = .ok (.aload_n 0, 1) := by decide +kernel
theorem dX10_worst_68 : decode cX10_worst 68 = .ok (.getfield 57, 3) := by decide +kernel
theorem dX10_worst_71 : decode cX10_worst 71 = .ok (.getfield 297, 3) := by decide +kernel
theorem dX10_worst_74 : decode cX10_worst 74 = .ok (.i2l, 1) := by decide +kernel
theorem dX10_worst_75 : decode cX10_worst 75 = .ok (.lreturn, 1) := by decide +kernel
theorem dX10_worst_76 : decode cX10_worst 76 = .ok (.iload 4, 2) := by decide +kernel
theorem dX10_worst_78 : decode cX10_worst 78 = .ok (.iconst 1, 1) := by decide +kernel
theorem dX10_worst_79 : decode cX10_worst 79 = .ok (.if_icmp .ne 14, 3) := by decide +kernel
theorem dX10_worst_82 : decode cX10_worst 82 = .ok (.aload_n 0, 1) := by decide +kernel
theorem dX10_worst_83 : decode cX10_worst 83 = .ok (.getfield 57, 3) := by decide +kernel
theorem dX10_worst_86 : decode cX10_worst 86 = .ok (.getfield 300, 3) := by decide +kernel
theorem dX10_worst_89 : decode cX10_worst 89 = .ok (.i2l, 1) := by decide +kernel
theorem dX10_worst_90 : decode cX10_worst 90 = .ok (.goto 10, 3) := by decide +kernel
theorem dX10_worst_93 : decode cX10_worst 93 = .ok (.aload_n 0, 1) := by decide +kernel
theorem dX10_worst_94 : decode cX10_worst 94 = .ok (.getfield 57, 3) := by decide +kernel
theorem dX10_worst_97 : decode cX10_worst 97 = .ok (.getfield 303, 3) := by decide +kernel
theorem dX10_worst_100 : decode cX10_worst 100 = .ok (.lreturn, 1) := by decide +kernel
theorem dX10_rate_0 : decode cX10_rate 0 = .ok (.aload_n 0, 1) := by decide +kernel
theorem dX10_rate_1 : decode cX10_rate 1 = .ok (.getfield 19, 3) := by decide +kernel
theorem dX10_rate_4 : decode cX10_rate 4 = .ok (.invokevirtual 175, 3) := by decide +kernel
theorem dX10_rate_7 : decode cX10_rate 7 = .ok (.ifCond .ne 5, 3) := by decide +kernel
theorem dX10_rate_10 : decode cX10_rate 10 = .ok (.iconst (-1), 1) := by decide +kernel
theorem dX10_rate_11 : decode cX10_rate 11 = .ok (.ireturn, 1) := by decide +kernel
theorem dX10_rate_12 : decode cX10_rate 12 = .ok (.aload_n 0, 1) := by decide +kernel
theorem dX10_rate_13 : decode cX10_rate 13 = .ok (.getfield 66, 3) := by decide +kernel
theorem dX10_rate_16 : decode cX10_rate 16 = .ok (.iconst (-1), 1) := by decide +kernel
theorem dX10_rate_17 : decode cX10_rate 17 = .ok (.invokevirtual 181, 3) := by decide +kernel
theorem dX10_rate_20 : decode cX10_rate 20 = .ok (.aload_n 0, 1) := by decide +kernel
theorem dX10_rate_21 : decode cX10_rate 21 = .ok (.getfield 19, 3) := by decide +kernel
theorem dX10_rate_24 : decode cX10_rate 24 = .ok (.getfield 109, 3) := by decide +kernel
theorem dX10_rate_27 : decode cX10_rate 27 = .ok (.iconst 1, 1) := by decide +kernel
theorem dX10_rate_28 : decode cX10_rate 28 = .ok (.laload, 1) := by decide +kernel
theorem dX10_rate_29 : decode cX10_rate 29 = .ok (.ldc2_w 307, 3) := by decide +kernel
theorem dX10_rate_32 : decode cX10_rate 32 = .ok (.ldiv, 1) := by decide +kernel
theorem dX10_rate_33 : decode cX10_rate 33 = .ok (.lstore_n 1, 1) := by decide +kernel
theorem dX10_rate_34 : decode cX10_rate 34 = .ok (.iconst 0, 1) := by decide +kernel
theorem dX10_rate_35 : decode cX10_rate 35 = .ok (.istore_n 3, 1) := by decide +kernel
theorem dX10_rate_36 : decode cX10_rate 36 = .ok (.iload_n 3, 1) := by decide +kernel
theorem dX10_rate_37 : decode cX10_rate 37 = .ok (.sipush 999, 3) := by decide +kernel
theorem dX10_rate_40 : decode cX10_rate 40 = .ok (.if_icmp .gt 34, 3) := by decide +kernel
theorem dX10_rate_43 : decode cX10_rate 43 = .ok (.aload_n 0, 1) := by decide +kernel
theorem dX10_rate_44 : decode cX10_rate 44 = .ok (.getfield 66, 3) := by decide +kernel
theorem dX10_rate_47 : decode cX10_rate 47 = .ok (.getfield 188, 3) := by decide +kernel
theorem dX10_rate_50 : decode cX10_rate 50 = .ok (.iconst 2, 1) := by decide +kernel
theorem dX10_rate_51 : decode cX10_rate 51 = .ok (.laload, 1) := by decide +kernel
theorem dX10_rate_52 : decode cX10_rate 52 = .ok (.aload_n 0, 1) := by decide +kernel
theorem dX10_rate_53 : decode cX10_rate 53 = .ok (.getfield 66, 3) := by decide +kernel
theorem dX10_rate_56 : decode cX10_rate 56 = .ok (.iload_n 3, 1) := by decide +kernel
theorem dX10_rate_57 : decode cX10_rate 57 = .ok (.invokevirtual 309, 3) := by decide +kernel
theorem dX10_rate_60 : decode cX10_rate 60 = .ok (.lsub, 1) := by decide +kernel
theorem dX10_rate_61 : decode cX10_rate 61 = .ok (.lload_n 1, 1) := by decide +kernel
theorem dX10_rate_62 : decode cX10_rate 62 = .ok (.lcmp, 1) := by decide +kernel
theorem dX10_rate_63 : decode cX10_rate 63 = .ok (.ifCond .gt 5, 3) := by decide +kernel
theorem dX10_rate_66 : decode cX10_rate 66 = .ok (.iload_n 3, 1) := by decide +kernel
theorem dX10_rate_67 : decode cX10_rate 67 = .ok (.ireturn, 1) := by decide +kernel
theorem dX10_rate_68 : decode cX10_rate 68 = .ok (.iinc 3 1, 3) := by decide +kernel
theorem dX10_rate_71 : decode cX10_rate 71 = .ok (.goto (-35), 3) := by decide +kernel
theorem dX10_rate_74 : decode cX10_rate 74 = .ok (.iconst (-1), 1) := by decide +kernel
theorem dX10_rate_75 : decode cX10_rate 75 = .ok (.ireturn, 1) := by decide +kernel
theorem dX10_reserve_0 : decode cX10_reserve 0 = .ok (.aload_n 0, 1) := by decide +kernel
theorem dX10_reserve_1 : decode cX10_reserve 1 = .ok (.getfield 19, 3) := by decide +kernel
theorem dX10_reserve_4 : decode cX10_reserve 4 = .ok (.invokevirtual 175, 3) := by decide +kernel
theorem dX10_reserve_7 : decode cX10_reserve 7 = .ok (.ifCond .ne 7, 3) := by decide +kernel
theorem dX10_reserve_10 : decode cX10_reserve 10 = .ok (.ldc2_w 179, 3) := by decide +kernel
theorem dX10_reserve_13 : decode cX10_reserve 13 = .ok (.lreturn, 1) := by decide +kernel
theorem dX10_reserve_14 : decode cX10_reserve 14 = .ok (.aload_n 0, 1) := by decide +kernel
theorem dX10_reserve_15 : decode cX10_reserve 15 = .ok (.getfield 66, 3) := by decide +kernel
theorem dX10_reserve_18 : decode cX10_reserve 18 = .ok (.iconst (-1), 1) := by decide +kernel
theorem dX10_reserve_19 : decode cX10_reserve 19 = .ok (.invokevirtual 181, 3) := by decide +kernel
theorem dX10_reserve_22 : decode cX10_reserve 22 = .ok (.ldc2_w 307, 3) := by decide +kernel
theorem dX10_reserve_25 : decode cX10_reserve 25 = .ok (.lconst 0, 1) := by decide +kernel
theorem dX10_reserve_26 : decode cX10_reserve 26 = .ok (.aload_n 0, 1) := by decide +kernel
theorem dX10_reserve_27 : decode cX10_reserve 27 = .ok (.getfield 66, 3) := by decide +kernel
theorem dX10_reserve_30 : decode cX10_reserve 30 = .ok (.getfield 188, 3) := by decide +kernel
theorem dX10_reserve_33 : decode cX10_reserve 33 = .ok (.iconst 2, 1) := by decide +kernel
theorem dX10_reserve_34 : decode cX10_reserve 34 = .ok (.laload, 1) := by decide +kernel
theorem dX10_reserve_35 : decode cX10_reserve 35 = .ok (.aload_n 0, 1) := by decide +kernel
theorem dX10_reserve_36 : decode cX10_reserve 36 = .ok (.getfield 66, 3) := by decide +kernel
theorem dX10_reserve_39 : decode cX10_reserve 39 = .ok (.getfield 188, 3) := by decide +kernel
theorem dX10_reserve_42 : decode cX10_reserve 42 = .ok (.iconst 3, 1) := by decide +kernel
theorem dX10_reserve_43 : decode cX10_reserve 43 = .ok (.laload, 1) := by decide +kernel
theorem dX10_reserve_44 : decode cX10_reserve 44 = .ok (.lsub, 1) := by decide +kernel
theorem dX10_reserve_45 : decode cX10_reserve 45 = .ok (.invokestatic 312, 3) := by decide +kernel
theorem dX10_reserve_48 : decode cX10_reserve 48 = .ok (.lmul, 1) := by decide +kernel
theorem dX10_reserve_49 : decode cX10_reserve 49 = .ok (.lstore_n 1, 1) := by decide +kernel
theorem dX10_reserve_50 : decode cX10_reserve 50 = .ok (.lload_n 1, 1) := by decide +kernel
theorem dX10_reserve_51 : decode cX10_reserve 51 = .ok (.ldc2_w 315, 3) := by decide +kernel
theorem dX10_reserve_54 : decode cX10_reserve 54 = .ok (.lcmp, 1) := by decide +kernel
theorem dX10_reserve_55 : decode cX10_reserve 55 = .ok (.ifCond .gt 7, 3) := by decide +kernel
theorem dX10_reserve_58 : decode cX10_reserve 58 = .ok (.lload_n 1, 1) := by decide +kernel
theorem dX10_reserve_59 : decode cX10_reserve 59 = .ok (.goto 6, 3) := by decide +kernel
theorem dX10_reserve_62 : decode cX10_reserve 62 = .ok (.ldc2_w 179, 3) := by decide +kernel
theorem dX10_reserve_65 : decode cX10_reserve 65 = .ok (.lreturn, 1) := by decide +kernel
theorem dX10_without_0 : decode cX10_without 0 = .ok (.iload_n 1, 1) := by decide +kernel
theorem dX10_without_1 : decode cX10_without 1 = .ok (.iload_n 2, 1) := by decide +kernel
theorem dX10_without_2 : decode cX10_without 2 = .ok (.if_icmp .eq 25, 3) := by decide +kernel
theorem dX10_without_5 : decode cX10_without 5 = .ok (.aload_n 0, 1) := by decide +kernel
theorem dX10_without_6 : decode cX10_without 6 = .ok (.getfield 19, 3) := by decide +kernel
theorem dX10_without_9 : decode cX10_without 9 = .ok (.iload_n 1, 1) := by decide +kernel
theorem dX10_without_10 : decode cX10_without 10 = .ok (.invokevirtual 145, 3) := by decide +kernel
theorem dX10_without_13 : decode cX10_without 13 = .ok (.ifCond .eq 14, 3) := by decide +kernel
theorem dX10_without_16 : decode cX10_without 16 = .ok (.aload_n 0, 1) := by decide +kernel
theorem dX10_without_17 : decode cX10_without 17 = .ok (.getfield 19, 3) := by decide +kernel
theorem dX10_without_20 : decode cX10_without 20 = .ok (.iload_n 2, 1) := by decide +kernel
theorem dX10_without_21 : decode cX10_without 21 = .ok (.invokevirtual 145, 3) := by decide +kernel
theorem dX10_without_24 : decode cX10_without 24 = .ok (.ifCond .ne 7, 3) := by decide +kernel
theorem dX10_without_27 : decode cX10_without 27 = .ok (.ldc2_w 269, 3) := by decide +kernel
theorem dX10_without_30 : decode cX10_without 30 = .ok (.lreturn, 1) := by decide +kernel
theorem dX10_without_31 : decode cX10_without 31 = .ok (.aload_n 0, 1) := by decide +kernel
theorem dX10_without_32 : decode cX10_without 32 = .ok (.getfield 66, 3) := by decide +kernel
theorem dX10_without_35 : decode cX10_without 35 = .ok (.iconst (-1), 1) := by decide +kernel
theorem dX10_without_36 : decode cX10_without 36 = .ok (.invokevirtual 181, 3) := by decide +kernel
theorem dX10_without_39 : decode cX10_without 39 = .ok (.aload_n 0, 1) := by decide +kernel
theorem dX10_without_40 : decode cX10_without 40 = .ok (.getfield 66, 3) := by decide +kernel
theorem dX10_without_43 : decode cX10_without 43 = .ok (.getfield 271, 3) := by decide +kernel
theorem dX10_without_46 : decode cX10_without 46 = .ok (.iconst 5, 1) := by decide +kernel
theorem dX10_without_47 : decode cX10_without 47 = .ok (.aaload, 1) := by decide +kernel
theorem dX10_without_48 : decode cX10_without 48 = .ok (.iload_n 1, 1) := by decide +kernel
theorem dX10_without_49 : decode cX10_without 49 = .ok (.laload, 1) := by decide +kernel
theorem dX10_without_50 : decode cX10_without 50 = .ok (.lstore_n 3, 1) := by decide +kernel
theorem dX10_without_51 : decode cX10_without 51 = .ok (.aload_n 0, 1) := by decide +kernel
theorem dX10_without_52 : decode cX10_without 52 = .ok (.getfield 66, 3) := by decide +kernel
theorem dX10_without_55 : decode cX10_without 55 = .ok (.iload_n 2, 1) := by decide +kernel
theorem dX10_without_56 : decode cX10_without 56 = .ok (.invokevirtual 181, 3) := by decide +kernel
theorem dX10_without_59 : decode cX10_without 59 = .ok (.aload_n 0, 1) := by decide +kernel
theorem dX10_without_60 : decode cX10_without 60 = .ok (.getfield 66, 3) := by decide +kernel
theorem dX10_without_63 : decode cX10_without 63 = .ok (.getfield 271, 3) := by decide +kernel
theorem dX10_without_66 : decode cX10_without 66 = .ok (.iconst 5, 1) := by decide +kernel
theorem dX10_without_67 : decode cX10_without 67 = .ok (.aaload, 1) := by decide +kernel
theorem dX10_without_68 : decode cX10_without 68 = .ok (.iload_n 1, 1) := by decide +kernel
theorem dX10_without_69 : decode cX10_without 69 = .ok (.laload, 1) := by decide +kernel
theorem dX10_without_70 : decode cX10_without 70 = .ok (.lload_n 3, 1) := by decide +kernel
theorem dX10_without_71 : decode cX10_without 71 = .ok (.lsub, 1) := by decide +kernel
theorem dX10_without_72 : decode cX10_without 72 = .ok (.lreturn, 1) := by decide +kernel
theorem dX10_near_0 : decode cX10_near 0 = .ok (.iload_n 1, 1) := by decide +kernel
theorem dX10_near_1 : decode cX10_near 1 = .ok (.iload_n 2, 1) := by decide +kernel
theorem dX10_near_2 : decode cX10_near 2 = .ok (.invokestatic 259, 3) := by decide +kernel
theorem dX10_near_5 : decode cX10_near 5 = .ok (.ifCond .ne 5, 3) := by decide +kernel
theorem dX10_near_8 : decode cX10_near 8 = .ok (.iconst (-1), 1) := by decide +kernel
theorem dX10_near_9 : decode cX10_near 9 = .ok (.ireturn, 1) := by decide +kernel
theorem dX10_near_10 : decode cX10_near 10 = .ok (.iconst 0, 1) := by decide +kernel
theorem dX10_near_11 : decode cX10_near 11 = .ok (.istore_n 3, 1) := by decide +kernel
theorem dX10_near_12 : decode cX10_near 12 = .ok (.iconst 0, 1) := by decide +kernel
theorem dX10_near_13 : decode cX10_near 13 = .ok (.istore 4, 2) := by decide +kernel
theorem dX10_near_15 : decode cX10_near 15 = .ok (.iload 4, 2) := by decide +kernel
theorem dX10_near_17 : decode cX10_near 17 = .ok (.aload_n 0, 1) := by decide +kernel
theorem dX10_near_18 : decode cX10_near 18 = .ok (.getfield 19, 3) := by decide +kernel
theorem dX10_near_21 : decode cX10_near 21 = .ok (.getfield 96, 3) := by decide +kernel
theorem dX10_near_24 : decode cX10_near 24 = .ok (.if_icmp .ge 57, 3) := by decide +kernel
theorem dX10_near_27 : decode cX10_near 27 = .ok (.aload_n 0, 1) := by decide +kernel
theorem dX10_near_28 : decode cX10_near 28 = .ok (.getfield 19, 3) := by decide +kernel
theorem dX10_near_31 : decode cX10_near 31 = .ok (.iload 4, 2) := by decide +kernel
theorem dX10_near_33 : decode cX10_near 33 = .ok (.invokevirtual 225, 3) := by decide +kernel
theorem dX10_near_36 : decode cX10_near 36 = .ok (.ifCond .eq 39, 3) := by decide +kernel
theorem dX10_near_39 : decode cX10_near 39 = .ok (.aload_n 0, 1) := by decide +kernel
theorem dX10_near_40 : decode cX10_near 40 = .ok (.getfield 19, 3) := by decide +kernel
theorem dX10_near_43 : decode cX10_near 43 = .ok (.getfield 221, 3) := by decide +kernel
theorem dX10_near_46 : decode cX10_near 46 = .ok (.iload 4, 2) := by decide +kernel
theorem dX10_near_48 : decode cX10_near 48 = .ok (.aaload, 1) := by decide +kernel
theorem dX10_near_49 : decode cX10_near 49 = .ok (.iload_n 1, 1) := by decide +kernel
theorem dX10_near_50 : decode cX10_near 50 = .ok (.iload_n 2, 1) := by decide +kernel
theorem dX10_near_51 : decode cX10_near 51 = .ok (.invokevirtual 317, 3) := by decide +kernel
theorem dX10_near_54 : decode cX10_near 54 = .ok (.ifCond .eq 21, 3) := by decide +kernel
theorem dX10_near_57 : decode cX10_near 57 = .ok (.iload_n 3, 1) := by decide +kernel
theorem dX10_near_58 : decode cX10_near 58 = .ok (.iconst 1, 1) := by decide +kernel
theorem dX10_near_59 : decode cX10_near 59 = .ok (.aload_n 0, 1) := by decide +kernel
theorem dX10_near_60 : decode cX10_near 60 = .ok (.getfield 19, 3) := by decide +kernel
theorem dX10_near_63 : decode cX10_near 63 = .ok (.getfield 221, 3) := by decide +kernel
theorem dX10_near_66 : decode cX10_near 66 = .ok (.iload 4, 2) := by decide +kernel
theorem dX10_near_68 : decode cX10_near 68 = .ok (.aaload, 1) := by decide +kernel
theorem dX10_near_69 : decode cX10_near 69 = .ok (.getfield 228, 3) := by decide +kernel
theorem dX10_near_72 : decode cX10_near 72 = .ok (.ishl, 1) := by decide +kernel
theorem dX10_near_73 : decode cX10_near 73 = .ok (.ior, 1) := by decide +kernel
theorem dX10_near_74 : decode cX10_near 74 = .ok (.istore_n 3, 1) := by decide +kernel
theorem dX10_near_75 : decode cX10_near 75 = .ok (.iinc 4 1, 3) := by decide +kernel
theorem dX10_near_78 : decode cX10_near 78 = .ok (.goto (-63), 3) := by decide +kernel
theorem dX10_near_81 : decode cX10_near 81 = .ok (.iload_n 3, 1) := by decide +kernel
theorem dX10_near_82 : decode cX10_near 82 = .ok (.ireturn, 1) := by decide +kernel
theorem dX10_rank_0 : decode cX10_rank 0 = .ok (.aload_n 0, 1) := by decide +kernel
theorem dX10_rank_1 : decode cX10_rank 1 = .ok (.getfield 66, 3) := by decide +kernel
theorem dX10_rank_4 : decode cX10_rank 4 = .ok (.iconst (-1), 1) := by decide +kernel
theorem dX10_rank_5 : decode cX10_rank 5 = .ok (.invokevirtual 181, 3) := by decide +kernel
theorem dX10_rank_8 : decode cX10_rank 8 = .ok (.iconst 0, 1) := by decide +kernel
theorem dX10_rank_9 : decode cX10_rank 9 = .ok (.istore_n 2, 1) := by decide +kernel
theorem dX10_rank_10 : decode cX10_rank 10 = .ok (.iload_n 2, 1) := by decide +kernel
theorem dX10_rank_11 : decode cX10_rank 11 = .ok (.aload_n 0, 1) := by decide +kernel
theorem dX10_rank_12 : decode cX10_rank 12 = .ok (.getfield 19, 3) := by decide +kernel
theorem dX10_rank_15 : decode cX10_rank 15 = .ok (.getfield 102, 3) := by decide +kernel
theorem dX10_rank_18 : decode cX10_rank 18 = .ok (.if_icmp .ge 34, 3) := by decide +kernel
theorem dX10_rank_21 : decode cX10_rank 21 = .ok (.aload_n 0, 1) := by decide +kernel
theorem dX10_rank_22 : decode cX10_rank 22 = .ok (.getfield 19, 3) := by decide +kernel
theorem dX10_rank_25 : decode cX10_rank 25 = .ok (.iload_n 2, 1) := by decide +kernel
theorem dX10_rank_26 : decode cX10_rank 26 = .ok (.invokevirtual 145, 3) := by decide +kernel
theorem dX10_rank_29 : decode cX10_rank 29 = .ok (.ifCond .eq 17, 3) := by decide +kernel
theorem dX10_rank_32 : decode cX10_rank 32 = .ok (.aload_n 0, 1) := by decide +kernel
theorem dX10_rank_33 : decode cX10_rank 33 = .ok (.getfield 66, 3) := by decide +kernel
theorem dX10_rank_36 : decode cX10_rank 36 = .ok (.iload_n 2, 1) := by decide +kernel
theorem dX10_rank_37 : decode cX10_rank 37 = .ok (.invokevirtual 320, 3) := by decide +kernel
theorem dX10_rank_40 : decode cX10_rank 40 = .ok (.iload_n 1, 1) := by decide +kernel
theorem dX10_rank_41 : decode cX10_rank 41 = .ok (.if_icmp .ne 5, 3) := by decide +kernel
theorem dX10_rank_44 : decode cX10_rank 44 = .ok (.iload_n 2, 1) := by decide +kernel
theorem dX10_rank_45 : decode cX10_rank 45 = .ok (.ireturn, 1) := by decide +kernel
theorem dX10_rank_46 : decode cX10_rank 46 = .ok (.iinc 2 1, 3) := by decide +kernel
theorem dX10_rank_49 : decode cX10_rank 49 = .ok (.goto (-39), 3) := by decide +kernel
theorem dX10_rank_52 : decode cX10_rank 52 = .ok (.iconst (-1), 1) := by decide +kernel
theorem dX10_rank_53 : decode cX10_rank 53 = .ok (.ireturn, 1) := by decide +kernel
theorem dX10_alone_0 : decode cX10_alone 0 = .ok (.iload_n 1, 1) := by decide +kernel
theorem dX10_alone_1 : decode cX10_alone 1 = .ok (.ifCond .lt 23, 3) := by decide +kernel
theorem dX10_alone_4 : decode cX10_alone 4 = .ok (.iload_n 1, 1) := by decide +kernel
theorem dX10_alone_5 : decode cX10_alone 5 = .ok (.aload_n 0, 1) := by decide +kernel
theorem dX10_alone_6 : decode cX10_alone 6 = .ok (.getfield 19, 3) := by decide +kernel
theorem dX10_alone_9 : decode cX10_alone 9 = .ok (.getfield 148, 3) := by decide +kernel
theorem dX10_alone_12 : decode cX10_alone 12 = .ok (.if_icmp .ge 12, 3) := by decide +kernel
theorem dX10_alone_15 : decode cX10_alone 15 = .ok (.iload_n 2, 1) := by decide +kernel
theorem dX10_alone_16 : decode cX10_alone 16 = .ok (.ifCond .lt 8, 3) := by decide +kernel
theorem dX10_alone_19 : decode cX10_alone 19 = .ok (.iload_n 2, 1) := by decide +kernel
theorem dX10_alone_20 : decode cX10_alone 20 = .ok (.iconst 4, 1) := by decide +kernel
theorem dX10_alone_21 : decode cX10_alone 21 = .ok (.if_icmp .lt 7, 3) := by decide +kernel
theorem dX10_alone_24 : decode cX10_alone 24 = .ok (.ldc2_w 179, 3) := by decide +kernel
theorem dX10_alone_27 : decode cX10_alone 27 = .ok (.lreturn, 1) := by decide +kernel
theorem dX10_alone_28 : decode cX10_alone 28 = .ok (.aload_n 0, 1) := by decide +kernel
theorem dX10_alone_29 : decode cX10_alone 29 = .ok (.getfield 57, 3) := by decide +kernel
theorem dX10_alone_32 : decode cX10_alone 32 = .ok (.aload_n 0, 1) := by decide +kernel
theorem dX10_alone_33 : decode cX10_alone 33 = .ok (.getfield 19, 3) := by decide +kernel
theorem dX10_alone_36 : decode cX10_alone 36 = .ok (.getfield 323, 3) := by decide +kernel
theorem dX10_alone_39 : decode cX10_alone 39 = .ok (.iload_n 1, 1) := by decide +kernel
theorem dX10_alone_40 : decode cX10_alone 40 = .ok (.aaload, 1) := by decide +kernel
theorem dX10_alone_41 : decode cX10_alone 41 = .ok (.iload_n 2, 1) := by decide +kernel
theorem dX10_alone_42 : decode cX10_alone 42 = .ok (.invokevirtual 327, 3) := by decide +kernel
theorem dX10_alone_45 : decode cX10_alone 45 = .ok (.lreturn, 1) := by decide +kernel
theorem dX10_look_0 : decode cX10_look 0 = .ok (.iload_n 1, 1) := by decide +kernel
theorem dX10_look_1 : decode cX10_look 1 = .ok (.tableswitch 111 0 7 #[47, 55, 63, 71, 79, 87, 95, 103], 47) := by decide +kernel
theorem dX10_look_48 : decode cX10_look 48 = .ok (.aload_n 0, 1) := by decide +kernel
theorem dX10_look_49 : decode cX10_look 49 = .ok (.getfield 19, 3) := by decide +kernel
theorem dX10_look_52 : decode cX10_look 52 = .ok (.invokevirtual 175, 3) := by decide +kernel
theorem dX10_look_55 : decode cX10_look 55 = .ok (.ireturn, 1) := by decide +kernel
theorem dX10_look_56 : decode cX10_look 56 = .ok (.aload_n 0, 1) := by decide +kernel
theorem dX10_look_57 : decode cX10_look 57 = .ok (.getfield 19, 3) := by decide +kernel
theorem dX10_look_60 : decode cX10_look 60 = .ok (.invokevirtual 331, 3) := by decide +kernel
theorem dX10_look_63 : decode cX10_look 63 = .ok (.ireturn, 1) := by decide +kernel
theorem dX10_look_64 : decode cX10_look 64 = .ok (.aload_n 0, 1) := by decide +kernel
theorem dX10_look_65 : decode cX10_look 65 = .ok (.getfield 19, 3) := by decide +kernel
theorem dX10_look_68 : decode cX10_look 68 = .ok (.getfield 148, 3) := by decide +kernel
theorem dX10_look_71 : decode cX10_look 71 = .ok (.ireturn, 1) := by decide +kernel
theorem dX10_look_72 : decode cX10_look 72 = .ok (.aload_n 0, 1) := by decide +kernel
theorem dX10_look_73 : decode cX10_look 73 = .ok (.getfield 19, 3) := by decide +kernel
theorem dX10_look_76 : decode cX10_look 76 = .ok (.getfield 334, 3) := by decide +kernel
theorem dX10_look_79 : decode cX10_look 79 = .ok (.ireturn, 1) := by decide +kernel
theorem dX10_look_80 : decode cX10_look 80 = .ok (.aload_n 0, 1) := by decide +kernel
theorem dX10_look_81 : decode cX10_look 81 = .ok (.getfield 48, 3) := by decide +kernel
theorem dX10_look_84 : decode cX10_look 84 = .ok (.getfield 93, 3) := by decide +kernel
theorem dX10_look_87 : decode cX10_look 87 = .ok (.ireturn, 1) := by decide +kernel
theorem dX10_look_88 : decode cX10_look 88 = .ok (.aload_n 0, 1) := by decide +kernel
theorem dX10_look_89 : decode cX10_look 89 = .ok (.getfield 12, 3) := by decide +kernel
theorem dX10_look_92 : decode cX10_look 92 = .ok (.getfield 78, 3) := by decide +kernel
theorem dX10_look_95 : decode cX10_look 95 = .ok (.ireturn, 1) := by decide +kernel
theorem dX10_look_96 : decode cX10_look 96 = .ok (.aload_n 0, 1) := by decide +kernel
theorem dX10_look_97 : decode cX10_look 97 = .ok (.getfield 19, 3) := by decide +kernel
theorem dX10_look_100 : decode cX10_look 100 = .ok (.getfield 102, 3) := by decide +kernel
theorem dX10_look_103 : decode cX10_look 103 = .ok (.ireturn, 1) := by decide +kernel
theorem dX10_look_104 : decode cX10_look 104 = .ok (.aload_n 0, 1) := by decide +kernel
theorem dX10_look_105 : decode cX10_look 105 = .ok (.getfield 19, 3) := by decide +kernel
theorem dX10_look_108 : decode cX10_look 108 = .ok (.getfield 96, 3) := by decide +kernel
theorem dX10_look_111 : decode cX10_look 111 = .ok (.ireturn, 1) := by decide +kernel
theorem dX10_look_112 : decode cX10_look 112 = .ok (.iconst (-1), 1) := by decide +kernel
theorem dX10_look_113 : decode cX10_look 113 = .ok (.ireturn, 1) := by decide +kernel
theorem dX10_isCell_0 : decode cX10_isCell 0 = .ok (.iload_n 0, 1) := by decide +kernel
theorem dX10_isCell_1 : decode cX10_isCell 1 = .ok (.ifCond .lt 23, 3) := by decide +kernel
theorem dX10_isCell_4 : decode cX10_isCell 4 = .ok (.iload_n 0, 1) := by decide +kernel
theorem dX10_isCell_5 : decode cX10_isCell 5 = .ok (.bipush 8, 2) := by decide +kernel
theorem dX10_isCell_7 : decode cX10_isCell 7 = .ok (.if_icmp .ge 17, 3) := by decide +kernel
theorem dX10_isCell_10 : decode cX10_isCell 10 = .ok (.iload_n 1, 1) := by decide +kernel
theorem dX10_isCell_11 : decode cX10_isCell 11 = .ok (.ifCond .lt 13, 3) := by decide +kernel
theorem dX10_isCell_14 : decode cX10_isCell 14 = .ok (.iload_n 1, 1) := by decide +kernel
theorem dX10_isCell_15 : decode cX10_isCell 15 = .ok (.bipush 8, 2) := by decide +kernel
theorem dX10_isCell_17 : decode cX10_isCell 17 = .ok (.if_icmp .ge 7, 3) := by decide +kernel
theorem dX10_isCell_20 : decode cX10_isCell 20 = .ok (.iconst 1, 1) := by decide +kernel
theorem dX10_isCell_21 : decode cX10_isCell 21 = .ok (.goto 4, 3) := by decide +kernel
theorem dX10_isCell_24 : decode cX10_isCell 24 = .ok (.iconst 0, 1) := by decide +kernel
theorem dX10_isCell_25 : decode cX10_isCell 25 = .ok (.ireturn, 1) := by decide +kernel
theorem dX10_isArea_0 : decode cX10_isArea 0 = .ok (.iload_n 0, 1) := by decide +kernel
theorem dX10_isArea_1 : decode cX10_isArea 1 = .ok (.iload_n 1, 1) := by decide +kernel
theorem dX10_isArea_2 : decode cX10_isArea 2 = .ok (.invokestatic 259, 3) := by decide +kernel
theorem dX10_isArea_5 : decode cX10_isArea 5 = .ok (.ifCond .eq 25, 3) := by decide +kernel
theorem dX10_isArea_8 : decode cX10_isArea 8 = .ok (.iload_n 2, 1) := by decide +kernel
theorem dX10_isArea_9 : decode cX10_isArea 9 = .ok (.iload_n 3, 1) := by decide +kernel
theorem dX10_isArea_10 : decode cX10_isArea 10 = .ok (.invokestatic 259, 3) := by decide +kernel
theorem dX10_isArea_13 : decode cX10_isArea 13 = .ok (.ifCond .eq 17, 3) := by decide +kernel
theorem dX10_isArea_16 : decode cX10_isArea 16 = .ok (.iload_n 0, 1) := by decide +kernel
theorem dX10_isArea_17 : decode cX10_isArea 17 = .ok (.iload_n 2, 1) := by decide +kernel
theorem dX10_isArea_18 : decode cX10_isArea 18 = .ok (.if_icmp .gt 12, 3) := by decide +kernel
theorem dX10_isArea_21 : decode cX10_isArea 21 = .ok (.iload_n 1, 1) := by decide +kernel
theorem dX10_isArea_22 : decode cX10_isArea 22 = .ok (.iload_n 3, 1) := by decide +kernel
theorem dX10_isArea_23 : decode cX10_isArea 23 = .ok (.if_icmp .gt 7, 3) := by decide +kernel
theorem dX10_isArea_26 : decode cX10_isArea 26 = .ok (.iconst 1, 1) := by decide +kernel
theorem dX10_isArea_27 : decode cX10_isArea 27 = .ok (.goto 4, 3) := by decide +kernel
theorem dX10_isArea_30 : decode cX10_isArea 30 = .ok (.iconst 0, 1) := by decide +kernel
theorem dX10_isArea_31 : decode cX10_isArea 31 = .ok (.ireturn, 1) := by decide +kernel
theorem dX10_isSpan_0 : decode cX10_isSpan 0 = .ok (.iload_n 0, 1) := by decide +kernel
theorem dX10_isSpan_1 : decode cX10_isSpan 1 = .ok (.iconst 1, 1) := by decide +kernel
theorem dX10_isSpan_2 : decode cX10_isSpan 2 = .ok (.if_icmp .lt 13, 3) := by decide +kernel
theorem dX10_isSpan_5 : decode cX10_isSpan 5 = .ok (.iload_n 0, 1) := by decide +kernel
theorem dX10_isSpan_6 : decode cX10_isSpan 6 = .ok (.bipush 8, 2) := by decide +kernel
theorem dX10_isSpan_8 : decode cX10_isSpan 8 = .ok (.if_icmp .gt 7, 3) := by decide +kernel
theorem dX10_isSpan_11 : decode cX10_isSpan 11 = .ok (.iconst 1, 1) := by decide +kernel
theorem dX10_isSpan_12 : decode cX10_isSpan 12 = .ok (.goto 4, 3) := by decide +kernel
theorem dX10_isSpan_15 : decode cX10_isSpan 15 = .ok (.iconst 0, 1) := by decide +kernel
theorem dX10_isSpan_16 : decode cX10_isSpan 16 = .ok (.ireturn, 1) := by decide +kernel
theorem dX10_isStrength_0 : decode cX10_isStrength 0 = .ok (.iload_n 0, 1) := by decide +kernel
theorem dX10_isStrength_1 : decode cX10_isStrength 1 = .ok (.iconst 1, 1) := by decide +kernel
theorem dX10_isStrength_2 : decode cX10_isStrength 2 = .ok (.if_icmp .lt 13, 3) := by decide +kernel
theorem dX10_isStrength_5 : decode cX10_isStrength 5 = .ok (.iload_n 0, 1) := by decide +kernel
theorem dX10_isStrength_6 : decode cX10_isStrength 6 = .ok (.bipush 100, 2) := by decide +kernel
theorem dX10_isStrength_8 : decode cX10_isStrength 8 = .ok (.if_icmp .gt 7, 3) := by decide +kernel
theorem dX10_isStrength_11 : decode cX10_isStrength 11 = .ok (.iconst 1, 1) := by decide +kernel
theorem dX10_isStrength_12 : decode cX10_isStrength 12 = .ok (.goto 4, 3) := by decide +kernel
theorem dX10_isStrength_15 : decode cX10_isStrength 15 = .ok (.iconst 0, 1) := by decide +kernel
theorem dX10_isStrength_16 : decode cX10_isStrength 16 = .ok (.ireturn, 1) := by decide +kernel
theorem dX10_advance_0 : decode cX10_advance 0 = .ok (.lload_n 0, 1) := by decide +kernel
theorem dX10_advance_1 : decode cX10_advance 1 = .ok (.lload_n 2, 1) := by decide +kernel
theorem dX10_advance_2 : decode cX10_advance 2 = .ok (.lmul, 1) := by decide +kernel
theorem dX10_advance_3 : decode cX10_advance 3 = .ok (.ldc2_w 337, 3) := by decide +kernel
theorem dX10_advance_6 : decode cX10_advance 6 = .ok (.ldiv, 1) := by decide +kernel
theorem dX10_advance_7 : decode cX10_advance 7 = .ok (.lreturn, 1) := by decide +kernel
theorem dX10_goalCoins_0 : decode cX10_goalCoins 0 = .ok (.lload_n 0, 1) := by decide +kernel
theorem dX10_goalCoins_1 : decode cX10_goalCoins 1 = .ok (.lload_n 2, 1) := by decide +kernel
theorem dX10_goalCoins_2 : decode cX10_goalCoins 2 = .ok (.lmul, 1) := by decide +kernel
theorem dX10_goalCoins_3 : decode cX10_goalCoins 3 = .ok (.ldc2_w 339, 3) := by decide +kernel
theorem dX10_goalCoins_6 : decode cX10_goalCoins 6 = .ok (.ldiv, 1) := by decide +kernel
theorem dX10_goalCoins_7 : decode cX10_goalCoins 7 = .ok (.lreturn, 1) := by decide +kernel
