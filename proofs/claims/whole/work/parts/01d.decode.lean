theorem dX6_lead_21 : decode cX6_lead 21 = .ok (.bipush 9, 2) := by decide +kernel
theorem dX6_lead_23 : decode cX6_lead 23 = .ok (.if_icmp .le 6, 3) := by decide +kernel
theorem dX6_lead_26 : decode cX6_lead 26 = .ok (.ldc 69, 2) := by decide +kernel
theorem dX6_lead_28 : decode cX6_lead 28 = .ok (.ireturn, 1) := by decide +kernel
theorem dX6_lead_29 : decode cX6_lead 29 = .ok (.aload_n 0, 1) := by decide +kernel
theorem dX6_lead_30 : decode cX6_lead 30 = .ok (.getfield 36, 3) := by decide +kernel
theorem dX6_lead_33 : decode cX6_lead 33 = .ok (.aload_n 0, 1) := by decide +kernel
theorem dX6_lead_34 : decode cX6_lead 34 = .ok (.getfield 26, 3) := by decide +kernel
theorem dX6_lead_37 : decode cX6_lead 37 = .ok (.invokevirtual 151, 3) := by decide +kernel
theorem dX6_lead_40 : decode cX6_lead 40 = .ok (.iload_n 2, 1) := by decide +kernel
theorem dX6_lead_41 : decode cX6_lead 41 = .ok (.ifCond .ne 13, 3) := by decide +kernel
theorem dX6_lead_44 : decode cX6_lead 44 = .ok (.aload_n 0, 1) := by decide +kernel
theorem dX6_lead_45 : decode cX6_lead 45 = .ok (.getfield 26, 3) := by decide +kernel
theorem dX6_lead_48 : decode cX6_lead 48 = .ok (.getfield 174, 3) := by decide +kernel
theorem dX6_lead_51 : decode cX6_lead 51 = .ok (.goto 10, 3) := by decide +kernel
theorem dX6_lead_54 : decode cX6_lead 54 = .ok (.aload_n 0, 1) := by decide +kernel
theorem dX6_lead_55 : decode cX6_lead 55 = .ok (.getfield 26, 3) := by decide +kernel
theorem dX6_lead_58 : decode cX6_lead 58 = .ok (.getfield 177, 3) := by decide +kernel
theorem dX6_lead_61 : decode cX6_lead 61 = .ok (.astore 4, 2) := by decide +kernel
theorem dX6_lead_63 : decode cX6_lead 63 = .ok (.aload 4, 2) := by decide +kernel
theorem dX6_lead_65 : decode cX6_lead 65 = .ok (.iload_n 1, 1) := by decide +kernel
theorem dX6_lead_66 : decode cX6_lead 66 = .ok (.iaload, 1) := by decide +kernel
theorem dX6_lead_67 : decode cX6_lead 67 = .ok (.istore 5, 2) := by decide +kernel
theorem dX6_lead_69 : decode cX6_lead 69 = .ok (.aload 4, 2) := by decide +kernel
theorem dX6_lead_71 : decode cX6_lead 71 = .ok (.iload_n 1, 1) := by decide +kernel
theorem dX6_lead_72 : decode cX6_lead 72 = .ok (.iload_n 3, 1) := by decide +kernel
theorem dX6_lead_73 : decode cX6_lead 73 = .ok (.iastore, 1) := by decide +kernel
theorem dX6_lead_74 : decode cX6_lead 74 = .ok (.iload 5, 2) := by decide +kernel
theorem dX6_lead_76 : decode cX6_lead 76 = .ok (.ireturn, 1) := by decide +kernel
theorem dX6_again_0 : decode cX6_again 0 = .ok (.aload_n 0, 1) := by decide +kernel
theorem dX6_again_1 : decode cX6_again 1 = .ok (.iload_n 1, 1) := by decide +kernel
theorem dX6_again_2 : decode cX6_again 2 = .ok (.invokevirtual 180, 3) := by decide +kernel
theorem dX6_again_5 : decode cX6_again 5 = .ok (.ifCond .ne 14, 3) := by decide +kernel
theorem dX6_again_8 : decode cX6_again 8 = .ok (.iload_n 2, 1) := by decide +kernel
theorem dX6_again_9 : decode cX6_again 9 = .ok (.iconst 1, 1) := by decide +kernel
theorem dX6_again_10 : decode cX6_again 10 = .ok (.if_icmp .lt 9, 3) := by decide +kernel
theorem dX6_again_13 : decode cX6_again 13 = .ok (.iload_n 2, 1) := by decide +kernel
theorem dX6_again_14 : decode cX6_again 14 = .ok (.bipush 9, 2) := by decide +kernel
theorem dX6_again_16 : decode cX6_again 16 = .ok (.if_icmp .le 6, 3) := by decide +kernel
theorem dX6_again_19 : decode cX6_again 19 = .ok (.ldc 69, 2) := by decide +kernel
theorem dX6_again_21 : decode cX6_again 21 = .ok (.ireturn, 1) := by decide +kernel
theorem dX6_again_22 : decode cX6_again 22 = .ok (.aload_n 0, 1) := by decide +kernel
theorem dX6_again_23 : decode cX6_again 23 = .ok (.getfield 26, 3) := by decide +kernel
theorem dX6_again_26 : decode cX6_again 26 = .ok (.iload_n 1, 1) := by decide +kernel
theorem dX6_again_27 : decode cX6_again 27 = .ok (.invokevirtual 183, 3) := by decide +kernel
theorem dX6_again_30 : decode cX6_again 30 = .ok (.ifCond .ne 6, 3) := by decide +kernel
theorem dX6_again_33 : decode cX6_again 33 = .ok (.ldc 143, 2) := by decide +kernel
theorem dX6_again_35 : decode cX6_again 35 = .ok (.ireturn, 1) := by decide +kernel
theorem dX6_again_36 : decode cX6_again 36 = .ok (.aload_n 0, 1) := by decide +kernel
theorem dX6_again_37 : decode cX6_again 37 = .ok (.getfield 36, 3) := by decide +kernel
theorem dX6_again_40 : decode cX6_again 40 = .ok (.aload_n 0, 1) := by decide +kernel
theorem dX6_again_41 : decode cX6_again 41 = .ok (.getfield 26, 3) := by decide +kernel
theorem dX6_again_44 : decode cX6_again 44 = .ok (.invokevirtual 151, 3) := by decide +kernel
theorem dX6_again_47 : decode cX6_again 47 = .ok (.aload_n 0, 1) := by decide +kernel
theorem dX6_again_48 : decode cX6_again 48 = .ok (.getfield 26, 3) := by decide +kernel
theorem dX6_again_51 : decode cX6_again 51 = .ok (.iload_n 1, 1) := by decide +kernel
theorem dX6_again_52 : decode cX6_again 52 = .ok (.iload_n 2, 1) := by decide +kernel
theorem dX6_again_53 : decode cX6_again 53 = .ok (.invokevirtual 186, 3) := by decide +kernel
theorem dX6_again_56 : decode cX6_again 56 = .ok (.aload_n 0, 1) := by decide +kernel
theorem dX6_again_57 : decode cX6_again 57 = .ok (.getfield 26, 3) := by decide +kernel
theorem dX6_again_60 : decode cX6_again 60 = .ok (.bipush 10, 2) := by decide +kernel
theorem dX6_again_62 : decode cX6_again 62 = .ok (.invokevirtual 157, 3) := by decide +kernel
theorem dX6_again_65 : decode cX6_again 65 = .ok (.ireturn, 1) := by decide +kernel
theorem dX6_marble_0 : decode cX6_marble 0 = .ok (.aload_n 0, 1) := by decide +kernel
theorem dX6_marble_1 : decode cX6_marble 1 = .ok (.iload_n 1, 1) := by decide +kernel
theorem dX6_marble_2 : decode cX6_marble 2 = .ok (.invokevirtual 180, 3) := by decide +kernel
theorem dX6_marble_5 : decode cX6_marble 5 = .ok (.ifCond .eq 6, 3) := by decide +kernel
theorem dX6_marble_8 : decode cX6_marble 8 = .ok (.ldc 69, 2) := by decide +kernel
theorem dX6_marble_10 : decode cX6_marble 10 = .ok (.ireturn, 1) := by decide +kernel
theorem dX6_marble_11 : decode cX6_marble 11 = .ok (.iload_n 2, 1) := by decide +kernel
theorem dX6_marble_12 : decode cX6_marble 12 = .ok (.tableswitch 58 0 2 #[28, 38, 48], 28) := by decide +kernel
theorem dX6_marble_40 : decode cX6_marble 40 = .ok (.aload_n 0, 1) := by decide +kernel
theorem dX6_marble_41 : decode cX6_marble 41 = .ok (.getfield 26, 3) := by decide +kernel
theorem dX6_marble_44 : decode cX6_marble 44 = .ok (.getfield 190, 3) := by decide +kernel
theorem dX6_marble_47 : decode cX6_marble 47 = .ok (.iload_n 1, 1) := by decide +kernel
theorem dX6_marble_48 : decode cX6_marble 48 = .ok (.iaload, 1) := by decide +kernel
theorem dX6_marble_49 : decode cX6_marble 49 = .ok (.ireturn, 1) := by decide +kernel
theorem dX6_marble_50 : decode cX6_marble 50 = .ok (.aload_n 0, 1) := by decide +kernel
theorem dX6_marble_51 : decode cX6_marble 51 = .ok (.getfield 26, 3) := by decide +kernel
theorem dX6_marble_54 : decode cX6_marble 54 = .ok (.getfield 193, 3) := by decide +kernel
theorem dX6_marble_57 : decode cX6_marble 57 = .ok (.iload_n 1, 1) := by decide +kernel
theorem dX6_marble_58 : decode cX6_marble 58 = .ok (.iaload, 1) := by decide +kernel
theorem dX6_marble_59 : decode cX6_marble 59 = .ok (.ireturn, 1) := by decide +kernel
theorem dX6_marble_60 : decode cX6_marble 60 = .ok (.aload_n 0, 1) := by decide +kernel
theorem dX6_marble_61 : decode cX6_marble 61 = .ok (.getfield 26, 3) := by decide +kernel
theorem dX6_marble_64 : decode cX6_marble 64 = .ok (.getfield 196, 3) := by decide +kernel
theorem dX6_marble_67 : decode cX6_marble 67 = .ok (.iload_n 1, 1) := by decide +kernel
theorem dX6_marble_68 : decode cX6_marble 68 = .ok (.iaload, 1) := by decide +kernel
theorem dX6_marble_69 : decode cX6_marble 69 = .ok (.ireturn, 1) := by decide +kernel
theorem dX6_marble_70 : decode cX6_marble 70 = .ok (.ldc 69, 2) := by decide +kernel
theorem dX6_marble_72 : decode cX6_marble 72 = .ok (.ireturn, 1) := by decide +kernel
theorem dX6_piece_0 : decode cX6_piece 0 = .ok (.aload_n 0, 1) := by decide +kernel
theorem dX6_piece_1 : decode cX6_piece 1 = .ok (.iload_n 1, 1) := by decide +kernel
theorem dX6_piece_2 : decode cX6_piece 2 = .ok (.invokevirtual 160, 3) := by decide +kernel
theorem dX6_piece_5 : decode cX6_piece 5 = .ok (.ifCond .eq 6, 3) := by decide +kernel
theorem dX6_piece_8 : decode cX6_piece 8 = .ok (.ldc 69, 2) := by decide +kernel
theorem dX6_piece_10 : decode cX6_piece 10 = .ok (.ireturn, 1) := by decide +kernel
theorem dX6_piece_11 : decode cX6_piece 11 = .ok (.iload_n 2, 1) := by decide +kernel
theorem dX6_piece_12 : decode cX6_piece 12 = .ok (.tableswitch 113 0 6 #[44, 54, 64, 74, 84, 94, 104], 44) := by decide +kernel
theorem dX6_piece_56 : decode cX6_piece 56 = .ok (.aload_n 0, 1) := by decide +kernel
theorem dX6_piece_57 : decode cX6_piece 57 = .ok (.getfield 26, 3) := by decide +kernel
theorem dX6_piece_60 : decode cX6_piece 60 = .ok (.getfield 167, 3) := by decide +kernel
theorem dX6_piece_63 : decode cX6_piece 63 = .ok (.iload_n 1, 1) := by decide +kernel
theorem dX6_piece_64 : decode cX6_piece 64 = .ok (.iaload, 1) := by decide +kernel
theorem dX6_piece_65 : decode cX6_piece 65 = .ok (.ireturn, 1) := by decide +kernel
theorem dX6_piece_66 : decode cX6_piece 66 = .ok (.aload_n 0, 1) := by decide +kernel
theorem dX6_piece_67 : decode cX6_piece 67 = .ok (.getfield 26, 3) := by decide +kernel
theorem dX6_piece_70 : decode cX6_piece 70 = .ok (.getfield 174, 3) := by decide +kernel
theorem dX6_piece_73 : decode cX6_piece 73 = .ok (.iload_n 1, 1) := by decide +kernel
theorem dX6_piece_74 : decode cX6_piece 74 = .ok (.iaload, 1) := by decide +kernel
theorem dX6_piece_75 : decode cX6_piece 75 = .ok (.ireturn, 1) := by decide +kernel
theorem dX6_piece_76 : decode cX6_piece 76 = .ok (.aload_n 0, 1) := by decide +kernel
theorem dX6_piece_77 : decode cX6_piece 77 = .ok (.getfield 26, 3) := by decide +kernel
theorem dX6_piece_80 : decode cX6_piece 80 = .ok (.getfield 177, 3) := by decide +kernel
theorem dX6_piece_83 : decode cX6_piece 83 = .ok (.iload_n 1, 1) := by decide +kernel
theorem dX6_piece_84 : decode cX6_piece 84 = .ok (.iaload, 1) := by decide +kernel
theorem dX6_piece_85 : decode cX6_piece 85 = .ok (.ireturn, 1) := by decide +kernel
theorem dX6_piece_86 : decode cX6_piece 86 = .ok (.aload_n 0, 1) := by decide +kernel
theorem dX6_piece_87 : decode cX6_piece 87 = .ok (.getfield 26, 3) := by decide +kernel
theorem dX6_piece_90 : decode cX6_piece 90 = .ok (.getfield 199, 3) := by decide +kernel
theorem dX6_piece_93 : decode cX6_piece 93 = .ok (.iload_n 1, 1) := by decide +kernel
theorem dX6_piece_94 : decode cX6_piece 94 = .ok (.iaload, 1) := by decide +kernel
theorem dX6_piece_95 : decode cX6_piece 95 = .ok (.ireturn, 1) := by decide +kernel
theorem dX6_piece_96 : decode cX6_piece 96 = .ok (.aload_n 0, 1) := by decide +kernel
theorem dX6_piece_97 : decode cX6_piece 97 = .ok (.getfield 26, 3) := by decide +kernel
theorem dX6_piece_100 : decode cX6_piece 100 = .ok (.getfield 202, 3) := by decide +kernel
theorem dX6_piece_103 : decode cX6_piece 103 = .ok (.iload_n 1, 1) := by decide +kernel
theorem dX6_piece_104 : decode cX6_piece 104 = .ok (.iaload, 1) := by decide +kernel
theorem dX6_piece_105 : decode cX6_piece 105 = .ok (.ireturn, 1) := by decide +kernel
theorem dX6_piece_106 : decode cX6_piece 106 = .ok (.aload_n 0, 1) := by decide +kernel
theorem dX6_piece_107 : decode cX6_piece 107 = .ok (.getfield 26, 3) := by decide +kernel
theorem dX6_piece_110 : decode cX6_piece 110 = .ok (.getfield 205, 3) := by decide +kernel
theorem dX6_piece_113 : decode cX6_piece 113 = .ok (.iload_n 1, 1) := by decide +kernel
theorem dX6_piece_114 : decode cX6_piece 114 = .ok (.iaload, 1) := by decide +kernel
theorem dX6_piece_115 : decode cX6_piece 115 = .ok (.ireturn, 1) := by decide +kernel
theorem dX6_piece_116 : decode cX6_piece 116 = .ok (.aload_n 0, 1) := by decide +kernel
theorem dX6_piece_117 : decode cX6_piece 117 = .ok (.getfield 26, 3) := by decide +kernel
theorem dX6_piece_120 : decode cX6_piece 120 = .ok (.iload_n 1, 1) := by decide +kernel
theorem dX6_piece_121 : decode cX6_piece 121 = .ok (.invokevirtual 157, 3) := by decide +kernel
theorem dX6_piece_124 : decode cX6_piece 124 = .ok (.ireturn, 1) := by decide +kernel
theorem dX6_piece_125 : decode cX6_piece 125 = .ok (.ldc 69, 2) := by decide +kernel
theorem dX6_piece_127 : decode cX6_piece 127 = .ok (.ireturn, 1) := by decide +kernel
theorem dX6_stand_0 : decode cX6_stand 0 = .ok (.aload_n 0, 1) := by decide +kernel
theorem dX6_stand_1 : decode cX6_stand 1 = .ok (.invokevirtual 144, 3) := by decide +kernel
theorem dX6_stand_4 : decode cX6_stand 4 = .ok (.ifCond .eq 6, 3) := by decide +kernel
theorem dX6_stand_7 : decode cX6_stand 7 = .ok (.ldc 143, 2) := by decide +kernel
theorem dX6_stand_9 : decode cX6_stand 9 = .ok (.ireturn, 1) := by decide +kernel
theorem dX6_stand_10 : decode cX6_stand 10 = .ok (.iload_n 1, 1) := by decide +kernel
theorem dX6_stand_11 : decode cX6_stand 11 = .ok (.tableswitch 91 0 5 #[37, 45, 55, 63, 71, 81], 37) := by decide +kernel
theorem dX6_stand_48 : decode cX6_stand 48 = .ok (.aload_n 0, 1) := by decide +kernel
theorem dX6_stand_49 : decode cX6_stand 49 = .ok (.getfield 26, 3) := by decide +kernel
theorem dX6_stand_52 : decode cX6_stand 52 = .ok (.getfield 208, 3) := by decide +kernel
theorem dX6_stand_55 : decode cX6_stand 55 = .ok (.ireturn, 1) := by decide +kernel
theorem dX6_stand_56 : decode cX6_stand 56 = .ok (.aload_n 0, 1) := by decide +kernel
theorem dX6_stand_57 : decode cX6_stand 57 = .ok (.getfield 26, 3) := by decide +kernel
theorem dX6_stand_60 : decode cX6_stand 60 = .ok (.bipush 10, 2) := by decide +kernel
theorem dX6_stand_62 : decode cX6_stand 62 = .ok (.invokevirtual 157, 3) := by decide +kernel
theorem dX6_stand_65 : decode cX6_stand 65 = .ok (.ireturn, 1) := by decide +kernel
theorem dX6_stand_66 : decode cX6_stand 66 = .ok (.aload_n 0, 1) := by decide +kernel
theorem dX6_stand_67 : decode cX6_stand 67 = .ok (.getfield 26, 3) := by decide +kernel
theorem dX6_stand_70 : decode cX6_stand 70 = .ok (.invokevirtual 211, 3) := by decide +kernel
theorem dX6_stand_73 : decode cX6_stand 73 = .ok (.ireturn, 1) := by decide +kernel
theorem dX6_stand_74 : decode cX6_stand 74 = .ok (.aload_n 0, 1) := by decide +kernel
theorem dX6_stand_75 : decode cX6_stand 75 = .ok (.getfield 26, 3) := by decide +kernel
theorem dX6_stand_78 : decode cX6_stand 78 = .ok (.invokevirtual 214, 3) := by decide +kernel
theorem dX6_stand_81 : decode cX6_stand 81 = .ok (.ireturn, 1) := by decide +kernel
theorem dX6_stand_82 : decode cX6_stand 82 = .ok (.aload_n 0, 1) := by decide +kernel
theorem dX6_stand_83 : decode cX6_stand 83 = .ok (.getfield 26, 3) := by decide +kernel
theorem dX6_stand_86 : decode cX6_stand 86 = .ok (.bipush 8, 2) := by decide +kernel
theorem dX6_stand_88 : decode cX6_stand 88 = .ok (.invokevirtual 157, 3) := by decide +kernel
theorem dX6_stand_91 : decode cX6_stand 91 = .ok (.ireturn, 1) := by decide +kernel
theorem dX6_stand_92 : decode cX6_stand 92 = .ok (.aload_n 0, 1) := by decide +kernel
theorem dX6_stand_93 : decode cX6_stand 93 = .ok (.getfield 26, 3) := by decide +kernel
theorem dX6_stand_96 : decode cX6_stand 96 = .ok (.bipush 9, 2) := by decide +kernel
theorem dX6_stand_98 : decode cX6_stand 98 = .ok (.invokevirtual 157, 3) := by decide +kernel
theorem dX6_stand_101 : decode cX6_stand 101 = .ok (.ireturn, 1) := by decide +kernel
theorem dX6_stand_102 : decode cX6_stand 102 = .ok (.ldc 69, 2) := by decide +kernel
theorem dX6_stand_104 : decode cX6_stand 104 = .ok (.ireturn, 1) := by decide +kernel
theorem dX6_ahead_0 : decode cX6_ahead 0 = .ok (.aload_n 0, 1) := by decide +kernel
theorem dX6_ahead_1 : decode cX6_ahead 1 = .ok (.iload_n 1, 1) := by decide +kernel
theorem dX6_ahead_2 : decode cX6_ahead 2 = .ok (.invokevirtual 180, 3) := by decide +kernel
theorem dX6_ahead_5 : decode cX6_ahead 5 = .ok (.ifCond .ne 13, 3) := by decide +kernel
theorem dX6_ahead_8 : decode cX6_ahead 8 = .ok (.iload_n 2, 1) := by decide +kernel
theorem dX6_ahead_9 : decode cX6_ahead 9 = .ok (.iconst 0, 1) := by decide +kernel
theorem dX6_ahead_10 : decode cX6_ahead 10 = .ok (.bipush 60, 2) := by decide +kernel
theorem dX6_ahead_12 : decode cX6_ahead 12 = .ok (.invokestatic 217, 3) := by decide +kernel
theorem dX6_ahead_15 : decode cX6_ahead 15 = .ok (.ifCond .eq 6, 3) := by decide +kernel
theorem dX6_ahead_18 : decode cX6_ahead 18 = .ok (.ldc 69, 2) := by decide +kernel
theorem dX6_ahead_20 : decode cX6_ahead 20 = .ok (.ireturn, 1) := by decide +kernel
theorem dX6_ahead_21 : decode cX6_ahead 21 = .ok (.aload_n 0, 1) := by decide +kernel
theorem dX6_ahead_22 : decode cX6_ahead 22 = .ok (.getfield 43, 3) := by decide +kernel
theorem dX6_ahead_25 : decode cX6_ahead 25 = .ok (.aload_n 0, 1) := by decide +kernel
theorem dX6_ahead_26 : decode cX6_ahead 26 = .ok (.getfield 26, 3) := by decide +kernel
theorem dX6_ahead_29 : decode cX6_ahead 29 = .ok (.iload_n 2, 1) := by decide +kernel
theorem dX6_ahead_30 : decode cX6_ahead 30 = .ok (.invokevirtual 220, 3) := by decide +kernel
theorem dX6_ahead_33 : decode cX6_ahead 33 = .ok (.getfield 196, 3) := by decide +kernel
theorem dX6_ahead_36 : decode cX6_ahead 36 = .ok (.iload_n 1, 1) := by decide +kernel
theorem dX6_ahead_37 : decode cX6_ahead 37 = .ok (.iaload, 1) := by decide +kernel
theorem dX6_ahead_38 : decode cX6_ahead 38 = .ok (.ireturn, 1) := by decide +kernel
theorem dX6_stands_0 : decode cX6_stands 0 = .ok (.aload_n 0, 1) := by decide +kernel
theorem dX6_stands_1 : decode cX6_stands 1 = .ok (.iload_n 1, 1) := by decide +kernel
theorem dX6_stands_2 : decode cX6_stands 2 = .ok (.invokevirtual 160, 3) := by decide +kernel
theorem dX6_stands_5 : decode cX6_stands 5 = .ok (.ifCond .ne 22, 3) := by decide +kernel
theorem dX6_stands_8 : decode cX6_stands 8 = .ok (.iload_n 2, 1) := by decide +kernel
theorem dX6_stands_9 : decode cX6_stands 9 = .ok (.iconst 0, 1) := by decide +kernel
theorem dX6_stands_10 : decode cX6_stands 10 = .ok (.bipush 60, 2) := by decide +kernel
theorem dX6_stands_12 : decode cX6_stands 12 = .ok (.invokestatic 217, 3) := by decide +kernel
theorem dX6_stands_15 : decode cX6_stands 15 = .ok (.ifCond .ne 12, 3) := by decide +kernel
theorem dX6_stands_18 : decode cX6_stands 18 = .ok (.iload_n 3, 1) := by decide +kernel
theorem dX6_stands_19 : decode cX6_stands 19 = .ok (.iconst 0, 1) := by decide +kernel
theorem dX6_stands_20 : decode cX6_stands 20 = .ok (.iconst 3, 1) := by decide +kernel
theorem dX6_stands_21 : decode cX6_stands 21 = .ok (.invokestatic 217, 3) := by decide +kernel
theorem dX6_stands_24 : decode cX6_stands 24 = .ok (.ifCond .eq 6, 3) := by decide +kernel
theorem dX6_stands_27 : decode cX6_stands 27 = .ok (.ldc 69, 2) := by decide +kernel
theorem dX6_stands_29 : decode cX6_stands 29 = .ok (.ireturn, 1) := by decide +kernel
theorem dX6_stands_30 : decode cX6_stands 30 = .ok (.aload_n 0, 1) := by decide +kernel
theorem dX6_stands_31 : decode cX6_stands 31 = .ok (.getfield 43, 3) := by decide +kernel
theorem dX6_stands_34 : decode cX6_stands 34 = .ok (.aload_n 0, 1) := by decide +kernel
theorem dX6_stands_35 : decode cX6_stands 35 = .ok (.getfield 26, 3) := by decide +kernel
theorem dX6_stands_38 : decode cX6_stands 38 = .ok (.iload_n 2, 1) := by decide +kernel
theorem dX6_stands_39 : decode cX6_stands 39 = .ok (.invokevirtual 220, 3) := by decide +kernel
theorem dX6_stands_42 : decode cX6_stands 42 = .ok (.astore 4, 2) := by decide +kernel
theorem dX6_stands_44 : decode cX6_stands 44 = .ok (.iload_n 3, 1) := by decide +kernel
theorem dX6_stands_45 : decode cX6_stands 45 = .ok (.tableswitch 51 0 2 #[27, 35, 43], 27) := by decide +kernel
theorem dX6_stands_72 : decode cX6_stands 72 = .ok (.aload 4, 2) := by decide +kernel
theorem dX6_stands_74 : decode cX6_stands 74 = .ok (.getfield 167, 3) := by decide +kernel
theorem dX6_stands_77 : decode cX6_stands 77 = .ok (.iload_n 1, 1) := by decide +kernel
theorem dX6_stands_78 : decode cX6_stands 78 = .ok (.iaload, 1) := by decide +kernel
theorem dX6_stands_79 : decode cX6_stands 79 = .ok (.ireturn, 1) := by decide +kernel
theorem dX6_stands_80 : decode cX6_stands 80 = .ok (.aload 4, 2) := by decide +kernel
theorem dX6_stands_82 : decode cX6_stands 82 = .ok (.getfield 199, 3) := by decide +kernel
theorem dX6_stands_85 : decode cX6_stands 85 = .ok (.iload_n 1, 1) := by decide +kernel
theorem dX6_stands_86 : decode cX6_stands 86 = .ok (.iaload, 1) := by decide +kernel
theorem dX6_stands_87 : decode cX6_stands 87 = .ok (.ireturn, 1) := by decide +kernel
theorem dX6_stands_88 : decode cX6_stands 88 = .ok (.aload 4, 2) := by decide +kernel
theorem dX6_stands_90 : decode cX6_stands 90 = .ok (.getfield 202, 3) := by decide +kernel
theorem dX6_stands_93 : decode cX6_stands 93 = .ok (.iload_n 1, 1) := by decide +kernel
theorem dX6_stands_94 : decode cX6_stands 94 = .ok (.iaload, 1) := by decide +kernel
theorem dX6_stands_95 : decode cX6_stands 95 = .ok (.ireturn, 1) := by decide +kernel
theorem dX6_stands_96 : decode cX6_stands 96 = .ok (.aload 4, 2) := by decide +kernel
theorem dX6_stands_98 : decode cX6_stands 98 = .ok (.getfield 205, 3) := by decide +kernel
theorem dX6_stands_101 : decode cX6_stands 101 = .ok (.iload_n 1, 1) := by decide +kernel
theorem dX6_stands_102 : decode cX6_stands 102 = .ok (.iaload, 1) := by decide +kernel
theorem dX6_stands_103 : decode cX6_stands 103 = .ok (.ireturn, 1) := by decide +kernel
theorem dX6_trays_0 : decode cX6_trays 0 = .ok (.aload_n 0, 1) := by decide +kernel
theorem dX6_trays_1 : decode cX6_trays 1 = .ok (.invokevirtual 144, 3) := by decide +kernel
theorem dX6_trays_4 : decode cX6_trays 4 = .ok (.ifCond .eq 6, 3) := by decide +kernel
theorem dX6_trays_7 : decode cX6_trays 7 = .ok (.ldc 143, 2) := by decide +kernel
theorem dX6_trays_9 : decode cX6_trays 9 = .ok (.ireturn, 1) := by decide +kernel
theorem dX6_trays_10 : decode cX6_trays 10 = .ok (.iload_n 1, 1) := by decide +kernel
theorem dX6_trays_11 : decode cX6_trays 11 = .ok (.iconst 0, 1) := by decide +kernel
theorem dX6_trays_12 : decode cX6_trays 12 = .ok (.bipush 60, 2) := by decide +kernel
theorem dX6_trays_14 : decode cX6_trays 14 = .ok (.invokestatic 217, 3) := by decide +kernel
theorem dX6_trays_17 : decode cX6_trays 17 = .ok (.ifCond .ne 10, 3) := by decide +kernel
theorem dX6_trays_20 : decode cX6_trays 20 = .ok (.iload_n 2, 1) := by decide +kernel
theorem dX6_trays_21 : decode cX6_trays 21 = .ok (.invokestatic 171, 3) := by decide +kernel
theorem dX6_trays_24 : decode cX6_trays 24 = .ok (.ifCond .eq 6, 3) := by decide +kernel
theorem dX6_trays_27 : decode cX6_trays 27 = .ok (.ldc 69, 2) := by decide +kernel
theorem dX6_trays_29 : decode cX6_trays 29 = .ok (.ireturn, 1) := by decide +kernel
theorem dX6_trays_30 : decode cX6_trays 30 = .ok (.aload_n 0, 1) := by decide +kernel
theorem dX6_trays_31 : decode cX6_trays 31 = .ok (.getfield 43, 3) := by decide +kernel
theorem dX6_trays_34 : decode cX6_trays 34 = .ok (.aload_n 0, 1) := by decide +kernel
theorem dX6_trays_35 : decode cX6_trays 35 = .ok (.getfield 26, 3) := by decide +kernel
theorem dX6_trays_38 : decode cX6_trays 38 = .ok (.iload_n 1, 1) := by decide +kernel
theorem dX6_trays_39 : decode cX6_trays 39 = .ok (.invokevirtual 220, 3) := by decide +kernel
theorem dX6_trays_42 : decode cX6_trays 42 = .ok (.iload_n 2, 1) := by decide +kernel
theorem dX6_trays_43 : decode cX6_trays 43 = .ok (.ifCond .ne 8, 3) := by decide +kernel
theorem dX6_trays_46 : decode cX6_trays 46 = .ok (.bipush 8, 2) := by decide +kernel
theorem dX6_trays_48 : decode cX6_trays 48 = .ok (.goto 5, 3) := by decide +kernel
theorem dX6_trays_51 : decode cX6_trays 51 = .ok (.bipush 9, 2) := by decide +kernel
theorem dX6_trays_53 : decode cX6_trays 53 = .ok (.invokevirtual 157, 3) := by decide +kernel
theorem dX6_trays_56 : decode cX6_trays 56 = .ok (.ireturn, 1) := by decide +kernel
theorem dX6_when_0 : decode cX6_when 0 = .ok (.aload_n 0, 1) := by decide +kernel
theorem dX6_when_1 : decode cX6_when 1 = .ok (.iload_n 1, 1) := by decide +kernel
theorem dX6_when_2 : decode cX6_when 2 = .ok (.invokevirtual 180, 3) := by decide +kernel
theorem dX6_when_5 : decode cX6_when 5 = .ok (.ifCond .eq 8, 3) := by decide +kernel
theorem dX6_when_8 : decode cX6_when 8 = .ok (.ldc 69, 2) := by decide +kernel
theorem dX6_when_10 : decode cX6_when 10 = .ok (.goto 17, 3) := by decide +kernel
theorem dX6_when_13 : decode cX6_when 13 = .ok (.aload_n 0, 1) := by decide +kernel
theorem dX6_when_14 : decode cX6_when 14 = .ok (.getfield 43, 3) := by decide +kernel
theorem dX6_when_17 : decode cX6_when 17 = .ok (.aload_n 0, 1) := by decide +kernel
theorem dX6_when_18 : decode cX6_when 18 = .ok (.getfield 26, 3) := by decide +kernel
theorem dX6_when_21 : decode cX6_when 21 = .ok (.iload_n 1, 1) := by decide +kernel
theorem dX6_when_22 : decode cX6_when 22 = .ok (.bipush 60, 2) := by decide +kernel
theorem dX6_when_24 : decode cX6_when 24 = .ok (.invokevirtual 224, 3) := by decide +kernel
theorem dX6_when_27 : decode cX6_when 27 = .ok (.ireturn, 1) := by decide +kernel
theorem dX6_rest_0 : decode cX6_rest 0 = .ok (.aload_n 0, 1) := by decide +kernel
theorem dX6_rest_1 : decode cX6_rest 1 = .ok (.invokevirtual 144, 3) := by decide +kernel
theorem dX6_rest_4 : decode cX6_rest 4 = .ok (.ifCond .eq 8, 3) := by decide +kernel
theorem dX6_rest_7 : decode cX6_rest 7 = .ok (.ldc 143, 2) := by decide +kernel
theorem dX6_rest_9 : decode cX6_rest 9 = .ok (.goto 16, 3) := by decide +kernel
theorem dX6_rest_12 : decode cX6_rest 12 = .ok (.aload_n 0, 1) := by decide +kernel
theorem dX6_rest_13 : decode cX6_rest 13 = .ok (.getfield 43, 3) := by decide +kernel
theorem dX6_rest_16 : decode cX6_rest 16 = .ok (.aload_n 0, 1) := by decide +kernel
theorem dX6_rest_17 : decode cX6_rest 17 = .ok (.getfield 26, 3) := by decide +kernel
theorem dX6_rest_20 : decode cX6_rest 20 = .ok (.bipush 60, 2) := by decide +kernel
theorem dX6_rest_22 : decode cX6_rest 22 = .ok (.invokevirtual 228, 3) := by decide +kernel
theorem dX6_rest_25 : decode cX6_rest 25 = .ok (.ireturn, 1) := by decide +kernel
theorem dX6_tips_0 : decode cX6_tips 0 = .ok (.aload_n 0, 1) := by decide +kernel
theorem dX6_tips_1 : decode cX6_tips 1 = .ok (.invokevirtual 144, 3) := by decide +kernel
theorem dX6_tips_4 : decode cX6_tips 4 = .ok (.ifCond .eq 6, 3) := by decide +kernel
theorem dX6_tips_7 : decode cX6_tips 7 = .ok (.ldc 143, 2) := by decide +kernel
theorem dX6_tips_9 : decode cX6_tips 9 = .ok (.ireturn, 1) := by decide +kernel
theorem dX6_tips_10 : decode cX6_tips 10 = .ok (.iload_n 1, 1) := by decide +kernel
theorem dX6_tips_11 : decode cX6_tips 11 = .ok (.iconst 1, 1) := by decide +kernel
theorem dX6_tips_12 : decode cX6_tips 12 = .ok (.bipush 40, 2) := by decide +kernel
theorem dX6_tips_14 : decode cX6_tips 14 = .ok (.invokestatic 217, 3) := by decide +kernel
theorem dX6_tips_17 : decode cX6_tips 17 = .ok (.ifCond .ne 12, 3) := by decide +kernel
theorem dX6_tips_20 : decode cX6_tips 20 = .ok (.iload_n 2, 1) := by decide +kernel
theorem dX6_tips_21 : decode cX6_tips 21 = .ok (.iconst 0, 1) := by decide +kernel
theorem dX6_tips_22 : decode cX6_tips 22 = .ok (.iconst 1, 1) := by decide +kernel
theorem dX6_tips_23 : decode cX6_tips 23 = .ok (.invokestatic 217, 3) := by decide +kernel
theorem dX6_tips_26 : decode cX6_tips 26 = .ok (.ifCond .eq 6, 3) := by decide +kernel
theorem dX6_tips_29 : decode cX6_tips 29 = .ok (.ldc 69, 2) := by decide +kernel
theorem dX6_tips_31 : decode cX6_tips 31 = .ok (.ireturn, 1) := by decide +kernel
theorem dX6_tips_32 : decode cX6_tips 32 = .ok (.aload_n 0, 1) := by decide +kernel
theorem dX6_tips_33 : decode cX6_tips 33 = .ok (.getfield 43, 3) := by decide +kernel
theorem dX6_tips_36 : decode cX6_tips 36 = .ok (.aload_n 0, 1) := by decide +kernel
theorem dX6_tips_37 : decode cX6_tips 37 = .ok (.getfield 26, 3) := by decide +kernel
theorem dX6_tips_40 : decode cX6_tips 40 = .ok (.iload_n 1, 1) := by decide +kernel
theorem dX6_tips_41 : decode cX6_tips 41 = .ok (.invokevirtual 232, 3) := by decide +kernel
theorem dX6_tips_44 : decode cX6_tips 44 = .ok (.iload_n 2, 1) := by decide +kernel
theorem dX6_tips_45 : decode cX6_tips 45 = .ok (.ifCond .ne 13, 3) := by decide +kernel
theorem dX6_tips_48 : decode cX6_tips 48 = .ok (.aload_n 0, 1) := by decide +kernel
theorem dX6_tips_49 : decode cX6_tips 49 = .ok (.getfield 43, 3) := by decide +kernel
theorem dX6_tips_52 : decode cX6_tips 52 = .ok (.invokevirtual 236, 3) := by decide +kernel
theorem dX6_tips_55 : decode cX6_tips 55 = .ok (.goto 10, 3) := by decide +kernel
theorem dX6_tips_58 : decode cX6_tips 58 = .ok (.aload_n 0, 1) := by decide +kernel
theorem dX6_tips_59 : decode cX6_tips 59 = .ok (.getfield 43, 3) := by decide +kernel
theorem dX6_tips_62 : decode cX6_tips 62 = .ok (.invokevirtual 239, 3) := by decide +kernel
theorem dX6_tips_65 : decode cX6_tips 65 = .ok (.ireturn, 1) := by decide +kernel
theorem dX6_order_0 : decode cX6_order 0 = .ok (.aload_n 0, 1) := by decide +kernel
theorem dX6_order_1 : decode cX6_order 1 = .ok (.invokevirtual 144, 3) := by decide +kernel
theorem dX6_order_4 : decode cX6_order 4 = .ok (.ifCond .eq 6, 3) := by decide +kernel
theorem dX6_order_7 : decode cX6_order 7 = .ok (.ldc 143, 2) := by decide +kernel
theorem dX6_order_9 : decode cX6_order 9 = .ok (.ireturn, 1) := by decide +kernel
theorem dX6_order_10 : decode cX6_order 10 = .ok (.iload_n 1, 1) := by decide +kernel
theorem dX6_order_11 : decode cX6_order 11 = .ok (.iconst 1, 1) := by decide +kernel
theorem dX6_order_12 : decode cX6_order 12 = .ok (.bipush 40, 2) := by decide +kernel
theorem dX6_order_14 : decode cX6_order 14 = .ok (.invokestatic 217, 3) := by decide +kernel
theorem dX6_order_17 : decode cX6_order 17 = .ok (.ifCond .ne 8, 3) := by decide +kernel
theorem dX6_order_20 : decode cX6_order 20 = .ok (.iload_n 2, 1) := by decide +kernel
theorem dX6_order_21 : decode cX6_order 21 = .ok (.iconst (-1), 1) := by decide +kernel
theorem dX6_order_22 : decode cX6_order 22 = .ok (.if_icmp .ge 6, 3) := by decide +kernel
theorem dX6_order_25 : decode cX6_order 25 = .ok (.ldc 69, 2) := by decide +kernel
theorem dX6_order_27 : decode cX6_order 27 = .ok (.ireturn, 1) := by decide +kernel
theorem dX6_order_28 : decode cX6_order 28 = .ok (.iload_n 2, 1) := by decide +kernel
theorem dX6_order_29 : decode cX6_order 29 = .ok (.aload_n 0, 1) := by decide +kernel
theorem dX6_order_30 : decode cX6_order 30 = .ok (.getfield 26, 3) := by decide +kernel
theorem dX6_order_33 : decode cX6_order 33 = .ok (.getfield 242, 3) := by decide +kernel
theorem dX6_order_36 : decode cX6_order 36 = .ok (.if_icmp .lt 6, 3) := by decide +kernel
theorem dX6_order_39 : decode cX6_order 39 = .ok (.ldc 245, 2) := by decide +kernel
theorem dX6_order_41 : decode cX6_order 41 = .ok (.ireturn, 1) := by decide +kernel
theorem dX6_order_42 : decode cX6_order 42 = .ok (.aload_n 0, 1) := by decide +kernel
theorem dX6_order_43 : decode cX6_order 43 = .ok (.getfield 43, 3) := by decide +kernel
theorem dX6_order_46 : decode cX6_order 46 = .ok (.aload_n 0, 1) := by decide +kernel
theorem dX6_order_47 : decode cX6_order 47 = .ok (.getfield 26, 3) := by decide +kernel
theorem dX6_order_50 : decode cX6_order 50 = .ok (.iload_n 1, 1) := by decide +kernel
theorem dX6_order_51 : decode cX6_order 51 = .ok (.invokevirtual 246, 3) := by decide +kernel
theorem dX6_order_54 : decode cX6_order 54 = .ok (.iload_n 2, 1) := by decide +kernel
theorem dX6_order_55 : decode cX6_order 55 = .ok (.ifCond .ge 13, 3) := by decide +kernel
theorem dX6_order_58 : decode cX6_order 58 = .ok (.aload_n 0, 1) := by decide +kernel
theorem dX6_order_59 : decode cX6_order 59 = .ok (.getfield 43, 3) := by decide +kernel
theorem dX6_order_62 : decode cX6_order 62 = .ok (.invokevirtual 239, 3) := by decide +kernel
theorem dX6_order_65 : decode cX6_order 65 = .ok (.goto 11, 3) := by decide +kernel
theorem dX6_order_68 : decode cX6_order 68 = .ok (.aload_n 0, 1) := by decide +kernel
theorem dX6_order_69 : decode cX6_order 69 = .ok (.getfield 43, 3) := by decide +kernel
theorem dX6_order_72 : decode cX6_order 72 = .ok (.iload_n 2, 1) := by decide +kernel
theorem dX6_order_73 : decode cX6_order 73 = .ok (.invokevirtual 249, 3) := by decide +kernel
theorem dX6_order_76 : decode cX6_order 76 = .ok (.ireturn, 1) := by decide +kernel
theorem dX6_leads_0 : decode cX6_leads 0 = .ok (.aload_n 0, 1) := by decide +kernel
theorem dX6_leads_1 : decode cX6_leads 1 = .ok (.iload_n 1, 1) := by decide +kernel
theorem dX6_leads_2 : decode cX6_leads 2 = .ok (.invokevirtual 160, 3) := by decide +kernel
theorem dX6_leads_5 : decode cX6_leads 5 = .ok (.ifCond .ne 22, 3) := by decide +kernel
theorem dX6_leads_8 : decode cX6_leads 8 = .ok (.iload_n 2, 1) := by decide +kernel
theorem dX6_leads_9 : decode cX6_leads 9 = .ok (.iconst 1, 1) := by decide +kernel
theorem dX6_leads_10 : decode cX6_leads 10 = .ok (.bipush 40, 2) := by decide +kernel
theorem dX6_leads_12 : decode cX6_leads 12 = .ok (.invokestatic 217, 3) := by decide +kernel
theorem dX6_leads_15 : decode cX6_leads 15 = .ok (.ifCond .ne 12, 3) := by decide +kernel
theorem dX6_leads_18 : decode cX6_leads 18 = .ok (.iload_n 3, 1) := by decide +kernel
theorem dX6_leads_19 : decode cX6_leads 19 = .ok (.iconst 0, 1) := by decide +kernel
theorem dX6_leads_20 : decode cX6_leads 20 = .ok (.iconst 1, 1) := by decide +kernel
theorem dX6_leads_21 : decode cX6_leads 21 = .ok (.invokestatic 217, 3) := by decide +kernel
theorem dX6_leads_24 : decode cX6_leads 24 = .ok (.ifCond .eq 6, 3) := by decide +kernel
theorem dX6_leads_27 : decode cX6_leads 27 = .ok (.ldc 69, 2) := by decide +kernel
theorem dX6_leads_29 : decode cX6_leads 29 = .ok (.ireturn, 1) := by decide +kernel
theorem dX6_leads_30 : decode cX6_leads 30 = .ok (.aload_n 0, 1) := by decide +kernel
theorem dX6_leads_31 : decode cX6_leads 31 = .ok (.getfield 43, 3) := by decide +kernel
theorem dX6_leads_34 : decode cX6_leads 34 = .ok (.aload_n 0, 1) := by decide +kernel
theorem dX6_leads_35 : decode cX6_leads 35 = .ok (.getfield 26, 3) := by decide +kernel
theorem dX6_leads_38 : decode cX6_leads 38 = .ok (.iload_n 1, 1) := by decide +kernel
theorem dX6_leads_39 : decode cX6_leads 39 = .ok (.iload_n 2, 1) := by decide +kernel
theorem dX6_leads_40 : decode cX6_leads 40 = .ok (.invokevirtual 252, 3) := by decide +kernel
theorem dX6_leads_43 : decode cX6_leads 43 = .ok (.iload_n 3, 1) := by decide +kernel
theorem dX6_leads_44 : decode cX6_leads 44 = .ok (.ifCond .ne 13, 3) := by decide +kernel
theorem dX6_leads_47 : decode cX6_leads 47 = .ok (.aload_n 0, 1) := by decide +kernel
theorem dX6_leads_48 : decode cX6_leads 48 = .ok (.getfield 43, 3) := by decide +kernel
theorem dX6_leads_51 : decode cX6_leads 51 = .ok (.invokevirtual 236, 3) := by decide +kernel
theorem dX6_leads_54 : decode cX6_leads 54 = .ok (.goto 10, 3) := by decide +kernel
theorem dX6_leads_57 : decode cX6_leads 57 = .ok (.aload_n 0, 1) := by decide +kernel
theorem dX6_leads_58 : decode cX6_leads 58 = .ok (.getfield 43, 3) := by decide +kernel
theorem dX6_leads_61 : decode cX6_leads 61 = .ok (.invokevirtual 239, 3) := by decide +kernel
theorem dX6_leads_64 : decode cX6_leads 64 = .ok (.ireturn, 1) := by decide +kernel
theorem dX6_sets_0 : decode cX6_sets 0 = .ok (.aload_n 0, 1) := by decide +kernel
theorem dX6_sets_1 : decode cX6_sets 1 = .ok (.invokevirtual 144, 3) := by decide +kernel
theorem dX6_sets_4 : decode cX6_sets 4 = .ok (.ifCond .eq 6, 3) := by decide +kernel
theorem dX6_sets_7 : decode cX6_sets 7 = .ok (.ldc 143, 2) := by decide +kernel
theorem dX6_sets_9 : decode cX6_sets 9 = .ok (.ireturn, 1) := by decide +kernel
theorem dX6_sets_10 : decode cX6_sets 10 = .ok (.iload_n 1, 1) := by decide +kernel
theorem dX6_sets_11 : decode cX6_sets 11 = .ok (.iconst 0, 1) := by decide +kernel
theorem dX6_sets_12 : decode cX6_sets 12 = .ok (.bipush 54, 2) := by decide +kernel
theorem dX6_sets_14 : decode cX6_sets 14 = .ok (.invokestatic 217, 3) := by decide +kernel
theorem dX6_sets_17 : decode cX6_sets 17 = .ok (.ifCond .ne 12, 3) := by decide +kernel
theorem dX6_sets_20 : decode cX6_sets 20 = .ok (.iload_n 2, 1) := by decide +kernel
theorem dX6_sets_21 : decode cX6_sets 21 = .ok (.iconst 0, 1) := by decide +kernel
theorem dX6_sets_22 : decode cX6_sets 22 = .ok (.iconst 2, 1) := by decide +kernel
theorem dX6_sets_23 : decode cX6_sets 23 = .ok (.invokestatic 217, 3) := by decide +kernel
theorem dX6_sets_26 : decode cX6_sets 26 = .ok (.ifCond .eq 6, 3) := by decide +kernel
theorem dX6_sets_29 : decode cX6_sets 29 = .ok (.ldc 69, 2) := by decide +kernel
theorem dX6_sets_31 : decode cX6_sets 31 = .ok (.ireturn, 1) := by decide +kernel
theorem dX6_sets_32 : decode cX6_sets 32 = .ok (.aload_n 0, 1) := by decide +kernel
theorem dX6_sets_33 : decode cX6_sets 33 = .ok (.iload_n 1, 1) := by decide +kernel
theorem dX6_sets_34 : decode cX6_sets 34 = .ok (.iload_n 2, 1) := by decide +kernel
theorem dX6_sets_35 : decode cX6_sets 35 = .ok (.invokevirtual 256, 3) := by decide +kernel
theorem dX6_sets_38 : decode cX6_sets 38 = .ok (.ireturn, 1) := by decide +kernel
theorem dX6_share_0 : decode cX6_share 0 = .ok (.aload_n 0, 1) := by decide +kernel
theorem dX6_share_1 : decode cX6_share 1 = .ok (.iload_n 1, 1) := by decide +kernel
theorem dX6_share_2 : decode cX6_share 2 = .ok (.invokevirtual 160, 3) := by decide +kernel
theorem dX6_share_5 : decode cX6_share 5 = .ok (.ifCond .ne 14, 3) := by decide +kernel
theorem dX6_share_8 : decode cX6_share 8 = .ok (.iload_n 2, 1) := by decide +kernel
theorem dX6_share_9 : decode cX6_share 9 = .ok (.iconst 0, 1) := by decide +kernel
theorem dX6_share_10 : decode cX6_share 10 = .ok (.sipush 999, 3) := by decide +kernel
theorem dX6_share_13 : decode cX6_share 13 = .ok (.invokestatic 217, 3) := by decide +kernel
theorem dX6_share_16 : decode cX6_share 16 = .ok (.ifCond .eq 6, 3) := by decide +kernel
theorem dX6_share_19 : decode cX6_share 19 = .ok (.ldc 69, 2) := by decide +kernel
theorem dX6_share_21 : decode cX6_share 21 = .ok (.ireturn, 1) := by decide +kernel
theorem dX6_share_22 : decode cX6_share 22 = .ok (.aload_n 0, 1) := by decide +kernel
theorem dX6_share_23 : decode cX6_share 23 = .ok (.iload_n 1, 1) := by decide +kernel
theorem dX6_share_24 : decode cX6_share 24 = .ok (.iload_n 2, 1) := by decide +kernel
theorem dX6_share_25 : decode cX6_share 25 = .ok (.invokevirtual 260, 3) := by decide +kernel
theorem dX6_share_28 : decode cX6_share 28 = .ok (.ireturn, 1) := by decide +kernel
theorem dX6_byTurns_0 : decode cX6_byTurns 0 = .ok (.aload_n 0, 1) := by decide +kernel
theorem dX6_byTurns_1 : decode cX6_byTurns 1 = .ok (.invokevirtual 144, 3) := by decide +kernel
theorem dX6_byTurns_4 : decode cX6_byTurns 4 = .ok (.ifCond .eq 6, 3) := by decide +kernel
theorem dX6_byTurns_7 : decode cX6_byTurns 7 = .ok (.ldc 143, 2) := by decide +kernel
theorem dX6_byTurns_9 : decode cX6_byTurns 9 = .ok (.ireturn, 1) := by decide +kernel
theorem dX6_byTurns_10 : decode cX6_byTurns 10 = .ok (.iload_n 1, 1) := by decide +kernel
theorem dX6_byTurns_11 : decode cX6_byTurns 11 = .ok (.iconst 0, 1) := by decide +kernel
theorem dX6_byTurns_12 : decode cX6_byTurns 12 = .ok (.iconst 4, 1) := by decide +kernel
theorem dX6_byTurns_13 : decode cX6_byTurns 13 = .ok (.invokestatic 217, 3) := by decide +kernel
theorem dX6_byTurns_16 : decode cX6_byTurns 16 = .ok (.ifCond .ne 13, 3) := by decide +kernel
theorem dX6_byTurns_19 : decode cX6_byTurns 19 = .ok (.iload_n 2, 1) := by decide +kernel
theorem dX6_byTurns_20 : decode cX6_byTurns 20 = .ok (.iconst 1, 1) := by decide +kernel
theorem dX6_byTurns_21 : decode cX6_byTurns 21 = .ok (.bipush 20, 2) := by decide +kernel
theorem dX6_byTurns_23 : decode cX6_byTurns 23 = .ok (.invokestatic 217, 3) := by decide +kernel
theorem dX6_byTurns_26 : decode cX6_byTurns 26 = .ok (.ifCond .eq 6, 3) := by decide +kernel
theorem dX6_byTurns_29 : decode cX6_byTurns 29 = .ok (.ldc 69, 2) := by decide +kernel
theorem dX6_byTurns_31 : decode cX6_byTurns 31 = .ok (.ireturn, 1) := by decide +kernel
theorem dX6_byTurns_32 : decode cX6_byTurns 32 = .ok (.aload_n 0, 1) := by decide +kernel
theorem dX6_byTurns_33 : decode cX6_byTurns 33 = .ok (.getfield 43, 3) := by decide +kernel
theorem dX6_byTurns_36 : decode cX6_byTurns 36 = .ok (.aload_n 0, 1) := by decide +kernel
theorem dX6_byTurns_37 : decode cX6_byTurns 37 = .ok (.getfield 26, 3) := by decide +kernel
theorem dX6_byTurns_40 : decode cX6_byTurns 40 = .ok (.iload_n 1, 1) := by decide +kernel
theorem dX6_byTurns_41 : decode cX6_byTurns 41 = .ok (.iload_n 2, 1) := by decide +kernel
theorem dX6_byTurns_42 : decode cX6_byTurns 42 = .ok (.invokevirtual 263, 3) := by decide +kernel
theorem dX6_byTurns_45 : decode cX6_byTurns 45 = .ok (.ireturn, 1) := by decide +kernel
theorem dX6_who_0 : decode cX6_who 0 = .ok (.aload_n 0, 1) := by decide +kernel
theorem dX6_who_1 : decode cX6_who 1 = .ok (.iload_n 1, 1) := by decide +kernel
theorem dX6_who_2 : decode cX6_who 2 = .ok (.invokevirtual 160, 3) := by decide +kernel
theorem dX6_who_5 : decode cX6_who 5 = .ok (.ifCond .ne 30, 3) := by decide +kernel
theorem dX6_who_8 : decode cX6_who 8 = .ok (.iload_n 2, 1) := by decide +kernel
theorem dX6_who_9 : decode cX6_who 9 = .ok (.iconst 0, 1) := by decide +kernel
theorem dX6_who_10 : decode cX6_who 10 = .ok (.iconst 1, 1) := by decide +kernel
theorem dX6_who_11 : decode cX6_who 11 = .ok (.invokestatic 217, 3) := by decide +kernel
theorem dX6_who_14 : decode cX6_who 14 = .ok (.ifCond .ne 21, 3) := by decide +kernel
theorem dX6_who_17 : decode cX6_who 17 = .ok (.iload_n 3, 1) := by decide +kernel
theorem dX6_who_18 : decode cX6_who 18 = .ok (.invokestatic 65, 3) := by decide +kernel
theorem dX6_who_21 : decode cX6_who 21 = .ok (.ifCond .ne 14, 3) := by decide +kernel
theorem dX6_who_24 : decode cX6_who 24 = .ok (.iload 5, 2) := by decide +kernel
theorem dX6_who_26 : decode cX6_who 26 = .ok (.iconst 1, 1) := by decide +kernel
theorem dX6_who_27 : decode cX6_who 27 = .ok (.bipush 12, 2) := by decide +kernel
theorem dX6_who_29 : decode cX6_who 29 = .ok (.invokestatic 217, 3) := by decide +kernel
theorem dX6_who_32 : decode cX6_who 32 = .ok (.ifCond .eq 6, 3) := by decide +kernel
theorem dX6_who_35 : decode cX6_who 35 = .ok (.ldc 69, 2) := by decide +kernel
theorem dX6_who_37 : decode cX6_who 37 = .ok (.ireturn, 1) := by decide +kernel
theorem dX6_who_38 : decode cX6_who 38 = .ok (.aload_n 0, 1) := by decide +kernel
theorem dX6_who_39 : decode cX6_who 39 = .ok (.iload_n 3, 1) := by decide +kernel
theorem dX6_who_40 : decode cX6_who 40 = .ok (.iload 4, 2) := by decide +kernel
theorem dX6_who_42 : decode cX6_who 42 = .ok (.iload 5, 2) := by decide +kernel
theorem dX6_who_44 : decode cX6_who 44 = .ok (.invokevirtual 81, 3) := by decide +kernel
theorem dX6_who_47 : decode cX6_who 47 = .ok (.istore 6, 2) := by decide +kernel
theorem dX6_who_49 : decode cX6_who 49 = .ok (.iload 6, 2) := by decide +kernel
theorem dX6_who_51 : decode cX6_who 51 = .ok (.ifCond .eq 10, 3) := by decide +kernel
theorem dX6_who_54 : decode cX6_who 54 = .ok (.aload_n 0, 1) := by decide +kernel
theorem dX6_who_55 : decode cX6_who 55 = .ok (.iload 6, 2) := by decide +kernel
theorem dX6_who_57 : decode cX6_who 57 = .ok (.invokevirtual 70, 3) := by decide +kernel
theorem dX6_who_60 : decode cX6_who 60 = .ok (.ireturn, 1) := by decide +kernel
theorem dX6_who_61 : decode cX6_who 61 = .ok (.aload_n 0, 1) := by decide +kernel
theorem dX6_who_62 : decode cX6_who 62 = .ok (.getfield 43, 3) := by decide +kernel
theorem dX6_who_65 : decode cX6_who 65 = .ok (.aload_n 0, 1) := by decide +kernel
theorem dX6_who_66 : decode cX6_who 66 = .ok (.getfield 10, 3) := by decide +kernel
theorem dX6_who_69 : decode cX6_who 69 = .ok (.iload_n 3, 1) := by decide +kernel
theorem dX6_who_70 : decode cX6_who 70 = .ok (.invokevirtual 266, 3) := by decide +kernel
theorem dX6_who_73 : decode cX6_who 73 = .ok (.iload 4, 2) := by decide +kernel
theorem dX6_who_75 : decode cX6_who 75 = .ok (.iload 5, 2) := by decide +kernel
theorem dX6_who_77 : decode cX6_who 77 = .ok (.invokevirtual 270, 3) := by decide +kernel
theorem dX6_who_80 : decode cX6_who 80 = .ok (.aload_n 0, 1) := by decide +kernel
theorem dX6_who_81 : decode cX6_who 81 = .ok (.iload_n 2, 1) := by decide +kernel
theorem dX6_who_82 : decode cX6_who 82 = .ok (.ifCond .ne 18, 3) := by decide +kernel
theorem dX6_who_85 : decode cX6_who 85 = .ok (.aload_n 0, 1) := by decide +kernel
theorem dX6_who_86 : decode cX6_who 86 = .ok (.getfield 43, 3) := by decide +kernel
theorem dX6_who_89 : decode cX6_who 89 = .ok (.aload_n 0, 1) := by decide +kernel
theorem dX6_who_90 : decode cX6_who 90 = .ok (.getfield 26, 3) := by decide +kernel
theorem dX6_who_93 : decode cX6_who 93 = .ok (.iload_n 1, 1) := by decide +kernel
theorem dX6_who_94 : decode cX6_who 94 = .ok (.invokevirtual 274, 3) := by decide +kernel
theorem dX6_who_97 : decode cX6_who 97 = .ok (.goto 15, 3) := by decide +kernel
theorem dX6_who_100 : decode cX6_who 100 = .ok (.aload_n 0, 1) := by decide +kernel
theorem dX6_who_101 : decode cX6_who 101 = .ok (.getfield 43, 3) := by decide +kernel
theorem dX6_who_104 : decode cX6_who 104 = .ok (.aload_n 0, 1) := by decide +kernel
theorem dX6_who_105 : decode cX6_who 105 = .ok (.getfield 26, 3) := by decide +kernel
theorem dX6_who_108 : decode cX6_who 108 = .ok (.iload_n 1, 1) := by decide +kernel
theorem dX6_who_109 : decode cX6_who 109 = .ok (.invokevirtual 277, 3) := by decide +kernel
theorem dX6_who_112 : decode cX6_who 112 = .ok (.invokevirtual 78, 3) := by decide +kernel
theorem dX6_who_115 : decode cX6_who 115 = .ok (.ireturn, 1) := by decide +kernel
theorem dX6_weights_0 : decode cX6_weights 0 = .ok (.aload_n 0, 1) := by decide +kernel
theorem dX6_weights_1 : decode cX6_weights 1 = .ok (.iload_n 1, 1) := by decide +kernel
theorem dX6_weights_2 : decode cX6_weights 2 = .ok (.invokevirtual 180, 3) := by decide +kernel
theorem dX6_weights_5 : decode cX6_weights 5 = .ok (.ifCond .ne 30, 3) := by decide +kernel
theorem dX6_weights_8 : decode cX6_weights 8 = .ok (.iload_n 2, 1) := by decide +kernel
theorem dX6_weights_9 : decode cX6_weights 9 = .ok (.iconst 0, 1) := by decide +kernel
theorem dX6_weights_10 : decode cX6_weights 10 = .ok (.iconst 1, 1) := by decide +kernel
theorem dX6_weights_11 : decode cX6_weights 11 = .ok (.invokestatic 217, 3) := by decide +kernel
theorem dX6_weights_14 : decode cX6_weights 14 = .ok (.ifCond .ne 21, 3) := by decide +kernel
theorem dX6_weights_17 : decode cX6_weights 17 = .ok (.iload_n 3, 1) := by decide +kernel
theorem dX6_weights_18 : decode cX6_weights 18 = .ok (.invokestatic 65, 3) := by decide +kernel
theorem dX6_weights_21 : decode cX6_weights 21 = .ok (.ifCond .ne 14, 3) := by decide +kernel
theorem dX6_weights_24 : decode cX6_weights 24 = .ok (.iload 5, 2) := by decide +kernel
theorem dX6_weights_26 : decode cX6_weights 26 = .ok (.iconst 1, 1) := by decide +kernel
theorem dX6_weights_27 : decode cX6_weights 27 = .ok (.bipush 12, 2) := by decide +kernel
theorem dX6_weights_29 : decode cX6_weights 29 = .ok (.invokestatic 217, 3) := by decide +kernel
theorem dX6_weights_32 : decode cX6_weights 32 = .ok (.ifCond .eq 6, 3) := by decide +kernel
theorem dX6_weights_35 : decode cX6_weights 35 = .ok (.ldc 69, 2) := by decide +kernel
theorem dX6_weights_37 : decode cX6_weights 37 = .ok (.ireturn, 1) := by decide +kernel
theorem dX6_weights_38 : decode cX6_weights 38 = .ok (.aload_n 0, 1) := by decide +kernel
theorem dX6_weights_39 : decode cX6_weights 39 = .ok (.iload_n 3, 1) := by decide +kernel
theorem dX6_weights_40 : decode cX6_weights 40 = .ok (.iload 4, 2) := by decide +kernel
theorem dX6_weights_42 : decode cX6_weights 42 = .ok (.iload 5, 2) := by decide +kernel
theorem dX6_weights_44 : decode cX6_weights 44 = .ok (.invokevirtual 81, 3) := by decide +kernel
theorem dX6_weights_47 : decode cX6_weights 47 = .ok (.istore 6, 2) := by decide +kernel
theorem dX6_weights_49 : decode cX6_weights 49 = .ok (.iload 6, 2) := by decide +kernel
theorem dX6_weights_51 : decode cX6_weights 51 = .ok (.ifCond .eq 10, 3) := by decide +kernel
theorem dX6_weights_54 : decode cX6_weights 54 = .ok (.aload_n 0, 1) := by decide +kernel
theorem dX6_weights_55 : decode cX6_weights 55 = .ok (.iload 6, 2) := by decide +kernel
theorem dX6_weights_57 : decode cX6_weights 57 = .ok (.invokevirtual 70, 3) := by decide +kernel
theorem dX6_weights_60 : decode cX6_weights 60 = .ok (.ireturn, 1) := by decide +kernel
theorem dX6_weights_61 : decode cX6_weights 61 = .ok (.aload_n 0, 1) := by decide +kernel
theorem dX6_weights_62 : decode cX6_weights 62 = .ok (.getfield 43, 3) := by decide +kernel
theorem dX6_weights_65 : decode cX6_weights 65 = .ok (.aload_n 0, 1) := by decide +kernel
theorem dX6_weights_66 : decode cX6_weights 66 = .ok (.getfield 10, 3) := by decide +kernel
theorem dX6_weights_69 : decode cX6_weights 69 = .ok (.iload_n 3, 1) := by decide +kernel
theorem dX6_weights_70 : decode cX6_weights 70 = .ok (.invokevirtual 266, 3) := by decide +kernel
theorem dX6_weights_73 : decode cX6_weights 73 = .ok (.iload 4, 2) := by decide +kernel
theorem dX6_weights_75 : decode cX6_weights 75 = .ok (.iload 5, 2) := by decide +kernel
theorem dX6_weights_77 : decode cX6_weights 77 = .ok (.invokevirtual 270, 3) := by decide +kernel
theorem dX6_weights_80 : decode cX6_weights 80 = .ok (.aload_n 0, 1) := by decide +kernel
theorem dX6_weights_81 : decode cX6_weights 81 = .ok (.iload_n 2, 1) := by decide +kernel
theorem dX6_weights_82 : decode cX6_weights 82 = .ok (.ifCond .ne 18, 3) := by decide +kernel
theorem dX6_weights_85 : decode cX6_weights 85 = .ok (.aload_n 0, 1) := by decide +kernel
theorem dX6_weights_86 : decode cX6_weights 86 = .ok (.getfield 43, 3) := by decide +kernel
theorem dX6_weights_89 : decode cX6_weights 89 = .ok (.aload_n 0, 1) := by decide +kernel
theorem dX6_weights_90 : decode cX6_weights 90 = .ok (.getfield 26, 3) := by decide +kernel
theorem dX6_weights_93 : decode cX6_weights 93 = .ok (.iload_n 1, 1) := by decide +kernel
theorem dX6_weights_94 : decode cX6_weights 94 = .ok (.invokevirtual 280, 3) := by decide +kernel
theorem dX6_weights_97 : decode cX6_weights 97 = .ok (.goto 14, 3) := by decide +kernel
theorem dX6_weights_100 : decode cX6_weights 100 = .ok (.aload_n 0, 1) := by decide +kernel
theorem dX6_weights_101 : decode cX6_weights 101 = .ok (.getfield 43, 3) := by decide +kernel
theorem dX6_weights_104 : decode cX6_weights 104 = .ok (.aload_n 0, 1) := by decide +kernel
theorem dX6_weights_105 : decode cX6_weights 105 = .ok (.getfield 26, 3) := by decide +kernel
theorem dX6_weights_108 : decode cX6_weights 108 = .ok (.invokevirtual 283, 3) := by decide +kernel
theorem dX6_weights_111 : decode cX6_weights 111 = .ok (.invokevirtual 78, 3) := by decide +kernel
theorem dX6_weights_114 : decode cX6_weights 114 = .ok (.ireturn, 1) := by decide +kernel
theorem dX6_jam_0 : decode cX6_jam 0 = .ok (.aload_n 0, 1) := by decide +kernel
theorem dX6_jam_1 : decode cX6_jam 1 = .ok (.iload_n 1, 1) := by decide +kernel
theorem dX6_jam_2 : decode cX6_jam 2 = .ok (.invokevirtual 180, 3) := by decide +kernel
theorem dX6_jam_5 : decode cX6_jam 5 = .ok (.ifCond .ne 33, 3) := by decide +kernel
theorem dX6_jam_8 : decode cX6_jam 8 = .ok (.iload_n 2, 1) := by decide +kernel
theorem dX6_jam_9 : decode cX6_jam 9 = .ok (.iconst 0, 1) := by decide +kernel
theorem dX6_jam_10 : decode cX6_jam 10 = .ok (.bipush 30, 2) := by decide +kernel
theorem dX6_jam_12 : decode cX6_jam 12 = .ok (.invokestatic 217, 3) := by decide +kernel
theorem dX6_jam_15 : decode cX6_jam 15 = .ok (.ifCond .ne 23, 3) := by decide +kernel
theorem dX6_jam_18 : decode cX6_jam 18 = .ok (.iload_n 3, 1) := by decide +kernel
theorem dX6_jam_19 : decode cX6_jam 19 = .ok (.iconst 0, 1) := by decide +kernel
theorem dX6_jam_20 : decode cX6_jam 20 = .ok (.bipush 10, 2) := by decide +kernel
theorem dX6_jam_22 : decode cX6_jam 22 = .ok (.invokestatic 217, 3) := by decide +kernel
theorem dX6_jam_25 : decode cX6_jam 25 = .ok (.ifCond .ne 13, 3) := by decide +kernel
theorem dX6_jam_28 : decode cX6_jam 28 = .ok (.iload 4, 2) := by decide +kernel
theorem dX6_jam_30 : decode cX6_jam 30 = .ok (.iconst 0, 1) := by decide +kernel
theorem dX6_jam_31 : decode cX6_jam 31 = .ok (.iconst 1, 1) := by decide +kernel
theorem dX6_jam_32 : decode cX6_jam 32 = .ok (.invokestatic 217, 3) := by decide +kernel
theorem dX6_jam_35 : decode cX6_jam 35 = .ok (.ifCond .eq 7, 3) := by decide +kernel
theorem dX6_jam_38 : decode cX6_jam 38 = .ok (.ldc2_w 287, 3) := by decide +kernel
theorem dX6_jam_41 : decode cX6_jam 41 = .ok (.lreturn, 1) := by decide +kernel
theorem dX6_jam_42 : decode cX6_jam 42 = .ok (.aload_n 0, 1) := by decide +kernel
theorem dX6_jam_43 : decode cX6_jam 43 = .ok (.getfield 43, 3) := by decide +kernel
theorem dX6_jam_46 : decode cX6_jam 46 = .ok (.aload_n 0, 1) := by decide +kernel
theorem dX6_jam_47 : decode cX6_jam 47 = .ok (.getfield 26, 3) := by decide +kernel
theorem dX6_jam_50 : decode cX6_jam 50 = .ok (.iload_n 1, 1) := by decide +kernel
theorem dX6_jam_51 : decode cX6_jam 51 = .ok (.iload_n 2, 1) := by decide +kernel
theorem dX6_jam_52 : decode cX6_jam 52 = .ok (.iload_n 3, 1) := by decide +kernel
theorem dX6_jam_53 : decode cX6_jam 53 = .ok (.invokevirtual 289, 3) := by decide +kernel
theorem dX6_jam_56 : decode cX6_jam 56 = .ok (.lstore 5, 2) := by decide +kernel
theorem dX6_jam_58 : decode cX6_jam 58 = .ok (.ldc2_w 293, 3) := by decide +kernel
theorem dX6_jam_61 : decode cX6_jam 61 = .ok (.aload_n 0, 1) := by decide +kernel
theorem dX6_jam_62 : decode cX6_jam 62 = .ok (.getfield 26, 3) := by decide +kernel
theorem dX6_jam_65 : decode cX6_jam 65 = .ok (.getfield 134, 3) := by decide +kernel
theorem dX6_jam_68 : decode cX6_jam 68 = .ok (.invokestatic 295, 3) := by decide +kernel
theorem dX6_jam_71 : decode cX6_jam 71 = .ok (.lstore 7, 2) := by decide +kernel
theorem dX6_jam_73 : decode cX6_jam 73 = .ok (.lload 5, 2) := by decide +kernel
theorem dX6_jam_75 : decode cX6_jam 75 = .ok (.lload 7, 2) := by decide +kernel
theorem dX6_jam_77 : decode cX6_jam 77 = .ok (.invokestatic 299, 3) := by decide +kernel
theorem dX6_jam_80 : decode cX6_jam 80 = .ok (.lstore 9, 2) := by decide +kernel
theorem dX6_jam_82 : decode cX6_jam 82 = .ok (.lload 9, 2) := by decide +kernel
theorem dX6_jam_84 : decode cX6_jam 84 = .ok (.lconst 0, 1) := by decide +kernel
theorem dX6_jam_85 : decode cX6_jam 85 = .ok (.lcmp, 1) := by decide +kernel
theorem dX6_jam_86 : decode cX6_jam 86 = .ok (.ifCond .gt 7, 3) := by decide +kernel
theorem dX6_jam_89 : decode cX6_jam 89 = .ok (.ldc2_w 287, 3) := by decide +kernel
theorem dX6_jam_92 : decode cX6_jam 92 = .ok (.lreturn, 1) := by decide +kernel
theorem dX6_jam_93 : decode cX6_jam 93 = .ok (.iload 4, 2) := by decide +kernel
theorem dX6_jam_95 : decode cX6_jam 95 = .ok (.ifCond .ne 11, 3) := by decide +kernel
theorem dX6_jam_98 : decode cX6_jam 98 = .ok (.lload 5, 2) := by decide +kernel
theorem dX6_jam_100 : decode cX6_jam 100 = .ok (.lload 9, 2) := by decide +kernel
theorem dX6_jam_102 : decode cX6_jam 102 = .ok (.ldiv, 1) := by decide +kernel
theorem dX6_jam_103 : decode cX6_jam 103 = .ok (.goto 8, 3) := by decide +kernel
theorem dX6_jam_106 : decode cX6_jam 106 = .ok (.lload 7, 2) := by decide +kernel
theorem dX6_jam_108 : decode cX6_jam 108 = .ok (.lload 9, 2) := by decide +kernel
theorem dX6_jam_110 : decode cX6_jam 110 = .ok (.ldiv, 1) := by decide +kernel
theorem dX6_jam_111 : decode cX6_jam 111 = .ok (.lreturn, 1) := by decide +kernel
theorem dX6_drawn_0 : decode cX6_drawn 0 = .ok (.aload_n 0, 1) := by decide +kernel
theorem dX6_drawn_1 : decode cX6_drawn 1 = .ok (.invokevirtual 144, 3) := by decide +kernel
theorem dX6_drawn_4 : decode cX6_drawn 4 = .ok (.ifCond .eq 6, 3) := by decide +kernel
theorem dX6_drawn_7 : decode cX6_drawn 7 = .ok (.ldc 143, 2) := by decide +kernel
theorem dX6_drawn_9 : decode cX6_drawn 9 = .ok (.ireturn, 1) := by decide +kernel
theorem dX6_drawn_10 : decode cX6_drawn 10 = .ok (.iload_n 1, 1) := by decide +kernel
theorem dX6_drawn_11 : decode cX6_drawn 11 = .ok (.iconst 0, 1) := by decide +kernel
theorem dX6_drawn_12 : decode cX6_drawn 12 = .ok (.bipush 60, 2) := by decide +kernel
theorem dX6_drawn_14 : decode cX6_drawn 14 = .ok (.invokestatic 217, 3) := by decide +kernel
theorem dX6_drawn_17 : decode cX6_drawn 17 = .ok (.ifCond .ne 23, 3) := by decide +kernel
theorem dX6_drawn_20 : decode cX6_drawn 20 = .ok (.iload_n 2, 1) := by decide +kernel
theorem dX6_drawn_21 : decode cX6_drawn 21 = .ok (.iconst 1, 1) := by decide +kernel
theorem dX6_drawn_22 : decode cX6_drawn 22 = .ok (.ldc_w 303, 3) := by decide +kernel
theorem dX6_drawn_25 : decode cX6_drawn 25 = .ok (.invokestatic 217, 3) := by decide +kernel
theorem dX6_drawn_28 : decode cX6_drawn 28 = .ok (.ifCond .ne 12, 3) := by decide +kernel
theorem dX6_drawn_31 : decode cX6_drawn 31 = .ok (.iload_n 3, 1) := by decide +kernel
theorem dX6_drawn_32 : decode cX6_drawn 32 = .ok (.iconst 0, 1) := by decide +kernel
theorem dX6_drawn_33 : decode cX6_drawn 33 = .ok (.iconst 1, 1) := by decide +kernel
theorem dX6_drawn_34 : decode cX6_drawn 34 = .ok (.invokestatic 217, 3) := by decide +kernel
theorem dX6_drawn_37 : decode cX6_drawn 37 = .ok (.ifCond .eq 6, 3) := by decide +kernel
theorem dX6_drawn_40 : decode cX6_drawn 40 = .ok (.ldc 69, 2) := by decide +kernel
theorem dX6_drawn_42 : decode cX6_drawn 42 = .ok (.ireturn, 1) := by decide +kernel
theorem dX6_drawn_43 : decode cX6_drawn 43 = .ok (.aload_n 0, 1) := by decide +kernel
theorem dX6_drawn_44 : decode cX6_drawn 44 = .ok (.getfield 43, 3) := by decide +kernel
theorem dX6_drawn_47 : decode cX6_drawn 47 = .ok (.aload_n 0, 1) := by decide +kernel
theorem dX6_drawn_48 : decode cX6_drawn 48 = .ok (.getfield 26, 3) := by decide +kernel
theorem dX6_drawn_51 : decode cX6_drawn 51 = .ok (.iload_n 1, 1) := by decide +kernel
theorem dX6_drawn_52 : decode cX6_drawn 52 = .ok (.iload_n 2, 1) := by decide +kernel
theorem dX6_drawn_53 : decode cX6_drawn 53 = .ok (.iload_n 3, 1) := by decide +kernel
theorem dX6_drawn_54 : decode cX6_drawn 54 = .ok (.ifCond .ne 8, 3) := by decide +kernel
theorem dX6_drawn_57 : decode cX6_drawn 57 = .ok (.bipush 9, 2) := by decide +kernel
theorem dX6_drawn_59 : decode cX6_drawn 59 = .ok (.goto 5, 3) := by decide +kernel
theorem dX6_drawn_62 : decode cX6_drawn 62 = .ok (.bipush 8, 2) := by decide +kernel
theorem dX6_drawn_64 : decode cX6_drawn 64 = .ok (.invokevirtual 304, 3) := by decide +kernel
theorem dX6_drawn_67 : decode cX6_drawn 67 = .ok (.ireturn, 1) := by decide +kernel
theorem dX6_image_0 : decode cX6_image 0 = .ok (.iload_n 1, 1) := by decide +kernel
theorem dX6_image_1 : decode cX6_image 1 = .ok (.iconst 0, 1) := by decide +kernel
theorem dX6_image_2 : decode cX6_image 2 = .ok (.iconst 1, 1) := by decide +kernel
theorem dX6_image_3 : decode cX6_image 3 = .ok (.invokestatic 217, 3) := by decide +kernel
theorem dX6_image_6 : decode cX6_image 6 = .ok (.ifCond .eq 6, 3) := by decide +kernel
theorem dX6_image_9 : decode cX6_image 9 = .ok (.ldc 69, 2) := by decide +kernel
theorem dX6_image_11 : decode cX6_image 11 = .ok (.ireturn, 1) := by decide +kernel
theorem dX6_image_12 : decode cX6_image 12 = .ok (.aload_n 0, 1) := by decide +kernel
theorem dX6_image_13 : decode cX6_image 13 = .ok (.invokevirtual 144, 3) := by decide +kernel
theorem dX6_image_16 : decode cX6_image 16 = .ok (.ifCond .eq 6, 3) := by decide +kernel
theorem dX6_image_19 : decode cX6_image 19 = .ok (.ldc 143, 2) := by decide +kernel
theorem dX6_image_21 : decode cX6_image 21 = .ok (.ireturn, 1) := by decide +kernel
theorem dX6_image_22 : decode cX6_image 22 = .ok (.aload_n 0, 1) := by decide +kernel
theorem dX6_image_23 : decode cX6_image 23 = .ok (.getfield 54, 3) := by decide +kernel
theorem dX6_image_26 : decode cX6_image 26 = .ok (.iload_n 1, 1) := by decide +kernel
theorem dX6_image_27 : decode cX6_image 27 = .ok (.aaload, 1) := by decide +kernel
theorem dX6_image_28 : decode cX6_image 28 = .ok (.aload_n 0, 1) := by decide +kernel
theorem dX6_image_29 : decode cX6_image 29 = .ok (.getfield 26, 3) := by decide +kernel
theorem dX6_image_32 : decode cX6_image 32 = .ok (.invokevirtual 127, 3) := by decide +kernel
theorem dX6_image_35 : decode cX6_image 35 = .ok (.iconst 1, 1) := by decide +kernel
theorem dX6_image_36 : decode cX6_image 36 = .ok (.ireturn, 1) := by decide +kernel
theorem dX6_restore_0 : decode cX6_restore 0 = .ok (.iload_n 1, 1) := by decide +kernel
theorem dX6_restore_1 : decode cX6_restore 1 = .ok (.iconst 0, 1) := by decide +kernel
theorem dX6_restore_2 : decode cX6_restore 2 = .ok (.iconst 1, 1) := by decide +kernel
theorem dX6_restore_3 : decode cX6_restore 3 = .ok (.invokestatic 217, 3) := by decide +kernel
theorem dX6_restore_6 : decode cX6_restore 6 = .ok (.ifCond .eq 6, 3) := by decide +kernel
theorem dX6_restore_9 : decode cX6_restore 9 = .ok (.ldc 69, 2) := by decide +kernel
theorem dX6_restore_11 : decode cX6_restore 11 = .ok (.ireturn, 1) := by decide +kernel
theorem dX6_restore_12 : decode cX6_restore 12 = .ok (.aload_n 0, 1) := by decide +kernel
theorem dX6_restore_13 : decode cX6_restore 13 = .ok (.getfield 54, 3) := by decide +kernel
theorem dX6_restore_16 : decode cX6_restore 16 = .ok (.iload_n 1, 1) := by decide +kernel
theorem dX6_restore_17 : decode cX6_restore 17 = .ok (.aaload, 1) := by decide +kernel
theorem dX6_restore_18 : decode cX6_restore 18 = .ok (.getfield 134, 3) := by decide +kernel
theorem dX6_restore_21 : decode cX6_restore 21 = .ok (.ifCond .ne 6, 3) := by decide +kernel
theorem dX6_restore_24 : decode cX6_restore 24 = .ok (.ldc 143, 2) := by decide +kernel
theorem dX6_restore_26 : decode cX6_restore 26 = .ok (.ireturn, 1) := by decide +kernel
theorem dX6_restore_27 : decode cX6_restore 27 = .ok (.aload_n 0, 1) := by decide +kernel
theorem dX6_restore_28 : decode cX6_restore 28 = .ok (.getfield 26, 3) := by decide +kernel
theorem dX6_restore_31 : decode cX6_restore 31 = .ok (.aload_n 0, 1) := by decide +kernel
theorem dX6_restore_32 : decode cX6_restore 32 = .ok (.getfield 54, 3) := by decide +kernel
theorem dX6_restore_35 : decode cX6_restore 35 = .ok (.iload_n 1, 1) := by decide +kernel
theorem dX6_restore_36 : decode cX6_restore 36 = .ok (.aaload, 1) := by decide +kernel
theorem dX6_restore_37 : decode cX6_restore 37 = .ok (.invokevirtual 127, 3) := by decide +kernel
theorem dX6_restore_40 : decode cX6_restore 40 = .ok (.aload_n 0, 1) := by decide +kernel
theorem dX6_restore_41 : decode cX6_restore 41 = .ok (.getfield 36, 3) := by decide +kernel
theorem dX6_restore_44 : decode cX6_restore 44 = .ok (.invokevirtual 131, 3) := by decide +kernel
theorem dX6_restore_47 : decode cX6_restore 47 = .ok (.iconst 1, 1) := by decide +kernel
theorem dX6_restore_48 : decode cX6_restore 48 = .ok (.ireturn, 1) := by decide +kernel
theorem dX6_kind_0 : decode cX6_kind 0 = .ok (.aload_n 0, 1) := by decide +kernel
theorem dX6_kind_1 : decode cX6_kind 1 = .ok (.iload_n 1, 1) := by decide +kernel
theorem dX6_kind_2 : decode cX6_kind 2 = .ok (.invokevirtual 160, 3) := by decide +kernel
theorem dX6_kind_5 : decode cX6_kind 5 = .ok (.ifCond .eq 8, 3) := by decide +kernel
theorem dX6_kind_8 : decode cX6_kind 8 = .ok (.ldc 69, 2) := by decide +kernel
theorem dX6_kind_10 : decode cX6_kind 10 = .ok (.goto 12, 3) := by decide +kernel
theorem dX6_kind_13 : decode cX6_kind 13 = .ok (.aload_n 0, 1) := by decide +kernel
theorem dX6_kind_14 : decode cX6_kind 14 = .ok (.getfield 26, 3) := by decide +kernel
theorem dX6_kind_17 : decode cX6_kind 17 = .ok (.getfield 308, 3) := by decide +kernel
theorem dX6_kind_20 : decode cX6_kind 20 = .ok (.iload_n 1, 1) := by decide +kernel
theorem dX6_kind_21 : decode cX6_kind 21 = .ok (.iaload, 1) := by decide +kernel
theorem dX6_kind_22 : decode cX6_kind 22 = .ok (.ireturn, 1) := by decide +kernel
theorem dX6_as_0 : decode cX6_as 0 = .ok (.aload_n 0, 1) := by decide +kernel
theorem dX6_as_1 : decode cX6_as 1 = .ok (.iload_n 1, 1) := by decide +kernel
theorem dX6_as_2 : decode cX6_as 2 = .ok (.invokevirtual 160, 3) := by decide +kernel
theorem dX6_as_5 : decode cX6_as 5 = .ok (.ifCond .ne 12, 3) := by decide +kernel
theorem dX6_as_8 : decode cX6_as 8 = .ok (.iload_n 2, 1) := by decide +kernel
theorem dX6_as_9 : decode cX6_as 9 = .ok (.iconst 0, 1) := by decide +kernel
theorem dX6_as_10 : decode cX6_as 10 = .ok (.iconst 5, 1) := by decide +kernel
theorem dX6_as_11 : decode cX6_as 11 = .ok (.invokestatic 217, 3) := by decide +kernel
theorem dX6_as_14 : decode cX6_as 14 = .ok (.ifCond .eq 6, 3) := by decide +kernel
theorem dX6_as_17 : decode cX6_as 17 = .ok (.ldc 69, 2) := by decide +kernel
theorem dX6_as_19 : decode cX6_as 19 = .ok (.ireturn, 1) := by decide +kernel
theorem dX6_as_20 : decode cX6_as 20 = .ok (.aload_n 0, 1) := by decide +kernel
theorem dX6_as_21 : decode cX6_as 21 = .ok (.getfield 26, 3) := by decide +kernel
theorem dX6_as_24 : decode cX6_as 24 = .ok (.getfield 308, 3) := by decide +kernel
theorem dX6_as_27 : decode cX6_as 27 = .ok (.iload_n 1, 1) := by decide +kernel
theorem dX6_as_28 : decode cX6_as 28 = .ok (.iaload, 1) := by decide +kernel
theorem dX6_as_29 : decode cX6_as 29 = .ok (.iload_n 2, 1) := by decide +kernel
theorem dX6_as_30 : decode cX6_as 30 = .ok (.invokestatic 311, 3) := by decide +kernel
theorem dX6_as_33 : decode cX6_as 33 = .ok (.ifCond .eq 11, 3) := by decide +kernel
theorem dX6_as_36 : decode cX6_as 36 = .ok (.aload_n 0, 1) := by decide +kernel
theorem dX6_as_37 : decode cX6_as 37 = .ok (.iload_n 1, 1) := by decide +kernel
theorem dX6_as_38 : decode cX6_as 38 = .ok (.invokevirtual 78, 3) := by decide +kernel
theorem dX6_as_41 : decode cX6_as 41 = .ok (.goto 8, 3) := by decide +kernel
theorem dX6_as_44 : decode cX6_as 44 = .ok (.aload_n 0, 1) := by decide +kernel
theorem dX6_as_45 : decode cX6_as 45 = .ok (.iconst 3, 1) := by decide +kernel
theorem dX6_as_46 : decode cX6_as 46 = .ok (.invokevirtual 70, 3) := by decide +kernel
theorem dX6_as_49 : decode cX6_as 49 = .ok (.ireturn, 1) := by decide +kernel
theorem dX6_ask_0 : decode cX6_ask 0 = .ok (.aload_n 0, 1) := by decide +kernel
theorem dX6_ask_1 : decode cX6_ask 1 = .ok (.iload_n 1, 1) := by decide +kernel
theorem dX6_ask_2 : decode cX6_ask 2 = .ok (.invokevirtual 160, 3) := by decide +kernel
theorem dX6_ask_5 : decode cX6_ask 5 = .ok (.ifCond .ne 12, 3) := by decide +kernel
theorem dX6_ask_8 : decode cX6_ask 8 = .ok (.iload_n 2, 1) := by decide +kernel
theorem dX6_ask_9 : decode cX6_ask 9 = .ok (.iconst 0, 1) := by decide +kernel
theorem dX6_ask_10 : decode cX6_ask 10 = .ok (.iconst 1, 1) := by decide +kernel
theorem dX6_ask_11 : decode cX6_ask 11 = .ok (.invokestatic 217, 3) := by decide +kernel
theorem dX6_ask_14 : decode cX6_ask 14 = .ok (.ifCond .eq 6, 3) := by decide +kernel
theorem dX6_ask_17 : decode cX6_ask 17 = .ok (.ldc 69, 2) := by decide +kernel
theorem dX6_ask_19 : decode cX6_ask 19 = .ok (.ireturn, 1) := by decide +kernel
theorem dX6_ask_20 : decode cX6_ask 20 = .ok (.aload_n 0, 1) := by decide +kernel
theorem dX6_ask_21 : decode cX6_ask 21 = .ok (.getfield 50, 3) := by decide +kernel
theorem dX6_ask_24 : decode cX6_ask 24 = .ok (.invokevirtual 315, 3) := by decide +kernel
theorem dX6_ask_27 : decode cX6_ask 27 = .ok (.iload_n 2, 1) := by decide +kernel
theorem dX6_ask_28 : decode cX6_ask 28 = .ok (.ifCond .ne 18, 3) := by decide +kernel
theorem dX6_ask_31 : decode cX6_ask 31 = .ok (.aload_n 0, 1) := by decide +kernel
theorem dX6_ask_32 : decode cX6_ask 32 = .ok (.getfield 50, 3) := by decide +kernel
theorem dX6_ask_35 : decode cX6_ask 35 = .ok (.aload_n 0, 1) := by decide +kernel
theorem dX6_ask_36 : decode cX6_ask 36 = .ok (.getfield 26, 3) := by decide +kernel
theorem dX6_ask_39 : decode cX6_ask 39 = .ok (.iload_n 1, 1) := by decide +kernel
theorem dX6_ask_40 : decode cX6_ask 40 = .ok (.invokevirtual 318, 3) := by decide +kernel
theorem dX6_ask_43 : decode cX6_ask 43 = .ok (.goto 15, 3) := by decide +kernel
theorem dX6_ask_46 : decode cX6_ask 46 = .ok (.aload_n 0, 1) := by decide +kernel
theorem dX6_ask_47 : decode cX6_ask 47 = .ok (.getfield 50, 3) := by decide +kernel
theorem dX6_ask_50 : decode cX6_ask 50 = .ok (.aload_n 0, 1) := by decide +kernel
theorem dX6_ask_51 : decode cX6_ask 51 = .ok (.getfield 26, 3) := by decide +kernel
theorem dX6_ask_54 : decode cX6_ask 54 = .ok (.iload_n 1, 1) := by decide +kernel
theorem dX6_ask_55 : decode cX6_ask 55 = .ok (.invokevirtual 321, 3) := by decide +kernel
theorem dX6_ask_58 : decode cX6_ask 58 = .ok (.ireturn, 1) := by decide +kernel
theorem dX6_trace_0 : decode cX6_trace 0 = .ok (.aload_n 0, 1) := by decide +kernel
theorem dX6_trace_1 : decode cX6_trace 1 = .ok (.getfield 50, 3) := by decide +kernel
theorem dX6_trace_4 : decode cX6_trace 4 = .ok (.iload_n 1, 1) := by decide +kernel
theorem dX6_trace_5 : decode cX6_trace 5 = .ok (.invokevirtual 324, 3) := by decide +kernel
theorem dX6_trace_8 : decode cX6_trace 8 = .ok (.ireturn, 1) := by decide +kernel
theorem dX6_count_0 : decode cX6_count 0 = .ok (.iload_n 1, 1) := by decide +kernel
theorem dX6_count_1 : decode cX6_count 1 = .ok (.tableswitch 114 0 7 #[47, 55, 63, 71, 79, 90, 98, 106], 47) := by decide +kernel
theorem dX6_count_48 : decode cX6_count 48 = .ok (.aload_n 0, 1) := by decide +kernel
theorem dX6_count_49 : decode cX6_count 49 = .ok (.getfield 10, 3) := by decide +kernel
theorem dX6_count_52 : decode cX6_count 52 = .ok (.invokevirtual 327, 3) := by decide +kernel
theorem dX6_count_55 : decode cX6_count 55 = .ok (.ireturn, 1) := by decide +kernel
theorem dX6_count_56 : decode cX6_count 56 = .ok (.aload_n 0, 1) := by decide +kernel
theorem dX6_count_57 : decode cX6_count 57 = .ok (.getfield 26, 3) := by decide +kernel
theorem dX6_count_60 : decode cX6_count 60 = .ok (.getfield 134, 3) := by decide +kernel
theorem dX6_count_63 : decode cX6_count 63 = .ok (.ireturn, 1) := by decide +kernel
theorem dX6_count_64 : decode cX6_count 64 = .ok (.aload_n 0, 1) := by decide +kernel
theorem dX6_count_65 : decode cX6_count 65 = .ok (.getfield 26, 3) := by decide +kernel
theorem dX6_count_68 : decode cX6_count 68 = .ok (.getfield 242, 3) := by decide +kernel
theorem dX6_count_71 : decode cX6_count 71 = .ok (.ireturn, 1) := by decide +kernel
theorem dX6_count_72 : decode cX6_count 72 = .ok (.aload_n 0, 1) := by decide +kernel
theorem dX6_count_73 : decode cX6_count 73 = .ok (.getfield 26, 3) := by decide +kernel
theorem dX6_count_76 : decode cX6_count 76 = .ok (.getfield 148, 3) := by decide +kernel
theorem dX6_count_79 : decode cX6_count 79 = .ok (.ireturn, 1) := by decide +kernel
theorem dX6_count_80 : decode cX6_count 80 = .ok (.aload_n 0, 1) := by decide +kernel
theorem dX6_count_81 : decode cX6_count 81 = .ok (.getfield 26, 3) := by decide +kernel
theorem dX6_count_84 : decode cX6_count 84 = .ok (.invokevirtual 211, 3) := by decide +kernel
theorem dX6_count_87 : decode cX6_count 87 = .ok (.invokestatic 330, 3) := by decide +kernel
theorem dX6_count_90 : decode cX6_count 90 = .ok (.ireturn, 1) := by decide +kernel
theorem dX6_count_91 : decode cX6_count 91 = .ok (.aload_n 0, 1) := by decide +kernel
theorem dX6_count_92 : decode cX6_count 92 = .ok (.getfield 26, 3) := by decide +kernel
theorem dX6_count_95 : decode cX6_count 95 = .ok (.invokevirtual 335, 3) := by decide +kernel
theorem dX6_count_98 : decode cX6_count 98 = .ok (.ireturn, 1) := by decide +kernel
theorem dX6_count_99 : decode cX6_count 99 = .ok (.aload_n 0, 1) := by decide +kernel
theorem dX6_count_100 : decode cX6_count 100 = .ok (.getfield 36, 3) := by decide +kernel
theorem dX6_count_103 : decode cX6_count 103 = .ok (.invokevirtual 140, 3) := by decide +kernel
theorem dX6_count_106 : decode cX6_count 106 = .ok (.ireturn, 1) := by decide +kernel
theorem dX6_count_107 : decode cX6_count 107 = .ok (.aload_n 0, 1) := by decide +kernel
theorem dX6_count_108 : decode cX6_count 108 = .ok (.getfield 19, 3) := by decide +kernel
theorem dX6_count_111 : decode cX6_count 111 = .ok (.invokevirtual 108, 3) := by decide +kernel
theorem dX6_count_114 : decode cX6_count 114 = .ok (.ireturn, 1) := by decide +kernel
theorem dX6_count_115 : decode cX6_count 115 = .ok (.ldc 69, 2) := by decide +kernel
theorem dX6_count_117 : decode cX6_count 117 = .ok (.ireturn, 1) := by decide +kernel
theorem dX6_status_0 : decode cX6_status 0 = .ok (.aload_n 0, 1) := by decide +kernel
theorem dX6_status_1 : decode cX6_status 1 = .ok (.getfield 62, 3) := by decide +kernel
theorem dX6_status_4 : decode cX6_status 4 = .ok (.ireturn, 1) := by decide +kernel
theorem dX6_outside_0 : decode cX6_outside 0 = .ok (.iload_n 0, 1) := by decide +kernel
theorem dX6_outside_1 : decode cX6_outside 1 = .ok (.iload_n 1, 1) := by decide +kernel
theorem dX6_outside_2 : decode cX6_outside 2 = .ok (.if_icmp .lt 8, 3) := by decide +kernel
theorem dX6_outside_5 : decode cX6_outside 5 = .ok (.iload_n 0, 1) := by decide +kernel
theorem dX6_outside_6 : decode cX6_outside 6 = .ok (.iload_n 2, 1) := by decide +kernel
theorem dX6_outside_7 : decode cX6_outside 7 = .ok (.if_icmp .le 7, 3) := by decide +kernel
theorem dX6_outside_10 : decode cX6_outside 10 = .ok (.iconst 1, 1) := by decide +kernel
theorem dX6_outside_11 : decode cX6_outside 11 = .ok (.goto 4, 3) := by decide +kernel
theorem dX6_outside_14 : decode cX6_outside 14 = .ok (.iconst 0, 1) := by decide +kernel
theorem dX6_outside_15 : decode cX6_outside 15 = .ok (.ireturn, 1) := by decide +kernel
theorem dX6_noSide_0 : decode cX6_noSide 0 = .ok (.iload_n 0, 1) := by decide +kernel
theorem dX6_noSide_1 : decode cX6_noSide 1 = .ok (.iconst 0, 1) := by decide +kernel
theorem dX6_noSide_2 : decode cX6_noSide 2 = .ok (.iconst 1, 1) := by decide +kernel
theorem dX6_noSide_3 : decode cX6_noSide 3 = .ok (.invokestatic 217, 3) := by decide +kernel
theorem dX6_noSide_6 : decode cX6_noSide 6 = .ok (.ireturn, 1) := by decide +kernel
theorem dX6_noRow_0 : decode cX6_noRow 0 = .ok (.iload_n 0, 1) := by decide +kernel
theorem dX6_noRow_1 : decode cX6_noRow 1 = .ok (.iconst 0, 1) := by decide +kernel
theorem dX6_noRow_2 : decode cX6_noRow 2 = .ok (.bipush 7, 2) := by decide +kernel
theorem dX6_noRow_4 : decode cX6_noRow 4 = .ok (.invokestatic 217, 3) := by decide +kernel
theorem dX6_noRow_7 : decode cX6_noRow 7 = .ok (.ireturn, 1) := by decide +kernel
theorem dX6_noRun_0 : decode cX6_noRun 0 = .ok (.aload_n 0, 1) := by decide +kernel
theorem dX6_noRun_1 : decode cX6_noRun 1 = .ok (.getfield 26, 3) := by decide +kernel
theorem dX6_noRun_4 : decode cX6_noRun 4 = .ok (.getfield 134, 3) := by decide +kernel
theorem dX6_noRun_7 : decode cX6_noRun 7 = .ok (.ifCond .ne 7, 3) := by decide +kernel
theorem dX6_noRun_10 : decode cX6_noRun 10 = .ok (.iconst 1, 1) := by decide +kernel
theorem dX6_noRun_11 : decode cX6_noRun 11 = .ok (.goto 4, 3) := by decide +kernel
theorem dX6_noRun_14 : decode cX6_noRun 14 = .ok (.iconst 0, 1) := by decide +kernel
theorem dX6_noRun_15 : decode cX6_noRun 15 = .ok (.ireturn, 1) := by decide +kernel
theorem dX6_noPiece_0 : decode cX6_noPiece 0 = .ok (.iload_n 1, 1) := by decide +kernel
theorem dX6_noPiece_1 : decode cX6_noPiece 1 = .ok (.iconst 0, 1) := by decide +kernel
theorem dX6_noPiece_2 : decode cX6_noPiece 2 = .ok (.aload_n 0, 1) := by decide +kernel
theorem dX6_noPiece_3 : decode cX6_noPiece 3 = .ok (.getfield 26, 3) := by decide +kernel
theorem dX6_noPiece_6 : decode cX6_noPiece 6 = .ok (.getfield 134, 3) := by decide +kernel
theorem dX6_noPiece_9 : decode cX6_noPiece 9 = .ok (.iconst 1, 1) := by decide +kernel
theorem dX6_noPiece_10 : decode cX6_noPiece 10 = .ok (.isub, 1) := by decide +kernel
theorem dX6_noPiece_11 : decode cX6_noPiece 11 = .ok (.invokestatic 217, 3) := by decide +kernel
theorem dX6_noPiece_14 : decode cX6_noPiece 14 = .ok (.ireturn, 1) := by decide +kernel
theorem dX6_noMarble_0 : decode cX6_noMarble 0 = .ok (.iload_n 1, 1) := by decide +kernel
theorem dX6_noMarble_1 : decode cX6_noMarble 1 = .ok (.iconst 0, 1) := by decide +kernel
theorem dX6_noMarble_2 : decode cX6_noMarble 2 = .ok (.aload_n 0, 1) := by decide +kernel
theorem dX6_noMarble_3 : decode cX6_noMarble 3 = .ok (.getfield 26, 3) := by decide +kernel
theorem dX6_noMarble_6 : decode cX6_noMarble 6 = .ok (.getfield 242, 3) := by decide +kernel
theorem dX6_noMarble_9 : decode cX6_noMarble 9 = .ok (.iconst 1, 1) := by decide +kernel
theorem dX6_noMarble_10 : decode cX6_noMarble 10 = .ok (.isub, 1) := by decide +kernel
theorem dX6_noMarble_11 : decode cX6_noMarble 11 = .ok (.invokestatic 217, 3) := by decide +kernel
theorem dX6_noMarble_14 : decode cX6_noMarble 14 = .ok (.ireturn, 1) := by decide +kernel
theorem dX6_findingAt_0 : decode cX6_findingAt 0 = .ok (.aload_n 0, 1) := by decide +kernel
theorem dX6_findingAt_1 : decode cX6_findingAt 1 = .ok (.getfield 10, 3) := by decide +kernel
theorem dX6_findingAt_4 : decode cX6_findingAt 4 = .ok (.iload_n 1, 1) := by decide +kernel
theorem dX6_findingAt_5 : decode cX6_findingAt 5 = .ok (.invokevirtual 88, 3) := by decide +kernel
theorem dX6_findingAt_8 : decode cX6_findingAt 8 = .ok (.ifCond .eq 5, 3) := by decide +kernel
theorem dX6_findingAt_11 : decode cX6_findingAt 11 = .ok (.iconst 1, 1) := by decide +kernel
theorem dX6_findingAt_12 : decode cX6_findingAt 12 = .ok (.ireturn, 1) := by decide +kernel
theorem dX6_findingAt_13 : decode cX6_findingAt 13 = .ok (.aload_n 0, 1) := by decide +kernel
theorem dX6_findingAt_14 : decode cX6_findingAt 14 = .ok (.getfield 10, 3) := by decide +kernel
theorem dX6_findingAt_17 : decode cX6_findingAt 17 = .ok (.iload_n 1, 1) := by decide +kernel
theorem dX6_findingAt_18 : decode cX6_findingAt 18 = .ok (.iload_n 2, 1) := by decide +kernel
theorem dX6_findingAt_19 : decode cX6_findingAt 19 = .ok (.iload_n 3, 1) := by decide +kernel
theorem dX6_findingAt_20 : decode cX6_findingAt 20 = .ok (.invokevirtual 94, 3) := by decide +kernel
theorem dX6_findingAt_23 : decode cX6_findingAt 23 = .ok (.ifCond .eq 7, 3) := by decide +kernel
theorem dX6_findingAt_26 : decode cX6_findingAt 26 = .ok (.iconst 0, 1) := by decide +kernel
theorem dX6_findingAt_27 : decode cX6_findingAt 27 = .ok (.goto 4, 3) := by decide +kernel
theorem dX6_findingAt_30 : decode cX6_findingAt 30 = .ok (.iconst 2, 1) := by decide +kernel
theorem dX6_findingAt_31 : decode cX6_findingAt 31 = .ok (.ireturn, 1) := by decide +kernel
theorem dX6_found_0 : decode cX6_found 0 = .ok (.aload_n 0, 1) := by decide +kernel
theorem dX6_found_1 : decode cX6_found 1 = .ok (.iload_n 1, 1) := by decide +kernel
theorem dX6_found_2 : decode cX6_found 2 = .ok (.putfield 62, 3) := by decide +kernel
theorem dX6_found_5 : decode cX6_found 5 = .ok (.ldc_w 338, 3) := by decide +kernel
theorem dX6_found_8 : decode cX6_found 8 = .ok (.iload_n 1, 1) := by decide +kernel
theorem dX6_found_9 : decode cX6_found 9 = .ok (.isub, 1) := by decide +kernel
theorem dX6_found_10 : decode cX6_found 10 = .ok (.ireturn, 1) := by decide +kernel
theorem dX6_foundNone_0 : decode cX6_foundNone 0 = .ok (.aload_n 0, 1) := by decide +kernel
theorem dX6_foundNone_1 : decode cX6_foundNone 1 = .ok (.iconst 0, 1) := by decide +kernel
theorem dX6_foundNone_2 : decode cX6_foundNone 2 = .ok (.putfield 62, 3) := by decide +kernel
theorem dX6_foundNone_5 : decode cX6_foundNone 5 = .ok (.iload_n 1, 1) := by decide +kernel
theorem dX6_foundNone_6 : decode cX6_foundNone 6 = .ok (.ireturn, 1) := by decide +kernel
theorem dX6_setsOf_0 : decode cX6_setsOf 0 = .ok (.aload_n 0, 1) := by decide +kernel
theorem dX6_setsOf_1 : decode cX6_setsOf 1 = .ok (.getfield 26, 3) := by decide +kernel
theorem dX6_setsOf_4 : decode cX6_setsOf 4 = .ok (.invokevirtual 339, 3) := by decide +kernel
theorem dX6_setsOf_7 : decode cX6_setsOf 7 = .ok (.istore_n 3, 1) := by decide +kernel
theorem dX6_setsOf_8 : decode cX6_setsOf 8 = .ok (.iconst 0, 1) := by decide +kernel
theorem dX6_setsOf_9 : decode cX6_setsOf 9 = .ok (.istore 4, 2) := by decide +kernel
theorem dX6_setsOf_11 : decode cX6_setsOf 11 = .ok (.iload_n 3, 1) := by decide +kernel
theorem dX6_setsOf_12 : decode cX6_setsOf 12 = .ok (.istore 5, 2) := by decide +kernel
theorem dX6_setsOf_14 : decode cX6_setsOf 14 = .ok (.iconst 0, 1) := by decide +kernel
theorem dX6_setsOf_15 : decode cX6_setsOf 15 = .ok (.istore 6, 2) := by decide +kernel
theorem dX6_setsOf_17 : decode cX6_setsOf 17 = .ok (.iconst 0, 1) := by decide +kernel
theorem dX6_setsOf_18 : decode cX6_setsOf 18 = .ok (.istore 7, 2) := by decide +kernel
theorem dX6_setsOf_20 : decode cX6_setsOf 20 = .ok (.iload 7, 2) := by decide +kernel
theorem dX6_setsOf_22 : decode cX6_setsOf 22 = .ok (.iload_n 3, 1) := by decide +kernel
theorem dX6_setsOf_23 : decode cX6_setsOf 23 = .ok (.if_icmp .gt 48, 3) := by decide +kernel
theorem dX6_setsOf_26 : decode cX6_setsOf 26 = .ok (.iload 7, 2) := by decide +kernel
theorem dX6_setsOf_28 : decode cX6_setsOf 28 = .ok (.iload_n 3, 1) := by decide +kernel
theorem dX6_setsOf_29 : decode cX6_setsOf 29 = .ok (.iconst (-1), 1) := by decide +kernel
theorem dX6_setsOf_30 : decode cX6_setsOf 30 = .ok (.ixor, 1) := by decide +kernel
theorem dX6_setsOf_31 : decode cX6_setsOf 31 = .ok (.iand, 1) := by decide +kernel
theorem dX6_setsOf_32 : decode cX6_setsOf 32 = .ok (.ifCond .ne 33, 3) := by decide +kernel
theorem dX6_setsOf_35 : decode cX6_setsOf 35 = .ok (.aload_n 0, 1) := by decide +kernel
theorem dX6_setsOf_36 : decode cX6_setsOf 36 = .ok (.getfield 26, 3) := by decide +kernel
theorem dX6_setsOf_39 : decode cX6_setsOf 39 = .ok (.iload 7, 2) := by decide +kernel
theorem dX6_setsOf_41 : decode cX6_setsOf 41 = .ok (.invokevirtual 342, 3) := by decide +kernel
theorem dX6_setsOf_44 : decode cX6_setsOf 44 = .ok (.iload_n 1, 1) := by decide +kernel
theorem dX6_setsOf_45 : decode cX6_setsOf 45 = .ok (.if_icmp .ne 20, 3) := by decide +kernel
theorem dX6_setsOf_48 : decode cX6_setsOf 48 = .ok (.iinc 4 1, 3) := by decide +kernel
theorem dX6_setsOf_51 : decode cX6_setsOf 51 = .ok (.iload 5, 2) := by decide +kernel
theorem dX6_setsOf_53 : decode cX6_setsOf 53 = .ok (.iload 7, 2) := by decide +kernel
theorem dX6_setsOf_55 : decode cX6_setsOf 55 = .ok (.iand, 1) := by decide +kernel
theorem dX6_setsOf_56 : decode cX6_setsOf 56 = .ok (.istore 5, 2) := by decide +kernel
theorem dX6_setsOf_58 : decode cX6_setsOf 58 = .ok (.iload 6, 2) := by decide +kernel
theorem dX6_setsOf_60 : decode cX6_setsOf 60 = .ok (.iload 7, 2) := by decide +kernel
theorem dX6_setsOf_62 : decode cX6_setsOf 62 = .ok (.ior, 1) := by decide +kernel
theorem dX6_setsOf_63 : decode cX6_setsOf 63 = .ok (.istore 6, 2) := by decide +kernel
theorem dX6_setsOf_65 : decode cX6_setsOf 65 = .ok (.iinc 7 1, 3) := by decide +kernel
theorem dX6_setsOf_68 : decode cX6_setsOf 68 = .ok (.goto (-48), 3) := by decide +kernel
theorem dX6_setsOf_71 : decode cX6_setsOf 71 = .ok (.iload_n 2, 1) := by decide +kernel
theorem dX6_setsOf_72 : decode cX6_setsOf 72 = .ok (.ifCond .ne 6, 3) := by decide +kernel
theorem dX6_setsOf_75 : decode cX6_setsOf 75 = .ok (.iload 4, 2) := by decide +kernel
theorem dX6_setsOf_77 : decode cX6_setsOf 77 = .ok (.ireturn, 1) := by decide +kernel
theorem dX6_setsOf_78 : decode cX6_setsOf 78 = .ok (.iload 4, 2) := by decide +kernel
theorem dX6_setsOf_80 : decode cX6_setsOf 80 = .ok (.ifCond .ne 5, 3) := by decide +kernel
theorem dX6_setsOf_83 : decode cX6_setsOf 83 = .ok (.iconst 0, 1) := by decide +kernel
theorem dX6_setsOf_84 : decode cX6_setsOf 84 = .ok (.ireturn, 1) := by decide +kernel
theorem dX6_setsOf_85 : decode cX6_setsOf 85 = .ok (.iload_n 2, 1) := by decide +kernel
theorem dX6_setsOf_86 : decode cX6_setsOf 86 = .ok (.iconst 1, 1) := by decide +kernel
theorem dX6_setsOf_87 : decode cX6_setsOf 87 = .ok (.if_icmp .ne 8, 3) := by decide +kernel
theorem dX6_setsOf_90 : decode cX6_setsOf 90 = .ok (.iload 5, 2) := by decide +kernel
theorem dX6_setsOf_92 : decode cX6_setsOf 92 = .ok (.goto 5, 3) := by decide +kernel
theorem dX6_setsOf_95 : decode cX6_setsOf 95 = .ok (.iload 6, 2) := by decide +kernel
theorem dX6_setsOf_97 : decode cX6_setsOf 97 = .ok (.ireturn, 1) := by decide +kernel
theorem dX6_shareOf_0 : decode cX6_shareOf 0 = .ok (.aload_n 0, 1) := by decide +kernel
theorem dX6_shareOf_1 : decode cX6_shareOf 1 = .ok (.getfield 26, 3) := by decide +kernel
theorem dX6_shareOf_4 : decode cX6_shareOf 4 = .ok (.invokevirtual 335, 3) := by decide +kernel
theorem dX6_shareOf_7 : decode cX6_shareOf 7 = .ok (.istore_n 3, 1) := by decide +kernel
theorem dX6_shareOf_8 : decode cX6_shareOf 8 = .ok (.iload_n 3, 1) := by decide +kernel
theorem dX6_shareOf_9 : decode cX6_shareOf 9 = .ok (.ifCond .le 15, 3) := by decide +kernel
theorem dX6_shareOf_12 : decode cX6_shareOf 12 = .ok (.aload_n 0, 1) := by decide +kernel
theorem dX6_shareOf_13 : decode cX6_shareOf 13 = .ok (.getfield 26, 3) := by decide +kernel
theorem dX6_shareOf_16 : decode cX6_shareOf 16 = .ok (.getfield 202, 3) := by decide +kernel
theorem dX6_shareOf_19 : decode cX6_shareOf 19 = .ok (.iload_n 1, 1) := by decide +kernel
theorem dX6_shareOf_20 : decode cX6_shareOf 20 = .ok (.iaload, 1) := by decide +kernel
theorem dX6_shareOf_21 : decode cX6_shareOf 21 = .ok (.ifCond .ne 5, 3) := by decide +kernel
theorem dX6_shareOf_24 : decode cX6_shareOf 24 = .ok (.iconst 0, 1) := by decide +kernel
theorem dX6_shareOf_25 : decode cX6_shareOf 25 = .ok (.ireturn, 1) := by decide +kernel
theorem dX6_shareOf_26 : decode cX6_shareOf 26 = .ok (.iload_n 2, 1) := by decide +kernel
theorem dX6_shareOf_27 : decode cX6_shareOf 27 = .ok (.istore 4, 2) := by decide +kernel
theorem dX6_shareOf_29 : decode cX6_shareOf 29 = .ok (.iconst 0, 1) := by decide +kernel
theorem dX6_shareOf_30 : decode cX6_shareOf 30 = .ok (.istore 5, 2) := by decide +kernel
theorem dX6_shareOf_32 : decode cX6_shareOf 32 = .ok (.iconst 0, 1) := by decide +kernel
theorem dX6_shareOf_33 : decode cX6_shareOf 33 = .ok (.istore 6, 2) := by decide +kernel
theorem dX6_shareOf_35 : decode cX6_shareOf 35 = .ok (.iload 6, 2) := by decide +kernel
theorem dX6_shareOf_37 : decode cX6_shareOf 37 = .ok (.aload_n 0, 1) := by decide +kernel
theorem dX6_shareOf_38 : decode cX6_shareOf 38 = .ok (.getfield 26, 3) := by decide +kernel
theorem dX6_shareOf_41 : decode cX6_shareOf 41 = .ok (.getfield 134, 3) := by decide +kernel
theorem dX6_shareOf_44 : decode cX6_shareOf 44 = .ok (.if_icmp .ge 50, 3) := by decide +kernel
theorem dX6_shareOf_47 : decode cX6_shareOf 47 = .ok (.iload 4, 2) := by decide +kernel
theorem dX6_shareOf_49 : decode cX6_shareOf 49 = .ok (.iload_n 2, 1) := by decide +kernel
theorem dX6_shareOf_50 : decode cX6_shareOf 50 = .ok (.aload_n 0, 1) := by decide +kernel
theorem dX6_shareOf_51 : decode cX6_shareOf 51 = .ok (.getfield 26, 3) := by decide +kernel
theorem dX6_shareOf_54 : decode cX6_shareOf 54 = .ok (.getfield 202, 3) := by decide +kernel
theorem dX6_shareOf_57 : decode cX6_shareOf 57 = .ok (.iload 6, 2) := by decide +kernel
theorem dX6_shareOf_59 : decode cX6_shareOf 59 = .ok (.iaload, 1) := by decide +kernel
theorem dX6_shareOf_60 : decode cX6_shareOf 60 = .ok (.imul, 1) := by decide +kernel
theorem dX6_shareOf_61 : decode cX6_shareOf 61 = .ok (.iload_n 3, 1) := by decide +kernel
theorem dX6_shareOf_62 : decode cX6_shareOf 62 = .ok (.idiv, 1) := by decide +kernel
theorem dX6_shareOf_63 : decode cX6_shareOf 63 = .ok (.isub, 1) := by decide +kernel
theorem dX6_shareOf_64 : decode cX6_shareOf 64 = .ok (.istore 4, 2) := by decide +kernel
theorem dX6_shareOf_66 : decode cX6_shareOf 66 = .ok (.iload 6, 2) := by decide +kernel
theorem dX6_shareOf_68 : decode cX6_shareOf 68 = .ok (.iload_n 1, 1) := by decide +kernel
theorem dX6_shareOf_69 : decode cX6_shareOf 69 = .ok (.if_icmp .ge 19, 3) := by decide +kernel
theorem dX6_shareOf_72 : decode cX6_shareOf 72 = .ok (.aload_n 0, 1) := by decide +kernel
theorem dX6_shareOf_73 : decode cX6_shareOf 73 = .ok (.getfield 26, 3) := by decide +kernel
theorem dX6_shareOf_76 : decode cX6_shareOf 76 = .ok (.getfield 202, 3) := by decide +kernel
theorem dX6_shareOf_79 : decode cX6_shareOf 79 = .ok (.iload 6, 2) := by decide +kernel
theorem dX6_shareOf_81 : decode cX6_shareOf 81 = .ok (.iaload, 1) := by decide +kernel
theorem dX6_shareOf_82 : decode cX6_shareOf 82 = .ok (.ifCond .le 6, 3) := by decide +kernel
theorem dX6_shareOf_85 : decode cX6_shareOf 85 = .ok (.iinc 5 1, 3) := by decide +kernel
theorem dX6_shareOf_88 : decode cX6_shareOf 88 = .ok (.iinc 6 1, 3) := by decide +kernel
theorem dX6_shareOf_91 : decode cX6_shareOf 91 = .ok (.goto (-56), 3) := by decide +kernel
theorem dX6_shareOf_94 : decode cX6_shareOf 94 = .ok (.iload_n 2, 1) := by decide +kernel
theorem dX6_shareOf_95 : decode cX6_shareOf 95 = .ok (.aload_n 0, 1) := by decide +kernel
theorem dX6_shareOf_96 : decode cX6_shareOf 96 = .ok (.getfield 26, 3) := by decide +kernel
theorem dX6_shareOf_99 : decode cX6_shareOf 99 = .ok (.getfield 202, 3) := by decide +kernel
theorem dX6_shareOf_102 : decode cX6_shareOf 102 = .ok (.iload_n 1, 1) := by decide +kernel
theorem dX6_shareOf_103 : decode cX6_shareOf 103 = .ok (.iaload, 1) := by decide +kernel
theorem dX6_shareOf_104 : decode cX6_shareOf 104 = .ok (.imul, 1) := by decide +kernel
theorem dX6_shareOf_105 : decode cX6_shareOf 105 = .ok (.iload_n 3, 1) := by decide +kernel
theorem dX6_shareOf_106 : decode cX6_shareOf 106 = .ok (.idiv, 1) := by decide +kernel
theorem dX6_shareOf_107 : decode cX6_shareOf 107 = .ok (.iload 5, 2) := by decide +kernel
theorem dX6_shareOf_109 : decode cX6_shareOf 109 = .ok (.iload 4, 2) := by decide +kernel
theorem dX6_shareOf_111 : decode cX6_shareOf 111 = .ok (.if_icmp .ge 7, 3) := by decide +kernel
theorem dX6_shareOf_114 : decode cX6_shareOf 114 = .ok (.iconst 1, 1) := by decide +kernel
theorem dX6_shareOf_115 : decode cX6_shareOf 115 = .ok (.goto 4, 3) := by decide +kernel
theorem dX6_shareOf_118 : decode cX6_shareOf 118 = .ok (.iconst 0, 1) := by decide +kernel
theorem dX6_shareOf_119 : decode cX6_shareOf 119 = .ok (.iadd, 1) := by decide +kernel
theorem dX6_shareOf_120 : decode cX6_shareOf 120 = .ok (.ireturn, 1) := by decide +kernel
theorem dX6_power_0 : decode cX6_power 0 = .ok (.lconst 1, 1) := by decide +kernel
theorem dX6_power_1 : decode cX6_power 1 = .ok (.lstore_n 3, 1) := by decide +kernel
theorem dX6_power_2 : decode cX6_power 2 = .ok (.iconst 0, 1) := by decide +kernel
theorem dX6_power_3 : decode cX6_power 3 = .ok (.istore 5, 2) := by decide +kernel
theorem dX6_power_5 : decode cX6_power 5 = .ok (.iload 5, 2) := by decide +kernel
theorem dX6_power_7 : decode cX6_power 7 = .ok (.iload_n 2, 1) := by decide +kernel
theorem dX6_power_8 : decode cX6_power 8 = .ok (.if_icmp .ge 13, 3) := by decide +kernel
theorem dX6_power_11 : decode cX6_power 11 = .ok (.lload_n 3, 1) := by decide +kernel
theorem dX6_power_12 : decode cX6_power 12 = .ok (.lload_n 0, 1) := by decide +kernel
theorem dX6_power_13 : decode cX6_power 13 = .ok (.lmul, 1) := by decide +kernel
theorem dX6_power_14 : decode cX6_power 14 = .ok (.lstore_n 3, 1) := by decide +kernel
theorem dX6_power_15 : decode cX6_power 15 = .ok (.iinc 5 1, 3) := by decide +kernel
theorem dX6_power_18 : decode cX6_power 18 = .ok (.goto (-13), 3) := by decide +kernel
theorem dX6_power_21 : decode cX6_power 21 = .ok (.lload_n 3, 1) := by decide +kernel
theorem dX6_power_22 : decode cX6_power 22 = .ok (.lreturn, 1) := by decide +kernel
theorem dX6_commonDivisor_0 : decode cX6_commonDivisor 0 = .ok (.lload_n 0, 1) := by decide +kernel
theorem dX6_commonDivisor_1 : decode cX6_commonDivisor 1 = .ok (.lstore 4, 2) := by decide +kernel
theorem dX6_commonDivisor_3 : decode cX6_commonDivisor 3 = .ok (.lload_n 2, 1) := by decide +kernel
theorem dX6_commonDivisor_4 : decode cX6_commonDivisor 4 = .ok (.lstore 6, 2) := by decide +kernel
theorem dX6_commonDivisor_6 : decode cX6_commonDivisor 6 = .ok (.iconst 0, 1) := by decide +kernel
theorem dX6_commonDivisor_7 : decode cX6_commonDivisor 7 = .ok (.istore 8, 2) := by decide +kernel
theorem dX6_commonDivisor_9 : decode cX6_commonDivisor 9 = .ok (.iload 8, 2) := by decide +kernel
theorem dX6_commonDivisor_11 : decode cX6_commonDivisor 11 = .ok (.bipush 100, 2) := by decide +kernel
theorem dX6_commonDivisor_13 : decode cX6_commonDivisor 13 = .ok (.if_icmp .ge 31, 3) := by decide +kernel
theorem dX6_commonDivisor_16 : decode cX6_commonDivisor 16 = .ok (.lload 6, 2) := by decide +kernel
theorem dX6_commonDivisor_18 : decode cX6_commonDivisor 18 = .ok (.lconst 0, 1) := by decide +kernel
theorem dX6_commonDivisor_19 : decode cX6_commonDivisor 19 = .ok (.lcmp, 1) := by decide +kernel
theorem dX6_commonDivisor_20 : decode cX6_commonDivisor 20 = .ok (.ifCond .eq 24, 3) := by decide +kernel
theorem dX6_commonDivisor_23 : decode cX6_commonDivisor 23 = .ok (.lload 4, 2) := by decide +kernel
theorem dX6_commonDivisor_25 : decode cX6_commonDivisor 25 = .ok (.lload 6, 2) := by decide +kernel
theorem dX6_commonDivisor_27 : decode cX6_commonDivisor 27 = .ok (.lrem, 1) := by decide +kernel
theorem dX6_commonDivisor_28 : decode cX6_commonDivisor 28 = .ok (.lstore 9, 2) := by decide +kernel
theorem dX6_commonDivisor_30 : decode cX6_commonDivisor 30 = .ok (.lload 6, 2) := by decide +kernel
theorem dX6_commonDivisor_32 : decode cX6_commonDivisor 32 = .ok (.lstore 4, 2) := by decide +kernel
theorem dX6_commonDivisor_34 : decode cX6_commonDivisor 34 = .ok (.lload 9, 2) := by decide +kernel
theorem dX6_commonDivisor_36 : decode cX6_commonDivisor 36 = .ok (.lstore 6, 2) := by decide +kernel
theorem dX6_commonDivisor_38 : decode cX6_commonDivisor 38 = .ok (.iinc 8 1, 3) := by decide +kernel
theorem dX6_commonDivisor_41 : decode cX6_commonDivisor 41 = .ok (.goto (-32), 3) := by decide +kernel
theorem dX6_commonDivisor_44 : decode cX6_commonDivisor 44 = .ok (.lload 4, 2) := by decide +kernel
theorem dX6_commonDivisor_46 : decode cX6_commonDivisor 46 = .ok (.lreturn, 1) := by decide +kernel
theorem dX7_init_0 : decode cX7_init 0 = .ok (.aload_n 0, 1) := by decide +kernel
theorem dX7_init_1 : decode cX7_init 1 = .ok (.invokespecial 1, 3) := by decide +kernel
theorem dX7_init_4 : decode cX7_init 4 = .ok (.aload_n 0, 1) := by decide +kernel
theorem dX7_init_5 : decode cX7_init 5 = .ok (.bipush 8, 2) := by decide +kernel
theorem dX7_init_7 : decode cX7_init 7 = .ok (.newarray .int, 2) := by decide +kernel
theorem dX7_init_9 : decode cX7_init 9 = .ok (.putfield 7, 3) := by decide +kernel
theorem dX7_init_12 : decode cX7_init 12 = .ok (.aload_n 0, 1) := by decide +kernel
theorem dX7_init_13 : decode cX7_init 13 = .ok (.bipush 8, 2) := by decide +kernel
theorem dX7_init_15 : decode cX7_init 15 = .ok (.newarray .int, 2) := by decide +kernel
theorem dX7_init_17 : decode cX7_init 17 = .ok (.putfield 13, 3) := by decide +kernel
theorem dX7_init_20 : decode cX7_init 20 = .ok (.aload_n 0, 1) := by decide +kernel
theorem dX7_init_21 : decode cX7_init 21 = .ok (.sipush 320, 3) := by decide +kernel
theorem dX7_init_24 : decode cX7_init 24 = .ok (.newarray .int, 2) := by decide +kernel
theorem dX7_init_26 : decode cX7_init 26 = .ok (.putfield 16, 3) := by decide +kernel
theorem dX7_init_29 : decode cX7_init 29 = .ok (.aload_n 0, 1) := by decide +kernel
theorem dX7_init_30 : decode cX7_init 30 = .ok (.bipush 110, 2) := by decide +kernel
theorem dX7_init_32 : decode cX7_init 32 = .ok (.newarray .int, 2) := by decide +kernel
theorem dX7_init_34 : decode cX7_init 34 = .ok (.putfield 19, 3) := by decide +kernel
theorem dX7_init_37 : decode cX7_init 37 = .ok (.aload_n 0, 1) := by decide +kernel
theorem dX7_init_38 : decode cX7_init 38 = .ok (.bipush 8, 2) := by decide +kernel
theorem dX7_init_40 : decode cX7_init 40 = .ok (.newarray .int, 2) := by decide +kernel
theorem dX7_init_42 : decode cX7_init 42 = .ok (.putfield 22, 3) := by decide +kernel
theorem dX7_init_45 : decode cX7_init 45 = .ok (.aload_n 0, 1) := by decide +kernel
theorem dX7_init_46 : decode cX7_init 46 = .ok (.bipush 67, 2) := by decide +kernel
theorem dX7_init_48 : decode cX7_init 48 = .ok (.newarray .int, 2) := by decide +kernel
theorem dX7_init_50 : decode cX7_init 50 = .ok (.putfield 25, 3) := by decide +kernel
theorem dX7_init_53 : decode cX7_init 53 = .ok (.aload_n 0, 1) := by decide +kernel
theorem dX7_init_54 : decode cX7_init 54 = .ok (.sipush 1608, 3) := by decide +kernel
theorem dX7_init_57 : decode cX7_init 57 = .ok (.newarray .int, 2) := by decide +kernel
theorem dX7_init_59 : decode cX7_init 59 = .ok (.putfield 28, 3) := by decide +kernel
theorem dX7_init_62 : decode cX7_init 62 = .ok (.aload_n 0, 1) := by decide +kernel
theorem dX7_init_63 : decode cX7_init 63 = .ok (.sipush 156, 3) := by decide +kernel
theorem dX7_init_66 : decode cX7_init 66 = .ok (.newarray .int, 2) := by decide +kernel
theorem dX7_init_68 : decode cX7_init 68 = .ok (.putfield 31, 3) := by decide +kernel
theorem dX7_init_71 : decode cX7_init 71 = .ok (.aload_n 0, 1) := by decide +kernel
theorem dX7_init_72 : decode cX7_init 72 = .ok (.iconst 2, 1) := by decide +kernel
theorem dX7_init_73 : decode cX7_init 73 = .ok (.newarray .boolean, 2) := by decide +kernel
theorem dX7_init_75 : decode cX7_init 75 = .ok (.putfield 34, 3) := by decide +kernel
theorem dX7_init_78 : decode cX7_init 78 = .ok (.aload_n 0, 1) := by decide +kernel
theorem dX7_init_79 : decode cX7_init 79 = .ok (.bipush 6, 2) := by decide +kernel
theorem dX7_init_81 : decode cX7_init 81 = .ok (.newarray .int, 2) := by decide +kernel
theorem dX7_init_83 : decode cX7_init 83 = .ok (.putfield 38, 3) := by decide +kernel
theorem dX7_init_86 : decode cX7_init 86 = .ok (.aload_n 0, 1) := by decide +kernel
theorem dX7_init_87 : decode cX7_init 87 = .ok (.bipush 67, 2) := by decide +kernel
theorem dX7_init_89 : decode cX7_init 89 = .ok (.newarray .int, 2) := by decide +kernel
theorem dX7_init_91 : decode cX7_init 91 = .ok (.putfield 41, 3) := by decide +kernel
theorem dX7_init_94 : decode cX7_init 94 = .ok (.aload_n 0, 1) := by decide +kernel
theorem dX7_init_95 : decode cX7_init 95 = .ok (.bipush 16, 2) := by decide +kernel
theorem dX7_init_97 : decode cX7_init 97 = .ok (.newarray .int, 2) := by decide +kernel
theorem dX7_init_99 : decode cX7_init 99 = .ok (.putfield 44, 3) := by decide +kernel
theorem dX7_init_102 : decode cX7_init 102 = .ok (.aload_n 0, 1) := by decide +kernel
theorem dX7_init_103 : decode cX7_init 103 = .ok (.bipush 8, 2) := by decide +kernel
theorem dX7_init_105 : decode cX7_init 105 = .ok (.newarray .int, 2) := by decide +kernel
theorem dX7_init_107 : decode cX7_init 107 = .ok (.putfield 47, 3) := by decide +kernel
theorem dX7_init_110 : decode cX7_init 110 = .ok (.aload_n 0, 1) := by decide +kernel
theorem dX7_init_111 : decode cX7_init 111 = .ok (.bipush 67, 2) := by decide +kernel
theorem dX7_init_113 : decode cX7_init 113 = .ok (.newarray .int, 2) := by decide +kernel
theorem dX7_init_115 : decode cX7_init 115 = .ok (.putfield 50, 3) := by decide +kernel
theorem dX7_init_118 : decode cX7_init 118 = .ok (.aload_n 0, 1) := by decide +kernel
theorem dX7_init_119 : decode cX7_init 119 = .ok (.bipush 6, 2) := by decide +kernel
theorem dX7_init_121 : decode cX7_init 121 = .ok (.newarray .int, 2) := by decide +kernel
theorem dX7_init_123 : decode cX7_init 123 = .ok (.putfield 53, 3) := by decide +kernel
theorem dX7_init_126 : decode cX7_init 126 = .ok (.aload_n 0, 1) := by decide +kernel
theorem dX7_init_127 : decode cX7_init 127 = .ok (.sipush 256, 3) := by decide +kernel
theorem dX7_init_130 : decode cX7_init 130 = .ok (.newarray .int, 2) := by decide +kernel
theorem dX7_init_132 : decode cX7_init 132 = .ok (.putfield 56, 3) := by decide +kernel
theorem dX7_init_135 : decode cX7_init 135 = .ok (.aload_n 0, 1) := by decide +kernel
theorem dX7_init_136 : decode cX7_init 136 = .ok (.sipush 256, 3) := by decide +kernel
theorem dX7_init_139 : decode cX7_init 139 = .ok (.newarray .int, 2) := by decide +kernel
theorem dX7_init_141 : decode cX7_init 141 = .ok (.putfield 59, 3) := by decide +kernel
theorem dX7_init_144 : decode cX7_init 144 = .ok (.iconst 0, 1) := by decide +kernel
theorem dX7_init_145 : decode cX7_init 145 = .ok (.istore_n 1, 1) := by decide +kernel
theorem dX7_init_146 : decode cX7_init 146 = .ok (.iload_n 1, 1) := by decide +kernel
theorem dX7_init_147 : decode cX7_init 147 = .ok (.bipush 8, 2) := by decide +kernel
theorem dX7_init_149 : decode cX7_init 149 = .ok (.if_icmp .ge 16, 3) := by decide +kernel
theorem dX7_init_152 : decode cX7_init 152 = .ok (.aload_n 0, 1) := by decide +kernel
theorem dX7_init_153 : decode cX7_init 153 = .ok (.getfield 13, 3) := by decide +kernel
theorem dX7_init_156 : decode cX7_init 156 = .ok (.iload_n 1, 1) := by decide +kernel
theorem dX7_init_157 : decode cX7_init 157 = .ok (.iconst (-1), 1) := by decide +kernel
theorem dX7_init_158 : decode cX7_init 158 = .ok (.iastore, 1) := by decide +kernel
theorem dX7_init_159 : decode cX7_init 159 = .ok (.iinc 1 1, 3) := by decide +kernel
theorem dX7_init_162 : decode cX7_init 162 = .ok (.goto (-16), 3) := by decide +kernel
theorem dX7_init_165 : decode cX7_init 165 = .ok (.aload_n 0, 1) := by decide +kernel
theorem dX7_init_166 : decode cX7_init 166 = .ok (.invokevirtual 62, 3) := by decide +kernel
theorem dX7_init_169 : decode cX7_init 169 = .ok (.return_, 1) := by decide +kernel
theorem dX7_in_0 : decode cX7_in 0 = .ok (.iload_n 0, 1) := by decide +kernel
theorem dX7_in_1 : decode cX7_in 1 = .ok (.iload_n 1, 1) := by decide +kernel
theorem dX7_in_2 : decode cX7_in 2 = .ok (.if_icmp .lt 12, 3) := by decide +kernel
theorem dX7_in_5 : decode cX7_in 5 = .ok (.iload_n 0, 1) := by decide +kernel
theorem dX7_in_6 : decode cX7_in 6 = .ok (.iload_n 2, 1) := by decide +kernel
theorem dX7_in_7 : decode cX7_in 7 = .ok (.if_icmp .gt 7, 3) := by decide +kernel
theorem dX7_in_10 : decode cX7_in 10 = .ok (.iconst 1, 1) := by decide +kernel
theorem dX7_in_11 : decode cX7_in 11 = .ok (.goto 4, 3) := by decide +kernel
theorem dX7_in_14 : decode cX7_in 14 = .ok (.iconst 0, 1) := by decide +kernel
theorem dX7_in_15 : decode cX7_in 15 = .ok (.ireturn, 1) := by decide +kernel
theorem dX7_bring_0 : decode cX7_bring 0 = .ok (.iconst 0, 1) := by decide +kernel
theorem dX7_bring_1 : decode cX7_bring 1 = .ok (.istore 5, 2) := by decide +kernel
theorem dX7_bring_3 : decode cX7_bring 3 = .ok (.iload 5, 2) := by decide +kernel
theorem dX7_bring_5 : decode cX7_bring 5 = .ok (.iload 4, 2) := by decide +kernel
theorem dX7_bring_7 : decode cX7_bring 7 = .ok (.if_icmp .ge 21, 3) := by decide +kernel
theorem dX7_bring_10 : decode cX7_bring 10 = .ok (.aload_n 2, 1) := by decide +kernel
theorem dX7_bring_11 : decode cX7_bring 11 = .ok (.iload_n 3, 1) := by decide +kernel
theorem dX7_bring_12 : decode cX7_bring 12 = .ok (.iload 5, 2) := by decide +kernel
theorem dX7_bring_14 : decode cX7_bring 14 = .ok (.iadd, 1) := by decide +kernel
theorem dX7_bring_15 : decode cX7_bring 15 = .ok (.aload_n 0, 1) := by decide +kernel
theorem dX7_bring_16 : decode cX7_bring 16 = .ok (.iload_n 1, 1) := by decide +kernel
theorem dX7_bring_17 : decode cX7_bring 17 = .ok (.iload 5, 2) := by decide +kernel
theorem dX7_bring_19 : decode cX7_bring 19 = .ok (.iadd, 1) := by decide +kernel
theorem dX7_bring_20 : decode cX7_bring 20 = .ok (.iaload, 1) := by decide +kernel
theorem dX7_bring_21 : decode cX7_bring 21 = .ok (.iastore, 1) := by decide +kernel
theorem dX7_bring_22 : decode cX7_bring 22 = .ok (.iinc 5 1, 3) := by decide +kernel
theorem dX7_bring_25 : decode cX7_bring 25 = .ok (.goto (-22), 3) := by decide +kernel
theorem dX7_bring_28 : decode cX7_bring 28 = .ok (.return_, 1) := by decide +kernel
theorem dX7_bits_0 : decode cX7_bits 0 = .ok (.iconst 0, 1) := by decide +kernel
theorem dX7_bits_1 : decode cX7_bits 1 = .ok (.istore_n 1, 1) := by decide +kernel
theorem dX7_bits_2 : decode cX7_bits 2 = .ok (.iconst 0, 1) := by decide +kernel
theorem dX7_bits_3 : decode cX7_bits 3 = .ok (.istore_n 2, 1) := by decide +kernel
theorem dX7_bits_4 : decode cX7_bits 4 = .ok (.iload_n 2, 1) := by decide +kernel
theorem dX7_bits_5 : decode cX7_bits 5 = .ok (.bipush 8, 2) := by decide +kernel
theorem dX7_bits_7 : decode cX7_bits 7 = .ok (.if_icmp .ge 17, 3) := by decide +kernel
theorem dX7_bits_10 : decode cX7_bits 10 = .ok (.iload_n 1, 1) := by decide +kernel
theorem dX7_bits_11 : decode cX7_bits 11 = .ok (.iload_n 0, 1) := by decide +kernel
theorem dX7_bits_12 : decode cX7_bits 12 = .ok (.iload_n 2, 1) := by decide +kernel
theorem dX7_bits_13 : decode cX7_bits 13 = .ok (.ishr, 1) := by decide +kernel
theorem dX7_bits_14 : decode cX7_bits 14 = .ok (.iconst 1, 1) := by decide +kernel
theorem dX7_bits_15 : decode cX7_bits 15 = .ok (.iand, 1) := by decide +kernel
theorem dX7_bits_16 : decode cX7_bits 16 = .ok (.iadd, 1) := by decide +kernel
theorem dX7_bits_17 : decode cX7_bits 17 = .ok (.istore_n 1, 1) := by decide +kernel
theorem dX7_bits_18 : decode cX7_bits 18 = .ok (.iinc 2 1, 3) := by decide +kernel
theorem dX7_bits_21 : decode cX7_bits 21 = .ok (.goto (-17), 3) := by decide +kernel
theorem dX7_bits_24 : decode cX7_bits 24 = .ok (.iload_n 1, 1) := by decide +kernel
theorem dX7_bits_25 : decode cX7_bits 25 = .ok (.ireturn, 1) := by decide +kernel
theorem dX7_finds_0 : decode cX7_finds 0 = .ok (.aload_n 0, 1) := by decide +kernel
theorem dX7_finds_1 : decode cX7_finds 1 = .ok (.iload_n 1, 1) := by decide +kernel
theorem dX7_finds_2 : decode cX7_finds 2 = .ok (.putfield 65, 3) := by decide +kernel
theorem dX7_finds_5 : decode cX7_finds 5 = .ok (.ldc 69, 2) := by decide +kernel
theorem dX7_finds_7 : decode cX7_finds 7 = .ok (.iload_n 1, 1) := by decide +kernel
theorem dX7_finds_8 : decode cX7_finds 8 = .ok (.isub, 1) := by decide +kernel
theorem dX7_finds_9 : decode cX7_finds 9 = .ok (.ireturn, 1) := by decide +kernel
theorem dX7_isRow_0 : decode cX7_isRow 0 = .ok (.iload_n 1, 1) := by decide +kernel
theorem dX7_isRow_1 : decode cX7_isRow 1 = .ok (.iconst 0, 1) := by decide +kernel
theorem dX7_isRow_2 : decode cX7_isRow 2 = .ok (.bipush 7, 2) := by decide +kernel
theorem dX7_isRow_4 : decode cX7_isRow 4 = .ok (.invokestatic 70, 3) := by decide +kernel
theorem dX7_isRow_7 : decode cX7_isRow 7 = .ok (.ireturn, 1) := by decide +kernel
theorem dX7_isMarble_0 : decode cX7_isMarble 0 = .ok (.iload_n 1, 1) := by decide +kernel
theorem dX7_isMarble_1 : decode cX7_isMarble 1 = .ok (.iconst 0, 1) := by decide +kernel
theorem dX7_isMarble_2 : decode cX7_isMarble 2 = .ok (.aload_n 0, 1) := by decide +kernel
theorem dX7_isMarble_3 : decode cX7_isMarble 3 = .ok (.getfield 74, 3) := by decide +kernel
theorem dX7_isMarble_6 : decode cX7_isMarble 6 = .ok (.iconst 1, 1) := by decide +kernel
theorem dX7_isMarble_7 : decode cX7_isMarble 7 = .ok (.isub, 1) := by decide +kernel
theorem dX7_isMarble_8 : decode cX7_isMarble 8 = .ok (.invokestatic 70, 3) := by decide +kernel
theorem dX7_isMarble_11 : decode cX7_isMarble 11 = .ok (.ireturn, 1) := by decide +kernel
theorem dX7_isPiece_0 : decode cX7_isPiece 0 = .ok (.iload_n 1, 1) := by decide +kernel
theorem dX7_isPiece_1 : decode cX7_isPiece 1 = .ok (.iconst 0, 1) := by decide +kernel
theorem dX7_isPiece_2 : decode cX7_isPiece 2 = .ok (.aload_n 0, 1) := by decide +kernel
theorem dX7_isPiece_3 : decode cX7_isPiece 3 = .ok (.getfield 77, 3) := by decide +kernel
theorem dX7_isPiece_6 : decode cX7_isPiece 6 = .ok (.iconst 1, 1) := by decide +kernel
theorem dX7_isPiece_7 : decode cX7_isPiece 7 = .ok (.isub, 1) := by decide +kernel
theorem dX7_isPiece_8 : decode cX7_isPiece 8 = .ok (.invokestatic 70, 3) := by decide +kernel
theorem dX7_isPiece_11 : decode cX7_isPiece 11 = .ok (.ireturn, 1) := by decide +kernel
theorem dX7_isNone_0 : decode cX7_isNone 0 = .ok (.aload_n 0, 1) := by decide +kernel
theorem dX7_isNone_1 : decode cX7_isNone 1 = .ok (.getfield 77, 3) := by decide +kernel
theorem dX7_isNone_4 : decode cX7_isNone 4 = .ok (.ifCond .ne 7, 3) := by decide +kernel
theorem dX7_isNone_7 : decode cX7_isNone 7 = .ok (.iconst 1, 1) := by decide +kernel
theorem dX7_isNone_8 : decode cX7_isNone 8 = .ok (.goto 4, 3) := by decide +kernel
theorem dX7_isNone_11 : decode cX7_isNone 11 = .ok (.iconst 0, 1) := by decide +kernel
theorem dX7_isNone_12 : decode cX7_isNone 12 = .ok (.ireturn, 1) := by decide +kernel
theorem dX7_cut_0 : decode cX7_cut 0 = .ok (.iload_n 0, 1) := by decide +kernel
theorem dX7_cut_1 : decode cX7_cut 1 = .ok (.ifCond .ne 13, 3) := by decide +kernel
theorem dX7_cut_4 : decode cX7_cut 4 = .ok (.iload_n 1, 1) := by decide +kernel
theorem dX7_cut_5 : decode cX7_cut 5 = .ok (.bipush 24, 2) := by decide +kernel
theorem dX7_cut_7 : decode cX7_cut 7 = .ok (.ishl, 1) := by decide +kernel
theorem dX7_cut_8 : decode cX7_cut 8 = .ok (.bipush 24, 2) := by decide +kernel
theorem dX7_cut_10 : decode cX7_cut 10 = .ok (.ishr, 1) := by decide +kernel
theorem dX7_cut_11 : decode cX7_cut 11 = .ok (.goto 19, 3) := by decide +kernel
theorem dX7_cut_14 : decode cX7_cut 14 = .ok (.iload_n 0, 1) := by decide +kernel
theorem dX7_cut_15 : decode cX7_cut 15 = .ok (.iconst 1, 1) := by decide +kernel
theorem dX7_cut_16 : decode cX7_cut 16 = .ok (.if_icmp .ne 13, 3) := by decide +kernel
theorem dX7_cut_19 : decode cX7_cut 19 = .ok (.iload_n 1, 1) := by decide +kernel
theorem dX7_cut_20 : decode cX7_cut 20 = .ok (.bipush 16, 2) := by decide +kernel
theorem dX7_cut_22 : decode cX7_cut 22 = .ok (.ishl, 1) := by decide +kernel
theorem dX7_cut_23 : decode cX7_cut 23 = .ok (.bipush 16, 2) := by decide +kernel
theorem dX7_cut_25 : decode cX7_cut 25 = .ok (.ishr, 1) := by decide +kernel
theorem dX7_cut_26 : decode cX7_cut 26 = .ok (.goto 4, 3) := by decide +kernel
theorem dX7_cut_29 : decode cX7_cut 29 = .ok (.iload_n 1, 1) := by decide +kernel
theorem dX7_cut_30 : decode cX7_cut 30 = .ok (.ireturn, 1) := by decide +kernel
theorem dX7_row_0 : decode cX7_row 0 = .ok (.aload_n 0, 1) := by decide +kernel
theorem dX7_row_1 : decode cX7_row 1 = .ok (.iload_n 1, 1) := by decide +kernel
theorem dX7_row_2 : decode cX7_row 2 = .ok (.invokevirtual 80, 3) := by decide +kernel
theorem dX7_row_5 : decode cX7_row 5 = .ok (.ifCond .eq 18, 3) := by decide +kernel
theorem dX7_row_8 : decode cX7_row 8 = .ok (.iload_n 2, 1) := by decide +kernel
theorem dX7_row_9 : decode cX7_row 9 = .ok (.iconst 0, 1) := by decide +kernel
theorem dX7_row_10 : decode cX7_row 10 = .ok (.iconst 2, 1) := by decide +kernel
theorem dX7_row_11 : decode cX7_row 11 = .ok (.invokestatic 70, 3) := by decide +kernel
theorem dX7_row_14 : decode cX7_row 14 = .ok (.ifCond .eq 9, 3) := by decide +kernel
theorem dX7_row_17 : decode cX7_row 17 = .ok (.iload_n 3, 1) := by decide +kernel
theorem dX7_row_18 : decode cX7_row 18 = .ok (.bipush 40, 2) := by decide +kernel
theorem dX7_row_20 : decode cX7_row 20 = .ok (.if_icmp .le 6, 3) := by decide +kernel
theorem dX7_row_23 : decode cX7_row 23 = .ok (.ldc 84, 2) := by decide +kernel
theorem dX7_row_25 : decode cX7_row 25 = .ok (.ireturn, 1) := by decide +kernel
theorem dX7_row_26 : decode cX7_row 26 = .ok (.iload_n 3, 1) := by decide +kernel
theorem dX7_row_27 : decode cX7_row 27 = .ok (.ifCond .ge 9, 3) := by decide +kernel
theorem dX7_row_30 : decode cX7_row 30 = .ok (.aload_n 0, 1) := by decide +kernel
theorem dX7_row_31 : decode cX7_row 31 = .ok (.iconst 4, 1) := by decide +kernel
theorem dX7_row_32 : decode cX7_row 32 = .ok (.invokevirtual 85, 3) := by decide +kernel
theorem dX7_row_35 : decode cX7_row 35 = .ok (.ireturn, 1) := by decide +kernel
theorem dX7_row_36 : decode cX7_row 36 = .ok (.aload_n 0, 1) := by decide +kernel
theorem dX7_row_37 : decode cX7_row 37 = .ok (.iconst 0, 1) := by decide +kernel
theorem dX7_row_38 : decode cX7_row 38 = .ok (.putfield 65, 3) := by decide +kernel
theorem dX7_row_41 : decode cX7_row 41 = .ok (.aload_n 0, 1) := by decide +kernel
theorem dX7_row_42 : decode cX7_row 42 = .ok (.getfield 7, 3) := by decide +kernel
theorem dX7_row_45 : decode cX7_row 45 = .ok (.iload_n 1, 1) := by decide +kernel
theorem dX7_row_46 : decode cX7_row 46 = .ok (.iload_n 2, 1) := by decide +kernel
theorem dX7_row_47 : decode cX7_row 47 = .ok (.iastore, 1) := by decide +kernel
theorem dX7_row_48 : decode cX7_row 48 = .ok (.aload_n 0, 1) := by decide +kernel
theorem dX7_row_49 : decode cX7_row 49 = .ok (.getfield 13, 3) := by decide +kernel
theorem dX7_row_52 : decode cX7_row 52 = .ok (.iload_n 1, 1) := by decide +kernel
theorem dX7_row_53 : decode cX7_row 53 = .ok (.iload_n 3, 1) := by decide +kernel
theorem dX7_row_54 : decode cX7_row 54 = .ok (.iastore, 1) := by decide +kernel
theorem dX7_row_55 : decode cX7_row 55 = .ok (.iconst 0, 1) := by decide +kernel
theorem dX7_row_56 : decode cX7_row 56 = .ok (.istore 4, 2) := by decide +kernel
theorem dX7_row_58 : decode cX7_row 58 = .ok (.iload 4, 2) := by decide +kernel
theorem dX7_row_60 : decode cX7_row 60 = .ok (.iload_n 3, 1) := by decide +kernel
theorem dX7_row_61 : decode cX7_row 61 = .ok (.if_icmp .ge 22, 3) := by decide +kernel
theorem dX7_row_64 : decode cX7_row 64 = .ok (.aload_n 0, 1) := by decide +kernel
theorem dX7_row_65 : decode cX7_row 65 = .ok (.getfield 16, 3) := by decide +kernel
theorem dX7_row_68 : decode cX7_row 68 = .ok (.bipush 40, 2) := by decide +kernel
theorem dX7_row_70 : decode cX7_row 70 = .ok (.iload_n 1, 1) := by decide +kernel
theorem dX7_row_71 : decode cX7_row 71 = .ok (.imul, 1) := by decide +kernel
theorem dX7_row_72 : decode cX7_row 72 = .ok (.iload 4, 2) := by decide +kernel
theorem dX7_row_74 : decode cX7_row 74 = .ok (.iadd, 1) := by decide +kernel
theorem dX7_row_75 : decode cX7_row 75 = .ok (.iconst 0, 1) := by decide +kernel
theorem dX7_row_76 : decode cX7_row 76 = .ok (.iastore, 1) := by decide +kernel
theorem dX7_row_77 : decode cX7_row 77 = .ok (.iinc 4 1, 3) := by decide +kernel
theorem dX7_row_80 : decode cX7_row 80 = .ok (.goto (-22), 3) := by decide +kernel
theorem dX7_row_83 : decode cX7_row 83 = .ok (.iload_n 3, 1) := by decide +kernel
theorem dX7_row_84 : decode cX7_row 84 = .ok (.ireturn, 1) := by decide +kernel
theorem dX7_set_0 : decode cX7_set 0 = .ok (.aload_n 0, 1) := by decide +kernel
theorem dX7_set_1 : decode cX7_set 1 = .ok (.iload_n 1, 1) := by decide +kernel
theorem dX7_set_2 : decode cX7_set 2 = .ok (.invokevirtual 80, 3) := by decide +kernel
theorem dX7_set_5 : decode cX7_set 5 = .ok (.ifCond .ne 6, 3) := by decide +kernel
theorem dX7_set_8 : decode cX7_set 8 = .ok (.ldc 84, 2) := by decide +kernel
theorem dX7_set_10 : decode cX7_set 10 = .ok (.ireturn, 1) := by decide +kernel
theorem dX7_set_11 : decode cX7_set 11 = .ok (.aload_n 0, 1) := by decide +kernel
theorem dX7_set_12 : decode cX7_set 12 = .ok (.getfield 13, 3) := by decide +kernel
theorem dX7_set_15 : decode cX7_set 15 = .ok (.iload_n 1, 1) := by decide +kernel
theorem dX7_set_16 : decode cX7_set 16 = .ok (.iaload, 1) := by decide +kernel
theorem dX7_set_17 : decode cX7_set 17 = .ok (.ifCond .ge 9, 3) := by decide +kernel
theorem dX7_set_20 : decode cX7_set 20 = .ok (.aload_n 0, 1) := by decide +kernel
theorem dX7_set_21 : decode cX7_set 21 = .ok (.iconst 1, 1) := by decide +kernel
theorem dX7_set_22 : decode cX7_set 22 = .ok (.invokevirtual 85, 3) := by decide +kernel
theorem dX7_set_25 : decode cX7_set 25 = .ok (.ireturn, 1) := by decide +kernel
theorem dX7_set_26 : decode cX7_set 26 = .ok (.iload_n 2, 1) := by decide +kernel
theorem dX7_set_27 : decode cX7_set 27 = .ok (.iconst 0, 1) := by decide +kernel
theorem dX7_set_28 : decode cX7_set 28 = .ok (.aload_n 0, 1) := by decide +kernel
theorem dX7_set_29 : decode cX7_set 29 = .ok (.getfield 13, 3) := by decide +kernel
theorem dX7_set_32 : decode cX7_set 32 = .ok (.iload_n 1, 1) := by decide +kernel
theorem dX7_set_33 : decode cX7_set 33 = .ok (.iaload, 1) := by decide +kernel
theorem dX7_set_34 : decode cX7_set 34 = .ok (.iconst 1, 1) := by decide +kernel
theorem dX7_set_35 : decode cX7_set 35 = .ok (.isub, 1) := by decide +kernel
theorem dX7_set_36 : decode cX7_set 36 = .ok (.invokestatic 70, 3) := by decide +kernel
theorem dX7_set_39 : decode cX7_set 39 = .ok (.ifCond .ne 9, 3) := by decide +kernel
theorem dX7_set_42 : decode cX7_set 42 = .ok (.aload_n 0, 1) := by decide +kernel
theorem dX7_set_43 : decode cX7_set 43 = .ok (.iconst 2, 1) := by decide +kernel
theorem dX7_set_44 : decode cX7_set 44 = .ok (.invokevirtual 85, 3) := by decide +kernel
theorem dX7_set_47 : decode cX7_set 47 = .ok (.ireturn, 1) := by decide +kernel
theorem dX7_set_48 : decode cX7_set 48 = .ok (.aload_n 0, 1) := by decide +kernel
theorem dX7_set_49 : decode cX7_set 49 = .ok (.iconst 0, 1) := by decide +kernel
theorem dX7_set_50 : decode cX7_set 50 = .ok (.putfield 65, 3) := by decide +kernel
theorem dX7_set_53 : decode cX7_set 53 = .ok (.aload_n 0, 1) := by decide +kernel
theorem dX7_set_54 : decode cX7_set 54 = .ok (.getfield 16, 3) := by decide +kernel
theorem dX7_set_57 : decode cX7_set 57 = .ok (.bipush 40, 2) := by decide +kernel
theorem dX7_set_59 : decode cX7_set 59 = .ok (.iload_n 1, 1) := by decide +kernel
theorem dX7_set_60 : decode cX7_set 60 = .ok (.imul, 1) := by decide +kernel
theorem dX7_set_61 : decode cX7_set 61 = .ok (.iload_n 2, 1) := by decide +kernel
theorem dX7_set_62 : decode cX7_set 62 = .ok (.iadd, 1) := by decide +kernel
theorem dX7_set_63 : decode cX7_set 63 = .ok (.aload_n 0, 1) := by decide +kernel
theorem dX7_set_64 : decode cX7_set 64 = .ok (.getfield 7, 3) := by decide +kernel
theorem dX7_set_67 : decode cX7_set 67 = .ok (.iload_n 1, 1) := by decide +kernel
theorem dX7_set_68 : decode cX7_set 68 = .ok (.iaload, 1) := by decide +kernel
theorem dX7_set_69 : decode cX7_set 69 = .ok (.iload_n 3, 1) := by decide +kernel
theorem dX7_set_70 : decode cX7_set 70 = .ok (.invokestatic 89, 3) := by decide +kernel
theorem dX7_set_73 : decode cX7_set 73 = .ok (.iastore, 1) := by decide +kernel
theorem dX7_set_74 : decode cX7_set 74 = .ok (.aload_n 0, 1) := by decide +kernel
theorem dX7_set_75 : decode cX7_set 75 = .ok (.getfield 16, 3) := by decide +kernel
theorem dX7_set_78 : decode cX7_set 78 = .ok (.bipush 40, 2) := by decide +kernel
theorem dX7_set_80 : decode cX7_set 80 = .ok (.iload_n 1, 1) := by decide +kernel
theorem dX7_set_81 : decode cX7_set 81 = .ok (.imul, 1) := by decide +kernel
theorem dX7_set_82 : decode cX7_set 82 = .ok (.iload_n 2, 1) := by decide +kernel
theorem dX7_set_83 : decode cX7_set 83 = .ok (.iadd, 1) := by decide +kernel
theorem dX7_set_84 : decode cX7_set 84 = .ok (.iaload, 1) := by decide +kernel
theorem dX7_set_85 : decode cX7_set 85 = .ok (.ireturn, 1) := by decide +kernel
theorem dX7_isPart_0 : decode cX7_isPart 0 = .ok (.iload_n 0, 1) := by decide +kernel
theorem dX7_isPart_1 : decode cX7_isPart 1 = .ok (.ifCond .lt 23, 3) := by decide +kernel
theorem dX7_isPart_4 : decode cX7_isPart 4 = .ok (.iload_n 1, 1) := by decide +kernel
theorem dX7_isPart_5 : decode cX7_isPart 5 = .ok (.ifCond .lt 19, 3) := by decide +kernel
theorem dX7_isPart_8 : decode cX7_isPart 8 = .ok (.iload_n 1, 1) := by decide +kernel
theorem dX7_isPart_9 : decode cX7_isPart 9 = .ok (.iload_n 2, 1) := by decide +kernel
theorem dX7_isPart_10 : decode cX7_isPart 10 = .ok (.if_icmp .gt 14, 3) := by decide +kernel
theorem dX7_isPart_13 : decode cX7_isPart 13 = .ok (.iload_n 0, 1) := by decide +kernel
theorem dX7_isPart_14 : decode cX7_isPart 14 = .ok (.iload_n 2, 1) := by decide +kernel
theorem dX7_isPart_15 : decode cX7_isPart 15 = .ok (.iload_n 1, 1) := by decide +kernel
theorem dX7_isPart_16 : decode cX7_isPart 16 = .ok (.isub, 1) := by decide +kernel
theorem dX7_isPart_17 : decode cX7_isPart 17 = .ok (.if_icmp .gt 7, 3) := by decide +kernel
theorem dX7_isPart_20 : decode cX7_isPart 20 = .ok (.iconst 1, 1) := by decide +kernel
theorem dX7_isPart_21 : decode cX7_isPart 21 = .ok (.goto 4, 3) := by decide +kernel
theorem dX7_isPart_24 : decode cX7_isPart 24 = .ok (.iconst 0, 1) := by decide +kernel
theorem dX7_isPart_25 : decode cX7_isPart 25 = .ok (.ireturn, 1) := by decide +kernel
theorem dX7_copy_0 : decode cX7_copy 0 = .ok (.aload_n 0, 1) := by decide +kernel
theorem dX7_copy_1 : decode cX7_copy 1 = .ok (.iload_n 1, 1) := by decide +kernel
theorem dX7_copy_2 : decode cX7_copy 2 = .ok (.invokevirtual 80, 3) := by decide +kernel
theorem dX7_copy_5 : decode cX7_copy 5 = .ok (.ifCond .eq 11, 3) := by decide +kernel
theorem dX7_copy_8 : decode cX7_copy 8 = .ok (.aload_n 0, 1) := by decide +kernel
theorem dX7_copy_9 : decode cX7_copy 9 = .ok (.iload_n 3, 1) := by decide +kernel
theorem dX7_copy_10 : decode cX7_copy 10 = .ok (.invokevirtual 80, 3) := by decide +kernel
theorem dX7_copy_13 : decode cX7_copy 13 = .ok (.ifCond .ne 6, 3) := by decide +kernel
theorem dX7_copy_16 : decode cX7_copy 16 = .ok (.ldc 84, 2) := by decide +kernel
theorem dX7_copy_18 : decode cX7_copy 18 = .ok (.ireturn, 1) := by decide +kernel
theorem dX7_copy_19 : decode cX7_copy 19 = .ok (.aload_n 0, 1) := by decide +kernel
theorem dX7_copy_20 : decode cX7_copy 20 = .ok (.getfield 13, 3) := by decide +kernel
theorem dX7_copy_23 : decode cX7_copy 23 = .ok (.iload_n 1, 1) := by decide +kernel
theorem dX7_copy_24 : decode cX7_copy 24 = .ok (.iaload, 1) := by decide +kernel
theorem dX7_copy_25 : decode cX7_copy 25 = .ok (.ifCond .lt 12, 3) := by decide +kernel
theorem dX7_copy_28 : decode cX7_copy 28 = .ok (.aload_n 0, 1) := by decide +kernel
theorem dX7_copy_29 : decode cX7_copy 29 = .ok (.getfield 13, 3) := by decide +kernel
theorem dX7_copy_32 : decode cX7_copy 32 = .ok (.iload_n 3, 1) := by decide +kernel
theorem dX7_copy_33 : decode cX7_copy 33 = .ok (.iaload, 1) := by decide +kernel
theorem dX7_copy_34 : decode cX7_copy 34 = .ok (.ifCond .ge 9, 3) := by decide +kernel
theorem dX7_copy_37 : decode cX7_copy 37 = .ok (.aload_n 0, 1) := by decide +kernel
theorem dX7_copy_38 : decode cX7_copy 38 = .ok (.iconst 1, 1) := by decide +kernel
theorem dX7_copy_39 : decode cX7_copy 39 = .ok (.invokevirtual 85, 3) := by decide +kernel
theorem dX7_copy_42 : decode cX7_copy 42 = .ok (.ireturn, 1) := by decide +kernel
theorem dX7_copy_43 : decode cX7_copy 43 = .ok (.aload_n 0, 1) := by decide +kernel
theorem dX7_copy_44 : decode cX7_copy 44 = .ok (.getfield 7, 3) := by decide +kernel
theorem dX7_copy_47 : decode cX7_copy 47 = .ok (.iload_n 1, 1) := by decide +kernel
theorem dX7_copy_48 : decode cX7_copy 48 = .ok (.iaload, 1) := by decide +kernel
theorem dX7_copy_49 : decode cX7_copy 49 = .ok (.aload_n 0, 1) := by decide +kernel
theorem dX7_copy_50 : decode cX7_copy 50 = .ok (.getfield 7, 3) := by decide +kernel
theorem dX7_copy_53 : decode cX7_copy 53 = .ok (.iload_n 3, 1) := by decide +kernel
theorem dX7_copy_54 : decode cX7_copy 54 = .ok (.iaload, 1) := by decide +kernel
theorem dX7_copy_55 : decode cX7_copy 55 = .ok (.if_icmp .eq 9, 3) := by decide +kernel
theorem dX7_copy_58 : decode cX7_copy 58 = .ok (.aload_n 0, 1) := by decide +kernel
theorem dX7_copy_59 : decode cX7_copy 59 = .ok (.iconst 5, 1) := by decide +kernel
theorem dX7_copy_60 : decode cX7_copy 60 = .ok (.invokevirtual 85, 3) := by decide +kernel
theorem dX7_copy_63 : decode cX7_copy 63 = .ok (.ireturn, 1) := by decide +kernel
theorem dX7_copy_64 : decode cX7_copy 64 = .ok (.iload_n 2, 1) := by decide +kernel
theorem dX7_copy_65 : decode cX7_copy 65 = .ok (.iload 5, 2) := by decide +kernel
theorem dX7_copy_67 : decode cX7_copy 67 = .ok (.aload_n 0, 1) := by decide +kernel
theorem dX7_copy_68 : decode cX7_copy 68 = .ok (.getfield 13, 3) := by decide +kernel
theorem dX7_copy_71 : decode cX7_copy 71 = .ok (.iload_n 1, 1) := by decide +kernel
theorem dX7_copy_72 : decode cX7_copy 72 = .ok (.iaload, 1) := by decide +kernel
theorem dX7_copy_73 : decode cX7_copy 73 = .ok (.invokestatic 93, 3) := by decide +kernel
theorem dX7_copy_76 : decode cX7_copy 76 = .ok (.ifCond .eq 19, 3) := by decide +kernel
theorem dX7_copy_79 : decode cX7_copy 79 = .ok (.iload 4, 2) := by decide +kernel
theorem dX7_copy_81 : decode cX7_copy 81 = .ok (.iload 5, 2) := by decide +kernel
theorem dX7_copy_83 : decode cX7_copy 83 = .ok (.aload_n 0, 1) := by decide +kernel
theorem dX7_copy_84 : decode cX7_copy 84 = .ok (.getfield 13, 3) := by decide +kernel
theorem dX7_copy_87 : decode cX7_copy 87 = .ok (.iload_n 3, 1) := by decide +kernel
theorem dX7_copy_88 : decode cX7_copy 88 = .ok (.iaload, 1) := by decide +kernel
theorem dX7_copy_89 : decode cX7_copy 89 = .ok (.invokestatic 93, 3) := by decide +kernel
theorem dX7_copy_92 : decode cX7_copy 92 = .ok (.ifCond .ne 9, 3) := by decide +kernel
theorem dX7_copy_95 : decode cX7_copy 95 = .ok (.aload_n 0, 1) := by decide +kernel
theorem dX7_copy_96 : decode cX7_copy 96 = .ok (.iconst 2, 1) := by decide +kernel
theorem dX7_copy_97 : decode cX7_copy 97 = .ok (.invokevirtual 85, 3) := by decide +kernel
theorem dX7_copy_100 : decode cX7_copy 100 = .ok (.ireturn, 1) := by decide +kernel
theorem dX7_copy_101 : decode cX7_copy 101 = .ok (.aload_n 0, 1) := by decide +kernel
theorem dX7_copy_102 : decode cX7_copy 102 = .ok (.iconst 0, 1) := by decide +kernel
theorem dX7_copy_103 : decode cX7_copy 103 = .ok (.putfield 65, 3) := by decide +kernel
theorem dX7_copy_106 : decode cX7_copy 106 = .ok (.iload 4, 2) := by decide +kernel
theorem dX7_copy_108 : decode cX7_copy 108 = .ok (.iload_n 2, 1) := by decide +kernel
theorem dX7_copy_109 : decode cX7_copy 109 = .ok (.if_icmp .le 7, 3) := by decide +kernel
theorem dX7_copy_112 : decode cX7_copy 112 = .ok (.iconst 1, 1) := by decide +kernel
theorem dX7_copy_113 : decode cX7_copy 113 = .ok (.goto 4, 3) := by decide +kernel
theorem dX7_copy_116 : decode cX7_copy 116 = .ok (.iconst 0, 1) := by decide +kernel
theorem dX7_copy_117 : decode cX7_copy 117 = .ok (.istore 6, 2) := by decide +kernel
theorem dX7_copy_119 : decode cX7_copy 119 = .ok (.iconst 0, 1) := by decide +kernel
theorem dX7_copy_120 : decode cX7_copy 120 = .ok (.istore 7, 2) := by decide +kernel
theorem dX7_copy_122 : decode cX7_copy 122 = .ok (.iload 7, 2) := by decide +kernel
theorem dX7_copy_124 : decode cX7_copy 124 = .ok (.iload 5, 2) := by decide +kernel
theorem dX7_copy_126 : decode cX7_copy 126 = .ok (.if_icmp .ge 57, 3) := by decide +kernel
theorem dX7_copy_129 : decode cX7_copy 129 = .ok (.iload 6, 2) := by decide +kernel
theorem dX7_copy_131 : decode cX7_copy 131 = .ok (.ifCond .eq 13, 3) := by decide +kernel
theorem dX7_copy_134 : decode cX7_copy 134 = .ok (.iload 5, 2) := by decide +kernel
theorem dX7_copy_136 : decode cX7_copy 136 = .ok (.iconst 1, 1) := by decide +kernel
theorem dX7_copy_137 : decode cX7_copy 137 = .ok (.isub, 1) := by decide +kernel
theorem dX7_copy_138 : decode cX7_copy 138 = .ok (.iload 7, 2) := by decide +kernel
theorem dX7_copy_140 : decode cX7_copy 140 = .ok (.isub, 1) := by decide +kernel
theorem dX7_copy_141 : decode cX7_copy 141 = .ok (.goto 5, 3) := by decide +kernel
theorem dX7_copy_144 : decode cX7_copy 144 = .ok (.iload 7, 2) := by decide +kernel
theorem dX7_copy_146 : decode cX7_copy 146 = .ok (.istore 8, 2) := by decide +kernel
theorem dX7_copy_148 : decode cX7_copy 148 = .ok (.aload_n 0, 1) := by decide +kernel
theorem dX7_copy_149 : decode cX7_copy 149 = .ok (.getfield 16, 3) := by decide +kernel
theorem dX7_copy_152 : decode cX7_copy 152 = .ok (.bipush 40, 2) := by decide +kernel
theorem dX7_copy_154 : decode cX7_copy 154 = .ok (.iload_n 3, 1) := by decide +kernel
theorem dX7_copy_155 : decode cX7_copy 155 = .ok (.imul, 1) := by decide +kernel
theorem dX7_copy_156 : decode cX7_copy 156 = .ok (.iload 4, 2) := by decide +kernel
theorem dX7_copy_158 : decode cX7_copy 158 = .ok (.iadd, 1) := by decide +kernel
theorem dX7_copy_159 : decode cX7_copy 159 = .ok (.iload 8, 2) := by decide +kernel
theorem dX7_copy_161 : decode cX7_copy 161 = .ok (.iadd, 1) := by decide +kernel
theorem dX7_copy_162 : decode cX7_copy 162 = .ok (.aload_n 0, 1) := by decide +kernel
theorem dX7_copy_163 : decode cX7_copy 163 = .ok (.getfield 16, 3) := by decide +kernel
theorem dX7_copy_166 : decode cX7_copy 166 = .ok (.bipush 40, 2) := by decide +kernel
theorem dX7_copy_168 : decode cX7_copy 168 = .ok (.iload_n 1, 1) := by decide +kernel
theorem dX7_copy_169 : decode cX7_copy 169 = .ok (.imul, 1) := by decide +kernel
theorem dX7_copy_170 : decode cX7_copy 170 = .ok (.iload_n 2, 1) := by decide +kernel
theorem dX7_copy_171 : decode cX7_copy 171 = .ok (.iadd, 1) := by decide +kernel
theorem dX7_copy_172 : decode cX7_copy 172 = .ok (.iload 8, 2) := by decide +kernel
theorem dX7_copy_174 : decode cX7_copy 174 = .ok (.iadd, 1) := by decide +kernel
theorem dX7_copy_175 : decode cX7_copy 175 = .ok (.iaload, 1) := by decide +kernel
theorem dX7_copy_176 : decode cX7_copy 176 = .ok (.iastore, 1) := by decide +kernel
theorem dX7_copy_177 : decode cX7_copy 177 = .ok (.iinc 7 1, 3) := by decide +kernel
theorem dX7_copy_180 : decode cX7_copy 180 = .ok (.goto (-58), 3) := by decide +kernel
theorem dX7_copy_183 : decode cX7_copy 183 = .ok (.iload 5, 2) := by decide +kernel
theorem dX7_copy_185 : decode cX7_copy 185 = .ok (.ireturn, 1) := by decide +kernel
theorem dX7_drop_0 : decode cX7_drop 0 = .ok (.aload_n 0, 1) := by decide +kernel
theorem dX7_drop_1 : decode cX7_drop 1 = .ok (.iload_n 1, 1) := by decide +kernel
theorem dX7_drop_2 : decode cX7_drop 2 = .ok (.invokevirtual 80, 3) := by decide +kernel
theorem dX7_drop_5 : decode cX7_drop 5 = .ok (.ifCond .ne 6, 3) := by decide +kernel
theorem dX7_drop_8 : decode cX7_drop 8 = .ok (.ldc 84, 2) := by decide +kernel
theorem dX7_drop_10 : decode cX7_drop 10 = .ok (.ireturn, 1) := by decide +kernel
theorem dX7_drop_11 : decode cX7_drop 11 = .ok (.aload_n 0, 1) := by decide +kernel
theorem dX7_drop_12 : decode cX7_drop 12 = .ok (.getfield 13, 3) := by decide +kernel
theorem dX7_drop_15 : decode cX7_drop 15 = .ok (.iload_n 1, 1) := by decide +kernel
theorem dX7_drop_16 : decode cX7_drop 16 = .ok (.iaload, 1) := by decide +kernel
theorem dX7_drop_17 : decode cX7_drop 17 = .ok (.ifCond .ge 9, 3) := by decide +kernel
theorem dX7_drop_20 : decode cX7_drop 20 = .ok (.aload_n 0, 1) := by decide +kernel
theorem dX7_drop_21 : decode cX7_drop 21 = .ok (.iconst 1, 1) := by decide +kernel
theorem dX7_drop_22 : decode cX7_drop 22 = .ok (.invokevirtual 85, 3) := by decide +kernel
theorem dX7_drop_25 : decode cX7_drop 25 = .ok (.ireturn, 1) := by decide +kernel
theorem dX7_drop_26 : decode cX7_drop 26 = .ok (.aload_n 0, 1) := by decide +kernel
theorem dX7_drop_27 : decode cX7_drop 27 = .ok (.iconst 0, 1) := by decide +kernel
theorem dX7_drop_28 : decode cX7_drop 28 = .ok (.putfield 65, 3) := by decide +kernel
theorem dX7_drop_31 : decode cX7_drop 31 = .ok (.aload_n 0, 1) := by decide +kernel
theorem dX7_drop_32 : decode cX7_drop 32 = .ok (.getfield 13, 3) := by decide +kernel
theorem dX7_drop_35 : decode cX7_drop 35 = .ok (.iload_n 1, 1) := by decide +kernel
theorem dX7_drop_36 : decode cX7_drop 36 = .ok (.iaload, 1) := by decide +kernel
theorem dX7_drop_37 : decode cX7_drop 37 = .ok (.istore_n 2, 1) := by decide +kernel
theorem dX7_drop_38 : decode cX7_drop 38 = .ok (.aload_n 0, 1) := by decide +kernel
theorem dX7_drop_39 : decode cX7_drop 39 = .ok (.getfield 13, 3) := by decide +kernel
theorem dX7_drop_42 : decode cX7_drop 42 = .ok (.iload_n 1, 1) := by decide +kernel
theorem dX7_drop_43 : decode cX7_drop 43 = .ok (.iconst (-1), 1) := by decide +kernel
theorem dX7_drop_44 : decode cX7_drop 44 = .ok (.iastore, 1) := by decide +kernel
theorem dX7_drop_45 : decode cX7_drop 45 = .ok (.iload_n 2, 1) := by decide +kernel
theorem dX7_drop_46 : decode cX7_drop 46 = .ok (.ireturn, 1) := by decide +kernel
theorem dX7_feed_0 : decode cX7_feed 0 = .ok (.iload_n 1, 1) := by decide +kernel
theorem dX7_feed_1 : decode cX7_feed 1 = .ok (.iconst 0, 1) := by decide +kernel
theorem dX7_feed_2 : decode cX7_feed 2 = .ok (.sipush 255, 3) := by decide +kernel
theorem dX7_feed_5 : decode cX7_feed 5 = .ok (.invokestatic 70, 3) := by decide +kernel
theorem dX7_feed_8 : decode cX7_feed 8 = .ok (.ifCond .ne 6, 3) := by decide +kernel
theorem dX7_feed_11 : decode cX7_feed 11 = .ok (.ldc 84, 2) := by decide +kernel
theorem dX7_feed_13 : decode cX7_feed 13 = .ok (.ireturn, 1) := by decide +kernel
theorem dX7_feed_14 : decode cX7_feed 14 = .ok (.aload_n 0, 1) := by decide +kernel
theorem dX7_feed_15 : decode cX7_feed 15 = .ok (.getfield 96, 3) := by decide +kernel
theorem dX7_feed_18 : decode cX7_feed 18 = .ok (.bipush 110, 2) := by decide +kernel
theorem dX7_feed_20 : decode cX7_feed 20 = .ok (.if_icmp .ne 6, 3) := by decide +kernel
theorem dX7_feed_23 : decode cX7_feed 23 = .ok (.ldc 99, 2) := by decide +kernel
theorem dX7_feed_25 : decode cX7_feed 25 = .ok (.ireturn, 1) := by decide +kernel
theorem dX7_feed_26 : decode cX7_feed 26 = .ok (.aload_n 0, 1) := by decide +kernel
theorem dX7_feed_27 : decode cX7_feed 27 = .ok (.getfield 19, 3) := by decide +kernel
theorem dX7_feed_30 : decode cX7_feed 30 = .ok (.aload_n 0, 1) := by decide +kernel
theorem dX7_feed_31 : decode cX7_feed 31 = .ok (.getfield 96, 3) := by decide +kernel
theorem dX7_feed_34 : decode cX7_feed 34 = .ok (.iload_n 1, 1) := by decide +kernel
theorem dX7_feed_35 : decode cX7_feed 35 = .ok (.iastore, 1) := by decide +kernel
theorem dX7_feed_36 : decode cX7_feed 36 = .ok (.aload_n 0, 1) := by decide +kernel
theorem dX7_feed_37 : decode cX7_feed 37 = .ok (.dup, 1) := by decide +kernel
theorem dX7_feed_38 : decode cX7_feed 38 = .ok (.getfield 96, 3) := by decide +kernel
theorem dX7_feed_41 : decode cX7_feed 41 = .ok (.iconst 1, 1) := by decide +kernel
theorem dX7_feed_42 : decode cX7_feed 42 = .ok (.iadd, 1) := by decide +kernel
theorem dX7_feed_43 : decode cX7_feed 43 = .ok (.putfield 96, 3) := by decide +kernel
theorem dX7_feed_46 : decode cX7_feed 46 = .ok (.aload_n 0, 1) := by decide +kernel
theorem dX7_feed_47 : decode cX7_feed 47 = .ok (.getfield 96, 3) := by decide +kernel
theorem dX7_feed_50 : decode cX7_feed 50 = .ok (.ireturn, 1) := by decide +kernel
theorem dX7_here_0 : decode cX7_here 0 = .ok (.aload_n 0, 1) := by decide +kernel
theorem dX7_here_1 : decode cX7_here 1 = .ok (.getfield 100, 3) := by decide +kernel
theorem dX7_here_4 : decode cX7_here 4 = .ok (.aload_n 0, 1) := by decide +kernel
theorem dX7_here_5 : decode cX7_here 5 = .ok (.getfield 96, 3) := by decide +kernel
theorem dX7_here_8 : decode cX7_here 8 = .ok (.if_icmp .ge 15, 3) := by decide +kernel
theorem dX7_here_11 : decode cX7_here 11 = .ok (.aload_n 0, 1) := by decide +kernel
theorem dX7_here_12 : decode cX7_here 12 = .ok (.getfield 19, 3) := by decide +kernel
theorem dX7_here_15 : decode cX7_here 15 = .ok (.aload_n 0, 1) := by decide +kernel
theorem dX7_here_16 : decode cX7_here 16 = .ok (.getfield 100, 3) := by decide +kernel
theorem dX7_here_19 : decode cX7_here 19 = .ok (.iaload, 1) := by decide +kernel
theorem dX7_here_20 : decode cX7_here 20 = .ok (.goto 4, 3) := by decide +kernel
theorem dX7_here_23 : decode cX7_here 23 = .ok (.iconst (-1), 1) := by decide +kernel
theorem dX7_here_24 : decode cX7_here 24 = .ok (.ireturn, 1) := by decide +kernel
theorem dX7_fails_0 : decode cX7_fails 0 = .ok (.aload_n 0, 1) := by decide +kernel
theorem dX7_fails_1 : decode cX7_fails 1 = .ok (.getfield 103, 3) := by decide +kernel
theorem dX7_fails_4 : decode cX7_fails 4 = .ok (.ifCond .ne 16, 3) := by decide +kernel
theorem dX7_fails_7 : decode cX7_fails 7 = .ok (.aload_n 0, 1) := by decide +kernel
theorem dX7_fails_8 : decode cX7_fails 8 = .ok (.iload_n 1, 1) := by decide +kernel
theorem dX7_fails_9 : decode cX7_fails 9 = .ok (.putfield 103, 3) := by decide +kernel
theorem dX7_fails_12 : decode cX7_fails 12 = .ok (.aload_n 0, 1) := by decide +kernel
theorem dX7_fails_13 : decode cX7_fails 13 = .ok (.aload_n 0, 1) := by decide +kernel
theorem dX7_fails_14 : decode cX7_fails 14 = .ok (.getfield 100, 3) := by decide +kernel
theorem dX7_fails_17 : decode cX7_fails 17 = .ok (.putfield 106, 3) := by decide +kernel
theorem dX7_fails_20 : decode cX7_fails 20 = .ok (.return_, 1) := by decide +kernel
theorem dX7_sign_0 : decode cX7_sign 0 = .ok (.aload_n 0, 1) := by decide +kernel
theorem dX7_sign_1 : decode cX7_sign 1 = .ok (.getfield 103, 3) := by decide +kernel
theorem dX7_sign_4 : decode cX7_sign 4 = .ok (.ifCond .ne 24, 3) := by decide +kernel
theorem dX7_sign_7 : decode cX7_sign 7 = .ok (.aload_n 0, 1) := by decide +kernel
theorem dX7_sign_8 : decode cX7_sign 8 = .ok (.invokevirtual 109, 3) := by decide +kernel
theorem dX7_sign_11 : decode cX7_sign 11 = .ok (.iload_n 1, 1) := by decide +kernel
theorem dX7_sign_12 : decode cX7_sign 12 = .ok (.if_icmp .ne 16, 3) := by decide +kernel
theorem dX7_sign_15 : decode cX7_sign 15 = .ok (.aload_n 0, 1) := by decide +kernel
theorem dX7_sign_16 : decode cX7_sign 16 = .ok (.dup, 1) := by decide +kernel
theorem dX7_sign_17 : decode cX7_sign 17 = .ok (.getfield 100, 3) := by decide +kernel
theorem dX7_sign_20 : decode cX7_sign 20 = .ok (.iconst 1, 1) := by decide +kernel
theorem dX7_sign_21 : decode cX7_sign 21 = .ok (.iadd, 1) := by decide +kernel
theorem dX7_sign_22 : decode cX7_sign 22 = .ok (.putfield 100, 3) := by decide +kernel
theorem dX7_sign_25 : decode cX7_sign 25 = .ok (.goto 8, 3) := by decide +kernel
theorem dX7_sign_28 : decode cX7_sign 28 = .ok (.aload_n 0, 1) := by decide +kernel
theorem dX7_sign_29 : decode cX7_sign 29 = .ok (.iconst 1, 1) := by decide +kernel
theorem dX7_sign_30 : decode cX7_sign 30 = .ok (.invokevirtual 113, 3) := by decide +kernel
theorem dX7_sign_33 : decode cX7_sign 33 = .ok (.return_, 1) := by decide +kernel
theorem dX7_figures_0 : decode cX7_figures 0 = .ok (.iconst 0, 1) := by decide +kernel
theorem dX7_figures_1 : decode cX7_figures 1 = .ok (.istore_n 1, 1) := by decide +kernel
theorem dX7_figures_2 : decode cX7_figures 2 = .ok (.aload_n 0, 1) := by decide +kernel
theorem dX7_figures_3 : decode cX7_figures 3 = .ok (.getfield 100, 3) := by decide +kernel
theorem dX7_figures_6 : decode cX7_figures 6 = .ok (.iload_n 1, 1) := by decide +kernel
theorem dX7_figures_7 : decode cX7_figures 7 = .ok (.iadd, 1) := by decide +kernel
theorem dX7_figures_8 : decode cX7_figures 8 = .ok (.aload_n 0, 1) := by decide +kernel
theorem dX7_figures_9 : decode cX7_figures 9 = .ok (.getfield 96, 3) := by decide +kernel
theorem dX7_figures_12 : decode cX7_figures 12 = .ok (.if_icmp .ge 30, 3) := by decide +kernel
theorem dX7_figures_15 : decode cX7_figures 15 = .ok (.aload_n 0, 1) := by decide +kernel
theorem dX7_figures_16 : decode cX7_figures 16 = .ok (.getfield 19, 3) := by decide +kernel
theorem dX7_figures_19 : decode cX7_figures 19 = .ok (.aload_n 0, 1) := by decide +kernel
theorem dX7_figures_20 : decode cX7_figures 20 = .ok (.getfield 100, 3) := by decide +kernel
theorem dX7_figures_23 : decode cX7_figures 23 = .ok (.iload_n 1, 1) := by decide +kernel
theorem dX7_figures_24 : decode cX7_figures 24 = .ok (.iadd, 1) := by decide +kernel
theorem dX7_figures_25 : decode cX7_figures 25 = .ok (.iaload, 1) := by decide +kernel
theorem dX7_figures_26 : decode cX7_figures 26 = .ok (.bipush 48, 2) := by decide +kernel
theorem dX7_figures_28 : decode cX7_figures 28 = .ok (.bipush 57, 2) := by decide +kernel
theorem dX7_figures_30 : decode cX7_figures 30 = .ok (.invokestatic 70, 3) := by decide +kernel
theorem dX7_figures_33 : decode cX7_figures 33 = .ok (.ifCond .eq 9, 3) := by decide +kernel
theorem dX7_figures_36 : decode cX7_figures 36 = .ok (.iinc 1 1, 3) := by decide +kernel
theorem dX7_figures_39 : decode cX7_figures 39 = .ok (.goto (-37), 3) := by decide +kernel
theorem dX7_figures_42 : decode cX7_figures 42 = .ok (.iload_n 1, 1) := by decide +kernel
theorem dX7_figures_43 : decode cX7_figures 43 = .ok (.ireturn, 1) := by decide +kernel
theorem dX7_number_0 : decode cX7_number 0 = .ok (.aload_n 0, 1) := by decide +kernel
theorem dX7_number_1 : decode cX7_number 1 = .ok (.invokevirtual 117, 3) := by decide +kernel
theorem dX7_number_4 : decode cX7_number 4 = .ok (.istore_n 3, 1) := by decide +kernel
theorem dX7_number_5 : decode cX7_number 5 = .ok (.aload_n 0, 1) := by decide +kernel
theorem dX7_number_6 : decode cX7_number 6 = .ok (.getfield 103, 3) := by decide +kernel
theorem dX7_number_9 : decode cX7_number 9 = .ok (.ifCond .ne 12, 3) := by decide +kernel
theorem dX7_number_12 : decode cX7_number 12 = .ok (.iload_n 3, 1) := by decide +kernel
theorem dX7_number_13 : decode cX7_number 13 = .ok (.iconst 1, 1) := by decide +kernel
theorem dX7_number_14 : decode cX7_number 14 = .ok (.iconst 2, 1) := by decide +kernel
theorem dX7_number_15 : decode cX7_number 15 = .ok (.invokestatic 70, 3) := by decide +kernel
theorem dX7_number_18 : decode cX7_number 18 = .ok (.ifCond .ne 10, 3) := by decide +kernel
theorem dX7_number_21 : decode cX7_number 21 = .ok (.aload_n 0, 1) := by decide +kernel
theorem dX7_number_22 : decode cX7_number 22 = .ok (.iconst 1, 1) := by decide +kernel
theorem dX7_number_23 : decode cX7_number 23 = .ok (.invokevirtual 113, 3) := by decide +kernel
theorem dX7_number_26 : decode cX7_number 26 = .ok (.iconst 0, 1) := by decide +kernel
theorem dX7_number_27 : decode cX7_number 27 = .ok (.ireturn, 1) := by decide +kernel
theorem dX7_number_28 : decode cX7_number 28 = .ok (.iload_n 3, 1) := by decide +kernel
theorem dX7_number_29 : decode cX7_number 29 = .ok (.iconst 1, 1) := by decide +kernel
theorem dX7_number_30 : decode cX7_number 30 = .ok (.if_icmp .ne 18, 3) := by decide +kernel
theorem dX7_number_33 : decode cX7_number 33 = .ok (.aload_n 0, 1) := by decide +kernel
theorem dX7_number_34 : decode cX7_number 34 = .ok (.getfield 19, 3) := by decide +kernel
theorem dX7_number_37 : decode cX7_number 37 = .ok (.aload_n 0, 1) := by decide +kernel
theorem dX7_number_38 : decode cX7_number 38 = .ok (.getfield 100, 3) := by decide +kernel
theorem dX7_number_41 : decode cX7_number 41 = .ok (.iaload, 1) := by decide +kernel
theorem dX7_number_42 : decode cX7_number 42 = .ok (.bipush 48, 2) := by decide +kernel
theorem dX7_number_44 : decode cX7_number 44 = .ok (.isub, 1) := by decide +kernel
theorem dX7_number_45 : decode cX7_number 45 = .ok (.goto 33, 3) := by decide +kernel
theorem dX7_number_48 : decode cX7_number 48 = .ok (.bipush 10, 2) := by decide +kernel
theorem dX7_number_50 : decode cX7_number 50 = .ok (.aload_n 0, 1) := by decide +kernel
theorem dX7_number_51 : decode cX7_number 51 = .ok (.getfield 19, 3) := by decide +kernel
theorem dX7_number_54 : decode cX7_number 54 = .ok (.aload_n 0, 1) := by decide +kernel
theorem dX7_number_55 : decode cX7_number 55 = .ok (.getfield 100, 3) := by decide +kernel
theorem dX7_number_58 : decode cX7_number 58 = .ok (.iaload, 1) := by decide +kernel
theorem dX7_number_59 : decode cX7_number 59 = .ok (.bipush 48, 2) := by decide +kernel
theorem dX7_number_61 : decode cX7_number 61 = .ok (.isub, 1) := by decide +kernel
theorem dX7_number_62 : decode cX7_number 62 = .ok (.imul, 1) := by decide +kernel
theorem dX7_number_63 : decode cX7_number 63 = .ok (.aload_n 0, 1) := by decide +kernel
theorem dX7_number_64 : decode cX7_number 64 = .ok (.getfield 19, 3) := by decide +kernel
theorem dX7_number_67 : decode cX7_number 67 = .ok (.aload_n 0, 1) := by decide +kernel
theorem dX7_number_68 : decode cX7_number 68 = .ok (.getfield 100, 3) := by decide +kernel
theorem dX7_number_71 : decode cX7_number 71 = .ok (.iconst 1, 1) := by decide +kernel
theorem dX7_number_72 : decode cX7_number 72 = .ok (.iadd, 1) := by decide +kernel
theorem dX7_number_73 : decode cX7_number 73 = .ok (.iaload, 1) := by decide +kernel
theorem dX7_number_74 : decode cX7_number 74 = .ok (.iadd, 1) := by decide +kernel
theorem dX7_number_75 : decode cX7_number 75 = .ok (.bipush 48, 2) := by decide +kernel
theorem dX7_number_77 : decode cX7_number 77 = .ok (.isub, 1) := by decide +kernel
theorem dX7_number_78 : decode cX7_number 78 = .ok (.istore 4, 2) := by decide +kernel
theorem dX7_number_80 : decode cX7_number 80 = .ok (.iload 4, 2) := by decide +kernel
theorem dX7_number_82 : decode cX7_number 82 = .ok (.iload_n 1, 1) := by decide +kernel
theorem dX7_number_83 : decode cX7_number 83 = .ok (.iload_n 2, 1) := by decide +kernel
theorem dX7_number_84 : decode cX7_number 84 = .ok (.invokestatic 70, 3) := by decide +kernel
theorem dX7_number_87 : decode cX7_number 87 = .ok (.ifCond .ne 10, 3) := by decide +kernel
theorem dX7_number_90 : decode cX7_number 90 = .ok (.aload_n 0, 1) := by decide +kernel
theorem dX7_number_91 : decode cX7_number 91 = .ok (.iconst 2, 1) := by decide +kernel
theorem dX7_number_92 : decode cX7_number 92 = .ok (.invokevirtual 113, 3) := by decide +kernel
theorem dX7_number_95 : decode cX7_number 95 = .ok (.iconst 0, 1) := by decide +kernel
theorem dX7_number_96 : decode cX7_number 96 = .ok (.ireturn, 1) := by decide +kernel
theorem dX7_number_97 : decode cX7_number 97 = .ok (.aload_n 0, 1) := by decide +kernel
theorem dX7_number_98 : decode cX7_number 98 = .ok (.dup, 1) := by decide +kernel
theorem dX7_number_99 : decode cX7_number 99 = .ok (.getfield 100, 3) := by decide +kernel
theorem dX7_number_102 : decode cX7_number 102 = .ok (.iload_n 3, 1) := by decide +kernel
theorem dX7_number_103 : decode cX7_number 103 = .ok (.iadd, 1) := by decide +kernel
theorem dX7_number_104 : decode cX7_number 104 = .ok (.putfield 100, 3) := by decide +kernel
theorem dX7_number_107 : decode cX7_number 107 = .ok (.iload 4, 2) := by decide +kernel
theorem dX7_number_109 : decode cX7_number 109 = .ok (.ireturn, 1) := by decide +kernel
theorem dX7_sortBy_0 : decode cX7_sortBy 0 = .ok (.iload_n 0, 1) := by decide +kernel
theorem dX7_sortBy_1 : decode cX7_sortBy 1 = .ok (.bipush 103, 2) := by decide +kernel
theorem dX7_sortBy_3 : decode cX7_sortBy 3 = .ok (.if_icmp .ne 7, 3) := by decide +kernel
theorem dX7_sortBy_6 : decode cX7_sortBy 6 = .ok (.iconst 1, 1) := by decide +kernel
theorem dX7_sortBy_7 : decode cX7_sortBy 7 = .ok (.goto 44, 3) := by decide +kernel
theorem dX7_sortBy_10 : decode cX7_sortBy 10 = .ok (.iload_n 0, 1) := by decide +kernel
theorem dX7_sortBy_11 : decode cX7_sortBy 11 = .ok (.bipush 108, 2) := by decide +kernel
theorem dX7_sortBy_13 : decode cX7_sortBy 13 = .ok (.if_icmp .ne 7, 3) := by decide +kernel
theorem dX7_sortBy_16 : decode cX7_sortBy 16 = .ok (.iconst 2, 1) := by decide +kernel
theorem dX7_sortBy_17 : decode cX7_sortBy 17 = .ok (.goto 34, 3) := by decide +kernel
theorem dX7_sortBy_20 : decode cX7_sortBy 20 = .ok (.iload_n 0, 1) := by decide +kernel
theorem dX7_sortBy_21 : decode cX7_sortBy 21 = .ok (.bipush 104, 2) := by decide +kernel
theorem dX7_sortBy_23 : decode cX7_sortBy 23 = .ok (.if_icmp .ne 7, 3) := by decide +kernel
theorem dX7_sortBy_26 : decode cX7_sortBy 26 = .ok (.iconst 3, 1) := by decide +kernel
theorem dX7_sortBy_27 : decode cX7_sortBy 27 = .ok (.goto 24, 3) := by decide +kernel
theorem dX7_sortBy_30 : decode cX7_sortBy 30 = .ok (.iload_n 0, 1) := by decide +kernel
theorem dX7_sortBy_31 : decode cX7_sortBy 31 = .ok (.bipush 115, 2) := by decide +kernel
theorem dX7_sortBy_33 : decode cX7_sortBy 33 = .ok (.if_icmp .ne 7, 3) := by decide +kernel
theorem dX7_sortBy_36 : decode cX7_sortBy 36 = .ok (.iconst 4, 1) := by decide +kernel
theorem dX7_sortBy_37 : decode cX7_sortBy 37 = .ok (.goto 14, 3) := by decide +kernel
theorem dX7_sortBy_40 : decode cX7_sortBy 40 = .ok (.iload_n 0, 1) := by decide +kernel
theorem dX7_sortBy_41 : decode cX7_sortBy 41 = .ok (.bipush 119, 2) := by decide +kernel
theorem dX7_sortBy_43 : decode cX7_sortBy 43 = .ok (.if_icmp .ne 7, 3) := by decide +kernel
theorem dX7_sortBy_46 : decode cX7_sortBy 46 = .ok (.iconst 5, 1) := by decide +kernel
theorem dX7_sortBy_47 : decode cX7_sortBy 47 = .ok (.goto 4, 3) := by decide +kernel
theorem dX7_sortBy_50 : decode cX7_sortBy 50 = .ok (.iconst 0, 1) := by decide +kernel
theorem dX7_sortBy_51 : decode cX7_sortBy 51 = .ok (.ireturn, 1) := by decide +kernel
theorem dX7_readMarble_0 : decode cX7_readMarble 0 = .ok (.aload_n 0, 1) := by decide +kernel
theorem dX7_readMarble_1 : decode cX7_readMarble 1 = .ok (.getfield 120, 3) := by decide +kernel
theorem dX7_readMarble_4 : decode cX7_readMarble 4 = .ok (.bipush 6, 2) := by decide +kernel
theorem dX7_readMarble_6 : decode cX7_readMarble 6 = .ok (.if_icmp .ne 9, 3) := by decide +kernel
theorem dX7_readMarble_9 : decode cX7_readMarble 9 = .ok (.aload_n 0, 1) := by decide +kernel
theorem dX7_readMarble_10 : decode cX7_readMarble 10 = .ok (.iconst 3, 1) := by decide +kernel
theorem dX7_readMarble_11 : decode cX7_readMarble 11 = .ok (.invokevirtual 113, 3) := by decide +kernel
theorem dX7_readMarble_14 : decode cX7_readMarble 14 = .ok (.return_, 1) := by decide +kernel
theorem dX7_readMarble_15 : decode cX7_readMarble 15 = .ok (.aload_n 0, 1) := by decide +kernel
theorem dX7_readMarble_16 : decode cX7_readMarble 16 = .ok (.bipush 109, 2) := by decide +kernel
theorem dX7_readMarble_18 : decode cX7_readMarble 18 = .ok (.invokevirtual 123, 3) := by decide +kernel
theorem dX7_readMarble_21 : decode cX7_readMarble 21 = .ok (.aload_n 0, 1) := by decide +kernel
theorem dX7_readMarble_22 : decode cX7_readMarble 22 = .ok (.getfield 50, 3) := by decide +kernel
theorem dX7_readMarble_25 : decode cX7_readMarble 25 = .ok (.bipush 55, 2) := by decide +kernel
theorem dX7_readMarble_27 : decode cX7_readMarble 27 = .ok (.aload_n 0, 1) := by decide +kernel
theorem dX7_readMarble_28 : decode cX7_readMarble 28 = .ok (.getfield 120, 3) := by decide +kernel
theorem dX7_readMarble_31 : decode cX7_readMarble 31 = .ok (.iadd, 1) := by decide +kernel
theorem dX7_readMarble_32 : decode cX7_readMarble 32 = .ok (.aload_n 0, 1) := by decide +kernel
theorem dX7_readMarble_33 : decode cX7_readMarble 33 = .ok (.iconst 1, 1) := by decide +kernel
theorem dX7_readMarble_34 : decode cX7_readMarble 34 = .ok (.bipush 9, 2) := by decide +kernel
theorem dX7_readMarble_36 : decode cX7_readMarble 36 = .ok (.invokevirtual 126, 3) := by decide +kernel
theorem dX7_readMarble_39 : decode cX7_readMarble 39 = .ok (.iastore, 1) := by decide +kernel
theorem dX7_readMarble_40 : decode cX7_readMarble 40 = .ok (.aload_n 0, 1) := by decide +kernel
theorem dX7_readMarble_41 : decode cX7_readMarble 41 = .ok (.bipush 44, 2) := by decide +kernel
theorem dX7_readMarble_43 : decode cX7_readMarble 43 = .ok (.invokevirtual 123, 3) := by decide +kernel
theorem dX7_readMarble_46 : decode cX7_readMarble 46 = .ok (.aload_n 0, 1) := by decide +kernel
theorem dX7_readMarble_47 : decode cX7_readMarble 47 = .ok (.getfield 50, 3) := by decide +kernel
theorem dX7_readMarble_50 : decode cX7_readMarble 50 = .ok (.bipush 61, 2) := by decide +kernel
theorem dX7_readMarble_52 : decode cX7_readMarble 52 = .ok (.aload_n 0, 1) := by decide +kernel
theorem dX7_readMarble_53 : decode cX7_readMarble 53 = .ok (.getfield 120, 3) := by decide +kernel
theorem dX7_readMarble_56 : decode cX7_readMarble 56 = .ok (.iadd, 1) := by decide +kernel
theorem dX7_readMarble_57 : decode cX7_readMarble 57 = .ok (.aload_n 0, 1) := by decide +kernel
theorem dX7_readMarble_58 : decode cX7_readMarble 58 = .ok (.iconst 0, 1) := by decide +kernel
theorem dX7_readMarble_59 : decode cX7_readMarble 59 = .ok (.bipush 20, 2) := by decide +kernel
theorem dX7_readMarble_61 : decode cX7_readMarble 61 = .ok (.invokevirtual 126, 3) := by decide +kernel
theorem dX7_readMarble_64 : decode cX7_readMarble 64 = .ok (.iastore, 1) := by decide +kernel
theorem dX7_readMarble_65 : decode cX7_readMarble 65 = .ok (.aload_n 0, 1) := by decide +kernel
theorem dX7_readMarble_66 : decode cX7_readMarble 66 = .ok (.bipush 59, 2) := by decide +kernel
theorem dX7_readMarble_68 : decode cX7_readMarble 68 = .ok (.invokevirtual 123, 3) := by decide +kernel
theorem dX7_readMarble_71 : decode cX7_readMarble 71 = .ok (.aload_n 0, 1) := by decide +kernel
theorem dX7_readMarble_72 : decode cX7_readMarble 72 = .ok (.getfield 50, 3) := by decide +kernel
theorem dX7_readMarble_75 : decode cX7_readMarble 75 = .ok (.bipush 49, 2) := by decide +kernel
theorem dX7_readMarble_77 : decode cX7_readMarble 77 = .ok (.aload_n 0, 1) := by decide +kernel
theorem dX7_readMarble_78 : decode cX7_readMarble 78 = .ok (.getfield 120, 3) := by decide +kernel
theorem dX7_readMarble_81 : decode cX7_readMarble 81 = .ok (.iadd, 1) := by decide +kernel
theorem dX7_readMarble_82 : decode cX7_readMarble 82 = .ok (.bipush 10, 2) := by decide +kernel
theorem dX7_readMarble_84 : decode cX7_readMarble 84 = .ok (.iastore, 1) := by decide +kernel
theorem dX7_readMarble_85 : decode cX7_readMarble 85 = .ok (.aload_n 0, 1) := by decide +kernel
theorem dX7_readMarble_86 : decode cX7_readMarble 86 = .ok (.dup, 1) := by decide +kernel
theorem dX7_readMarble_87 : decode cX7_readMarble 87 = .ok (.getfield 120, 3) := by decide +kernel
theorem dX7_readMarble_90 : decode cX7_readMarble 90 = .ok (.iconst 1, 1) := by decide +kernel
theorem dX7_readMarble_91 : decode cX7_readMarble 91 = .ok (.iadd, 1) := by decide +kernel
theorem dX7_readMarble_92 : decode cX7_readMarble 92 = .ok (.putfield 120, 3) := by decide +kernel
theorem dX7_readMarble_95 : decode cX7_readMarble 95 = .ok (.return_, 1) := by decide +kernel
theorem dX7_readPiece_0 : decode cX7_readPiece 0 = .ok (.aload_n 0, 1) := by decide +kernel
theorem dX7_readPiece_1 : decode cX7_readPiece 1 = .ok (.invokevirtual 109, 3) := by decide +kernel
theorem dX7_readPiece_4 : decode cX7_readPiece 4 = .ok (.invokestatic 129, 3) := by decide +kernel
theorem dX7_readPiece_7 : decode cX7_readPiece 7 = .ok (.istore_n 1, 1) := by decide +kernel
theorem dX7_readPiece_8 : decode cX7_readPiece 8 = .ok (.iload_n 1, 1) := by decide +kernel
theorem dX7_readPiece_9 : decode cX7_readPiece 9 = .ok (.ifCond .eq 12, 3) := by decide +kernel
theorem dX7_readPiece_12 : decode cX7_readPiece 12 = .ok (.aload_n 0, 1) := by decide +kernel
theorem dX7_readPiece_13 : decode cX7_readPiece 13 = .ok (.getfield 132, 3) := by decide +kernel
theorem dX7_readPiece_16 : decode cX7_readPiece 16 = .ok (.bipush 8, 2) := by decide +kernel
theorem dX7_readPiece_18 : decode cX7_readPiece 18 = .ok (.if_icmp .ne 17, 3) := by decide +kernel
theorem dX7_readPiece_21 : decode cX7_readPiece 21 = .ok (.aload_n 0, 1) := by decide +kernel
theorem dX7_readPiece_22 : decode cX7_readPiece 22 = .ok (.iload_n 1, 1) := by decide +kernel
theorem dX7_readPiece_23 : decode cX7_readPiece 23 = .ok (.ifCond .ne 7, 3) := by decide +kernel
theorem dX7_readPiece_26 : decode cX7_readPiece 26 = .ok (.iconst 1, 1) := by decide +kernel
theorem dX7_readPiece_27 : decode cX7_readPiece 27 = .ok (.goto 4, 3) := by decide +kernel
theorem dX7_readPiece_30 : decode cX7_readPiece 30 = .ok (.iconst 3, 1) := by decide +kernel
theorem dX7_readPiece_31 : decode cX7_readPiece 31 = .ok (.invokevirtual 113, 3) := by decide +kernel
theorem dX7_readPiece_34 : decode cX7_readPiece 34 = .ok (.return_, 1) := by decide +kernel
theorem dX7_readPiece_35 : decode cX7_readPiece 35 = .ok (.aload_n 0, 1) := by decide +kernel
theorem dX7_readPiece_36 : decode cX7_readPiece 36 = .ok (.dup, 1) := by decide +kernel
theorem dX7_readPiece_37 : decode cX7_readPiece 37 = .ok (.getfield 100, 3) := by decide +kernel
theorem dX7_readPiece_40 : decode cX7_readPiece 40 = .ok (.iconst 1, 1) := by decide +kernel
theorem dX7_readPiece_41 : decode cX7_readPiece 41 = .ok (.iadd, 1) := by decide +kernel
theorem dX7_readPiece_42 : decode cX7_readPiece 42 = .ok (.putfield 100, 3) := by decide +kernel
theorem dX7_readPiece_45 : decode cX7_readPiece 45 = .ok (.aload_n 0, 1) := by decide +kernel
theorem dX7_readPiece_46 : decode cX7_readPiece 46 = .ok (.getfield 47, 3) := by decide +kernel
theorem dX7_readPiece_49 : decode cX7_readPiece 49 = .ok (.aload_n 0, 1) := by decide +kernel
theorem dX7_readPiece_50 : decode cX7_readPiece 50 = .ok (.getfield 132, 3) := by decide +kernel
theorem dX7_readPiece_53 : decode cX7_readPiece 53 = .ok (.iload_n 1, 1) := by decide +kernel
theorem dX7_readPiece_54 : decode cX7_readPiece 54 = .ok (.iastore, 1) := by decide +kernel
theorem dX7_readPiece_55 : decode cX7_readPiece 55 = .ok (.aload_n 0, 1) := by decide +kernel
theorem dX7_readPiece_56 : decode cX7_readPiece 56 = .ok (.getfield 50, 3) := by decide +kernel
theorem dX7_readPiece_59 : decode cX7_readPiece 59 = .ok (.iconst 1, 1) := by decide +kernel
theorem dX7_readPiece_60 : decode cX7_readPiece 60 = .ok (.aload_n 0, 1) := by decide +kernel
theorem dX7_readPiece_61 : decode cX7_readPiece 61 = .ok (.getfield 132, 3) := by decide +kernel
theorem dX7_readPiece_64 : decode cX7_readPiece 64 = .ok (.iadd, 1) := by decide +kernel
theorem dX7_readPiece_65 : decode cX7_readPiece 65 = .ok (.aload_n 0, 1) := by decide +kernel
theorem dX7_readPiece_66 : decode cX7_readPiece 66 = .ok (.iconst 0, 1) := by decide +kernel
theorem dX7_readPiece_67 : decode cX7_readPiece 67 = .ok (.iconst 1, 1) := by decide +kernel
theorem dX7_readPiece_68 : decode cX7_readPiece 68 = .ok (.invokevirtual 126, 3) := by decide +kernel
theorem dX7_readPiece_71 : decode cX7_readPiece 71 = .ok (.iastore, 1) := by decide +kernel
theorem dX7_readPiece_72 : decode cX7_readPiece 72 = .ok (.aload_n 0, 1) := by decide +kernel
theorem dX7_readPiece_73 : decode cX7_readPiece 73 = .ok (.bipush 44, 2) := by decide +kernel
theorem dX7_readPiece_75 : decode cX7_readPiece 75 = .ok (.invokevirtual 123, 3) := by decide +kernel
theorem dX7_readPiece_78 : decode cX7_readPiece 78 = .ok (.aload_n 0, 1) := by decide +kernel
theorem dX7_readPiece_79 : decode cX7_readPiece 79 = .ok (.getfield 50, 3) := by decide +kernel
theorem dX7_readPiece_82 : decode cX7_readPiece 82 = .ok (.bipush 9, 2) := by decide +kernel
theorem dX7_readPiece_84 : decode cX7_readPiece 84 = .ok (.aload_n 0, 1) := by decide +kernel
theorem dX7_readPiece_85 : decode cX7_readPiece 85 = .ok (.getfield 132, 3) := by decide +kernel
theorem dX7_readPiece_88 : decode cX7_readPiece 88 = .ok (.iadd, 1) := by decide +kernel
theorem dX7_readPiece_89 : decode cX7_readPiece 89 = .ok (.aload_n 0, 1) := by decide +kernel
theorem dX7_readPiece_90 : decode cX7_readPiece 90 = .ok (.aload_n 0, 1) := by decide +kernel
theorem dX7_readPiece_91 : decode cX7_readPiece 91 = .ok (.getfield 132, 3) := by decide +kernel
theorem dX7_readPiece_94 : decode cX7_readPiece 94 = .ok (.iconst 1, 1) := by decide +kernel
theorem dX7_readPiece_95 : decode cX7_readPiece 95 = .ok (.iadd, 1) := by decide +kernel
theorem dX7_readPiece_96 : decode cX7_readPiece 96 = .ok (.bipush 9, 2) := by decide +kernel
theorem dX7_readPiece_98 : decode cX7_readPiece 98 = .ok (.invokevirtual 126, 3) := by decide +kernel
theorem dX7_readPiece_101 : decode cX7_readPiece 101 = .ok (.iastore, 1) := by decide +kernel
theorem dX7_readPiece_102 : decode cX7_readPiece 102 = .ok (.aload_n 0, 1) := by decide +kernel
theorem dX7_readPiece_103 : decode cX7_readPiece 103 = .ok (.bipush 44, 2) := by decide +kernel
theorem dX7_readPiece_105 : decode cX7_readPiece 105 = .ok (.invokevirtual 123, 3) := by decide +kernel
theorem dX7_readPiece_108 : decode cX7_readPiece 108 = .ok (.aload_n 0, 1) := by decide +kernel
theorem dX7_readPiece_109 : decode cX7_readPiece 109 = .ok (.getfield 50, 3) := by decide +kernel
theorem dX7_readPiece_112 : decode cX7_readPiece 112 = .ok (.bipush 17, 2) := by decide +kernel
theorem dX7_readPiece_114 : decode cX7_readPiece 114 = .ok (.aload_n 0, 1) := by decide +kernel
theorem dX7_readPiece_115 : decode cX7_readPiece 115 = .ok (.getfield 132, 3) := by decide +kernel
theorem dX7_readPiece_118 : decode cX7_readPiece 118 = .ok (.iadd, 1) := by decide +kernel
theorem dX7_readPiece_119 : decode cX7_readPiece 119 = .ok (.aload_n 0, 1) := by decide +kernel
theorem dX7_readPiece_120 : decode cX7_readPiece 120 = .ok (.aload_n 0, 1) := by decide +kernel
theorem dX7_readPiece_121 : decode cX7_readPiece 121 = .ok (.getfield 132, 3) := by decide +kernel
theorem dX7_readPiece_124 : decode cX7_readPiece 124 = .ok (.iconst 1, 1) := by decide +kernel
theorem dX7_readPiece_125 : decode cX7_readPiece 125 = .ok (.iadd, 1) := by decide +kernel
theorem dX7_readPiece_126 : decode cX7_readPiece 126 = .ok (.bipush 9, 2) := by decide +kernel
theorem dX7_readPiece_128 : decode cX7_readPiece 128 = .ok (.invokevirtual 126, 3) := by decide +kernel
theorem dX7_readPiece_131 : decode cX7_readPiece 131 = .ok (.iastore, 1) := by decide +kernel
theorem dX7_readPiece_132 : decode cX7_readPiece 132 = .ok (.aload_n 0, 1) := by decide +kernel
theorem dX7_readPiece_133 : decode cX7_readPiece 133 = .ok (.bipush 59, 2) := by decide +kernel
theorem dX7_readPiece_135 : decode cX7_readPiece 135 = .ok (.invokevirtual 123, 3) := by decide +kernel
theorem dX7_readPiece_138 : decode cX7_readPiece 138 = .ok (.aload_n 0, 1) := by decide +kernel
theorem dX7_readPiece_139 : decode cX7_readPiece 139 = .ok (.dup, 1) := by decide +kernel
theorem dX7_readPiece_140 : decode cX7_readPiece 140 = .ok (.getfield 132, 3) := by decide +kernel
theorem dX7_readPiece_143 : decode cX7_readPiece 143 = .ok (.iconst 1, 1) := by decide +kernel
theorem dX7_readPiece_144 : decode cX7_readPiece 144 = .ok (.iadd, 1) := by decide +kernel
theorem dX7_readPiece_145 : decode cX7_readPiece 145 = .ok (.putfield 132, 3) := by decide +kernel
theorem dX7_readPiece_148 : decode cX7_readPiece 148 = .ok (.return_, 1) := by decide +kernel
theorem dX7_readRun_0 : decode cX7_readRun 0 = .ok (.aload_n 0, 1) := by decide +kernel
theorem dX7_readRun_1 : decode cX7_readRun 1 = .ok (.iconst 0, 1) := by decide +kernel
theorem dX7_readRun_2 : decode cX7_readRun 2 = .ok (.putfield 100, 3) := by decide +kernel
theorem dX7_readRun_5 : decode cX7_readRun 5 = .ok (.aload_n 0, 1) := by decide +kernel
theorem dX7_readRun_6 : decode cX7_readRun 6 = .ok (.iconst 0, 1) := by decide +kernel
theorem dX7_readRun_7 : decode cX7_readRun 7 = .ok (.putfield 103, 3) := by decide +kernel
theorem dX7_readRun_10 : decode cX7_readRun 10 = .ok (.aload_n 0, 1) := by decide +kernel
theorem dX7_readRun_11 : decode cX7_readRun 11 = .ok (.iconst 0, 1) := by decide +kernel
theorem dX7_readRun_12 : decode cX7_readRun 12 = .ok (.putfield 120, 3) := by decide +kernel
theorem dX7_readRun_15 : decode cX7_readRun 15 = .ok (.aload_n 0, 1) := by decide +kernel
theorem dX7_readRun_16 : decode cX7_readRun 16 = .ok (.iconst 0, 1) := by decide +kernel
theorem dX7_readRun_17 : decode cX7_readRun 17 = .ok (.putfield 132, 3) := by decide +kernel
theorem dX7_readRun_20 : decode cX7_readRun 20 = .ok (.iconst 0, 1) := by decide +kernel
theorem dX7_readRun_21 : decode cX7_readRun 21 = .ok (.istore_n 1, 1) := by decide +kernel
theorem dX7_readRun_22 : decode cX7_readRun 22 = .ok (.iload_n 1, 1) := by decide +kernel
theorem dX7_readRun_23 : decode cX7_readRun 23 = .ok (.bipush 67, 2) := by decide +kernel
theorem dX7_readRun_25 : decode cX7_readRun 25 = .ok (.if_icmp .ge 32, 3) := by decide +kernel
theorem dX7_readRun_28 : decode cX7_readRun 28 = .ok (.aload_n 0, 1) := by decide +kernel
theorem dX7_readRun_29 : decode cX7_readRun 29 = .ok (.getfield 50, 3) := by decide +kernel
theorem dX7_readRun_32 : decode cX7_readRun 32 = .ok (.iload_n 1, 1) := by decide +kernel
theorem dX7_readRun_33 : decode cX7_readRun 33 = .ok (.iload_n 1, 1) := by decide +kernel
theorem dX7_readRun_34 : decode cX7_readRun 34 = .ok (.bipush 25, 2) := by decide +kernel
theorem dX7_readRun_36 : decode cX7_readRun 36 = .ok (.bipush 32, 2) := by decide +kernel
theorem dX7_readRun_38 : decode cX7_readRun 38 = .ok (.invokestatic 70, 3) := by decide +kernel
theorem dX7_readRun_41 : decode cX7_readRun 41 = .ok (.ifCond .eq 8, 3) := by decide +kernel
theorem dX7_readRun_44 : decode cX7_readRun 44 = .ok (.ldc 135, 2) := by decide +kernel
theorem dX7_readRun_46 : decode cX7_readRun 46 = .ok (.goto 4, 3) := by decide +kernel
theorem dX7_readRun_49 : decode cX7_readRun 49 = .ok (.iconst 0, 1) := by decide +kernel
theorem dX7_readRun_50 : decode cX7_readRun 50 = .ok (.iastore, 1) := by decide +kernel
theorem dX7_readRun_51 : decode cX7_readRun 51 = .ok (.iinc 1 1, 3) := by decide +kernel
theorem dX7_readRun_54 : decode cX7_readRun 54 = .ok (.goto (-32), 3) := by decide +kernel
theorem dX7_readRun_57 : decode cX7_readRun 57 = .ok (.aload_n 0, 1) := by decide +kernel
theorem dX7_readRun_58 : decode cX7_readRun 58 = .ok (.bipush 98, 2) := by decide +kernel
theorem dX7_readRun_60 : decode cX7_readRun 60 = .ok (.invokevirtual 123, 3) := by decide +kernel
theorem dX7_readRun_63 : decode cX7_readRun 63 = .ok (.aload_n 0, 1) := by decide +kernel
theorem dX7_readRun_64 : decode cX7_readRun 64 = .ok (.aload_n 0, 1) := by decide +kernel
theorem dX7_readRun_65 : decode cX7_readRun 65 = .ok (.iconst 1, 1) := by decide +kernel
theorem dX7_readRun_66 : decode cX7_readRun 66 = .ok (.bipush 9, 2) := by decide +kernel
theorem dX7_readRun_68 : decode cX7_readRun 68 = .ok (.invokevirtual 126, 3) := by decide +kernel
theorem dX7_readRun_71 : decode cX7_readRun 71 = .ok (.putfield 136, 3) := by decide +kernel
theorem dX7_readRun_74 : decode cX7_readRun 74 = .ok (.aload_n 0, 1) := by decide +kernel
theorem dX7_readRun_75 : decode cX7_readRun 75 = .ok (.bipush 59, 2) := by decide +kernel
theorem dX7_readRun_77 : decode cX7_readRun 77 = .ok (.invokevirtual 123, 3) := by decide +kernel
theorem dX7_readRun_80 : decode cX7_readRun 80 = .ok (.aload_n 0, 1) := by decide +kernel
theorem dX7_readRun_81 : decode cX7_readRun 81 = .ok (.getfield 103, 3) := by decide +kernel
theorem dX7_readRun_84 : decode cX7_readRun 84 = .ok (.ifCond .ne 26, 3) := by decide +kernel
theorem dX7_readRun_87 : decode cX7_readRun 87 = .ok (.aload_n 0, 1) := by decide +kernel
theorem dX7_readRun_88 : decode cX7_readRun 88 = .ok (.getfield 120, 3) := by decide +kernel
theorem dX7_readRun_91 : decode cX7_readRun 91 = .ok (.ifCond .eq 12, 3) := by decide +kernel
theorem dX7_readRun_94 : decode cX7_readRun 94 = .ok (.aload_n 0, 1) := by decide +kernel
theorem dX7_readRun_95 : decode cX7_readRun 95 = .ok (.invokevirtual 109, 3) := by decide +kernel
theorem dX7_readRun_98 : decode cX7_readRun 98 = .ok (.bipush 109, 2) := by decide +kernel
theorem dX7_readRun_100 : decode cX7_readRun 100 = .ok (.if_icmp .ne 10, 3) := by decide +kernel
theorem dX7_readRun_103 : decode cX7_readRun 103 = .ok (.aload_n 0, 1) := by decide +kernel
theorem dX7_readRun_104 : decode cX7_readRun 104 = .ok (.invokevirtual 139, 3) := by decide +kernel
theorem dX7_readRun_107 : decode cX7_readRun 107 = .ok (.goto (-27), 3) := by decide +kernel
theorem dX7_readRun_110 : decode cX7_readRun 110 = .ok (.aload_n 0, 1) := by decide +kernel
theorem dX7_readRun_111 : decode cX7_readRun 111 = .ok (.getfield 103, 3) := by decide +kernel
theorem dX7_readRun_114 : decode cX7_readRun 114 = .ok (.ifCond .ne 28, 3) := by decide +kernel
theorem dX7_readRun_117 : decode cX7_readRun 117 = .ok (.aload_n 0, 1) := by decide +kernel
theorem dX7_readRun_118 : decode cX7_readRun 118 = .ok (.getfield 132, 3) := by decide +kernel
theorem dX7_readRun_121 : decode cX7_readRun 121 = .ok (.ifCond .eq 14, 3) := by decide +kernel
theorem dX7_readRun_124 : decode cX7_readRun 124 = .ok (.aload_n 0, 1) := by decide +kernel
theorem dX7_readRun_125 : decode cX7_readRun 125 = .ok (.getfield 100, 3) := by decide +kernel
theorem dX7_readRun_128 : decode cX7_readRun 128 = .ok (.aload_n 0, 1) := by decide +kernel
theorem dX7_readRun_129 : decode cX7_readRun 129 = .ok (.getfield 96, 3) := by decide +kernel
theorem dX7_readRun_132 : decode cX7_readRun 132 = .ok (.if_icmp .ge 10, 3) := by decide +kernel
theorem dX7_readRun_135 : decode cX7_readRun 135 = .ok (.aload_n 0, 1) := by decide +kernel
theorem dX7_readRun_136 : decode cX7_readRun 136 = .ok (.invokevirtual 142, 3) := by decide +kernel
theorem dX7_readRun_139 : decode cX7_readRun 139 = .ok (.goto (-29), 3) := by decide +kernel
theorem dX7_readRun_142 : decode cX7_readRun 142 = .ok (.return_, 1) := by decide +kernel
theorem dX7_run_0 : decode cX7_run 0 = .ok (.aload_n 0, 1) := by decide +kernel
theorem dX7_run_1 : decode cX7_run 1 = .ok (.invokevirtual 145, 3) := by decide +kernel
theorem dX7_run_4 : decode cX7_run 4 = .ok (.aload_n 0, 1) := by decide +kernel
theorem dX7_run_5 : decode cX7_run 5 = .ok (.iconst 0, 1) := by decide +kernel
theorem dX7_run_6 : decode cX7_run 6 = .ok (.putfield 96, 3) := by decide +kernel
theorem dX7_run_9 : decode cX7_run 9 = .ok (.aload_n 0, 1) := by decide +kernel
theorem dX7_run_10 : decode cX7_run 10 = .ok (.getfield 103, 3) := by decide +kernel
theorem dX7_run_13 : decode cX7_run 13 = .ok (.ifCond .eq 19, 3) := by decide +kernel
theorem dX7_run_16 : decode cX7_run 16 = .ok (.aload_n 0, 1) := by decide +kernel
theorem dX7_run_17 : decode cX7_run 17 = .ok (.aload_n 0, 1) := by decide +kernel
theorem dX7_run_18 : decode cX7_run 18 = .ok (.getfield 103, 3) := by decide +kernel
theorem dX7_run_21 : decode cX7_run 21 = .ok (.putfield 148, 3) := by decide +kernel
theorem dX7_run_24 : decode cX7_run 24 = .ok (.ldc 151, 2) := by decide +kernel
theorem dX7_run_26 : decode cX7_run 26 = .ok (.aload_n 0, 1) := by decide +kernel
theorem dX7_run_27 : decode cX7_run 27 = .ok (.getfield 106, 3) := by decide +kernel
theorem dX7_run_30 : decode cX7_run 30 = .ok (.isub, 1) := by decide +kernel
theorem dX7_run_31 : decode cX7_run 31 = .ok (.ireturn, 1) := by decide +kernel
theorem dX7_run_32 : decode cX7_run 32 = .ok (.aload_n 0, 1) := by decide +kernel
theorem dX7_run_33 : decode cX7_run 33 = .ok (.aload_n 0, 1) := by decide +kernel
theorem dX7_run_34 : decode cX7_run 34 = .ok (.getfield 136, 3) := by decide +kernel
theorem dX7_run_37 : decode cX7_run 37 = .ok (.putfield 152, 3) := by decide +kernel
theorem dX7_run_40 : decode cX7_run 40 = .ok (.aload_n 0, 1) := by decide +kernel
theorem dX7_run_41 : decode cX7_run 41 = .ok (.aload_n 0, 1) := by decide +kernel
theorem dX7_run_42 : decode cX7_run 42 = .ok (.getfield 120, 3) := by decide +kernel
theorem dX7_run_45 : decode cX7_run 45 = .ok (.putfield 74, 3) := by decide +kernel
theorem dX7_run_48 : decode cX7_run 48 = .ok (.aload_n 0, 1) := by decide +kernel
theorem dX7_run_49 : decode cX7_run 49 = .ok (.aload_n 0, 1) := by decide +kernel
theorem dX7_run_50 : decode cX7_run 50 = .ok (.getfield 132, 3) := by decide +kernel
theorem dX7_run_53 : decode cX7_run 53 = .ok (.putfield 77, 3) := by decide +kernel
theorem dX7_run_56 : decode cX7_run 56 = .ok (.aload_n 0, 1) := by decide +kernel
theorem dX7_run_57 : decode cX7_run 57 = .ok (.getfield 47, 3) := by decide +kernel
theorem dX7_run_60 : decode cX7_run 60 = .ok (.iconst 0, 1) := by decide +kernel
theorem dX7_run_61 : decode cX7_run 61 = .ok (.aload_n 0, 1) := by decide +kernel
theorem dX7_run_62 : decode cX7_run 62 = .ok (.getfield 22, 3) := by decide +kernel
theorem dX7_run_65 : decode cX7_run 65 = .ok (.iconst 0, 1) := by decide +kernel
theorem dX7_run_66 : decode cX7_run 66 = .ok (.bipush 8, 2) := by decide +kernel
theorem dX7_run_68 : decode cX7_run 68 = .ok (.invokestatic 155, 3) := by decide +kernel
theorem dX7_run_71 : decode cX7_run 71 = .ok (.aload_n 0, 1) := by decide +kernel
theorem dX7_run_72 : decode cX7_run 72 = .ok (.getfield 50, 3) := by decide +kernel
theorem dX7_run_75 : decode cX7_run 75 = .ok (.iconst 0, 1) := by decide +kernel
theorem dX7_run_76 : decode cX7_run 76 = .ok (.aload_n 0, 1) := by decide +kernel
theorem dX7_run_77 : decode cX7_run 77 = .ok (.getfield 25, 3) := by decide +kernel
theorem dX7_run_80 : decode cX7_run 80 = .ok (.iconst 0, 1) := by decide +kernel
theorem dX7_run_81 : decode cX7_run 81 = .ok (.bipush 67, 2) := by decide +kernel
theorem dX7_run_83 : decode cX7_run 83 = .ok (.invokestatic 155, 3) := by decide +kernel
theorem dX7_run_86 : decode cX7_run 86 = .ok (.aload_n 0, 1) := by decide +kernel
theorem dX7_run_87 : decode cX7_run 87 = .ok (.iconst 0, 1) := by decide +kernel
theorem dX7_run_88 : decode cX7_run 88 = .ok (.putfield 159, 3) := by decide +kernel
theorem dX7_run_91 : decode cX7_run 91 = .ok (.aload_n 0, 1) := by decide +kernel
theorem dX7_run_92 : decode cX7_run 92 = .ok (.getfield 77, 3) := by decide +kernel
theorem dX7_run_95 : decode cX7_run 95 = .ok (.ireturn, 1) := by decide +kernel
theorem dX7_fault_0 : decode cX7_fault 0 = .ok (.aload_n 0, 1) := by decide +kernel
theorem dX7_fault_1 : decode cX7_fault 1 = .ok (.getfield 148, 3) := by decide +kernel
theorem dX7_fault_4 : decode cX7_fault 4 = .ok (.ireturn, 1) := by decide +kernel
theorem dX7_sends_0 : decode cX7_sends 0 = .ok (.aload_n 1, 1) := by decide +kernel
theorem dX7_sends_1 : decode cX7_sends 1 = .ok (.bipush 49, 2) := by decide +kernel
theorem dX7_sends_3 : decode cX7_sends 3 = .ok (.iload_n 2, 1) := by decide +kernel
theorem dX7_sends_4 : decode cX7_sends 4 = .ok (.iadd, 1) := by decide +kernel
theorem dX7_sends_5 : decode cX7_sends 5 = .ok (.iload_n 3, 1) := by decide +kernel
theorem dX7_sends_6 : decode cX7_sends 6 = .ok (.bipush 8, 2) := by decide +kernel
theorem dX7_sends_8 : decode cX7_sends 8 = .ok (.if_icmp .ge 16, 3) := by decide +kernel
theorem dX7_sends_11 : decode cX7_sends 11 = .ok (.iload_n 3, 1) := by decide +kernel
theorem dX7_sends_12 : decode cX7_sends 12 = .ok (.aload_n 0, 1) := by decide +kernel
theorem dX7_sends_13 : decode cX7_sends 13 = .ok (.getfield 77, 3) := by decide +kernel
theorem dX7_sends_16 : decode cX7_sends 16 = .ok (.if_icmp .lt 8, 3) := by decide +kernel
theorem dX7_sends_19 : decode cX7_sends 19 = .ok (.bipush 8, 2) := by decide +kernel
theorem dX7_sends_21 : decode cX7_sends 21 = .ok (.goto 4, 3) := by decide +kernel
theorem dX7_sends_24 : decode cX7_sends 24 = .ok (.iload_n 3, 1) := by decide +kernel
theorem dX7_sends_25 : decode cX7_sends 25 = .ok (.iastore, 1) := by decide +kernel
theorem dX7_sends_26 : decode cX7_sends 26 = .ok (.return_, 1) := by decide +kernel
theorem dX7_leaves_0 : decode cX7_leaves 0 = .ok (.aload_n 1, 1) := by decide +kernel
theorem dX7_leaves_1 : decode cX7_leaves 1 = .ok (.bipush 49, 2) := by decide +kernel
theorem dX7_leaves_3 : decode cX7_leaves 3 = .ok (.iload_n 2, 1) := by decide +kernel
theorem dX7_leaves_4 : decode cX7_leaves 4 = .ok (.iadd, 1) := by decide +kernel
theorem dX7_leaves_5 : decode cX7_leaves 5 = .ok (.iaload, 1) := by decide +kernel
theorem dX7_leaves_6 : decode cX7_leaves 6 = .ok (.istore_n 3, 1) := by decide +kernel
theorem dX7_leaves_7 : decode cX7_leaves 7 = .ok (.aload_n 1, 1) := by decide +kernel
theorem dX7_leaves_8 : decode cX7_leaves 8 = .ok (.bipush 33, 2) := by decide +kernel
theorem dX7_leaves_10 : decode cX7_leaves 10 = .ok (.iload_n 3, 1) := by decide +kernel
theorem dX7_leaves_11 : decode cX7_leaves 11 = .ok (.iadd, 1) := by decide +kernel
theorem dX7_leaves_12 : decode cX7_leaves 12 = .ok (.dup2, 1) := by decide +kernel
theorem dX7_leaves_13 : decode cX7_leaves 13 = .ok (.iaload, 1) := by decide +kernel
theorem dX7_leaves_14 : decode cX7_leaves 14 = .ok (.aload_n 1, 1) := by decide +kernel
theorem dX7_leaves_15 : decode cX7_leaves 15 = .ok (.bipush 33, 2) := by decide +kernel
theorem dX7_leaves_17 : decode cX7_leaves 17 = .ok (.iload_n 3, 1) := by decide +kernel
theorem dX7_leaves_18 : decode cX7_leaves 18 = .ok (.iadd, 1) := by decide +kernel
theorem dX7_leaves_19 : decode cX7_leaves 19 = .ok (.iaload, 1) := by decide +kernel
theorem dX7_leaves_20 : decode cX7_leaves 20 = .ok (.sipush 999, 3) := by decide +kernel
theorem dX7_leaves_23 : decode cX7_leaves 23 = .ok (.if_icmp .ge 7, 3) := by decide +kernel
theorem dX7_leaves_26 : decode cX7_leaves 26 = .ok (.iconst 1, 1) := by decide +kernel
theorem dX7_leaves_27 : decode cX7_leaves 27 = .ok (.goto 4, 3) := by decide +kernel
theorem dX7_leaves_30 : decode cX7_leaves 30 = .ok (.iconst 0, 1) := by decide +kernel
theorem dX7_leaves_31 : decode cX7_leaves 31 = .ok (.iadd, 1) := by decide +kernel
theorem dX7_leaves_32 : decode cX7_leaves 32 = .ok (.iastore, 1) := by decide +kernel
theorem dX7_leaves_33 : decode cX7_leaves 33 = .ok (.aload_n 1, 1) := by decide +kernel
theorem dX7_leaves_34 : decode cX7_leaves 34 = .ok (.bipush 41, 2) := by decide +kernel
theorem dX7_leaves_36 : decode cX7_leaves 36 = .ok (.iload_n 3, 1) := by decide +kernel
theorem dX7_leaves_37 : decode cX7_leaves 37 = .ok (.iadd, 1) := by decide +kernel
theorem dX7_leaves_38 : decode cX7_leaves 38 = .ok (.aload_n 1, 1) := by decide +kernel
theorem dX7_leaves_39 : decode cX7_leaves 39 = .ok (.bipush 41, 2) := by decide +kernel
theorem dX7_leaves_41 : decode cX7_leaves 41 = .ok (.iload_n 3, 1) := by decide +kernel
theorem dX7_leaves_42 : decode cX7_leaves 42 = .ok (.iadd, 1) := by decide +kernel
theorem dX7_leaves_43 : decode cX7_leaves 43 = .ok (.iaload, 1) := by decide +kernel
theorem dX7_leaves_44 : decode cX7_leaves 44 = .ok (.aload_n 1, 1) := by decide +kernel
theorem dX7_leaves_45 : decode cX7_leaves 45 = .ok (.bipush 55, 2) := by decide +kernel
theorem dX7_leaves_47 : decode cX7_leaves 47 = .ok (.iload_n 2, 1) := by decide +kernel
theorem dX7_leaves_48 : decode cX7_leaves 48 = .ok (.iadd, 1) := by decide +kernel
theorem dX7_leaves_49 : decode cX7_leaves 49 = .ok (.iaload, 1) := by decide +kernel
theorem dX7_leaves_50 : decode cX7_leaves 50 = .ok (.iadd, 1) := by decide +kernel
theorem dX7_leaves_51 : decode cX7_leaves 51 = .ok (.sipush 9999, 3) := by decide +kernel
theorem dX7_leaves_54 : decode cX7_leaves 54 = .ok (.if_icmp .le 9, 3) := by decide +kernel
theorem dX7_leaves_57 : decode cX7_leaves 57 = .ok (.sipush 9999, 3) := by decide +kernel
theorem dX7_leaves_60 : decode cX7_leaves 60 = .ok (.goto 16, 3) := by decide +kernel
theorem dX7_leaves_63 : decode cX7_leaves 63 = .ok (.aload_n 1, 1) := by decide +kernel
theorem dX7_leaves_64 : decode cX7_leaves 64 = .ok (.bipush 41, 2) := by decide +kernel
theorem dX7_leaves_66 : decode cX7_leaves 66 = .ok (.iload_n 3, 1) := by decide +kernel
theorem dX7_leaves_67 : decode cX7_leaves 67 = .ok (.iadd, 1) := by decide +kernel
theorem dX7_leaves_68 : decode cX7_leaves 68 = .ok (.iaload, 1) := by decide +kernel
theorem dX7_leaves_69 : decode cX7_leaves 69 = .ok (.aload_n 1, 1) := by decide +kernel
theorem dX7_leaves_70 : decode cX7_leaves 70 = .ok (.bipush 55, 2) := by decide +kernel
theorem dX7_leaves_72 : decode cX7_leaves 72 = .ok (.iload_n 2, 1) := by decide +kernel
theorem dX7_leaves_73 : decode cX7_leaves 73 = .ok (.iadd, 1) := by decide +kernel
theorem dX7_leaves_74 : decode cX7_leaves 74 = .ok (.iaload, 1) := by decide +kernel
theorem dX7_leaves_75 : decode cX7_leaves 75 = .ok (.iadd, 1) := by decide +kernel
theorem dX7_leaves_76 : decode cX7_leaves 76 = .ok (.iastore, 1) := by decide +kernel
theorem dX7_leaves_77 : decode cX7_leaves 77 = .ok (.aload_n 0, 1) := by decide +kernel
theorem dX7_leaves_78 : decode cX7_leaves 78 = .ok (.getfield 162, 3) := by decide +kernel
theorem dX7_leaves_81 : decode cX7_leaves 81 = .ok (.iload_n 3, 1) := by decide +kernel
theorem dX7_leaves_82 : decode cX7_leaves 82 = .ok (.ishr, 1) := by decide +kernel
theorem dX7_leaves_83 : decode cX7_leaves 83 = .ok (.iconst 1, 1) := by decide +kernel
theorem dX7_leaves_84 : decode cX7_leaves 84 = .ok (.iand, 1) := by decide +kernel
theorem dX7_leaves_85 : decode cX7_leaves 85 = .ok (.iconst 1, 1) := by decide +kernel
theorem dX7_leaves_86 : decode cX7_leaves 86 = .ok (.if_icmp .ne 16, 3) := by decide +kernel
theorem dX7_leaves_89 : decode cX7_leaves 89 = .ok (.aload_n 0, 1) := by decide +kernel
theorem dX7_leaves_90 : decode cX7_leaves 90 = .ok (.aload_n 1, 1) := by decide +kernel
theorem dX7_leaves_91 : decode cX7_leaves 91 = .ok (.iload_n 2, 1) := by decide +kernel
theorem dX7_leaves_92 : decode cX7_leaves 92 = .ok (.aload_n 1, 1) := by decide +kernel
theorem dX7_leaves_93 : decode cX7_leaves 93 = .ok (.bipush 9, 2) := by decide +kernel
theorem dX7_leaves_95 : decode cX7_leaves 95 = .ok (.iload_n 3, 1) := by decide +kernel
theorem dX7_leaves_96 : decode cX7_leaves 96 = .ok (.iadd, 1) := by decide +kernel
theorem dX7_leaves_97 : decode cX7_leaves 97 = .ok (.iaload, 1) := by decide +kernel
theorem dX7_leaves_98 : decode cX7_leaves 98 = .ok (.invokevirtual 165, 3) := by decide +kernel
theorem dX7_leaves_101 : decode cX7_leaves 101 = .ok (.return_, 1) := by decide +kernel
theorem dX7_leaves_102 : decode cX7_leaves 102 = .ok (.aload_n 1, 1) := by decide +kernel
theorem dX7_leaves_103 : decode cX7_leaves 103 = .ok (.iconst 1, 1) := by decide +kernel
theorem dX7_leaves_104 : decode cX7_leaves 104 = .ok (.iload_n 3, 1) := by decide +kernel
theorem dX7_leaves_105 : decode cX7_leaves 105 = .ok (.iadd, 1) := by decide +kernel
theorem dX7_leaves_106 : decode cX7_leaves 106 = .ok (.iaload, 1) := by decide +kernel
theorem dX7_leaves_107 : decode cX7_leaves 107 = .ok (.istore 4, 2) := by decide +kernel
theorem dX7_leaves_109 : decode cX7_leaves 109 = .ok (.aload_n 0, 1) := by decide +kernel
theorem dX7_leaves_110 : decode cX7_leaves 110 = .ok (.getfield 22, 3) := by decide +kernel
theorem dX7_leaves_113 : decode cX7_leaves 113 = .ok (.iload_n 3, 1) := by decide +kernel
theorem dX7_leaves_114 : decode cX7_leaves 114 = .ok (.iaload, 1) := by decide +kernel
theorem dX7_leaves_115 : decode cX7_leaves 115 = .ok (.tableswitch 152 1 4 #[29, 41, 69, 129], 29) := by decide +kernel
theorem dX7_leaves_144 : decode cX7_leaves 144 = .ok (.aload_n 1, 1) := by decide +kernel
theorem dX7_leaves_145 : decode cX7_leaves 145 = .ok (.iconst 1, 1) := by decide +kernel
theorem dX7_leaves_146 : decode cX7_leaves 146 = .ok (.iload_n 3, 1) := by decide +kernel
theorem dX7_leaves_147 : decode cX7_leaves 147 = .ok (.iadd, 1) := by decide +kernel
theorem dX7_leaves_148 : decode cX7_leaves 148 = .ok (.iconst 1, 1) := by decide +kernel
theorem dX7_leaves_149 : decode cX7_leaves 149 = .ok (.iload 4, 2) := by decide +kernel
theorem dX7_leaves_151 : decode cX7_leaves 151 = .ok (.isub, 1) := by decide +kernel
theorem dX7_leaves_152 : decode cX7_leaves 152 = .ok (.iastore, 1) := by decide +kernel
theorem dX7_leaves_153 : decode cX7_leaves 153 = .ok (.goto 132, 3) := by decide +kernel
theorem dX7_leaves_156 : decode cX7_leaves 156 = .ok (.aload_n 1, 1) := by decide +kernel
theorem dX7_leaves_157 : decode cX7_leaves 157 = .ok (.iconst 1, 1) := by decide +kernel
theorem dX7_leaves_158 : decode cX7_leaves 158 = .ok (.iload_n 3, 1) := by decide +kernel
theorem dX7_leaves_159 : decode cX7_leaves 159 = .ok (.iadd, 1) := by decide +kernel
theorem dX7_leaves_160 : decode cX7_leaves 160 = .ok (.aload_n 1, 1) := by decide +kernel
theorem dX7_leaves_161 : decode cX7_leaves 161 = .ok (.bipush 33, 2) := by decide +kernel
theorem dX7_leaves_163 : decode cX7_leaves 163 = .ok (.iload_n 3, 1) := by decide +kernel
theorem dX7_leaves_164 : decode cX7_leaves 164 = .ok (.iadd, 1) := by decide +kernel
theorem dX7_leaves_165 : decode cX7_leaves 165 = .ok (.iaload, 1) := by decide +kernel
theorem dX7_leaves_166 : decode cX7_leaves 166 = .ok (.iconst 2, 1) := by decide +kernel
theorem dX7_leaves_167 : decode cX7_leaves 167 = .ok (.irem, 1) := by decide +kernel
theorem dX7_leaves_168 : decode cX7_leaves 168 = .ok (.ifCond .ne 10, 3) := by decide +kernel
theorem dX7_leaves_171 : decode cX7_leaves 171 = .ok (.iconst 1, 1) := by decide +kernel
theorem dX7_leaves_172 : decode cX7_leaves 172 = .ok (.iload 4, 2) := by decide +kernel
theorem dX7_leaves_174 : decode cX7_leaves 174 = .ok (.isub, 1) := by decide +kernel
theorem dX7_leaves_175 : decode cX7_leaves 175 = .ok (.goto 5, 3) := by decide +kernel
theorem dX7_leaves_178 : decode cX7_leaves 178 = .ok (.iload 4, 2) := by decide +kernel
theorem dX7_leaves_180 : decode cX7_leaves 180 = .ok (.iastore, 1) := by decide +kernel
theorem dX7_leaves_181 : decode cX7_leaves 181 = .ok (.goto 104, 3) := by decide +kernel
theorem dX7_leaves_184 : decode cX7_leaves 184 = .ok (.aload_n 1, 1) := by decide +kernel
theorem dX7_leaves_185 : decode cX7_leaves 185 = .ok (.bipush 25, 2) := by decide +kernel
theorem dX7_leaves_187 : decode cX7_leaves 187 = .ok (.iload_n 3, 1) := by decide +kernel
theorem dX7_leaves_188 : decode cX7_leaves 188 = .ok (.iadd, 1) := by decide +kernel
theorem dX7_leaves_189 : decode cX7_leaves 189 = .ok (.iaload, 1) := by decide +kernel
theorem dX7_leaves_190 : decode cX7_leaves 190 = .ok (.ldc 135, 2) := by decide +kernel
theorem dX7_leaves_192 : decode cX7_leaves 192 = .ok (.if_icmp .ne 21, 3) := by decide +kernel
theorem dX7_leaves_195 : decode cX7_leaves 195 = .ok (.aload_n 1, 1) := by decide +kernel
theorem dX7_leaves_196 : decode cX7_leaves 196 = .ok (.bipush 25, 2) := by decide +kernel
theorem dX7_leaves_198 : decode cX7_leaves 198 = .ok (.iload_n 3, 1) := by decide +kernel
theorem dX7_leaves_199 : decode cX7_leaves 199 = .ok (.iadd, 1) := by decide +kernel
theorem dX7_leaves_200 : decode cX7_leaves 200 = .ok (.iload_n 2, 1) := by decide +kernel
theorem dX7_leaves_201 : decode cX7_leaves 201 = .ok (.iastore, 1) := by decide +kernel
theorem dX7_leaves_202 : decode cX7_leaves 202 = .ok (.aload_n 1, 1) := by decide +kernel
theorem dX7_leaves_203 : decode cX7_leaves 203 = .ok (.bipush 49, 2) := by decide +kernel
theorem dX7_leaves_205 : decode cX7_leaves 205 = .ok (.iload_n 2, 1) := by decide +kernel
theorem dX7_leaves_206 : decode cX7_leaves 206 = .ok (.iadd, 1) := by decide +kernel
theorem dX7_leaves_207 : decode cX7_leaves 207 = .ok (.bipush 20, 2) := by decide +kernel
theorem dX7_leaves_209 : decode cX7_leaves 209 = .ok (.iload_n 3, 1) := by decide +kernel
theorem dX7_leaves_210 : decode cX7_leaves 210 = .ok (.iadd, 1) := by decide +kernel
theorem dX7_leaves_211 : decode cX7_leaves 211 = .ok (.iastore, 1) := by decide +kernel
theorem dX7_leaves_212 : decode cX7_leaves 212 = .ok (.return_, 1) := by decide +kernel
theorem dX7_leaves_213 : decode cX7_leaves 213 = .ok (.aload_n 0, 1) := by decide +kernel
theorem dX7_leaves_214 : decode cX7_leaves 214 = .ok (.aload_n 1, 1) := by decide +kernel
theorem dX7_leaves_215 : decode cX7_leaves 215 = .ok (.aload_n 1, 1) := by decide +kernel
theorem dX7_leaves_216 : decode cX7_leaves 216 = .ok (.bipush 25, 2) := by decide +kernel
theorem dX7_leaves_218 : decode cX7_leaves 218 = .ok (.iload_n 3, 1) := by decide +kernel
theorem dX7_leaves_219 : decode cX7_leaves 219 = .ok (.iadd, 1) := by decide +kernel
theorem dX7_leaves_220 : decode cX7_leaves 220 = .ok (.iaload, 1) := by decide +kernel
theorem dX7_leaves_221 : decode cX7_leaves 221 = .ok (.aload_n 1, 1) := by decide +kernel
theorem dX7_leaves_222 : decode cX7_leaves 222 = .ok (.bipush 9, 2) := by decide +kernel
theorem dX7_leaves_224 : decode cX7_leaves 224 = .ok (.iload_n 3, 1) := by decide +kernel
theorem dX7_leaves_225 : decode cX7_leaves 225 = .ok (.iadd, 1) := by decide +kernel
theorem dX7_leaves_226 : decode cX7_leaves 226 = .ok (.iaload, 1) := by decide +kernel
theorem dX7_leaves_227 : decode cX7_leaves 227 = .ok (.invokevirtual 165, 3) := by decide +kernel
theorem dX7_leaves_230 : decode cX7_leaves 230 = .ok (.aload_n 1, 1) := by decide +kernel
theorem dX7_leaves_231 : decode cX7_leaves 231 = .ok (.bipush 25, 2) := by decide +kernel
theorem dX7_leaves_233 : decode cX7_leaves 233 = .ok (.iload_n 3, 1) := by decide +kernel
theorem dX7_leaves_234 : decode cX7_leaves 234 = .ok (.iadd, 1) := by decide +kernel
theorem dX7_leaves_235 : decode cX7_leaves 235 = .ok (.ldc 135, 2) := by decide +kernel
theorem dX7_leaves_237 : decode cX7_leaves 237 = .ok (.iastore, 1) := by decide +kernel
theorem dX7_leaves_238 : decode cX7_leaves 238 = .ok (.iconst 1, 1) := by decide +kernel
theorem dX7_leaves_239 : decode cX7_leaves 239 = .ok (.istore 4, 2) := by decide +kernel
theorem dX7_leaves_241 : decode cX7_leaves 241 = .ok (.goto 44, 3) := by decide +kernel
theorem dX7_leaves_244 : decode cX7_leaves 244 = .ok (.aload_n 1, 1) := by decide +kernel
theorem dX7_leaves_245 : decode cX7_leaves 245 = .ok (.bipush 55, 2) := by decide +kernel
theorem dX7_leaves_247 : decode cX7_leaves 247 = .ok (.iload_n 2, 1) := by decide +kernel
theorem dX7_leaves_248 : decode cX7_leaves 248 = .ok (.iadd, 1) := by decide +kernel
theorem dX7_leaves_249 : decode cX7_leaves 249 = .ok (.iaload, 1) := by decide +kernel
theorem dX7_leaves_250 : decode cX7_leaves 250 = .ok (.aload_n 0, 1) := by decide +kernel
theorem dX7_leaves_251 : decode cX7_leaves 251 = .ok (.getfield 152, 3) := by decide +kernel
theorem dX7_leaves_254 : decode cX7_leaves 254 = .ok (.if_icmp .lt 7, 3) := by decide +kernel
theorem dX7_leaves_257 : decode cX7_leaves 257 = .ok (.iconst 1, 1) := by decide +kernel
theorem dX7_leaves_258 : decode cX7_leaves 258 = .ok (.goto 4, 3) := by decide +kernel
theorem dX7_leaves_261 : decode cX7_leaves 261 = .ok (.iconst 0, 1) := by decide +kernel
theorem dX7_leaves_262 : decode cX7_leaves 262 = .ok (.istore 4, 2) := by decide +kernel
theorem dX7_leaves_264 : decode cX7_leaves 264 = .ok (.goto 21, 3) := by decide +kernel
theorem dX7_leaves_267 : decode cX7_leaves 267 = .ok (.aload_n 1, 1) := by decide +kernel
theorem dX7_leaves_268 : decode cX7_leaves 268 = .ok (.bipush 41, 2) := by decide +kernel
theorem dX7_leaves_270 : decode cX7_leaves 270 = .ok (.iload_n 3, 1) := by decide +kernel
theorem dX7_leaves_271 : decode cX7_leaves 271 = .ok (.iadd, 1) := by decide +kernel
theorem dX7_leaves_272 : decode cX7_leaves 272 = .ok (.iaload, 1) := by decide +kernel
theorem dX7_leaves_273 : decode cX7_leaves 273 = .ok (.iconst 2, 1) := by decide +kernel
theorem dX7_leaves_274 : decode cX7_leaves 274 = .ok (.irem, 1) := by decide +kernel
theorem dX7_leaves_275 : decode cX7_leaves 275 = .ok (.ifCond .ne 7, 3) := by decide +kernel
theorem dX7_leaves_278 : decode cX7_leaves 278 = .ok (.iconst 1, 1) := by decide +kernel
theorem dX7_leaves_279 : decode cX7_leaves 279 = .ok (.goto 4, 3) := by decide +kernel
theorem dX7_leaves_282 : decode cX7_leaves 282 = .ok (.iconst 0, 1) := by decide +kernel
theorem dX7_leaves_283 : decode cX7_leaves 283 = .ok (.istore 4, 2) := by decide +kernel
theorem dX7_leaves_285 : decode cX7_leaves 285 = .ok (.aload_n 0, 1) := by decide +kernel
theorem dX7_leaves_286 : decode cX7_leaves 286 = .ok (.aload_n 1, 1) := by decide +kernel
theorem dX7_leaves_287 : decode cX7_leaves 287 = .ok (.iload_n 2, 1) := by decide +kernel
theorem dX7_leaves_288 : decode cX7_leaves 288 = .ok (.aload_n 1, 1) := by decide +kernel
theorem dX7_leaves_289 : decode cX7_leaves 289 = .ok (.iload 4, 2) := by decide +kernel
theorem dX7_leaves_291 : decode cX7_leaves 291 = .ok (.iconst 1, 1) := by decide +kernel
theorem dX7_leaves_292 : decode cX7_leaves 292 = .ok (.if_icmp .ne 10, 3) := by decide +kernel
theorem dX7_leaves_295 : decode cX7_leaves 295 = .ok (.bipush 17, 2) := by decide +kernel
theorem dX7_leaves_297 : decode cX7_leaves 297 = .ok (.iload_n 3, 1) := by decide +kernel
theorem dX7_leaves_298 : decode cX7_leaves 298 = .ok (.iadd, 1) := by decide +kernel
theorem dX7_leaves_299 : decode cX7_leaves 299 = .ok (.goto 7, 3) := by decide +kernel
theorem dX7_leaves_302 : decode cX7_leaves 302 = .ok (.bipush 9, 2) := by decide +kernel
theorem dX7_leaves_304 : decode cX7_leaves 304 = .ok (.iload_n 3, 1) := by decide +kernel
theorem dX7_leaves_305 : decode cX7_leaves 305 = .ok (.iadd, 1) := by decide +kernel
theorem dX7_leaves_306 : decode cX7_leaves 306 = .ok (.iaload, 1) := by decide +kernel
theorem dX7_leaves_307 : decode cX7_leaves 307 = .ok (.invokevirtual 165, 3) := by decide +kernel
theorem dX7_leaves_310 : decode cX7_leaves 310 = .ok (.return_, 1) := by decide +kernel
theorem dX7_tickOn_0 : decode cX7_tickOn 0 = .ok (.iconst 0, 1) := by decide +kernel
theorem dX7_tickOn_1 : decode cX7_tickOn 1 = .ok (.istore_n 2, 1) := by decide +kernel
theorem dX7_tickOn_2 : decode cX7_tickOn 2 = .ok (.iconst 0, 1) := by decide +kernel
theorem dX7_tickOn_3 : decode cX7_tickOn 3 = .ok (.istore_n 3, 1) := by decide +kernel
theorem dX7_tickOn_4 : decode cX7_tickOn 4 = .ok (.iload_n 3, 1) := by decide +kernel
theorem dX7_tickOn_5 : decode cX7_tickOn 5 = .ok (.aload_n 0, 1) := by decide +kernel
theorem dX7_tickOn_6 : decode cX7_tickOn 6 = .ok (.getfield 74, 3) := by decide +kernel
theorem dX7_tickOn_9 : decode cX7_tickOn 9 = .ok (.if_icmp .ge 60, 3) := by decide +kernel
theorem dX7_tickOn_12 : decode cX7_tickOn 12 = .ok (.aload_n 1, 1) := by decide +kernel
theorem dX7_tickOn_13 : decode cX7_tickOn 13 = .ok (.bipush 49, 2) := by decide +kernel
theorem dX7_tickOn_15 : decode cX7_tickOn 15 = .ok (.iload_n 3, 1) := by decide +kernel
theorem dX7_tickOn_16 : decode cX7_tickOn 16 = .ok (.iadd, 1) := by decide +kernel
theorem dX7_tickOn_17 : decode cX7_tickOn 17 = .ok (.iaload, 1) := by decide +kernel
theorem dX7_tickOn_18 : decode cX7_tickOn 18 = .ok (.bipush 10, 2) := by decide +kernel
theorem dX7_tickOn_20 : decode cX7_tickOn 20 = .ok (.if_icmp .ne 22, 3) := by decide +kernel
theorem dX7_tickOn_23 : decode cX7_tickOn 23 = .ok (.aload_n 1, 1) := by decide +kernel
theorem dX7_tickOn_24 : decode cX7_tickOn 24 = .ok (.bipush 61, 2) := by decide +kernel
theorem dX7_tickOn_26 : decode cX7_tickOn 26 = .ok (.iload_n 3, 1) := by decide +kernel
theorem dX7_tickOn_27 : decode cX7_tickOn 27 = .ok (.iadd, 1) := by decide +kernel
theorem dX7_tickOn_28 : decode cX7_tickOn 28 = .ok (.iaload, 1) := by decide +kernel
theorem dX7_tickOn_29 : decode cX7_tickOn 29 = .ok (.aload_n 1, 1) := by decide +kernel
theorem dX7_tickOn_30 : decode cX7_tickOn 30 = .ok (.iconst 0, 1) := by decide +kernel
theorem dX7_tickOn_31 : decode cX7_tickOn 31 = .ok (.iaload, 1) := by decide +kernel
theorem dX7_tickOn_32 : decode cX7_tickOn 32 = .ok (.if_icmp .gt 10, 3) := by decide +kernel
theorem dX7_tickOn_35 : decode cX7_tickOn 35 = .ok (.aload_n 1, 1) := by decide +kernel
theorem dX7_tickOn_36 : decode cX7_tickOn 36 = .ok (.bipush 49, 2) := by decide +kernel
theorem dX7_tickOn_38 : decode cX7_tickOn 38 = .ok (.iload_n 3, 1) := by decide +kernel
theorem dX7_tickOn_39 : decode cX7_tickOn 39 = .ok (.iadd, 1) := by decide +kernel
theorem dX7_tickOn_40 : decode cX7_tickOn 40 = .ok (.iconst 0, 1) := by decide +kernel
theorem dX7_tickOn_41 : decode cX7_tickOn 41 = .ok (.iastore, 1) := by decide +kernel
theorem dX7_tickOn_42 : decode cX7_tickOn 42 = .ok (.iload_n 2, 1) := by decide +kernel
theorem dX7_tickOn_43 : decode cX7_tickOn 43 = .ok (.aload_n 1, 1) := by decide +kernel
theorem dX7_tickOn_44 : decode cX7_tickOn 44 = .ok (.bipush 49, 2) := by decide +kernel
theorem dX7_tickOn_46 : decode cX7_tickOn 46 = .ok (.iload_n 3, 1) := by decide +kernel
theorem dX7_tickOn_47 : decode cX7_tickOn 47 = .ok (.iadd, 1) := by decide +kernel
theorem dX7_tickOn_48 : decode cX7_tickOn 48 = .ok (.iaload, 1) := by decide +kernel
theorem dX7_tickOn_49 : decode cX7_tickOn 49 = .ok (.bipush 8, 2) := by decide +kernel
theorem dX7_tickOn_51 : decode cX7_tickOn 51 = .ok (.if_icmp .ge 9, 3) := by decide +kernel
theorem dX7_tickOn_54 : decode cX7_tickOn 54 = .ok (.iconst 1, 1) := by decide +kernel
theorem dX7_tickOn_55 : decode cX7_tickOn 55 = .ok (.iload_n 3, 1) := by decide +kernel
theorem dX7_tickOn_56 : decode cX7_tickOn 56 = .ok (.ishl, 1) := by decide +kernel
theorem dX7_tickOn_57 : decode cX7_tickOn 57 = .ok (.goto 4, 3) := by decide +kernel
theorem dX7_tickOn_60 : decode cX7_tickOn 60 = .ok (.iconst 0, 1) := by decide +kernel
theorem dX7_tickOn_61 : decode cX7_tickOn 61 = .ok (.ior, 1) := by decide +kernel
theorem dX7_tickOn_62 : decode cX7_tickOn 62 = .ok (.istore_n 2, 1) := by decide +kernel
theorem dX7_tickOn_63 : decode cX7_tickOn 63 = .ok (.iinc 3 1, 3) := by decide +kernel
theorem dX7_tickOn_66 : decode cX7_tickOn 66 = .ok (.goto (-62), 3) := by decide +kernel
theorem dX7_tickOn_69 : decode cX7_tickOn 69 = .ok (.iconst 0, 1) := by decide +kernel
theorem dX7_tickOn_70 : decode cX7_tickOn 70 = .ok (.istore_n 3, 1) := by decide +kernel
theorem dX7_tickOn_71 : decode cX7_tickOn 71 = .ok (.iload_n 3, 1) := by decide +kernel
theorem dX7_tickOn_72 : decode cX7_tickOn 72 = .ok (.aload_n 0, 1) := by decide +kernel
theorem dX7_tickOn_73 : decode cX7_tickOn 73 = .ok (.getfield 74, 3) := by decide +kernel
theorem dX7_tickOn_76 : decode cX7_tickOn 76 = .ok (.if_icmp .ge 24, 3) := by decide +kernel
theorem dX7_tickOn_79 : decode cX7_tickOn 79 = .ok (.iload_n 2, 1) := by decide +kernel
theorem dX7_tickOn_80 : decode cX7_tickOn 80 = .ok (.iload_n 3, 1) := by decide +kernel
theorem dX7_tickOn_81 : decode cX7_tickOn 81 = .ok (.ishr, 1) := by decide +kernel
theorem dX7_tickOn_82 : decode cX7_tickOn 82 = .ok (.iconst 1, 1) := by decide +kernel
theorem dX7_tickOn_83 : decode cX7_tickOn 83 = .ok (.iand, 1) := by decide +kernel
theorem dX7_tickOn_84 : decode cX7_tickOn 84 = .ok (.iconst 1, 1) := by decide +kernel
theorem dX7_tickOn_85 : decode cX7_tickOn 85 = .ok (.if_icmp .ne 9, 3) := by decide +kernel
theorem dX7_tickOn_88 : decode cX7_tickOn 88 = .ok (.aload_n 0, 1) := by decide +kernel
theorem dX7_tickOn_89 : decode cX7_tickOn 89 = .ok (.aload_n 1, 1) := by decide +kernel
theorem dX7_tickOn_90 : decode cX7_tickOn 90 = .ok (.iload_n 3, 1) := by decide +kernel
theorem dX7_tickOn_91 : decode cX7_tickOn 91 = .ok (.invokevirtual 169, 3) := by decide +kernel
theorem dX7_tickOn_94 : decode cX7_tickOn 94 = .ok (.iinc 3 1, 3) := by decide +kernel
theorem dX7_tickOn_97 : decode cX7_tickOn 97 = .ok (.goto (-26), 3) := by decide +kernel
theorem dX7_tickOn_100 : decode cX7_tickOn 100 = .ok (.aload_n 1, 1) := by decide +kernel
theorem dX7_tickOn_101 : decode cX7_tickOn 101 = .ok (.iconst 0, 1) := by decide +kernel
theorem dX7_tickOn_102 : decode cX7_tickOn 102 = .ok (.dup2, 1) := by decide +kernel
theorem dX7_tickOn_103 : decode cX7_tickOn 103 = .ok (.iaload, 1) := by decide +kernel
theorem dX7_tickOn_104 : decode cX7_tickOn 104 = .ok (.iconst 1, 1) := by decide +kernel
theorem dX7_tickOn_105 : decode cX7_tickOn 105 = .ok (.iadd, 1) := by decide +kernel
theorem dX7_tickOn_106 : decode cX7_tickOn 106 = .ok (.iastore, 1) := by decide +kernel
theorem dX7_tickOn_107 : decode cX7_tickOn 107 = .ok (.return_, 1) := by decide +kernel
theorem dX7_those_0 : decode cX7_those 0 = .ok (.iconst 0, 1) := by decide +kernel
theorem dX7_those_1 : decode cX7_those 1 = .ok (.istore 4, 2) := by decide +kernel
theorem dX7_those_3 : decode cX7_those 3 = .ok (.iconst 0, 1) := by decide +kernel
theorem dX7_those_4 : decode cX7_those 4 = .ok (.istore 5, 2) := by decide +kernel
theorem dX7_those_6 : decode cX7_those 6 = .ok (.iload 5, 2) := by decide +kernel
theorem dX7_those_8 : decode cX7_those 8 = .ok (.aload_n 0, 1) := by decide +kernel
theorem dX7_those_9 : decode cX7_those 9 = .ok (.getfield 74, 3) := by decide +kernel
theorem dX7_those_12 : decode cX7_those 12 = .ok (.if_icmp .ge 37, 3) := by decide +kernel
theorem dX7_those_15 : decode cX7_those 15 = .ok (.iload 4, 2) := by decide +kernel
theorem dX7_those_17 : decode cX7_those 17 = .ok (.aload_n 1, 1) := by decide +kernel
theorem dX7_those_18 : decode cX7_those 18 = .ok (.bipush 49, 2) := by decide +kernel
theorem dX7_those_20 : decode cX7_those 20 = .ok (.iload 5, 2) := by decide +kernel
theorem dX7_those_22 : decode cX7_those 22 = .ok (.iadd, 1) := by decide +kernel
theorem dX7_those_23 : decode cX7_those 23 = .ok (.iaload, 1) := by decide +kernel
theorem dX7_those_24 : decode cX7_those 24 = .ok (.iload_n 2, 1) := by decide +kernel
theorem dX7_those_25 : decode cX7_those 25 = .ok (.iload_n 3, 1) := by decide +kernel
theorem dX7_those_26 : decode cX7_those 26 = .ok (.invokestatic 70, 3) := by decide +kernel
theorem dX7_those_29 : decode cX7_those 29 = .ok (.ifCond .eq 10, 3) := by decide +kernel
theorem dX7_those_32 : decode cX7_those 32 = .ok (.iconst 1, 1) := by decide +kernel
theorem dX7_those_33 : decode cX7_those 33 = .ok (.iload 5, 2) := by decide +kernel
theorem dX7_those_35 : decode cX7_those 35 = .ok (.ishl, 1) := by decide +kernel
theorem dX7_those_36 : decode cX7_those 36 = .ok (.goto 4, 3) := by decide +kernel
theorem dX7_those_39 : decode cX7_those 39 = .ok (.iconst 0, 1) := by decide +kernel
theorem dX7_those_40 : decode cX7_those 40 = .ok (.ior, 1) := by decide +kernel
theorem dX7_those_41 : decode cX7_those 41 = .ok (.istore 4, 2) := by decide +kernel
theorem dX7_those_43 : decode cX7_those 43 = .ok (.iinc 5 1, 3) := by decide +kernel
theorem dX7_those_46 : decode cX7_those 46 = .ok (.goto (-40), 3) := by decide +kernel
theorem dX7_those_49 : decode cX7_those 49 = .ok (.iload 4, 2) := by decide +kernel
theorem dX7_those_51 : decode cX7_those 51 = .ok (.ireturn, 1) := by decide +kernel
theorem dX7_isInTray_0 : decode cX7_isInTray 0 = .ok (.aload_n 1, 1) := by decide +kernel
theorem dX7_isInTray_1 : decode cX7_isInTray 1 = .ok (.bipush 49, 2) := by decide +kernel
theorem dX7_isInTray_3 : decode cX7_isInTray 3 = .ok (.iload_n 2, 1) := by decide +kernel
theorem dX7_isInTray_4 : decode cX7_isInTray 4 = .ok (.iadd, 1) := by decide +kernel
theorem dX7_isInTray_5 : decode cX7_isInTray 5 = .ok (.iaload, 1) := by decide +kernel
theorem dX7_isInTray_6 : decode cX7_isInTray 6 = .ok (.bipush 8, 2) := by decide +kernel
theorem dX7_isInTray_8 : decode cX7_isInTray 8 = .ok (.if_icmp .eq 14, 3) := by decide +kernel
theorem dX7_isInTray_11 : decode cX7_isInTray 11 = .ok (.aload_n 1, 1) := by decide +kernel
theorem dX7_isInTray_12 : decode cX7_isInTray 12 = .ok (.bipush 49, 2) := by decide +kernel
theorem dX7_isInTray_14 : decode cX7_isInTray 14 = .ok (.iload_n 2, 1) := by decide +kernel
theorem dX7_isInTray_15 : decode cX7_isInTray 15 = .ok (.iadd, 1) := by decide +kernel
theorem dX7_isInTray_16 : decode cX7_isInTray 16 = .ok (.iaload, 1) := by decide +kernel
theorem dX7_isInTray_17 : decode cX7_isInTray 17 = .ok (.bipush 9, 2) := by decide +kernel
theorem dX7_isInTray_19 : decode cX7_isInTray 19 = .ok (.if_icmp .ne 7, 3) := by decide +kernel
theorem dX7_isInTray_22 : decode cX7_isInTray 22 = .ok (.iconst 1, 1) := by decide +kernel
theorem dX7_isInTray_23 : decode cX7_isInTray 23 = .ok (.goto 4, 3) := by decide +kernel
theorem dX7_isInTray_26 : decode cX7_isInTray 26 = .ok (.iconst 0, 1) := by decide +kernel
theorem dX7_isInTray_27 : decode cX7_isInTray 27 = .ok (.ireturn, 1) := by decide +kernel
theorem dX7_notes_0 : decode cX7_notes 0 = .ok (.aload_n 0, 1) := by decide +kernel
theorem dX7_notes_1 : decode cX7_notes 1 = .ok (.getfield 159, 3) := by decide +kernel
theorem dX7_notes_4 : decode cX7_notes 4 = .ok (.bipush 24, 2) := by decide +kernel
theorem dX7_notes_6 : decode cX7_notes 6 = .ok (.if_icmp .ne 30, 3) := by decide +kernel
theorem dX7_notes_9 : decode cX7_notes 9 = .ok (.aload_n 0, 1) := by decide +kernel
theorem dX7_notes_10 : decode cX7_notes 10 = .ok (.getfield 28, 3) := by decide +kernel
theorem dX7_notes_13 : decode cX7_notes 13 = .ok (.bipush 67, 2) := by decide +kernel
theorem dX7_notes_15 : decode cX7_notes 15 = .ok (.aload_n 0, 1) := by decide +kernel
theorem dX7_notes_16 : decode cX7_notes 16 = .ok (.getfield 28, 3) := by decide +kernel
theorem dX7_notes_19 : decode cX7_notes 19 = .ok (.iconst 0, 1) := by decide +kernel
theorem dX7_notes_20 : decode cX7_notes 20 = .ok (.sipush 1541, 3) := by decide +kernel
theorem dX7_notes_23 : decode cX7_notes 23 = .ok (.invokestatic 155, 3) := by decide +kernel
theorem dX7_notes_26 : decode cX7_notes 26 = .ok (.aload_n 0, 1) := by decide +kernel
theorem dX7_notes_27 : decode cX7_notes 27 = .ok (.dup, 1) := by decide +kernel
theorem dX7_notes_28 : decode cX7_notes 28 = .ok (.getfield 159, 3) := by decide +kernel
theorem dX7_notes_31 : decode cX7_notes 31 = .ok (.iconst 1, 1) := by decide +kernel
theorem dX7_notes_32 : decode cX7_notes 32 = .ok (.isub, 1) := by decide +kernel
theorem dX7_notes_33 : decode cX7_notes 33 = .ok (.putfield 159, 3) := by decide +kernel
theorem dX7_notes_36 : decode cX7_notes 36 = .ok (.aload_n 0, 1) := by decide +kernel
theorem dX7_notes_37 : decode cX7_notes 37 = .ok (.getfield 25, 3) := by decide +kernel
theorem dX7_notes_40 : decode cX7_notes 40 = .ok (.iconst 0, 1) := by decide +kernel
theorem dX7_notes_41 : decode cX7_notes 41 = .ok (.aload_n 0, 1) := by decide +kernel
theorem dX7_notes_42 : decode cX7_notes 42 = .ok (.getfield 28, 3) := by decide +kernel
theorem dX7_notes_45 : decode cX7_notes 45 = .ok (.bipush 67, 2) := by decide +kernel
theorem dX7_notes_47 : decode cX7_notes 47 = .ok (.aload_n 0, 1) := by decide +kernel
theorem dX7_notes_48 : decode cX7_notes 48 = .ok (.getfield 159, 3) := by decide +kernel
theorem dX7_notes_51 : decode cX7_notes 51 = .ok (.imul, 1) := by decide +kernel
theorem dX7_notes_52 : decode cX7_notes 52 = .ok (.bipush 67, 2) := by decide +kernel
theorem dX7_notes_54 : decode cX7_notes 54 = .ok (.invokestatic 155, 3) := by decide +kernel
theorem dX7_notes_57 : decode cX7_notes 57 = .ok (.aload_n 0, 1) := by decide +kernel
theorem dX7_notes_58 : decode cX7_notes 58 = .ok (.dup, 1) := by decide +kernel
theorem dX7_notes_59 : decode cX7_notes 59 = .ok (.getfield 159, 3) := by decide +kernel
theorem dX7_notes_62 : decode cX7_notes 62 = .ok (.iconst 1, 1) := by decide +kernel
theorem dX7_notes_63 : decode cX7_notes 63 = .ok (.iadd, 1) := by decide +kernel
theorem dX7_notes_64 : decode cX7_notes 64 = .ok (.putfield 159, 3) := by decide +kernel
theorem dX7_notes_67 : decode cX7_notes 67 = .ok (.return_, 1) := by decide +kernel
theorem dX7_undo_0 : decode cX7_undo 0 = .ok (.aload_n 0, 1) := by decide +kernel
theorem dX7_undo_1 : decode cX7_undo 1 = .ok (.getfield 159, 3) := by decide +kernel
theorem dX7_undo_4 : decode cX7_undo 4 = .ok (.ifCond .ne 6, 3) := by decide +kernel
theorem dX7_undo_7 : decode cX7_undo 7 = .ok (.ldc 173, 2) := by decide +kernel
theorem dX7_undo_9 : decode cX7_undo 9 = .ok (.ireturn, 1) := by decide +kernel
theorem dX7_undo_10 : decode cX7_undo 10 = .ok (.aload_n 0, 1) := by decide +kernel
theorem dX7_undo_11 : decode cX7_undo 11 = .ok (.dup, 1) := by decide +kernel
theorem dX7_undo_12 : decode cX7_undo 12 = .ok (.getfield 159, 3) := by decide +kernel
theorem dX7_undo_15 : decode cX7_undo 15 = .ok (.iconst 1, 1) := by decide +kernel
theorem dX7_undo_16 : decode cX7_undo 16 = .ok (.isub, 1) := by decide +kernel
theorem dX7_undo_17 : decode cX7_undo 17 = .ok (.putfield 159, 3) := by decide +kernel
theorem dX7_undo_20 : decode cX7_undo 20 = .ok (.aload_n 0, 1) := by decide +kernel
theorem dX7_undo_21 : decode cX7_undo 21 = .ok (.getfield 28, 3) := by decide +kernel
theorem dX7_undo_24 : decode cX7_undo 24 = .ok (.bipush 67, 2) := by decide +kernel
theorem dX7_undo_26 : decode cX7_undo 26 = .ok (.aload_n 0, 1) := by decide +kernel
theorem dX7_undo_27 : decode cX7_undo 27 = .ok (.getfield 159, 3) := by decide +kernel
theorem dX7_undo_30 : decode cX7_undo 30 = .ok (.imul, 1) := by decide +kernel
theorem dX7_undo_31 : decode cX7_undo 31 = .ok (.aload_n 0, 1) := by decide +kernel
theorem dX7_undo_32 : decode cX7_undo 32 = .ok (.getfield 25, 3) := by decide +kernel
theorem dX7_undo_35 : decode cX7_undo 35 = .ok (.iconst 0, 1) := by decide +kernel
theorem dX7_undo_36 : decode cX7_undo 36 = .ok (.bipush 67, 2) := by decide +kernel
theorem dX7_undo_38 : decode cX7_undo 38 = .ok (.invokestatic 155, 3) := by decide +kernel
theorem dX7_undo_41 : decode cX7_undo 41 = .ok (.aload_n 0, 1) := by decide +kernel
theorem dX7_undo_42 : decode cX7_undo 42 = .ok (.getfield 159, 3) := by decide +kernel
theorem dX7_undo_45 : decode cX7_undo 45 = .ok (.ireturn, 1) := by decide +kernel
theorem dX7_ticks_0 : decode cX7_ticks 0 = .ok (.aload_n 0, 1) := by decide +kernel
theorem dX7_ticks_1 : decode cX7_ticks 1 = .ok (.invokevirtual 174, 3) := by decide +kernel
theorem dX7_ticks_4 : decode cX7_ticks 4 = .ok (.ifCond .eq 6, 3) := by decide +kernel
theorem dX7_ticks_7 : decode cX7_ticks 7 = .ok (.ldc 173, 2) := by decide +kernel
theorem dX7_ticks_9 : decode cX7_ticks 9 = .ok (.ireturn, 1) := by decide +kernel
theorem dX7_ticks_10 : decode cX7_ticks 10 = .ok (.iload_n 1, 1) := by decide +kernel
theorem dX7_ticks_11 : decode cX7_ticks 11 = .ok (.iconst 1, 1) := by decide +kernel
theorem dX7_ticks_12 : decode cX7_ticks 12 = .ok (.bipush 24, 2) := by decide +kernel
theorem dX7_ticks_14 : decode cX7_ticks 14 = .ok (.invokestatic 70, 3) := by decide +kernel
theorem dX7_ticks_17 : decode cX7_ticks 17 = .ok (.ifCond .ne 6, 3) := by decide +kernel
theorem dX7_ticks_20 : decode cX7_ticks 20 = .ok (.ldc 84, 2) := by decide +kernel
theorem dX7_ticks_22 : decode cX7_ticks 22 = .ok (.ireturn, 1) := by decide +kernel
theorem dX7_ticks_23 : decode cX7_ticks 23 = .ok (.aload_n 0, 1) := by decide +kernel
theorem dX7_ticks_24 : decode cX7_ticks 24 = .ok (.getfield 25, 3) := by decide +kernel
theorem dX7_ticks_27 : decode cX7_ticks 27 = .ok (.iconst 0, 1) := by decide +kernel
theorem dX7_ticks_28 : decode cX7_ticks 28 = .ok (.iaload, 1) := by decide +kernel
theorem dX7_ticks_29 : decode cX7_ticks 29 = .ok (.iload_n 1, 1) := by decide +kernel
theorem dX7_ticks_30 : decode cX7_ticks 30 = .ok (.iadd, 1) := by decide +kernel
theorem dX7_ticks_31 : decode cX7_ticks 31 = .ok (.sipush 999, 3) := by decide +kernel
theorem dX7_ticks_34 : decode cX7_ticks 34 = .ok (.if_icmp .le 6, 3) := by decide +kernel
theorem dX7_ticks_37 : decode cX7_ticks 37 = .ok (.ldc 99, 2) := by decide +kernel
theorem dX7_ticks_39 : decode cX7_ticks 39 = .ok (.ireturn, 1) := by decide +kernel
theorem dX7_ticks_40 : decode cX7_ticks 40 = .ok (.iconst 0, 1) := by decide +kernel
theorem dX7_ticks_41 : decode cX7_ticks 41 = .ok (.istore_n 2, 1) := by decide +kernel
theorem dX7_ticks_42 : decode cX7_ticks 42 = .ok (.iload_n 2, 1) := by decide +kernel
theorem dX7_ticks_43 : decode cX7_ticks 43 = .ok (.iload_n 1, 1) := by decide +kernel
theorem dX7_ticks_44 : decode cX7_ticks 44 = .ok (.if_icmp .ge 21, 3) := by decide +kernel
theorem dX7_ticks_47 : decode cX7_ticks 47 = .ok (.aload_n 0, 1) := by decide +kernel
theorem dX7_ticks_48 : decode cX7_ticks 48 = .ok (.invokevirtual 178, 3) := by decide +kernel
theorem dX7_ticks_51 : decode cX7_ticks 51 = .ok (.aload_n 0, 1) := by decide +kernel
theorem dX7_ticks_52 : decode cX7_ticks 52 = .ok (.aload_n 0, 1) := by decide +kernel
theorem dX7_ticks_53 : decode cX7_ticks 53 = .ok (.getfield 25, 3) := by decide +kernel
theorem dX7_ticks_56 : decode cX7_ticks 56 = .ok (.invokevirtual 181, 3) := by decide +kernel
theorem dX7_ticks_59 : decode cX7_ticks 59 = .ok (.iinc 2 1, 3) := by decide +kernel
theorem dX7_ticks_62 : decode cX7_ticks 62 = .ok (.goto (-20), 3) := by decide +kernel
theorem dX7_ticks_65 : decode cX7_ticks 65 = .ok (.aload_n 0, 1) := by decide +kernel
theorem dX7_ticks_66 : decode cX7_ticks 66 = .ok (.aload_n 0, 1) := by decide +kernel
theorem dX7_ticks_67 : decode cX7_ticks 67 = .ok (.getfield 25, 3) := by decide +kernel
theorem dX7_ticks_70 : decode cX7_ticks 70 = .ok (.bipush 9, 2) := by decide +kernel
theorem dX7_ticks_72 : decode cX7_ticks 72 = .ok (.bipush 9, 2) := by decide +kernel
theorem dX7_ticks_74 : decode cX7_ticks 74 = .ok (.invokevirtual 185, 3) := by decide +kernel
theorem dX7_ticks_77 : decode cX7_ticks 77 = .ok (.ireturn, 1) := by decide +kernel
theorem dX7_tip_0 : decode cX7_tip 0 = .ok (.aload_n 0, 1) := by decide +kernel
theorem dX7_tip_1 : decode cX7_tip 1 = .ok (.iload_n 1, 1) := by decide +kernel
theorem dX7_tip_2 : decode cX7_tip 2 = .ok (.invokevirtual 189, 3) := by decide +kernel
theorem dX7_tip_5 : decode cX7_tip 5 = .ok (.ifCond .ne 6, 3) := by decide +kernel
theorem dX7_tip_8 : decode cX7_tip 8 = .ok (.ldc 84, 2) := by decide +kernel
theorem dX7_tip_10 : decode cX7_tip 10 = .ok (.ireturn, 1) := by decide +kernel
theorem dX7_tip_11 : decode cX7_tip 11 = .ok (.aload_n 0, 1) := by decide +kernel
theorem dX7_tip_12 : decode cX7_tip 12 = .ok (.invokevirtual 178, 3) := by decide +kernel
theorem dX7_tip_15 : decode cX7_tip 15 = .ok (.aload_n 0, 1) := by decide +kernel
theorem dX7_tip_16 : decode cX7_tip 16 = .ok (.getfield 25, 3) := by decide +kernel
theorem dX7_tip_19 : decode cX7_tip 19 = .ok (.iconst 1, 1) := by decide +kernel
theorem dX7_tip_20 : decode cX7_tip 20 = .ok (.iload_n 1, 1) := by decide +kernel
theorem dX7_tip_21 : decode cX7_tip 21 = .ok (.iadd, 1) := by decide +kernel
theorem dX7_tip_22 : decode cX7_tip 22 = .ok (.iconst 1, 1) := by decide +kernel
theorem dX7_tip_23 : decode cX7_tip 23 = .ok (.aload_n 0, 1) := by decide +kernel
theorem dX7_tip_24 : decode cX7_tip 24 = .ok (.getfield 25, 3) := by decide +kernel
theorem dX7_tip_27 : decode cX7_tip 27 = .ok (.iconst 1, 1) := by decide +kernel
theorem dX7_tip_28 : decode cX7_tip 28 = .ok (.iload_n 1, 1) := by decide +kernel
theorem dX7_tip_29 : decode cX7_tip 29 = .ok (.iadd, 1) := by decide +kernel
theorem dX7_tip_30 : decode cX7_tip 30 = .ok (.iaload, 1) := by decide +kernel
theorem dX7_tip_31 : decode cX7_tip 31 = .ok (.isub, 1) := by decide +kernel
theorem dX7_tip_32 : decode cX7_tip 32 = .ok (.iastore, 1) := by decide +kernel
theorem dX7_tip_33 : decode cX7_tip 33 = .ok (.aload_n 0, 1) := by decide +kernel
theorem dX7_tip_34 : decode cX7_tip 34 = .ok (.getfield 25, 3) := by decide +kernel
theorem dX7_tip_37 : decode cX7_tip 37 = .ok (.iconst 1, 1) := by decide +kernel
theorem dX7_tip_38 : decode cX7_tip 38 = .ok (.iload_n 1, 1) := by decide +kernel
theorem dX7_tip_39 : decode cX7_tip 39 = .ok (.iadd, 1) := by decide +kernel
theorem dX7_tip_40 : decode cX7_tip 40 = .ok (.iaload, 1) := by decide +kernel
theorem dX7_tip_41 : decode cX7_tip 41 = .ok (.ireturn, 1) := by decide +kernel
theorem dX7_lead_0 : decode cX7_lead 0 = .ok (.aload_n 0, 1) := by decide +kernel
theorem dX7_lead_1 : decode cX7_lead 1 = .ok (.iload_n 1, 1) := by decide +kernel
theorem dX7_lead_2 : decode cX7_lead 2 = .ok (.invokevirtual 189, 3) := by decide +kernel
theorem dX7_lead_5 : decode cX7_lead 5 = .ok (.ifCond .eq 24, 3) := by decide +kernel
theorem dX7_lead_8 : decode cX7_lead 8 = .ok (.iload_n 2, 1) := by decide +kernel
theorem dX7_lead_9 : decode cX7_lead 9 = .ok (.iconst 0, 1) := by decide +kernel
theorem dX7_lead_10 : decode cX7_lead 10 = .ok (.iconst 1, 1) := by decide +kernel
theorem dX7_lead_11 : decode cX7_lead 11 = .ok (.invokestatic 70, 3) := by decide +kernel
theorem dX7_lead_14 : decode cX7_lead 14 = .ok (.ifCond .eq 15, 3) := by decide +kernel
theorem dX7_lead_17 : decode cX7_lead 17 = .ok (.iload_n 3, 1) := by decide +kernel
theorem dX7_lead_18 : decode cX7_lead 18 = .ok (.iload_n 1, 1) := by decide +kernel
theorem dX7_lead_19 : decode cX7_lead 19 = .ok (.iconst 1, 1) := by decide +kernel
theorem dX7_lead_20 : decode cX7_lead 20 = .ok (.iadd, 1) := by decide +kernel
theorem dX7_lead_21 : decode cX7_lead 21 = .ok (.bipush 9, 2) := by decide +kernel
theorem dX7_lead_23 : decode cX7_lead 23 = .ok (.invokestatic 70, 3) := by decide +kernel
theorem dX7_lead_26 : decode cX7_lead 26 = .ok (.ifCond .ne 6, 3) := by decide +kernel
theorem dX7_lead_29 : decode cX7_lead 29 = .ok (.ldc 84, 2) := by decide +kernel
theorem dX7_lead_31 : decode cX7_lead 31 = .ok (.ireturn, 1) := by decide +kernel
theorem dX7_lead_32 : decode cX7_lead 32 = .ok (.iload_n 2, 1) := by decide +kernel
theorem dX7_lead_33 : decode cX7_lead 33 = .ok (.ifCond .ne 10, 3) := by decide +kernel
theorem dX7_lead_36 : decode cX7_lead 36 = .ok (.bipush 9, 2) := by decide +kernel
theorem dX7_lead_38 : decode cX7_lead 38 = .ok (.iload_n 1, 1) := by decide +kernel
theorem dX7_lead_39 : decode cX7_lead 39 = .ok (.iadd, 1) := by decide +kernel
theorem dX7_lead_40 : decode cX7_lead 40 = .ok (.goto 7, 3) := by decide +kernel
theorem dX7_lead_43 : decode cX7_lead 43 = .ok (.bipush 17, 2) := by decide +kernel
theorem dX7_lead_45 : decode cX7_lead 45 = .ok (.iload_n 1, 1) := by decide +kernel
theorem dX7_lead_46 : decode cX7_lead 46 = .ok (.iadd, 1) := by decide +kernel
theorem dX7_lead_47 : decode cX7_lead 47 = .ok (.istore 4, 2) := by decide +kernel
theorem dX7_lead_49 : decode cX7_lead 49 = .ok (.aload_n 0, 1) := by decide +kernel
theorem dX7_lead_50 : decode cX7_lead 50 = .ok (.getfield 25, 3) := by decide +kernel
theorem dX7_lead_53 : decode cX7_lead 53 = .ok (.iload 4, 2) := by decide +kernel
theorem dX7_lead_55 : decode cX7_lead 55 = .ok (.iaload, 1) := by decide +kernel
theorem dX7_lead_56 : decode cX7_lead 56 = .ok (.istore 5, 2) := by decide +kernel
theorem dX7_lead_58 : decode cX7_lead 58 = .ok (.aload_n 0, 1) := by decide +kernel
theorem dX7_lead_59 : decode cX7_lead 59 = .ok (.invokevirtual 178, 3) := by decide +kernel
theorem dX7_lead_62 : decode cX7_lead 62 = .ok (.aload_n 0, 1) := by decide +kernel
theorem dX7_lead_63 : decode cX7_lead 63 = .ok (.getfield 25, 3) := by decide +kernel
theorem dX7_lead_66 : decode cX7_lead 66 = .ok (.iload 4, 2) := by decide +kernel
theorem dX7_lead_68 : decode cX7_lead 68 = .ok (.iload_n 3, 1) := by decide +kernel
theorem dX7_lead_69 : decode cX7_lead 69 = .ok (.iastore, 1) := by decide +kernel
theorem dX7_lead_70 : decode cX7_lead 70 = .ok (.iload 5, 2) := by decide +kernel
theorem dX7_lead_72 : decode cX7_lead 72 = .ok (.ireturn, 1) := by decide +kernel
theorem dX7_comes_0 : decode cX7_comes 0 = .ok (.aload_n 0, 1) := by decide +kernel
theorem dX7_comes_1 : decode cX7_comes 1 = .ok (.bipush 49, 2) := by decide +kernel
theorem dX7_comes_3 : decode cX7_comes 3 = .ok (.iload_n 1, 1) := by decide +kernel
theorem dX7_comes_4 : decode cX7_comes 4 = .ok (.iadd, 1) := by decide +kernel
theorem dX7_comes_5 : decode cX7_comes 5 = .ok (.bipush 10, 2) := by decide +kernel
theorem dX7_comes_7 : decode cX7_comes 7 = .ok (.iastore, 1) := by decide +kernel
theorem dX7_comes_8 : decode cX7_comes 8 = .ok (.aload_n 0, 1) := by decide +kernel
theorem dX7_comes_9 : decode cX7_comes 9 = .ok (.bipush 55, 2) := by decide +kernel
theorem dX7_comes_11 : decode cX7_comes 11 = .ok (.iload_n 1, 1) := by decide +kernel
theorem dX7_comes_12 : decode cX7_comes 12 = .ok (.iadd, 1) := by decide +kernel
theorem dX7_comes_13 : decode cX7_comes 13 = .ok (.iload_n 2, 1) := by decide +kernel
theorem dX7_comes_14 : decode cX7_comes 14 = .ok (.iastore, 1) := by decide +kernel
theorem dX7_comes_15 : decode cX7_comes 15 = .ok (.aload_n 0, 1) := by decide +kernel
theorem dX7_comes_16 : decode cX7_comes 16 = .ok (.bipush 61, 2) := by decide +kernel
theorem dX7_comes_18 : decode cX7_comes 18 = .ok (.iload_n 1, 1) := by decide +kernel
theorem dX7_comes_19 : decode cX7_comes 19 = .ok (.iadd, 1) := by decide +kernel
theorem dX7_comes_20 : decode cX7_comes 20 = .ok (.aload_n 0, 1) := by decide +kernel
theorem dX7_comes_21 : decode cX7_comes 21 = .ok (.iconst 0, 1) := by decide +kernel
theorem dX7_comes_22 : decode cX7_comes 22 = .ok (.iaload, 1) := by decide +kernel
theorem dX7_comes_23 : decode cX7_comes 23 = .ok (.iastore, 1) := by decide +kernel
theorem dX7_comes_24 : decode cX7_comes 24 = .ok (.return_, 1) := by decide +kernel
theorem dX7_again_0 : decode cX7_again 0 = .ok (.aload_n 0, 1) := by decide +kernel
theorem dX7_again_1 : decode cX7_again 1 = .ok (.iload_n 1, 1) := by decide +kernel
theorem dX7_again_2 : decode cX7_again 2 = .ok (.invokevirtual 192, 3) := by decide +kernel
theorem dX7_again_5 : decode cX7_again 5 = .ok (.ifCond .eq 13, 3) := by decide +kernel
theorem dX7_again_8 : decode cX7_again 8 = .ok (.iload_n 2, 1) := by decide +kernel
theorem dX7_again_9 : decode cX7_again 9 = .ok (.iconst 1, 1) := by decide +kernel
theorem dX7_again_10 : decode cX7_again 10 = .ok (.bipush 9, 2) := by decide +kernel
theorem dX7_again_12 : decode cX7_again 12 = .ok (.invokestatic 70, 3) := by decide +kernel
theorem dX7_again_15 : decode cX7_again 15 = .ok (.ifCond .ne 6, 3) := by decide +kernel
theorem dX7_again_18 : decode cX7_again 18 = .ok (.ldc 84, 2) := by decide +kernel
theorem dX7_again_20 : decode cX7_again 20 = .ok (.ireturn, 1) := by decide +kernel
theorem dX7_again_21 : decode cX7_again 21 = .ok (.aload_n 0, 1) := by decide +kernel
theorem dX7_again_22 : decode cX7_again 22 = .ok (.aload_n 0, 1) := by decide +kernel
theorem dX7_again_23 : decode cX7_again 23 = .ok (.getfield 25, 3) := by decide +kernel
theorem dX7_again_26 : decode cX7_again 26 = .ok (.iload_n 1, 1) := by decide +kernel
theorem dX7_again_27 : decode cX7_again 27 = .ok (.invokevirtual 195, 3) := by decide +kernel
theorem dX7_again_30 : decode cX7_again 30 = .ok (.ifCond .ne 6, 3) := by decide +kernel
theorem dX7_again_33 : decode cX7_again 33 = .ok (.ldc 173, 2) := by decide +kernel
theorem dX7_again_35 : decode cX7_again 35 = .ok (.ireturn, 1) := by decide +kernel
theorem dX7_again_36 : decode cX7_again 36 = .ok (.aload_n 0, 1) := by decide +kernel
theorem dX7_again_37 : decode cX7_again 37 = .ok (.invokevirtual 178, 3) := by decide +kernel
theorem dX7_again_40 : decode cX7_again 40 = .ok (.aload_n 0, 1) := by decide +kernel
theorem dX7_again_41 : decode cX7_again 41 = .ok (.getfield 25, 3) := by decide +kernel
theorem dX7_again_44 : decode cX7_again 44 = .ok (.iload_n 1, 1) := by decide +kernel
theorem dX7_again_45 : decode cX7_again 45 = .ok (.iload_n 2, 1) := by decide +kernel
theorem dX7_again_46 : decode cX7_again 46 = .ok (.invokestatic 199, 3) := by decide +kernel
theorem dX7_again_49 : decode cX7_again 49 = .ok (.aload_n 0, 1) := by decide +kernel
theorem dX7_again_50 : decode cX7_again 50 = .ok (.aload_n 0, 1) := by decide +kernel
theorem dX7_again_51 : decode cX7_again 51 = .ok (.getfield 25, 3) := by decide +kernel
theorem dX7_again_54 : decode cX7_again 54 = .ok (.bipush 10, 2) := by decide +kernel
theorem dX7_again_56 : decode cX7_again 56 = .ok (.bipush 10, 2) := by decide +kernel
theorem dX7_again_58 : decode cX7_again 58 = .ok (.invokevirtual 185, 3) := by decide +kernel
theorem dX7_again_61 : decode cX7_again 61 = .ok (.ireturn, 1) := by decide +kernel
theorem dX7_marble_0 : decode cX7_marble 0 = .ok (.aload_n 0, 1) := by decide +kernel
theorem dX7_marble_1 : decode cX7_marble 1 = .ok (.iload_n 1, 1) := by decide +kernel
theorem dX7_marble_2 : decode cX7_marble 2 = .ok (.invokevirtual 192, 3) := by decide +kernel
theorem dX7_marble_5 : decode cX7_marble 5 = .ok (.ifCond .eq 12, 3) := by decide +kernel
theorem dX7_marble_8 : decode cX7_marble 8 = .ok (.iload_n 2, 1) := by decide +kernel
theorem dX7_marble_9 : decode cX7_marble 9 = .ok (.iconst 0, 1) := by decide +kernel
theorem dX7_marble_10 : decode cX7_marble 10 = .ok (.iconst 2, 1) := by decide +kernel
theorem dX7_marble_11 : decode cX7_marble 11 = .ok (.invokestatic 70, 3) := by decide +kernel
theorem dX7_marble_14 : decode cX7_marble 14 = .ok (.ifCond .ne 6, 3) := by decide +kernel
theorem dX7_marble_17 : decode cX7_marble 17 = .ok (.ldc 84, 2) := by decide +kernel
theorem dX7_marble_19 : decode cX7_marble 19 = .ok (.ireturn, 1) := by decide +kernel
theorem dX7_marble_20 : decode cX7_marble 20 = .ok (.aload_n 0, 1) := by decide +kernel
theorem dX7_marble_21 : decode cX7_marble 21 = .ok (.getfield 25, 3) := by decide +kernel
theorem dX7_marble_24 : decode cX7_marble 24 = .ok (.iload_n 2, 1) := by decide +kernel
theorem dX7_marble_25 : decode cX7_marble 25 = .ok (.ifCond .ne 10, 3) := by decide +kernel
theorem dX7_marble_28 : decode cX7_marble 28 = .ok (.bipush 55, 2) := by decide +kernel
theorem dX7_marble_30 : decode cX7_marble 30 = .ok (.iload_n 1, 1) := by decide +kernel
theorem dX7_marble_31 : decode cX7_marble 31 = .ok (.iadd, 1) := by decide +kernel
theorem dX7_marble_32 : decode cX7_marble 32 = .ok (.goto 19, 3) := by decide +kernel
theorem dX7_marble_35 : decode cX7_marble 35 = .ok (.iload_n 2, 1) := by decide +kernel
theorem dX7_marble_36 : decode cX7_marble 36 = .ok (.iconst 1, 1) := by decide +kernel
theorem dX7_marble_37 : decode cX7_marble 37 = .ok (.if_icmp .ne 10, 3) := by decide +kernel
theorem dX7_marble_40 : decode cX7_marble 40 = .ok (.bipush 61, 2) := by decide +kernel
theorem dX7_marble_42 : decode cX7_marble 42 = .ok (.iload_n 1, 1) := by decide +kernel
theorem dX7_marble_43 : decode cX7_marble 43 = .ok (.iadd, 1) := by decide +kernel
theorem dX7_marble_44 : decode cX7_marble 44 = .ok (.goto 7, 3) := by decide +kernel
theorem dX7_marble_47 : decode cX7_marble 47 = .ok (.bipush 49, 2) := by decide +kernel
theorem dX7_marble_49 : decode cX7_marble 49 = .ok (.iload_n 1, 1) := by decide +kernel
theorem dX7_marble_50 : decode cX7_marble 50 = .ok (.iadd, 1) := by decide +kernel
theorem dX7_marble_51 : decode cX7_marble 51 = .ok (.iaload, 1) := by decide +kernel
theorem dX7_marble_52 : decode cX7_marble 52 = .ok (.ireturn, 1) := by decide +kernel
theorem dX7_piece_0 : decode cX7_piece 0 = .ok (.aload_n 0, 1) := by decide +kernel
theorem dX7_piece_1 : decode cX7_piece 1 = .ok (.iload_n 1, 1) := by decide +kernel
theorem dX7_piece_2 : decode cX7_piece 2 = .ok (.invokevirtual 189, 3) := by decide +kernel
theorem dX7_piece_5 : decode cX7_piece 5 = .ok (.ifCond .ne 6, 3) := by decide +kernel
theorem dX7_piece_8 : decode cX7_piece 8 = .ok (.ldc 84, 2) := by decide +kernel
theorem dX7_piece_10 : decode cX7_piece 10 = .ok (.ireturn, 1) := by decide +kernel
theorem dX7_piece_11 : decode cX7_piece 11 = .ok (.iload_n 2, 1) := by decide +kernel
theorem dX7_piece_12 : decode cX7_piece 12 = .ok (.tableswitch 114 0 6 #[44, 53, 63, 73, 83, 93, 103], 44) := by decide +kernel
theorem dX7_piece_56 : decode cX7_piece 56 = .ok (.aload_n 0, 1) := by decide +kernel
theorem dX7_piece_57 : decode cX7_piece 57 = .ok (.getfield 25, 3) := by decide +kernel
theorem dX7_piece_60 : decode cX7_piece 60 = .ok (.iconst 1, 1) := by decide +kernel
theorem dX7_piece_61 : decode cX7_piece 61 = .ok (.iload_n 1, 1) := by decide +kernel
theorem dX7_piece_62 : decode cX7_piece 62 = .ok (.iadd, 1) := by decide +kernel
theorem dX7_piece_63 : decode cX7_piece 63 = .ok (.iaload, 1) := by decide +kernel
theorem dX7_piece_64 : decode cX7_piece 64 = .ok (.ireturn, 1) := by decide +kernel
theorem dX7_piece_65 : decode cX7_piece 65 = .ok (.aload_n 0, 1) := by decide +kernel
theorem dX7_piece_66 : decode cX7_piece 66 = .ok (.getfield 25, 3) := by decide +kernel
theorem dX7_piece_69 : decode cX7_piece 69 = .ok (.bipush 9, 2) := by decide +kernel
theorem dX7_piece_71 : decode cX7_piece 71 = .ok (.iload_n 1, 1) := by decide +kernel
theorem dX7_piece_72 : decode cX7_piece 72 = .ok (.iadd, 1) := by decide +kernel
theorem dX7_piece_73 : decode cX7_piece 73 = .ok (.iaload, 1) := by decide +kernel
theorem dX7_piece_74 : decode cX7_piece 74 = .ok (.ireturn, 1) := by decide +kernel
theorem dX7_piece_75 : decode cX7_piece 75 = .ok (.aload_n 0, 1) := by decide +kernel
theorem dX7_piece_76 : decode cX7_piece 76 = .ok (.getfield 25, 3) := by decide +kernel
theorem dX7_piece_79 : decode cX7_piece 79 = .ok (.bipush 17, 2) := by decide +kernel
theorem dX7_piece_81 : decode cX7_piece 81 = .ok (.iload_n 1, 1) := by decide +kernel
theorem dX7_piece_82 : decode cX7_piece 82 = .ok (.iadd, 1) := by decide +kernel
theorem dX7_piece_83 : decode cX7_piece 83 = .ok (.iaload, 1) := by decide +kernel
theorem dX7_piece_84 : decode cX7_piece 84 = .ok (.ireturn, 1) := by decide +kernel
theorem dX7_piece_85 : decode cX7_piece 85 = .ok (.aload_n 0, 1) := by decide +kernel
theorem dX7_piece_86 : decode cX7_piece 86 = .ok (.getfield 25, 3) := by decide +kernel
theorem dX7_piece_89 : decode cX7_piece 89 = .ok (.bipush 25, 2) := by decide +kernel
theorem dX7_piece_91 : decode cX7_piece 91 = .ok (.iload_n 1, 1) := by decide +kernel
theorem dX7_piece_92 : decode cX7_piece 92 = .ok (.iadd, 1) := by decide +kernel
theorem dX7_piece_93 : decode cX7_piece 93 = .ok (.iaload, 1) := by decide +kernel
theorem dX7_piece_94 : decode cX7_piece 94 = .ok (.ireturn, 1) := by decide +kernel
theorem dX7_piece_95 : decode cX7_piece 95 = .ok (.aload_n 0, 1) := by decide +kernel
theorem dX7_piece_96 : decode cX7_piece 96 = .ok (.getfield 25, 3) := by decide +kernel
theorem dX7_piece_99 : decode cX7_piece 99 = .ok (.bipush 33, 2) := by decide +kernel
theorem dX7_piece_101 : decode cX7_piece 101 = .ok (.iload_n 1, 1) := by decide +kernel
theorem dX7_piece_102 : decode cX7_piece 102 = .ok (.iadd, 1) := by decide +kernel
theorem dX7_piece_103 : decode cX7_piece 103 = .ok (.iaload, 1) := by decide +kernel
theorem dX7_piece_104 : decode cX7_piece 104 = .ok (.ireturn, 1) := by decide +kernel
theorem dX7_piece_105 : decode cX7_piece 105 = .ok (.aload_n 0, 1) := by decide +kernel
theorem dX7_piece_106 : decode cX7_piece 106 = .ok (.getfield 25, 3) := by decide +kernel
theorem dX7_piece_109 : decode cX7_piece 109 = .ok (.bipush 41, 2) := by decide +kernel
theorem dX7_piece_111 : decode cX7_piece 111 = .ok (.iload_n 1, 1) := by decide +kernel
theorem dX7_piece_112 : decode cX7_piece 112 = .ok (.iadd, 1) := by decide +kernel
theorem dX7_piece_113 : decode cX7_piece 113 = .ok (.iaload, 1) := by decide +kernel
theorem dX7_piece_114 : decode cX7_piece 114 = .ok (.ireturn, 1) := by decide +kernel
theorem dX7_piece_115 : decode cX7_piece 115 = .ok (.aload_n 0, 1) := by decide +kernel
theorem dX7_piece_116 : decode cX7_piece 116 = .ok (.aload_n 0, 1) := by decide +kernel
theorem dX7_piece_117 : decode cX7_piece 117 = .ok (.getfield 25, 3) := by decide +kernel
theorem dX7_piece_120 : decode cX7_piece 120 = .ok (.iload_n 1, 1) := by decide +kernel
theorem dX7_piece_121 : decode cX7_piece 121 = .ok (.iload_n 1, 1) := by decide +kernel
theorem dX7_piece_122 : decode cX7_piece 122 = .ok (.invokevirtual 185, 3) := by decide +kernel
theorem dX7_piece_125 : decode cX7_piece 125 = .ok (.ireturn, 1) := by decide +kernel
theorem dX7_piece_126 : decode cX7_piece 126 = .ok (.ldc 84, 2) := by decide +kernel
theorem dX7_piece_128 : decode cX7_piece 128 = .ok (.ireturn, 1) := by decide +kernel
theorem dX7_stand_0 : decode cX7_stand 0 = .ok (.aload_n 0, 1) := by decide +kernel
theorem dX7_stand_1 : decode cX7_stand 1 = .ok (.invokevirtual 174, 3) := by decide +kernel
theorem dX7_stand_4 : decode cX7_stand 4 = .ok (.ifCond .eq 6, 3) := by decide +kernel
theorem dX7_stand_7 : decode cX7_stand 7 = .ok (.ldc 173, 2) := by decide +kernel
theorem dX7_stand_9 : decode cX7_stand 9 = .ok (.ireturn, 1) := by decide +kernel
theorem dX7_stand_10 : decode cX7_stand 10 = .ok (.iload_n 1, 1) := by decide +kernel
theorem dX7_stand_11 : decode cX7_stand 11 = .ok (.tableswitch 106 0 5 #[37, 42, 55, 67, 80, 93], 37) := by decide +kernel
theorem dX7_stand_48 : decode cX7_stand 48 = .ok (.aload_n 0, 1) := by decide +kernel
theorem dX7_stand_49 : decode cX7_stand 49 = .ok (.getfield 152, 3) := by decide +kernel
theorem dX7_stand_52 : decode cX7_stand 52 = .ok (.ireturn, 1) := by decide +kernel
theorem dX7_stand_53 : decode cX7_stand 53 = .ok (.aload_n 0, 1) := by decide +kernel
theorem dX7_stand_54 : decode cX7_stand 54 = .ok (.aload_n 0, 1) := by decide +kernel
theorem dX7_stand_55 : decode cX7_stand 55 = .ok (.getfield 25, 3) := by decide +kernel
theorem dX7_stand_58 : decode cX7_stand 58 = .ok (.bipush 10, 2) := by decide +kernel
theorem dX7_stand_60 : decode cX7_stand 60 = .ok (.bipush 10, 2) := by decide +kernel
theorem dX7_stand_62 : decode cX7_stand 62 = .ok (.invokevirtual 185, 3) := by decide +kernel
theorem dX7_stand_65 : decode cX7_stand 65 = .ok (.ireturn, 1) := by decide +kernel
theorem dX7_stand_66 : decode cX7_stand 66 = .ok (.aload_n 0, 1) := by decide +kernel
theorem dX7_stand_67 : decode cX7_stand 67 = .ok (.aload_n 0, 1) := by decide +kernel
theorem dX7_stand_68 : decode cX7_stand 68 = .ok (.getfield 25, 3) := by decide +kernel
theorem dX7_stand_71 : decode cX7_stand 71 = .ok (.iconst 0, 1) := by decide +kernel
theorem dX7_stand_72 : decode cX7_stand 72 = .ok (.bipush 7, 2) := by decide +kernel
theorem dX7_stand_74 : decode cX7_stand 74 = .ok (.invokevirtual 185, 3) := by decide +kernel
theorem dX7_stand_77 : decode cX7_stand 77 = .ok (.ireturn, 1) := by decide +kernel
theorem dX7_stand_78 : decode cX7_stand 78 = .ok (.aload_n 0, 1) := by decide +kernel
theorem dX7_stand_79 : decode cX7_stand 79 = .ok (.aload_n 0, 1) := by decide +kernel
theorem dX7_stand_80 : decode cX7_stand 80 = .ok (.getfield 25, 3) := by decide +kernel
theorem dX7_stand_83 : decode cX7_stand 83 = .ok (.bipush 20, 2) := by decide +kernel
theorem dX7_stand_85 : decode cX7_stand 85 = .ok (.bipush 28, 2) := by decide +kernel
theorem dX7_stand_87 : decode cX7_stand 87 = .ok (.invokevirtual 185, 3) := by decide +kernel
theorem dX7_stand_90 : decode cX7_stand 90 = .ok (.ireturn, 1) := by decide +kernel
theorem dX7_stand_91 : decode cX7_stand 91 = .ok (.aload_n 0, 1) := by decide +kernel
theorem dX7_stand_92 : decode cX7_stand 92 = .ok (.aload_n 0, 1) := by decide +kernel
theorem dX7_stand_93 : decode cX7_stand 93 = .ok (.getfield 25, 3) := by decide +kernel
theorem dX7_stand_96 : decode cX7_stand 96 = .ok (.bipush 8, 2) := by decide +kernel
theorem dX7_stand_98 : decode cX7_stand 98 = .ok (.bipush 8, 2) := by decide +kernel
theorem dX7_stand_100 : decode cX7_stand 100 = .ok (.invokevirtual 185, 3) := by decide +kernel
theorem dX7_stand_103 : decode cX7_stand 103 = .ok (.ireturn, 1) := by decide +kernel
theorem dX7_stand_104 : decode cX7_stand 104 = .ok (.aload_n 0, 1) := by decide +kernel
theorem dX7_stand_105 : decode cX7_stand 105 = .ok (.aload_n 0, 1) := by decide +kernel
theorem dX7_stand_106 : decode cX7_stand 106 = .ok (.getfield 25, 3) := by decide +kernel
theorem dX7_stand_109 : decode cX7_stand 109 = .ok (.bipush 9, 2) := by decide +kernel
theorem dX7_stand_111 : decode cX7_stand 111 = .ok (.bipush 9, 2) := by decide +kernel
theorem dX7_stand_113 : decode cX7_stand 113 = .ok (.invokevirtual 185, 3) := by decide +kernel
theorem dX7_stand_116 : decode cX7_stand 116 = .ok (.ireturn, 1) := by decide +kernel
theorem dX7_stand_117 : decode cX7_stand 117 = .ok (.ldc 84, 2) := by decide +kernel
theorem dX7_stand_119 : decode cX7_stand 119 = .ok (.ireturn, 1) := by decide +kernel
theorem dX7_asItIs_0 : decode cX7_asItIs 0 = .ok (.aload_n 0, 1) := by decide +kernel
theorem dX7_asItIs_1 : decode cX7_asItIs 1 = .ok (.getfield 25, 3) := by decide +kernel
theorem dX7_asItIs_4 : decode cX7_asItIs 4 = .ok (.iconst 0, 1) := by decide +kernel
theorem dX7_asItIs_5 : decode cX7_asItIs 5 = .ok (.aload_n 0, 1) := by decide +kernel
theorem dX7_asItIs_6 : decode cX7_asItIs 6 = .ok (.getfield 41, 3) := by decide +kernel
theorem dX7_asItIs_9 : decode cX7_asItIs 9 = .ok (.iconst 0, 1) := by decide +kernel
theorem dX7_asItIs_10 : decode cX7_asItIs 10 = .ok (.bipush 67, 2) := by decide +kernel
theorem dX7_asItIs_12 : decode cX7_asItIs 12 = .ok (.invokestatic 155, 3) := by decide +kernel
theorem dX7_asItIs_15 : decode cX7_asItIs 15 = .ok (.return_, 1) := by decide +kernel
theorem dX7_goes_0 : decode cX7_goes 0 = .ok (.iconst 0, 1) := by decide +kernel
theorem dX7_goes_1 : decode cX7_goes 1 = .ok (.istore_n 2, 1) := by decide +kernel
theorem dX7_goes_2 : decode cX7_goes 2 = .ok (.iload_n 2, 1) := by decide +kernel
theorem dX7_goes_3 : decode cX7_goes 3 = .ok (.iload_n 1, 1) := by decide +kernel
theorem dX7_goes_4 : decode cX7_goes 4 = .ok (.if_icmp .ge 17, 3) := by decide +kernel
theorem dX7_goes_7 : decode cX7_goes 7 = .ok (.aload_n 0, 1) := by decide +kernel
theorem dX7_goes_8 : decode cX7_goes 8 = .ok (.aload_n 0, 1) := by decide +kernel
theorem dX7_goes_9 : decode cX7_goes 9 = .ok (.getfield 41, 3) := by decide +kernel
theorem dX7_goes_12 : decode cX7_goes 12 = .ok (.invokevirtual 181, 3) := by decide +kernel
theorem dX7_goes_15 : decode cX7_goes 15 = .ok (.iinc 2 1, 3) := by decide +kernel
theorem dX7_goes_18 : decode cX7_goes 18 = .ok (.goto (-16), 3) := by decide +kernel
theorem dX7_goes_21 : decode cX7_goes 21 = .ok (.return_, 1) := by decide +kernel
theorem dX7_rightOf_0 : decode cX7_rightOf 0 = .ok (.aload_n 0, 1) := by decide +kernel
theorem dX7_rightOf_1 : decode cX7_rightOf 1 = .ok (.aload_n 0, 1) := by decide +kernel
theorem dX7_rightOf_2 : decode cX7_rightOf 2 = .ok (.getfield 41, 3) := by decide +kernel
theorem dX7_rightOf_5 : decode cX7_rightOf 5 = .ok (.bipush 9, 2) := by decide +kernel
theorem dX7_rightOf_7 : decode cX7_rightOf 7 = .ok (.bipush 9, 2) := by decide +kernel
theorem dX7_rightOf_9 : decode cX7_rightOf 9 = .ok (.invokevirtual 185, 3) := by decide +kernel
theorem dX7_rightOf_12 : decode cX7_rightOf 12 = .ok (.ireturn, 1) := by decide +kernel
theorem dX7_leftOf_0 : decode cX7_leftOf 0 = .ok (.aload_n 0, 1) := by decide +kernel
theorem dX7_leftOf_1 : decode cX7_leftOf 1 = .ok (.aload_n 0, 1) := by decide +kernel
theorem dX7_leftOf_2 : decode cX7_leftOf 2 = .ok (.getfield 41, 3) := by decide +kernel
theorem dX7_leftOf_5 : decode cX7_leftOf 5 = .ok (.bipush 8, 2) := by decide +kernel
theorem dX7_leftOf_7 : decode cX7_leftOf 7 = .ok (.bipush 8, 2) := by decide +kernel
theorem dX7_leftOf_9 : decode cX7_leftOf 9 = .ok (.invokevirtual 185, 3) := by decide +kernel
theorem dX7_leftOf_12 : decode cX7_leftOf 12 = .ok (.ireturn, 1) := by decide +kernel
theorem dX7_ahead_0 : decode cX7_ahead 0 = .ok (.aload_n 0, 1) := by decide +kernel
theorem dX7_ahead_1 : decode cX7_ahead 1 = .ok (.iload_n 1, 1) := by decide +kernel
theorem dX7_ahead_2 : decode cX7_ahead 2 = .ok (.invokevirtual 192, 3) := by decide +kernel
theorem dX7_ahead_5 : decode cX7_ahead 5 = .ok (.ifCond .eq 13, 3) := by decide +kernel
theorem dX7_ahead_8 : decode cX7_ahead 8 = .ok (.iload_n 2, 1) := by decide +kernel
theorem dX7_ahead_9 : decode cX7_ahead 9 = .ok (.iconst 0, 1) := by decide +kernel
theorem dX7_ahead_10 : decode cX7_ahead 10 = .ok (.bipush 60, 2) := by decide +kernel
theorem dX7_ahead_12 : decode cX7_ahead 12 = .ok (.invokestatic 70, 3) := by decide +kernel
theorem dX7_ahead_15 : decode cX7_ahead 15 = .ok (.ifCond .ne 6, 3) := by decide +kernel
theorem dX7_ahead_18 : decode cX7_ahead 18 = .ok (.ldc 84, 2) := by decide +kernel
theorem dX7_ahead_20 : decode cX7_ahead 20 = .ok (.ireturn, 1) := by decide +kernel
theorem dX7_ahead_21 : decode cX7_ahead 21 = .ok (.aload_n 0, 1) := by decide +kernel
theorem dX7_ahead_22 : decode cX7_ahead 22 = .ok (.invokevirtual 202, 3) := by decide +kernel
theorem dX7_ahead_25 : decode cX7_ahead 25 = .ok (.aload_n 0, 1) := by decide +kernel
theorem dX7_ahead_26 : decode cX7_ahead 26 = .ok (.iload_n 2, 1) := by decide +kernel
theorem dX7_ahead_27 : decode cX7_ahead 27 = .ok (.invokevirtual 205, 3) := by decide +kernel
theorem dX7_ahead_30 : decode cX7_ahead 30 = .ok (.aload_n 0, 1) := by decide +kernel
theorem dX7_ahead_31 : decode cX7_ahead 31 = .ok (.getfield 41, 3) := by decide +kernel
theorem dX7_ahead_34 : decode cX7_ahead 34 = .ok (.bipush 49, 2) := by decide +kernel
theorem dX7_ahead_36 : decode cX7_ahead 36 = .ok (.iload_n 1, 1) := by decide +kernel
theorem dX7_ahead_37 : decode cX7_ahead 37 = .ok (.iadd, 1) := by decide +kernel
theorem dX7_ahead_38 : decode cX7_ahead 38 = .ok (.iaload, 1) := by decide +kernel
theorem dX7_ahead_39 : decode cX7_ahead 39 = .ok (.ireturn, 1) := by decide +kernel
theorem dX7_stands_0 : decode cX7_stands 0 = .ok (.aload_n 0, 1) := by decide +kernel
theorem dX7_stands_1 : decode cX7_stands 1 = .ok (.iload_n 1, 1) := by decide +kernel
theorem dX7_stands_2 : decode cX7_stands 2 = .ok (.invokevirtual 189, 3) := by decide +kernel
theorem dX7_stands_5 : decode cX7_stands 5 = .ok (.ifCond .eq 22, 3) := by decide +kernel
theorem dX7_stands_8 : decode cX7_stands 8 = .ok (.iload_n 2, 1) := by decide +kernel
theorem dX7_stands_9 : decode cX7_stands 9 = .ok (.iconst 0, 1) := by decide +kernel
theorem dX7_stands_10 : decode cX7_stands 10 = .ok (.bipush 60, 2) := by decide +kernel
theorem dX7_stands_12 : decode cX7_stands 12 = .ok (.invokestatic 70, 3) := by decide +kernel
theorem dX7_stands_15 : decode cX7_stands 15 = .ok (.ifCond .eq 12, 3) := by decide +kernel
theorem dX7_stands_18 : decode cX7_stands 18 = .ok (.iload_n 3, 1) := by decide +kernel
theorem dX7_stands_19 : decode cX7_stands 19 = .ok (.iconst 0, 1) := by decide +kernel
theorem dX7_stands_20 : decode cX7_stands 20 = .ok (.iconst 3, 1) := by decide +kernel
theorem dX7_stands_21 : decode cX7_stands 21 = .ok (.invokestatic 70, 3) := by decide +kernel
theorem dX7_stands_24 : decode cX7_stands 24 = .ok (.ifCond .ne 6, 3) := by decide +kernel
theorem dX7_stands_27 : decode cX7_stands 27 = .ok (.ldc 84, 2) := by decide +kernel
theorem dX7_stands_29 : decode cX7_stands 29 = .ok (.ireturn, 1) := by decide +kernel
theorem dX7_stands_30 : decode cX7_stands 30 = .ok (.aload_n 0, 1) := by decide +kernel
theorem dX7_stands_31 : decode cX7_stands 31 = .ok (.invokevirtual 202, 3) := by decide +kernel
theorem dX7_stands_34 : decode cX7_stands 34 = .ok (.aload_n 0, 1) := by decide +kernel
theorem dX7_stands_35 : decode cX7_stands 35 = .ok (.iload_n 2, 1) := by decide +kernel
theorem dX7_stands_36 : decode cX7_stands 36 = .ok (.invokevirtual 205, 3) := by decide +kernel
theorem dX7_stands_39 : decode cX7_stands 39 = .ok (.aload_n 0, 1) := by decide +kernel
theorem dX7_stands_40 : decode cX7_stands 40 = .ok (.getfield 41, 3) := by decide +kernel
theorem dX7_stands_43 : decode cX7_stands 43 = .ok (.iload_n 3, 1) := by decide +kernel
theorem dX7_stands_44 : decode cX7_stands 44 = .ok (.ifCond .ne 9, 3) := by decide +kernel
theorem dX7_stands_47 : decode cX7_stands 47 = .ok (.iconst 1, 1) := by decide +kernel
theorem dX7_stands_48 : decode cX7_stands 48 = .ok (.iload_n 1, 1) := by decide +kernel
theorem dX7_stands_49 : decode cX7_stands 49 = .ok (.iadd, 1) := by decide +kernel
theorem dX7_stands_50 : decode cX7_stands 50 = .ok (.goto 31, 3) := by decide +kernel
theorem dX7_stands_53 : decode cX7_stands 53 = .ok (.iload_n 3, 1) := by decide +kernel
theorem dX7_stands_54 : decode cX7_stands 54 = .ok (.iconst 1, 1) := by decide +kernel
theorem dX7_stands_55 : decode cX7_stands 55 = .ok (.if_icmp .ne 10, 3) := by decide +kernel
theorem dX7_stands_58 : decode cX7_stands 58 = .ok (.bipush 25, 2) := by decide +kernel
theorem dX7_stands_60 : decode cX7_stands 60 = .ok (.iload_n 1, 1) := by decide +kernel
theorem dX7_stands_61 : decode cX7_stands 61 = .ok (.iadd, 1) := by decide +kernel
theorem dX7_stands_62 : decode cX7_stands 62 = .ok (.goto 19, 3) := by decide +kernel
theorem dX7_stands_65 : decode cX7_stands 65 = .ok (.iload_n 3, 1) := by decide +kernel
theorem dX7_stands_66 : decode cX7_stands 66 = .ok (.iconst 2, 1) := by decide +kernel
theorem dX7_stands_67 : decode cX7_stands 67 = .ok (.if_icmp .ne 10, 3) := by decide +kernel
theorem dX7_stands_70 : decode cX7_stands 70 = .ok (.bipush 33, 2) := by decide +kernel
theorem dX7_stands_72 : decode cX7_stands 72 = .ok (.iload_n 1, 1) := by decide +kernel
theorem dX7_stands_73 : decode cX7_stands 73 = .ok (.iadd, 1) := by decide +kernel
theorem dX7_stands_74 : decode cX7_stands 74 = .ok (.goto 7, 3) := by decide +kernel
theorem dX7_stands_77 : decode cX7_stands 77 = .ok (.bipush 41, 2) := by decide +kernel
theorem dX7_stands_79 : decode cX7_stands 79 = .ok (.iload_n 1, 1) := by decide +kernel
theorem dX7_stands_80 : decode cX7_stands 80 = .ok (.iadd, 1) := by decide +kernel
theorem dX7_stands_81 : decode cX7_stands 81 = .ok (.iaload, 1) := by decide +kernel
theorem dX7_stands_82 : decode cX7_stands 82 = .ok (.ireturn, 1) := by decide +kernel
theorem dX7_trays_0 : decode cX7_trays 0 = .ok (.aload_n 0, 1) := by decide +kernel
theorem dX7_trays_1 : decode cX7_trays 1 = .ok (.invokevirtual 174, 3) := by decide +kernel
theorem dX7_trays_4 : decode cX7_trays 4 = .ok (.ifCond .eq 6, 3) := by decide +kernel
theorem dX7_trays_7 : decode cX7_trays 7 = .ok (.ldc 173, 2) := by decide +kernel
theorem dX7_trays_9 : decode cX7_trays 9 = .ok (.ireturn, 1) := by decide +kernel
theorem dX7_trays_10 : decode cX7_trays 10 = .ok (.iload_n 1, 1) := by decide +kernel
theorem dX7_trays_11 : decode cX7_trays 11 = .ok (.iconst 0, 1) := by decide +kernel
theorem dX7_trays_12 : decode cX7_trays 12 = .ok (.bipush 60, 2) := by decide +kernel
theorem dX7_trays_14 : decode cX7_trays 14 = .ok (.invokestatic 70, 3) := by decide +kernel
theorem dX7_trays_17 : decode cX7_trays 17 = .ok (.ifCond .eq 12, 3) := by decide +kernel
theorem dX7_trays_20 : decode cX7_trays 20 = .ok (.iload_n 2, 1) := by decide +kernel
theorem dX7_trays_21 : decode cX7_trays 21 = .ok (.iconst 0, 1) := by decide +kernel
theorem dX7_trays_22 : decode cX7_trays 22 = .ok (.iconst 1, 1) := by decide +kernel
theorem dX7_trays_23 : decode cX7_trays 23 = .ok (.invokestatic 70, 3) := by decide +kernel
theorem dX7_trays_26 : decode cX7_trays 26 = .ok (.ifCond .ne 6, 3) := by decide +kernel
theorem dX7_trays_29 : decode cX7_trays 29 = .ok (.ldc 84, 2) := by decide +kernel
theorem dX7_trays_31 : decode cX7_trays 31 = .ok (.ireturn, 1) := by decide +kernel
theorem dX7_trays_32 : decode cX7_trays 32 = .ok (.aload_n 0, 1) := by decide +kernel
theorem dX7_trays_33 : decode cX7_trays 33 = .ok (.invokevirtual 202, 3) := by decide +kernel
theorem dX7_trays_36 : decode cX7_trays 36 = .ok (.aload_n 0, 1) := by decide +kernel
theorem dX7_trays_37 : decode cX7_trays 37 = .ok (.iload_n 1, 1) := by decide +kernel
theorem dX7_trays_38 : decode cX7_trays 38 = .ok (.invokevirtual 205, 3) := by decide +kernel
theorem dX7_trays_41 : decode cX7_trays 41 = .ok (.iload_n 2, 1) := by decide +kernel
theorem dX7_trays_42 : decode cX7_trays 42 = .ok (.ifCond .ne 10, 3) := by decide +kernel
theorem dX7_trays_45 : decode cX7_trays 45 = .ok (.aload_n 0, 1) := by decide +kernel
theorem dX7_trays_46 : decode cX7_trays 46 = .ok (.invokevirtual 208, 3) := by decide +kernel
theorem dX7_trays_49 : decode cX7_trays 49 = .ok (.goto 7, 3) := by decide +kernel
theorem dX7_trays_52 : decode cX7_trays 52 = .ok (.aload_n 0, 1) := by decide +kernel
theorem dX7_trays_53 : decode cX7_trays 53 = .ok (.invokevirtual 211, 3) := by decide +kernel
theorem dX7_trays_56 : decode cX7_trays 56 = .ok (.ireturn, 1) := by decide +kernel
theorem dX7_when_0 : decode cX7_when 0 = .ok (.aload_n 0, 1) := by decide +kernel
theorem dX7_when_1 : decode cX7_when 1 = .ok (.iload_n 1, 1) := by decide +kernel
theorem dX7_when_2 : decode cX7_when 2 = .ok (.invokevirtual 192, 3) := by decide +kernel
theorem dX7_when_5 : decode cX7_when 5 = .ok (.ifCond .ne 6, 3) := by decide +kernel
theorem dX7_when_8 : decode cX7_when 8 = .ok (.ldc 84, 2) := by decide +kernel
theorem dX7_when_10 : decode cX7_when 10 = .ok (.ireturn, 1) := by decide +kernel
theorem dX7_when_11 : decode cX7_when 11 = .ok (.aload_n 0, 1) := by decide +kernel
theorem dX7_when_12 : decode cX7_when 12 = .ok (.invokevirtual 202, 3) := by decide +kernel
theorem dX7_when_15 : decode cX7_when 15 = .ok (.iconst 0, 1) := by decide +kernel
theorem dX7_when_16 : decode cX7_when 16 = .ok (.istore_n 2, 1) := by decide +kernel
theorem dX7_when_17 : decode cX7_when 17 = .ok (.iload_n 2, 1) := by decide +kernel
theorem dX7_when_18 : decode cX7_when 18 = .ok (.bipush 60, 2) := by decide +kernel
theorem dX7_when_20 : decode cX7_when 20 = .ok (.if_icmp .gt 28, 3) := by decide +kernel
theorem dX7_when_23 : decode cX7_when 23 = .ok (.aload_n 0, 1) := by decide +kernel
theorem dX7_when_24 : decode cX7_when 24 = .ok (.aload_n 0, 1) := by decide +kernel
theorem dX7_when_25 : decode cX7_when 25 = .ok (.getfield 41, 3) := by decide +kernel
theorem dX7_when_28 : decode cX7_when 28 = .ok (.iload_n 1, 1) := by decide +kernel
theorem dX7_when_29 : decode cX7_when 29 = .ok (.invokevirtual 195, 3) := by decide +kernel
theorem dX7_when_32 : decode cX7_when 32 = .ok (.ifCond .eq 5, 3) := by decide +kernel
theorem dX7_when_35 : decode cX7_when 35 = .ok (.iload_n 2, 1) := by decide +kernel
theorem dX7_when_36 : decode cX7_when 36 = .ok (.ireturn, 1) := by decide +kernel
theorem dX7_when_37 : decode cX7_when 37 = .ok (.aload_n 0, 1) := by decide +kernel
theorem dX7_when_38 : decode cX7_when 38 = .ok (.iconst 1, 1) := by decide +kernel
theorem dX7_when_39 : decode cX7_when 39 = .ok (.invokevirtual 205, 3) := by decide +kernel
theorem dX7_when_42 : decode cX7_when 42 = .ok (.iinc 2 1, 3) := by decide +kernel
theorem dX7_when_45 : decode cX7_when 45 = .ok (.goto (-28), 3) := by decide +kernel
theorem dX7_when_48 : decode cX7_when 48 = .ok (.ldc 135, 2) := by decide +kernel
theorem dX7_when_50 : decode cX7_when 50 = .ok (.ireturn, 1) := by decide +kernel
theorem dX7_rest_0 : decode cX7_rest 0 = .ok (.aload_n 0, 1) := by decide +kernel
theorem dX7_rest_1 : decode cX7_rest 1 = .ok (.invokevirtual 174, 3) := by decide +kernel
theorem dX7_rest_4 : decode cX7_rest 4 = .ok (.ifCond .eq 6, 3) := by decide +kernel
theorem dX7_rest_7 : decode cX7_rest 7 = .ok (.ldc 173, 2) := by decide +kernel
theorem dX7_rest_9 : decode cX7_rest 9 = .ok (.ireturn, 1) := by decide +kernel
theorem dX7_rest_10 : decode cX7_rest 10 = .ok (.aload_n 0, 1) := by decide +kernel
theorem dX7_rest_11 : decode cX7_rest 11 = .ok (.invokevirtual 202, 3) := by decide +kernel
theorem dX7_rest_14 : decode cX7_rest 14 = .ok (.iconst 0, 1) := by decide +kernel
theorem dX7_rest_15 : decode cX7_rest 15 = .ok (.istore_n 1, 1) := by decide +kernel
theorem dX7_rest_16 : decode cX7_rest 16 = .ok (.iload_n 1, 1) := by decide +kernel
theorem dX7_rest_17 : decode cX7_rest 17 = .ok (.bipush 60, 2) := by decide +kernel
theorem dX7_rest_19 : decode cX7_rest 19 = .ok (.if_icmp .gt 43, 3) := by decide +kernel
theorem dX7_rest_22 : decode cX7_rest 22 = .ok (.aload_n 0, 1) := by decide +kernel
theorem dX7_rest_23 : decode cX7_rest 23 = .ok (.aload_n 0, 1) := by decide +kernel
theorem dX7_rest_24 : decode cX7_rest 24 = .ok (.getfield 41, 3) := by decide +kernel
theorem dX7_rest_27 : decode cX7_rest 27 = .ok (.iconst 0, 1) := by decide +kernel
theorem dX7_rest_28 : decode cX7_rest 28 = .ok (.bipush 7, 2) := by decide +kernel
theorem dX7_rest_30 : decode cX7_rest 30 = .ok (.invokevirtual 185, 3) := by decide +kernel
theorem dX7_rest_33 : decode cX7_rest 33 = .ok (.aload_n 0, 1) := by decide +kernel
theorem dX7_rest_34 : decode cX7_rest 34 = .ok (.aload_n 0, 1) := by decide +kernel
theorem dX7_rest_35 : decode cX7_rest 35 = .ok (.getfield 41, 3) := by decide +kernel
theorem dX7_rest_38 : decode cX7_rest 38 = .ok (.bipush 10, 2) := by decide +kernel
theorem dX7_rest_40 : decode cX7_rest 40 = .ok (.bipush 10, 2) := by decide +kernel
theorem dX7_rest_42 : decode cX7_rest 42 = .ok (.invokevirtual 185, 3) := by decide +kernel
theorem dX7_rest_45 : decode cX7_rest 45 = .ok (.ior, 1) := by decide +kernel
theorem dX7_rest_46 : decode cX7_rest 46 = .ok (.ifCond .ne 5, 3) := by decide +kernel
theorem dX7_rest_49 : decode cX7_rest 49 = .ok (.iload_n 1, 1) := by decide +kernel
theorem dX7_rest_50 : decode cX7_rest 50 = .ok (.ireturn, 1) := by decide +kernel
theorem dX7_rest_51 : decode cX7_rest 51 = .ok (.aload_n 0, 1) := by decide +kernel
theorem dX7_rest_52 : decode cX7_rest 52 = .ok (.iconst 1, 1) := by decide +kernel
theorem dX7_rest_53 : decode cX7_rest 53 = .ok (.invokevirtual 205, 3) := by decide +kernel
theorem dX7_rest_56 : decode cX7_rest 56 = .ok (.iinc 1 1, 3) := by decide +kernel
theorem dX7_rest_59 : decode cX7_rest 59 = .ok (.goto (-43), 3) := by decide +kernel
theorem dX7_rest_62 : decode cX7_rest 62 = .ok (.ldc 135, 2) := by decide +kernel
theorem dX7_rest_64 : decode cX7_rest 64 = .ok (.ireturn, 1) := by decide +kernel
theorem dX7_tipsNow_0 : decode cX7_tipsNow 0 = .ok (.iconst 0, 1) := by decide +kernel
theorem dX7_tipsNow_1 : decode cX7_tipsNow 1 = .ok (.istore_n 2, 1) := by decide +kernel
theorem dX7_tipsNow_2 : decode cX7_tipsNow 2 = .ok (.iload_n 2, 1) := by decide +kernel
theorem dX7_tipsNow_3 : decode cX7_tipsNow 3 = .ok (.aload_n 0, 1) := by decide +kernel
theorem dX7_tipsNow_4 : decode cX7_tipsNow 4 = .ok (.getfield 77, 3) := by decide +kernel
theorem dX7_tipsNow_7 : decode cX7_tipsNow 7 = .ok (.if_icmp .ge 25, 3) := by decide +kernel
theorem dX7_tipsNow_10 : decode cX7_tipsNow 10 = .ok (.aload_n 0, 1) := by decide +kernel
theorem dX7_tipsNow_11 : decode cX7_tipsNow 11 = .ok (.getfield 41, 3) := by decide +kernel
theorem dX7_tipsNow_14 : decode cX7_tipsNow 14 = .ok (.iconst 1, 1) := by decide +kernel
theorem dX7_tipsNow_15 : decode cX7_tipsNow 15 = .ok (.iload_n 2, 1) := by decide +kernel
theorem dX7_tipsNow_16 : decode cX7_tipsNow 16 = .ok (.iadd, 1) := by decide +kernel
theorem dX7_tipsNow_17 : decode cX7_tipsNow 17 = .ok (.dup2, 1) := by decide +kernel
theorem dX7_tipsNow_18 : decode cX7_tipsNow 18 = .ok (.iaload, 1) := by decide +kernel
theorem dX7_tipsNow_19 : decode cX7_tipsNow 19 = .ok (.iload_n 1, 1) := by decide +kernel
theorem dX7_tipsNow_20 : decode cX7_tipsNow 20 = .ok (.iload_n 2, 1) := by decide +kernel
theorem dX7_tipsNow_21 : decode cX7_tipsNow 21 = .ok (.ishr, 1) := by decide +kernel
theorem dX7_tipsNow_22 : decode cX7_tipsNow 22 = .ok (.iconst 1, 1) := by decide +kernel
theorem dX7_tipsNow_23 : decode cX7_tipsNow 23 = .ok (.iand, 1) := by decide +kernel
theorem dX7_tipsNow_24 : decode cX7_tipsNow 24 = .ok (.ixor, 1) := by decide +kernel
theorem dX7_tipsNow_25 : decode cX7_tipsNow 25 = .ok (.iastore, 1) := by decide +kernel
theorem dX7_tipsNow_26 : decode cX7_tipsNow 26 = .ok (.iinc 2 1, 3) := by decide +kernel
theorem dX7_tipsNow_29 : decode cX7_tipsNow 29 = .ok (.goto (-27), 3) := by decide +kernel
theorem dX7_tipsNow_32 : decode cX7_tipsNow 32 = .ok (.return_, 1) := by decide +kernel
theorem dX7_tips_0 : decode cX7_tips 0 = .ok (.aload_n 0, 1) := by decide +kernel
theorem dX7_tips_1 : decode cX7_tips 1 = .ok (.invokevirtual 174, 3) := by decide +kernel
theorem dX7_tips_4 : decode cX7_tips 4 = .ok (.ifCond .eq 6, 3) := by decide +kernel
theorem dX7_tips_7 : decode cX7_tips 7 = .ok (.ldc 173, 2) := by decide +kernel
theorem dX7_tips_9 : decode cX7_tips 9 = .ok (.ireturn, 1) := by decide +kernel
theorem dX7_tips_10 : decode cX7_tips 10 = .ok (.iload_n 1, 1) := by decide +kernel
theorem dX7_tips_11 : decode cX7_tips 11 = .ok (.iconst 1, 1) := by decide +kernel
theorem dX7_tips_12 : decode cX7_tips 12 = .ok (.bipush 40, 2) := by decide +kernel
theorem dX7_tips_14 : decode cX7_tips 14 = .ok (.invokestatic 70, 3) := by decide +kernel
theorem dX7_tips_17 : decode cX7_tips 17 = .ok (.ifCond .eq 12, 3) := by decide +kernel
theorem dX7_tips_20 : decode cX7_tips 20 = .ok (.iload_n 2, 1) := by decide +kernel
theorem dX7_tips_21 : decode cX7_tips 21 = .ok (.iconst 0, 1) := by decide +kernel
theorem dX7_tips_22 : decode cX7_tips 22 = .ok (.iconst 1, 1) := by decide +kernel
theorem dX7_tips_23 : decode cX7_tips 23 = .ok (.invokestatic 70, 3) := by decide +kernel
theorem dX7_tips_26 : decode cX7_tips 26 = .ok (.ifCond .ne 6, 3) := by decide +kernel
