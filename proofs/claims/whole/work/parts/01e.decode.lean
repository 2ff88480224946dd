theorem dX7_tips_29 : decode cX7_tips 29 = .ok (.ldc 84, 2) := by decide +kernel
theorem dX7_tips_31 : decode cX7_tips 31 = .ok (.ireturn, 1) := by decide +kernel
theorem dX7_tips_32 : decode cX7_tips 32 = .ok (.iconst 0, 1) := by decide +kernel
theorem dX7_tips_33 : decode cX7_tips 33 = .ok (.istore_n 3, 1) := by decide +kernel
theorem dX7_tips_34 : decode cX7_tips 34 = .ok (.iconst (-1), 1) := by decide +kernel
theorem dX7_tips_35 : decode cX7_tips 35 = .ok (.istore 4, 2) := by decide +kernel
theorem dX7_tips_37 : decode cX7_tips 37 = .ok (.iconst 0, 1) := by decide +kernel
theorem dX7_tips_38 : decode cX7_tips 38 = .ok (.istore 5, 2) := by decide +kernel
theorem dX7_tips_40 : decode cX7_tips 40 = .ok (.iload 5, 2) := by decide +kernel
theorem dX7_tips_42 : decode cX7_tips 42 = .ok (.iconst 1, 1) := by decide +kernel
theorem dX7_tips_43 : decode cX7_tips 43 = .ok (.aload_n 0, 1) := by decide +kernel
theorem dX7_tips_44 : decode cX7_tips 44 = .ok (.getfield 77, 3) := by decide +kernel
theorem dX7_tips_47 : decode cX7_tips 47 = .ok (.ishl, 1) := by decide +kernel
theorem dX7_tips_48 : decode cX7_tips 48 = .ok (.if_icmp .ge 66, 3) := by decide +kernel
theorem dX7_tips_51 : decode cX7_tips 51 = .ok (.aload_n 0, 1) := by decide +kernel
theorem dX7_tips_52 : decode cX7_tips 52 = .ok (.invokevirtual 202, 3) := by decide +kernel
theorem dX7_tips_55 : decode cX7_tips 55 = .ok (.aload_n 0, 1) := by decide +kernel
theorem dX7_tips_56 : decode cX7_tips 56 = .ok (.iload 5, 2) := by decide +kernel
theorem dX7_tips_58 : decode cX7_tips 58 = .ok (.invokevirtual 214, 3) := by decide +kernel
theorem dX7_tips_61 : decode cX7_tips 61 = .ok (.aload_n 0, 1) := by decide +kernel
theorem dX7_tips_62 : decode cX7_tips 62 = .ok (.iload_n 1, 1) := by decide +kernel
theorem dX7_tips_63 : decode cX7_tips 63 = .ok (.invokevirtual 205, 3) := by decide +kernel
theorem dX7_tips_66 : decode cX7_tips 66 = .ok (.aload_n 0, 1) := by decide +kernel
theorem dX7_tips_67 : decode cX7_tips 67 = .ok (.invokevirtual 211, 3) := by decide +kernel
theorem dX7_tips_70 : decode cX7_tips 70 = .ok (.invokestatic 217, 3) := by decide +kernel
theorem dX7_tips_73 : decode cX7_tips 73 = .ok (.istore 6, 2) := by decide +kernel
theorem dX7_tips_75 : decode cX7_tips 75 = .ok (.iload 6, 2) := by decide +kernel
theorem dX7_tips_77 : decode cX7_tips 77 = .ok (.iload 4, 2) := by decide +kernel
theorem dX7_tips_79 : decode cX7_tips 79 = .ok (.if_icmp .gt 22, 3) := by decide +kernel
theorem dX7_tips_82 : decode cX7_tips 82 = .ok (.iload 6, 2) := by decide +kernel
theorem dX7_tips_84 : decode cX7_tips 84 = .ok (.iload 4, 2) := by decide +kernel
theorem dX7_tips_86 : decode cX7_tips 86 = .ok (.if_icmp .ne 22, 3) := by decide +kernel
theorem dX7_tips_89 : decode cX7_tips 89 = .ok (.iload 5, 2) := by decide +kernel
theorem dX7_tips_91 : decode cX7_tips 91 = .ok (.invokestatic 217, 3) := by decide +kernel
theorem dX7_tips_94 : decode cX7_tips 94 = .ok (.iload_n 3, 1) := by decide +kernel
theorem dX7_tips_95 : decode cX7_tips 95 = .ok (.invokestatic 217, 3) := by decide +kernel
theorem dX7_tips_98 : decode cX7_tips 98 = .ok (.if_icmp .ge 10, 3) := by decide +kernel
theorem dX7_tips_101 : decode cX7_tips 101 = .ok (.iload 6, 2) := by decide +kernel
theorem dX7_tips_103 : decode cX7_tips 103 = .ok (.istore 4, 2) := by decide +kernel
theorem dX7_tips_105 : decode cX7_tips 105 = .ok (.iload 5, 2) := by decide +kernel
theorem dX7_tips_107 : decode cX7_tips 107 = .ok (.istore_n 3, 1) := by decide +kernel
theorem dX7_tips_108 : decode cX7_tips 108 = .ok (.iinc 5 1, 3) := by decide +kernel
theorem dX7_tips_111 : decode cX7_tips 111 = .ok (.goto (-71), 3) := by decide +kernel
theorem dX7_tips_114 : decode cX7_tips 114 = .ok (.iload_n 2, 1) := by decide +kernel
theorem dX7_tips_115 : decode cX7_tips 115 = .ok (.ifCond .ne 7, 3) := by decide +kernel
theorem dX7_tips_118 : decode cX7_tips 118 = .ok (.iload_n 3, 1) := by decide +kernel
theorem dX7_tips_119 : decode cX7_tips 119 = .ok (.goto 5, 3) := by decide +kernel
theorem dX7_tips_122 : decode cX7_tips 122 = .ok (.iload 4, 2) := by decide +kernel
theorem dX7_tips_124 : decode cX7_tips 124 = .ok (.ireturn, 1) := by decide +kernel
theorem dX7_byNumbers_0 : decode cX7_byNumbers 0 = .ok (.iconst 0, 1) := by decide +kernel
theorem dX7_byNumbers_1 : decode cX7_byNumbers 1 = .ok (.istore_n 1, 1) := by decide +kernel
theorem dX7_byNumbers_2 : decode cX7_byNumbers 2 = .ok (.iload_n 1, 1) := by decide +kernel
theorem dX7_byNumbers_3 : decode cX7_byNumbers 3 = .ok (.bipush 6, 2) := by decide +kernel
theorem dX7_byNumbers_5 : decode cX7_byNumbers 5 = .ok (.if_icmp .ge 16, 3) := by decide +kernel
theorem dX7_byNumbers_8 : decode cX7_byNumbers 8 = .ok (.aload_n 0, 1) := by decide +kernel
theorem dX7_byNumbers_9 : decode cX7_byNumbers 9 = .ok (.getfield 38, 3) := by decide +kernel
theorem dX7_byNumbers_12 : decode cX7_byNumbers 12 = .ok (.iload_n 1, 1) := by decide +kernel
theorem dX7_byNumbers_13 : decode cX7_byNumbers 13 = .ok (.iload_n 1, 1) := by decide +kernel
theorem dX7_byNumbers_14 : decode cX7_byNumbers 14 = .ok (.iastore, 1) := by decide +kernel
theorem dX7_byNumbers_15 : decode cX7_byNumbers 15 = .ok (.iinc 1 1, 3) := by decide +kernel
theorem dX7_byNumbers_18 : decode cX7_byNumbers 18 = .ok (.goto (-16), 3) := by decide +kernel
theorem dX7_byNumbers_21 : decode cX7_byNumbers 21 = .ok (.return_, 1) := by decide +kernel
theorem dX7_nextOrder_0 : decode cX7_nextOrder 0 = .ok (.aload_n 0, 1) := by decide +kernel
theorem dX7_nextOrder_1 : decode cX7_nextOrder 1 = .ok (.getfield 74, 3) := by decide +kernel
theorem dX7_nextOrder_4 : decode cX7_nextOrder 4 = .ok (.iconst 2, 1) := by decide +kernel
theorem dX7_nextOrder_5 : decode cX7_nextOrder 5 = .ok (.isub, 1) := by decide +kernel
theorem dX7_nextOrder_6 : decode cX7_nextOrder 6 = .ok (.istore_n 1, 1) := by decide +kernel
theorem dX7_nextOrder_7 : decode cX7_nextOrder 7 = .ok (.iload_n 1, 1) := by decide +kernel
theorem dX7_nextOrder_8 : decode cX7_nextOrder 8 = .ok (.ifCond .lt 26, 3) := by decide +kernel
theorem dX7_nextOrder_11 : decode cX7_nextOrder 11 = .ok (.aload_n 0, 1) := by decide +kernel
theorem dX7_nextOrder_12 : decode cX7_nextOrder 12 = .ok (.getfield 38, 3) := by decide +kernel
theorem dX7_nextOrder_15 : decode cX7_nextOrder 15 = .ok (.iload_n 1, 1) := by decide +kernel
theorem dX7_nextOrder_16 : decode cX7_nextOrder 16 = .ok (.iaload, 1) := by decide +kernel
theorem dX7_nextOrder_17 : decode cX7_nextOrder 17 = .ok (.aload_n 0, 1) := by decide +kernel
theorem dX7_nextOrder_18 : decode cX7_nextOrder 18 = .ok (.getfield 38, 3) := by decide +kernel
theorem dX7_nextOrder_21 : decode cX7_nextOrder 21 = .ok (.iload_n 1, 1) := by decide +kernel
theorem dX7_nextOrder_22 : decode cX7_nextOrder 22 = .ok (.iconst 1, 1) := by decide +kernel
theorem dX7_nextOrder_23 : decode cX7_nextOrder 23 = .ok (.iadd, 1) := by decide +kernel
theorem dX7_nextOrder_24 : decode cX7_nextOrder 24 = .ok (.iaload, 1) := by decide +kernel
theorem dX7_nextOrder_25 : decode cX7_nextOrder 25 = .ok (.if_icmp .le 9, 3) := by decide +kernel
theorem dX7_nextOrder_28 : decode cX7_nextOrder 28 = .ok (.iinc 1 (-1), 3) := by decide +kernel
theorem dX7_nextOrder_31 : decode cX7_nextOrder 31 = .ok (.goto (-24), 3) := by decide +kernel
theorem dX7_nextOrder_34 : decode cX7_nextOrder 34 = .ok (.iload_n 1, 1) := by decide +kernel
theorem dX7_nextOrder_35 : decode cX7_nextOrder 35 = .ok (.ifCond .ge 5, 3) := by decide +kernel
theorem dX7_nextOrder_38 : decode cX7_nextOrder 38 = .ok (.iconst 0, 1) := by decide +kernel
theorem dX7_nextOrder_39 : decode cX7_nextOrder 39 = .ok (.ireturn, 1) := by decide +kernel
theorem dX7_nextOrder_40 : decode cX7_nextOrder 40 = .ok (.aload_n 0, 1) := by decide +kernel
theorem dX7_nextOrder_41 : decode cX7_nextOrder 41 = .ok (.getfield 74, 3) := by decide +kernel
theorem dX7_nextOrder_44 : decode cX7_nextOrder 44 = .ok (.iconst 1, 1) := by decide +kernel
theorem dX7_nextOrder_45 : decode cX7_nextOrder 45 = .ok (.isub, 1) := by decide +kernel
theorem dX7_nextOrder_46 : decode cX7_nextOrder 46 = .ok (.istore_n 2, 1) := by decide +kernel
theorem dX7_nextOrder_47 : decode cX7_nextOrder 47 = .ok (.aload_n 0, 1) := by decide +kernel
theorem dX7_nextOrder_48 : decode cX7_nextOrder 48 = .ok (.getfield 38, 3) := by decide +kernel
theorem dX7_nextOrder_51 : decode cX7_nextOrder 51 = .ok (.iload_n 2, 1) := by decide +kernel
theorem dX7_nextOrder_52 : decode cX7_nextOrder 52 = .ok (.iaload, 1) := by decide +kernel
theorem dX7_nextOrder_53 : decode cX7_nextOrder 53 = .ok (.aload_n 0, 1) := by decide +kernel
theorem dX7_nextOrder_54 : decode cX7_nextOrder 54 = .ok (.getfield 38, 3) := by decide +kernel
theorem dX7_nextOrder_57 : decode cX7_nextOrder 57 = .ok (.iload_n 1, 1) := by decide +kernel
theorem dX7_nextOrder_58 : decode cX7_nextOrder 58 = .ok (.iaload, 1) := by decide +kernel
theorem dX7_nextOrder_59 : decode cX7_nextOrder 59 = .ok (.if_icmp .ge 9, 3) := by decide +kernel
theorem dX7_nextOrder_62 : decode cX7_nextOrder 62 = .ok (.iinc 2 (-1), 3) := by decide +kernel
theorem dX7_nextOrder_65 : decode cX7_nextOrder 65 = .ok (.goto (-18), 3) := by decide +kernel
theorem dX7_nextOrder_68 : decode cX7_nextOrder 68 = .ok (.aload_n 0, 1) := by decide +kernel
theorem dX7_nextOrder_69 : decode cX7_nextOrder 69 = .ok (.getfield 38, 3) := by decide +kernel
theorem dX7_nextOrder_72 : decode cX7_nextOrder 72 = .ok (.iload_n 1, 1) := by decide +kernel
theorem dX7_nextOrder_73 : decode cX7_nextOrder 73 = .ok (.iaload, 1) := by decide +kernel
theorem dX7_nextOrder_74 : decode cX7_nextOrder 74 = .ok (.istore_n 3, 1) := by decide +kernel
theorem dX7_nextOrder_75 : decode cX7_nextOrder 75 = .ok (.aload_n 0, 1) := by decide +kernel
theorem dX7_nextOrder_76 : decode cX7_nextOrder 76 = .ok (.getfield 38, 3) := by decide +kernel
theorem dX7_nextOrder_79 : decode cX7_nextOrder 79 = .ok (.iload_n 1, 1) := by decide +kernel
theorem dX7_nextOrder_80 : decode cX7_nextOrder 80 = .ok (.aload_n 0, 1) := by decide +kernel
theorem dX7_nextOrder_81 : decode cX7_nextOrder 81 = .ok (.getfield 38, 3) := by decide +kernel
theorem dX7_nextOrder_84 : decode cX7_nextOrder 84 = .ok (.iload_n 2, 1) := by decide +kernel
theorem dX7_nextOrder_85 : decode cX7_nextOrder 85 = .ok (.iaload, 1) := by decide +kernel
theorem dX7_nextOrder_86 : decode cX7_nextOrder 86 = .ok (.iastore, 1) := by decide +kernel
theorem dX7_nextOrder_87 : decode cX7_nextOrder 87 = .ok (.aload_n 0, 1) := by decide +kernel
theorem dX7_nextOrder_88 : decode cX7_nextOrder 88 = .ok (.getfield 38, 3) := by decide +kernel
theorem dX7_nextOrder_91 : decode cX7_nextOrder 91 = .ok (.iload_n 2, 1) := by decide +kernel
theorem dX7_nextOrder_92 : decode cX7_nextOrder 92 = .ok (.iload_n 3, 1) := by decide +kernel
theorem dX7_nextOrder_93 : decode cX7_nextOrder 93 = .ok (.iastore, 1) := by decide +kernel
theorem dX7_nextOrder_94 : decode cX7_nextOrder 94 = .ok (.iload_n 1, 1) := by decide +kernel
theorem dX7_nextOrder_95 : decode cX7_nextOrder 95 = .ok (.iconst 1, 1) := by decide +kernel
theorem dX7_nextOrder_96 : decode cX7_nextOrder 96 = .ok (.iadd, 1) := by decide +kernel
theorem dX7_nextOrder_97 : decode cX7_nextOrder 97 = .ok (.istore 4, 2) := by decide +kernel
theorem dX7_nextOrder_99 : decode cX7_nextOrder 99 = .ok (.aload_n 0, 1) := by decide +kernel
theorem dX7_nextOrder_100 : decode cX7_nextOrder 100 = .ok (.getfield 74, 3) := by decide +kernel
theorem dX7_nextOrder_103 : decode cX7_nextOrder 103 = .ok (.iconst 1, 1) := by decide +kernel
theorem dX7_nextOrder_104 : decode cX7_nextOrder 104 = .ok (.isub, 1) := by decide +kernel
theorem dX7_nextOrder_105 : decode cX7_nextOrder 105 = .ok (.istore 5, 2) := by decide +kernel
theorem dX7_nextOrder_107 : decode cX7_nextOrder 107 = .ok (.iload 4, 2) := by decide +kernel
theorem dX7_nextOrder_109 : decode cX7_nextOrder 109 = .ok (.iload 5, 2) := by decide +kernel
theorem dX7_nextOrder_111 : decode cX7_nextOrder 111 = .ok (.if_icmp .ge 42, 3) := by decide +kernel
theorem dX7_nextOrder_114 : decode cX7_nextOrder 114 = .ok (.aload_n 0, 1) := by decide +kernel
theorem dX7_nextOrder_115 : decode cX7_nextOrder 115 = .ok (.getfield 38, 3) := by decide +kernel
theorem dX7_nextOrder_118 : decode cX7_nextOrder 118 = .ok (.iload 4, 2) := by decide +kernel
theorem dX7_nextOrder_120 : decode cX7_nextOrder 120 = .ok (.iaload, 1) := by decide +kernel
theorem dX7_nextOrder_121 : decode cX7_nextOrder 121 = .ok (.istore_n 3, 1) := by decide +kernel
theorem dX7_nextOrder_122 : decode cX7_nextOrder 122 = .ok (.aload_n 0, 1) := by decide +kernel
theorem dX7_nextOrder_123 : decode cX7_nextOrder 123 = .ok (.getfield 38, 3) := by decide +kernel
theorem dX7_nextOrder_126 : decode cX7_nextOrder 126 = .ok (.iload 4, 2) := by decide +kernel
theorem dX7_nextOrder_128 : decode cX7_nextOrder 128 = .ok (.aload_n 0, 1) := by decide +kernel
theorem dX7_nextOrder_129 : decode cX7_nextOrder 129 = .ok (.getfield 38, 3) := by decide +kernel
theorem dX7_nextOrder_132 : decode cX7_nextOrder 132 = .ok (.iload 5, 2) := by decide +kernel
theorem dX7_nextOrder_134 : decode cX7_nextOrder 134 = .ok (.iaload, 1) := by decide +kernel
theorem dX7_nextOrder_135 : decode cX7_nextOrder 135 = .ok (.iastore, 1) := by decide +kernel
theorem dX7_nextOrder_136 : decode cX7_nextOrder 136 = .ok (.aload_n 0, 1) := by decide +kernel
theorem dX7_nextOrder_137 : decode cX7_nextOrder 137 = .ok (.getfield 38, 3) := by decide +kernel
theorem dX7_nextOrder_140 : decode cX7_nextOrder 140 = .ok (.iload 5, 2) := by decide +kernel
theorem dX7_nextOrder_142 : decode cX7_nextOrder 142 = .ok (.iload_n 3, 1) := by decide +kernel
theorem dX7_nextOrder_143 : decode cX7_nextOrder 143 = .ok (.iastore, 1) := by decide +kernel
theorem dX7_nextOrder_144 : decode cX7_nextOrder 144 = .ok (.iinc 4 1, 3) := by decide +kernel
theorem dX7_nextOrder_147 : decode cX7_nextOrder 147 = .ok (.iinc 5 (-1), 3) := by decide +kernel
theorem dX7_nextOrder_150 : decode cX7_nextOrder 150 = .ok (.goto (-43), 3) := by decide +kernel
theorem dX7_nextOrder_153 : decode cX7_nextOrder 153 = .ok (.iconst 1, 1) := by decide +kernel
theorem dX7_nextOrder_154 : decode cX7_nextOrder 154 = .ok (.ireturn, 1) := by decide +kernel
theorem dX7_order_0 : decode cX7_order 0 = .ok (.aload_n 0, 1) := by decide +kernel
theorem dX7_order_1 : decode cX7_order 1 = .ok (.invokevirtual 174, 3) := by decide +kernel
theorem dX7_order_4 : decode cX7_order 4 = .ok (.ifCond .eq 6, 3) := by decide +kernel
theorem dX7_order_7 : decode cX7_order 7 = .ok (.ldc 173, 2) := by decide +kernel
theorem dX7_order_9 : decode cX7_order 9 = .ok (.ireturn, 1) := by decide +kernel
theorem dX7_order_10 : decode cX7_order 10 = .ok (.iload_n 1, 1) := by decide +kernel
theorem dX7_order_11 : decode cX7_order 11 = .ok (.iconst 1, 1) := by decide +kernel
theorem dX7_order_12 : decode cX7_order 12 = .ok (.bipush 40, 2) := by decide +kernel
theorem dX7_order_14 : decode cX7_order 14 = .ok (.invokestatic 70, 3) := by decide +kernel
theorem dX7_order_17 : decode cX7_order 17 = .ok (.ifCond .eq 8, 3) := by decide +kernel
theorem dX7_order_20 : decode cX7_order 20 = .ok (.iload_n 2, 1) := by decide +kernel
theorem dX7_order_21 : decode cX7_order 21 = .ok (.iconst (-1), 1) := by decide +kernel
theorem dX7_order_22 : decode cX7_order 22 = .ok (.if_icmp .ge 6, 3) := by decide +kernel
theorem dX7_order_25 : decode cX7_order 25 = .ok (.ldc 84, 2) := by decide +kernel
theorem dX7_order_27 : decode cX7_order 27 = .ok (.ireturn, 1) := by decide +kernel
theorem dX7_order_28 : decode cX7_order 28 = .ok (.iconst (-1), 1) := by decide +kernel
theorem dX7_order_29 : decode cX7_order 29 = .ok (.istore_n 3, 1) := by decide +kernel
theorem dX7_order_30 : decode cX7_order 30 = .ok (.iconst 1, 1) := by decide +kernel
theorem dX7_order_31 : decode cX7_order 31 = .ok (.istore 4, 2) := by decide +kernel
theorem dX7_order_33 : decode cX7_order 33 = .ok (.aload_n 0, 1) := by decide +kernel
theorem dX7_order_34 : decode cX7_order 34 = .ok (.invokevirtual 62, 3) := by decide +kernel
theorem dX7_order_37 : decode cX7_order 37 = .ok (.iload 4, 2) := by decide +kernel
theorem dX7_order_39 : decode cX7_order 39 = .ok (.ifCond .eq 143, 3) := by decide +kernel
theorem dX7_order_42 : decode cX7_order 42 = .ok (.aload_n 0, 1) := by decide +kernel
theorem dX7_order_43 : decode cX7_order 43 = .ok (.invokevirtual 202, 3) := by decide +kernel
theorem dX7_order_46 : decode cX7_order 46 = .ok (.iconst 0, 1) := by decide +kernel
theorem dX7_order_47 : decode cX7_order 47 = .ok (.istore 5, 2) := by decide +kernel
theorem dX7_order_49 : decode cX7_order 49 = .ok (.iload 5, 2) := by decide +kernel
theorem dX7_order_51 : decode cX7_order 51 = .ok (.aload_n 0, 1) := by decide +kernel
theorem dX7_order_52 : decode cX7_order 52 = .ok (.getfield 74, 3) := by decide +kernel
theorem dX7_order_55 : decode cX7_order 55 = .ok (.if_icmp .ge 34, 3) := by decide +kernel
theorem dX7_order_58 : decode cX7_order 58 = .ok (.aload_n 0, 1) := by decide +kernel
theorem dX7_order_59 : decode cX7_order 59 = .ok (.getfield 41, 3) := by decide +kernel
theorem dX7_order_62 : decode cX7_order 62 = .ok (.bipush 55, 2) := by decide +kernel
theorem dX7_order_64 : decode cX7_order 64 = .ok (.iload 5, 2) := by decide +kernel
theorem dX7_order_66 : decode cX7_order 66 = .ok (.iadd, 1) := by decide +kernel
theorem dX7_order_67 : decode cX7_order 67 = .ok (.aload_n 0, 1) := by decide +kernel
theorem dX7_order_68 : decode cX7_order 68 = .ok (.getfield 25, 3) := by decide +kernel
theorem dX7_order_71 : decode cX7_order 71 = .ok (.bipush 55, 2) := by decide +kernel
theorem dX7_order_73 : decode cX7_order 73 = .ok (.aload_n 0, 1) := by decide +kernel
theorem dX7_order_74 : decode cX7_order 74 = .ok (.getfield 38, 3) := by decide +kernel
theorem dX7_order_77 : decode cX7_order 77 = .ok (.iload 5, 2) := by decide +kernel
theorem dX7_order_79 : decode cX7_order 79 = .ok (.iaload, 1) := by decide +kernel
theorem dX7_order_80 : decode cX7_order 80 = .ok (.iadd, 1) := by decide +kernel
theorem dX7_order_81 : decode cX7_order 81 = .ok (.iaload, 1) := by decide +kernel
theorem dX7_order_82 : decode cX7_order 82 = .ok (.iastore, 1) := by decide +kernel
theorem dX7_order_83 : decode cX7_order 83 = .ok (.iinc 5 1, 3) := by decide +kernel
theorem dX7_order_86 : decode cX7_order 86 = .ok (.goto (-37), 3) := by decide +kernel
theorem dX7_order_89 : decode cX7_order 89 = .ok (.aload_n 0, 1) := by decide +kernel
theorem dX7_order_90 : decode cX7_order 90 = .ok (.iload_n 1, 1) := by decide +kernel
theorem dX7_order_91 : decode cX7_order 91 = .ok (.invokevirtual 205, 3) := by decide +kernel
theorem dX7_order_94 : decode cX7_order 94 = .ok (.iconst 0, 1) := by decide +kernel
theorem dX7_order_95 : decode cX7_order 95 = .ok (.istore 5, 2) := by decide +kernel
theorem dX7_order_97 : decode cX7_order 97 = .ok (.iconst 0, 1) := by decide +kernel
theorem dX7_order_98 : decode cX7_order 98 = .ok (.istore 6, 2) := by decide +kernel
theorem dX7_order_100 : decode cX7_order 100 = .ok (.iload 6, 2) := by decide +kernel
theorem dX7_order_102 : decode cX7_order 102 = .ok (.aload_n 0, 1) := by decide +kernel
theorem dX7_order_103 : decode cX7_order 103 = .ok (.getfield 74, 3) := by decide +kernel
theorem dX7_order_106 : decode cX7_order 106 = .ok (.if_icmp .ge 43, 3) := by decide +kernel
theorem dX7_order_109 : decode cX7_order 109 = .ok (.iload 5, 2) := by decide +kernel
theorem dX7_order_111 : decode cX7_order 111 = .ok (.aload_n 0, 1) := by decide +kernel
theorem dX7_order_112 : decode cX7_order 112 = .ok (.getfield 41, 3) := by decide +kernel
theorem dX7_order_115 : decode cX7_order 115 = .ok (.bipush 49, 2) := by decide +kernel
theorem dX7_order_117 : decode cX7_order 117 = .ok (.iload 6, 2) := by decide +kernel
theorem dX7_order_119 : decode cX7_order 119 = .ok (.iadd, 1) := by decide +kernel
theorem dX7_order_120 : decode cX7_order 120 = .ok (.iaload, 1) := by decide +kernel
theorem dX7_order_121 : decode cX7_order 121 = .ok (.bipush 9, 2) := by decide +kernel
theorem dX7_order_123 : decode cX7_order 123 = .ok (.if_icmp .ne 16, 3) := by decide +kernel
theorem dX7_order_126 : decode cX7_order 126 = .ok (.aload_n 0, 1) := by decide +kernel
theorem dX7_order_127 : decode cX7_order 127 = .ok (.getfield 41, 3) := by decide +kernel
theorem dX7_order_130 : decode cX7_order 130 = .ok (.bipush 55, 2) := by decide +kernel
theorem dX7_order_132 : decode cX7_order 132 = .ok (.iload 6, 2) := by decide +kernel
theorem dX7_order_134 : decode cX7_order 134 = .ok (.iadd, 1) := by decide +kernel
theorem dX7_order_135 : decode cX7_order 135 = .ok (.iaload, 1) := by decide +kernel
theorem dX7_order_136 : decode cX7_order 136 = .ok (.goto 4, 3) := by decide +kernel
theorem dX7_order_139 : decode cX7_order 139 = .ok (.iconst 0, 1) := by decide +kernel
theorem dX7_order_140 : decode cX7_order 140 = .ok (.iadd, 1) := by decide +kernel
theorem dX7_order_141 : decode cX7_order 141 = .ok (.istore 5, 2) := by decide +kernel
theorem dX7_order_143 : decode cX7_order 143 = .ok (.iinc 6 1, 3) := by decide +kernel
theorem dX7_order_146 : decode cX7_order 146 = .ok (.goto (-46), 3) := by decide +kernel
theorem dX7_order_149 : decode cX7_order 149 = .ok (.iload 5, 2) := by decide +kernel
theorem dX7_order_151 : decode cX7_order 151 = .ok (.iload_n 3, 1) := by decide +kernel
theorem dX7_order_152 : decode cX7_order 152 = .ok (.if_icmp .le 21, 3) := by decide +kernel
theorem dX7_order_155 : decode cX7_order 155 = .ok (.iload 5, 2) := by decide +kernel
theorem dX7_order_157 : decode cX7_order 157 = .ok (.istore_n 3, 1) := by decide +kernel
theorem dX7_order_158 : decode cX7_order 158 = .ok (.aload_n 0, 1) := by decide +kernel
theorem dX7_order_159 : decode cX7_order 159 = .ok (.getfield 38, 3) := by decide +kernel
theorem dX7_order_162 : decode cX7_order 162 = .ok (.iconst 0, 1) := by decide +kernel
theorem dX7_order_163 : decode cX7_order 163 = .ok (.aload_n 0, 1) := by decide +kernel
theorem dX7_order_164 : decode cX7_order 164 = .ok (.getfield 53, 3) := by decide +kernel
theorem dX7_order_167 : decode cX7_order 167 = .ok (.iconst 0, 1) := by decide +kernel
theorem dX7_order_168 : decode cX7_order 168 = .ok (.bipush 6, 2) := by decide +kernel
theorem dX7_order_170 : decode cX7_order 170 = .ok (.invokestatic 155, 3) := by decide +kernel
theorem dX7_order_173 : decode cX7_order 173 = .ok (.aload_n 0, 1) := by decide +kernel
theorem dX7_order_174 : decode cX7_order 174 = .ok (.invokevirtual 220, 3) := by decide +kernel
theorem dX7_order_177 : decode cX7_order 177 = .ok (.istore 4, 2) := by decide +kernel
theorem dX7_order_179 : decode cX7_order 179 = .ok (.goto (-142), 3) := by decide +kernel
theorem dX7_order_182 : decode cX7_order 182 = .ok (.iload_n 2, 1) := by decide +kernel
theorem dX7_order_183 : decode cX7_order 183 = .ok (.ifCond .ge 7, 3) := by decide +kernel
theorem dX7_order_186 : decode cX7_order 186 = .ok (.iload_n 3, 1) := by decide +kernel
theorem dX7_order_187 : decode cX7_order 187 = .ok (.goto 22, 3) := by decide +kernel
theorem dX7_order_190 : decode cX7_order 190 = .ok (.iload_n 2, 1) := by decide +kernel
theorem dX7_order_191 : decode cX7_order 191 = .ok (.aload_n 0, 1) := by decide +kernel
theorem dX7_order_192 : decode cX7_order 192 = .ok (.getfield 74, 3) := by decide +kernel
theorem dX7_order_195 : decode cX7_order 195 = .ok (.if_icmp .ge 12, 3) := by decide +kernel
theorem dX7_order_198 : decode cX7_order 198 = .ok (.aload_n 0, 1) := by decide +kernel
theorem dX7_order_199 : decode cX7_order 199 = .ok (.getfield 53, 3) := by decide +kernel
theorem dX7_order_202 : decode cX7_order 202 = .ok (.iload_n 2, 1) := by decide +kernel
theorem dX7_order_203 : decode cX7_order 203 = .ok (.iaload, 1) := by decide +kernel
theorem dX7_order_204 : decode cX7_order 204 = .ok (.goto 5, 3) := by decide +kernel
theorem dX7_order_207 : decode cX7_order 207 = .ok (.ldc 135, 2) := by decide +kernel
theorem dX7_order_209 : decode cX7_order 209 = .ok (.ireturn, 1) := by decide +kernel
theorem dX7_leads_0 : decode cX7_leads 0 = .ok (.aload_n 0, 1) := by decide +kernel
theorem dX7_leads_1 : decode cX7_leads 1 = .ok (.iload_n 1, 1) := by decide +kernel
theorem dX7_leads_2 : decode cX7_leads 2 = .ok (.invokevirtual 189, 3) := by decide +kernel
theorem dX7_leads_5 : decode cX7_leads 5 = .ok (.ifCond .eq 22, 3) := by decide +kernel
theorem dX7_leads_8 : decode cX7_leads 8 = .ok (.iload_n 2, 1) := by decide +kernel
theorem dX7_leads_9 : decode cX7_leads 9 = .ok (.iconst 1, 1) := by decide +kernel
theorem dX7_leads_10 : decode cX7_leads 10 = .ok (.bipush 40, 2) := by decide +kernel
theorem dX7_leads_12 : decode cX7_leads 12 = .ok (.invokestatic 70, 3) := by decide +kernel
theorem dX7_leads_15 : decode cX7_leads 15 = .ok (.ifCond .eq 12, 3) := by decide +kernel
theorem dX7_leads_18 : decode cX7_leads 18 = .ok (.iload_n 3, 1) := by decide +kernel
theorem dX7_leads_19 : decode cX7_leads 19 = .ok (.iconst 0, 1) := by decide +kernel
theorem dX7_leads_20 : decode cX7_leads 20 = .ok (.iconst 1, 1) := by decide +kernel
theorem dX7_leads_21 : decode cX7_leads 21 = .ok (.invokestatic 70, 3) := by decide +kernel
theorem dX7_leads_24 : decode cX7_leads 24 = .ok (.ifCond .ne 6, 3) := by decide +kernel
theorem dX7_leads_27 : decode cX7_leads 27 = .ok (.ldc 84, 2) := by decide +kernel
theorem dX7_leads_29 : decode cX7_leads 29 = .ok (.ireturn, 1) := by decide +kernel
theorem dX7_leads_30 : decode cX7_leads 30 = .ok (.iconst 0, 1) := by decide +kernel
theorem dX7_leads_31 : decode cX7_leads 31 = .ok (.istore 4, 2) := by decide +kernel
theorem dX7_leads_33 : decode cX7_leads 33 = .ok (.iconst (-1), 1) := by decide +kernel
theorem dX7_leads_34 : decode cX7_leads 34 = .ok (.istore 5, 2) := by decide +kernel
theorem dX7_leads_36 : decode cX7_leads 36 = .ok (.iload_n 1, 1) := by decide +kernel
theorem dX7_leads_37 : decode cX7_leads 37 = .ok (.iconst 1, 1) := by decide +kernel
theorem dX7_leads_38 : decode cX7_leads 38 = .ok (.iadd, 1) := by decide +kernel
theorem dX7_leads_39 : decode cX7_leads 39 = .ok (.istore 6, 2) := by decide +kernel
theorem dX7_leads_41 : decode cX7_leads 41 = .ok (.iload 6, 2) := by decide +kernel
theorem dX7_leads_43 : decode cX7_leads 43 = .ok (.bipush 9, 2) := by decide +kernel
theorem dX7_leads_45 : decode cX7_leads 45 = .ok (.if_icmp .gt 70, 3) := by decide +kernel
theorem dX7_leads_48 : decode cX7_leads 48 = .ok (.aload_n 0, 1) := by decide +kernel
theorem dX7_leads_49 : decode cX7_leads 49 = .ok (.invokevirtual 202, 3) := by decide +kernel
theorem dX7_leads_52 : decode cX7_leads 52 = .ok (.aload_n 0, 1) := by decide +kernel
theorem dX7_leads_53 : decode cX7_leads 53 = .ok (.getfield 41, 3) := by decide +kernel
theorem dX7_leads_56 : decode cX7_leads 56 = .ok (.bipush 17, 2) := by decide +kernel
theorem dX7_leads_58 : decode cX7_leads 58 = .ok (.iload_n 1, 1) := by decide +kernel
theorem dX7_leads_59 : decode cX7_leads 59 = .ok (.iadd, 1) := by decide +kernel
theorem dX7_leads_60 : decode cX7_leads 60 = .ok (.iload 6, 2) := by decide +kernel
theorem dX7_leads_62 : decode cX7_leads 62 = .ok (.iastore, 1) := by decide +kernel
theorem dX7_leads_63 : decode cX7_leads 63 = .ok (.aload_n 0, 1) := by decide +kernel
theorem dX7_leads_64 : decode cX7_leads 64 = .ok (.iload_n 2, 1) := by decide +kernel
theorem dX7_leads_65 : decode cX7_leads 65 = .ok (.invokevirtual 205, 3) := by decide +kernel
theorem dX7_leads_68 : decode cX7_leads 68 = .ok (.aload_n 0, 1) := by decide +kernel
theorem dX7_leads_69 : decode cX7_leads 69 = .ok (.invokevirtual 211, 3) := by decide +kernel
theorem dX7_leads_72 : decode cX7_leads 72 = .ok (.invokestatic 217, 3) := by decide +kernel
theorem dX7_leads_75 : decode cX7_leads 75 = .ok (.istore 7, 2) := by decide +kernel
theorem dX7_leads_77 : decode cX7_leads 77 = .ok (.iload 7, 2) := by decide +kernel
theorem dX7_leads_79 : decode cX7_leads 79 = .ok (.iload 5, 2) := by decide +kernel
theorem dX7_leads_81 : decode cX7_leads 81 = .ok (.if_icmp .le 8, 3) := by decide +kernel
theorem dX7_leads_84 : decode cX7_leads 84 = .ok (.iload 6, 2) := by decide +kernel
theorem dX7_leads_86 : decode cX7_leads 86 = .ok (.goto 5, 3) := by decide +kernel
theorem dX7_leads_89 : decode cX7_leads 89 = .ok (.iload 4, 2) := by decide +kernel
theorem dX7_leads_91 : decode cX7_leads 91 = .ok (.istore 4, 2) := by decide +kernel
theorem dX7_leads_93 : decode cX7_leads 93 = .ok (.iload 7, 2) := by decide +kernel
theorem dX7_leads_95 : decode cX7_leads 95 = .ok (.iload 5, 2) := by decide +kernel
theorem dX7_leads_97 : decode cX7_leads 97 = .ok (.if_icmp .le 8, 3) := by decide +kernel
theorem dX7_leads_100 : decode cX7_leads 100 = .ok (.iload 7, 2) := by decide +kernel
theorem dX7_leads_102 : decode cX7_leads 102 = .ok (.goto 5, 3) := by decide +kernel
theorem dX7_leads_105 : decode cX7_leads 105 = .ok (.iload 5, 2) := by decide +kernel
theorem dX7_leads_107 : decode cX7_leads 107 = .ok (.istore 5, 2) := by decide +kernel
theorem dX7_leads_109 : decode cX7_leads 109 = .ok (.iinc 6 1, 3) := by decide +kernel
theorem dX7_leads_112 : decode cX7_leads 112 = .ok (.goto (-71), 3) := by decide +kernel
theorem dX7_leads_115 : decode cX7_leads 115 = .ok (.iload_n 3, 1) := by decide +kernel
theorem dX7_leads_116 : decode cX7_leads 116 = .ok (.ifCond .ne 8, 3) := by decide +kernel
theorem dX7_leads_119 : decode cX7_leads 119 = .ok (.iload 4, 2) := by decide +kernel
theorem dX7_leads_121 : decode cX7_leads 121 = .ok (.goto 5, 3) := by decide +kernel
theorem dX7_leads_124 : decode cX7_leads 124 = .ok (.iload 5, 2) := by decide +kernel
theorem dX7_leads_126 : decode cX7_leads 126 = .ok (.ireturn, 1) := by decide +kernel
theorem dX7_weightOf_0 : decode cX7_weightOf 0 = .ok (.iconst 0, 1) := by decide +kernel
theorem dX7_weightOf_1 : decode cX7_weightOf 1 = .ok (.istore_n 2, 1) := by decide +kernel
theorem dX7_weightOf_2 : decode cX7_weightOf 2 = .ok (.iconst 0, 1) := by decide +kernel
theorem dX7_weightOf_3 : decode cX7_weightOf 3 = .ok (.istore_n 3, 1) := by decide +kernel
theorem dX7_weightOf_4 : decode cX7_weightOf 4 = .ok (.iload_n 3, 1) := by decide +kernel
theorem dX7_weightOf_5 : decode cX7_weightOf 5 = .ok (.aload_n 0, 1) := by decide +kernel
theorem dX7_weightOf_6 : decode cX7_weightOf 6 = .ok (.getfield 74, 3) := by decide +kernel
theorem dX7_weightOf_9 : decode cX7_weightOf 9 = .ok (.if_icmp .ge 27, 3) := by decide +kernel
theorem dX7_weightOf_12 : decode cX7_weightOf 12 = .ok (.iload_n 2, 1) := by decide +kernel
theorem dX7_weightOf_13 : decode cX7_weightOf 13 = .ok (.iload_n 1, 1) := by decide +kernel
theorem dX7_weightOf_14 : decode cX7_weightOf 14 = .ok (.iload_n 3, 1) := by decide +kernel
theorem dX7_weightOf_15 : decode cX7_weightOf 15 = .ok (.ishr, 1) := by decide +kernel
theorem dX7_weightOf_16 : decode cX7_weightOf 16 = .ok (.iconst 1, 1) := by decide +kernel
theorem dX7_weightOf_17 : decode cX7_weightOf 17 = .ok (.iand, 1) := by decide +kernel
theorem dX7_weightOf_18 : decode cX7_weightOf 18 = .ok (.aload_n 0, 1) := by decide +kernel
theorem dX7_weightOf_19 : decode cX7_weightOf 19 = .ok (.getfield 25, 3) := by decide +kernel
theorem dX7_weightOf_22 : decode cX7_weightOf 22 = .ok (.bipush 55, 2) := by decide +kernel
theorem dX7_weightOf_24 : decode cX7_weightOf 24 = .ok (.iload_n 3, 1) := by decide +kernel
theorem dX7_weightOf_25 : decode cX7_weightOf 25 = .ok (.iadd, 1) := by decide +kernel
theorem dX7_weightOf_26 : decode cX7_weightOf 26 = .ok (.iaload, 1) := by decide +kernel
theorem dX7_weightOf_27 : decode cX7_weightOf 27 = .ok (.imul, 1) := by decide +kernel
theorem dX7_weightOf_28 : decode cX7_weightOf 28 = .ok (.iadd, 1) := by decide +kernel
theorem dX7_weightOf_29 : decode cX7_weightOf 29 = .ok (.istore_n 2, 1) := by decide +kernel
theorem dX7_weightOf_30 : decode cX7_weightOf 30 = .ok (.iinc 3 1, 3) := by decide +kernel
theorem dX7_weightOf_33 : decode cX7_weightOf 33 = .ok (.goto (-29), 3) := by decide +kernel
theorem dX7_weightOf_36 : decode cX7_weightOf 36 = .ok (.iload_n 2, 1) := by decide +kernel
theorem dX7_weightOf_37 : decode cX7_weightOf 37 = .ok (.ireturn, 1) := by decide +kernel
theorem dX7_sets_0 : decode cX7_sets 0 = .ok (.aload_n 0, 1) := by decide +kernel
theorem dX7_sets_1 : decode cX7_sets 1 = .ok (.invokevirtual 174, 3) := by decide +kernel
theorem dX7_sets_4 : decode cX7_sets 4 = .ok (.ifCond .eq 6, 3) := by decide +kernel
theorem dX7_sets_7 : decode cX7_sets 7 = .ok (.ldc 173, 2) := by decide +kernel
theorem dX7_sets_9 : decode cX7_sets 9 = .ok (.ireturn, 1) := by decide +kernel
theorem dX7_sets_10 : decode cX7_sets 10 = .ok (.iload_n 1, 1) := by decide +kernel
theorem dX7_sets_11 : decode cX7_sets 11 = .ok (.iconst 0, 1) := by decide +kernel
theorem dX7_sets_12 : decode cX7_sets 12 = .ok (.bipush 54, 2) := by decide +kernel
theorem dX7_sets_14 : decode cX7_sets 14 = .ok (.invokestatic 70, 3) := by decide +kernel
theorem dX7_sets_17 : decode cX7_sets 17 = .ok (.ifCond .eq 12, 3) := by decide +kernel
theorem dX7_sets_20 : decode cX7_sets 20 = .ok (.iload_n 2, 1) := by decide +kernel
theorem dX7_sets_21 : decode cX7_sets 21 = .ok (.iconst 0, 1) := by decide +kernel
theorem dX7_sets_22 : decode cX7_sets 22 = .ok (.iconst 2, 1) := by decide +kernel
theorem dX7_sets_23 : decode cX7_sets 23 = .ok (.invokestatic 70, 3) := by decide +kernel
theorem dX7_sets_26 : decode cX7_sets 26 = .ok (.ifCond .ne 6, 3) := by decide +kernel
theorem dX7_sets_29 : decode cX7_sets 29 = .ok (.ldc 84, 2) := by decide +kernel
theorem dX7_sets_31 : decode cX7_sets 31 = .ok (.ireturn, 1) := by decide +kernel
theorem dX7_sets_32 : decode cX7_sets 32 = .ok (.iconst 0, 1) := by decide +kernel
theorem dX7_sets_33 : decode cX7_sets 33 = .ok (.istore_n 3, 1) := by decide +kernel
theorem dX7_sets_34 : decode cX7_sets 34 = .ok (.iconst 0, 1) := by decide +kernel
theorem dX7_sets_35 : decode cX7_sets 35 = .ok (.istore 4, 2) := by decide +kernel
theorem dX7_sets_37 : decode cX7_sets 37 = .ok (.iload 4, 2) := by decide +kernel
theorem dX7_sets_39 : decode cX7_sets 39 = .ok (.aload_n 0, 1) := by decide +kernel
theorem dX7_sets_40 : decode cX7_sets 40 = .ok (.getfield 74, 3) := by decide +kernel
theorem dX7_sets_43 : decode cX7_sets 43 = .ok (.if_icmp .ge 33, 3) := by decide +kernel
theorem dX7_sets_46 : decode cX7_sets 46 = .ok (.iload_n 3, 1) := by decide +kernel
theorem dX7_sets_47 : decode cX7_sets 47 = .ok (.aload_n 0, 1) := by decide +kernel
theorem dX7_sets_48 : decode cX7_sets 48 = .ok (.aload_n 0, 1) := by decide +kernel
theorem dX7_sets_49 : decode cX7_sets 49 = .ok (.getfield 25, 3) := by decide +kernel
theorem dX7_sets_52 : decode cX7_sets 52 = .ok (.iload 4, 2) := by decide +kernel
theorem dX7_sets_54 : decode cX7_sets 54 = .ok (.invokevirtual 195, 3) := by decide +kernel
theorem dX7_sets_57 : decode cX7_sets 57 = .ok (.ifCond .eq 7, 3) := by decide +kernel
theorem dX7_sets_60 : decode cX7_sets 60 = .ok (.iconst 0, 1) := by decide +kernel
theorem dX7_sets_61 : decode cX7_sets 61 = .ok (.goto 7, 3) := by decide +kernel
theorem dX7_sets_64 : decode cX7_sets 64 = .ok (.iconst 1, 1) := by decide +kernel
theorem dX7_sets_65 : decode cX7_sets 65 = .ok (.iload 4, 2) := by decide +kernel
theorem dX7_sets_67 : decode cX7_sets 67 = .ok (.ishl, 1) := by decide +kernel
theorem dX7_sets_68 : decode cX7_sets 68 = .ok (.ior, 1) := by decide +kernel
theorem dX7_sets_69 : decode cX7_sets 69 = .ok (.istore_n 3, 1) := by decide +kernel
theorem dX7_sets_70 : decode cX7_sets 70 = .ok (.iinc 4 1, 3) := by decide +kernel
theorem dX7_sets_73 : decode cX7_sets 73 = .ok (.goto (-36), 3) := by decide +kernel
theorem dX7_sets_76 : decode cX7_sets 76 = .ok (.iconst 0, 1) := by decide +kernel
theorem dX7_sets_77 : decode cX7_sets 77 = .ok (.istore 4, 2) := by decide +kernel
theorem dX7_sets_79 : decode cX7_sets 79 = .ok (.iload_n 3, 1) := by decide +kernel
theorem dX7_sets_80 : decode cX7_sets 80 = .ok (.istore 5, 2) := by decide +kernel
theorem dX7_sets_82 : decode cX7_sets 82 = .ok (.iconst 0, 1) := by decide +kernel
theorem dX7_sets_83 : decode cX7_sets 83 = .ok (.istore 6, 2) := by decide +kernel
theorem dX7_sets_85 : decode cX7_sets 85 = .ok (.iconst 0, 1) := by decide +kernel
theorem dX7_sets_86 : decode cX7_sets 86 = .ok (.istore 7, 2) := by decide +kernel
theorem dX7_sets_88 : decode cX7_sets 88 = .ok (.iload 7, 2) := by decide +kernel
theorem dX7_sets_90 : decode cX7_sets 90 = .ok (.iconst 1, 1) := by decide +kernel
theorem dX7_sets_91 : decode cX7_sets 91 = .ok (.aload_n 0, 1) := by decide +kernel
theorem dX7_sets_92 : decode cX7_sets 92 = .ok (.getfield 74, 3) := by decide +kernel
theorem dX7_sets_95 : decode cX7_sets 95 = .ok (.ishl, 1) := by decide +kernel
theorem dX7_sets_96 : decode cX7_sets 96 = .ok (.if_icmp .ge 45, 3) := by decide +kernel
theorem dX7_sets_99 : decode cX7_sets 99 = .ok (.iload 7, 2) := by decide +kernel
theorem dX7_sets_101 : decode cX7_sets 101 = .ok (.iload_n 3, 1) := by decide +kernel
theorem dX7_sets_102 : decode cX7_sets 102 = .ok (.iconst (-1), 1) := by decide +kernel
theorem dX7_sets_103 : decode cX7_sets 103 = .ok (.ixor, 1) := by decide +kernel
theorem dX7_sets_104 : decode cX7_sets 104 = .ok (.iand, 1) := by decide +kernel
theorem dX7_sets_105 : decode cX7_sets 105 = .ok (.ifCond .ne 30, 3) := by decide +kernel
theorem dX7_sets_108 : decode cX7_sets 108 = .ok (.aload_n 0, 1) := by decide +kernel
theorem dX7_sets_109 : decode cX7_sets 109 = .ok (.iload 7, 2) := by decide +kernel
theorem dX7_sets_111 : decode cX7_sets 111 = .ok (.invokevirtual 223, 3) := by decide +kernel
theorem dX7_sets_114 : decode cX7_sets 114 = .ok (.iload_n 1, 1) := by decide +kernel
theorem dX7_sets_115 : decode cX7_sets 115 = .ok (.if_icmp .ne 20, 3) := by decide +kernel
theorem dX7_sets_118 : decode cX7_sets 118 = .ok (.iinc 4 1, 3) := by decide +kernel
theorem dX7_sets_121 : decode cX7_sets 121 = .ok (.iload 5, 2) := by decide +kernel
theorem dX7_sets_123 : decode cX7_sets 123 = .ok (.iload 7, 2) := by decide +kernel
theorem dX7_sets_125 : decode cX7_sets 125 = .ok (.iand, 1) := by decide +kernel
theorem dX7_sets_126 : decode cX7_sets 126 = .ok (.istore 5, 2) := by decide +kernel
theorem dX7_sets_128 : decode cX7_sets 128 = .ok (.iload 6, 2) := by decide +kernel
theorem dX7_sets_130 : decode cX7_sets 130 = .ok (.iload 7, 2) := by decide +kernel
theorem dX7_sets_132 : decode cX7_sets 132 = .ok (.ior, 1) := by decide +kernel
theorem dX7_sets_133 : decode cX7_sets 133 = .ok (.istore 6, 2) := by decide +kernel
theorem dX7_sets_135 : decode cX7_sets 135 = .ok (.iinc 7 1, 3) := by decide +kernel
theorem dX7_sets_138 : decode cX7_sets 138 = .ok (.goto (-50), 3) := by decide +kernel
theorem dX7_sets_141 : decode cX7_sets 141 = .ok (.iload_n 2, 1) := by decide +kernel
theorem dX7_sets_142 : decode cX7_sets 142 = .ok (.ifCond .ne 8, 3) := by decide +kernel
theorem dX7_sets_145 : decode cX7_sets 145 = .ok (.iload 4, 2) := by decide +kernel
theorem dX7_sets_147 : decode cX7_sets 147 = .ok (.goto 24, 3) := by decide +kernel
theorem dX7_sets_150 : decode cX7_sets 150 = .ok (.iload 4, 2) := by decide +kernel
theorem dX7_sets_152 : decode cX7_sets 152 = .ok (.ifCond .ne 7, 3) := by decide +kernel
theorem dX7_sets_155 : decode cX7_sets 155 = .ok (.iconst 0, 1) := by decide +kernel
theorem dX7_sets_156 : decode cX7_sets 156 = .ok (.goto 15, 3) := by decide +kernel
theorem dX7_sets_159 : decode cX7_sets 159 = .ok (.iload_n 2, 1) := by decide +kernel
theorem dX7_sets_160 : decode cX7_sets 160 = .ok (.iconst 1, 1) := by decide +kernel
theorem dX7_sets_161 : decode cX7_sets 161 = .ok (.if_icmp .ne 8, 3) := by decide +kernel
theorem dX7_sets_164 : decode cX7_sets 164 = .ok (.iload 5, 2) := by decide +kernel
theorem dX7_sets_166 : decode cX7_sets 166 = .ok (.goto 5, 3) := by decide +kernel
theorem dX7_sets_169 : decode cX7_sets 169 = .ok (.iload 6, 2) := by decide +kernel
theorem dX7_sets_171 : decode cX7_sets 171 = .ok (.ireturn, 1) := by decide +kernel
theorem dX7_wentOfAll_0 : decode cX7_wentOfAll 0 = .ok (.iconst 0, 1) := by decide +kernel
theorem dX7_wentOfAll_1 : decode cX7_wentOfAll 1 = .ok (.istore_n 1, 1) := by decide +kernel
theorem dX7_wentOfAll_2 : decode cX7_wentOfAll 2 = .ok (.iconst 0, 1) := by decide +kernel
theorem dX7_wentOfAll_3 : decode cX7_wentOfAll 3 = .ok (.istore_n 2, 1) := by decide +kernel
theorem dX7_wentOfAll_4 : decode cX7_wentOfAll 4 = .ok (.iload_n 2, 1) := by decide +kernel
theorem dX7_wentOfAll_5 : decode cX7_wentOfAll 5 = .ok (.aload_n 0, 1) := by decide +kernel
theorem dX7_wentOfAll_6 : decode cX7_wentOfAll 6 = .ok (.getfield 77, 3) := by decide +kernel
theorem dX7_wentOfAll_9 : decode cX7_wentOfAll 9 = .ok (.if_icmp .ge 21, 3) := by decide +kernel
theorem dX7_wentOfAll_12 : decode cX7_wentOfAll 12 = .ok (.iload_n 1, 1) := by decide +kernel
theorem dX7_wentOfAll_13 : decode cX7_wentOfAll 13 = .ok (.aload_n 0, 1) := by decide +kernel
theorem dX7_wentOfAll_14 : decode cX7_wentOfAll 14 = .ok (.getfield 25, 3) := by decide +kernel
theorem dX7_wentOfAll_17 : decode cX7_wentOfAll 17 = .ok (.bipush 33, 2) := by decide +kernel
theorem dX7_wentOfAll_19 : decode cX7_wentOfAll 19 = .ok (.iload_n 2, 1) := by decide +kernel
theorem dX7_wentOfAll_20 : decode cX7_wentOfAll 20 = .ok (.iadd, 1) := by decide +kernel
theorem dX7_wentOfAll_21 : decode cX7_wentOfAll 21 = .ok (.iaload, 1) := by decide +kernel
theorem dX7_wentOfAll_22 : decode cX7_wentOfAll 22 = .ok (.iadd, 1) := by decide +kernel
theorem dX7_wentOfAll_23 : decode cX7_wentOfAll 23 = .ok (.istore_n 1, 1) := by decide +kernel
theorem dX7_wentOfAll_24 : decode cX7_wentOfAll 24 = .ok (.iinc 2 1, 3) := by decide +kernel
theorem dX7_wentOfAll_27 : decode cX7_wentOfAll 27 = .ok (.goto (-23), 3) := by decide +kernel
theorem dX7_wentOfAll_30 : decode cX7_wentOfAll 30 = .ok (.iload_n 1, 1) := by decide +kernel
theorem dX7_wentOfAll_31 : decode cX7_wentOfAll 31 = .ok (.ireturn, 1) := by decide +kernel
theorem dX7_share_0 : decode cX7_share 0 = .ok (.aload_n 0, 1) := by decide +kernel
theorem dX7_share_1 : decode cX7_share 1 = .ok (.iload_n 1, 1) := by decide +kernel
theorem dX7_share_2 : decode cX7_share 2 = .ok (.invokevirtual 189, 3) := by decide +kernel
theorem dX7_share_5 : decode cX7_share 5 = .ok (.ifCond .eq 14, 3) := by decide +kernel
theorem dX7_share_8 : decode cX7_share 8 = .ok (.iload_n 2, 1) := by decide +kernel
theorem dX7_share_9 : decode cX7_share 9 = .ok (.iconst 0, 1) := by decide +kernel
theorem dX7_share_10 : decode cX7_share 10 = .ok (.sipush 999, 3) := by decide +kernel
theorem dX7_share_13 : decode cX7_share 13 = .ok (.invokestatic 70, 3) := by decide +kernel
theorem dX7_share_16 : decode cX7_share 16 = .ok (.ifCond .ne 6, 3) := by decide +kernel
theorem dX7_share_19 : decode cX7_share 19 = .ok (.ldc 84, 2) := by decide +kernel
theorem dX7_share_21 : decode cX7_share 21 = .ok (.ireturn, 1) := by decide +kernel
theorem dX7_share_22 : decode cX7_share 22 = .ok (.aload_n 0, 1) := by decide +kernel
theorem dX7_share_23 : decode cX7_share 23 = .ok (.invokevirtual 226, 3) := by decide +kernel
theorem dX7_share_26 : decode cX7_share 26 = .ok (.istore_n 3, 1) := by decide +kernel
theorem dX7_share_27 : decode cX7_share 27 = .ok (.iload_n 3, 1) := by decide +kernel
theorem dX7_share_28 : decode cX7_share 28 = .ok (.ifCond .ne 5, 3) := by decide +kernel
theorem dX7_share_31 : decode cX7_share 31 = .ok (.iconst 0, 1) := by decide +kernel
theorem dX7_share_32 : decode cX7_share 32 = .ok (.ireturn, 1) := by decide +kernel
theorem dX7_share_33 : decode cX7_share 33 = .ok (.iload_n 2, 1) := by decide +kernel
theorem dX7_share_34 : decode cX7_share 34 = .ok (.istore 4, 2) := by decide +kernel
theorem dX7_share_36 : decode cX7_share 36 = .ok (.iconst 0, 1) := by decide +kernel
theorem dX7_share_37 : decode cX7_share 37 = .ok (.istore 5, 2) := by decide +kernel
theorem dX7_share_39 : decode cX7_share 39 = .ok (.iconst 0, 1) := by decide +kernel
theorem dX7_share_40 : decode cX7_share 40 = .ok (.istore 6, 2) := by decide +kernel
theorem dX7_share_42 : decode cX7_share 42 = .ok (.iload 6, 2) := by decide +kernel
theorem dX7_share_44 : decode cX7_share 44 = .ok (.aload_n 0, 1) := by decide +kernel
theorem dX7_share_45 : decode cX7_share 45 = .ok (.getfield 77, 3) := by decide +kernel
theorem dX7_share_48 : decode cX7_share 48 = .ok (.if_icmp .ge 57, 3) := by decide +kernel
theorem dX7_share_51 : decode cX7_share 51 = .ok (.iload 4, 2) := by decide +kernel
theorem dX7_share_53 : decode cX7_share 53 = .ok (.iload_n 2, 1) := by decide +kernel
theorem dX7_share_54 : decode cX7_share 54 = .ok (.aload_n 0, 1) := by decide +kernel
theorem dX7_share_55 : decode cX7_share 55 = .ok (.getfield 25, 3) := by decide +kernel
theorem dX7_share_58 : decode cX7_share 58 = .ok (.bipush 33, 2) := by decide +kernel
theorem dX7_share_60 : decode cX7_share 60 = .ok (.iload 6, 2) := by decide +kernel
theorem dX7_share_62 : decode cX7_share 62 = .ok (.iadd, 1) := by decide +kernel
theorem dX7_share_63 : decode cX7_share 63 = .ok (.iaload, 1) := by decide +kernel
theorem dX7_share_64 : decode cX7_share 64 = .ok (.imul, 1) := by decide +kernel
theorem dX7_share_65 : decode cX7_share 65 = .ok (.iload_n 3, 1) := by decide +kernel
theorem dX7_share_66 : decode cX7_share 66 = .ok (.idiv, 1) := by decide +kernel
theorem dX7_share_67 : decode cX7_share 67 = .ok (.isub, 1) := by decide +kernel
theorem dX7_share_68 : decode cX7_share 68 = .ok (.istore 4, 2) := by decide +kernel
theorem dX7_share_70 : decode cX7_share 70 = .ok (.iload 5, 2) := by decide +kernel
theorem dX7_share_72 : decode cX7_share 72 = .ok (.iload 6, 2) := by decide +kernel
theorem dX7_share_74 : decode cX7_share 74 = .ok (.iload_n 1, 1) := by decide +kernel
theorem dX7_share_75 : decode cX7_share 75 = .ok (.if_icmp .ge 20, 3) := by decide +kernel
theorem dX7_share_78 : decode cX7_share 78 = .ok (.aload_n 0, 1) := by decide +kernel
theorem dX7_share_79 : decode cX7_share 79 = .ok (.getfield 25, 3) := by decide +kernel
theorem dX7_share_82 : decode cX7_share 82 = .ok (.bipush 33, 2) := by decide +kernel
theorem dX7_share_84 : decode cX7_share 84 = .ok (.iload 6, 2) := by decide +kernel
theorem dX7_share_86 : decode cX7_share 86 = .ok (.iadd, 1) := by decide +kernel
theorem dX7_share_87 : decode cX7_share 87 = .ok (.iaload, 1) := by decide +kernel
theorem dX7_share_88 : decode cX7_share 88 = .ok (.ifCond .le 7, 3) := by decide +kernel
theorem dX7_share_91 : decode cX7_share 91 = .ok (.iconst 1, 1) := by decide +kernel
theorem dX7_share_92 : decode cX7_share 92 = .ok (.goto 4, 3) := by decide +kernel
theorem dX7_share_95 : decode cX7_share 95 = .ok (.iconst 0, 1) := by decide +kernel
theorem dX7_share_96 : decode cX7_share 96 = .ok (.iadd, 1) := by decide +kernel
theorem dX7_share_97 : decode cX7_share 97 = .ok (.istore 5, 2) := by decide +kernel
theorem dX7_share_99 : decode cX7_share 99 = .ok (.iinc 6 1, 3) := by decide +kernel
theorem dX7_share_102 : decode cX7_share 102 = .ok (.goto (-60), 3) := by decide +kernel
theorem dX7_share_105 : decode cX7_share 105 = .ok (.iload_n 2, 1) := by decide +kernel
theorem dX7_share_106 : decode cX7_share 106 = .ok (.aload_n 0, 1) := by decide +kernel
theorem dX7_share_107 : decode cX7_share 107 = .ok (.getfield 25, 3) := by decide +kernel
theorem dX7_share_110 : decode cX7_share 110 = .ok (.bipush 33, 2) := by decide +kernel
theorem dX7_share_112 : decode cX7_share 112 = .ok (.iload_n 1, 1) := by decide +kernel
theorem dX7_share_113 : decode cX7_share 113 = .ok (.iadd, 1) := by decide +kernel
theorem dX7_share_114 : decode cX7_share 114 = .ok (.iaload, 1) := by decide +kernel
theorem dX7_share_115 : decode cX7_share 115 = .ok (.imul, 1) := by decide +kernel
theorem dX7_share_116 : decode cX7_share 116 = .ok (.iload_n 3, 1) := by decide +kernel
theorem dX7_share_117 : decode cX7_share 117 = .ok (.idiv, 1) := by decide +kernel
theorem dX7_share_118 : decode cX7_share 118 = .ok (.aload_n 0, 1) := by decide +kernel
theorem dX7_share_119 : decode cX7_share 119 = .ok (.getfield 25, 3) := by decide +kernel
theorem dX7_share_122 : decode cX7_share 122 = .ok (.bipush 33, 2) := by decide +kernel
theorem dX7_share_124 : decode cX7_share 124 = .ok (.iload_n 1, 1) := by decide +kernel
theorem dX7_share_125 : decode cX7_share 125 = .ok (.iadd, 1) := by decide +kernel
theorem dX7_share_126 : decode cX7_share 126 = .ok (.iaload, 1) := by decide +kernel
theorem dX7_share_127 : decode cX7_share 127 = .ok (.ifCond .le 14, 3) := by decide +kernel
theorem dX7_share_130 : decode cX7_share 130 = .ok (.iload 5, 2) := by decide +kernel
theorem dX7_share_132 : decode cX7_share 132 = .ok (.iload 4, 2) := by decide +kernel
theorem dX7_share_134 : decode cX7_share 134 = .ok (.if_icmp .ge 7, 3) := by decide +kernel
theorem dX7_share_137 : decode cX7_share 137 = .ok (.iconst 1, 1) := by decide +kernel
theorem dX7_share_138 : decode cX7_share 138 = .ok (.goto 4, 3) := by decide +kernel
theorem dX7_share_141 : decode cX7_share 141 = .ok (.iconst 0, 1) := by decide +kernel
theorem dX7_share_142 : decode cX7_share 142 = .ok (.iadd, 1) := by decide +kernel
theorem dX7_share_143 : decode cX7_share 143 = .ok (.ireturn, 1) := by decide +kernel
theorem dX7_chosen_0 : decode cX7_chosen 0 = .ok (.aload_n 0, 1) := by decide +kernel
theorem dX7_chosen_1 : decode cX7_chosen 1 = .ok (.getfield 56, 3) := by decide +kernel
theorem dX7_chosen_4 : decode cX7_chosen 4 = .ok (.iload_n 1, 1) := by decide +kernel
theorem dX7_chosen_5 : decode cX7_chosen 5 = .ok (.iaload, 1) := by decide +kernel
theorem dX7_chosen_6 : decode cX7_chosen 6 = .ok (.istore_n 3, 1) := by decide +kernel
theorem dX7_chosen_7 : decode cX7_chosen 7 = .ok (.iconst 0, 1) := by decide +kernel
theorem dX7_chosen_8 : decode cX7_chosen 8 = .ok (.istore 4, 2) := by decide +kernel
theorem dX7_chosen_10 : decode cX7_chosen 10 = .ok (.iload 4, 2) := by decide +kernel
theorem dX7_chosen_12 : decode cX7_chosen 12 = .ok (.aload_n 0, 1) := by decide +kernel
theorem dX7_chosen_13 : decode cX7_chosen 13 = .ok (.getfield 77, 3) := by decide +kernel
theorem dX7_chosen_16 : decode cX7_chosen 16 = .ok (.if_icmp .ge 44, 3) := by decide +kernel
theorem dX7_chosen_19 : decode cX7_chosen 19 = .ok (.aload_n 0, 1) := by decide +kernel
theorem dX7_chosen_20 : decode cX7_chosen 20 = .ok (.getfield 56, 3) := by decide +kernel
theorem dX7_chosen_23 : decode cX7_chosen 23 = .ok (.iload_n 1, 1) := by decide +kernel
theorem dX7_chosen_24 : decode cX7_chosen 24 = .ok (.iconst 1, 1) := by decide +kernel
theorem dX7_chosen_25 : decode cX7_chosen 25 = .ok (.iload 4, 2) := by decide +kernel
theorem dX7_chosen_27 : decode cX7_chosen 27 = .ok (.ishl, 1) := by decide +kernel
theorem dX7_chosen_28 : decode cX7_chosen 28 = .ok (.ixor, 1) := by decide +kernel
theorem dX7_chosen_29 : decode cX7_chosen 29 = .ok (.iaload, 1) := by decide +kernel
theorem dX7_chosen_30 : decode cX7_chosen 30 = .ok (.istore 5, 2) := by decide +kernel
theorem dX7_chosen_32 : decode cX7_chosen 32 = .ok (.iload_n 2, 1) := by decide +kernel
theorem dX7_chosen_33 : decode cX7_chosen 33 = .ok (.iload 5, 2) := by decide +kernel
theorem dX7_chosen_35 : decode cX7_chosen 35 = .ok (.iload_n 3, 1) := by decide +kernel
theorem dX7_chosen_36 : decode cX7_chosen 36 = .ok (.if_icmp .le 7, 3) := by decide +kernel
theorem dX7_chosen_39 : decode cX7_chosen 39 = .ok (.iconst 1, 1) := by decide +kernel
theorem dX7_chosen_40 : decode cX7_chosen 40 = .ok (.goto 4, 3) := by decide +kernel
theorem dX7_chosen_43 : decode cX7_chosen 43 = .ok (.iconst 0, 1) := by decide +kernel
theorem dX7_chosen_44 : decode cX7_chosen 44 = .ok (.if_icmp .ne 8, 3) := by decide +kernel
theorem dX7_chosen_47 : decode cX7_chosen 47 = .ok (.iload 5, 2) := by decide +kernel
theorem dX7_chosen_49 : decode cX7_chosen 49 = .ok (.goto 4, 3) := by decide +kernel
theorem dX7_chosen_52 : decode cX7_chosen 52 = .ok (.iload_n 3, 1) := by decide +kernel
theorem dX7_chosen_53 : decode cX7_chosen 53 = .ok (.istore_n 3, 1) := by decide +kernel
theorem dX7_chosen_54 : decode cX7_chosen 54 = .ok (.iinc 4 1, 3) := by decide +kernel
theorem dX7_chosen_57 : decode cX7_chosen 57 = .ok (.goto (-47), 3) := by decide +kernel
theorem dX7_chosen_60 : decode cX7_chosen 60 = .ok (.iload_n 3, 1) := by decide +kernel
theorem dX7_chosen_61 : decode cX7_chosen 61 = .ok (.ireturn, 1) := by decide +kernel
theorem dX7_byTurns_0 : decode cX7_byTurns 0 = .ok (.aload_n 0, 1) := by decide +kernel
theorem dX7_byTurns_1 : decode cX7_byTurns 1 = .ok (.invokevirtual 174, 3) := by decide +kernel
theorem dX7_byTurns_4 : decode cX7_byTurns 4 = .ok (.ifCond .eq 6, 3) := by decide +kernel
theorem dX7_byTurns_7 : decode cX7_byTurns 7 = .ok (.ldc 173, 2) := by decide +kernel
theorem dX7_byTurns_9 : decode cX7_byTurns 9 = .ok (.ireturn, 1) := by decide +kernel
theorem dX7_byTurns_10 : decode cX7_byTurns 10 = .ok (.iload_n 1, 1) := by decide +kernel
theorem dX7_byTurns_11 : decode cX7_byTurns 11 = .ok (.iconst 0, 1) := by decide +kernel
theorem dX7_byTurns_12 : decode cX7_byTurns 12 = .ok (.iconst 4, 1) := by decide +kernel
theorem dX7_byTurns_13 : decode cX7_byTurns 13 = .ok (.invokestatic 70, 3) := by decide +kernel
theorem dX7_byTurns_16 : decode cX7_byTurns 16 = .ok (.ifCond .eq 13, 3) := by decide +kernel
theorem dX7_byTurns_19 : decode cX7_byTurns 19 = .ok (.iload_n 2, 1) := by decide +kernel
theorem dX7_byTurns_20 : decode cX7_byTurns 20 = .ok (.iconst 1, 1) := by decide +kernel
theorem dX7_byTurns_21 : decode cX7_byTurns 21 = .ok (.bipush 20, 2) := by decide +kernel
theorem dX7_byTurns_23 : decode cX7_byTurns 23 = .ok (.invokestatic 70, 3) := by decide +kernel
theorem dX7_byTurns_26 : decode cX7_byTurns 26 = .ok (.ifCond .ne 6, 3) := by decide +kernel
theorem dX7_byTurns_29 : decode cX7_byTurns 29 = .ok (.ldc 84, 2) := by decide +kernel
theorem dX7_byTurns_31 : decode cX7_byTurns 31 = .ok (.ireturn, 1) := by decide +kernel
theorem dX7_byTurns_32 : decode cX7_byTurns 32 = .ok (.iconst 0, 1) := by decide +kernel
theorem dX7_byTurns_33 : decode cX7_byTurns 33 = .ok (.istore_n 3, 1) := by decide +kernel
theorem dX7_byTurns_34 : decode cX7_byTurns 34 = .ok (.iload_n 3, 1) := by decide +kernel
theorem dX7_byTurns_35 : decode cX7_byTurns 35 = .ok (.iconst 1, 1) := by decide +kernel
theorem dX7_byTurns_36 : decode cX7_byTurns 36 = .ok (.aload_n 0, 1) := by decide +kernel
theorem dX7_byTurns_37 : decode cX7_byTurns 37 = .ok (.getfield 77, 3) := by decide +kernel
theorem dX7_byTurns_40 : decode cX7_byTurns 40 = .ok (.ishl, 1) := by decide +kernel
theorem dX7_byTurns_41 : decode cX7_byTurns 41 = .ok (.if_icmp .ge 44, 3) := by decide +kernel
theorem dX7_byTurns_44 : decode cX7_byTurns 44 = .ok (.aload_n 0, 1) := by decide +kernel
theorem dX7_byTurns_45 : decode cX7_byTurns 45 = .ok (.invokevirtual 202, 3) := by decide +kernel
theorem dX7_byTurns_48 : decode cX7_byTurns 48 = .ok (.aload_n 0, 1) := by decide +kernel
theorem dX7_byTurns_49 : decode cX7_byTurns 49 = .ok (.iload_n 3, 1) := by decide +kernel
theorem dX7_byTurns_50 : decode cX7_byTurns 50 = .ok (.invokevirtual 214, 3) := by decide +kernel
theorem dX7_byTurns_53 : decode cX7_byTurns 53 = .ok (.aload_n 0, 1) := by decide +kernel
theorem dX7_byTurns_54 : decode cX7_byTurns 54 = .ok (.iload_n 2, 1) := by decide +kernel
theorem dX7_byTurns_55 : decode cX7_byTurns 55 = .ok (.invokevirtual 205, 3) := by decide +kernel
theorem dX7_byTurns_58 : decode cX7_byTurns 58 = .ok (.aload_n 0, 1) := by decide +kernel
theorem dX7_byTurns_59 : decode cX7_byTurns 59 = .ok (.getfield 56, 3) := by decide +kernel
theorem dX7_byTurns_62 : decode cX7_byTurns 62 = .ok (.iload_n 3, 1) := by decide +kernel
theorem dX7_byTurns_63 : decode cX7_byTurns 63 = .ok (.aload_n 0, 1) := by decide +kernel
theorem dX7_byTurns_64 : decode cX7_byTurns 64 = .ok (.invokevirtual 211, 3) := by decide +kernel
theorem dX7_byTurns_67 : decode cX7_byTurns 67 = .ok (.invokestatic 217, 3) := by decide +kernel
theorem dX7_byTurns_70 : decode cX7_byTurns 70 = .ok (.aload_n 0, 1) := by decide +kernel
theorem dX7_byTurns_71 : decode cX7_byTurns 71 = .ok (.invokevirtual 208, 3) := by decide +kernel
theorem dX7_byTurns_74 : decode cX7_byTurns 74 = .ok (.invokestatic 217, 3) := by decide +kernel
theorem dX7_byTurns_77 : decode cX7_byTurns 77 = .ok (.isub, 1) := by decide +kernel
theorem dX7_byTurns_78 : decode cX7_byTurns 78 = .ok (.iastore, 1) := by decide +kernel
theorem dX7_byTurns_79 : decode cX7_byTurns 79 = .ok (.iinc 3 1, 3) := by decide +kernel
theorem dX7_byTurns_82 : decode cX7_byTurns 82 = .ok (.goto (-48), 3) := by decide +kernel
theorem dX7_byTurns_85 : decode cX7_byTurns 85 = .ok (.iload_n 1, 1) := by decide +kernel
theorem dX7_byTurns_86 : decode cX7_byTurns 86 = .ok (.iconst 1, 1) := by decide +kernel
theorem dX7_byTurns_87 : decode cX7_byTurns 87 = .ok (.isub, 1) := by decide +kernel
theorem dX7_byTurns_88 : decode cX7_byTurns 88 = .ok (.istore_n 3, 1) := by decide +kernel
theorem dX7_byTurns_89 : decode cX7_byTurns 89 = .ok (.iload_n 3, 1) := by decide +kernel
theorem dX7_byTurns_90 : decode cX7_byTurns 90 = .ok (.ifCond .lt 69, 3) := by decide +kernel
theorem dX7_byTurns_93 : decode cX7_byTurns 93 = .ok (.iconst 0, 1) := by decide +kernel
theorem dX7_byTurns_94 : decode cX7_byTurns 94 = .ok (.istore 4, 2) := by decide +kernel
theorem dX7_byTurns_96 : decode cX7_byTurns 96 = .ok (.iload 4, 2) := by decide +kernel
theorem dX7_byTurns_98 : decode cX7_byTurns 98 = .ok (.iconst 1, 1) := by decide +kernel
theorem dX7_byTurns_99 : decode cX7_byTurns 99 = .ok (.aload_n 0, 1) := by decide +kernel
theorem dX7_byTurns_100 : decode cX7_byTurns 100 = .ok (.getfield 77, 3) := by decide +kernel
theorem dX7_byTurns_103 : decode cX7_byTurns 103 = .ok (.ishl, 1) := by decide +kernel
theorem dX7_byTurns_104 : decode cX7_byTurns 104 = .ok (.if_icmp .ge 33, 3) := by decide +kernel
theorem dX7_byTurns_107 : decode cX7_byTurns 107 = .ok (.aload_n 0, 1) := by decide +kernel
theorem dX7_byTurns_108 : decode cX7_byTurns 108 = .ok (.getfield 59, 3) := by decide +kernel
theorem dX7_byTurns_111 : decode cX7_byTurns 111 = .ok (.iload 4, 2) := by decide +kernel
theorem dX7_byTurns_113 : decode cX7_byTurns 113 = .ok (.aload_n 0, 1) := by decide +kernel
theorem dX7_byTurns_114 : decode cX7_byTurns 114 = .ok (.iload 4, 2) := by decide +kernel
theorem dX7_byTurns_116 : decode cX7_byTurns 116 = .ok (.iload_n 3, 1) := by decide +kernel
theorem dX7_byTurns_117 : decode cX7_byTurns 117 = .ok (.iconst 2, 1) := by decide +kernel
theorem dX7_byTurns_118 : decode cX7_byTurns 118 = .ok (.irem, 1) := by decide +kernel
theorem dX7_byTurns_119 : decode cX7_byTurns 119 = .ok (.ifCond .ne 7, 3) := by decide +kernel
theorem dX7_byTurns_122 : decode cX7_byTurns 122 = .ok (.iconst 1, 1) := by decide +kernel
theorem dX7_byTurns_123 : decode cX7_byTurns 123 = .ok (.goto 4, 3) := by decide +kernel
theorem dX7_byTurns_126 : decode cX7_byTurns 126 = .ok (.iconst 0, 1) := by decide +kernel
theorem dX7_byTurns_127 : decode cX7_byTurns 127 = .ok (.invokevirtual 229, 3) := by decide +kernel
theorem dX7_byTurns_130 : decode cX7_byTurns 130 = .ok (.iastore, 1) := by decide +kernel
theorem dX7_byTurns_131 : decode cX7_byTurns 131 = .ok (.iinc 4 1, 3) := by decide +kernel
theorem dX7_byTurns_134 : decode cX7_byTurns 134 = .ok (.goto (-38), 3) := by decide +kernel
theorem dX7_byTurns_137 : decode cX7_byTurns 137 = .ok (.aload_n 0, 1) := by decide +kernel
theorem dX7_byTurns_138 : decode cX7_byTurns 138 = .ok (.getfield 59, 3) := by decide +kernel
theorem dX7_byTurns_141 : decode cX7_byTurns 141 = .ok (.iconst 0, 1) := by decide +kernel
theorem dX7_byTurns_142 : decode cX7_byTurns 142 = .ok (.aload_n 0, 1) := by decide +kernel
theorem dX7_byTurns_143 : decode cX7_byTurns 143 = .ok (.getfield 56, 3) := by decide +kernel
theorem dX7_byTurns_146 : decode cX7_byTurns 146 = .ok (.iconst 0, 1) := by decide +kernel
theorem dX7_byTurns_147 : decode cX7_byTurns 147 = .ok (.sipush 256, 3) := by decide +kernel
theorem dX7_byTurns_150 : decode cX7_byTurns 150 = .ok (.invokestatic 155, 3) := by decide +kernel
theorem dX7_byTurns_153 : decode cX7_byTurns 153 = .ok (.iinc 3 (-1), 3) := by decide +kernel
theorem dX7_byTurns_156 : decode cX7_byTurns 156 = .ok (.goto (-67), 3) := by decide +kernel
theorem dX7_byTurns_159 : decode cX7_byTurns 159 = .ok (.aload_n 0, 1) := by decide +kernel
theorem dX7_byTurns_160 : decode cX7_byTurns 160 = .ok (.getfield 56, 3) := by decide +kernel
theorem dX7_byTurns_163 : decode cX7_byTurns 163 = .ok (.iconst 0, 1) := by decide +kernel
theorem dX7_byTurns_164 : decode cX7_byTurns 164 = .ok (.iaload, 1) := by decide +kernel
theorem dX7_byTurns_165 : decode cX7_byTurns 165 = .ok (.ireturn, 1) := by decide +kernel
theorem dX7_isSo_0 : decode cX7_isSo 0 = .ok (.iconst 1, 1) := by decide +kernel
theorem dX7_isSo_1 : decode cX7_isSo 1 = .ok (.istore_n 3, 1) := by decide +kernel
theorem dX7_isSo_2 : decode cX7_isSo 2 = .ok (.iconst 0, 1) := by decide +kernel
theorem dX7_isSo_3 : decode cX7_isSo 3 = .ok (.istore 4, 2) := by decide +kernel
theorem dX7_isSo_5 : decode cX7_isSo 5 = .ok (.iload 4, 2) := by decide +kernel
theorem dX7_isSo_7 : decode cX7_isSo 7 = .ok (.iload_n 2, 1) := by decide +kernel
theorem dX7_isSo_8 : decode cX7_isSo 8 = .ok (.if_icmp .ge 54, 3) := by decide +kernel
theorem dX7_isSo_11 : decode cX7_isSo 11 = .ok (.aload_n 0, 1) := by decide +kernel
theorem dX7_isSo_12 : decode cX7_isSo 12 = .ok (.iconst 1, 1) := by decide +kernel
theorem dX7_isSo_13 : decode cX7_isSo 13 = .ok (.invokevirtual 205, 3) := by decide +kernel
theorem dX7_isSo_16 : decode cX7_isSo 16 = .ok (.iload_n 3, 1) := by decide +kernel
theorem dX7_isSo_17 : decode cX7_isSo 17 = .ok (.ifCond .eq 37, 3) := by decide +kernel
theorem dX7_isSo_20 : decode cX7_isSo 20 = .ok (.aload_n 0, 1) := by decide +kernel
theorem dX7_isSo_21 : decode cX7_isSo 21 = .ok (.invokevirtual 208, 3) := by decide +kernel
theorem dX7_isSo_24 : decode cX7_isSo 24 = .ok (.invokestatic 217, 3) := by decide +kernel
theorem dX7_isSo_27 : decode cX7_isSo 27 = .ok (.bipush 10, 2) := by decide +kernel
theorem dX7_isSo_29 : decode cX7_isSo 29 = .ok (.aload_n 0, 1) := by decide +kernel
theorem dX7_isSo_30 : decode cX7_isSo 30 = .ok (.invokevirtual 211, 3) := by decide +kernel
theorem dX7_isSo_33 : decode cX7_isSo 33 = .ok (.invokestatic 217, 3) := by decide +kernel
theorem dX7_isSo_36 : decode cX7_isSo 36 = .ok (.imul, 1) := by decide +kernel
theorem dX7_isSo_37 : decode cX7_isSo 37 = .ok (.iadd, 1) := by decide +kernel
theorem dX7_isSo_38 : decode cX7_isSo 38 = .ok (.aload_n 0, 1) := by decide +kernel
theorem dX7_isSo_39 : decode cX7_isSo 39 = .ok (.getfield 16, 3) := by decide +kernel
theorem dX7_isSo_42 : decode cX7_isSo 42 = .ok (.iload_n 1, 1) := by decide +kernel
theorem dX7_isSo_43 : decode cX7_isSo 43 = .ok (.iload 4, 2) := by decide +kernel
theorem dX7_isSo_45 : decode cX7_isSo 45 = .ok (.iadd, 1) := by decide +kernel
theorem dX7_isSo_46 : decode cX7_isSo 46 = .ok (.iaload, 1) := by decide +kernel
theorem dX7_isSo_47 : decode cX7_isSo 47 = .ok (.if_icmp .ne 7, 3) := by decide +kernel
theorem dX7_isSo_50 : decode cX7_isSo 50 = .ok (.iconst 1, 1) := by decide +kernel
theorem dX7_isSo_51 : decode cX7_isSo 51 = .ok (.goto 4, 3) := by decide +kernel
theorem dX7_isSo_54 : decode cX7_isSo 54 = .ok (.iconst 0, 1) := by decide +kernel
theorem dX7_isSo_55 : decode cX7_isSo 55 = .ok (.istore_n 3, 1) := by decide +kernel
theorem dX7_isSo_56 : decode cX7_isSo 56 = .ok (.iinc 4 1, 3) := by decide +kernel
theorem dX7_isSo_59 : decode cX7_isSo 59 = .ok (.goto (-54), 3) := by decide +kernel
theorem dX7_isSo_62 : decode cX7_isSo 62 = .ok (.iload_n 3, 1) := by decide +kernel
theorem dX7_isSo_63 : decode cX7_isSo 63 = .ok (.ireturn, 1) := by decide +kernel
theorem dX7_refuses_0 : decode cX7_refuses 0 = .ok (.aload_n 0, 1) := by decide +kernel
theorem dX7_refuses_1 : decode cX7_refuses 1 = .ok (.getfield 13, 3) := by decide +kernel
theorem dX7_refuses_4 : decode cX7_refuses 4 = .ok (.iload_n 1, 1) := by decide +kernel
theorem dX7_refuses_5 : decode cX7_refuses 5 = .ok (.iaload, 1) := by decide +kernel
theorem dX7_refuses_6 : decode cX7_refuses 6 = .ok (.ifCond .ge 9, 3) := by decide +kernel
theorem dX7_refuses_9 : decode cX7_refuses 9 = .ok (.aload_n 0, 1) := by decide +kernel
theorem dX7_refuses_10 : decode cX7_refuses 10 = .ok (.iconst 1, 1) := by decide +kernel
theorem dX7_refuses_11 : decode cX7_refuses 11 = .ok (.invokevirtual 85, 3) := by decide +kernel
theorem dX7_refuses_14 : decode cX7_refuses 14 = .ok (.ireturn, 1) := by decide +kernel
theorem dX7_refuses_15 : decode cX7_refuses 15 = .ok (.iload_n 2, 1) := by decide +kernel
theorem dX7_refuses_16 : decode cX7_refuses 16 = .ok (.iload_n 3, 1) := by decide +kernel
theorem dX7_refuses_17 : decode cX7_refuses 17 = .ok (.aload_n 0, 1) := by decide +kernel
theorem dX7_refuses_18 : decode cX7_refuses 18 = .ok (.getfield 13, 3) := by decide +kernel
theorem dX7_refuses_21 : decode cX7_refuses 21 = .ok (.iload_n 1, 1) := by decide +kernel
theorem dX7_refuses_22 : decode cX7_refuses 22 = .ok (.iaload, 1) := by decide +kernel
theorem dX7_refuses_23 : decode cX7_refuses 23 = .ok (.invokestatic 93, 3) := by decide +kernel
theorem dX7_refuses_26 : decode cX7_refuses 26 = .ok (.ifCond .ne 9, 3) := by decide +kernel
theorem dX7_refuses_29 : decode cX7_refuses 29 = .ok (.aload_n 0, 1) := by decide +kernel
theorem dX7_refuses_30 : decode cX7_refuses 30 = .ok (.iconst 2, 1) := by decide +kernel
theorem dX7_refuses_31 : decode cX7_refuses 31 = .ok (.invokevirtual 85, 3) := by decide +kernel
theorem dX7_refuses_34 : decode cX7_refuses 34 = .ok (.ireturn, 1) := by decide +kernel
theorem dX7_refuses_35 : decode cX7_refuses 35 = .ok (.aload_n 0, 1) := by decide +kernel
theorem dX7_refuses_36 : decode cX7_refuses 36 = .ok (.iconst 0, 1) := by decide +kernel
theorem dX7_refuses_37 : decode cX7_refuses 37 = .ok (.putfield 65, 3) := by decide +kernel
theorem dX7_refuses_40 : decode cX7_refuses 40 = .ok (.iconst 0, 1) := by decide +kernel
theorem dX7_refuses_41 : decode cX7_refuses 41 = .ok (.ireturn, 1) := by decide +kernel
theorem dX7_who_0 : decode cX7_who 0 = .ok (.aload_n 0, 1) := by decide +kernel
theorem dX7_who_1 : decode cX7_who 1 = .ok (.iload_n 1, 1) := by decide +kernel
theorem dX7_who_2 : decode cX7_who 2 = .ok (.invokevirtual 189, 3) := by decide +kernel
theorem dX7_who_5 : decode cX7_who 5 = .ok (.ifCond .eq 31, 3) := by decide +kernel
theorem dX7_who_8 : decode cX7_who 8 = .ok (.iload_n 2, 1) := by decide +kernel
theorem dX7_who_9 : decode cX7_who 9 = .ok (.iconst 0, 1) := by decide +kernel
theorem dX7_who_10 : decode cX7_who 10 = .ok (.iconst 1, 1) := by decide +kernel
theorem dX7_who_11 : decode cX7_who 11 = .ok (.invokestatic 70, 3) := by decide +kernel
theorem dX7_who_14 : decode cX7_who 14 = .ok (.ifCond .eq 22, 3) := by decide +kernel
theorem dX7_who_17 : decode cX7_who 17 = .ok (.aload_n 0, 1) := by decide +kernel
theorem dX7_who_18 : decode cX7_who 18 = .ok (.iload_n 3, 1) := by decide +kernel
theorem dX7_who_19 : decode cX7_who 19 = .ok (.invokevirtual 80, 3) := by decide +kernel
theorem dX7_who_22 : decode cX7_who 22 = .ok (.ifCond .eq 14, 3) := by decide +kernel
theorem dX7_who_25 : decode cX7_who 25 = .ok (.iload 5, 2) := by decide +kernel
theorem dX7_who_27 : decode cX7_who 27 = .ok (.iconst 1, 1) := by decide +kernel
theorem dX7_who_28 : decode cX7_who 28 = .ok (.bipush 12, 2) := by decide +kernel
theorem dX7_who_30 : decode cX7_who 30 = .ok (.invokestatic 70, 3) := by decide +kernel
theorem dX7_who_33 : decode cX7_who 33 = .ok (.ifCond .ne 6, 3) := by decide +kernel
theorem dX7_who_36 : decode cX7_who 36 = .ok (.ldc 84, 2) := by decide +kernel
theorem dX7_who_38 : decode cX7_who 38 = .ok (.ireturn, 1) := by decide +kernel
theorem dX7_who_39 : decode cX7_who 39 = .ok (.aload_n 0, 1) := by decide +kernel
theorem dX7_who_40 : decode cX7_who 40 = .ok (.iload_n 3, 1) := by decide +kernel
theorem dX7_who_41 : decode cX7_who 41 = .ok (.iload 4, 2) := by decide +kernel
theorem dX7_who_43 : decode cX7_who 43 = .ok (.iload 5, 2) := by decide +kernel
theorem dX7_who_45 : decode cX7_who 45 = .ok (.invokevirtual 233, 3) := by decide +kernel
theorem dX7_who_48 : decode cX7_who 48 = .ok (.istore 6, 2) := by decide +kernel
theorem dX7_who_50 : decode cX7_who 50 = .ok (.iload 6, 2) := by decide +kernel
theorem dX7_who_52 : decode cX7_who 52 = .ok (.ifCond .eq 6, 3) := by decide +kernel
theorem dX7_who_55 : decode cX7_who 55 = .ok (.iload 6, 2) := by decide +kernel
theorem dX7_who_57 : decode cX7_who 57 = .ok (.ireturn, 1) := by decide +kernel
theorem dX7_who_58 : decode cX7_who 58 = .ok (.aload_n 0, 1) := by decide +kernel
theorem dX7_who_59 : decode cX7_who 59 = .ok (.getfield 22, 3) := by decide +kernel
theorem dX7_who_62 : decode cX7_who 62 = .ok (.iload_n 1, 1) := by decide +kernel
theorem dX7_who_63 : decode cX7_who 63 = .ok (.iaload, 1) := by decide +kernel
theorem dX7_who_64 : decode cX7_who 64 = .ok (.istore 7, 2) := by decide +kernel
theorem dX7_who_66 : decode cX7_who 66 = .ok (.iconst 0, 1) := by decide +kernel
theorem dX7_who_67 : decode cX7_who 67 = .ok (.istore 8, 2) := by decide +kernel
theorem dX7_who_69 : decode cX7_who 69 = .ok (.iload_n 2, 1) := by decide +kernel
theorem dX7_who_70 : decode cX7_who 70 = .ok (.ifCond .ne 7, 3) := by decide +kernel
theorem dX7_who_73 : decode cX7_who 73 = .ok (.iconst 1, 1) := by decide +kernel
theorem dX7_who_74 : decode cX7_who 74 = .ok (.goto 4, 3) := by decide +kernel
theorem dX7_who_77 : decode cX7_who 77 = .ok (.iconst 0, 1) := by decide +kernel
theorem dX7_who_78 : decode cX7_who 78 = .ok (.istore 9, 2) := by decide +kernel
theorem dX7_who_80 : decode cX7_who 80 = .ok (.iload 9, 2) := by decide +kernel
theorem dX7_who_82 : decode cX7_who 82 = .ok (.iload_n 2, 1) := by decide +kernel
theorem dX7_who_83 : decode cX7_who 83 = .ok (.ifCond .ne 7, 3) := by decide +kernel
theorem dX7_who_86 : decode cX7_who 86 = .ok (.iconst 5, 1) := by decide +kernel
theorem dX7_who_87 : decode cX7_who 87 = .ok (.goto 4, 3) := by decide +kernel
theorem dX7_who_90 : decode cX7_who 90 = .ok (.iconst 1, 1) := by decide +kernel
theorem dX7_who_91 : decode cX7_who 91 = .ok (.if_icmp .gt 67, 3) := by decide +kernel
theorem dX7_who_94 : decode cX7_who 94 = .ok (.aload_n 0, 1) := by decide +kernel
theorem dX7_who_95 : decode cX7_who 95 = .ok (.invokevirtual 202, 3) := by decide +kernel
theorem dX7_who_98 : decode cX7_who 98 = .ok (.iload_n 2, 1) := by decide +kernel
theorem dX7_who_99 : decode cX7_who 99 = .ok (.ifCond .ne 14, 3) := by decide +kernel
theorem dX7_who_102 : decode cX7_who 102 = .ok (.aload_n 0, 1) := by decide +kernel
theorem dX7_who_103 : decode cX7_who 103 = .ok (.getfield 22, 3) := by decide +kernel
theorem dX7_who_106 : decode cX7_who 106 = .ok (.iload_n 1, 1) := by decide +kernel
theorem dX7_who_107 : decode cX7_who 107 = .ok (.iload 9, 2) := by decide +kernel
theorem dX7_who_109 : decode cX7_who 109 = .ok (.iastore, 1) := by decide +kernel
theorem dX7_who_110 : decode cX7_who 110 = .ok (.goto 13, 3) := by decide +kernel
theorem dX7_who_113 : decode cX7_who 113 = .ok (.aload_n 0, 1) := by decide +kernel
theorem dX7_who_114 : decode cX7_who 114 = .ok (.getfield 41, 3) := by decide +kernel
theorem dX7_who_117 : decode cX7_who 117 = .ok (.iconst 1, 1) := by decide +kernel
theorem dX7_who_118 : decode cX7_who 118 = .ok (.iload_n 1, 1) := by decide +kernel
theorem dX7_who_119 : decode cX7_who 119 = .ok (.iadd, 1) := by decide +kernel
theorem dX7_who_120 : decode cX7_who 120 = .ok (.iload 9, 2) := by decide +kernel
theorem dX7_who_122 : decode cX7_who 122 = .ok (.iastore, 1) := by decide +kernel
theorem dX7_who_123 : decode cX7_who 123 = .ok (.iload 8, 2) := by decide +kernel
theorem dX7_who_125 : decode cX7_who 125 = .ok (.aload_n 0, 1) := by decide +kernel
theorem dX7_who_126 : decode cX7_who 126 = .ok (.bipush 40, 2) := by decide +kernel
theorem dX7_who_128 : decode cX7_who 128 = .ok (.iload_n 3, 1) := by decide +kernel
theorem dX7_who_129 : decode cX7_who 129 = .ok (.imul, 1) := by decide +kernel
theorem dX7_who_130 : decode cX7_who 130 = .ok (.iload 4, 2) := by decide +kernel
theorem dX7_who_132 : decode cX7_who 132 = .ok (.iadd, 1) := by decide +kernel
theorem dX7_who_133 : decode cX7_who 133 = .ok (.iload 5, 2) := by decide +kernel
theorem dX7_who_135 : decode cX7_who 135 = .ok (.invokevirtual 237, 3) := by decide +kernel
theorem dX7_who_138 : decode cX7_who 138 = .ok (.ifCond .eq 10, 3) := by decide +kernel
theorem dX7_who_141 : decode cX7_who 141 = .ok (.iconst 1, 1) := by decide +kernel
theorem dX7_who_142 : decode cX7_who 142 = .ok (.iload 9, 2) := by decide +kernel
theorem dX7_who_144 : decode cX7_who 144 = .ok (.ishl, 1) := by decide +kernel
theorem dX7_who_145 : decode cX7_who 145 = .ok (.goto 4, 3) := by decide +kernel
theorem dX7_who_148 : decode cX7_who 148 = .ok (.iconst 0, 1) := by decide +kernel
theorem dX7_who_149 : decode cX7_who 149 = .ok (.ior, 1) := by decide +kernel
theorem dX7_who_150 : decode cX7_who 150 = .ok (.istore 8, 2) := by decide +kernel
theorem dX7_who_152 : decode cX7_who 152 = .ok (.iinc 9 1, 3) := by decide +kernel
theorem dX7_who_155 : decode cX7_who 155 = .ok (.goto (-75), 3) := by decide +kernel
theorem dX7_who_158 : decode cX7_who 158 = .ok (.aload_n 0, 1) := by decide +kernel
theorem dX7_who_159 : decode cX7_who 159 = .ok (.getfield 22, 3) := by decide +kernel
theorem dX7_who_162 : decode cX7_who 162 = .ok (.iload_n 1, 1) := by decide +kernel
theorem dX7_who_163 : decode cX7_who 163 = .ok (.iload 7, 2) := by decide +kernel
theorem dX7_who_165 : decode cX7_who 165 = .ok (.iastore, 1) := by decide +kernel
theorem dX7_who_166 : decode cX7_who 166 = .ok (.iload 8, 2) := by decide +kernel
theorem dX7_who_168 : decode cX7_who 168 = .ok (.ireturn, 1) := by decide +kernel
theorem dX7_weights_0 : decode cX7_weights 0 = .ok (.aload_n 0, 1) := by decide +kernel
theorem dX7_weights_1 : decode cX7_weights 1 = .ok (.iload_n 1, 1) := by decide +kernel
theorem dX7_weights_2 : decode cX7_weights 2 = .ok (.invokevirtual 192, 3) := by decide +kernel
theorem dX7_weights_5 : decode cX7_weights 5 = .ok (.ifCond .eq 31, 3) := by decide +kernel
theorem dX7_weights_8 : decode cX7_weights 8 = .ok (.iload_n 2, 1) := by decide +kernel
theorem dX7_weights_9 : decode cX7_weights 9 = .ok (.iconst 0, 1) := by decide +kernel
theorem dX7_weights_10 : decode cX7_weights 10 = .ok (.iconst 1, 1) := by decide +kernel
theorem dX7_weights_11 : decode cX7_weights 11 = .ok (.invokestatic 70, 3) := by decide +kernel
theorem dX7_weights_14 : decode cX7_weights 14 = .ok (.ifCond .eq 22, 3) := by decide +kernel
theorem dX7_weights_17 : decode cX7_weights 17 = .ok (.aload_n 0, 1) := by decide +kernel
theorem dX7_weights_18 : decode cX7_weights 18 = .ok (.iload_n 3, 1) := by decide +kernel
theorem dX7_weights_19 : decode cX7_weights 19 = .ok (.invokevirtual 80, 3) := by decide +kernel
theorem dX7_weights_22 : decode cX7_weights 22 = .ok (.ifCond .eq 14, 3) := by decide +kernel
theorem dX7_weights_25 : decode cX7_weights 25 = .ok (.iload 5, 2) := by decide +kernel
theorem dX7_weights_27 : decode cX7_weights 27 = .ok (.iconst 1, 1) := by decide +kernel
theorem dX7_weights_28 : decode cX7_weights 28 = .ok (.bipush 12, 2) := by decide +kernel
theorem dX7_weights_30 : decode cX7_weights 30 = .ok (.invokestatic 70, 3) := by decide +kernel
theorem dX7_weights_33 : decode cX7_weights 33 = .ok (.ifCond .ne 6, 3) := by decide +kernel
theorem dX7_weights_36 : decode cX7_weights 36 = .ok (.ldc 84, 2) := by decide +kernel
theorem dX7_weights_38 : decode cX7_weights 38 = .ok (.ireturn, 1) := by decide +kernel
theorem dX7_weights_39 : decode cX7_weights 39 = .ok (.aload_n 0, 1) := by decide +kernel
theorem dX7_weights_40 : decode cX7_weights 40 = .ok (.iload_n 3, 1) := by decide +kernel
theorem dX7_weights_41 : decode cX7_weights 41 = .ok (.iload 4, 2) := by decide +kernel
theorem dX7_weights_43 : decode cX7_weights 43 = .ok (.iload 5, 2) := by decide +kernel
theorem dX7_weights_45 : decode cX7_weights 45 = .ok (.invokevirtual 233, 3) := by decide +kernel
theorem dX7_weights_48 : decode cX7_weights 48 = .ok (.istore 6, 2) := by decide +kernel
theorem dX7_weights_50 : decode cX7_weights 50 = .ok (.iload 6, 2) := by decide +kernel
theorem dX7_weights_52 : decode cX7_weights 52 = .ok (.ifCond .eq 6, 3) := by decide +kernel
theorem dX7_weights_55 : decode cX7_weights 55 = .ok (.iload 6, 2) := by decide +kernel
theorem dX7_weights_57 : decode cX7_weights 57 = .ok (.ireturn, 1) := by decide +kernel
theorem dX7_weights_58 : decode cX7_weights 58 = .ok (.aload_n 0, 1) := by decide +kernel
theorem dX7_weights_59 : decode cX7_weights 59 = .ok (.getfield 152, 3) := by decide +kernel
theorem dX7_weights_62 : decode cX7_weights 62 = .ok (.istore 7, 2) := by decide +kernel
theorem dX7_weights_64 : decode cX7_weights 64 = .ok (.iconst 0, 1) := by decide +kernel
theorem dX7_weights_65 : decode cX7_weights 65 = .ok (.istore 8, 2) := by decide +kernel
theorem dX7_weights_67 : decode cX7_weights 67 = .ok (.iconst 1, 1) := by decide +kernel
theorem dX7_weights_68 : decode cX7_weights 68 = .ok (.istore 9, 2) := by decide +kernel
theorem dX7_weights_70 : decode cX7_weights 70 = .ok (.iload 9, 2) := by decide +kernel
theorem dX7_weights_72 : decode cX7_weights 72 = .ok (.bipush 10, 2) := by decide +kernel
theorem dX7_weights_74 : decode cX7_weights 74 = .ok (.if_icmp .ge 66, 3) := by decide +kernel
theorem dX7_weights_77 : decode cX7_weights 77 = .ok (.aload_n 0, 1) := by decide +kernel
theorem dX7_weights_78 : decode cX7_weights 78 = .ok (.invokevirtual 202, 3) := by decide +kernel
theorem dX7_weights_81 : decode cX7_weights 81 = .ok (.iload_n 2, 1) := by decide +kernel
theorem dX7_weights_82 : decode cX7_weights 82 = .ok (.ifCond .ne 17, 3) := by decide +kernel
theorem dX7_weights_85 : decode cX7_weights 85 = .ok (.aload_n 0, 1) := by decide +kernel
theorem dX7_weights_86 : decode cX7_weights 86 = .ok (.getfield 41, 3) := by decide +kernel
theorem dX7_weights_89 : decode cX7_weights 89 = .ok (.bipush 55, 2) := by decide +kernel
theorem dX7_weights_91 : decode cX7_weights 91 = .ok (.iload_n 1, 1) := by decide +kernel
theorem dX7_weights_92 : decode cX7_weights 92 = .ok (.iadd, 1) := by decide +kernel
theorem dX7_weights_93 : decode cX7_weights 93 = .ok (.iload 9, 2) := by decide +kernel
theorem dX7_weights_95 : decode cX7_weights 95 = .ok (.iastore, 1) := by decide +kernel
theorem dX7_weights_96 : decode cX7_weights 96 = .ok (.goto 9, 3) := by decide +kernel
theorem dX7_weights_99 : decode cX7_weights 99 = .ok (.aload_n 0, 1) := by decide +kernel
theorem dX7_weights_100 : decode cX7_weights 100 = .ok (.iload 9, 2) := by decide +kernel
theorem dX7_weights_102 : decode cX7_weights 102 = .ok (.putfield 152, 3) := by decide +kernel
theorem dX7_weights_105 : decode cX7_weights 105 = .ok (.iload 8, 2) := by decide +kernel
theorem dX7_weights_107 : decode cX7_weights 107 = .ok (.aload_n 0, 1) := by decide +kernel
theorem dX7_weights_108 : decode cX7_weights 108 = .ok (.bipush 40, 2) := by decide +kernel
theorem dX7_weights_110 : decode cX7_weights 110 = .ok (.iload_n 3, 1) := by decide +kernel
theorem dX7_weights_111 : decode cX7_weights 111 = .ok (.imul, 1) := by decide +kernel
theorem dX7_weights_112 : decode cX7_weights 112 = .ok (.iload 4, 2) := by decide +kernel
theorem dX7_weights_114 : decode cX7_weights 114 = .ok (.iadd, 1) := by decide +kernel
theorem dX7_weights_115 : decode cX7_weights 115 = .ok (.iload 5, 2) := by decide +kernel
theorem dX7_weights_117 : decode cX7_weights 117 = .ok (.invokevirtual 237, 3) := by decide +kernel
theorem dX7_weights_120 : decode cX7_weights 120 = .ok (.ifCond .eq 10, 3) := by decide +kernel
theorem dX7_weights_123 : decode cX7_weights 123 = .ok (.iconst 1, 1) := by decide +kernel
theorem dX7_weights_124 : decode cX7_weights 124 = .ok (.iload 9, 2) := by decide +kernel
theorem dX7_weights_126 : decode cX7_weights 126 = .ok (.ishl, 1) := by decide +kernel
theorem dX7_weights_127 : decode cX7_weights 127 = .ok (.goto 4, 3) := by decide +kernel
theorem dX7_weights_130 : decode cX7_weights 130 = .ok (.iconst 0, 1) := by decide +kernel
theorem dX7_weights_131 : decode cX7_weights 131 = .ok (.ior, 1) := by decide +kernel
theorem dX7_weights_132 : decode cX7_weights 132 = .ok (.istore 8, 2) := by decide +kernel
theorem dX7_weights_134 : decode cX7_weights 134 = .ok (.iinc 9 1, 3) := by decide +kernel
theorem dX7_weights_137 : decode cX7_weights 137 = .ok (.goto (-67), 3) := by decide +kernel
theorem dX7_weights_140 : decode cX7_weights 140 = .ok (.aload_n 0, 1) := by decide +kernel
theorem dX7_weights_141 : decode cX7_weights 141 = .ok (.iload 7, 2) := by decide +kernel
theorem dX7_weights_143 : decode cX7_weights 143 = .ok (.putfield 152, 3) := by decide +kernel
theorem dX7_weights_146 : decode cX7_weights 146 = .ok (.iload 8, 2) := by decide +kernel
theorem dX7_weights_148 : decode cX7_weights 148 = .ok (.ireturn, 1) := by decide +kernel
theorem dX7_common_0 : decode cX7_common 0 = .ok (.lload_n 0, 1) := by decide +kernel
theorem dX7_common_1 : decode cX7_common 1 = .ok (.lstore 4, 2) := by decide +kernel
theorem dX7_common_3 : decode cX7_common 3 = .ok (.lload_n 2, 1) := by decide +kernel
theorem dX7_common_4 : decode cX7_common 4 = .ok (.lstore 6, 2) := by decide +kernel
theorem dX7_common_6 : decode cX7_common 6 = .ok (.lload 6, 2) := by decide +kernel
theorem dX7_common_8 : decode cX7_common 8 = .ok (.lconst 0, 1) := by decide +kernel
theorem dX7_common_9 : decode cX7_common 9 = .ok (.lcmp, 1) := by decide +kernel
theorem dX7_common_10 : decode cX7_common 10 = .ok (.ifCond .eq 21, 3) := by decide +kernel
theorem dX7_common_13 : decode cX7_common 13 = .ok (.lload 4, 2) := by decide +kernel
theorem dX7_common_15 : decode cX7_common 15 = .ok (.lload 6, 2) := by decide +kernel
theorem dX7_common_17 : decode cX7_common 17 = .ok (.lrem, 1) := by decide +kernel
theorem dX7_common_18 : decode cX7_common 18 = .ok (.lstore 8, 2) := by decide +kernel
theorem dX7_common_20 : decode cX7_common 20 = .ok (.lload 6, 2) := by decide +kernel
theorem dX7_common_22 : decode cX7_common 22 = .ok (.lstore 4, 2) := by decide +kernel
theorem dX7_common_24 : decode cX7_common 24 = .ok (.lload 8, 2) := by decide +kernel
theorem dX7_common_26 : decode cX7_common 26 = .ok (.lstore 6, 2) := by decide +kernel
theorem dX7_common_28 : decode cX7_common 28 = .ok (.goto (-22), 3) := by decide +kernel
theorem dX7_common_31 : decode cX7_common 31 = .ok (.lload 4, 2) := by decide +kernel
theorem dX7_common_33 : decode cX7_common 33 = .ok (.lreturn, 1) := by decide +kernel
theorem dX7_jam_0 : decode cX7_jam 0 = .ok (.aload_n 0, 1) := by decide +kernel
theorem dX7_jam_1 : decode cX7_jam 1 = .ok (.iload_n 1, 1) := by decide +kernel
theorem dX7_jam_2 : decode cX7_jam 2 = .ok (.invokevirtual 192, 3) := by decide +kernel
theorem dX7_jam_5 : decode cX7_jam 5 = .ok (.ifCond .eq 33, 3) := by decide +kernel
theorem dX7_jam_8 : decode cX7_jam 8 = .ok (.iload_n 2, 1) := by decide +kernel
theorem dX7_jam_9 : decode cX7_jam 9 = .ok (.iconst 0, 1) := by decide +kernel
theorem dX7_jam_10 : decode cX7_jam 10 = .ok (.bipush 30, 2) := by decide +kernel
theorem dX7_jam_12 : decode cX7_jam 12 = .ok (.invokestatic 70, 3) := by decide +kernel
theorem dX7_jam_15 : decode cX7_jam 15 = .ok (.ifCond .eq 23, 3) := by decide +kernel
theorem dX7_jam_18 : decode cX7_jam 18 = .ok (.iload_n 3, 1) := by decide +kernel
theorem dX7_jam_19 : decode cX7_jam 19 = .ok (.iconst 0, 1) := by decide +kernel
theorem dX7_jam_20 : decode cX7_jam 20 = .ok (.bipush 10, 2) := by decide +kernel
theorem dX7_jam_22 : decode cX7_jam 22 = .ok (.invokestatic 70, 3) := by decide +kernel
theorem dX7_jam_25 : decode cX7_jam 25 = .ok (.ifCond .eq 13, 3) := by decide +kernel
theorem dX7_jam_28 : decode cX7_jam 28 = .ok (.iload 4, 2) := by decide +kernel
theorem dX7_jam_30 : decode cX7_jam 30 = .ok (.iconst 0, 1) := by decide +kernel
theorem dX7_jam_31 : decode cX7_jam 31 = .ok (.iconst 1, 1) := by decide +kernel
theorem dX7_jam_32 : decode cX7_jam 32 = .ok (.invokestatic 70, 3) := by decide +kernel
theorem dX7_jam_35 : decode cX7_jam 35 = .ok (.ifCond .ne 7, 3) := by decide +kernel
theorem dX7_jam_38 : decode cX7_jam 38 = .ok (.ldc2_w 241, 3) := by decide +kernel
theorem dX7_jam_41 : decode cX7_jam 41 = .ok (.lreturn, 1) := by decide +kernel
theorem dX7_jam_42 : decode cX7_jam 42 = .ok (.lconst 0, 1) := by decide +kernel
theorem dX7_jam_43 : decode cX7_jam 43 = .ok (.lstore 5, 2) := by decide +kernel
theorem dX7_jam_45 : decode cX7_jam 45 = .ok (.lconst 0, 1) := by decide +kernel
theorem dX7_jam_46 : decode cX7_jam 46 = .ok (.lstore 7, 2) := by decide +kernel
theorem dX7_jam_48 : decode cX7_jam 48 = .ok (.iconst 0, 1) := by decide +kernel
theorem dX7_jam_49 : decode cX7_jam 49 = .ok (.istore 9, 2) := by decide +kernel
theorem dX7_jam_51 : decode cX7_jam 51 = .ok (.iload 9, 2) := by decide +kernel
theorem dX7_jam_53 : decode cX7_jam 53 = .ok (.iconst 1, 1) := by decide +kernel
theorem dX7_jam_54 : decode cX7_jam 54 = .ok (.aload_n 0, 1) := by decide +kernel
theorem dX7_jam_55 : decode cX7_jam 55 = .ok (.getfield 77, 3) := by decide +kernel
theorem dX7_jam_58 : decode cX7_jam 58 = .ok (.ishl, 1) := by decide +kernel
theorem dX7_jam_59 : decode cX7_jam 59 = .ok (.if_icmp .ge 103, 3) := by decide +kernel
theorem dX7_jam_62 : decode cX7_jam 62 = .ok (.lconst 1, 1) := by decide +kernel
theorem dX7_jam_63 : decode cX7_jam 63 = .ok (.lstore 10, 2) := by decide +kernel
theorem dX7_jam_65 : decode cX7_jam 65 = .ok (.iconst 0, 1) := by decide +kernel
theorem dX7_jam_66 : decode cX7_jam 66 = .ok (.istore 12, 2) := by decide +kernel
theorem dX7_jam_68 : decode cX7_jam 68 = .ok (.iload 12, 2) := by decide +kernel
theorem dX7_jam_70 : decode cX7_jam 70 = .ok (.aload_n 0, 1) := by decide +kernel
theorem dX7_jam_71 : decode cX7_jam 71 = .ok (.getfield 77, 3) := by decide +kernel
theorem dX7_jam_74 : decode cX7_jam 74 = .ok (.if_icmp .ge 35, 3) := by decide +kernel
theorem dX7_jam_77 : decode cX7_jam 77 = .ok (.lload 10, 2) := by decide +kernel
theorem dX7_jam_79 : decode cX7_jam 79 = .ok (.iload 9, 2) := by decide +kernel
theorem dX7_jam_81 : decode cX7_jam 81 = .ok (.iload 12, 2) := by decide +kernel
theorem dX7_jam_83 : decode cX7_jam 83 = .ok (.ishr, 1) := by decide +kernel
theorem dX7_jam_84 : decode cX7_jam 84 = .ok (.iconst 1, 1) := by decide +kernel
theorem dX7_jam_85 : decode cX7_jam 85 = .ok (.iand, 1) := by decide +kernel
theorem dX7_jam_86 : decode cX7_jam 86 = .ok (.iconst 1, 1) := by decide +kernel
theorem dX7_jam_87 : decode cX7_jam 87 = .ok (.if_icmp .ne 8, 3) := by decide +kernel
theorem dX7_jam_90 : decode cX7_jam 90 = .ok (.iload_n 3, 1) := by decide +kernel
theorem dX7_jam_91 : decode cX7_jam 91 = .ok (.i2l, 1) := by decide +kernel
theorem dX7_jam_92 : decode cX7_jam 92 = .ok (.goto 8, 3) := by decide +kernel
theorem dX7_jam_95 : decode cX7_jam 95 = .ok (.bipush 10, 2) := by decide +kernel
theorem dX7_jam_97 : decode cX7_jam 97 = .ok (.iload_n 3, 1) := by decide +kernel
theorem dX7_jam_98 : decode cX7_jam 98 = .ok (.isub, 1) := by decide +kernel
theorem dX7_jam_99 : decode cX7_jam 99 = .ok (.i2l, 1) := by decide +kernel
theorem dX7_jam_100 : decode cX7_jam 100 = .ok (.lmul, 1) := by decide +kernel
theorem dX7_jam_101 : decode cX7_jam 101 = .ok (.lstore 10, 2) := by decide +kernel
theorem dX7_jam_103 : decode cX7_jam 103 = .ok (.iinc 12 1, 3) := by decide +kernel
theorem dX7_jam_106 : decode cX7_jam 106 = .ok (.goto (-38), 3) := by decide +kernel
theorem dX7_jam_109 : decode cX7_jam 109 = .ok (.aload_n 0, 1) := by decide +kernel
theorem dX7_jam_110 : decode cX7_jam 110 = .ok (.iload 9, 2) := by decide +kernel
theorem dX7_jam_112 : decode cX7_jam 112 = .ok (.putfield 162, 3) := by decide +kernel
theorem dX7_jam_115 : decode cX7_jam 115 = .ok (.aload_n 0, 1) := by decide +kernel
theorem dX7_jam_116 : decode cX7_jam 116 = .ok (.invokevirtual 202, 3) := by decide +kernel
theorem dX7_jam_119 : decode cX7_jam 119 = .ok (.aload_n 0, 1) := by decide +kernel
theorem dX7_jam_120 : decode cX7_jam 120 = .ok (.iload_n 2, 1) := by decide +kernel
theorem dX7_jam_121 : decode cX7_jam 121 = .ok (.invokevirtual 205, 3) := by decide +kernel
theorem dX7_jam_124 : decode cX7_jam 124 = .ok (.lload 5, 2) := by decide +kernel
theorem dX7_jam_126 : decode cX7_jam 126 = .ok (.aload_n 0, 1) := by decide +kernel
theorem dX7_jam_127 : decode cX7_jam 127 = .ok (.getfield 41, 3) := by decide +kernel
theorem dX7_jam_130 : decode cX7_jam 130 = .ok (.bipush 49, 2) := by decide +kernel
theorem dX7_jam_132 : decode cX7_jam 132 = .ok (.iload_n 1, 1) := by decide +kernel
theorem dX7_jam_133 : decode cX7_jam 133 = .ok (.iadd, 1) := by decide +kernel
theorem dX7_jam_134 : decode cX7_jam 134 = .ok (.iaload, 1) := by decide +kernel
theorem dX7_jam_135 : decode cX7_jam 135 = .ok (.bipush 9, 2) := by decide +kernel
theorem dX7_jam_137 : decode cX7_jam 137 = .ok (.if_icmp .ne 8, 3) := by decide +kernel
theorem dX7_jam_140 : decode cX7_jam 140 = .ok (.lload 10, 2) := by decide +kernel
theorem dX7_jam_142 : decode cX7_jam 142 = .ok (.goto 4, 3) := by decide +kernel
theorem dX7_jam_145 : decode cX7_jam 145 = .ok (.lconst 0, 1) := by decide +kernel
theorem dX7_jam_146 : decode cX7_jam 146 = .ok (.ladd, 1) := by decide +kernel
theorem dX7_jam_147 : decode cX7_jam 147 = .ok (.lstore 5, 2) := by decide +kernel
theorem dX7_jam_149 : decode cX7_jam 149 = .ok (.lload 7, 2) := by decide +kernel
theorem dX7_jam_151 : decode cX7_jam 151 = .ok (.lload 10, 2) := by decide +kernel
theorem dX7_jam_153 : decode cX7_jam 153 = .ok (.ladd, 1) := by decide +kernel
theorem dX7_jam_154 : decode cX7_jam 154 = .ok (.lstore 7, 2) := by decide +kernel
theorem dX7_jam_156 : decode cX7_jam 156 = .ok (.iinc 9 1, 3) := by decide +kernel
theorem dX7_jam_159 : decode cX7_jam 159 = .ok (.goto (-108), 3) := by decide +kernel
theorem dX7_jam_162 : decode cX7_jam 162 = .ok (.aload_n 0, 1) := by decide +kernel
theorem dX7_jam_163 : decode cX7_jam 163 = .ok (.iconst 0, 1) := by decide +kernel
theorem dX7_jam_164 : decode cX7_jam 164 = .ok (.putfield 162, 3) := by decide +kernel
theorem dX7_jam_167 : decode cX7_jam 167 = .ok (.lload 5, 2) := by decide +kernel
theorem dX7_jam_169 : decode cX7_jam 169 = .ok (.lload 7, 2) := by decide +kernel
theorem dX7_jam_171 : decode cX7_jam 171 = .ok (.invokestatic 243, 3) := by decide +kernel
theorem dX7_jam_174 : decode cX7_jam 174 = .ok (.lstore 9, 2) := by decide +kernel
theorem dX7_jam_176 : decode cX7_jam 176 = .ok (.iload 4, 2) := by decide +kernel
theorem dX7_jam_178 : decode cX7_jam 178 = .ok (.ifCond .ne 11, 3) := by decide +kernel
theorem dX7_jam_181 : decode cX7_jam 181 = .ok (.lload 5, 2) := by decide +kernel
theorem dX7_jam_183 : decode cX7_jam 183 = .ok (.lload 9, 2) := by decide +kernel
theorem dX7_jam_185 : decode cX7_jam 185 = .ok (.ldiv, 1) := by decide +kernel
theorem dX7_jam_186 : decode cX7_jam 186 = .ok (.goto 8, 3) := by decide +kernel
theorem dX7_jam_189 : decode cX7_jam 189 = .ok (.lload 7, 2) := by decide +kernel
theorem dX7_jam_191 : decode cX7_jam 191 = .ok (.lload 9, 2) := by decide +kernel
theorem dX7_jam_193 : decode cX7_jam 193 = .ok (.ldiv, 1) := by decide +kernel
theorem dX7_jam_194 : decode cX7_jam 194 = .ok (.lreturn, 1) := by decide +kernel
theorem dX7_drawn_0 : decode cX7_drawn 0 = .ok (.aload_n 0, 1) := by decide +kernel
theorem dX7_drawn_1 : decode cX7_drawn 1 = .ok (.invokevirtual 174, 3) := by decide +kernel
theorem dX7_drawn_4 : decode cX7_drawn 4 = .ok (.ifCond .eq 6, 3) := by decide +kernel
theorem dX7_drawn_7 : decode cX7_drawn 7 = .ok (.ldc 173, 2) := by decide +kernel
theorem dX7_drawn_9 : decode cX7_drawn 9 = .ok (.ireturn, 1) := by decide +kernel
theorem dX7_drawn_10 : decode cX7_drawn 10 = .ok (.iload_n 1, 1) := by decide +kernel
theorem dX7_drawn_11 : decode cX7_drawn 11 = .ok (.iconst 0, 1) := by decide +kernel
theorem dX7_drawn_12 : decode cX7_drawn 12 = .ok (.bipush 60, 2) := by decide +kernel
theorem dX7_drawn_14 : decode cX7_drawn 14 = .ok (.invokestatic 70, 3) := by decide +kernel
theorem dX7_drawn_17 : decode cX7_drawn 17 = .ok (.ifCond .eq 22, 3) := by decide +kernel
theorem dX7_drawn_20 : decode cX7_drawn 20 = .ok (.iload_n 2, 1) := by decide +kernel
theorem dX7_drawn_21 : decode cX7_drawn 21 = .ok (.iconst 1, 1) := by decide +kernel
theorem dX7_drawn_22 : decode cX7_drawn 22 = .ok (.ldc 247, 2) := by decide +kernel
theorem dX7_drawn_24 : decode cX7_drawn 24 = .ok (.invokestatic 70, 3) := by decide +kernel
theorem dX7_drawn_27 : decode cX7_drawn 27 = .ok (.ifCond .eq 12, 3) := by decide +kernel
theorem dX7_drawn_30 : decode cX7_drawn 30 = .ok (.iload_n 3, 1) := by decide +kernel
theorem dX7_drawn_31 : decode cX7_drawn 31 = .ok (.iconst 0, 1) := by decide +kernel
theorem dX7_drawn_32 : decode cX7_drawn 32 = .ok (.iconst 1, 1) := by decide +kernel
theorem dX7_drawn_33 : decode cX7_drawn 33 = .ok (.invokestatic 70, 3) := by decide +kernel
theorem dX7_drawn_36 : decode cX7_drawn 36 = .ok (.ifCond .ne 6, 3) := by decide +kernel
theorem dX7_drawn_39 : decode cX7_drawn 39 = .ok (.ldc 84, 2) := by decide +kernel
theorem dX7_drawn_41 : decode cX7_drawn 41 = .ok (.ireturn, 1) := by decide +kernel
theorem dX7_drawn_42 : decode cX7_drawn 42 = .ok (.iload_n 2, 1) := by decide +kernel
theorem dX7_drawn_43 : decode cX7_drawn 43 = .ok (.i2l, 1) := by decide +kernel
theorem dX7_drawn_44 : decode cX7_drawn 44 = .ok (.lstore 4, 2) := by decide +kernel
theorem dX7_drawn_46 : decode cX7_drawn 46 = .ok (.iconst 0, 1) := by decide +kernel
theorem dX7_drawn_47 : decode cX7_drawn 47 = .ok (.istore 6, 2) := by decide +kernel
theorem dX7_drawn_49 : decode cX7_drawn 49 = .ok (.aload_n 0, 1) := by decide +kernel
theorem dX7_drawn_50 : decode cX7_drawn 50 = .ok (.invokevirtual 202, 3) := by decide +kernel
theorem dX7_drawn_53 : decode cX7_drawn 53 = .ok (.iconst 0, 1) := by decide +kernel
theorem dX7_drawn_54 : decode cX7_drawn 54 = .ok (.istore 7, 2) := by decide +kernel
theorem dX7_drawn_56 : decode cX7_drawn 56 = .ok (.iload 7, 2) := by decide +kernel
theorem dX7_drawn_58 : decode cX7_drawn 58 = .ok (.iload_n 1, 1) := by decide +kernel
theorem dX7_drawn_59 : decode cX7_drawn 59 = .ok (.if_icmp .ge 142, 3) := by decide +kernel
theorem dX7_drawn_62 : decode cX7_drawn 62 = .ok (.lload 4, 2) := by decide +kernel
theorem dX7_drawn_64 : decode cX7_drawn 64 = .ok (.ldc2_w 248, 3) := by decide +kernel
theorem dX7_drawn_67 : decode cX7_drawn 67 = .ok (.lmul, 1) := by decide +kernel
theorem dX7_drawn_68 : decode cX7_drawn 68 = .ok (.ldc2_w 250, 3) := by decide +kernel
theorem dX7_drawn_71 : decode cX7_drawn 71 = .ok (.lrem, 1) := by decide +kernel
theorem dX7_drawn_72 : decode cX7_drawn 72 = .ok (.lstore 4, 2) := by decide +kernel
theorem dX7_drawn_74 : decode cX7_drawn 74 = .ok (.lload 4, 2) := by decide +kernel
theorem dX7_drawn_76 : decode cX7_drawn 76 = .ok (.aload_n 0, 1) := by decide +kernel
theorem dX7_drawn_77 : decode cX7_drawn 77 = .ok (.getfield 74, 3) := by decide +kernel
theorem dX7_drawn_80 : decode cX7_drawn 80 = .ok (.i2l, 1) := by decide +kernel
theorem dX7_drawn_81 : decode cX7_drawn 81 = .ok (.lrem, 1) := by decide +kernel
theorem dX7_drawn_82 : decode cX7_drawn 82 = .ok (.l2i, 1) := by decide +kernel
theorem dX7_drawn_83 : decode cX7_drawn 83 = .ok (.istore 8, 2) := by decide +kernel
theorem dX7_drawn_85 : decode cX7_drawn 85 = .ok (.aload_n 0, 1) := by decide +kernel
theorem dX7_drawn_86 : decode cX7_drawn 86 = .ok (.aload_n 0, 1) := by decide +kernel
theorem dX7_drawn_87 : decode cX7_drawn 87 = .ok (.getfield 41, 3) := by decide +kernel
theorem dX7_drawn_90 : decode cX7_drawn 90 = .ok (.iload 8, 2) := by decide +kernel
theorem dX7_drawn_92 : decode cX7_drawn 92 = .ok (.invokevirtual 195, 3) := by decide +kernel
theorem dX7_drawn_95 : decode cX7_drawn 95 = .ok (.ifCond .eq 24, 3) := by decide +kernel
theorem dX7_drawn_98 : decode cX7_drawn 98 = .ok (.aload_n 0, 1) := by decide +kernel
theorem dX7_drawn_99 : decode cX7_drawn 99 = .ok (.getfield 41, 3) := by decide +kernel
theorem dX7_drawn_102 : decode cX7_drawn 102 = .ok (.iload 8, 2) := by decide +kernel
theorem dX7_drawn_104 : decode cX7_drawn 104 = .ok (.lload 4, 2) := by decide +kernel
theorem dX7_drawn_106 : decode cX7_drawn 106 = .ok (.ldc2_w 252, 3) := by decide +kernel
theorem dX7_drawn_109 : decode cX7_drawn 109 = .ok (.lrem, 1) := by decide +kernel
theorem dX7_drawn_110 : decode cX7_drawn 110 = .ok (.l2i, 1) := by decide +kernel
theorem dX7_drawn_111 : decode cX7_drawn 111 = .ok (.iconst 1, 1) := by decide +kernel
theorem dX7_drawn_112 : decode cX7_drawn 112 = .ok (.iadd, 1) := by decide +kernel
theorem dX7_drawn_113 : decode cX7_drawn 113 = .ok (.invokestatic 199, 3) := by decide +kernel
theorem dX7_drawn_116 : decode cX7_drawn 116 = .ok (.goto 29, 3) := by decide +kernel
theorem dX7_drawn_119 : decode cX7_drawn 119 = .ok (.lload 4, 2) := by decide +kernel
theorem dX7_drawn_121 : decode cX7_drawn 121 = .ok (.ldc2_w 254, 3) := by decide +kernel
theorem dX7_drawn_124 : decode cX7_drawn 124 = .ok (.lrem, 1) := by decide +kernel
theorem dX7_drawn_125 : decode cX7_drawn 125 = .ok (.lconst 0, 1) := by decide +kernel
theorem dX7_drawn_126 : decode cX7_drawn 126 = .ok (.lcmp, 1) := by decide +kernel
theorem dX7_drawn_127 : decode cX7_drawn 127 = .ok (.ifCond .ne 18, 3) := by decide +kernel
theorem dX7_drawn_130 : decode cX7_drawn 130 = .ok (.aload_n 0, 1) := by decide +kernel
theorem dX7_drawn_131 : decode cX7_drawn 131 = .ok (.iconst 1, 1) := by decide +kernel
theorem dX7_drawn_132 : decode cX7_drawn 132 = .ok (.lload 4, 2) := by decide +kernel
theorem dX7_drawn_134 : decode cX7_drawn 134 = .ok (.aload_n 0, 1) := by decide +kernel
theorem dX7_drawn_135 : decode cX7_drawn 135 = .ok (.getfield 77, 3) := by decide +kernel
theorem dX7_drawn_138 : decode cX7_drawn 138 = .ok (.i2l, 1) := by decide +kernel
theorem dX7_drawn_139 : decode cX7_drawn 139 = .ok (.lrem, 1) := by decide +kernel
theorem dX7_drawn_140 : decode cX7_drawn 140 = .ok (.l2i, 1) := by decide +kernel
theorem dX7_drawn_141 : decode cX7_drawn 141 = .ok (.ishl, 1) := by decide +kernel
theorem dX7_drawn_142 : decode cX7_drawn 142 = .ok (.invokevirtual 214, 3) := by decide +kernel
theorem dX7_drawn_145 : decode cX7_drawn 145 = .ok (.iload_n 3, 1) := by decide +kernel
theorem dX7_drawn_146 : decode cX7_drawn 146 = .ok (.ifCond .ne 10, 3) := by decide +kernel
theorem dX7_drawn_149 : decode cX7_drawn 149 = .ok (.aload_n 0, 1) := by decide +kernel
theorem dX7_drawn_150 : decode cX7_drawn 150 = .ok (.invokevirtual 211, 3) := by decide +kernel
theorem dX7_drawn_153 : decode cX7_drawn 153 = .ok (.goto 7, 3) := by decide +kernel
theorem dX7_drawn_156 : decode cX7_drawn 156 = .ok (.aload_n 0, 1) := by decide +kernel
theorem dX7_drawn_157 : decode cX7_drawn 157 = .ok (.invokevirtual 208, 3) := by decide +kernel
theorem dX7_drawn_160 : decode cX7_drawn 160 = .ok (.istore 9, 2) := by decide +kernel
theorem dX7_drawn_162 : decode cX7_drawn 162 = .ok (.aload_n 0, 1) := by decide +kernel
theorem dX7_drawn_163 : decode cX7_drawn 163 = .ok (.iconst 1, 1) := by decide +kernel
theorem dX7_drawn_164 : decode cX7_drawn 164 = .ok (.invokevirtual 205, 3) := by decide +kernel
theorem dX7_drawn_167 : decode cX7_drawn 167 = .ok (.iload 6, 2) := by decide +kernel
theorem dX7_drawn_169 : decode cX7_drawn 169 = .ok (.iload_n 3, 1) := by decide +kernel
theorem dX7_drawn_170 : decode cX7_drawn 170 = .ok (.ifCond .ne 10, 3) := by decide +kernel
theorem dX7_drawn_173 : decode cX7_drawn 173 = .ok (.aload_n 0, 1) := by decide +kernel
theorem dX7_drawn_174 : decode cX7_drawn 174 = .ok (.invokevirtual 211, 3) := by decide +kernel
theorem dX7_drawn_177 : decode cX7_drawn 177 = .ok (.goto 7, 3) := by decide +kernel
theorem dX7_drawn_180 : decode cX7_drawn 180 = .ok (.aload_n 0, 1) := by decide +kernel
theorem dX7_drawn_181 : decode cX7_drawn 181 = .ok (.invokevirtual 208, 3) := by decide +kernel
theorem dX7_drawn_184 : decode cX7_drawn 184 = .ok (.iload 9, 2) := by decide +kernel
theorem dX7_drawn_186 : decode cX7_drawn 186 = .ok (.iconst (-1), 1) := by decide +kernel
theorem dX7_drawn_187 : decode cX7_drawn 187 = .ok (.ixor, 1) := by decide +kernel
theorem dX7_drawn_188 : decode cX7_drawn 188 = .ok (.iand, 1) := by decide +kernel
theorem dX7_drawn_189 : decode cX7_drawn 189 = .ok (.invokestatic 217, 3) := by decide +kernel
theorem dX7_drawn_192 : decode cX7_drawn 192 = .ok (.iadd, 1) := by decide +kernel
theorem dX7_drawn_193 : decode cX7_drawn 193 = .ok (.istore 6, 2) := by decide +kernel
theorem dX7_drawn_195 : decode cX7_drawn 195 = .ok (.iinc 7 1, 3) := by decide +kernel
theorem dX7_drawn_198 : decode cX7_drawn 198 = .ok (.goto (-142), 3) := by decide +kernel
theorem dX7_drawn_201 : decode cX7_drawn 201 = .ok (.iload 6, 2) := by decide +kernel
theorem dX7_drawn_203 : decode cX7_drawn 203 = .ok (.ireturn, 1) := by decide +kernel
theorem dX7_image_0 : decode cX7_image 0 = .ok (.iload_n 1, 1) := by decide +kernel
theorem dX7_image_1 : decode cX7_image 1 = .ok (.iconst 0, 1) := by decide +kernel
theorem dX7_image_2 : decode cX7_image 2 = .ok (.iconst 1, 1) := by decide +kernel
theorem dX7_image_3 : decode cX7_image 3 = .ok (.invokestatic 70, 3) := by decide +kernel
theorem dX7_image_6 : decode cX7_image 6 = .ok (.ifCond .ne 6, 3) := by decide +kernel
theorem dX7_image_9 : decode cX7_image 9 = .ok (.ldc 84, 2) := by decide +kernel
theorem dX7_image_11 : decode cX7_image 11 = .ok (.ireturn, 1) := by decide +kernel
theorem dX7_image_12 : decode cX7_image 12 = .ok (.aload_n 0, 1) := by decide +kernel
theorem dX7_image_13 : decode cX7_image 13 = .ok (.invokevirtual 174, 3) := by decide +kernel
theorem dX7_image_16 : decode cX7_image 16 = .ok (.ifCond .eq 6, 3) := by decide +kernel
theorem dX7_image_19 : decode cX7_image 19 = .ok (.ldc 173, 2) := by decide +kernel
theorem dX7_image_21 : decode cX7_image 21 = .ok (.ireturn, 1) := by decide +kernel
theorem dX7_image_22 : decode cX7_image 22 = .ok (.bipush 78, 2) := by decide +kernel
theorem dX7_image_24 : decode cX7_image 24 = .ok (.iload_n 1, 1) := by decide +kernel
theorem dX7_image_25 : decode cX7_image 25 = .ok (.imul, 1) := by decide +kernel
theorem dX7_image_26 : decode cX7_image 26 = .ok (.istore_n 2, 1) := by decide +kernel
theorem dX7_image_27 : decode cX7_image 27 = .ok (.aload_n 0, 1) := by decide +kernel
theorem dX7_image_28 : decode cX7_image 28 = .ok (.getfield 34, 3) := by decide +kernel
theorem dX7_image_31 : decode cX7_image 31 = .ok (.iload_n 1, 1) := by decide +kernel
theorem dX7_image_32 : decode cX7_image 32 = .ok (.iconst 1, 1) := by decide +kernel
theorem dX7_image_33 : decode cX7_image 33 = .ok (.bastore, 1) := by decide +kernel
theorem dX7_image_34 : decode cX7_image 34 = .ok (.aload_n 0, 1) := by decide +kernel
theorem dX7_image_35 : decode cX7_image 35 = .ok (.getfield 31, 3) := by decide +kernel
theorem dX7_image_38 : decode cX7_image 38 = .ok (.iload_n 2, 1) := by decide +kernel
theorem dX7_image_39 : decode cX7_image 39 = .ok (.aload_n 0, 1) := by decide +kernel
theorem dX7_image_40 : decode cX7_image 40 = .ok (.getfield 152, 3) := by decide +kernel
theorem dX7_image_43 : decode cX7_image 43 = .ok (.iastore, 1) := by decide +kernel
theorem dX7_image_44 : decode cX7_image 44 = .ok (.aload_n 0, 1) := by decide +kernel
theorem dX7_image_45 : decode cX7_image 45 = .ok (.getfield 31, 3) := by decide +kernel
theorem dX7_image_48 : decode cX7_image 48 = .ok (.iload_n 2, 1) := by decide +kernel
theorem dX7_image_49 : decode cX7_image 49 = .ok (.iconst 1, 1) := by decide +kernel
theorem dX7_image_50 : decode cX7_image 50 = .ok (.iadd, 1) := by decide +kernel
theorem dX7_image_51 : decode cX7_image 51 = .ok (.aload_n 0, 1) := by decide +kernel
theorem dX7_image_52 : decode cX7_image 52 = .ok (.getfield 74, 3) := by decide +kernel
theorem dX7_image_55 : decode cX7_image 55 = .ok (.iastore, 1) := by decide +kernel
theorem dX7_image_56 : decode cX7_image 56 = .ok (.aload_n 0, 1) := by decide +kernel
theorem dX7_image_57 : decode cX7_image 57 = .ok (.getfield 31, 3) := by decide +kernel
theorem dX7_image_60 : decode cX7_image 60 = .ok (.iload_n 2, 1) := by decide +kernel
theorem dX7_image_61 : decode cX7_image 61 = .ok (.iconst 2, 1) := by decide +kernel
theorem dX7_image_62 : decode cX7_image 62 = .ok (.iadd, 1) := by decide +kernel
theorem dX7_image_63 : decode cX7_image 63 = .ok (.aload_n 0, 1) := by decide +kernel
theorem dX7_image_64 : decode cX7_image 64 = .ok (.getfield 77, 3) := by decide +kernel
theorem dX7_image_67 : decode cX7_image 67 = .ok (.iastore, 1) := by decide +kernel
theorem dX7_image_68 : decode cX7_image 68 = .ok (.aload_n 0, 1) := by decide +kernel
theorem dX7_image_69 : decode cX7_image 69 = .ok (.getfield 22, 3) := by decide +kernel
theorem dX7_image_72 : decode cX7_image 72 = .ok (.iconst 0, 1) := by decide +kernel
theorem dX7_image_73 : decode cX7_image 73 = .ok (.aload_n 0, 1) := by decide +kernel
theorem dX7_image_74 : decode cX7_image 74 = .ok (.getfield 31, 3) := by decide +kernel
theorem dX7_image_77 : decode cX7_image 77 = .ok (.iload_n 2, 1) := by decide +kernel
theorem dX7_image_78 : decode cX7_image 78 = .ok (.iconst 3, 1) := by decide +kernel
theorem dX7_image_79 : decode cX7_image 79 = .ok (.iadd, 1) := by decide +kernel
theorem dX7_image_80 : decode cX7_image 80 = .ok (.bipush 8, 2) := by decide +kernel
theorem dX7_image_82 : decode cX7_image 82 = .ok (.invokestatic 155, 3) := by decide +kernel
theorem dX7_image_85 : decode cX7_image 85 = .ok (.aload_n 0, 1) := by decide +kernel
theorem dX7_image_86 : decode cX7_image 86 = .ok (.getfield 25, 3) := by decide +kernel
theorem dX7_image_89 : decode cX7_image 89 = .ok (.iconst 0, 1) := by decide +kernel
theorem dX7_image_90 : decode cX7_image 90 = .ok (.aload_n 0, 1) := by decide +kernel
theorem dX7_image_91 : decode cX7_image 91 = .ok (.getfield 31, 3) := by decide +kernel
theorem dX7_image_94 : decode cX7_image 94 = .ok (.iload_n 2, 1) := by decide +kernel
theorem dX7_image_95 : decode cX7_image 95 = .ok (.bipush 11, 2) := by decide +kernel
theorem dX7_image_97 : decode cX7_image 97 = .ok (.iadd, 1) := by decide +kernel
theorem dX7_image_98 : decode cX7_image 98 = .ok (.bipush 67, 2) := by decide +kernel
theorem dX7_image_100 : decode cX7_image 100 = .ok (.invokestatic 155, 3) := by decide +kernel
theorem dX7_image_103 : decode cX7_image 103 = .ok (.iconst 1, 1) := by decide +kernel
theorem dX7_image_104 : decode cX7_image 104 = .ok (.ireturn, 1) := by decide +kernel
theorem dX7_restore_0 : decode cX7_restore 0 = .ok (.iload_n 1, 1) := by decide +kernel
theorem dX7_restore_1 : decode cX7_restore 1 = .ok (.iconst 0, 1) := by decide +kernel
theorem dX7_restore_2 : decode cX7_restore 2 = .ok (.iconst 1, 1) := by decide +kernel
theorem dX7_restore_3 : decode cX7_restore 3 = .ok (.invokestatic 70, 3) := by decide +kernel
theorem dX7_restore_6 : decode cX7_restore 6 = .ok (.ifCond .ne 6, 3) := by decide +kernel
theorem dX7_restore_9 : decode cX7_restore 9 = .ok (.ldc 84, 2) := by decide +kernel
theorem dX7_restore_11 : decode cX7_restore 11 = .ok (.ireturn, 1) := by decide +kernel
theorem dX7_restore_12 : decode cX7_restore 12 = .ok (.aload_n 0, 1) := by decide +kernel
theorem dX7_restore_13 : decode cX7_restore 13 = .ok (.getfield 34, 3) := by decide +kernel
theorem dX7_restore_16 : decode cX7_restore 16 = .ok (.iload_n 1, 1) := by decide +kernel
theorem dX7_restore_17 : decode cX7_restore 17 = .ok (.baload, 1) := by decide +kernel
theorem dX7_restore_18 : decode cX7_restore 18 = .ok (.ifCond .ne 6, 3) := by decide +kernel
theorem dX7_restore_21 : decode cX7_restore 21 = .ok (.ldc 173, 2) := by decide +kernel
theorem dX7_restore_23 : decode cX7_restore 23 = .ok (.ireturn, 1) := by decide +kernel
theorem dX7_restore_24 : decode cX7_restore 24 = .ok (.bipush 78, 2) := by decide +kernel
theorem dX7_restore_26 : decode cX7_restore 26 = .ok (.iload_n 1, 1) := by decide +kernel
theorem dX7_restore_27 : decode cX7_restore 27 = .ok (.imul, 1) := by decide +kernel
theorem dX7_restore_28 : decode cX7_restore 28 = .ok (.istore_n 2, 1) := by decide +kernel
theorem dX7_restore_29 : decode cX7_restore 29 = .ok (.aload_n 0, 1) := by decide +kernel
theorem dX7_restore_30 : decode cX7_restore 30 = .ok (.aload_n 0, 1) := by decide +kernel
theorem dX7_restore_31 : decode cX7_restore 31 = .ok (.getfield 31, 3) := by decide +kernel
theorem dX7_restore_34 : decode cX7_restore 34 = .ok (.iload_n 2, 1) := by decide +kernel
theorem dX7_restore_35 : decode cX7_restore 35 = .ok (.iaload, 1) := by decide +kernel
theorem dX7_restore_36 : decode cX7_restore 36 = .ok (.putfield 152, 3) := by decide +kernel
theorem dX7_restore_39 : decode cX7_restore 39 = .ok (.aload_n 0, 1) := by decide +kernel
theorem dX7_restore_40 : decode cX7_restore 40 = .ok (.aload_n 0, 1) := by decide +kernel
theorem dX7_restore_41 : decode cX7_restore 41 = .ok (.getfield 31, 3) := by decide +kernel
theorem dX7_restore_44 : decode cX7_restore 44 = .ok (.iload_n 2, 1) := by decide +kernel
theorem dX7_restore_45 : decode cX7_restore 45 = .ok (.iconst 1, 1) := by decide +kernel
theorem dX7_restore_46 : decode cX7_restore 46 = .ok (.iadd, 1) := by decide +kernel
theorem dX7_restore_47 : decode cX7_restore 47 = .ok (.iaload, 1) := by decide +kernel
theorem dX7_restore_48 : decode cX7_restore 48 = .ok (.putfield 74, 3) := by decide +kernel
theorem dX7_restore_51 : decode cX7_restore 51 = .ok (.aload_n 0, 1) := by decide +kernel
theorem dX7_restore_52 : decode cX7_restore 52 = .ok (.aload_n 0, 1) := by decide +kernel
theorem dX7_restore_53 : decode cX7_restore 53 = .ok (.getfield 31, 3) := by decide +kernel
theorem dX7_restore_56 : decode cX7_restore 56 = .ok (.iload_n 2, 1) := by decide +kernel
theorem dX7_restore_57 : decode cX7_restore 57 = .ok (.iconst 2, 1) := by decide +kernel
theorem dX7_restore_58 : decode cX7_restore 58 = .ok (.iadd, 1) := by decide +kernel
theorem dX7_restore_59 : decode cX7_restore 59 = .ok (.iaload, 1) := by decide +kernel
theorem dX7_restore_60 : decode cX7_restore 60 = .ok (.putfield 77, 3) := by decide +kernel
theorem dX7_restore_63 : decode cX7_restore 63 = .ok (.aload_n 0, 1) := by decide +kernel
theorem dX7_restore_64 : decode cX7_restore 64 = .ok (.getfield 31, 3) := by decide +kernel
theorem dX7_restore_67 : decode cX7_restore 67 = .ok (.iload_n 2, 1) := by decide +kernel
theorem dX7_restore_68 : decode cX7_restore 68 = .ok (.iconst 3, 1) := by decide +kernel
theorem dX7_restore_69 : decode cX7_restore 69 = .ok (.iadd, 1) := by decide +kernel
theorem dX7_restore_70 : decode cX7_restore 70 = .ok (.aload_n 0, 1) := by decide +kernel
theorem dX7_restore_71 : decode cX7_restore 71 = .ok (.getfield 22, 3) := by decide +kernel
theorem dX7_restore_74 : decode cX7_restore 74 = .ok (.iconst 0, 1) := by decide +kernel
theorem dX7_restore_75 : decode cX7_restore 75 = .ok (.bipush 8, 2) := by decide +kernel
theorem dX7_restore_77 : decode cX7_restore 77 = .ok (.invokestatic 155, 3) := by decide +kernel
theorem dX7_restore_80 : decode cX7_restore 80 = .ok (.aload_n 0, 1) := by decide +kernel
theorem dX7_restore_81 : decode cX7_restore 81 = .ok (.getfield 31, 3) := by decide +kernel
theorem dX7_restore_84 : decode cX7_restore 84 = .ok (.iload_n 2, 1) := by decide +kernel
theorem dX7_restore_85 : decode cX7_restore 85 = .ok (.bipush 11, 2) := by decide +kernel
theorem dX7_restore_87 : decode cX7_restore 87 = .ok (.iadd, 1) := by decide +kernel
theorem dX7_restore_88 : decode cX7_restore 88 = .ok (.aload_n 0, 1) := by decide +kernel
theorem dX7_restore_89 : decode cX7_restore 89 = .ok (.getfield 25, 3) := by decide +kernel
theorem dX7_restore_92 : decode cX7_restore 92 = .ok (.iconst 0, 1) := by decide +kernel
theorem dX7_restore_93 : decode cX7_restore 93 = .ok (.bipush 67, 2) := by decide +kernel
theorem dX7_restore_95 : decode cX7_restore 95 = .ok (.invokestatic 155, 3) := by decide +kernel
theorem dX7_restore_98 : decode cX7_restore 98 = .ok (.aload_n 0, 1) := by decide +kernel
theorem dX7_restore_99 : decode cX7_restore 99 = .ok (.iconst 0, 1) := by decide +kernel
theorem dX7_restore_100 : decode cX7_restore 100 = .ok (.putfield 159, 3) := by decide +kernel
theorem dX7_restore_103 : decode cX7_restore 103 = .ok (.iconst 1, 1) := by decide +kernel
theorem dX7_restore_104 : decode cX7_restore 104 = .ok (.ireturn, 1) := by decide +kernel
theorem dX7_kind_0 : decode cX7_kind 0 = .ok (.aload_n 0, 1) := by decide +kernel
theorem dX7_kind_1 : decode cX7_kind 1 = .ok (.iload_n 1, 1) := by decide +kernel
theorem dX7_kind_2 : decode cX7_kind 2 = .ok (.invokevirtual 189, 3) := by decide +kernel
theorem dX7_kind_5 : decode cX7_kind 5 = .ok (.ifCond .eq 12, 3) := by decide +kernel
theorem dX7_kind_8 : decode cX7_kind 8 = .ok (.aload_n 0, 1) := by decide +kernel
theorem dX7_kind_9 : decode cX7_kind 9 = .ok (.getfield 22, 3) := by decide +kernel
theorem dX7_kind_12 : decode cX7_kind 12 = .ok (.iload_n 1, 1) := by decide +kernel
theorem dX7_kind_13 : decode cX7_kind 13 = .ok (.iaload, 1) := by decide +kernel
theorem dX7_kind_14 : decode cX7_kind 14 = .ok (.goto 5, 3) := by decide +kernel
theorem dX7_kind_17 : decode cX7_kind 17 = .ok (.ldc 84, 2) := by decide +kernel
theorem dX7_kind_19 : decode cX7_kind 19 = .ok (.ireturn, 1) := by decide +kernel
theorem dX7_isA_0 : decode cX7_isA 0 = .ok (.aload_n 0, 1) := by decide +kernel
theorem dX7_isA_1 : decode cX7_isA 1 = .ok (.getfield 22, 3) := by decide +kernel
theorem dX7_isA_4 : decode cX7_isA 4 = .ok (.iload_n 1, 1) := by decide +kernel
theorem dX7_isA_5 : decode cX7_isA 5 = .ok (.iaload, 1) := by decide +kernel
theorem dX7_isA_6 : decode cX7_isA 6 = .ok (.istore_n 3, 1) := by decide +kernel
theorem dX7_isA_7 : decode cX7_isA 7 = .ok (.iload_n 2, 1) := by decide +kernel
theorem dX7_isA_8 : decode cX7_isA 8 = .ok (.ifCond .eq 28, 3) := by decide +kernel
theorem dX7_isA_11 : decode cX7_isA 11 = .ok (.iload_n 2, 1) := by decide +kernel
theorem dX7_isA_12 : decode cX7_isA 12 = .ok (.iload_n 3, 1) := by decide +kernel
theorem dX7_isA_13 : decode cX7_isA 13 = .ok (.if_icmp .eq 23, 3) := by decide +kernel
theorem dX7_isA_16 : decode cX7_isA 16 = .ok (.iload_n 2, 1) := by decide +kernel
theorem dX7_isA_17 : decode cX7_isA 17 = .ok (.iconst 1, 1) := by decide +kernel
theorem dX7_isA_18 : decode cX7_isA 18 = .ok (.if_icmp .ne 8, 3) := by decide +kernel
theorem dX7_isA_21 : decode cX7_isA 21 = .ok (.iload_n 3, 1) := by decide +kernel
theorem dX7_isA_22 : decode cX7_isA 22 = .ok (.iconst 4, 1) := by decide +kernel
theorem dX7_isA_23 : decode cX7_isA 23 = .ok (.if_icmp .lt 13, 3) := by decide +kernel
theorem dX7_isA_26 : decode cX7_isA 26 = .ok (.iload_n 2, 1) := by decide +kernel
theorem dX7_isA_27 : decode cX7_isA 27 = .ok (.iconst 4, 1) := by decide +kernel
theorem dX7_isA_28 : decode cX7_isA 28 = .ok (.if_icmp .ne 12, 3) := by decide +kernel
theorem dX7_isA_31 : decode cX7_isA 31 = .ok (.iload_n 3, 1) := by decide +kernel
theorem dX7_isA_32 : decode cX7_isA 32 = .ok (.iconst 5, 1) := by decide +kernel
theorem dX7_isA_33 : decode cX7_isA 33 = .ok (.if_icmp .ne 7, 3) := by decide +kernel
theorem dX7_isA_36 : decode cX7_isA 36 = .ok (.iconst 1, 1) := by decide +kernel
theorem dX7_isA_37 : decode cX7_isA 37 = .ok (.goto 4, 3) := by decide +kernel
theorem dX7_isA_40 : decode cX7_isA 40 = .ok (.iconst 0, 1) := by decide +kernel
theorem dX7_isA_41 : decode cX7_isA 41 = .ok (.ireturn, 1) := by decide +kernel
theorem dX7_as_0 : decode cX7_as 0 = .ok (.aload_n 0, 1) := by decide +kernel
theorem dX7_as_1 : decode cX7_as 1 = .ok (.iload_n 1, 1) := by decide +kernel
theorem dX7_as_2 : decode cX7_as 2 = .ok (.invokevirtual 189, 3) := by decide +kernel
theorem dX7_as_5 : decode cX7_as 5 = .ok (.ifCond .eq 12, 3) := by decide +kernel
theorem dX7_as_8 : decode cX7_as 8 = .ok (.iload_n 2, 1) := by decide +kernel
theorem dX7_as_9 : decode cX7_as 9 = .ok (.iconst 0, 1) := by decide +kernel
theorem dX7_as_10 : decode cX7_as 10 = .ok (.iconst 5, 1) := by decide +kernel
theorem dX7_as_11 : decode cX7_as 11 = .ok (.invokestatic 70, 3) := by decide +kernel
theorem dX7_as_14 : decode cX7_as 14 = .ok (.ifCond .ne 6, 3) := by decide +kernel
theorem dX7_as_17 : decode cX7_as 17 = .ok (.ldc 84, 2) := by decide +kernel
theorem dX7_as_19 : decode cX7_as 19 = .ok (.ireturn, 1) := by decide +kernel
theorem dX7_as_20 : decode cX7_as 20 = .ok (.aload_n 0, 1) := by decide +kernel
theorem dX7_as_21 : decode cX7_as 21 = .ok (.iload_n 1, 1) := by decide +kernel
theorem dX7_as_22 : decode cX7_as 22 = .ok (.iload_n 2, 1) := by decide +kernel
theorem dX7_as_23 : decode cX7_as 23 = .ok (.invokevirtual 256, 3) := by decide +kernel
theorem dX7_as_26 : decode cX7_as 26 = .ok (.ifCond .ne 9, 3) := by decide +kernel
theorem dX7_as_29 : decode cX7_as 29 = .ok (.aload_n 0, 1) := by decide +kernel
theorem dX7_as_30 : decode cX7_as 30 = .ok (.iconst 3, 1) := by decide +kernel
theorem dX7_as_31 : decode cX7_as 31 = .ok (.invokevirtual 85, 3) := by decide +kernel
theorem dX7_as_34 : decode cX7_as 34 = .ok (.ireturn, 1) := by decide +kernel
theorem dX7_as_35 : decode cX7_as 35 = .ok (.aload_n 0, 1) := by decide +kernel
theorem dX7_as_36 : decode cX7_as 36 = .ok (.iconst 0, 1) := by decide +kernel
theorem dX7_as_37 : decode cX7_as 37 = .ok (.putfield 65, 3) := by decide +kernel
theorem dX7_as_40 : decode cX7_as 40 = .ok (.iload_n 1, 1) := by decide +kernel
theorem dX7_as_41 : decode cX7_as 41 = .ok (.ireturn, 1) := by decide +kernel
theorem dX7_begins_0 : decode cX7_begins 0 = .ok (.aload_n 0, 1) := by decide +kernel
theorem dX7_begins_1 : decode cX7_begins 1 = .ok (.getfield 259, 3) := by decide +kernel
theorem dX7_begins_4 : decode cX7_begins 4 = .ok (.bipush 16, 2) := by decide +kernel
theorem dX7_begins_6 : decode cX7_begins 6 = .ok (.if_icmp .ge 23, 3) := by decide +kernel
theorem dX7_begins_9 : decode cX7_begins 9 = .ok (.aload_n 0, 1) := by decide +kernel
theorem dX7_begins_10 : decode cX7_begins 10 = .ok (.getfield 44, 3) := by decide +kernel
theorem dX7_begins_13 : decode cX7_begins 13 = .ok (.aload_n 0, 1) := by decide +kernel
theorem dX7_begins_14 : decode cX7_begins 14 = .ok (.getfield 259, 3) := by decide +kernel
theorem dX7_begins_17 : decode cX7_begins 17 = .ok (.iload_n 1, 1) := by decide +kernel
theorem dX7_begins_18 : decode cX7_begins 18 = .ok (.iastore, 1) := by decide +kernel
theorem dX7_begins_19 : decode cX7_begins 19 = .ok (.aload_n 0, 1) := by decide +kernel
theorem dX7_begins_20 : decode cX7_begins 20 = .ok (.dup, 1) := by decide +kernel
theorem dX7_begins_21 : decode cX7_begins 21 = .ok (.getfield 259, 3) := by decide +kernel
theorem dX7_begins_24 : decode cX7_begins 24 = .ok (.iconst 1, 1) := by decide +kernel
theorem dX7_begins_25 : decode cX7_begins 25 = .ok (.iadd, 1) := by decide +kernel
theorem dX7_begins_26 : decode cX7_begins 26 = .ok (.putfield 259, 3) := by decide +kernel
theorem dX7_begins_29 : decode cX7_begins 29 = .ok (.return_, 1) := by decide +kernel
theorem dX7_ten_0 : decode cX7_ten 0 = .ok (.aload_n 0, 1) := by decide +kernel
theorem dX7_ten_1 : decode cX7_ten 1 = .ok (.bipush 10, 2) := by decide +kernel
theorem dX7_ten_3 : decode cX7_ten 3 = .ok (.invokevirtual 262, 3) := by decide +kernel
theorem dX7_ten_6 : decode cX7_ten 6 = .ok (.aload_n 0, 1) := by decide +kernel
theorem dX7_ten_7 : decode cX7_ten 7 = .ok (.getfield 25, 3) := by decide +kernel
theorem dX7_ten_10 : decode cX7_ten 10 = .ok (.bipush 33, 2) := by decide +kernel
theorem dX7_ten_12 : decode cX7_ten 12 = .ok (.iload_n 1, 1) := by decide +kernel
theorem dX7_ten_13 : decode cX7_ten 13 = .ok (.iadd, 1) := by decide +kernel
theorem dX7_ten_14 : decode cX7_ten 14 = .ok (.iaload, 1) := by decide +kernel
theorem dX7_ten_15 : decode cX7_ten 15 = .ok (.ireturn, 1) := by decide +kernel
theorem dX7_twenty_0 : decode cX7_twenty 0 = .ok (.aload_n 0, 1) := by decide +kernel
theorem dX7_twenty_1 : decode cX7_twenty 1 = .ok (.bipush 20, 2) := by decide +kernel
theorem dX7_twenty_3 : decode cX7_twenty 3 = .ok (.invokevirtual 262, 3) := by decide +kernel
theorem dX7_twenty_6 : decode cX7_twenty 6 = .ok (.iload_n 1, 1) := by decide +kernel
theorem dX7_twenty_7 : decode cX7_twenty 7 = .ok (.ireturn, 1) := by decide +kernel
theorem dX7_twentyOne_0 : decode cX7_twentyOne 0 = .ok (.aload_n 0, 1) := by decide +kernel
theorem dX7_twentyOne_1 : decode cX7_twentyOne 1 = .ok (.bipush 21, 2) := by decide +kernel
theorem dX7_twentyOne_3 : decode cX7_twentyOne 3 = .ok (.invokevirtual 262, 3) := by decide +kernel
theorem dX7_twentyOne_6 : decode cX7_twentyOne 6 = .ok (.aload_n 0, 1) := by decide +kernel
theorem dX7_twentyOne_7 : decode cX7_twentyOne 7 = .ok (.iload_n 1, 1) := by decide +kernel
theorem dX7_twentyOne_8 : decode cX7_twentyOne 8 = .ok (.invokevirtual 265, 3) := by decide +kernel
theorem dX7_twentyOne_11 : decode cX7_twentyOne 11 = .ok (.aload_n 0, 1) := by decide +kernel
theorem dX7_twentyOne_12 : decode cX7_twentyOne 12 = .ok (.getfield 25, 3) := by decide +kernel
theorem dX7_twentyOne_15 : decode cX7_twentyOne 15 = .ok (.iconst 1, 1) := by decide +kernel
theorem dX7_twentyOne_16 : decode cX7_twentyOne 16 = .ok (.iload_n 1, 1) := by decide +kernel
theorem dX7_twentyOne_17 : decode cX7_twentyOne 17 = .ok (.iadd, 1) := by decide +kernel
theorem dX7_twentyOne_18 : decode cX7_twentyOne 18 = .ok (.iaload, 1) := by decide +kernel
theorem dX7_twentyOne_19 : decode cX7_twentyOne 19 = .ok (.iadd, 1) := by decide +kernel
theorem dX7_twentyOne_20 : decode cX7_twentyOne 20 = .ok (.ireturn, 1) := by decide +kernel
theorem dX7_gateMark_0 : decode cX7_gateMark 0 = .ok (.aload_n 0, 1) := by decide +kernel
theorem dX7_gateMark_1 : decode cX7_gateMark 1 = .ok (.getfield 22, 3) := by decide +kernel
theorem dX7_gateMark_4 : decode cX7_gateMark 4 = .ok (.iload_n 1, 1) := by decide +kernel
theorem dX7_gateMark_5 : decode cX7_gateMark 5 = .ok (.iaload, 1) := by decide +kernel
theorem dX7_gateMark_6 : decode cX7_gateMark 6 = .ok (.iconst 3, 1) := by decide +kernel
theorem dX7_gateMark_7 : decode cX7_gateMark 7 = .ok (.if_icmp .ne 19, 3) := by decide +kernel
theorem dX7_gateMark_10 : decode cX7_gateMark 10 = .ok (.aload_n 0, 1) := by decide +kernel
theorem dX7_gateMark_11 : decode cX7_gateMark 11 = .ok (.bipush 22, 2) := by decide +kernel
theorem dX7_gateMark_13 : decode cX7_gateMark 13 = .ok (.invokevirtual 262, 3) := by decide +kernel
theorem dX7_gateMark_16 : decode cX7_gateMark 16 = .ok (.aload_n 0, 1) := by decide +kernel
theorem dX7_gateMark_17 : decode cX7_gateMark 17 = .ok (.iload_n 1, 1) := by decide +kernel
theorem dX7_gateMark_18 : decode cX7_gateMark 18 = .ok (.invokevirtual 268, 3) := by decide +kernel
theorem dX7_gateMark_21 : decode cX7_gateMark 21 = .ok (.sipush 1000, 3) := by decide +kernel
theorem dX7_gateMark_24 : decode cX7_gateMark 24 = .ok (.isub, 1) := by decide +kernel
theorem dX7_gateMark_25 : decode cX7_gateMark 25 = .ok (.ireturn, 1) := by decide +kernel
theorem dX7_gateMark_26 : decode cX7_gateMark 26 = .ok (.aload_n 0, 1) := by decide +kernel
theorem dX7_gateMark_27 : decode cX7_gateMark 27 = .ok (.getfield 22, 3) := by decide +kernel
theorem dX7_gateMark_30 : decode cX7_gateMark 30 = .ok (.iload_n 1, 1) := by decide +kernel
theorem dX7_gateMark_31 : decode cX7_gateMark 31 = .ok (.iaload, 1) := by decide +kernel
theorem dX7_gateMark_32 : decode cX7_gateMark 32 = .ok (.iconst 2, 1) := by decide +kernel
theorem dX7_gateMark_33 : decode cX7_gateMark 33 = .ok (.if_icmp .ne 17, 3) := by decide +kernel
theorem dX7_gateMark_36 : decode cX7_gateMark 36 = .ok (.aload_n 0, 1) := by decide +kernel
theorem dX7_gateMark_37 : decode cX7_gateMark 37 = .ok (.bipush 24, 2) := by decide +kernel
theorem dX7_gateMark_39 : decode cX7_gateMark 39 = .ok (.invokevirtual 262, 3) := by decide +kernel
theorem dX7_gateMark_42 : decode cX7_gateMark 42 = .ok (.iconst 2, 1) := by decide +kernel
theorem dX7_gateMark_43 : decode cX7_gateMark 43 = .ok (.aload_n 0, 1) := by decide +kernel
theorem dX7_gateMark_44 : decode cX7_gateMark 44 = .ok (.iload_n 1, 1) := by decide +kernel
theorem dX7_gateMark_45 : decode cX7_gateMark 45 = .ok (.invokevirtual 268, 3) := by decide +kernel
theorem dX7_gateMark_48 : decode cX7_gateMark 48 = .ok (.imul, 1) := by decide +kernel
theorem dX7_gateMark_49 : decode cX7_gateMark 49 = .ok (.ireturn, 1) := by decide +kernel
theorem dX7_gateMark_50 : decode cX7_gateMark 50 = .ok (.aload_n 0, 1) := by decide +kernel
theorem dX7_gateMark_51 : decode cX7_gateMark 51 = .ok (.iload_n 1, 1) := by decide +kernel
theorem dX7_gateMark_52 : decode cX7_gateMark 52 = .ok (.invokevirtual 268, 3) := by decide +kernel
theorem dX7_gateMark_55 : decode cX7_gateMark 55 = .ok (.ireturn, 1) := by decide +kernel
theorem dX7_gateSize_0 : decode cX7_gateSize 0 = .ok (.aload_n 0, 1) := by decide +kernel
theorem dX7_gateSize_1 : decode cX7_gateSize 1 = .ok (.getfield 22, 3) := by decide +kernel
theorem dX7_gateSize_4 : decode cX7_gateSize 4 = .ok (.iload_n 1, 1) := by decide +kernel
theorem dX7_gateSize_5 : decode cX7_gateSize 5 = .ok (.iaload, 1) := by decide +kernel
theorem dX7_gateSize_6 : decode cX7_gateSize 6 = .ok (.iconst 2, 1) := by decide +kernel
theorem dX7_gateSize_7 : decode cX7_gateSize 7 = .ok (.if_icmp .ne 9, 3) := by decide +kernel
theorem dX7_gateSize_10 : decode cX7_gateSize 10 = .ok (.aload_n 0, 1) := by decide +kernel
theorem dX7_gateSize_11 : decode cX7_gateSize 11 = .ok (.bipush 12, 2) := by decide +kernel
theorem dX7_gateSize_13 : decode cX7_gateSize 13 = .ok (.invokevirtual 262, 3) := by decide +kernel
theorem dX7_gateSize_16 : decode cX7_gateSize 16 = .ok (.aload_n 0, 1) := by decide +kernel
theorem dX7_gateSize_17 : decode cX7_gateSize 17 = .ok (.bipush 11, 2) := by decide +kernel
theorem dX7_gateSize_19 : decode cX7_gateSize 19 = .ok (.invokevirtual 262, 3) := by decide +kernel
theorem dX7_gateSize_22 : decode cX7_gateSize 22 = .ok (.aload_n 0, 1) := by decide +kernel
theorem dX7_gateSize_23 : decode cX7_gateSize 23 = .ok (.iload_n 1, 1) := by decide +kernel
theorem dX7_gateSize_24 : decode cX7_gateSize 24 = .ok (.invokevirtual 271, 3) := by decide +kernel
theorem dX7_gateSize_27 : decode cX7_gateSize 27 = .ok (.aload_n 0, 1) := by decide +kernel
theorem dX7_gateSize_28 : decode cX7_gateSize 28 = .ok (.iload_n 1, 1) := by decide +kernel
theorem dX7_gateSize_29 : decode cX7_gateSize 29 = .ok (.invokevirtual 274, 3) := by decide +kernel
theorem dX7_gateSize_32 : decode cX7_gateSize 32 = .ok (.iadd, 1) := by decide +kernel
theorem dX7_gateSize_33 : decode cX7_gateSize 33 = .ok (.istore_n 2, 1) := by decide +kernel
theorem dX7_gateSize_34 : decode cX7_gateSize 34 = .ok (.aload_n 0, 1) := by decide +kernel
theorem dX7_gateSize_35 : decode cX7_gateSize 35 = .ok (.getfield 22, 3) := by decide +kernel
theorem dX7_gateSize_38 : decode cX7_gateSize 38 = .ok (.iload_n 1, 1) := by decide +kernel
theorem dX7_gateSize_39 : decode cX7_gateSize 39 = .ok (.iaload, 1) := by decide +kernel
theorem dX7_gateSize_40 : decode cX7_gateSize 40 = .ok (.iconst 2, 1) := by decide +kernel
theorem dX7_gateSize_41 : decode cX7_gateSize 41 = .ok (.if_icmp .ne 8, 3) := by decide +kernel
theorem dX7_gateSize_44 : decode cX7_gateSize 44 = .ok (.iload_n 2, 1) := by decide +kernel
theorem dX7_gateSize_45 : decode cX7_gateSize 45 = .ok (.ineg, 1) := by decide +kernel
theorem dX7_gateSize_46 : decode cX7_gateSize 46 = .ok (.goto 4, 3) := by decide +kernel
theorem dX7_gateSize_49 : decode cX7_gateSize 49 = .ok (.iload_n 2, 1) := by decide +kernel
theorem dX7_gateSize_50 : decode cX7_gateSize 50 = .ok (.ireturn, 1) := by decide +kernel
theorem dX7_sillSize_0 : decode cX7_sillSize 0 = .ok (.aload_n 0, 1) := by decide +kernel
theorem dX7_sillSize_1 : decode cX7_sillSize 1 = .ok (.getfield 22, 3) := by decide +kernel
theorem dX7_sillSize_4 : decode cX7_sillSize 4 = .ok (.iload_n 1, 1) := by decide +kernel
theorem dX7_sillSize_5 : decode cX7_sillSize 5 = .ok (.iaload, 1) := by decide +kernel
theorem dX7_sillSize_6 : decode cX7_sillSize 6 = .ok (.iconst 5, 1) := by decide +kernel
theorem dX7_sillSize_7 : decode cX7_sillSize 7 = .ok (.if_icmp .ne 9, 3) := by decide +kernel
theorem dX7_sillSize_10 : decode cX7_sillSize 10 = .ok (.aload_n 0, 1) := by decide +kernel
theorem dX7_sillSize_11 : decode cX7_sillSize 11 = .ok (.bipush 14, 2) := by decide +kernel
theorem dX7_sillSize_13 : decode cX7_sillSize 13 = .ok (.invokevirtual 262, 3) := by decide +kernel
theorem dX7_sillSize_16 : decode cX7_sillSize 16 = .ok (.aload_n 0, 1) := by decide +kernel
theorem dX7_sillSize_17 : decode cX7_sillSize 17 = .ok (.bipush 13, 2) := by decide +kernel
theorem dX7_sillSize_19 : decode cX7_sillSize 19 = .ok (.invokevirtual 262, 3) := by decide +kernel
theorem dX7_sillSize_22 : decode cX7_sillSize 22 = .ok (.aload_n 0, 1) := by decide +kernel
theorem dX7_sillSize_23 : decode cX7_sillSize 23 = .ok (.iload_n 1, 1) := by decide +kernel
theorem dX7_sillSize_24 : decode cX7_sillSize 24 = .ok (.invokevirtual 271, 3) := by decide +kernel
theorem dX7_sillSize_27 : decode cX7_sillSize 27 = .ok (.bipush 100, 2) := by decide +kernel
theorem dX7_sillSize_29 : decode cX7_sillSize 29 = .ok (.isub, 1) := by decide +kernel
theorem dX7_sillSize_30 : decode cX7_sillSize 30 = .ok (.istore_n 2, 1) := by decide +kernel
theorem dX7_sillSize_31 : decode cX7_sillSize 31 = .ok (.aload_n 0, 1) := by decide +kernel
theorem dX7_sillSize_32 : decode cX7_sillSize 32 = .ok (.getfield 22, 3) := by decide +kernel
theorem dX7_sillSize_35 : decode cX7_sillSize 35 = .ok (.iload_n 1, 1) := by decide +kernel
theorem dX7_sillSize_36 : decode cX7_sillSize 36 = .ok (.iaload, 1) := by decide +kernel
theorem dX7_sillSize_37 : decode cX7_sillSize 37 = .ok (.iconst 5, 1) := by decide +kernel
theorem dX7_sillSize_38 : decode cX7_sillSize 38 = .ok (.if_icmp .ne 9, 3) := by decide +kernel
theorem dX7_sillSize_41 : decode cX7_sillSize 41 = .ok (.iconst 2, 1) := by decide +kernel
theorem dX7_sillSize_42 : decode cX7_sillSize 42 = .ok (.iload_n 2, 1) := by decide +kernel
theorem dX7_sillSize_43 : decode cX7_sillSize 43 = .ok (.imul, 1) := by decide +kernel
theorem dX7_sillSize_44 : decode cX7_sillSize 44 = .ok (.goto 4, 3) := by decide +kernel
theorem dX7_sillSize_47 : decode cX7_sillSize 47 = .ok (.iload_n 2, 1) := by decide +kernel
theorem dX7_sillSize_48 : decode cX7_sillSize 48 = .ok (.ireturn, 1) := by decide +kernel
theorem dX7_sillMark_0 : decode cX7_sillMark 0 = .ok (.aload_n 0, 1) := by decide +kernel
theorem dX7_sillMark_1 : decode cX7_sillMark 1 = .ok (.bipush 23, 2) := by decide +kernel
theorem dX7_sillMark_3 : decode cX7_sillMark 3 = .ok (.invokevirtual 262, 3) := by decide +kernel
theorem dX7_sillMark_6 : decode cX7_sillMark 6 = .ok (.aload_n 0, 1) := by decide +kernel
theorem dX7_sillMark_7 : decode cX7_sillMark 7 = .ok (.iload_n 1, 1) := by decide +kernel
theorem dX7_sillMark_8 : decode cX7_sillMark 8 = .ok (.invokevirtual 265, 3) := by decide +kernel
theorem dX7_sillMark_11 : decode cX7_sillMark 11 = .ok (.istore_n 2, 1) := by decide +kernel
theorem dX7_sillMark_12 : decode cX7_sillMark 12 = .ok (.iload_n 2, 1) := by decide +kernel
theorem dX7_sillMark_13 : decode cX7_sillMark 13 = .ok (.aload_n 0, 1) := by decide +kernel
theorem dX7_sillMark_14 : decode cX7_sillMark 14 = .ok (.iload_n 1, 1) := by decide +kernel
theorem dX7_sillMark_15 : decode cX7_sillMark 15 = .ok (.invokevirtual 277, 3) := by decide +kernel
theorem dX7_sillMark_18 : decode cX7_sillMark 18 = .ok (.isub, 1) := by decide +kernel
theorem dX7_sillMark_19 : decode cX7_sillMark 19 = .ok (.ireturn, 1) := by decide +kernel
theorem dX7_ask_0 : decode cX7_ask 0 = .ok (.aload_n 0, 1) := by decide +kernel
theorem dX7_ask_1 : decode cX7_ask 1 = .ok (.iload_n 1, 1) := by decide +kernel
theorem dX7_ask_2 : decode cX7_ask 2 = .ok (.invokevirtual 189, 3) := by decide +kernel
theorem dX7_ask_5 : decode cX7_ask 5 = .ok (.ifCond .eq 12, 3) := by decide +kernel
theorem dX7_ask_8 : decode cX7_ask 8 = .ok (.iload_n 2, 1) := by decide +kernel
theorem dX7_ask_9 : decode cX7_ask 9 = .ok (.iconst 0, 1) := by decide +kernel
theorem dX7_ask_10 : decode cX7_ask 10 = .ok (.iconst 1, 1) := by decide +kernel
theorem dX7_ask_11 : decode cX7_ask 11 = .ok (.invokestatic 70, 3) := by decide +kernel
theorem dX7_ask_14 : decode cX7_ask 14 = .ok (.ifCond .ne 6, 3) := by decide +kernel
theorem dX7_ask_17 : decode cX7_ask 17 = .ok (.ldc 84, 2) := by decide +kernel
theorem dX7_ask_19 : decode cX7_ask 19 = .ok (.ireturn, 1) := by decide +kernel
theorem dX7_ask_20 : decode cX7_ask 20 = .ok (.aload_n 0, 1) := by decide +kernel
theorem dX7_ask_21 : decode cX7_ask 21 = .ok (.iconst 0, 1) := by decide +kernel
theorem dX7_ask_22 : decode cX7_ask 22 = .ok (.putfield 259, 3) := by decide +kernel
theorem dX7_ask_25 : decode cX7_ask 25 = .ok (.aload_n 0, 1) := by decide +kernel
theorem dX7_ask_26 : decode cX7_ask 26 = .ok (.getfield 22, 3) := by decide +kernel
theorem dX7_ask_29 : decode cX7_ask 29 = .ok (.iload_n 1, 1) := by decide +kernel
theorem dX7_ask_30 : decode cX7_ask 30 = .ok (.iaload, 1) := by decide +kernel
theorem dX7_ask_31 : decode cX7_ask 31 = .ok (.iconst 4, 1) := by decide +kernel
theorem dX7_ask_32 : decode cX7_ask 32 = .ok (.if_icmp .ge 21, 3) := by decide +kernel
theorem dX7_ask_35 : decode cX7_ask 35 = .ok (.iload_n 2, 1) := by decide +kernel
theorem dX7_ask_36 : decode cX7_ask 36 = .ok (.ifCond .ne 11, 3) := by decide +kernel
theorem dX7_ask_39 : decode cX7_ask 39 = .ok (.aload_n 0, 1) := by decide +kernel
theorem dX7_ask_40 : decode cX7_ask 40 = .ok (.iload_n 1, 1) := by decide +kernel
theorem dX7_ask_41 : decode cX7_ask 41 = .ok (.invokevirtual 280, 3) := by decide +kernel
theorem dX7_ask_44 : decode cX7_ask 44 = .ok (.goto 8, 3) := by decide +kernel
theorem dX7_ask_47 : decode cX7_ask 47 = .ok (.aload_n 0, 1) := by decide +kernel
theorem dX7_ask_48 : decode cX7_ask 48 = .ok (.iload_n 1, 1) := by decide +kernel
theorem dX7_ask_49 : decode cX7_ask 49 = .ok (.invokevirtual 274, 3) := by decide +kernel
theorem dX7_ask_52 : decode cX7_ask 52 = .ok (.ireturn, 1) := by decide +kernel
theorem dX7_ask_53 : decode cX7_ask 53 = .ok (.iload_n 2, 1) := by decide +kernel
theorem dX7_ask_54 : decode cX7_ask 54 = .ok (.ifCond .ne 11, 3) := by decide +kernel
theorem dX7_ask_57 : decode cX7_ask 57 = .ok (.aload_n 0, 1) := by decide +kernel
theorem dX7_ask_58 : decode cX7_ask 58 = .ok (.iload_n 1, 1) := by decide +kernel
theorem dX7_ask_59 : decode cX7_ask 59 = .ok (.invokevirtual 277, 3) := by decide +kernel
theorem dX7_ask_62 : decode cX7_ask 62 = .ok (.goto 8, 3) := by decide +kernel
theorem dX7_ask_65 : decode cX7_ask 65 = .ok (.aload_n 0, 1) := by decide +kernel
theorem dX7_ask_66 : decode cX7_ask 66 = .ok (.iload_n 1, 1) := by decide +kernel
theorem dX7_ask_67 : decode cX7_ask 67 = .ok (.invokevirtual 283, 3) := by decide +kernel
theorem dX7_ask_70 : decode cX7_ask 70 = .ok (.ireturn, 1) := by decide +kernel
theorem dX7_trace_0 : decode cX7_trace 0 = .ok (.iload_n 1, 1) := by decide +kernel
theorem dX7_trace_1 : decode cX7_trace 1 = .ok (.iconst 0, 1) := by decide +kernel
theorem dX7_trace_2 : decode cX7_trace 2 = .ok (.aload_n 0, 1) := by decide +kernel
theorem dX7_trace_3 : decode cX7_trace 3 = .ok (.getfield 259, 3) := by decide +kernel
theorem dX7_trace_6 : decode cX7_trace 6 = .ok (.iconst 1, 1) := by decide +kernel
theorem dX7_trace_7 : decode cX7_trace 7 = .ok (.isub, 1) := by decide +kernel
theorem dX7_trace_8 : decode cX7_trace 8 = .ok (.invokestatic 70, 3) := by decide +kernel
theorem dX7_trace_11 : decode cX7_trace 11 = .ok (.ifCond .eq 12, 3) := by decide +kernel
theorem dX7_trace_14 : decode cX7_trace 14 = .ok (.aload_n 0, 1) := by decide +kernel
theorem dX7_trace_15 : decode cX7_trace 15 = .ok (.getfield 44, 3) := by decide +kernel
theorem dX7_trace_18 : decode cX7_trace 18 = .ok (.iload_n 1, 1) := by decide +kernel
theorem dX7_trace_19 : decode cX7_trace 19 = .ok (.iaload, 1) := by decide +kernel
theorem dX7_trace_20 : decode cX7_trace 20 = .ok (.goto 5, 3) := by decide +kernel
theorem dX7_trace_23 : decode cX7_trace 23 = .ok (.ldc 135, 2) := by decide +kernel
theorem dX7_trace_25 : decode cX7_trace 25 = .ok (.ireturn, 1) := by decide +kernel
theorem dX7_rowsThere_0 : decode cX7_rowsThere 0 = .ok (.iconst 0, 1) := by decide +kernel
theorem dX7_rowsThere_1 : decode cX7_rowsThere 1 = .ok (.istore_n 1, 1) := by decide +kernel
theorem dX7_rowsThere_2 : decode cX7_rowsThere 2 = .ok (.iconst 0, 1) := by decide +kernel
theorem dX7_rowsThere_3 : decode cX7_rowsThere 3 = .ok (.istore_n 2, 1) := by decide +kernel
theorem dX7_rowsThere_4 : decode cX7_rowsThere 4 = .ok (.iload_n 2, 1) := by decide +kernel
theorem dX7_rowsThere_5 : decode cX7_rowsThere 5 = .ok (.bipush 8, 2) := by decide +kernel
theorem dX7_rowsThere_7 : decode cX7_rowsThere 7 = .ok (.if_icmp .ge 26, 3) := by decide +kernel
theorem dX7_rowsThere_10 : decode cX7_rowsThere 10 = .ok (.iload_n 1, 1) := by decide +kernel
theorem dX7_rowsThere_11 : decode cX7_rowsThere 11 = .ok (.aload_n 0, 1) := by decide +kernel
theorem dX7_rowsThere_12 : decode cX7_rowsThere 12 = .ok (.getfield 13, 3) := by decide +kernel
theorem dX7_rowsThere_15 : decode cX7_rowsThere 15 = .ok (.iload_n 2, 1) := by decide +kernel
theorem dX7_rowsThere_16 : decode cX7_rowsThere 16 = .ok (.iaload, 1) := by decide +kernel
theorem dX7_rowsThere_17 : decode cX7_rowsThere 17 = .ok (.ifCond .ge 7, 3) := by decide +kernel
theorem dX7_rowsThere_20 : decode cX7_rowsThere 20 = .ok (.iconst 0, 1) := by decide +kernel
theorem dX7_rowsThere_21 : decode cX7_rowsThere 21 = .ok (.goto 4, 3) := by decide +kernel
theorem dX7_rowsThere_24 : decode cX7_rowsThere 24 = .ok (.iconst 1, 1) := by decide +kernel
theorem dX7_rowsThere_25 : decode cX7_rowsThere 25 = .ok (.iadd, 1) := by decide +kernel
theorem dX7_rowsThere_26 : decode cX7_rowsThere 26 = .ok (.istore_n 1, 1) := by decide +kernel
theorem dX7_rowsThere_27 : decode cX7_rowsThere 27 = .ok (.iinc 2 1, 3) := by decide +kernel
theorem dX7_rowsThere_30 : decode cX7_rowsThere 30 = .ok (.goto (-26), 3) := by decide +kernel
theorem dX7_rowsThere_33 : decode cX7_rowsThere 33 = .ok (.iload_n 1, 1) := by decide +kernel
theorem dX7_rowsThere_34 : decode cX7_rowsThere 34 = .ok (.ireturn, 1) := by decide +kernel
theorem dX7_count_0 : decode cX7_count 0 = .ok (.iload_n 1, 1) := by decide +kernel
theorem dX7_count_1 : decode cX7_count 1 = .ok (.tableswitch 99 0 7 #[47, 52, 57, 62, 69, 84, 89, 94], 47) := by decide +kernel
theorem dX7_count_48 : decode cX7_count 48 = .ok (.aload_n 0, 1) := by decide +kernel
theorem dX7_count_49 : decode cX7_count 49 = .ok (.invokevirtual 286, 3) := by decide +kernel
theorem dX7_count_52 : decode cX7_count 52 = .ok (.ireturn, 1) := by decide +kernel
theorem dX7_count_53 : decode cX7_count 53 = .ok (.aload_n 0, 1) := by decide +kernel
theorem dX7_count_54 : decode cX7_count 54 = .ok (.getfield 77, 3) := by decide +kernel
theorem dX7_count_57 : decode cX7_count 57 = .ok (.ireturn, 1) := by decide +kernel
theorem dX7_count_58 : decode cX7_count 58 = .ok (.aload_n 0, 1) := by decide +kernel
theorem dX7_count_59 : decode cX7_count 59 = .ok (.getfield 74, 3) := by decide +kernel
theorem dX7_count_62 : decode cX7_count 62 = .ok (.ireturn, 1) := by decide +kernel
theorem dX7_count_63 : decode cX7_count 63 = .ok (.aload_n 0, 1) := by decide +kernel
theorem dX7_count_64 : decode cX7_count 64 = .ok (.getfield 25, 3) := by decide +kernel
theorem dX7_count_67 : decode cX7_count 67 = .ok (.iconst 0, 1) := by decide +kernel
theorem dX7_count_68 : decode cX7_count 68 = .ok (.iaload, 1) := by decide +kernel
theorem dX7_count_69 : decode cX7_count 69 = .ok (.ireturn, 1) := by decide +kernel
theorem dX7_count_70 : decode cX7_count 70 = .ok (.aload_n 0, 1) := by decide +kernel
theorem dX7_count_71 : decode cX7_count 71 = .ok (.aload_n 0, 1) := by decide +kernel
theorem dX7_count_72 : decode cX7_count 72 = .ok (.getfield 25, 3) := by decide +kernel
theorem dX7_count_75 : decode cX7_count 75 = .ok (.iconst 0, 1) := by decide +kernel
theorem dX7_count_76 : decode cX7_count 76 = .ok (.bipush 7, 2) := by decide +kernel
theorem dX7_count_78 : decode cX7_count 78 = .ok (.invokevirtual 185, 3) := by decide +kernel
theorem dX7_count_81 : decode cX7_count 81 = .ok (.invokestatic 217, 3) := by decide +kernel
theorem dX7_count_84 : decode cX7_count 84 = .ok (.ireturn, 1) := by decide +kernel
theorem dX7_count_85 : decode cX7_count 85 = .ok (.aload_n 0, 1) := by decide +kernel
theorem dX7_count_86 : decode cX7_count 86 = .ok (.invokevirtual 226, 3) := by decide +kernel
theorem dX7_count_89 : decode cX7_count 89 = .ok (.ireturn, 1) := by decide +kernel
theorem dX7_count_90 : decode cX7_count 90 = .ok (.aload_n 0, 1) := by decide +kernel
theorem dX7_count_91 : decode cX7_count 91 = .ok (.getfield 159, 3) := by decide +kernel
theorem dX7_count_94 : decode cX7_count 94 = .ok (.ireturn, 1) := by decide +kernel
theorem dX7_count_95 : decode cX7_count 95 = .ok (.aload_n 0, 1) := by decide +kernel
theorem dX7_count_96 : decode cX7_count 96 = .ok (.getfield 96, 3) := by decide +kernel
theorem dX7_count_99 : decode cX7_count 99 = .ok (.ireturn, 1) := by decide +kernel
theorem dX7_count_100 : decode cX7_count 100 = .ok (.ldc 84, 2) := by decide +kernel
theorem dX7_count_102 : decode cX7_count 102 = .ok (.ireturn, 1) := by decide +kernel
theorem dX7_status_0 : decode cX7_status 0 = .ok (.aload_n 0, 1) := by decide +kernel
theorem dX7_status_1 : decode cX7_status 1 = .ok (.getfield 65, 3) := by decide +kernel
theorem dX7_status_4 : decode cX7_status 4 = .ok (.ireturn, 1) := by decide +kernel
theorem dJ6_bitCount_0f7a4_0 : decode cJ6_bitCount_0f7a4 0 = .ok (.iload_n 0, 1) := by decide +kernel
theorem dJ6_bitCount_0f7a4_1 : decode cJ6_bitCount_0f7a4 1 = .ok (.iload_n 0, 1) := by decide +kernel
theorem dJ6_bitCount_0f7a4_2 : decode cJ6_bitCount_0f7a4 2 = .ok (.iconst 1, 1) := by decide +kernel
theorem dJ6_bitCount_0f7a4_3 : decode cJ6_bitCount_0f7a4 3 = .ok (.iushr, 1) := by decide +kernel
theorem dJ6_bitCount_0f7a4_4 : decode cJ6_bitCount_0f7a4 4 = .ok (.ldc_w 265, 3) := by decide +kernel
theorem dJ6_bitCount_0f7a4_7 : decode cJ6_bitCount_0f7a4 7 = .ok (.iand, 1) := by decide +kernel
theorem dJ6_bitCount_0f7a4_8 : decode cJ6_bitCount_0f7a4 8 = .ok (.isub, 1) := by decide +kernel
theorem dJ6_bitCount_0f7a4_9 : decode cJ6_bitCount_0f7a4 9 = .ok (.istore_n 0, 1) := by decide +kernel
theorem dJ6_bitCount_0f7a4_10 : decode cJ6_bitCount_0f7a4 10 = .ok (.iload_n 0, 1) := by decide +kernel
theorem dJ6_bitCount_0f7a4_11 : decode cJ6_bitCount_0f7a4 11 = .ok (.ldc_w 266, 3) := by decide +kernel
theorem dJ6_bitCount_0f7a4_14 : decode cJ6_bitCount_0f7a4 14 = .ok (.iand, 1) := by decide +kernel
theorem dJ6_bitCount_0f7a4_15 : decode cJ6_bitCount_0f7a4 15 = .ok (.iload_n 0, 1) := by decide +kernel
theorem dJ6_bitCount_0f7a4_16 : decode cJ6_bitCount_0f7a4 16 = .ok (.iconst 2, 1) := by decide +kernel
theorem dJ6_bitCount_0f7a4_17 : decode cJ6_bitCount_0f7a4 17 = .ok (.iushr, 1) := by decide +kernel
theorem dJ6_bitCount_0f7a4_18 : decode cJ6_bitCount_0f7a4 18 = .ok (.ldc_w 266, 3) := by decide +kernel
theorem dJ6_bitCount_0f7a4_21 : decode cJ6_bitCount_0f7a4 21 = .ok (.iand, 1) := by decide +kernel
theorem dJ6_bitCount_0f7a4_22 : decode cJ6_bitCount_0f7a4 22 = .ok (.iadd, 1) := by decide +kernel
theorem dJ6_bitCount_0f7a4_23 : decode cJ6_bitCount_0f7a4 23 = .ok (.istore_n 0, 1) := by decide +kernel
theorem dJ6_bitCount_0f7a4_24 : decode cJ6_bitCount_0f7a4 24 = .ok (.iload_n 0, 1) := by decide +kernel
theorem dJ6_bitCount_0f7a4_25 : decode cJ6_bitCount_0f7a4 25 = .ok (.iload_n 0, 1) := by decide +kernel
theorem dJ6_bitCount_0f7a4_26 : decode cJ6_bitCount_0f7a4 26 = .ok (.iconst 4, 1) := by decide +kernel
theorem dJ6_bitCount_0f7a4_27 : decode cJ6_bitCount_0f7a4 27 = .ok (.iushr, 1) := by decide +kernel
theorem dJ6_bitCount_0f7a4_28 : decode cJ6_bitCount_0f7a4 28 = .ok (.iadd, 1) := by decide +kernel
theorem dJ6_bitCount_0f7a4_29 : decode cJ6_bitCount_0f7a4 29 = .ok (.ldc_w 267, 3) := by decide +kernel
theorem dJ6_bitCount_0f7a4_32 : decode cJ6_bitCount_0f7a4 32 = .ok (.iand, 1) := by decide +kernel
theorem dJ6_bitCount_0f7a4_33 : decode cJ6_bitCount_0f7a4 33 = .ok (.istore_n 0, 1) := by decide +kernel
theorem dJ6_bitCount_0f7a4_34 : decode cJ6_bitCount_0f7a4 34 = .ok (.iload_n 0, 1) := by decide +kernel
theorem dJ6_bitCount_0f7a4_35 : decode cJ6_bitCount_0f7a4 35 = .ok (.iload_n 0, 1) := by decide +kernel
theorem dJ6_bitCount_0f7a4_36 : decode cJ6_bitCount_0f7a4 36 = .ok (.bipush 8, 2) := by decide +kernel
theorem dJ6_bitCount_0f7a4_38 : decode cJ6_bitCount_0f7a4 38 = .ok (.iushr, 1) := by decide +kernel
theorem dJ6_bitCount_0f7a4_39 : decode cJ6_bitCount_0f7a4 39 = .ok (.iadd, 1) := by decide +kernel
theorem dJ6_bitCount_0f7a4_40 : decode cJ6_bitCount_0f7a4 40 = .ok (.istore_n 0, 1) := by decide +kernel
theorem dJ6_bitCount_0f7a4_41 : decode cJ6_bitCount_0f7a4 41 = .ok (.iload_n 0, 1) := by decide +kernel
theorem dJ6_bitCount_0f7a4_42 : decode cJ6_bitCount_0f7a4 42 = .ok (.iload_n 0, 1) := by decide +kernel
theorem dJ6_bitCount_0f7a4_43 : decode cJ6_bitCount_0f7a4 43 = .ok (.bipush 16, 2) := by decide +kernel
theorem dJ6_bitCount_0f7a4_45 : decode cJ6_bitCount_0f7a4 45 = .ok (.iushr, 1) := by decide +kernel
theorem dJ6_bitCount_0f7a4_46 : decode cJ6_bitCount_0f7a4 46 = .ok (.iadd, 1) := by decide +kernel
theorem dJ6_bitCount_0f7a4_47 : decode cJ6_bitCount_0f7a4 47 = .ok (.istore_n 0, 1) := by decide +kernel
theorem dJ6_bitCount_0f7a4_48 : decode cJ6_bitCount_0f7a4 48 = .ok (.iload_n 0, 1) := by decide +kernel
theorem dJ6_bitCount_0f7a4_49 : decode cJ6_bitCount_0f7a4 49 = .ok (.bipush 63, 2) := by decide +kernel
theorem dJ6_bitCount_0f7a4_51 : decode cJ6_bitCount_0f7a4 51 = .ok (.iand, 1) := by decide +kernel
theorem dJ6_bitCount_0f7a4_52 : decode cJ6_bitCount_0f7a4 52 = .ok (.ireturn, 1) := by decide +kernel
theorem dJ9_max_7cf53_0 : decode cJ9_max_7cf53 0 = .ok (.iload_n 0, 1) := by decide +kernel
theorem dJ9_max_7cf53_1 : decode cJ9_max_7cf53 1 = .ok (.iload_n 1, 1) := by decide +kernel
theorem dJ9_max_7cf53_2 : decode cJ9_max_7cf53 2 = .ok (.if_icmp .lt 7, 3) := by decide +kernel
theorem dJ9_max_7cf53_5 : decode cJ9_max_7cf53 5 = .ok (.iload_n 0, 1) := by decide +kernel
theorem dJ9_max_7cf53_6 : decode cJ9_max_7cf53 6 = .ok (.goto 4, 3) := by decide +kernel
theorem dJ9_max_7cf53_9 : decode cJ9_max_7cf53 9 = .ok (.iload_n 1, 1) := by decide +kernel
theorem dJ9_max_7cf53_10 : decode cJ9_max_7cf53 10 = .ok (.ireturn, 1) := by decide +kernel
theorem dJ9_min_7cf53_0 : decode cJ9_min_7cf53 0 = .ok (.iload_n 0, 1) := by decide +kernel
theorem dJ9_min_7cf53_1 : decode cJ9_min_7cf53 1 = .ok (.iload_n 1, 1) := by decide +kernel
theorem dJ9_min_7cf53_2 : decode cJ9_min_7cf53 2 = .ok (.if_icmp .gt 7, 3) := by decide +kernel
theorem dJ9_min_7cf53_5 : decode cJ9_min_7cf53 5 = .ok (.iload_n 0, 1) := by decide +kernel
theorem dJ9_min_7cf53_6 : decode cJ9_min_7cf53 6 = .ok (.goto 4, 3) := by decide +kernel
theorem dJ9_min_7cf53_9 : decode cJ9_min_7cf53 9 = .ok (.iload_n 1, 1) := by decide +kernel
theorem dJ9_min_7cf53_10 : decode cJ9_min_7cf53 10 = .ok (.ireturn, 1) := by decide +kernel
theorem dJ7_fill_53178_0 : decode cJ7_fill_53178 0 = .ok (.iconst 0, 1) := by decide +kernel
theorem dJ7_fill_53178_1 : decode cJ7_fill_53178 1 = .ok (.istore_n 2, 1) := by decide +kernel
theorem dJ7_fill_53178_2 : decode cJ7_fill_53178 2 = .ok (.aload_n 0, 1) := by decide +kernel
theorem dJ7_fill_53178_3 : decode cJ7_fill_53178 3 = .ok (.arraylength, 1) := by decide +kernel
theorem dJ7_fill_53178_4 : decode cJ7_fill_53178 4 = .ok (.istore_n 3, 1) := by decide +kernel
theorem dJ7_fill_53178_5 : decode cJ7_fill_53178 5 = .ok (.iload_n 2, 1) := by decide +kernel
theorem dJ7_fill_53178_6 : decode cJ7_fill_53178 6 = .ok (.iload_n 3, 1) := by decide +kernel
theorem dJ7_fill_53178_7 : decode cJ7_fill_53178 7 = .ok (.if_icmp .ge 13, 3) := by decide +kernel
theorem dJ7_fill_53178_10 : decode cJ7_fill_53178 10 = .ok (.aload_n 0, 1) := by decide +kernel
theorem dJ7_fill_53178_11 : decode cJ7_fill_53178 11 = .ok (.iload_n 2, 1) := by decide +kernel
theorem dJ7_fill_53178_12 : decode cJ7_fill_53178 12 = .ok (.iload_n 1, 1) := by decide +kernel
theorem dJ7_fill_53178_13 : decode cJ7_fill_53178 13 = .ok (.iastore, 1) := by decide +kernel
theorem dJ7_fill_53178_14 : decode cJ7_fill_53178 14 = .ok (.iinc 2 1, 3) := by decide +kernel
theorem dJ7_fill_53178_17 : decode cJ7_fill_53178 17 = .ok (.goto (-12), 3) := by decide +kernel
theorem dJ7_fill_53178_20 : decode cJ7_fill_53178 20 = .ok (.return_, 1) := by decide +kernel
theorem dL_law_0 : decode cL_law 0 = .ok (.new 7, 3) := by decide +kernel
theorem dL_law_3 : decode cL_law 3 = .ok (.dup, 1) := by decide +kernel
theorem dL_law_4 : decode cL_law 4 = .ok (.invokespecial 9, 3) := by decide +kernel
theorem dL_law_7 : decode cL_law 7 = .ok (.astore_n 1, 1) := by decide +kernel
theorem dL_law_8 : decode cL_law 8 = .ok (.new 10, 3) := by decide +kernel
theorem dL_law_11 : decode cL_law 11 = .ok (.dup, 1) := by decide +kernel
theorem dL_law_12 : decode cL_law 12 = .ok (.invokespecial 12, 3) := by decide +kernel
theorem dL_law_15 : decode cL_law 15 = .ok (.astore_n 2, 1) := by decide +kernel
theorem dL_law_16 : decode cL_law 16 = .ok (.iconst 0, 1) := by decide +kernel
theorem dL_law_17 : decode cL_law 17 = .ok (.istore_n 3, 1) := by decide +kernel
theorem dL_law_18 : decode cL_law 18 = .ok (.iload_n 3, 1) := by decide +kernel
theorem dL_law_19 : decode cL_law 19 = .ok (.aload_n 0, 1) := by decide +kernel
theorem dL_law_20 : decode cL_law 20 = .ok (.arraylength, 1) := by decide +kernel
theorem dL_law_21 : decode cL_law 21 = .ok (.bipush 6, 2) := by decide +kernel
theorem dL_law_23 : decode cL_law 23 = .ok (.isub, 1) := by decide +kernel
theorem dL_law_24 : decode cL_law 24 = .ok (.if_icmp .gt 1397, 3) := by decide +kernel
theorem dL_law_27 : decode cL_law 27 = .ok (.aload_n 0, 1) := by decide +kernel
theorem dL_law_28 : decode cL_law 28 = .ok (.iload_n 3, 1) := by decide +kernel
theorem dL_law_29 : decode cL_law 29 = .ok (.iaload, 1) := by decide +kernel
theorem dL_law_30 : decode cL_law 30 = .ok (.bipush 63, 2) := by decide +kernel
theorem dL_law_32 : decode cL_law 32 = .ok (.iand, 1) := by decide +kernel
theorem dL_law_33 : decode cL_law 33 = .ok (.tableswitch 1382 0 37 #[167, 210, 253, 316, 339, 362, 375, 388, 401, 424, 447, 490, 523, 556, 589, 612, 645, 688, 721, 744, 757, 790, 823, 866, 899, 932, 965, 1028, 1091, 1145, 1188, 1211, 1234, 1257, 1290, 1323, 1346, 1369], 167) := by decide +kernel
theorem dL_law_200 : decode cL_law 200 = .ok (.aload_n 1, 1) := by decide +kernel
theorem dL_law_201 : decode cL_law 201 = .ok (.aload_n 0, 1) := by decide +kernel
theorem dL_law_202 : decode cL_law 202 = .ok (.iload_n 3, 1) := by decide +kernel
theorem dL_law_203 : decode cL_law 203 = .ok (.iconst 1, 1) := by decide +kernel
theorem dL_law_204 : decode cL_law 204 = .ok (.iadd, 1) := by decide +kernel
theorem dL_law_205 : decode cL_law 205 = .ok (.iaload, 1) := by decide +kernel
theorem dL_law_206 : decode cL_law 206 = .ok (.aload_n 0, 1) := by decide +kernel
theorem dL_law_207 : decode cL_law 207 = .ok (.iload_n 3, 1) := by decide +kernel
theorem dL_law_208 : decode cL_law 208 = .ok (.iconst 2, 1) := by decide +kernel
theorem dL_law_209 : decode cL_law 209 = .ok (.iadd, 1) := by decide +kernel
theorem dL_law_210 : decode cL_law 210 = .ok (.iaload, 1) := by decide +kernel
theorem dL_law_211 : decode cL_law 211 = .ok (.aload_n 0, 1) := by decide +kernel
theorem dL_law_212 : decode cL_law 212 = .ok (.iload_n 3, 1) := by decide +kernel
theorem dL_law_213 : decode cL_law 213 = .ok (.iconst 3, 1) := by decide +kernel
theorem dL_law_214 : decode cL_law 214 = .ok (.iadd, 1) := by decide +kernel
theorem dL_law_215 : decode cL_law 215 = .ok (.iaload, 1) := by decide +kernel
theorem dL_law_216 : decode cL_law 216 = .ok (.invokevirtual 13, 3) := by decide +kernel
theorem dL_law_219 : decode cL_law 219 = .ok (.aload_n 2, 1) := by decide +kernel
theorem dL_law_220 : decode cL_law 220 = .ok (.aload_n 0, 1) := by decide +kernel
theorem dL_law_221 : decode cL_law 221 = .ok (.iload_n 3, 1) := by decide +kernel
theorem dL_law_222 : decode cL_law 222 = .ok (.iconst 1, 1) := by decide +kernel
theorem dL_law_223 : decode cL_law 223 = .ok (.iadd, 1) := by decide +kernel
theorem dL_law_224 : decode cL_law 224 = .ok (.iaload, 1) := by decide +kernel
theorem dL_law_225 : decode cL_law 225 = .ok (.aload_n 0, 1) := by decide +kernel
theorem dL_law_226 : decode cL_law 226 = .ok (.iload_n 3, 1) := by decide +kernel
theorem dL_law_227 : decode cL_law 227 = .ok (.iconst 2, 1) := by decide +kernel
theorem dL_law_228 : decode cL_law 228 = .ok (.iadd, 1) := by decide +kernel
theorem dL_law_229 : decode cL_law 229 = .ok (.iaload, 1) := by decide +kernel
theorem dL_law_230 : decode cL_law 230 = .ok (.aload_n 0, 1) := by decide +kernel
theorem dL_law_231 : decode cL_law 231 = .ok (.iload_n 3, 1) := by decide +kernel
theorem dL_law_232 : decode cL_law 232 = .ok (.iconst 3, 1) := by decide +kernel
theorem dL_law_233 : decode cL_law 233 = .ok (.iadd, 1) := by decide +kernel
theorem dL_law_234 : decode cL_law 234 = .ok (.iaload, 1) := by decide +kernel
theorem dL_law_235 : decode cL_law 235 = .ok (.invokevirtual 17, 3) := by decide +kernel
theorem dL_law_238 : decode cL_law 238 = .ok (.if_icmp .eq 1177, 3) := by decide +kernel
theorem dL_law_241 : decode cL_law 241 = .ok (.iconst 0, 1) := by decide +kernel
theorem dL_law_242 : decode cL_law 242 = .ok (.ireturn, 1) := by decide +kernel
theorem dL_law_243 : decode cL_law 243 = .ok (.aload_n 1, 1) := by decide +kernel
theorem dL_law_244 : decode cL_law 244 = .ok (.aload_n 0, 1) := by decide +kernel
theorem dL_law_245 : decode cL_law 245 = .ok (.iload_n 3, 1) := by decide +kernel
theorem dL_law_246 : decode cL_law 246 = .ok (.iconst 1, 1) := by decide +kernel
theorem dL_law_247 : decode cL_law 247 = .ok (.iadd, 1) := by decide +kernel
theorem dL_law_248 : decode cL_law 248 = .ok (.iaload, 1) := by decide +kernel
theorem dL_law_249 : decode cL_law 249 = .ok (.aload_n 0, 1) := by decide +kernel
theorem dL_law_250 : decode cL_law 250 = .ok (.iload_n 3, 1) := by decide +kernel
theorem dL_law_251 : decode cL_law 251 = .ok (.iconst 2, 1) := by decide +kernel
theorem dL_law_252 : decode cL_law 252 = .ok (.iadd, 1) := by decide +kernel
theorem dL_law_253 : decode cL_law 253 = .ok (.iaload, 1) := by decide +kernel
theorem dL_law_254 : decode cL_law 254 = .ok (.aload_n 0, 1) := by decide +kernel
theorem dL_law_255 : decode cL_law 255 = .ok (.iload_n 3, 1) := by decide +kernel
theorem dL_law_256 : decode cL_law 256 = .ok (.iconst 3, 1) := by decide +kernel
theorem dL_law_257 : decode cL_law 257 = .ok (.iadd, 1) := by decide +kernel
theorem dL_law_258 : decode cL_law 258 = .ok (.iaload, 1) := by decide +kernel
theorem dL_law_259 : decode cL_law 259 = .ok (.invokevirtual 18, 3) := by decide +kernel
theorem dL_law_262 : decode cL_law 262 = .ok (.aload_n 2, 1) := by decide +kernel
theorem dL_law_263 : decode cL_law 263 = .ok (.aload_n 0, 1) := by decide +kernel
theorem dL_law_264 : decode cL_law 264 = .ok (.iload_n 3, 1) := by decide +kernel
theorem dL_law_265 : decode cL_law 265 = .ok (.iconst 1, 1) := by decide +kernel
theorem dL_law_266 : decode cL_law 266 = .ok (.iadd, 1) := by decide +kernel
theorem dL_law_267 : decode cL_law 267 = .ok (.iaload, 1) := by decide +kernel
theorem dL_law_268 : decode cL_law 268 = .ok (.aload_n 0, 1) := by decide +kernel
theorem dL_law_269 : decode cL_law 269 = .ok (.iload_n 3, 1) := by decide +kernel
theorem dL_law_270 : decode cL_law 270 = .ok (.iconst 2, 1) := by decide +kernel
theorem dL_law_271 : decode cL_law 271 = .ok (.iadd, 1) := by decide +kernel
theorem dL_law_272 : decode cL_law 272 = .ok (.iaload, 1) := by decide +kernel
theorem dL_law_273 : decode cL_law 273 = .ok (.aload_n 0, 1) := by decide +kernel
theorem dL_law_274 : decode cL_law 274 = .ok (.iload_n 3, 1) := by decide +kernel
theorem dL_law_275 : decode cL_law 275 = .ok (.iconst 3, 1) := by decide +kernel
theorem dL_law_276 : decode cL_law 276 = .ok (.iadd, 1) := by decide +kernel
theorem dL_law_277 : decode cL_law 277 = .ok (.iaload, 1) := by decide +kernel
theorem dL_law_278 : decode cL_law 278 = .ok (.invokevirtual 21, 3) := by decide +kernel
theorem dL_law_281 : decode cL_law 281 = .ok (.if_icmp .eq 1134, 3) := by decide +kernel
theorem dL_law_284 : decode cL_law 284 = .ok (.iconst 0, 1) := by decide +kernel
theorem dL_law_285 : decode cL_law 285 = .ok (.ireturn, 1) := by decide +kernel
theorem dL_law_286 : decode cL_law 286 = .ok (.aload_n 1, 1) := by decide +kernel
theorem dL_law_287 : decode cL_law 287 = .ok (.aload_n 0, 1) := by decide +kernel
theorem dL_law_288 : decode cL_law 288 = .ok (.iload_n 3, 1) := by decide +kernel
theorem dL_law_289 : decode cL_law 289 = .ok (.iconst 1, 1) := by decide +kernel
theorem dL_law_290 : decode cL_law 290 = .ok (.iadd, 1) := by decide +kernel
theorem dL_law_291 : decode cL_law 291 = .ok (.iaload, 1) := by decide +kernel
theorem dL_law_292 : decode cL_law 292 = .ok (.aload_n 0, 1) := by decide +kernel
theorem dL_law_293 : decode cL_law 293 = .ok (.iload_n 3, 1) := by decide +kernel
theorem dL_law_294 : decode cL_law 294 = .ok (.iconst 2, 1) := by decide +kernel
theorem dL_law_295 : decode cL_law 295 = .ok (.iadd, 1) := by decide +kernel
theorem dL_law_296 : decode cL_law 296 = .ok (.iaload, 1) := by decide +kernel
theorem dL_law_297 : decode cL_law 297 = .ok (.aload_n 0, 1) := by decide +kernel
theorem dL_law_298 : decode cL_law 298 = .ok (.iload_n 3, 1) := by decide +kernel
theorem dL_law_299 : decode cL_law 299 = .ok (.iconst 3, 1) := by decide +kernel
theorem dL_law_300 : decode cL_law 300 = .ok (.iadd, 1) := by decide +kernel
theorem dL_law_301 : decode cL_law 301 = .ok (.iaload, 1) := by decide +kernel
theorem dL_law_302 : decode cL_law 302 = .ok (.aload_n 0, 1) := by decide +kernel
theorem dL_law_303 : decode cL_law 303 = .ok (.iload_n 3, 1) := by decide +kernel
theorem dL_law_304 : decode cL_law 304 = .ok (.iconst 4, 1) := by decide +kernel
theorem dL_law_305 : decode cL_law 305 = .ok (.iadd, 1) := by decide +kernel
theorem dL_law_306 : decode cL_law 306 = .ok (.iaload, 1) := by decide +kernel
theorem dL_law_307 : decode cL_law 307 = .ok (.aload_n 0, 1) := by decide +kernel
theorem dL_law_308 : decode cL_law 308 = .ok (.iload_n 3, 1) := by decide +kernel
theorem dL_law_309 : decode cL_law 309 = .ok (.iconst 5, 1) := by decide +kernel
theorem dL_law_310 : decode cL_law 310 = .ok (.iadd, 1) := by decide +kernel
theorem dL_law_311 : decode cL_law 311 = .ok (.iaload, 1) := by decide +kernel
theorem dL_law_312 : decode cL_law 312 = .ok (.invokevirtual 22, 3) := by decide +kernel
theorem dL_law_315 : decode cL_law 315 = .ok (.aload_n 2, 1) := by decide +kernel
theorem dL_law_316 : decode cL_law 316 = .ok (.aload_n 0, 1) := by decide +kernel
theorem dL_law_317 : decode cL_law 317 = .ok (.iload_n 3, 1) := by decide +kernel
theorem dL_law_318 : decode cL_law 318 = .ok (.iconst 1, 1) := by decide +kernel
theorem dL_law_319 : decode cL_law 319 = .ok (.iadd, 1) := by decide +kernel
theorem dL_law_320 : decode cL_law 320 = .ok (.iaload, 1) := by decide +kernel
theorem dL_law_321 : decode cL_law 321 = .ok (.aload_n 0, 1) := by decide +kernel
theorem dL_law_322 : decode cL_law 322 = .ok (.iload_n 3, 1) := by decide +kernel
theorem dL_law_323 : decode cL_law 323 = .ok (.iconst 2, 1) := by decide +kernel
theorem dL_law_324 : decode cL_law 324 = .ok (.iadd, 1) := by decide +kernel
theorem dL_law_325 : decode cL_law 325 = .ok (.iaload, 1) := by decide +kernel
theorem dL_law_326 : decode cL_law 326 = .ok (.aload_n 0, 1) := by decide +kernel
theorem dL_law_327 : decode cL_law 327 = .ok (.iload_n 3, 1) := by decide +kernel
theorem dL_law_328 : decode cL_law 328 = .ok (.iconst 3, 1) := by decide +kernel
theorem dL_law_329 : decode cL_law 329 = .ok (.iadd, 1) := by decide +kernel
theorem dL_law_330 : decode cL_law 330 = .ok (.iaload, 1) := by decide +kernel
theorem dL_law_331 : decode cL_law 331 = .ok (.aload_n 0, 1) := by decide +kernel
theorem dL_law_332 : decode cL_law 332 = .ok (.iload_n 3, 1) := by decide +kernel
theorem dL_law_333 : decode cL_law 333 = .ok (.iconst 4, 1) := by decide +kernel
theorem dL_law_334 : decode cL_law 334 = .ok (.iadd, 1) := by decide +kernel
theorem dL_law_335 : decode cL_law 335 = .ok (.iaload, 1) := by decide +kernel
theorem dL_law_336 : decode cL_law 336 = .ok (.aload_n 0, 1) := by decide +kernel
theorem dL_law_337 : decode cL_law 337 = .ok (.iload_n 3, 1) := by decide +kernel
theorem dL_law_338 : decode cL_law 338 = .ok (.iconst 5, 1) := by decide +kernel
theorem dL_law_339 : decode cL_law 339 = .ok (.iadd, 1) := by decide +kernel
theorem dL_law_340 : decode cL_law 340 = .ok (.iaload, 1) := by decide +kernel
theorem dL_law_341 : decode cL_law 341 = .ok (.invokevirtual 26, 3) := by decide +kernel
theorem dL_law_344 : decode cL_law 344 = .ok (.if_icmp .eq 1071, 3) := by decide +kernel
theorem dL_law_347 : decode cL_law 347 = .ok (.iconst 0, 1) := by decide +kernel
theorem dL_law_348 : decode cL_law 348 = .ok (.ireturn, 1) := by decide +kernel
theorem dL_law_349 : decode cL_law 349 = .ok (.aload_n 1, 1) := by decide +kernel
theorem dL_law_350 : decode cL_law 350 = .ok (.aload_n 0, 1) := by decide +kernel
theorem dL_law_351 : decode cL_law 351 = .ok (.iload_n 3, 1) := by decide +kernel
theorem dL_law_352 : decode cL_law 352 = .ok (.iconst 1, 1) := by decide +kernel
theorem dL_law_353 : decode cL_law 353 = .ok (.iadd, 1) := by decide +kernel
theorem dL_law_354 : decode cL_law 354 = .ok (.iaload, 1) := by decide +kernel
theorem dL_law_355 : decode cL_law 355 = .ok (.invokevirtual 27, 3) := by decide +kernel
theorem dL_law_358 : decode cL_law 358 = .ok (.aload_n 2, 1) := by decide +kernel
theorem dL_law_359 : decode cL_law 359 = .ok (.aload_n 0, 1) := by decide +kernel
theorem dL_law_360 : decode cL_law 360 = .ok (.iload_n 3, 1) := by decide +kernel
theorem dL_law_361 : decode cL_law 361 = .ok (.iconst 1, 1) := by decide +kernel
theorem dL_law_362 : decode cL_law 362 = .ok (.iadd, 1) := by decide +kernel
theorem dL_law_363 : decode cL_law 363 = .ok (.iaload, 1) := by decide +kernel
theorem dL_law_364 : decode cL_law 364 = .ok (.invokevirtual 31, 3) := by decide +kernel
theorem dL_law_367 : decode cL_law 367 = .ok (.if_icmp .eq 1048, 3) := by decide +kernel
theorem dL_law_370 : decode cL_law 370 = .ok (.iconst 0, 1) := by decide +kernel
theorem dL_law_371 : decode cL_law 371 = .ok (.ireturn, 1) := by decide +kernel
theorem dL_law_372 : decode cL_law 372 = .ok (.aload_n 1, 1) := by decide +kernel
theorem dL_law_373 : decode cL_law 373 = .ok (.aload_n 0, 1) := by decide +kernel
theorem dL_law_374 : decode cL_law 374 = .ok (.iload_n 3, 1) := by decide +kernel
theorem dL_law_375 : decode cL_law 375 = .ok (.iconst 1, 1) := by decide +kernel
theorem dL_law_376 : decode cL_law 376 = .ok (.iadd, 1) := by decide +kernel
theorem dL_law_377 : decode cL_law 377 = .ok (.iaload, 1) := by decide +kernel
theorem dL_law_378 : decode cL_law 378 = .ok (.invokevirtual 32, 3) := by decide +kernel
theorem dL_law_381 : decode cL_law 381 = .ok (.aload_n 2, 1) := by decide +kernel
theorem dL_law_382 : decode cL_law 382 = .ok (.aload_n 0, 1) := by decide +kernel
theorem dL_law_383 : decode cL_law 383 = .ok (.iload_n 3, 1) := by decide +kernel
theorem dL_law_384 : decode cL_law 384 = .ok (.iconst 1, 1) := by decide +kernel
theorem dL_law_385 : decode cL_law 385 = .ok (.iadd, 1) := by decide +kernel
theorem dL_law_386 : decode cL_law 386 = .ok (.iaload, 1) := by decide +kernel
theorem dL_law_387 : decode cL_law 387 = .ok (.invokevirtual 35, 3) := by decide +kernel
theorem dL_law_390 : decode cL_law 390 = .ok (.if_icmp .eq 1025, 3) := by decide +kernel
theorem dL_law_393 : decode cL_law 393 = .ok (.iconst 0, 1) := by decide +kernel
theorem dL_law_394 : decode cL_law 394 = .ok (.ireturn, 1) := by decide +kernel
theorem dL_law_395 : decode cL_law 395 = .ok (.aload_n 1, 1) := by decide +kernel
theorem dL_law_396 : decode cL_law 396 = .ok (.invokevirtual 36, 3) := by decide +kernel
theorem dL_law_399 : decode cL_law 399 = .ok (.aload_n 2, 1) := by decide +kernel
theorem dL_law_400 : decode cL_law 400 = .ok (.invokevirtual 40, 3) := by decide +kernel
theorem dL_law_403 : decode cL_law 403 = .ok (.if_icmp .eq 1012, 3) := by decide +kernel
theorem dL_law_406 : decode cL_law 406 = .ok (.iconst 0, 1) := by decide +kernel
theorem dL_law_407 : decode cL_law 407 = .ok (.ireturn, 1) := by decide +kernel
theorem dL_law_408 : decode cL_law 408 = .ok (.aload_n 1, 1) := by decide +kernel
theorem dL_law_409 : decode cL_law 409 = .ok (.invokevirtual 41, 3) := by decide +kernel
theorem dL_law_412 : decode cL_law 412 = .ok (.aload_n 2, 1) := by decide +kernel
theorem dL_law_413 : decode cL_law 413 = .ok (.invokevirtual 44, 3) := by decide +kernel
theorem dL_law_416 : decode cL_law 416 = .ok (.if_icmp .eq 999, 3) := by decide +kernel
theorem dL_law_419 : decode cL_law 419 = .ok (.iconst 0, 1) := by decide +kernel
theorem dL_law_420 : decode cL_law 420 = .ok (.ireturn, 1) := by decide +kernel
theorem dL_law_421 : decode cL_law 421 = .ok (.aload_n 1, 1) := by decide +kernel
theorem dL_law_422 : decode cL_law 422 = .ok (.invokevirtual 45, 3) := by decide +kernel
theorem dL_law_425 : decode cL_law 425 = .ok (.aload_n 2, 1) := by decide +kernel
theorem dL_law_426 : decode cL_law 426 = .ok (.invokevirtual 48, 3) := by decide +kernel
theorem dL_law_429 : decode cL_law 429 = .ok (.if_icmp .eq 986, 3) := by decide +kernel
theorem dL_law_432 : decode cL_law 432 = .ok (.iconst 0, 1) := by decide +kernel
theorem dL_law_433 : decode cL_law 433 = .ok (.ireturn, 1) := by decide +kernel
theorem dL_law_434 : decode cL_law 434 = .ok (.aload_n 1, 1) := by decide +kernel
theorem dL_law_435 : decode cL_law 435 = .ok (.aload_n 0, 1) := by decide +kernel
theorem dL_law_436 : decode cL_law 436 = .ok (.iload_n 3, 1) := by decide +kernel
theorem dL_law_437 : decode cL_law 437 = .ok (.iconst 1, 1) := by decide +kernel
theorem dL_law_438 : decode cL_law 438 = .ok (.iadd, 1) := by decide +kernel
theorem dL_law_439 : decode cL_law 439 = .ok (.iaload, 1) := by decide +kernel
theorem dL_law_440 : decode cL_law 440 = .ok (.invokevirtual 49, 3) := by decide +kernel
theorem dL_law_443 : decode cL_law 443 = .ok (.aload_n 2, 1) := by decide +kernel
theorem dL_law_444 : decode cL_law 444 = .ok (.aload_n 0, 1) := by decide +kernel
theorem dL_law_445 : decode cL_law 445 = .ok (.iload_n 3, 1) := by decide +kernel
theorem dL_law_446 : decode cL_law 446 = .ok (.iconst 1, 1) := by decide +kernel
theorem dL_law_447 : decode cL_law 447 = .ok (.iadd, 1) := by decide +kernel
theorem dL_law_448 : decode cL_law 448 = .ok (.iaload, 1) := by decide +kernel
theorem dL_law_449 : decode cL_law 449 = .ok (.invokevirtual 52, 3) := by decide +kernel
theorem dL_law_452 : decode cL_law 452 = .ok (.if_icmp .eq 963, 3) := by decide +kernel
theorem dL_law_455 : decode cL_law 455 = .ok (.iconst 0, 1) := by decide +kernel
theorem dL_law_456 : decode cL_law 456 = .ok (.ireturn, 1) := by decide +kernel
theorem dL_law_457 : decode cL_law 457 = .ok (.aload_n 1, 1) := by decide +kernel
theorem dL_law_458 : decode cL_law 458 = .ok (.aload_n 0, 1) := by decide +kernel
theorem dL_law_459 : decode cL_law 459 = .ok (.iload_n 3, 1) := by decide +kernel
theorem dL_law_460 : decode cL_law 460 = .ok (.iconst 1, 1) := by decide +kernel
theorem dL_law_461 : decode cL_law 461 = .ok (.iadd, 1) := by decide +kernel
theorem dL_law_462 : decode cL_law 462 = .ok (.iaload, 1) := by decide +kernel
theorem dL_law_463 : decode cL_law 463 = .ok (.invokevirtual 53, 3) := by decide +kernel
theorem dL_law_466 : decode cL_law 466 = .ok (.aload_n 2, 1) := by decide +kernel
theorem dL_law_467 : decode cL_law 467 = .ok (.aload_n 0, 1) := by decide +kernel
theorem dL_law_468 : decode cL_law 468 = .ok (.iload_n 3, 1) := by decide +kernel
theorem dL_law_469 : decode cL_law 469 = .ok (.iconst 1, 1) := by decide +kernel
theorem dL_law_470 : decode cL_law 470 = .ok (.iadd, 1) := by decide +kernel
theorem dL_law_471 : decode cL_law 471 = .ok (.iaload, 1) := by decide +kernel
theorem dL_law_472 : decode cL_law 472 = .ok (.invokevirtual 56, 3) := by decide +kernel
theorem dL_law_475 : decode cL_law 475 = .ok (.if_icmp .eq 940, 3) := by decide +kernel
theorem dL_law_478 : decode cL_law 478 = .ok (.iconst 0, 1) := by decide +kernel
theorem dL_law_479 : decode cL_law 479 = .ok (.ireturn, 1) := by decide +kernel
theorem dL_law_480 : decode cL_law 480 = .ok (.aload_n 1, 1) := by decide +kernel
theorem dL_law_481 : decode cL_law 481 = .ok (.aload_n 0, 1) := by decide +kernel
theorem dL_law_482 : decode cL_law 482 = .ok (.iload_n 3, 1) := by decide +kernel
theorem dL_law_483 : decode cL_law 483 = .ok (.iconst 1, 1) := by decide +kernel
theorem dL_law_484 : decode cL_law 484 = .ok (.iadd, 1) := by decide +kernel
theorem dL_law_485 : decode cL_law 485 = .ok (.iaload, 1) := by decide +kernel
theorem dL_law_486 : decode cL_law 486 = .ok (.aload_n 0, 1) := by decide +kernel
theorem dL_law_487 : decode cL_law 487 = .ok (.iload_n 3, 1) := by decide +kernel
theorem dL_law_488 : decode cL_law 488 = .ok (.iconst 2, 1) := by decide +kernel
theorem dL_law_489 : decode cL_law 489 = .ok (.iadd, 1) := by decide +kernel
theorem dL_law_490 : decode cL_law 490 = .ok (.iaload, 1) := by decide +kernel
theorem dL_law_491 : decode cL_law 491 = .ok (.aload_n 0, 1) := by decide +kernel
theorem dL_law_492 : decode cL_law 492 = .ok (.iload_n 3, 1) := by decide +kernel
theorem dL_law_493 : decode cL_law 493 = .ok (.iconst 3, 1) := by decide +kernel
theorem dL_law_494 : decode cL_law 494 = .ok (.iadd, 1) := by decide +kernel
theorem dL_law_495 : decode cL_law 495 = .ok (.iaload, 1) := by decide +kernel
theorem dL_law_496 : decode cL_law 496 = .ok (.invokevirtual 57, 3) := by decide +kernel
theorem dL_law_499 : decode cL_law 499 = .ok (.aload_n 2, 1) := by decide +kernel
theorem dL_law_500 : decode cL_law 500 = .ok (.aload_n 0, 1) := by decide +kernel
theorem dL_law_501 : decode cL_law 501 = .ok (.iload_n 3, 1) := by decide +kernel
theorem dL_law_502 : decode cL_law 502 = .ok (.iconst 1, 1) := by decide +kernel
theorem dL_law_503 : decode cL_law 503 = .ok (.iadd, 1) := by decide +kernel
theorem dL_law_504 : decode cL_law 504 = .ok (.iaload, 1) := by decide +kernel
theorem dL_law_505 : decode cL_law 505 = .ok (.aload_n 0, 1) := by decide +kernel
theorem dL_law_506 : decode cL_law 506 = .ok (.iload_n 3, 1) := by decide +kernel
theorem dL_law_507 : decode cL_law 507 = .ok (.iconst 2, 1) := by decide +kernel
theorem dL_law_508 : decode cL_law 508 = .ok (.iadd, 1) := by decide +kernel
theorem dL_law_509 : decode cL_law 509 = .ok (.iaload, 1) := by decide +kernel
theorem dL_law_510 : decode cL_law 510 = .ok (.aload_n 0, 1) := by decide +kernel
theorem dL_law_511 : decode cL_law 511 = .ok (.iload_n 3, 1) := by decide +kernel
theorem dL_law_512 : decode cL_law 512 = .ok (.iconst 3, 1) := by decide +kernel
theorem dL_law_513 : decode cL_law 513 = .ok (.iadd, 1) := by decide +kernel
theorem dL_law_514 : decode cL_law 514 = .ok (.iaload, 1) := by decide +kernel
theorem dL_law_515 : decode cL_law 515 = .ok (.invokevirtual 60, 3) := by decide +kernel
theorem dL_law_518 : decode cL_law 518 = .ok (.if_icmp .eq 897, 3) := by decide +kernel
theorem dL_law_521 : decode cL_law 521 = .ok (.iconst 0, 1) := by decide +kernel
theorem dL_law_522 : decode cL_law 522 = .ok (.ireturn, 1) := by decide +kernel
theorem dL_law_523 : decode cL_law 523 = .ok (.aload_n 1, 1) := by decide +kernel
theorem dL_law_524 : decode cL_law 524 = .ok (.aload_n 0, 1) := by decide +kernel
theorem dL_law_525 : decode cL_law 525 = .ok (.iload_n 3, 1) := by decide +kernel
theorem dL_law_526 : decode cL_law 526 = .ok (.iconst 1, 1) := by decide +kernel
theorem dL_law_527 : decode cL_law 527 = .ok (.iadd, 1) := by decide +kernel
theorem dL_law_528 : decode cL_law 528 = .ok (.iaload, 1) := by decide +kernel
theorem dL_law_529 : decode cL_law 529 = .ok (.aload_n 0, 1) := by decide +kernel
theorem dL_law_530 : decode cL_law 530 = .ok (.iload_n 3, 1) := by decide +kernel
theorem dL_law_531 : decode cL_law 531 = .ok (.iconst 2, 1) := by decide +kernel
theorem dL_law_532 : decode cL_law 532 = .ok (.iadd, 1) := by decide +kernel
theorem dL_law_533 : decode cL_law 533 = .ok (.iaload, 1) := by decide +kernel
theorem dL_law_534 : decode cL_law 534 = .ok (.invokevirtual 61, 3) := by decide +kernel
theorem dL_law_537 : decode cL_law 537 = .ok (.aload_n 2, 1) := by decide +kernel
theorem dL_law_538 : decode cL_law 538 = .ok (.aload_n 0, 1) := by decide +kernel
theorem dL_law_539 : decode cL_law 539 = .ok (.iload_n 3, 1) := by decide +kernel
theorem dL_law_540 : decode cL_law 540 = .ok (.iconst 1, 1) := by decide +kernel
theorem dL_law_541 : decode cL_law 541 = .ok (.iadd, 1) := by decide +kernel
theorem dL_law_542 : decode cL_law 542 = .ok (.iaload, 1) := by decide +kernel
theorem dL_law_543 : decode cL_law 543 = .ok (.aload_n 0, 1) := by decide +kernel
theorem dL_law_544 : decode cL_law 544 = .ok (.iload_n 3, 1) := by decide +kernel
theorem dL_law_545 : decode cL_law 545 = .ok (.iconst 2, 1) := by decide +kernel
theorem dL_law_546 : decode cL_law 546 = .ok (.iadd, 1) := by decide +kernel
theorem dL_law_547 : decode cL_law 547 = .ok (.iaload, 1) := by decide +kernel
theorem dL_law_548 : decode cL_law 548 = .ok (.invokevirtual 65, 3) := by decide +kernel
theorem dL_law_551 : decode cL_law 551 = .ok (.if_icmp .eq 864, 3) := by decide +kernel
theorem dL_law_554 : decode cL_law 554 = .ok (.iconst 0, 1) := by decide +kernel
theorem dL_law_555 : decode cL_law 555 = .ok (.ireturn, 1) := by decide +kernel
theorem dL_law_556 : decode cL_law 556 = .ok (.aload_n 1, 1) := by decide +kernel
theorem dL_law_557 : decode cL_law 557 = .ok (.aload_n 0, 1) := by decide +kernel
theorem dL_law_558 : decode cL_law 558 = .ok (.iload_n 3, 1) := by decide +kernel
theorem dL_law_559 : decode cL_law 559 = .ok (.iconst 1, 1) := by decide +kernel
theorem dL_law_560 : decode cL_law 560 = .ok (.iadd, 1) := by decide +kernel
theorem dL_law_561 : decode cL_law 561 = .ok (.iaload, 1) := by decide +kernel
theorem dL_law_562 : decode cL_law 562 = .ok (.aload_n 0, 1) := by decide +kernel
theorem dL_law_563 : decode cL_law 563 = .ok (.iload_n 3, 1) := by decide +kernel
theorem dL_law_564 : decode cL_law 564 = .ok (.iconst 2, 1) := by decide +kernel
theorem dL_law_565 : decode cL_law 565 = .ok (.iadd, 1) := by decide +kernel
theorem dL_law_566 : decode cL_law 566 = .ok (.iaload, 1) := by decide +kernel
theorem dL_law_567 : decode cL_law 567 = .ok (.invokevirtual 66, 3) := by decide +kernel
theorem dL_law_570 : decode cL_law 570 = .ok (.aload_n 2, 1) := by decide +kernel
theorem dL_law_571 : decode cL_law 571 = .ok (.aload_n 0, 1) := by decide +kernel
theorem dL_law_572 : decode cL_law 572 = .ok (.iload_n 3, 1) := by decide +kernel
theorem dL_law_573 : decode cL_law 573 = .ok (.iconst 1, 1) := by decide +kernel
theorem dL_law_574 : decode cL_law 574 = .ok (.iadd, 1) := by decide +kernel
theorem dL_law_575 : decode cL_law 575 = .ok (.iaload, 1) := by decide +kernel
theorem dL_law_576 : decode cL_law 576 = .ok (.aload_n 0, 1) := by decide +kernel
theorem dL_law_577 : decode cL_law 577 = .ok (.iload_n 3, 1) := by decide +kernel
theorem dL_law_578 : decode cL_law 578 = .ok (.iconst 2, 1) := by decide +kernel
theorem dL_law_579 : decode cL_law 579 = .ok (.iadd, 1) := by decide +kernel
theorem dL_law_580 : decode cL_law 580 = .ok (.iaload, 1) := by decide +kernel
theorem dL_law_581 : decode cL_law 581 = .ok (.invokevirtual 69, 3) := by decide +kernel
theorem dL_law_584 : decode cL_law 584 = .ok (.if_icmp .eq 831, 3) := by decide +kernel
theorem dL_law_587 : decode cL_law 587 = .ok (.iconst 0, 1) := by decide +kernel
theorem dL_law_588 : decode cL_law 588 = .ok (.ireturn, 1) := by decide +kernel
theorem dL_law_589 : decode cL_law 589 = .ok (.aload_n 1, 1) := by decide +kernel
theorem dL_law_590 : decode cL_law 590 = .ok (.aload_n 0, 1) := by decide +kernel
theorem dL_law_591 : decode cL_law 591 = .ok (.iload_n 3, 1) := by decide +kernel
theorem dL_law_592 : decode cL_law 592 = .ok (.iconst 1, 1) := by decide +kernel
theorem dL_law_593 : decode cL_law 593 = .ok (.iadd, 1) := by decide +kernel
theorem dL_law_594 : decode cL_law 594 = .ok (.iaload, 1) := by decide +kernel
theorem dL_law_595 : decode cL_law 595 = .ok (.aload_n 0, 1) := by decide +kernel
theorem dL_law_596 : decode cL_law 596 = .ok (.iload_n 3, 1) := by decide +kernel
theorem dL_law_597 : decode cL_law 597 = .ok (.iconst 2, 1) := by decide +kernel
theorem dL_law_598 : decode cL_law 598 = .ok (.iadd, 1) := by decide +kernel
theorem dL_law_599 : decode cL_law 599 = .ok (.iaload, 1) := by decide +kernel
theorem dL_law_600 : decode cL_law 600 = .ok (.invokevirtual 70, 3) := by decide +kernel
theorem dL_law_603 : decode cL_law 603 = .ok (.aload_n 2, 1) := by decide +kernel
theorem dL_law_604 : decode cL_law 604 = .ok (.aload_n 0, 1) := by decide +kernel
theorem dL_law_605 : decode cL_law 605 = .ok (.iload_n 3, 1) := by decide +kernel
theorem dL_law_606 : decode cL_law 606 = .ok (.iconst 1, 1) := by decide +kernel
theorem dL_law_607 : decode cL_law 607 = .ok (.iadd, 1) := by decide +kernel
theorem dL_law_608 : decode cL_law 608 = .ok (.iaload, 1) := by decide +kernel
theorem dL_law_609 : decode cL_law 609 = .ok (.aload_n 0, 1) := by decide +kernel
theorem dL_law_610 : decode cL_law 610 = .ok (.iload_n 3, 1) := by decide +kernel
theorem dL_law_611 : decode cL_law 611 = .ok (.iconst 2, 1) := by decide +kernel
theorem dL_law_612 : decode cL_law 612 = .ok (.iadd, 1) := by decide +kernel
theorem dL_law_613 : decode cL_law 613 = .ok (.iaload, 1) := by decide +kernel
theorem dL_law_614 : decode cL_law 614 = .ok (.invokevirtual 73, 3) := by decide +kernel
theorem dL_law_617 : decode cL_law 617 = .ok (.if_icmp .eq 798, 3) := by decide +kernel
theorem dL_law_620 : decode cL_law 620 = .ok (.iconst 0, 1) := by decide +kernel
theorem dL_law_621 : decode cL_law 621 = .ok (.ireturn, 1) := by decide +kernel
theorem dL_law_622 : decode cL_law 622 = .ok (.aload_n 1, 1) := by decide +kernel
theorem dL_law_623 : decode cL_law 623 = .ok (.aload_n 0, 1) := by decide +kernel
theorem dL_law_624 : decode cL_law 624 = .ok (.iload_n 3, 1) := by decide +kernel
theorem dL_law_625 : decode cL_law 625 = .ok (.iconst 1, 1) := by decide +kernel
theorem dL_law_626 : decode cL_law 626 = .ok (.iadd, 1) := by decide +kernel
theorem dL_law_627 : decode cL_law 627 = .ok (.iaload, 1) := by decide +kernel
theorem dL_law_628 : decode cL_law 628 = .ok (.invokevirtual 74, 3) := by decide +kernel
theorem dL_law_631 : decode cL_law 631 = .ok (.aload_n 2, 1) := by decide +kernel
theorem dL_law_632 : decode cL_law 632 = .ok (.aload_n 0, 1) := by decide +kernel
theorem dL_law_633 : decode cL_law 633 = .ok (.iload_n 3, 1) := by decide +kernel
theorem dL_law_634 : decode cL_law 634 = .ok (.iconst 1, 1) := by decide +kernel
theorem dL_law_635 : decode cL_law 635 = .ok (.iadd, 1) := by decide +kernel
theorem dL_law_636 : decode cL_law 636 = .ok (.iaload, 1) := by decide +kernel
theorem dL_law_637 : decode cL_law 637 = .ok (.invokevirtual 77, 3) := by decide +kernel
theorem dL_law_640 : decode cL_law 640 = .ok (.if_icmp .eq 775, 3) := by decide +kernel
theorem dL_law_643 : decode cL_law 643 = .ok (.iconst 0, 1) := by decide +kernel
theorem dL_law_644 : decode cL_law 644 = .ok (.ireturn, 1) := by decide +kernel
theorem dL_law_645 : decode cL_law 645 = .ok (.aload_n 1, 1) := by decide +kernel
theorem dL_law_646 : decode cL_law 646 = .ok (.aload_n 0, 1) := by decide +kernel
theorem dL_law_647 : decode cL_law 647 = .ok (.iload_n 3, 1) := by decide +kernel
theorem dL_law_648 : decode cL_law 648 = .ok (.iconst 1, 1) := by decide +kernel
theorem dL_law_649 : decode cL_law 649 = .ok (.iadd, 1) := by decide +kernel
theorem dL_law_650 : decode cL_law 650 = .ok (.iaload, 1) := by decide +kernel
theorem dL_law_651 : decode cL_law 651 = .ok (.aload_n 0, 1) := by decide +kernel
theorem dL_law_652 : decode cL_law 652 = .ok (.iload_n 3, 1) := by decide +kernel
theorem dL_law_653 : decode cL_law 653 = .ok (.iconst 2, 1) := by decide +kernel
theorem dL_law_654 : decode cL_law 654 = .ok (.iadd, 1) := by decide +kernel
theorem dL_law_655 : decode cL_law 655 = .ok (.iaload, 1) := by decide +kernel
theorem dL_law_656 : decode cL_law 656 = .ok (.invokevirtual 78, 3) := by decide +kernel
theorem dL_law_659 : decode cL_law 659 = .ok (.aload_n 2, 1) := by decide +kernel
theorem dL_law_660 : decode cL_law 660 = .ok (.aload_n 0, 1) := by decide +kernel
theorem dL_law_661 : decode cL_law 661 = .ok (.iload_n 3, 1) := by decide +kernel
theorem dL_law_662 : decode cL_law 662 = .ok (.iconst 1, 1) := by decide +kernel
theorem dL_law_663 : decode cL_law 663 = .ok (.iadd, 1) := by decide +kernel
theorem dL_law_664 : decode cL_law 664 = .ok (.iaload, 1) := by decide +kernel
theorem dL_law_665 : decode cL_law 665 = .ok (.aload_n 0, 1) := by decide +kernel
theorem dL_law_666 : decode cL_law 666 = .ok (.iload_n 3, 1) := by decide +kernel
theorem dL_law_667 : decode cL_law 667 = .ok (.iconst 2, 1) := by decide +kernel
theorem dL_law_668 : decode cL_law 668 = .ok (.iadd, 1) := by decide +kernel
theorem dL_law_669 : decode cL_law 669 = .ok (.iaload, 1) := by decide +kernel
theorem dL_law_670 : decode cL_law 670 = .ok (.invokevirtual 81, 3) := by decide +kernel
theorem dL_law_673 : decode cL_law 673 = .ok (.if_icmp .eq 742, 3) := by decide +kernel
theorem dL_law_676 : decode cL_law 676 = .ok (.iconst 0, 1) := by decide +kernel
theorem dL_law_677 : decode cL_law 677 = .ok (.ireturn, 1) := by decide +kernel
theorem dL_law_678 : decode cL_law 678 = .ok (.aload_n 1, 1) := by decide +kernel
theorem dL_law_679 : decode cL_law 679 = .ok (.aload_n 0, 1) := by decide +kernel
theorem dL_law_680 : decode cL_law 680 = .ok (.iload_n 3, 1) := by decide +kernel
theorem dL_law_681 : decode cL_law 681 = .ok (.iconst 1, 1) := by decide +kernel
theorem dL_law_682 : decode cL_law 682 = .ok (.iadd, 1) := by decide +kernel
theorem dL_law_683 : decode cL_law 683 = .ok (.iaload, 1) := by decide +kernel
theorem dL_law_684 : decode cL_law 684 = .ok (.aload_n 0, 1) := by decide +kernel
theorem dL_law_685 : decode cL_law 685 = .ok (.iload_n 3, 1) := by decide +kernel
theorem dL_law_686 : decode cL_law 686 = .ok (.iconst 2, 1) := by decide +kernel
theorem dL_law_687 : decode cL_law 687 = .ok (.iadd, 1) := by decide +kernel
theorem dL_law_688 : decode cL_law 688 = .ok (.iaload, 1) := by decide +kernel
theorem dL_law_689 : decode cL_law 689 = .ok (.aload_n 0, 1) := by decide +kernel
theorem dL_law_690 : decode cL_law 690 = .ok (.iload_n 3, 1) := by decide +kernel
theorem dL_law_691 : decode cL_law 691 = .ok (.iconst 3, 1) := by decide +kernel
theorem dL_law_692 : decode cL_law 692 = .ok (.iadd, 1) := by decide +kernel
theorem dL_law_693 : decode cL_law 693 = .ok (.iaload, 1) := by decide +kernel
theorem dL_law_694 : decode cL_law 694 = .ok (.invokevirtual 82, 3) := by decide +kernel
theorem dL_law_697 : decode cL_law 697 = .ok (.aload_n 2, 1) := by decide +kernel
theorem dL_law_698 : decode cL_law 698 = .ok (.aload_n 0, 1) := by decide +kernel
theorem dL_law_699 : decode cL_law 699 = .ok (.iload_n 3, 1) := by decide +kernel
theorem dL_law_700 : decode cL_law 700 = .ok (.iconst 1, 1) := by decide +kernel
theorem dL_law_701 : decode cL_law 701 = .ok (.iadd, 1) := by decide +kernel
theorem dL_law_702 : decode cL_law 702 = .ok (.iaload, 1) := by decide +kernel
theorem dL_law_703 : decode cL_law 703 = .ok (.aload_n 0, 1) := by decide +kernel
theorem dL_law_704 : decode cL_law 704 = .ok (.iload_n 3, 1) := by decide +kernel
theorem dL_law_705 : decode cL_law 705 = .ok (.iconst 2, 1) := by decide +kernel
theorem dL_law_706 : decode cL_law 706 = .ok (.iadd, 1) := by decide +kernel
theorem dL_law_707 : decode cL_law 707 = .ok (.iaload, 1) := by decide +kernel
theorem dL_law_708 : decode cL_law 708 = .ok (.aload_n 0, 1) := by decide +kernel
theorem dL_law_709 : decode cL_law 709 = .ok (.iload_n 3, 1) := by decide +kernel
theorem dL_law_710 : decode cL_law 710 = .ok (.iconst 3, 1) := by decide +kernel
theorem dL_law_711 : decode cL_law 711 = .ok (.iadd, 1) := by decide +kernel
theorem dL_law_712 : decode cL_law 712 = .ok (.iaload, 1) := by decide +kernel
theorem dL_law_713 : decode cL_law 713 = .ok (.invokevirtual 85, 3) := by decide +kernel
theorem dL_law_716 : decode cL_law 716 = .ok (.if_icmp .eq 699, 3) := by decide +kernel
theorem dL_law_719 : decode cL_law 719 = .ok (.iconst 0, 1) := by decide +kernel
theorem dL_law_720 : decode cL_law 720 = .ok (.ireturn, 1) := by decide +kernel
theorem dL_law_721 : decode cL_law 721 = .ok (.aload_n 1, 1) := by decide +kernel
theorem dL_law_722 : decode cL_law 722 = .ok (.aload_n 0, 1) := by decide +kernel
theorem dL_law_723 : decode cL_law 723 = .ok (.iload_n 3, 1) := by decide +kernel
theorem dL_law_724 : decode cL_law 724 = .ok (.iconst 1, 1) := by decide +kernel
theorem dL_law_725 : decode cL_law 725 = .ok (.iadd, 1) := by decide +kernel
theorem dL_law_726 : decode cL_law 726 = .ok (.iaload, 1) := by decide +kernel
theorem dL_law_727 : decode cL_law 727 = .ok (.aload_n 0, 1) := by decide +kernel
theorem dL_law_728 : decode cL_law 728 = .ok (.iload_n 3, 1) := by decide +kernel
theorem dL_law_729 : decode cL_law 729 = .ok (.iconst 2, 1) := by decide +kernel
theorem dL_law_730 : decode cL_law 730 = .ok (.iadd, 1) := by decide +kernel
theorem dL_law_731 : decode cL_law 731 = .ok (.iaload, 1) := by decide +kernel
theorem dL_law_732 : decode cL_law 732 = .ok (.invokevirtual 86, 3) := by decide +kernel
theorem dL_law_735 : decode cL_law 735 = .ok (.aload_n 2, 1) := by decide +kernel
theorem dL_law_736 : decode cL_law 736 = .ok (.aload_n 0, 1) := by decide +kernel
theorem dL_law_737 : decode cL_law 737 = .ok (.iload_n 3, 1) := by decide +kernel
theorem dL_law_738 : decode cL_law 738 = .ok (.iconst 1, 1) := by decide +kernel
theorem dL_law_739 : decode cL_law 739 = .ok (.iadd, 1) := by decide +kernel
theorem dL_law_740 : decode cL_law 740 = .ok (.iaload, 1) := by decide +kernel
theorem dL_law_741 : decode cL_law 741 = .ok (.aload_n 0, 1) := by decide +kernel
theorem dL_law_742 : decode cL_law 742 = .ok (.iload_n 3, 1) := by decide +kernel
theorem dL_law_743 : decode cL_law 743 = .ok (.iconst 2, 1) := by decide +kernel
theorem dL_law_744 : decode cL_law 744 = .ok (.iadd, 1) := by decide +kernel
theorem dL_law_745 : decode cL_law 745 = .ok (.iaload, 1) := by decide +kernel
theorem dL_law_746 : decode cL_law 746 = .ok (.invokevirtual 89, 3) := by decide +kernel
theorem dL_law_749 : decode cL_law 749 = .ok (.if_icmp .eq 666, 3) := by decide +kernel
theorem dL_law_752 : decode cL_law 752 = .ok (.iconst 0, 1) := by decide +kernel
theorem dL_law_753 : decode cL_law 753 = .ok (.ireturn, 1) := by decide +kernel
theorem dL_law_754 : decode cL_law 754 = .ok (.aload_n 1, 1) := by decide +kernel
theorem dL_law_755 : decode cL_law 755 = .ok (.aload_n 0, 1) := by decide +kernel
theorem dL_law_756 : decode cL_law 756 = .ok (.iload_n 3, 1) := by decide +kernel
theorem dL_law_757 : decode cL_law 757 = .ok (.iconst 1, 1) := by decide +kernel
theorem dL_law_758 : decode cL_law 758 = .ok (.iadd, 1) := by decide +kernel
theorem dL_law_759 : decode cL_law 759 = .ok (.iaload, 1) := by decide +kernel
theorem dL_law_760 : decode cL_law 760 = .ok (.invokevirtual 90, 3) := by decide +kernel
theorem dL_law_763 : decode cL_law 763 = .ok (.aload_n 2, 1) := by decide +kernel
theorem dL_law_764 : decode cL_law 764 = .ok (.aload_n 0, 1) := by decide +kernel
theorem dL_law_765 : decode cL_law 765 = .ok (.iload_n 3, 1) := by decide +kernel
theorem dL_law_766 : decode cL_law 766 = .ok (.iconst 1, 1) := by decide +kernel
theorem dL_law_767 : decode cL_law 767 = .ok (.iadd, 1) := by decide +kernel
theorem dL_law_768 : decode cL_law 768 = .ok (.iaload, 1) := by decide +kernel
theorem dL_law_769 : decode cL_law 769 = .ok (.invokevirtual 93, 3) := by decide +kernel
theorem dL_law_772 : decode cL_law 772 = .ok (.if_icmp .eq 643, 3) := by decide +kernel
theorem dL_law_775 : decode cL_law 775 = .ok (.iconst 0, 1) := by decide +kernel
theorem dL_law_776 : decode cL_law 776 = .ok (.ireturn, 1) := by decide +kernel
theorem dL_law_777 : decode cL_law 777 = .ok (.aload_n 1, 1) := by decide +kernel
theorem dL_law_778 : decode cL_law 778 = .ok (.invokevirtual 94, 3) := by decide +kernel
theorem dL_law_781 : decode cL_law 781 = .ok (.aload_n 2, 1) := by decide +kernel
theorem dL_law_782 : decode cL_law 782 = .ok (.invokevirtual 97, 3) := by decide +kernel
theorem dL_law_785 : decode cL_law 785 = .ok (.if_icmp .eq 630, 3) := by decide +kernel
theorem dL_law_788 : decode cL_law 788 = .ok (.iconst 0, 1) := by decide +kernel
theorem dL_law_789 : decode cL_law 789 = .ok (.ireturn, 1) := by decide +kernel
theorem dL_law_790 : decode cL_law 790 = .ok (.aload_n 1, 1) := by decide +kernel
theorem dL_law_791 : decode cL_law 791 = .ok (.aload_n 0, 1) := by decide +kernel
theorem dL_law_792 : decode cL_law 792 = .ok (.iload_n 3, 1) := by decide +kernel
theorem dL_law_793 : decode cL_law 793 = .ok (.iconst 1, 1) := by decide +kernel
theorem dL_law_794 : decode cL_law 794 = .ok (.iadd, 1) := by decide +kernel
theorem dL_law_795 : decode cL_law 795 = .ok (.iaload, 1) := by decide +kernel
theorem dL_law_796 : decode cL_law 796 = .ok (.aload_n 0, 1) := by decide +kernel
theorem dL_law_797 : decode cL_law 797 = .ok (.iload_n 3, 1) := by decide +kernel
theorem dL_law_798 : decode cL_law 798 = .ok (.iconst 2, 1) := by decide +kernel
theorem dL_law_799 : decode cL_law 799 = .ok (.iadd, 1) := by decide +kernel
theorem dL_law_800 : decode cL_law 800 = .ok (.iaload, 1) := by decide +kernel
theorem dL_law_801 : decode cL_law 801 = .ok (.invokevirtual 98, 3) := by decide +kernel
theorem dL_law_804 : decode cL_law 804 = .ok (.aload_n 2, 1) := by decide +kernel
theorem dL_law_805 : decode cL_law 805 = .ok (.aload_n 0, 1) := by decide +kernel
theorem dL_law_806 : decode cL_law 806 = .ok (.iload_n 3, 1) := by decide +kernel
theorem dL_law_807 : decode cL_law 807 = .ok (.iconst 1, 1) := by decide +kernel
theorem dL_law_808 : decode cL_law 808 = .ok (.iadd, 1) := by decide +kernel
theorem dL_law_809 : decode cL_law 809 = .ok (.iaload, 1) := by decide +kernel
theorem dL_law_810 : decode cL_law 810 = .ok (.aload_n 0, 1) := by decide +kernel
theorem dL_law_811 : decode cL_law 811 = .ok (.iload_n 3, 1) := by decide +kernel
theorem dL_law_812 : decode cL_law 812 = .ok (.iconst 2, 1) := by decide +kernel
theorem dL_law_813 : decode cL_law 813 = .ok (.iadd, 1) := by decide +kernel
theorem dL_law_814 : decode cL_law 814 = .ok (.iaload, 1) := by decide +kernel
theorem dL_law_815 : decode cL_law 815 = .ok (.invokevirtual 101, 3) := by decide +kernel
theorem dL_law_818 : decode cL_law 818 = .ok (.if_icmp .eq 597, 3) := by decide +kernel
theorem dL_law_821 : decode cL_law 821 = .ok (.iconst 0, 1) := by decide +kernel
theorem dL_law_822 : decode cL_law 822 = .ok (.ireturn, 1) := by decide +kernel
theorem dL_law_823 : decode cL_law 823 = .ok (.aload_n 1, 1) := by decide +kernel
theorem dL_law_824 : decode cL_law 824 = .ok (.aload_n 0, 1) := by decide +kernel
theorem dL_law_825 : decode cL_law 825 = .ok (.iload_n 3, 1) := by decide +kernel
theorem dL_law_826 : decode cL_law 826 = .ok (.iconst 1, 1) := by decide +kernel
theorem dL_law_827 : decode cL_law 827 = .ok (.iadd, 1) := by decide +kernel
theorem dL_law_828 : decode cL_law 828 = .ok (.iaload, 1) := by decide +kernel
theorem dL_law_829 : decode cL_law 829 = .ok (.aload_n 0, 1) := by decide +kernel
theorem dL_law_830 : decode cL_law 830 = .ok (.iload_n 3, 1) := by decide +kernel
theorem dL_law_831 : decode cL_law 831 = .ok (.iconst 2, 1) := by decide +kernel
theorem dL_law_832 : decode cL_law 832 = .ok (.iadd, 1) := by decide +kernel
theorem dL_law_833 : decode cL_law 833 = .ok (.iaload, 1) := by decide +kernel
theorem dL_law_834 : decode cL_law 834 = .ok (.invokevirtual 102, 3) := by decide +kernel
theorem dL_law_837 : decode cL_law 837 = .ok (.aload_n 2, 1) := by decide +kernel
theorem dL_law_838 : decode cL_law 838 = .ok (.aload_n 0, 1) := by decide +kernel
theorem dL_law_839 : decode cL_law 839 = .ok (.iload_n 3, 1) := by decide +kernel
theorem dL_law_840 : decode cL_law 840 = .ok (.iconst 1, 1) := by decide +kernel
theorem dL_law_841 : decode cL_law 841 = .ok (.iadd, 1) := by decide +kernel
theorem dL_law_842 : decode cL_law 842 = .ok (.iaload, 1) := by decide +kernel
theorem dL_law_843 : decode cL_law 843 = .ok (.aload_n 0, 1) := by decide +kernel
theorem dL_law_844 : decode cL_law 844 = .ok (.iload_n 3, 1) := by decide +kernel
theorem dL_law_845 : decode cL_law 845 = .ok (.iconst 2, 1) := by decide +kernel
theorem dL_law_846 : decode cL_law 846 = .ok (.iadd, 1) := by decide +kernel
theorem dL_law_847 : decode cL_law 847 = .ok (.iaload, 1) := by decide +kernel
theorem dL_law_848 : decode cL_law 848 = .ok (.invokevirtual 105, 3) := by decide +kernel
theorem dL_law_851 : decode cL_law 851 = .ok (.if_icmp .eq 564, 3) := by decide +kernel
theorem dL_law_854 : decode cL_law 854 = .ok (.iconst 0, 1) := by decide +kernel
theorem dL_law_855 : decode cL_law 855 = .ok (.ireturn, 1) := by decide +kernel
theorem dL_law_856 : decode cL_law 856 = .ok (.aload_n 1, 1) := by decide +kernel
theorem dL_law_857 : decode cL_law 857 = .ok (.aload_n 0, 1) := by decide +kernel
theorem dL_law_858 : decode cL_law 858 = .ok (.iload_n 3, 1) := by decide +kernel
theorem dL_law_859 : decode cL_law 859 = .ok (.iconst 1, 1) := by decide +kernel
theorem dL_law_860 : decode cL_law 860 = .ok (.iadd, 1) := by decide +kernel
theorem dL_law_861 : decode cL_law 861 = .ok (.iaload, 1) := by decide +kernel
theorem dL_law_862 : decode cL_law 862 = .ok (.aload_n 0, 1) := by decide +kernel
theorem dL_law_863 : decode cL_law 863 = .ok (.iload_n 3, 1) := by decide +kernel
theorem dL_law_864 : decode cL_law 864 = .ok (.iconst 2, 1) := by decide +kernel
theorem dL_law_865 : decode cL_law 865 = .ok (.iadd, 1) := by decide +kernel
theorem dL_law_866 : decode cL_law 866 = .ok (.iaload, 1) := by decide +kernel
theorem dL_law_867 : decode cL_law 867 = .ok (.aload_n 0, 1) := by decide +kernel
theorem dL_law_868 : decode cL_law 868 = .ok (.iload_n 3, 1) := by decide +kernel
theorem dL_law_869 : decode cL_law 869 = .ok (.iconst 3, 1) := by decide +kernel
theorem dL_law_870 : decode cL_law 870 = .ok (.iadd, 1) := by decide +kernel
theorem dL_law_871 : decode cL_law 871 = .ok (.iaload, 1) := by decide +kernel
theorem dL_law_872 : decode cL_law 872 = .ok (.invokevirtual 106, 3) := by decide +kernel
theorem dL_law_875 : decode cL_law 875 = .ok (.aload_n 2, 1) := by decide +kernel
theorem dL_law_876 : decode cL_law 876 = .ok (.aload_n 0, 1) := by decide +kernel
theorem dL_law_877 : decode cL_law 877 = .ok (.iload_n 3, 1) := by decide +kernel
theorem dL_law_878 : decode cL_law 878 = .ok (.iconst 1, 1) := by decide +kernel
theorem dL_law_879 : decode cL_law 879 = .ok (.iadd, 1) := by decide +kernel
theorem dL_law_880 : decode cL_law 880 = .ok (.iaload, 1) := by decide +kernel
theorem dL_law_881 : decode cL_law 881 = .ok (.aload_n 0, 1) := by decide +kernel
theorem dL_law_882 : decode cL_law 882 = .ok (.iload_n 3, 1) := by decide +kernel
theorem dL_law_883 : decode cL_law 883 = .ok (.iconst 2, 1) := by decide +kernel
theorem dL_law_884 : decode cL_law 884 = .ok (.iadd, 1) := by decide +kernel
theorem dL_law_885 : decode cL_law 885 = .ok (.iaload, 1) := by decide +kernel
theorem dL_law_886 : decode cL_law 886 = .ok (.aload_n 0, 1) := by decide +kernel
theorem dL_law_887 : decode cL_law 887 = .ok (.iload_n 3, 1) := by decide +kernel
theorem dL_law_888 : decode cL_law 888 = .ok (.iconst 3, 1) := by decide +kernel
theorem dL_law_889 : decode cL_law 889 = .ok (.iadd, 1) := by decide +kernel
theorem dL_law_890 : decode cL_law 890 = .ok (.iaload, 1) := by decide +kernel
theorem dL_law_891 : decode cL_law 891 = .ok (.invokevirtual 109, 3) := by decide +kernel
theorem dL_law_894 : decode cL_law 894 = .ok (.if_icmp .eq 521, 3) := by decide +kernel
theorem dL_law_897 : decode cL_law 897 = .ok (.iconst 0, 1) := by decide +kernel
theorem dL_law_898 : decode cL_law 898 = .ok (.ireturn, 1) := by decide +kernel
theorem dL_law_899 : decode cL_law 899 = .ok (.aload_n 1, 1) := by decide +kernel
theorem dL_law_900 : decode cL_law 900 = .ok (.aload_n 0, 1) := by decide +kernel
theorem dL_law_901 : decode cL_law 901 = .ok (.iload_n 3, 1) := by decide +kernel
theorem dL_law_902 : decode cL_law 902 = .ok (.iconst 1, 1) := by decide +kernel
theorem dL_law_903 : decode cL_law 903 = .ok (.iadd, 1) := by decide +kernel
theorem dL_law_904 : decode cL_law 904 = .ok (.iaload, 1) := by decide +kernel
theorem dL_law_905 : decode cL_law 905 = .ok (.aload_n 0, 1) := by decide +kernel
theorem dL_law_906 : decode cL_law 906 = .ok (.iload_n 3, 1) := by decide +kernel
theorem dL_law_907 : decode cL_law 907 = .ok (.iconst 2, 1) := by decide +kernel
theorem dL_law_908 : decode cL_law 908 = .ok (.iadd, 1) := by decide +kernel
theorem dL_law_909 : decode cL_law 909 = .ok (.iaload, 1) := by decide +kernel
theorem dL_law_910 : decode cL_law 910 = .ok (.invokevirtual 110, 3) := by decide +kernel
theorem dL_law_913 : decode cL_law 913 = .ok (.aload_n 2, 1) := by decide +kernel
theorem dL_law_914 : decode cL_law 914 = .ok (.aload_n 0, 1) := by decide +kernel
theorem dL_law_915 : decode cL_law 915 = .ok (.iload_n 3, 1) := by decide +kernel
theorem dL_law_916 : decode cL_law 916 = .ok (.iconst 1, 1) := by decide +kernel
theorem dL_law_917 : decode cL_law 917 = .ok (.iadd, 1) := by decide +kernel
theorem dL_law_918 : decode cL_law 918 = .ok (.iaload, 1) := by decide +kernel
theorem dL_law_919 : decode cL_law 919 = .ok (.aload_n 0, 1) := by decide +kernel
theorem dL_law_920 : decode cL_law 920 = .ok (.iload_n 3, 1) := by decide +kernel
theorem dL_law_921 : decode cL_law 921 = .ok (.iconst 2, 1) := by decide +kernel
theorem dL_law_922 : decode cL_law 922 = .ok (.iadd, 1) := by decide +kernel
theorem dL_law_923 : decode cL_law 923 = .ok (.iaload, 1) := by decide +kernel
theorem dL_law_924 : decode cL_law 924 = .ok (.invokevirtual 113, 3) := by decide +kernel
theorem dL_law_927 : decode cL_law 927 = .ok (.if_icmp .eq 488, 3) := by decide +kernel
theorem dL_law_930 : decode cL_law 930 = .ok (.iconst 0, 1) := by decide +kernel
theorem dL_law_931 : decode cL_law 931 = .ok (.ireturn, 1) := by decide +kernel
theorem dL_law_932 : decode cL_law 932 = .ok (.aload_n 1, 1) := by decide +kernel
theorem dL_law_933 : decode cL_law 933 = .ok (.aload_n 0, 1) := by decide +kernel
theorem dL_law_934 : decode cL_law 934 = .ok (.iload_n 3, 1) := by decide +kernel
theorem dL_law_935 : decode cL_law 935 = .ok (.iconst 1, 1) := by decide +kernel
theorem dL_law_936 : decode cL_law 936 = .ok (.iadd, 1) := by decide +kernel
theorem dL_law_937 : decode cL_law 937 = .ok (.iaload, 1) := by decide +kernel
theorem dL_law_938 : decode cL_law 938 = .ok (.aload_n 0, 1) := by decide +kernel
theorem dL_law_939 : decode cL_law 939 = .ok (.iload_n 3, 1) := by decide +kernel
theorem dL_law_940 : decode cL_law 940 = .ok (.iconst 2, 1) := by decide +kernel
theorem dL_law_941 : decode cL_law 941 = .ok (.iadd, 1) := by decide +kernel
theorem dL_law_942 : decode cL_law 942 = .ok (.iaload, 1) := by decide +kernel
theorem dL_law_943 : decode cL_law 943 = .ok (.invokevirtual 114, 3) := by decide +kernel
theorem dL_law_946 : decode cL_law 946 = .ok (.aload_n 2, 1) := by decide +kernel
theorem dL_law_947 : decode cL_law 947 = .ok (.aload_n 0, 1) := by decide +kernel
theorem dL_law_948 : decode cL_law 948 = .ok (.iload_n 3, 1) := by decide +kernel
theorem dL_law_949 : decode cL_law 949 = .ok (.iconst 1, 1) := by decide +kernel
theorem dL_law_950 : decode cL_law 950 = .ok (.iadd, 1) := by decide +kernel
theorem dL_law_951 : decode cL_law 951 = .ok (.iaload, 1) := by decide +kernel
theorem dL_law_952 : decode cL_law 952 = .ok (.aload_n 0, 1) := by decide +kernel
theorem dL_law_953 : decode cL_law 953 = .ok (.iload_n 3, 1) := by decide +kernel
theorem dL_law_954 : decode cL_law 954 = .ok (.iconst 2, 1) := by decide +kernel
theorem dL_law_955 : decode cL_law 955 = .ok (.iadd, 1) := by decide +kernel
theorem dL_law_956 : decode cL_law 956 = .ok (.iaload, 1) := by decide +kernel
theorem dL_law_957 : decode cL_law 957 = .ok (.invokevirtual 117, 3) := by decide +kernel
theorem dL_law_960 : decode cL_law 960 = .ok (.if_icmp .eq 455, 3) := by decide +kernel
theorem dL_law_963 : decode cL_law 963 = .ok (.iconst 0, 1) := by decide +kernel
theorem dL_law_964 : decode cL_law 964 = .ok (.ireturn, 1) := by decide +kernel
theorem dL_law_965 : decode cL_law 965 = .ok (.aload_n 1, 1) := by decide +kernel
theorem dL_law_966 : decode cL_law 966 = .ok (.aload_n 0, 1) := by decide +kernel
theorem dL_law_967 : decode cL_law 967 = .ok (.iload_n 3, 1) := by decide +kernel
theorem dL_law_968 : decode cL_law 968 = .ok (.iconst 1, 1) := by decide +kernel
theorem dL_law_969 : decode cL_law 969 = .ok (.iadd, 1) := by decide +kernel
theorem dL_law_970 : decode cL_law 970 = .ok (.iaload, 1) := by decide +kernel
theorem dL_law_971 : decode cL_law 971 = .ok (.aload_n 0, 1) := by decide +kernel
theorem dL_law_972 : decode cL_law 972 = .ok (.iload_n 3, 1) := by decide +kernel
theorem dL_law_973 : decode cL_law 973 = .ok (.iconst 2, 1) := by decide +kernel
theorem dL_law_974 : decode cL_law 974 = .ok (.iadd, 1) := by decide +kernel
theorem dL_law_975 : decode cL_law 975 = .ok (.iaload, 1) := by decide +kernel
theorem dL_law_976 : decode cL_law 976 = .ok (.invokevirtual 118, 3) := by decide +kernel
theorem dL_law_979 : decode cL_law 979 = .ok (.aload_n 2, 1) := by decide +kernel
theorem dL_law_980 : decode cL_law 980 = .ok (.aload_n 0, 1) := by decide +kernel
theorem dL_law_981 : decode cL_law 981 = .ok (.iload_n 3, 1) := by decide +kernel
theorem dL_law_982 : decode cL_law 982 = .ok (.iconst 1, 1) := by decide +kernel
theorem dL_law_983 : decode cL_law 983 = .ok (.iadd, 1) := by decide +kernel
theorem dL_law_984 : decode cL_law 984 = .ok (.iaload, 1) := by decide +kernel
theorem dL_law_985 : decode cL_law 985 = .ok (.aload_n 0, 1) := by decide +kernel
theorem dL_law_986 : decode cL_law 986 = .ok (.iload_n 3, 1) := by decide +kernel
theorem dL_law_987 : decode cL_law 987 = .ok (.iconst 2, 1) := by decide +kernel
theorem dL_law_988 : decode cL_law 988 = .ok (.iadd, 1) := by decide +kernel
theorem dL_law_989 : decode cL_law 989 = .ok (.iaload, 1) := by decide +kernel
theorem dL_law_990 : decode cL_law 990 = .ok (.invokevirtual 121, 3) := by decide +kernel
theorem dL_law_993 : decode cL_law 993 = .ok (.if_icmp .eq 422, 3) := by decide +kernel
theorem dL_law_996 : decode cL_law 996 = .ok (.iconst 0, 1) := by decide +kernel
theorem dL_law_997 : decode cL_law 997 = .ok (.ireturn, 1) := by decide +kernel
theorem dL_law_998 : decode cL_law 998 = .ok (.aload_n 1, 1) := by decide +kernel
theorem dL_law_999 : decode cL_law 999 = .ok (.aload_n 0, 1) := by decide +kernel
theorem dL_law_1000 : decode cL_law 1000 = .ok (.iload_n 3, 1) := by decide +kernel
theorem dL_law_1001 : decode cL_law 1001 = .ok (.iconst 1, 1) := by decide +kernel
theorem dL_law_1002 : decode cL_law 1002 = .ok (.iadd, 1) := by decide +kernel
theorem dL_law_1003 : decode cL_law 1003 = .ok (.iaload, 1) := by decide +kernel
theorem dL_law_1004 : decode cL_law 1004 = .ok (.aload_n 0, 1) := by decide +kernel
theorem dL_law_1005 : decode cL_law 1005 = .ok (.iload_n 3, 1) := by decide +kernel
theorem dL_law_1006 : decode cL_law 1006 = .ok (.iconst 2, 1) := by decide +kernel
theorem dL_law_1007 : decode cL_law 1007 = .ok (.iadd, 1) := by decide +kernel
theorem dL_law_1008 : decode cL_law 1008 = .ok (.iaload, 1) := by decide +kernel
theorem dL_law_1009 : decode cL_law 1009 = .ok (.aload_n 0, 1) := by decide +kernel
theorem dL_law_1010 : decode cL_law 1010 = .ok (.iload_n 3, 1) := by decide +kernel
theorem dL_law_1011 : decode cL_law 1011 = .ok (.iconst 3, 1) := by decide +kernel
theorem dL_law_1012 : decode cL_law 1012 = .ok (.iadd, 1) := by decide +kernel
theorem dL_law_1013 : decode cL_law 1013 = .ok (.iaload, 1) := by decide +kernel
theorem dL_law_1014 : decode cL_law 1014 = .ok (.aload_n 0, 1) := by decide +kernel
theorem dL_law_1015 : decode cL_law 1015 = .ok (.iload_n 3, 1) := by decide +kernel
theorem dL_law_1016 : decode cL_law 1016 = .ok (.iconst 4, 1) := by decide +kernel
theorem dL_law_1017 : decode cL_law 1017 = .ok (.iadd, 1) := by decide +kernel
theorem dL_law_1018 : decode cL_law 1018 = .ok (.iaload, 1) := by decide +kernel
theorem dL_law_1019 : decode cL_law 1019 = .ok (.aload_n 0, 1) := by decide +kernel
theorem dL_law_1020 : decode cL_law 1020 = .ok (.iload_n 3, 1) := by decide +kernel
theorem dL_law_1021 : decode cL_law 1021 = .ok (.iconst 5, 1) := by decide +kernel
theorem dL_law_1022 : decode cL_law 1022 = .ok (.iadd, 1) := by decide +kernel
theorem dL_law_1023 : decode cL_law 1023 = .ok (.iaload, 1) := by decide +kernel
theorem dL_law_1024 : decode cL_law 1024 = .ok (.invokevirtual 122, 3) := by decide +kernel
theorem dL_law_1027 : decode cL_law 1027 = .ok (.aload_n 2, 1) := by decide +kernel
theorem dL_law_1028 : decode cL_law 1028 = .ok (.aload_n 0, 1) := by decide +kernel
theorem dL_law_1029 : decode cL_law 1029 = .ok (.iload_n 3, 1) := by decide +kernel
theorem dL_law_1030 : decode cL_law 1030 = .ok (.iconst 1, 1) := by decide +kernel
theorem dL_law_1031 : decode cL_law 1031 = .ok (.iadd, 1) := by decide +kernel
theorem dL_law_1032 : decode cL_law 1032 = .ok (.iaload, 1) := by decide +kernel
theorem dL_law_1033 : decode cL_law 1033 = .ok (.aload_n 0, 1) := by decide +kernel
theorem dL_law_1034 : decode cL_law 1034 = .ok (.iload_n 3, 1) := by decide +kernel
theorem dL_law_1035 : decode cL_law 1035 = .ok (.iconst 2, 1) := by decide +kernel
theorem dL_law_1036 : decode cL_law 1036 = .ok (.iadd, 1) := by decide +kernel
theorem dL_law_1037 : decode cL_law 1037 = .ok (.iaload, 1) := by decide +kernel
theorem dL_law_1038 : decode cL_law 1038 = .ok (.aload_n 0, 1) := by decide +kernel
theorem dL_law_1039 : decode cL_law 1039 = .ok (.iload_n 3, 1) := by decide +kernel
theorem dL_law_1040 : decode cL_law 1040 = .ok (.iconst 3, 1) := by decide +kernel
theorem dL_law_1041 : decode cL_law 1041 = .ok (.iadd, 1) := by decide +kernel
theorem dL_law_1042 : decode cL_law 1042 = .ok (.iaload, 1) := by decide +kernel
theorem dL_law_1043 : decode cL_law 1043 = .ok (.aload_n 0, 1) := by decide +kernel
theorem dL_law_1044 : decode cL_law 1044 = .ok (.iload_n 3, 1) := by decide +kernel
theorem dL_law_1045 : decode cL_law 1045 = .ok (.iconst 4, 1) := by decide +kernel
theorem dL_law_1046 : decode cL_law 1046 = .ok (.iadd, 1) := by decide +kernel
theorem dL_law_1047 : decode cL_law 1047 = .ok (.iaload, 1) := by decide +kernel
theorem dL_law_1048 : decode cL_law 1048 = .ok (.aload_n 0, 1) := by decide +kernel
theorem dL_law_1049 : decode cL_law 1049 = .ok (.iload_n 3, 1) := by decide +kernel
theorem dL_law_1050 : decode cL_law 1050 = .ok (.iconst 5, 1) := by decide +kernel
theorem dL_law_1051 : decode cL_law 1051 = .ok (.iadd, 1) := by decide +kernel
theorem dL_law_1052 : decode cL_law 1052 = .ok (.iaload, 1) := by decide +kernel
theorem dL_law_1053 : decode cL_law 1053 = .ok (.invokevirtual 125, 3) := by decide +kernel
theorem dL_law_1056 : decode cL_law 1056 = .ok (.if_icmp .eq 359, 3) := by decide +kernel
theorem dL_law_1059 : decode cL_law 1059 = .ok (.iconst 0, 1) := by decide +kernel
theorem dL_law_1060 : decode cL_law 1060 = .ok (.ireturn, 1) := by decide +kernel
theorem dL_law_1061 : decode cL_law 1061 = .ok (.aload_n 1, 1) := by decide +kernel
theorem dL_law_1062 : decode cL_law 1062 = .ok (.aload_n 0, 1) := by decide +kernel
theorem dL_law_1063 : decode cL_law 1063 = .ok (.iload_n 3, 1) := by decide +kernel
theorem dL_law_1064 : decode cL_law 1064 = .ok (.iconst 1, 1) := by decide +kernel
theorem dL_law_1065 : decode cL_law 1065 = .ok (.iadd, 1) := by decide +kernel
theorem dL_law_1066 : decode cL_law 1066 = .ok (.iaload, 1) := by decide +kernel
theorem dL_law_1067 : decode cL_law 1067 = .ok (.aload_n 0, 1) := by decide +kernel
theorem dL_law_1068 : decode cL_law 1068 = .ok (.iload_n 3, 1) := by decide +kernel
theorem dL_law_1069 : decode cL_law 1069 = .ok (.iconst 2, 1) := by decide +kernel
theorem dL_law_1070 : decode cL_law 1070 = .ok (.iadd, 1) := by decide +kernel
theorem dL_law_1071 : decode cL_law 1071 = .ok (.iaload, 1) := by decide +kernel
theorem dL_law_1072 : decode cL_law 1072 = .ok (.aload_n 0, 1) := by decide +kernel
theorem dL_law_1073 : decode cL_law 1073 = .ok (.iload_n 3, 1) := by decide +kernel
theorem dL_law_1074 : decode cL_law 1074 = .ok (.iconst 3, 1) := by decide +kernel
theorem dL_law_1075 : decode cL_law 1075 = .ok (.iadd, 1) := by decide +kernel
theorem dL_law_1076 : decode cL_law 1076 = .ok (.iaload, 1) := by decide +kernel
theorem dL_law_1077 : decode cL_law 1077 = .ok (.aload_n 0, 1) := by decide +kernel
theorem dL_law_1078 : decode cL_law 1078 = .ok (.iload_n 3, 1) := by decide +kernel
theorem dL_law_1079 : decode cL_law 1079 = .ok (.iconst 4, 1) := by decide +kernel
theorem dL_law_1080 : decode cL_law 1080 = .ok (.iadd, 1) := by decide +kernel
theorem dL_law_1081 : decode cL_law 1081 = .ok (.iaload, 1) := by decide +kernel
theorem dL_law_1082 : decode cL_law 1082 = .ok (.aload_n 0, 1) := by decide +kernel
theorem dL_law_1083 : decode cL_law 1083 = .ok (.iload_n 3, 1) := by decide +kernel
theorem dL_law_1084 : decode cL_law 1084 = .ok (.iconst 5, 1) := by decide +kernel
theorem dL_law_1085 : decode cL_law 1085 = .ok (.iadd, 1) := by decide +kernel
theorem dL_law_1086 : decode cL_law 1086 = .ok (.iaload, 1) := by decide +kernel
theorem dL_law_1087 : decode cL_law 1087 = .ok (.invokevirtual 126, 3) := by decide +kernel
theorem dL_law_1090 : decode cL_law 1090 = .ok (.aload_n 2, 1) := by decide +kernel
theorem dL_law_1091 : decode cL_law 1091 = .ok (.aload_n 0, 1) := by decide +kernel
theorem dL_law_1092 : decode cL_law 1092 = .ok (.iload_n 3, 1) := by decide +kernel
theorem dL_law_1093 : decode cL_law 1093 = .ok (.iconst 1, 1) := by decide +kernel
theorem dL_law_1094 : decode cL_law 1094 = .ok (.iadd, 1) := by decide +kernel
theorem dL_law_1095 : decode cL_law 1095 = .ok (.iaload, 1) := by decide +kernel
theorem dL_law_1096 : decode cL_law 1096 = .ok (.aload_n 0, 1) := by decide +kernel
theorem dL_law_1097 : decode cL_law 1097 = .ok (.iload_n 3, 1) := by decide +kernel
theorem dL_law_1098 : decode cL_law 1098 = .ok (.iconst 2, 1) := by decide +kernel
theorem dL_law_1099 : decode cL_law 1099 = .ok (.iadd, 1) := by decide +kernel
theorem dL_law_1100 : decode cL_law 1100 = .ok (.iaload, 1) := by decide +kernel
theorem dL_law_1101 : decode cL_law 1101 = .ok (.aload_n 0, 1) := by decide +kernel
theorem dL_law_1102 : decode cL_law 1102 = .ok (.iload_n 3, 1) := by decide +kernel
theorem dL_law_1103 : decode cL_law 1103 = .ok (.iconst 3, 1) := by decide +kernel
theorem dL_law_1104 : decode cL_law 1104 = .ok (.iadd, 1) := by decide +kernel
theorem dL_law_1105 : decode cL_law 1105 = .ok (.iaload, 1) := by decide +kernel
theorem dL_law_1106 : decode cL_law 1106 = .ok (.aload_n 0, 1) := by decide +kernel
theorem dL_law_1107 : decode cL_law 1107 = .ok (.iload_n 3, 1) := by decide +kernel
theorem dL_law_1108 : decode cL_law 1108 = .ok (.iconst 4, 1) := by decide +kernel
theorem dL_law_1109 : decode cL_law 1109 = .ok (.iadd, 1) := by decide +kernel
theorem dL_law_1110 : decode cL_law 1110 = .ok (.iaload, 1) := by decide +kernel
theorem dL_law_1111 : decode cL_law 1111 = .ok (.aload_n 0, 1) := by decide +kernel
theorem dL_law_1112 : decode cL_law 1112 = .ok (.iload_n 3, 1) := by decide +kernel
theorem dL_law_1113 : decode cL_law 1113 = .ok (.iconst 5, 1) := by decide +kernel
theorem dL_law_1114 : decode cL_law 1114 = .ok (.iadd, 1) := by decide +kernel
theorem dL_law_1115 : decode cL_law 1115 = .ok (.iaload, 1) := by decide +kernel
theorem dL_law_1116 : decode cL_law 1116 = .ok (.invokevirtual 129, 3) := by decide +kernel
theorem dL_law_1119 : decode cL_law 1119 = .ok (.if_icmp .eq 296, 3) := by decide +kernel
theorem dL_law_1122 : decode cL_law 1122 = .ok (.iconst 0, 1) := by decide +kernel
theorem dL_law_1123 : decode cL_law 1123 = .ok (.ireturn, 1) := by decide +kernel
theorem dL_law_1124 : decode cL_law 1124 = .ok (.aload_n 1, 1) := by decide +kernel
theorem dL_law_1125 : decode cL_law 1125 = .ok (.aload_n 0, 1) := by decide +kernel
theorem dL_law_1126 : decode cL_law 1126 = .ok (.iload_n 3, 1) := by decide +kernel
theorem dL_law_1127 : decode cL_law 1127 = .ok (.iconst 1, 1) := by decide +kernel
theorem dL_law_1128 : decode cL_law 1128 = .ok (.iadd, 1) := by decide +kernel
theorem dL_law_1129 : decode cL_law 1129 = .ok (.iaload, 1) := by decide +kernel
theorem dL_law_1130 : decode cL_law 1130 = .ok (.aload_n 0, 1) := by decide +kernel
theorem dL_law_1131 : decode cL_law 1131 = .ok (.iload_n 3, 1) := by decide +kernel
theorem dL_law_1132 : decode cL_law 1132 = .ok (.iconst 2, 1) := by decide +kernel
theorem dL_law_1133 : decode cL_law 1133 = .ok (.iadd, 1) := by decide +kernel
theorem dL_law_1134 : decode cL_law 1134 = .ok (.iaload, 1) := by decide +kernel
theorem dL_law_1135 : decode cL_law 1135 = .ok (.aload_n 0, 1) := by decide +kernel
theorem dL_law_1136 : decode cL_law 1136 = .ok (.iload_n 3, 1) := by decide +kernel
theorem dL_law_1137 : decode cL_law 1137 = .ok (.iconst 3, 1) := by decide +kernel
theorem dL_law_1138 : decode cL_law 1138 = .ok (.iadd, 1) := by decide +kernel
theorem dL_law_1139 : decode cL_law 1139 = .ok (.iaload, 1) := by decide +kernel
theorem dL_law_1140 : decode cL_law 1140 = .ok (.aload_n 0, 1) := by decide +kernel
theorem dL_law_1141 : decode cL_law 1141 = .ok (.iload_n 3, 1) := by decide +kernel
theorem dL_law_1142 : decode cL_law 1142 = .ok (.iconst 4, 1) := by decide +kernel
theorem dL_law_1143 : decode cL_law 1143 = .ok (.iadd, 1) := by decide +kernel
theorem dL_law_1144 : decode cL_law 1144 = .ok (.iaload, 1) := by decide +kernel
theorem dL_law_1145 : decode cL_law 1145 = .ok (.invokevirtual 130, 3) := by decide +kernel
theorem dL_law_1148 : decode cL_law 1148 = .ok (.aload_n 2, 1) := by decide +kernel
theorem dL_law_1149 : decode cL_law 1149 = .ok (.aload_n 0, 1) := by decide +kernel
theorem dL_law_1150 : decode cL_law 1150 = .ok (.iload_n 3, 1) := by decide +kernel
theorem dL_law_1151 : decode cL_law 1151 = .ok (.iconst 1, 1) := by decide +kernel
theorem dL_law_1152 : decode cL_law 1152 = .ok (.iadd, 1) := by decide +kernel
theorem dL_law_1153 : decode cL_law 1153 = .ok (.iaload, 1) := by decide +kernel
theorem dL_law_1154 : decode cL_law 1154 = .ok (.aload_n 0, 1) := by decide +kernel
theorem dL_law_1155 : decode cL_law 1155 = .ok (.iload_n 3, 1) := by decide +kernel
theorem dL_law_1156 : decode cL_law 1156 = .ok (.iconst 2, 1) := by decide +kernel
theorem dL_law_1157 : decode cL_law 1157 = .ok (.iadd, 1) := by decide +kernel
theorem dL_law_1158 : decode cL_law 1158 = .ok (.iaload, 1) := by decide +kernel
theorem dL_law_1159 : decode cL_law 1159 = .ok (.aload_n 0, 1) := by decide +kernel
theorem dL_law_1160 : decode cL_law 1160 = .ok (.iload_n 3, 1) := by decide +kernel
theorem dL_law_1161 : decode cL_law 1161 = .ok (.iconst 3, 1) := by decide +kernel
theorem dL_law_1162 : decode cL_law 1162 = .ok (.iadd, 1) := by decide +kernel
theorem dL_law_1163 : decode cL_law 1163 = .ok (.iaload, 1) := by decide +kernel
theorem dL_law_1164 : decode cL_law 1164 = .ok (.aload_n 0, 1) := by decide +kernel
theorem dL_law_1165 : decode cL_law 1165 = .ok (.iload_n 3, 1) := by decide +kernel
theorem dL_law_1166 : decode cL_law 1166 = .ok (.iconst 4, 1) := by decide +kernel
theorem dL_law_1167 : decode cL_law 1167 = .ok (.iadd, 1) := by decide +kernel
theorem dL_law_1168 : decode cL_law 1168 = .ok (.iaload, 1) := by decide +kernel
theorem dL_law_1169 : decode cL_law 1169 = .ok (.invokevirtual 134, 3) := by decide +kernel
theorem dL_law_1172 : decode cL_law 1172 = .ok (.lcmp, 1) := by decide +kernel
theorem dL_law_1173 : decode cL_law 1173 = .ok (.ifCond .eq 242, 3) := by decide +kernel
theorem dL_law_1176 : decode cL_law 1176 = .ok (.iconst 0, 1) := by decide +kernel
theorem dL_law_1177 : decode cL_law 1177 = .ok (.ireturn, 1) := by decide +kernel
theorem dL_law_1178 : decode cL_law 1178 = .ok (.aload_n 1, 1) := by decide +kernel
theorem dL_law_1179 : decode cL_law 1179 = .ok (.aload_n 0, 1) := by decide +kernel
theorem dL_law_1180 : decode cL_law 1180 = .ok (.iload_n 3, 1) := by decide +kernel
theorem dL_law_1181 : decode cL_law 1181 = .ok (.iconst 1, 1) := by decide +kernel
theorem dL_law_1182 : decode cL_law 1182 = .ok (.iadd, 1) := by decide +kernel
theorem dL_law_1183 : decode cL_law 1183 = .ok (.iaload, 1) := by decide +kernel
theorem dL_law_1184 : decode cL_law 1184 = .ok (.aload_n 0, 1) := by decide +kernel
theorem dL_law_1185 : decode cL_law 1185 = .ok (.iload_n 3, 1) := by decide +kernel
theorem dL_law_1186 : decode cL_law 1186 = .ok (.iconst 2, 1) := by decide +kernel
theorem dL_law_1187 : decode cL_law 1187 = .ok (.iadd, 1) := by decide +kernel
theorem dL_law_1188 : decode cL_law 1188 = .ok (.iaload, 1) := by decide +kernel
theorem dL_law_1189 : decode cL_law 1189 = .ok (.aload_n 0, 1) := by decide +kernel
theorem dL_law_1190 : decode cL_law 1190 = .ok (.iload_n 3, 1) := by decide +kernel
theorem dL_law_1191 : decode cL_law 1191 = .ok (.iconst 3, 1) := by decide +kernel
theorem dL_law_1192 : decode cL_law 1192 = .ok (.iadd, 1) := by decide +kernel
theorem dL_law_1193 : decode cL_law 1193 = .ok (.iaload, 1) := by decide +kernel
theorem dL_law_1194 : decode cL_law 1194 = .ok (.invokevirtual 135, 3) := by decide +kernel
theorem dL_law_1197 : decode cL_law 1197 = .ok (.aload_n 2, 1) := by decide +kernel
theorem dL_law_1198 : decode cL_law 1198 = .ok (.aload_n 0, 1) := by decide +kernel
theorem dL_law_1199 : decode cL_law 1199 = .ok (.iload_n 3, 1) := by decide +kernel
theorem dL_law_1200 : decode cL_law 1200 = .ok (.iconst 1, 1) := by decide +kernel
theorem dL_law_1201 : decode cL_law 1201 = .ok (.iadd, 1) := by decide +kernel
theorem dL_law_1202 : decode cL_law 1202 = .ok (.iaload, 1) := by decide +kernel
theorem dL_law_1203 : decode cL_law 1203 = .ok (.aload_n 0, 1) := by decide +kernel
theorem dL_law_1204 : decode cL_law 1204 = .ok (.iload_n 3, 1) := by decide +kernel
theorem dL_law_1205 : decode cL_law 1205 = .ok (.iconst 2, 1) := by decide +kernel
theorem dL_law_1206 : decode cL_law 1206 = .ok (.iadd, 1) := by decide +kernel
theorem dL_law_1207 : decode cL_law 1207 = .ok (.iaload, 1) := by decide +kernel
theorem dL_law_1208 : decode cL_law 1208 = .ok (.aload_n 0, 1) := by decide +kernel
theorem dL_law_1209 : decode cL_law 1209 = .ok (.iload_n 3, 1) := by decide +kernel
theorem dL_law_1210 : decode cL_law 1210 = .ok (.iconst 3, 1) := by decide +kernel
theorem dL_law_1211 : decode cL_law 1211 = .ok (.iadd, 1) := by decide +kernel
theorem dL_law_1212 : decode cL_law 1212 = .ok (.iaload, 1) := by decide +kernel
theorem dL_law_1213 : decode cL_law 1213 = .ok (.invokevirtual 138, 3) := by decide +kernel
theorem dL_law_1216 : decode cL_law 1216 = .ok (.if_icmp .eq 199, 3) := by decide +kernel
theorem dL_law_1219 : decode cL_law 1219 = .ok (.iconst 0, 1) := by decide +kernel
theorem dL_law_1220 : decode cL_law 1220 = .ok (.ireturn, 1) := by decide +kernel
theorem dL_law_1221 : decode cL_law 1221 = .ok (.aload_n 1, 1) := by decide +kernel
theorem dL_law_1222 : decode cL_law 1222 = .ok (.aload_n 0, 1) := by decide +kernel
theorem dL_law_1223 : decode cL_law 1223 = .ok (.iload_n 3, 1) := by decide +kernel
theorem dL_law_1224 : decode cL_law 1224 = .ok (.iconst 1, 1) := by decide +kernel
theorem dL_law_1225 : decode cL_law 1225 = .ok (.iadd, 1) := by decide +kernel
theorem dL_law_1226 : decode cL_law 1226 = .ok (.iaload, 1) := by decide +kernel
theorem dL_law_1227 : decode cL_law 1227 = .ok (.invokevirtual 139, 3) := by decide +kernel
theorem dL_law_1230 : decode cL_law 1230 = .ok (.aload_n 2, 1) := by decide +kernel
theorem dL_law_1231 : decode cL_law 1231 = .ok (.aload_n 0, 1) := by decide +kernel
theorem dL_law_1232 : decode cL_law 1232 = .ok (.iload_n 3, 1) := by decide +kernel
theorem dL_law_1233 : decode cL_law 1233 = .ok (.iconst 1, 1) := by decide +kernel
theorem dL_law_1234 : decode cL_law 1234 = .ok (.iadd, 1) := by decide +kernel
theorem dL_law_1235 : decode cL_law 1235 = .ok (.iaload, 1) := by decide +kernel
theorem dL_law_1236 : decode cL_law 1236 = .ok (.invokevirtual 142, 3) := by decide +kernel
theorem dL_law_1239 : decode cL_law 1239 = .ok (.if_icmp .eq 176, 3) := by decide +kernel
theorem dL_law_1242 : decode cL_law 1242 = .ok (.iconst 0, 1) := by decide +kernel
theorem dL_law_1243 : decode cL_law 1243 = .ok (.ireturn, 1) := by decide +kernel
theorem dL_law_1244 : decode cL_law 1244 = .ok (.aload_n 1, 1) := by decide +kernel
theorem dL_law_1245 : decode cL_law 1245 = .ok (.aload_n 0, 1) := by decide +kernel
theorem dL_law_1246 : decode cL_law 1246 = .ok (.iload_n 3, 1) := by decide +kernel
theorem dL_law_1247 : decode cL_law 1247 = .ok (.iconst 1, 1) := by decide +kernel
theorem dL_law_1248 : decode cL_law 1248 = .ok (.iadd, 1) := by decide +kernel
theorem dL_law_1249 : decode cL_law 1249 = .ok (.iaload, 1) := by decide +kernel
theorem dL_law_1250 : decode cL_law 1250 = .ok (.invokevirtual 143, 3) := by decide +kernel
theorem dL_law_1253 : decode cL_law 1253 = .ok (.aload_n 2, 1) := by decide +kernel
theorem dL_law_1254 : decode cL_law 1254 = .ok (.aload_n 0, 1) := by decide +kernel
theorem dL_law_1255 : decode cL_law 1255 = .ok (.iload_n 3, 1) := by decide +kernel
theorem dL_law_1256 : decode cL_law 1256 = .ok (.iconst 1, 1) := by decide +kernel
theorem dL_law_1257 : decode cL_law 1257 = .ok (.iadd, 1) := by decide +kernel
theorem dL_law_1258 : decode cL_law 1258 = .ok (.iaload, 1) := by decide +kernel
theorem dL_law_1259 : decode cL_law 1259 = .ok (.invokevirtual 146, 3) := by decide +kernel
theorem dL_law_1262 : decode cL_law 1262 = .ok (.if_icmp .eq 153, 3) := by decide +kernel
theorem dL_law_1265 : decode cL_law 1265 = .ok (.iconst 0, 1) := by decide +kernel
theorem dL_law_1266 : decode cL_law 1266 = .ok (.ireturn, 1) := by decide +kernel
theorem dL_law_1267 : decode cL_law 1267 = .ok (.aload_n 1, 1) := by decide +kernel
theorem dL_law_1268 : decode cL_law 1268 = .ok (.aload_n 0, 1) := by decide +kernel
theorem dL_law_1269 : decode cL_law 1269 = .ok (.iload_n 3, 1) := by decide +kernel
theorem dL_law_1270 : decode cL_law 1270 = .ok (.iconst 1, 1) := by decide +kernel
theorem dL_law_1271 : decode cL_law 1271 = .ok (.iadd, 1) := by decide +kernel
theorem dL_law_1272 : decode cL_law 1272 = .ok (.iaload, 1) := by decide +kernel
theorem dL_law_1273 : decode cL_law 1273 = .ok (.invokevirtual 147, 3) := by decide +kernel
theorem dL_law_1276 : decode cL_law 1276 = .ok (.aload_n 2, 1) := by decide +kernel
theorem dL_law_1277 : decode cL_law 1277 = .ok (.aload_n 0, 1) := by decide +kernel
theorem dL_law_1278 : decode cL_law 1278 = .ok (.iload_n 3, 1) := by decide +kernel
theorem dL_law_1279 : decode cL_law 1279 = .ok (.iconst 1, 1) := by decide +kernel
theorem dL_law_1280 : decode cL_law 1280 = .ok (.iadd, 1) := by decide +kernel
theorem dL_law_1281 : decode cL_law 1281 = .ok (.iaload, 1) := by decide +kernel
theorem dL_law_1282 : decode cL_law 1282 = .ok (.invokevirtual 150, 3) := by decide +kernel
theorem dL_law_1285 : decode cL_law 1285 = .ok (.if_icmp .eq 130, 3) := by decide +kernel
theorem dL_law_1288 : decode cL_law 1288 = .ok (.iconst 0, 1) := by decide +kernel
theorem dL_law_1289 : decode cL_law 1289 = .ok (.ireturn, 1) := by decide +kernel
theorem dL_law_1290 : decode cL_law 1290 = .ok (.aload_n 1, 1) := by decide +kernel
theorem dL_law_1291 : decode cL_law 1291 = .ok (.aload_n 0, 1) := by decide +kernel
theorem dL_law_1292 : decode cL_law 1292 = .ok (.iload_n 3, 1) := by decide +kernel
theorem dL_law_1293 : decode cL_law 1293 = .ok (.iconst 1, 1) := by decide +kernel
theorem dL_law_1294 : decode cL_law 1294 = .ok (.iadd, 1) := by decide +kernel
theorem dL_law_1295 : decode cL_law 1295 = .ok (.iaload, 1) := by decide +kernel
theorem dL_law_1296 : decode cL_law 1296 = .ok (.aload_n 0, 1) := by decide +kernel
theorem dL_law_1297 : decode cL_law 1297 = .ok (.iload_n 3, 1) := by decide +kernel
theorem dL_law_1298 : decode cL_law 1298 = .ok (.iconst 2, 1) := by decide +kernel
theorem dL_law_1299 : decode cL_law 1299 = .ok (.iadd, 1) := by decide +kernel
theorem dL_law_1300 : decode cL_law 1300 = .ok (.iaload, 1) := by decide +kernel
theorem dL_law_1301 : decode cL_law 1301 = .ok (.invokevirtual 151, 3) := by decide +kernel
theorem dL_law_1304 : decode cL_law 1304 = .ok (.aload_n 2, 1) := by decide +kernel
theorem dL_law_1305 : decode cL_law 1305 = .ok (.aload_n 0, 1) := by decide +kernel
theorem dL_law_1306 : decode cL_law 1306 = .ok (.iload_n 3, 1) := by decide +kernel
theorem dL_law_1307 : decode cL_law 1307 = .ok (.iconst 1, 1) := by decide +kernel
theorem dL_law_1308 : decode cL_law 1308 = .ok (.iadd, 1) := by decide +kernel
theorem dL_law_1309 : decode cL_law 1309 = .ok (.iaload, 1) := by decide +kernel
theorem dL_law_1310 : decode cL_law 1310 = .ok (.aload_n 0, 1) := by decide +kernel
theorem dL_law_1311 : decode cL_law 1311 = .ok (.iload_n 3, 1) := by decide +kernel
theorem dL_law_1312 : decode cL_law 1312 = .ok (.iconst 2, 1) := by decide +kernel
theorem dL_law_1313 : decode cL_law 1313 = .ok (.iadd, 1) := by decide +kernel
theorem dL_law_1314 : decode cL_law 1314 = .ok (.iaload, 1) := by decide +kernel
theorem dL_law_1315 : decode cL_law 1315 = .ok (.invokevirtual 154, 3) := by decide +kernel
theorem dL_law_1318 : decode cL_law 1318 = .ok (.if_icmp .eq 97, 3) := by decide +kernel
theorem dL_law_1321 : decode cL_law 1321 = .ok (.iconst 0, 1) := by decide +kernel
theorem dL_law_1322 : decode cL_law 1322 = .ok (.ireturn, 1) := by decide +kernel
theorem dL_law_1323 : decode cL_law 1323 = .ok (.aload_n 1, 1) := by decide +kernel
theorem dL_law_1324 : decode cL_law 1324 = .ok (.aload_n 0, 1) := by decide +kernel
theorem dL_law_1325 : decode cL_law 1325 = .ok (.iload_n 3, 1) := by decide +kernel
theorem dL_law_1326 : decode cL_law 1326 = .ok (.iconst 1, 1) := by decide +kernel
theorem dL_law_1327 : decode cL_law 1327 = .ok (.iadd, 1) := by decide +kernel
theorem dL_law_1328 : decode cL_law 1328 = .ok (.iaload, 1) := by decide +kernel
theorem dL_law_1329 : decode cL_law 1329 = .ok (.aload_n 0, 1) := by decide +kernel
theorem dL_law_1330 : decode cL_law 1330 = .ok (.iload_n 3, 1) := by decide +kernel
theorem dL_law_1331 : decode cL_law 1331 = .ok (.iconst 2, 1) := by decide +kernel
theorem dL_law_1332 : decode cL_law 1332 = .ok (.iadd, 1) := by decide +kernel
theorem dL_law_1333 : decode cL_law 1333 = .ok (.iaload, 1) := by decide +kernel
theorem dL_law_1334 : decode cL_law 1334 = .ok (.invokevirtual 155, 3) := by decide +kernel
theorem dL_law_1337 : decode cL_law 1337 = .ok (.aload_n 2, 1) := by decide +kernel
theorem dL_law_1338 : decode cL_law 1338 = .ok (.aload_n 0, 1) := by decide +kernel
theorem dL_law_1339 : decode cL_law 1339 = .ok (.iload_n 3, 1) := by decide +kernel
theorem dL_law_1340 : decode cL_law 1340 = .ok (.iconst 1, 1) := by decide +kernel
theorem dL_law_1341 : decode cL_law 1341 = .ok (.iadd, 1) := by decide +kernel
theorem dL_law_1342 : decode cL_law 1342 = .ok (.iaload, 1) := by decide +kernel
theorem dL_law_1343 : decode cL_law 1343 = .ok (.aload_n 0, 1) := by decide +kernel
theorem dL_law_1344 : decode cL_law 1344 = .ok (.iload_n 3, 1) := by decide +kernel
theorem dL_law_1345 : decode cL_law 1345 = .ok (.iconst 2, 1) := by decide +kernel
theorem dL_law_1346 : decode cL_law 1346 = .ok (.iadd, 1) := by decide +kernel
theorem dL_law_1347 : decode cL_law 1347 = .ok (.iaload, 1) := by decide +kernel
theorem dL_law_1348 : decode cL_law 1348 = .ok (.invokevirtual 158, 3) := by decide +kernel
theorem dL_law_1351 : decode cL_law 1351 = .ok (.if_icmp .eq 64, 3) := by decide +kernel
theorem dL_law_1354 : decode cL_law 1354 = .ok (.iconst 0, 1) := by decide +kernel
theorem dL_law_1355 : decode cL_law 1355 = .ok (.ireturn, 1) := by decide +kernel
theorem dL_law_1356 : decode cL_law 1356 = .ok (.aload_n 1, 1) := by decide +kernel
theorem dL_law_1357 : decode cL_law 1357 = .ok (.aload_n 0, 1) := by decide +kernel
theorem dL_law_1358 : decode cL_law 1358 = .ok (.iload_n 3, 1) := by decide +kernel
theorem dL_law_1359 : decode cL_law 1359 = .ok (.iconst 1, 1) := by decide +kernel
theorem dL_law_1360 : decode cL_law 1360 = .ok (.iadd, 1) := by decide +kernel
theorem dL_law_1361 : decode cL_law 1361 = .ok (.iaload, 1) := by decide +kernel
theorem dL_law_1362 : decode cL_law 1362 = .ok (.invokevirtual 159, 3) := by decide +kernel
theorem dL_law_1365 : decode cL_law 1365 = .ok (.aload_n 2, 1) := by decide +kernel
theorem dL_law_1366 : decode cL_law 1366 = .ok (.aload_n 0, 1) := by decide +kernel
theorem dL_law_1367 : decode cL_law 1367 = .ok (.iload_n 3, 1) := by decide +kernel
theorem dL_law_1368 : decode cL_law 1368 = .ok (.iconst 1, 1) := by decide +kernel
theorem dL_law_1369 : decode cL_law 1369 = .ok (.iadd, 1) := by decide +kernel
theorem dL_law_1370 : decode cL_law 1370 = .ok (.iaload, 1) := by decide +kernel
theorem dL_law_1371 : decode cL_law 1371 = .ok (.invokevirtual 162, 3) := by decide +kernel
theorem dL_law_1374 : decode cL_law 1374 = .ok (.if_icmp .eq 41, 3) := by decide +kernel
theorem dL_law_1377 : decode cL_law 1377 = .ok (.iconst 0, 1) := by decide +kernel
theorem dL_law_1378 : decode cL_law 1378 = .ok (.ireturn, 1) := by decide +kernel
theorem dL_law_1379 : decode cL_law 1379 = .ok (.aload_n 1, 1) := by decide +kernel
theorem dL_law_1380 : decode cL_law 1380 = .ok (.aload_n 0, 1) := by decide +kernel
theorem dL_law_1381 : decode cL_law 1381 = .ok (.iload_n 3, 1) := by decide +kernel
theorem dL_law_1382 : decode cL_law 1382 = .ok (.iconst 1, 1) := by decide +kernel
theorem dL_law_1383 : decode cL_law 1383 = .ok (.iadd, 1) := by decide +kernel
theorem dL_law_1384 : decode cL_law 1384 = .ok (.iaload, 1) := by decide +kernel
theorem dL_law_1385 : decode cL_law 1385 = .ok (.invokevirtual 163, 3) := by decide +kernel
theorem dL_law_1388 : decode cL_law 1388 = .ok (.aload_n 2, 1) := by decide +kernel
theorem dL_law_1389 : decode cL_law 1389 = .ok (.aload_n 0, 1) := by decide +kernel
theorem dL_law_1390 : decode cL_law 1390 = .ok (.iload_n 3, 1) := by decide +kernel
theorem dL_law_1391 : decode cL_law 1391 = .ok (.iconst 1, 1) := by decide +kernel
theorem dL_law_1392 : decode cL_law 1392 = .ok (.iadd, 1) := by decide +kernel
theorem dL_law_1393 : decode cL_law 1393 = .ok (.iaload, 1) := by decide +kernel
theorem dL_law_1394 : decode cL_law 1394 = .ok (.invokevirtual 166, 3) := by decide +kernel
theorem dL_law_1397 : decode cL_law 1397 = .ok (.if_icmp .eq 18, 3) := by decide +kernel
theorem dL_law_1400 : decode cL_law 1400 = .ok (.iconst 0, 1) := by decide +kernel
theorem dL_law_1401 : decode cL_law 1401 = .ok (.ireturn, 1) := by decide +kernel
theorem dL_law_1402 : decode cL_law 1402 = .ok (.aload_n 1, 1) := by decide +kernel
theorem dL_law_1403 : decode cL_law 1403 = .ok (.invokevirtual 167, 3) := by decide +kernel
theorem dL_law_1406 : decode cL_law 1406 = .ok (.aload_n 2, 1) := by decide +kernel
theorem dL_law_1407 : decode cL_law 1407 = .ok (.invokevirtual 170, 3) := by decide +kernel
theorem dL_law_1410 : decode cL_law 1410 = .ok (.if_icmp .eq 5, 3) := by decide +kernel
theorem dL_law_1413 : decode cL_law 1413 = .ok (.iconst 0, 1) := by decide +kernel
theorem dL_law_1414 : decode cL_law 1414 = .ok (.ireturn, 1) := by decide +kernel
theorem dL_law_1415 : decode cL_law 1415 = .ok (.iinc 3 6, 3) := by decide +kernel
theorem dL_law_1418 : decode cL_law 1418 = .ok (.goto (-1400), 3) := by decide +kernel
theorem dL_law_1421 : decode cL_law 1421 = .ok (.iconst 1, 1) := by decide +kernel
theorem dL_law_1422 : decode cL_law 1422 = .ok (.ireturn, 1) := by decide +kernel
