theorem dX7_init_0 : decode cX7_init 0 = .ok (.aload_n 0, 1) := by decide +kernel
theorem dX7_init_1 : decode cX7_init 1 = .ok (.invokespecial 1, 3) := by decide +kernel
theorem dX7_init_4 : decode cX7_init 4 = .ok (.aload_n 0, 1) := by decide +kernel
theorem dX7_init_5 : decode cX7_init 5 = .ok (.bipush 22, 2) := by decide +kernel
theorem dX7_init_7 : decode cX7_init 7 = .ok (.newarray .int, 2) := by decide +kernel
theorem dX7_init_9 : decode cX7_init 9 = .ok (.putfield 7, 3) := by decide +kernel
theorem dX7_init_12 : decode cX7_init 12 = .ok (.aload_n 0, 1) := by decide +kernel
theorem dX7_init_13 : decode cX7_init 13 = .ok (.bipush 22, 2) := by decide +kernel
theorem dX7_init_15 : decode cX7_init 15 = .ok (.newarray .int, 2) := by decide +kernel
theorem dX7_init_17 : decode cX7_init 17 = .ok (.putfield 13, 3) := by decide +kernel
theorem dX7_init_20 : decode cX7_init 20 = .ok (.aload_n 0, 1) := by decide +kernel
theorem dX7_init_21 : decode cX7_init 21 = .ok (.iconst 2, 1) := by decide +kernel
theorem dX7_init_22 : decode cX7_init 22 = .ok (.putfield 16, 3) := by decide +kernel
theorem dX7_init_25 : decode cX7_init 25 = .ok (.aload_n 0, 1) := by decide +kernel
theorem dX7_init_26 : decode cX7_init 26 = .ok (.bipush 16, 2) := by decide +kernel
theorem dX7_init_28 : decode cX7_init 28 = .ok (.newarray .int, 2) := by decide +kernel
theorem dX7_init_30 : decode cX7_init 30 = .ok (.putfield 20, 3) := by decide +kernel
theorem dX7_init_33 : decode cX7_init 33 = .ok (.aload_n 0, 1) := by decide +kernel
theorem dX7_init_34 : decode cX7_init 34 = .ok (.bipush 60, 2) := by decide +kernel
theorem dX7_init_36 : decode cX7_init 36 = .ok (.newarray .int, 2) := by decide +kernel
theorem dX7_init_38 : decode cX7_init 38 = .ok (.putfield 23, 3) := by decide +kernel
theorem dX7_init_41 : decode cX7_init 41 = .ok (.aload_n 0, 1) := by decide +kernel
theorem dX7_init_42 : decode cX7_init 42 = .ok (.bipush 8, 2) := by decide +kernel
theorem dX7_init_44 : decode cX7_init 44 = .ok (.newarray .int, 2) := by decide +kernel
theorem dX7_init_46 : decode cX7_init 46 = .ok (.putfield 26, 3) := by decide +kernel
theorem dX7_init_49 : decode cX7_init 49 = .ok (.aload_n 0, 1) := by decide +kernel
theorem dX7_init_50 : decode cX7_init 50 = .ok (.bipush 8, 2) := by decide +kernel
theorem dX7_init_52 : decode cX7_init 52 = .ok (.newarray .int, 2) := by decide +kernel
theorem dX7_init_54 : decode cX7_init 54 = .ok (.putfield 29, 3) := by decide +kernel
theorem dX7_init_57 : decode cX7_init 57 = .ok (.aload_n 0, 1) := by decide +kernel
theorem dX7_init_58 : decode cX7_init 58 = .ok (.bipush 7, 2) := by decide +kernel
theorem dX7_init_60 : decode cX7_init 60 = .ok (.newarray .int, 2) := by decide +kernel
theorem dX7_init_62 : decode cX7_init 62 = .ok (.putfield 32, 3) := by decide +kernel
theorem dX7_init_65 : decode cX7_init 65 = .ok (.aload_n 0, 1) := by decide +kernel
theorem dX7_init_66 : decode cX7_init 66 = .ok (.bipush 61, 2) := by decide +kernel
theorem dX7_init_68 : decode cX7_init 68 = .ok (.newarray .int, 2) := by decide +kernel
theorem dX7_init_70 : decode cX7_init 70 = .ok (.putfield 35, 3) := by decide +kernel
theorem dX7_init_73 : decode cX7_init 73 = .ok (.aload_n 0, 1) := by decide +kernel
theorem dX7_init_74 : decode cX7_init 74 = .ok (.bipush 64, 2) := by decide +kernel
theorem dX7_init_76 : decode cX7_init 76 = .ok (.newarray .boolean, 2) := by decide +kernel
theorem dX7_init_78 : decode cX7_init 78 = .ok (.putfield 38, 3) := by decide +kernel
theorem dX7_init_81 : decode cX7_init 81 = .ok (.aload_n 0, 1) := by decide +kernel
theorem dX7_init_82 : decode cX7_init 82 = .ok (.bipush 100, 2) := by decide +kernel
theorem dX7_init_84 : decode cX7_init 84 = .ok (.newarray .int, 2) := by decide +kernel
theorem dX7_init_86 : decode cX7_init 86 = .ok (.putfield 42, 3) := by decide +kernel
theorem dX7_init_89 : decode cX7_init 89 = .ok (.aload_n 0, 1) := by decide +kernel
theorem dX7_init_90 : decode cX7_init 90 = .ok (.iconst 2, 1) := by decide +kernel
theorem dX7_init_91 : decode cX7_init 91 = .ok (.newarray .boolean, 2) := by decide +kernel
theorem dX7_init_93 : decode cX7_init 93 = .ok (.putfield 45, 3) := by decide +kernel
theorem dX7_init_96 : decode cX7_init 96 = .ok (.iconst 0, 1) := by decide +kernel
theorem dX7_init_97 : decode cX7_init 97 = .ok (.istore_n 1, 1) := by decide +kernel
theorem dX7_init_98 : decode cX7_init 98 = .ok (.iload_n 1, 1) := by decide +kernel
theorem dX7_init_99 : decode cX7_init 99 = .ok (.bipush 6, 2) := by decide +kernel
theorem dX7_init_101 : decode cX7_init 101 = .ok (.if_icmp .ge 30, 3) := by decide +kernel
theorem dX7_init_104 : decode cX7_init 104 = .ok (.aload_n 0, 1) := by decide +kernel
theorem dX7_init_105 : decode cX7_init 105 = .ok (.getfield 7, 3) := by decide +kernel
theorem dX7_init_108 : decode cX7_init 108 = .ok (.bipush 6, 2) := by decide +kernel
theorem dX7_init_110 : decode cX7_init 110 = .ok (.iload_n 1, 1) := by decide +kernel
theorem dX7_init_111 : decode cX7_init 111 = .ok (.iadd, 1) := by decide +kernel
theorem dX7_init_112 : decode cX7_init 112 = .ok (.iconst 5, 1) := by decide +kernel
theorem dX7_init_113 : decode cX7_init 113 = .ok (.iastore, 1) := by decide +kernel
theorem dX7_init_114 : decode cX7_init 114 = .ok (.aload_n 0, 1) := by decide +kernel
theorem dX7_init_115 : decode cX7_init 115 = .ok (.getfield 7, 3) := by decide +kernel
theorem dX7_init_118 : decode cX7_init 118 = .ok (.bipush 12, 2) := by decide +kernel
theorem dX7_init_120 : decode cX7_init 120 = .ok (.iload_n 1, 1) := by decide +kernel
theorem dX7_init_121 : decode cX7_init 121 = .ok (.iadd, 1) := by decide +kernel
theorem dX7_init_122 : decode cX7_init 122 = .ok (.bipush (-6), 2) := by decide +kernel
theorem dX7_init_124 : decode cX7_init 124 = .ok (.iastore, 1) := by decide +kernel
theorem dX7_init_125 : decode cX7_init 125 = .ok (.iinc 1 1, 3) := by decide +kernel
theorem dX7_init_128 : decode cX7_init 128 = .ok (.goto (-30), 3) := by decide +kernel
theorem dX7_init_131 : decode cX7_init 131 = .ok (.return_, 1) := by decide +kernel
theorem dX7_in_0 : decode cX7_in 0 = .ok (.iload_n 0, 1) := by decide +kernel
theorem dX7_in_1 : decode cX7_in 1 = .ok (.iload_n 1, 1) := by decide +kernel
theorem dX7_in_2 : decode cX7_in 2 = .ok (.if_icmp .lt 12, 3) := by decide +kernel
theorem dX7_in_5 : decode cX7_in 5 = .ok (.iload_n 0, 1) := by decide +kernel
theorem dX7_in_6 : decode cX7_in 6 = .ok (.iload_n 2, 1) := by decide +kernel
theorem dX7_in_7 : decode cX7_in 7 = .ok (.if_icmp .gt 7, 3) := by decide +kernel
theorem dX7_in_10 : decode cX7_in 10 = .ok (.iconst 1, 1) := by decide +kernel
theorem dX7_in_11 : decode cX7_in 11 = .ok (.goto 4, 3) := by decide +kernel
theorem dX7_in_14 : decode cX7_in 14 = .ok (.iconst 0, 1) := by decide +kernel
theorem dX7_in_15 : decode cX7_in 15 = .ok (.ireturn, 1) := by decide +kernel
theorem dX7_has_0 : decode cX7_has 0 = .ok (.iload_n 0, 1) := by decide +kernel
theorem dX7_has_1 : decode cX7_has 1 = .ok (.iload_n 1, 1) := by decide +kernel
theorem dX7_has_2 : decode cX7_has 2 = .ok (.ishr, 1) := by decide +kernel
theorem dX7_has_3 : decode cX7_has 3 = .ok (.iconst 1, 1) := by decide +kernel
theorem dX7_has_4 : decode cX7_has 4 = .ok (.iand, 1) := by decide +kernel
theorem dX7_has_5 : decode cX7_has 5 = .ok (.iconst 1, 1) := by decide +kernel
theorem dX7_has_6 : decode cX7_has 6 = .ok (.if_icmp .ne 7, 3) := by decide +kernel
theorem dX7_has_9 : decode cX7_has 9 = .ok (.iconst 1, 1) := by decide +kernel
theorem dX7_has_10 : decode cX7_has 10 = .ok (.goto 4, 3) := by decide +kernel
theorem dX7_has_13 : decode cX7_has 13 = .ok (.iconst 0, 1) := by decide +kernel
theorem dX7_has_14 : decode cX7_has 14 = .ok (.ireturn, 1) := by decide +kernel
theorem dX7_bits_0 : decode cX7_bits 0 = .ok (.iconst 0, 1) := by decide +kernel
theorem dX7_bits_1 : decode cX7_bits 1 = .ok (.istore_n 1, 1) := by decide +kernel
theorem dX7_bits_2 : decode cX7_bits 2 = .ok (.iconst 0, 1) := by decide +kernel
theorem dX7_bits_3 : decode cX7_bits 3 = .ok (.istore_n 2, 1) := by decide +kernel
theorem dX7_bits_4 : decode cX7_bits 4 = .ok (.iload_n 2, 1) := by decide +kernel
theorem dX7_bits_5 : decode cX7_bits 5 = .ok (.bipush 8, 2) := by decide +kernel
theorem dX7_bits_7 : decode cX7_bits 7 = .ok (.if_icmp .ge 17, 3) := by decide +kernel
theorem dX7_bits_10 : decode cX7_bits 10 = .ok (.iload_n 1, 1) := by decide +kernel
theorem dX7_bits_11 : decode cX7_bits 11 = .ok (.iload_n 0, 1) := by decide +kernel
theorem dX7_bits_12 : decode cX7_bits 12 = .ok (.iload_n 2, 1) := by decide +kernel
theorem dX7_bits_13 : decode cX7_bits 13 = .ok (.ishr, 1) := by decide +kernel
theorem dX7_bits_14 : decode cX7_bits 14 = .ok (.iconst 1, 1) := by decide +kernel
theorem dX7_bits_15 : decode cX7_bits 15 = .ok (.iand, 1) := by decide +kernel
theorem dX7_bits_16 : decode cX7_bits 16 = .ok (.iadd, 1) := by decide +kernel
theorem dX7_bits_17 : decode cX7_bits 17 = .ok (.istore_n 1, 1) := by decide +kernel
theorem dX7_bits_18 : decode cX7_bits 18 = .ok (.iinc 2 1, 3) := by decide +kernel
theorem dX7_bits_21 : decode cX7_bits 21 = .ok (.goto (-17), 3) := by decide +kernel
theorem dX7_bits_24 : decode cX7_bits 24 = .ok (.iload_n 1, 1) := by decide +kernel
theorem dX7_bits_25 : decode cX7_bits 25 = .ok (.ireturn, 1) := by decide +kernel
theorem dX7_isHeap_0 : decode cX7_isHeap 0 = .ok (.iload_n 0, 1) := by decide +kernel
theorem dX7_isHeap_1 : decode cX7_isHeap 1 = .ok (.iconst 0, 1) := by decide +kernel
theorem dX7_isHeap_2 : decode cX7_isHeap 2 = .ok (.iconst 5, 1) := by decide +kernel
theorem dX7_isHeap_3 : decode cX7_isHeap 3 = .ok (.invokestatic 48, 3) := by decide +kernel
theorem dX7_isHeap_6 : decode cX7_isHeap 6 = .ok (.ireturn, 1) := by decide +kernel
theorem dX7_heap_0 : decode cX7_heap 0 = .ok (.iload_n 1, 1) := by decide +kernel
theorem dX7_heap_1 : decode cX7_heap 1 = .ok (.invokestatic 52, 3) := by decide +kernel
theorem dX7_heap_4 : decode cX7_heap 4 = .ok (.ifCond .eq 13, 3) := by decide +kernel
theorem dX7_heap_7 : decode cX7_heap 7 = .ok (.iload_n 2, 1) := by decide +kernel
theorem dX7_heap_8 : decode cX7_heap 8 = .ok (.iconst (-1), 1) := by decide +kernel
theorem dX7_heap_9 : decode cX7_heap 9 = .ok (.bipush 24, 2) := by decide +kernel
theorem dX7_heap_11 : decode cX7_heap 11 = .ok (.invokestatic 48, 3) := by decide +kernel
theorem dX7_heap_14 : decode cX7_heap 14 = .ok (.ifCond .ne 5, 3) := by decide +kernel
theorem dX7_heap_17 : decode cX7_heap 17 = .ok (.iconst (-1), 1) := by decide +kernel
theorem dX7_heap_18 : decode cX7_heap 18 = .ok (.ireturn, 1) := by decide +kernel
theorem dX7_heap_19 : decode cX7_heap 19 = .ok (.iload_n 3, 1) := by decide +kernel
theorem dX7_heap_20 : decode cX7_heap 20 = .ok (.iconst 0, 1) := by decide +kernel
theorem dX7_heap_21 : decode cX7_heap 21 = .ok (.iload_n 2, 1) := by decide +kernel
theorem dX7_heap_22 : decode cX7_heap 22 = .ok (.ifCond .ge 7, 3) := by decide +kernel
theorem dX7_heap_25 : decode cX7_heap 25 = .ok (.iconst 0, 1) := by decide +kernel
theorem dX7_heap_26 : decode cX7_heap 26 = .ok (.goto 5, 3) := by decide +kernel
theorem dX7_heap_29 : decode cX7_heap 29 = .ok (.bipush 9, 2) := by decide +kernel
theorem dX7_heap_31 : decode cX7_heap 31 = .ok (.invokestatic 48, 3) := by decide +kernel
theorem dX7_heap_34 : decode cX7_heap 34 = .ok (.ifCond .eq 14, 3) := by decide +kernel
theorem dX7_heap_37 : decode cX7_heap 37 = .ok (.iload 4, 2) := by decide +kernel
theorem dX7_heap_39 : decode cX7_heap 39 = .ok (.iconst 0, 1) := by decide +kernel
theorem dX7_heap_40 : decode cX7_heap 40 = .ok (.bipush 9, 2) := by decide +kernel
theorem dX7_heap_42 : decode cX7_heap 42 = .ok (.invokestatic 48, 3) := by decide +kernel
theorem dX7_heap_45 : decode cX7_heap 45 = .ok (.ifCond .ne 6, 3) := by decide +kernel
theorem dX7_heap_48 : decode cX7_heap 48 = .ok (.bipush (-2), 2) := by decide +kernel
theorem dX7_heap_50 : decode cX7_heap 50 = .ok (.ireturn, 1) := by decide +kernel
theorem dX7_heap_51 : decode cX7_heap 51 = .ok (.iconst 0, 1) := by decide +kernel
theorem dX7_heap_52 : decode cX7_heap 52 = .ok (.istore 5, 2) := by decide +kernel
theorem dX7_heap_54 : decode cX7_heap 54 = .ok (.iload 5, 2) := by decide +kernel
theorem dX7_heap_56 : decode cX7_heap 56 = .ok (.bipush 6, 2) := by decide +kernel
theorem dX7_heap_58 : decode cX7_heap 58 = .ok (.if_icmp .ge 36, 3) := by decide +kernel
theorem dX7_heap_61 : decode cX7_heap 61 = .ok (.iload 5, 2) := by decide +kernel
theorem dX7_heap_63 : decode cX7_heap 63 = .ok (.iload_n 1, 1) := by decide +kernel
theorem dX7_heap_64 : decode cX7_heap 64 = .ok (.if_icmp .eq 24, 3) := by decide +kernel
theorem dX7_heap_67 : decode cX7_heap 67 = .ok (.iload_n 2, 1) := by decide +kernel
theorem dX7_heap_68 : decode cX7_heap 68 = .ok (.ifCond .lt 20, 3) := by decide +kernel
theorem dX7_heap_71 : decode cX7_heap 71 = .ok (.aload_n 0, 1) := by decide +kernel
theorem dX7_heap_72 : decode cX7_heap 72 = .ok (.getfield 7, 3) := by decide +kernel
theorem dX7_heap_75 : decode cX7_heap 75 = .ok (.bipush 12, 2) := by decide +kernel
theorem dX7_heap_77 : decode cX7_heap 77 = .ok (.iload 5, 2) := by decide +kernel
theorem dX7_heap_79 : decode cX7_heap 79 = .ok (.iadd, 1) := by decide +kernel
theorem dX7_heap_80 : decode cX7_heap 80 = .ok (.iaload, 1) := by decide +kernel
theorem dX7_heap_81 : decode cX7_heap 81 = .ok (.iload_n 2, 1) := by decide +kernel
theorem dX7_heap_82 : decode cX7_heap 82 = .ok (.if_icmp .ne 6, 3) := by decide +kernel
theorem dX7_heap_85 : decode cX7_heap 85 = .ok (.bipush (-3), 2) := by decide +kernel
theorem dX7_heap_87 : decode cX7_heap 87 = .ok (.ireturn, 1) := by decide +kernel
theorem dX7_heap_88 : decode cX7_heap 88 = .ok (.iinc 5 1, 3) := by decide +kernel
theorem dX7_heap_91 : decode cX7_heap 91 = .ok (.goto (-37), 3) := by decide +kernel
theorem dX7_heap_94 : decode cX7_heap 94 = .ok (.aload_n 0, 1) := by decide +kernel
theorem dX7_heap_95 : decode cX7_heap 95 = .ok (.getfield 7, 3) := by decide +kernel
theorem dX7_heap_98 : decode cX7_heap 98 = .ok (.bipush 12, 2) := by decide +kernel
theorem dX7_heap_100 : decode cX7_heap 100 = .ok (.iload_n 1, 1) := by decide +kernel
theorem dX7_heap_101 : decode cX7_heap 101 = .ok (.iadd, 1) := by decide +kernel
theorem dX7_heap_102 : decode cX7_heap 102 = .ok (.iaload, 1) := by decide +kernel
theorem dX7_heap_103 : decode cX7_heap 103 = .ok (.istore 5, 2) := by decide +kernel
theorem dX7_heap_105 : decode cX7_heap 105 = .ok (.aload_n 0, 1) := by decide +kernel
theorem dX7_heap_106 : decode cX7_heap 106 = .ok (.getfield 7, 3) := by decide +kernel
theorem dX7_heap_109 : decode cX7_heap 109 = .ok (.iload_n 1, 1) := by decide +kernel
theorem dX7_heap_110 : decode cX7_heap 110 = .ok (.iload_n 3, 1) := by decide +kernel
theorem dX7_heap_111 : decode cX7_heap 111 = .ok (.iastore, 1) := by decide +kernel
theorem dX7_heap_112 : decode cX7_heap 112 = .ok (.aload_n 0, 1) := by decide +kernel
theorem dX7_heap_113 : decode cX7_heap 113 = .ok (.getfield 7, 3) := by decide +kernel
theorem dX7_heap_116 : decode cX7_heap 116 = .ok (.bipush 6, 2) := by decide +kernel
theorem dX7_heap_118 : decode cX7_heap 118 = .ok (.iload_n 1, 1) := by decide +kernel
theorem dX7_heap_119 : decode cX7_heap 119 = .ok (.iadd, 1) := by decide +kernel
theorem dX7_heap_120 : decode cX7_heap 120 = .ok (.iload 4, 2) := by decide +kernel
theorem dX7_heap_122 : decode cX7_heap 122 = .ok (.iastore, 1) := by decide +kernel
theorem dX7_heap_123 : decode cX7_heap 123 = .ok (.aload_n 0, 1) := by decide +kernel
theorem dX7_heap_124 : decode cX7_heap 124 = .ok (.getfield 7, 3) := by decide +kernel
theorem dX7_heap_127 : decode cX7_heap 127 = .ok (.bipush 12, 2) := by decide +kernel
theorem dX7_heap_129 : decode cX7_heap 129 = .ok (.iload_n 1, 1) := by decide +kernel
theorem dX7_heap_130 : decode cX7_heap 130 = .ok (.iadd, 1) := by decide +kernel
theorem dX7_heap_131 : decode cX7_heap 131 = .ok (.iload_n 2, 1) := by decide +kernel
theorem dX7_heap_132 : decode cX7_heap 132 = .ok (.ifCond .ge 8, 3) := by decide +kernel
theorem dX7_heap_135 : decode cX7_heap 135 = .ok (.bipush (-6), 2) := by decide +kernel
theorem dX7_heap_137 : decode cX7_heap 137 = .ok (.goto 4, 3) := by decide +kernel
theorem dX7_heap_140 : decode cX7_heap 140 = .ok (.iload_n 2, 1) := by decide +kernel
theorem dX7_heap_141 : decode cX7_heap 141 = .ok (.iastore, 1) := by decide +kernel
theorem dX7_heap_142 : decode cX7_heap 142 = .ok (.aload_n 0, 1) := by decide +kernel
theorem dX7_heap_143 : decode cX7_heap 143 = .ok (.getfield 7, 3) := by decide +kernel
theorem dX7_heap_146 : decode cX7_heap 146 = .ok (.bipush 18, 2) := by decide +kernel
theorem dX7_heap_148 : decode cX7_heap 148 = .ok (.dup2, 1) := by decide +kernel
theorem dX7_heap_149 : decode cX7_heap 149 = .ok (.iaload, 1) := by decide +kernel
theorem dX7_heap_150 : decode cX7_heap 150 = .ok (.iconst 1, 1) := by decide +kernel
theorem dX7_heap_151 : decode cX7_heap 151 = .ok (.iload_n 1, 1) := by decide +kernel
theorem dX7_heap_152 : decode cX7_heap 152 = .ok (.ishl, 1) := by decide +kernel
theorem dX7_heap_153 : decode cX7_heap 153 = .ok (.iconst (-1), 1) := by decide +kernel
theorem dX7_heap_154 : decode cX7_heap 154 = .ok (.ixor, 1) := by decide +kernel
theorem dX7_heap_155 : decode cX7_heap 155 = .ok (.iand, 1) := by decide +kernel
theorem dX7_heap_156 : decode cX7_heap 156 = .ok (.iastore, 1) := by decide +kernel
theorem dX7_heap_157 : decode cX7_heap 157 = .ok (.aload_n 0, 1) := by decide +kernel
theorem dX7_heap_158 : decode cX7_heap 158 = .ok (.getfield 7, 3) := by decide +kernel
theorem dX7_heap_161 : decode cX7_heap 161 = .ok (.bipush 20, 2) := by decide +kernel
theorem dX7_heap_163 : decode cX7_heap 163 = .ok (.dup2, 1) := by decide +kernel
theorem dX7_heap_164 : decode cX7_heap 164 = .ok (.iaload, 1) := by decide +kernel
theorem dX7_heap_165 : decode cX7_heap 165 = .ok (.iconst 1, 1) := by decide +kernel
theorem dX7_heap_166 : decode cX7_heap 166 = .ok (.iload_n 1, 1) := by decide +kernel
theorem dX7_heap_167 : decode cX7_heap 167 = .ok (.ishl, 1) := by decide +kernel
theorem dX7_heap_168 : decode cX7_heap 168 = .ok (.iconst (-1), 1) := by decide +kernel
theorem dX7_heap_169 : decode cX7_heap 169 = .ok (.ixor, 1) := by decide +kernel
theorem dX7_heap_170 : decode cX7_heap 170 = .ok (.iand, 1) := by decide +kernel
theorem dX7_heap_171 : decode cX7_heap 171 = .ok (.iastore, 1) := by decide +kernel
theorem dX7_heap_172 : decode cX7_heap 172 = .ok (.iload 5, 2) := by decide +kernel
theorem dX7_heap_174 : decode cX7_heap 174 = .ok (.ireturn, 1) := by decide +kernel
theorem dX7_burners_0 : decode cX7_burners 0 = .ok (.iload_n 1, 1) := by decide +kernel
theorem dX7_burners_1 : decode cX7_burners 1 = .ok (.iconst 0, 1) := by decide +kernel
theorem dX7_burners_2 : decode cX7_burners 2 = .ok (.bipush 6, 2) := by decide +kernel
theorem dX7_burners_4 : decode cX7_burners 4 = .ok (.invokestatic 48, 3) := by decide +kernel
theorem dX7_burners_7 : decode cX7_burners 7 = .ok (.ifCond .ne 6, 3) := by decide +kernel
theorem dX7_burners_10 : decode cX7_burners 10 = .ok (.bipush (-2), 2) := by decide +kernel
theorem dX7_burners_12 : decode cX7_burners 12 = .ok (.ireturn, 1) := by decide +kernel
theorem dX7_burners_13 : decode cX7_burners 13 = .ok (.aload_n 0, 1) := by decide +kernel
theorem dX7_burners_14 : decode cX7_burners 14 = .ok (.getfield 7, 3) := by decide +kernel
theorem dX7_burners_17 : decode cX7_burners 17 = .ok (.bipush 18, 2) := by decide +kernel
theorem dX7_burners_19 : decode cX7_burners 19 = .ok (.iaload, 1) := by decide +kernel
theorem dX7_burners_20 : decode cX7_burners 20 = .ok (.invokestatic 56, 3) := by decide +kernel
theorem dX7_burners_23 : decode cX7_burners 23 = .ok (.iload_n 1, 1) := by decide +kernel
theorem dX7_burners_24 : decode cX7_burners 24 = .ok (.if_icmp .le 6, 3) := by decide +kernel
theorem dX7_burners_27 : decode cX7_burners 27 = .ok (.bipush (-3), 2) := by decide +kernel
theorem dX7_burners_29 : decode cX7_burners 29 = .ok (.ireturn, 1) := by decide +kernel
theorem dX7_burners_30 : decode cX7_burners 30 = .ok (.aload_n 0, 1) := by decide +kernel
theorem dX7_burners_31 : decode cX7_burners 31 = .ok (.getfield 16, 3) := by decide +kernel
theorem dX7_burners_34 : decode cX7_burners 34 = .ok (.istore_n 2, 1) := by decide +kernel
theorem dX7_burners_35 : decode cX7_burners 35 = .ok (.aload_n 0, 1) := by decide +kernel
theorem dX7_burners_36 : decode cX7_burners 36 = .ok (.iload_n 1, 1) := by decide +kernel
theorem dX7_burners_37 : decode cX7_burners 37 = .ok (.putfield 16, 3) := by decide +kernel
theorem dX7_burners_40 : decode cX7_burners 40 = .ok (.iload_n 2, 1) := by decide +kernel
theorem dX7_burners_41 : decode cX7_burners 41 = .ok (.ireturn, 1) := by decide +kernel
theorem dX7_say_0 : decode cX7_say 0 = .ok (.iload_n 1, 1) := by decide +kernel
theorem dX7_say_1 : decode cX7_say 1 = .ok (.bipush 33, 2) := by decide +kernel
theorem dX7_say_3 : decode cX7_say 3 = .ok (.bipush 126, 2) := by decide +kernel
theorem dX7_say_5 : decode cX7_say 5 = .ok (.invokestatic 48, 3) := by decide +kernel
theorem dX7_say_8 : decode cX7_say 8 = .ok (.ifCond .ne 6, 3) := by decide +kernel
theorem dX7_say_11 : decode cX7_say 11 = .ok (.bipush (-2), 2) := by decide +kernel
theorem dX7_say_13 : decode cX7_say 13 = .ok (.ireturn, 1) := by decide +kernel
theorem dX7_say_14 : decode cX7_say 14 = .ok (.aload_n 0, 1) := by decide +kernel
theorem dX7_say_15 : decode cX7_say 15 = .ok (.getfield 60, 3) := by decide +kernel
theorem dX7_say_18 : decode cX7_say 18 = .ok (.bipush 60, 2) := by decide +kernel
theorem dX7_say_20 : decode cX7_say 20 = .ok (.if_icmp .ne 6, 3) := by decide +kernel
theorem dX7_say_23 : decode cX7_say 23 = .ok (.bipush (-4), 2) := by decide +kernel
theorem dX7_say_25 : decode cX7_say 25 = .ok (.ireturn, 1) := by decide +kernel
theorem dX7_say_26 : decode cX7_say 26 = .ok (.aload_n 0, 1) := by decide +kernel
theorem dX7_say_27 : decode cX7_say 27 = .ok (.getfield 23, 3) := by decide +kernel
theorem dX7_say_30 : decode cX7_say 30 = .ok (.aload_n 0, 1) := by decide +kernel
theorem dX7_say_31 : decode cX7_say 31 = .ok (.getfield 60, 3) := by decide +kernel
theorem dX7_say_34 : decode cX7_say 34 = .ok (.iload_n 1, 1) := by decide +kernel
theorem dX7_say_35 : decode cX7_say 35 = .ok (.iastore, 1) := by decide +kernel
theorem dX7_say_36 : decode cX7_say 36 = .ok (.aload_n 0, 1) := by decide +kernel
theorem dX7_say_37 : decode cX7_say 37 = .ok (.dup, 1) := by decide +kernel
theorem dX7_say_38 : decode cX7_say 38 = .ok (.getfield 60, 3) := by decide +kernel
theorem dX7_say_41 : decode cX7_say 41 = .ok (.iconst 1, 1) := by decide +kernel
theorem dX7_say_42 : decode cX7_say 42 = .ok (.iadd, 1) := by decide +kernel
theorem dX7_say_43 : decode cX7_say 43 = .ok (.putfield 60, 3) := by decide +kernel
theorem dX7_say_46 : decode cX7_say 46 = .ok (.aload_n 0, 1) := by decide +kernel
theorem dX7_say_47 : decode cX7_say 47 = .ok (.getfield 60, 3) := by decide +kernel
theorem dX7_say_50 : decode cX7_say 50 = .ok (.ireturn, 1) := by decide +kernel
theorem dX7_wipe_0 : decode cX7_wipe 0 = .ok (.aload_n 0, 1) := by decide +kernel
theorem dX7_wipe_1 : decode cX7_wipe 1 = .ok (.getfield 60, 3) := by decide +kernel
theorem dX7_wipe_4 : decode cX7_wipe 4 = .ok (.istore_n 1, 1) := by decide +kernel
theorem dX7_wipe_5 : decode cX7_wipe 5 = .ok (.aload_n 0, 1) := by decide +kernel
theorem dX7_wipe_6 : decode cX7_wipe 6 = .ok (.iconst 0, 1) := by decide +kernel
theorem dX7_wipe_7 : decode cX7_wipe 7 = .ok (.putfield 60, 3) := by decide +kernel
theorem dX7_wipe_10 : decode cX7_wipe 10 = .ok (.iload_n 1, 1) := by decide +kernel
theorem dX7_wipe_11 : decode cX7_wipe 11 = .ok (.ireturn, 1) := by decide +kernel
theorem dX7_faultOf_0 : decode cX7_faultOf 0 = .ok (.iconst 0, 1) := by decide +kernel
theorem dX7_faultOf_1 : decode cX7_faultOf 1 = .ok (.istore_n 1, 1) := by decide +kernel
theorem dX7_faultOf_2 : decode cX7_faultOf 2 = .ok (.iconst 0, 1) := by decide +kernel
theorem dX7_faultOf_3 : decode cX7_faultOf 3 = .ok (.istore_n 2, 1) := by decide +kernel
theorem dX7_faultOf_4 : decode cX7_faultOf 4 = .ok (.iload_n 2, 1) := by decide +kernel
theorem dX7_faultOf_5 : decode cX7_faultOf 5 = .ok (.aload_n 0, 1) := by decide +kernel
theorem dX7_faultOf_6 : decode cX7_faultOf 6 = .ok (.getfield 60, 3) := by decide +kernel
theorem dX7_faultOf_9 : decode cX7_faultOf 9 = .ok (.if_icmp .ge 108, 3) := by decide +kernel
theorem dX7_faultOf_12 : decode cX7_faultOf 12 = .ok (.aload_n 0, 1) := by decide +kernel
theorem dX7_faultOf_13 : decode cX7_faultOf 13 = .ok (.getfield 23, 3) := by decide +kernel
theorem dX7_faultOf_16 : decode cX7_faultOf 16 = .ok (.iload_n 2, 1) := by decide +kernel
theorem dX7_faultOf_17 : decode cX7_faultOf 17 = .ok (.iaload, 1) := by decide +kernel
theorem dX7_faultOf_18 : decode cX7_faultOf 18 = .ok (.istore_n 3, 1) := by decide +kernel
theorem dX7_faultOf_19 : decode cX7_faultOf 19 = .ok (.iload_n 3, 1) := by decide +kernel
theorem dX7_faultOf_20 : decode cX7_faultOf 20 = .ok (.bipush 65, 2) := by decide +kernel
theorem dX7_faultOf_22 : decode cX7_faultOf 22 = .ok (.bipush 70, 2) := by decide +kernel
theorem dX7_faultOf_24 : decode cX7_faultOf 24 = .ok (.invokestatic 48, 3) := by decide +kernel
theorem dX7_faultOf_27 : decode cX7_faultOf 27 = .ok (.istore 4, 2) := by decide +kernel
theorem dX7_faultOf_29 : decode cX7_faultOf 29 = .ok (.iload_n 3, 1) := by decide +kernel
theorem dX7_faultOf_30 : decode cX7_faultOf 30 = .ok (.bipush 97, 2) := by decide +kernel
theorem dX7_faultOf_32 : decode cX7_faultOf 32 = .ok (.bipush 121, 2) := by decide +kernel
theorem dX7_faultOf_34 : decode cX7_faultOf 34 = .ok (.invokestatic 48, 3) := by decide +kernel
theorem dX7_faultOf_37 : decode cX7_faultOf 37 = .ok (.ifCond .ne 27, 3) := by decide +kernel
theorem dX7_faultOf_40 : decode cX7_faultOf 40 = .ok (.iload_n 3, 1) := by decide +kernel
theorem dX7_faultOf_41 : decode cX7_faultOf 41 = .ok (.bipush 43, 2) := by decide +kernel
theorem dX7_faultOf_43 : decode cX7_faultOf 43 = .ok (.if_icmp .eq 21, 3) := by decide +kernel
theorem dX7_faultOf_46 : decode cX7_faultOf 46 = .ok (.iload_n 3, 1) := by decide +kernel
theorem dX7_faultOf_47 : decode cX7_faultOf 47 = .ok (.bipush 45, 2) := by decide +kernel
theorem dX7_faultOf_49 : decode cX7_faultOf 49 = .ok (.if_icmp .eq 15, 3) := by decide +kernel
theorem dX7_faultOf_52 : decode cX7_faultOf 52 = .ok (.iload_n 3, 1) := by decide +kernel
theorem dX7_faultOf_53 : decode cX7_faultOf 53 = .ok (.bipush 42, 2) := by decide +kernel
theorem dX7_faultOf_55 : decode cX7_faultOf 55 = .ok (.if_icmp .eq 9, 3) := by decide +kernel
theorem dX7_faultOf_58 : decode cX7_faultOf 58 = .ok (.iload_n 3, 1) := by decide +kernel
theorem dX7_faultOf_59 : decode cX7_faultOf 59 = .ok (.bipush 94, 2) := by decide +kernel
theorem dX7_faultOf_61 : decode cX7_faultOf 61 = .ok (.if_icmp .ne 7, 3) := by decide +kernel
theorem dX7_faultOf_64 : decode cX7_faultOf 64 = .ok (.iconst 1, 1) := by decide +kernel
theorem dX7_faultOf_65 : decode cX7_faultOf 65 = .ok (.goto 4, 3) := by decide +kernel
theorem dX7_faultOf_68 : decode cX7_faultOf 68 = .ok (.iconst 0, 1) := by decide +kernel
theorem dX7_faultOf_69 : decode cX7_faultOf 69 = .ok (.istore 5, 2) := by decide +kernel
theorem dX7_faultOf_71 : decode cX7_faultOf 71 = .ok (.iload_n 1, 1) := by decide +kernel
theorem dX7_faultOf_72 : decode cX7_faultOf 72 = .ok (.ifCond .eq 11, 3) := by decide +kernel
theorem dX7_faultOf_75 : decode cX7_faultOf 75 = .ok (.iload 5, 2) := by decide +kernel
theorem dX7_faultOf_77 : decode cX7_faultOf 77 = .ok (.ifCond .ne 19, 3) := by decide +kernel
theorem dX7_faultOf_80 : decode cX7_faultOf 80 = .ok (.goto 14, 3) := by decide +kernel
theorem dX7_faultOf_83 : decode cX7_faultOf 83 = .ok (.iload 4, 2) := by decide +kernel
theorem dX7_faultOf_85 : decode cX7_faultOf 85 = .ok (.ifCond .ne 11, 3) := by decide +kernel
theorem dX7_faultOf_88 : decode cX7_faultOf 88 = .ok (.iload_n 3, 1) := by decide +kernel
theorem dX7_faultOf_89 : decode cX7_faultOf 89 = .ok (.bipush 46, 2) := by decide +kernel
theorem dX7_faultOf_91 : decode cX7_faultOf 91 = .ok (.if_icmp .eq 5, 3) := by decide +kernel
theorem dX7_faultOf_94 : decode cX7_faultOf 94 = .ok (.iload_n 2, 1) := by decide +kernel
theorem dX7_faultOf_95 : decode cX7_faultOf 95 = .ok (.ireturn, 1) := by decide +kernel
theorem dX7_faultOf_96 : decode cX7_faultOf 96 = .ok (.iload_n 1, 1) := by decide +kernel
theorem dX7_faultOf_97 : decode cX7_faultOf 97 = .ok (.ifCond .ne 12, 3) := by decide +kernel
theorem dX7_faultOf_100 : decode cX7_faultOf 100 = .ok (.iload 4, 2) := by decide +kernel
theorem dX7_faultOf_102 : decode cX7_faultOf 102 = .ok (.ifCond .eq 7, 3) := by decide +kernel
theorem dX7_faultOf_105 : decode cX7_faultOf 105 = .ok (.iconst 1, 1) := by decide +kernel
theorem dX7_faultOf_106 : decode cX7_faultOf 106 = .ok (.goto 4, 3) := by decide +kernel
theorem dX7_faultOf_109 : decode cX7_faultOf 109 = .ok (.iconst 0, 1) := by decide +kernel
theorem dX7_faultOf_110 : decode cX7_faultOf 110 = .ok (.istore_n 1, 1) := by decide +kernel
theorem dX7_faultOf_111 : decode cX7_faultOf 111 = .ok (.iinc 2 1, 3) := by decide +kernel
theorem dX7_faultOf_114 : decode cX7_faultOf 114 = .ok (.goto (-110), 3) := by decide +kernel
theorem dX7_faultOf_117 : decode cX7_faultOf 117 = .ok (.iload_n 1, 1) := by decide +kernel
theorem dX7_faultOf_118 : decode cX7_faultOf 118 = .ok (.ifCond .eq 10, 3) := by decide +kernel
theorem dX7_faultOf_121 : decode cX7_faultOf 121 = .ok (.aload_n 0, 1) := by decide +kernel
theorem dX7_faultOf_122 : decode cX7_faultOf 122 = .ok (.getfield 60, 3) := by decide +kernel
theorem dX7_faultOf_125 : decode cX7_faultOf 125 = .ok (.goto 5, 3) := by decide +kernel
theorem dX7_faultOf_128 : decode cX7_faultOf 128 = .ok (.bipush (-6), 2) := by decide +kernel
theorem dX7_faultOf_130 : decode cX7_faultOf 130 = .ok (.ireturn, 1) := by decide +kernel
theorem dX7_fault_0 : decode cX7_fault 0 = .ok (.aload_n 0, 1) := by decide +kernel
theorem dX7_fault_1 : decode cX7_fault 1 = .ok (.invokevirtual 63, 3) := by decide +kernel
theorem dX7_fault_4 : decode cX7_fault 4 = .ok (.ireturn, 1) := by decide +kernel
theorem dX7_asNow_0 : decode cX7_asNow 0 = .ok (.iconst 0, 1) := by decide +kernel
theorem dX7_asNow_1 : decode cX7_asNow 1 = .ok (.istore_n 1, 1) := by decide +kernel
theorem dX7_asNow_2 : decode cX7_asNow 2 = .ok (.iload_n 1, 1) := by decide +kernel
theorem dX7_asNow_3 : decode cX7_asNow 3 = .ok (.bipush 22, 2) := by decide +kernel
theorem dX7_asNow_5 : decode cX7_asNow 5 = .ok (.if_icmp .ge 21, 3) := by decide +kernel
theorem dX7_asNow_8 : decode cX7_asNow 8 = .ok (.aload_n 0, 1) := by decide +kernel
theorem dX7_asNow_9 : decode cX7_asNow 9 = .ok (.getfield 13, 3) := by decide +kernel
theorem dX7_asNow_12 : decode cX7_asNow 12 = .ok (.iload_n 1, 1) := by decide +kernel
theorem dX7_asNow_13 : decode cX7_asNow 13 = .ok (.aload_n 0, 1) := by decide +kernel
theorem dX7_asNow_14 : decode cX7_asNow 14 = .ok (.getfield 7, 3) := by decide +kernel
theorem dX7_asNow_17 : decode cX7_asNow 17 = .ok (.iload_n 1, 1) := by decide +kernel
theorem dX7_asNow_18 : decode cX7_asNow 18 = .ok (.iaload, 1) := by decide +kernel
theorem dX7_asNow_19 : decode cX7_asNow 19 = .ok (.iastore, 1) := by decide +kernel
theorem dX7_asNow_20 : decode cX7_asNow 20 = .ok (.iinc 1 1, 3) := by decide +kernel
theorem dX7_asNow_23 : decode cX7_asNow 23 = .ok (.goto (-21), 3) := by decide +kernel
theorem dX7_asNow_26 : decode cX7_asNow 26 = .ok (.aload_n 0, 1) := by decide +kernel
theorem dX7_asNow_27 : decode cX7_asNow 27 = .ok (.iconst 0, 1) := by decide +kernel
theorem dX7_asNow_28 : decode cX7_asNow 28 = .ok (.putfield 67, 3) := by decide +kernel
theorem dX7_asNow_31 : decode cX7_asNow 31 = .ok (.aload_n 0, 1) := by decide +kernel
theorem dX7_asNow_32 : decode cX7_asNow 32 = .ok (.bipush (-6), 2) := by decide +kernel
theorem dX7_asNow_34 : decode cX7_asNow 34 = .ok (.putfield 70, 3) := by decide +kernel
theorem dX7_asNow_37 : decode cX7_asNow 37 = .ok (.aload_n 0, 1) := by decide +kernel
theorem dX7_asNow_38 : decode cX7_asNow 38 = .ok (.bipush (-6), 2) := by decide +kernel
theorem dX7_asNow_40 : decode cX7_asNow 40 = .ok (.putfield 73, 3) := by decide +kernel
theorem dX7_asNow_43 : decode cX7_asNow 43 = .ok (.return_, 1) := by decide +kernel
theorem dX7_off_0 : decode cX7_off 0 = .ok (.iload_n 0, 1) := by decide +kernel
theorem dX7_off_1 : decode cX7_off 1 = .ok (.iload_n 1, 1) := by decide +kernel
theorem dX7_off_2 : decode cX7_off 2 = .ok (.if_icmp .le 9, 3) := by decide +kernel
theorem dX7_off_5 : decode cX7_off 5 = .ok (.iload_n 0, 1) := by decide +kernel
theorem dX7_off_6 : decode cX7_off 6 = .ok (.iload_n 1, 1) := by decide +kernel
theorem dX7_off_7 : decode cX7_off 7 = .ok (.isub, 1) := by decide +kernel
theorem dX7_off_8 : decode cX7_off 8 = .ok (.goto 6, 3) := by decide +kernel
theorem dX7_off_11 : decode cX7_off 11 = .ok (.iload_n 1, 1) := by decide +kernel
theorem dX7_off_12 : decode cX7_off 12 = .ok (.iload_n 0, 1) := by decide +kernel
theorem dX7_off_13 : decode cX7_off 13 = .ok (.isub, 1) := by decide +kernel
theorem dX7_off_14 : decode cX7_off 14 = .ok (.ireturn, 1) := by decide +kernel
theorem dX7_areNear_0 : decode cX7_areNear 0 = .ok (.iload_n 0, 1) := by decide +kernel
theorem dX7_areNear_1 : decode cX7_areNear 1 = .ok (.ifCond .lt 34, 3) := by decide +kernel
theorem dX7_areNear_4 : decode cX7_areNear 4 = .ok (.iload_n 1, 1) := by decide +kernel
theorem dX7_areNear_5 : decode cX7_areNear 5 = .ok (.ifCond .lt 30, 3) := by decide +kernel
theorem dX7_areNear_8 : decode cX7_areNear 8 = .ok (.iload_n 0, 1) := by decide +kernel
theorem dX7_areNear_9 : decode cX7_areNear 9 = .ok (.iconst 5, 1) := by decide +kernel
theorem dX7_areNear_10 : decode cX7_areNear 10 = .ok (.idiv, 1) := by decide +kernel
theorem dX7_areNear_11 : decode cX7_areNear 11 = .ok (.iload_n 1, 1) := by decide +kernel
theorem dX7_areNear_12 : decode cX7_areNear 12 = .ok (.iconst 5, 1) := by decide +kernel
theorem dX7_areNear_13 : decode cX7_areNear 13 = .ok (.idiv, 1) := by decide +kernel
theorem dX7_areNear_14 : decode cX7_areNear 14 = .ok (.invokestatic 76, 3) := by decide +kernel
theorem dX7_areNear_17 : decode cX7_areNear 17 = .ok (.iload_n 0, 1) := by decide +kernel
theorem dX7_areNear_18 : decode cX7_areNear 18 = .ok (.iconst 5, 1) := by decide +kernel
theorem dX7_areNear_19 : decode cX7_areNear 19 = .ok (.irem, 1) := by decide +kernel
theorem dX7_areNear_20 : decode cX7_areNear 20 = .ok (.iload_n 1, 1) := by decide +kernel
theorem dX7_areNear_21 : decode cX7_areNear 21 = .ok (.iconst 5, 1) := by decide +kernel
theorem dX7_areNear_22 : decode cX7_areNear 22 = .ok (.irem, 1) := by decide +kernel
theorem dX7_areNear_23 : decode cX7_areNear 23 = .ok (.invokestatic 76, 3) := by decide +kernel
theorem dX7_areNear_26 : decode cX7_areNear 26 = .ok (.iadd, 1) := by decide +kernel
theorem dX7_areNear_27 : decode cX7_areNear 27 = .ok (.iconst 3, 1) := by decide +kernel
theorem dX7_areNear_28 : decode cX7_areNear 28 = .ok (.if_icmp .ge 7, 3) := by decide +kernel
theorem dX7_areNear_31 : decode cX7_areNear 31 = .ok (.iconst 1, 1) := by decide +kernel
theorem dX7_areNear_32 : decode cX7_areNear 32 = .ok (.goto 4, 3) := by decide +kernel
theorem dX7_areNear_35 : decode cX7_areNear 35 = .ok (.iconst 0, 1) := by decide +kernel
theorem dX7_areNear_36 : decode cX7_areNear 36 = .ok (.ireturn, 1) := by decide +kernel
theorem dX7_stack_0 : decode cX7_stack 0 = .ok (.iconst 0, 1) := by decide +kernel
theorem dX7_stack_1 : decode cX7_stack 1 = .ok (.istore_n 3, 1) := by decide +kernel
theorem dX7_stack_2 : decode cX7_stack 2 = .ok (.iload_n 3, 1) := by decide +kernel
theorem dX7_stack_3 : decode cX7_stack 3 = .ok (.bipush 6, 2) := by decide +kernel
theorem dX7_stack_5 : decode cX7_stack 5 = .ok (.if_icmp .ge 29, 3) := by decide +kernel
theorem dX7_stack_8 : decode cX7_stack 8 = .ok (.iload_n 3, 1) := by decide +kernel
theorem dX7_stack_9 : decode cX7_stack 9 = .ok (.iload_n 1, 1) := by decide +kernel
theorem dX7_stack_10 : decode cX7_stack 10 = .ok (.if_icmp .eq 18, 3) := by decide +kernel
theorem dX7_stack_13 : decode cX7_stack 13 = .ok (.aload_n 0, 1) := by decide +kernel
theorem dX7_stack_14 : decode cX7_stack 14 = .ok (.getfield 13, 3) := by decide +kernel
theorem dX7_stack_17 : decode cX7_stack 17 = .ok (.bipush 12, 2) := by decide +kernel
theorem dX7_stack_19 : decode cX7_stack 19 = .ok (.iload_n 3, 1) := by decide +kernel
theorem dX7_stack_20 : decode cX7_stack 20 = .ok (.iadd, 1) := by decide +kernel
theorem dX7_stack_21 : decode cX7_stack 21 = .ok (.iaload, 1) := by decide +kernel
theorem dX7_stack_22 : decode cX7_stack 22 = .ok (.iload_n 2, 1) := by decide +kernel
theorem dX7_stack_23 : decode cX7_stack 23 = .ok (.if_icmp .ne 5, 3) := by decide +kernel
theorem dX7_stack_26 : decode cX7_stack 26 = .ok (.iconst 2, 1) := by decide +kernel
theorem dX7_stack_27 : decode cX7_stack 27 = .ok (.ireturn, 1) := by decide +kernel
theorem dX7_stack_28 : decode cX7_stack 28 = .ok (.iinc 3 1, 3) := by decide +kernel
theorem dX7_stack_31 : decode cX7_stack 31 = .ok (.goto (-29), 3) := by decide +kernel
theorem dX7_stack_34 : decode cX7_stack 34 = .ok (.aload_n 0, 1) := by decide +kernel
theorem dX7_stack_35 : decode cX7_stack 35 = .ok (.getfield 13, 3) := by decide +kernel
theorem dX7_stack_38 : decode cX7_stack 38 = .ok (.iload_n 1, 1) := by decide +kernel
theorem dX7_stack_39 : decode cX7_stack 39 = .ok (.iaload, 1) := by decide +kernel
theorem dX7_stack_40 : decode cX7_stack 40 = .ok (.ifCond .le 5, 3) := by decide +kernel
theorem dX7_stack_43 : decode cX7_stack 43 = .ok (.iconst 3, 1) := by decide +kernel
theorem dX7_stack_44 : decode cX7_stack 44 = .ok (.ireturn, 1) := by decide +kernel
theorem dX7_stack_45 : decode cX7_stack 45 = .ok (.aload_n 0, 1) := by decide +kernel
theorem dX7_stack_46 : decode cX7_stack 46 = .ok (.getfield 13, 3) := by decide +kernel
theorem dX7_stack_49 : decode cX7_stack 49 = .ok (.bipush 12, 2) := by decide +kernel
theorem dX7_stack_51 : decode cX7_stack 51 = .ok (.iload_n 1, 1) := by decide +kernel
theorem dX7_stack_52 : decode cX7_stack 52 = .ok (.iadd, 1) := by decide +kernel
theorem dX7_stack_53 : decode cX7_stack 53 = .ok (.iload_n 2, 1) := by decide +kernel
theorem dX7_stack_54 : decode cX7_stack 54 = .ok (.iastore, 1) := by decide +kernel
theorem dX7_stack_55 : decode cX7_stack 55 = .ok (.aload_n 0, 1) := by decide +kernel
theorem dX7_stack_56 : decode cX7_stack 56 = .ok (.getfield 13, 3) := by decide +kernel
theorem dX7_stack_59 : decode cX7_stack 59 = .ok (.bipush 20, 2) := by decide +kernel
theorem dX7_stack_61 : decode cX7_stack 61 = .ok (.dup2, 1) := by decide +kernel
theorem dX7_stack_62 : decode cX7_stack 62 = .ok (.iaload, 1) := by decide +kernel
theorem dX7_stack_63 : decode cX7_stack 63 = .ok (.iconst 1, 1) := by decide +kernel
theorem dX7_stack_64 : decode cX7_stack 64 = .ok (.iload_n 1, 1) := by decide +kernel
theorem dX7_stack_65 : decode cX7_stack 65 = .ok (.ishl, 1) := by decide +kernel
theorem dX7_stack_66 : decode cX7_stack 66 = .ok (.iconst (-1), 1) := by decide +kernel
theorem dX7_stack_67 : decode cX7_stack 67 = .ok (.ixor, 1) := by decide +kernel
theorem dX7_stack_68 : decode cX7_stack 68 = .ok (.iand, 1) := by decide +kernel
theorem dX7_stack_69 : decode cX7_stack 69 = .ok (.iastore, 1) := by decide +kernel
theorem dX7_stack_70 : decode cX7_stack 70 = .ok (.iconst 0, 1) := by decide +kernel
theorem dX7_stack_71 : decode cX7_stack 71 = .ok (.ireturn, 1) := by decide +kernel
theorem dX7_turf_0 : decode cX7_turf 0 = .ok (.aload_n 0, 1) := by decide +kernel
theorem dX7_turf_1 : decode cX7_turf 1 = .ok (.getfield 13, 3) := by decide +kernel
theorem dX7_turf_4 : decode cX7_turf 4 = .ok (.bipush 12, 2) := by decide +kernel
theorem dX7_turf_6 : decode cX7_turf 6 = .ok (.iload_n 1, 1) := by decide +kernel
theorem dX7_turf_7 : decode cX7_turf 7 = .ok (.iadd, 1) := by decide +kernel
theorem dX7_turf_8 : decode cX7_turf 8 = .ok (.iaload, 1) := by decide +kernel
theorem dX7_turf_9 : decode cX7_turf 9 = .ok (.ifCond .ge 5, 3) := by decide +kernel
theorem dX7_turf_12 : decode cX7_turf 12 = .ok (.iconst 1, 1) := by decide +kernel
theorem dX7_turf_13 : decode cX7_turf 13 = .ok (.ireturn, 1) := by decide +kernel
theorem dX7_turf_14 : decode cX7_turf 14 = .ok (.aload_n 0, 1) := by decide +kernel
theorem dX7_turf_15 : decode cX7_turf 15 = .ok (.getfield 13, 3) := by decide +kernel
theorem dX7_turf_18 : decode cX7_turf 18 = .ok (.bipush 6, 2) := by decide +kernel
theorem dX7_turf_20 : decode cX7_turf 20 = .ok (.iload_n 1, 1) := by decide +kernel
theorem dX7_turf_21 : decode cX7_turf 21 = .ok (.iadd, 1) := by decide +kernel
theorem dX7_turf_22 : decode cX7_turf 22 = .ok (.iaload, 1) := by decide +kernel
theorem dX7_turf_23 : decode cX7_turf 23 = .ok (.iload_n 2, 1) := by decide +kernel
theorem dX7_turf_24 : decode cX7_turf 24 = .ok (.iadd, 1) := by decide +kernel
theorem dX7_turf_25 : decode cX7_turf 25 = .ok (.iconst 0, 1) := by decide +kernel
theorem dX7_turf_26 : decode cX7_turf 26 = .ok (.bipush 9, 2) := by decide +kernel
theorem dX7_turf_28 : decode cX7_turf 28 = .ok (.invokestatic 48, 3) := by decide +kernel
theorem dX7_turf_31 : decode cX7_turf 31 = .ok (.ifCond .ne 5, 3) := by decide +kernel
theorem dX7_turf_34 : decode cX7_turf 34 = .ok (.iconst 5, 1) := by decide +kernel
theorem dX7_turf_35 : decode cX7_turf 35 = .ok (.ireturn, 1) := by decide +kernel
theorem dX7_turf_36 : decode cX7_turf 36 = .ok (.aload_n 0, 1) := by decide +kernel
theorem dX7_turf_37 : decode cX7_turf 37 = .ok (.getfield 13, 3) := by decide +kernel
theorem dX7_turf_40 : decode cX7_turf 40 = .ok (.bipush 6, 2) := by decide +kernel
theorem dX7_turf_42 : decode cX7_turf 42 = .ok (.iload_n 1, 1) := by decide +kernel
theorem dX7_turf_43 : decode cX7_turf 43 = .ok (.iadd, 1) := by decide +kernel
theorem dX7_turf_44 : decode cX7_turf 44 = .ok (.dup2, 1) := by decide +kernel
theorem dX7_turf_45 : decode cX7_turf 45 = .ok (.iaload, 1) := by decide +kernel
theorem dX7_turf_46 : decode cX7_turf 46 = .ok (.iload_n 2, 1) := by decide +kernel
theorem dX7_turf_47 : decode cX7_turf 47 = .ok (.iadd, 1) := by decide +kernel
theorem dX7_turf_48 : decode cX7_turf 48 = .ok (.iastore, 1) := by decide +kernel
theorem dX7_turf_49 : decode cX7_turf 49 = .ok (.iconst 0, 1) := by decide +kernel
theorem dX7_turf_50 : decode cX7_turf 50 = .ok (.ireturn, 1) := by decide +kernel
theorem dX7_kindle_0 : decode cX7_kindle 0 = .ok (.aload_n 0, 1) := by decide +kernel
theorem dX7_kindle_1 : decode cX7_kindle 1 = .ok (.getfield 13, 3) := by decide +kernel
theorem dX7_kindle_4 : decode cX7_kindle 4 = .ok (.bipush 12, 2) := by decide +kernel
theorem dX7_kindle_6 : decode cX7_kindle 6 = .ok (.iload_n 1, 1) := by decide +kernel
theorem dX7_kindle_7 : decode cX7_kindle 7 = .ok (.iadd, 1) := by decide +kernel
theorem dX7_kindle_8 : decode cX7_kindle 8 = .ok (.iaload, 1) := by decide +kernel
theorem dX7_kindle_9 : decode cX7_kindle 9 = .ok (.ifCond .ge 5, 3) := by decide +kernel
theorem dX7_kindle_12 : decode cX7_kindle 12 = .ok (.iconst 1, 1) := by decide +kernel
theorem dX7_kindle_13 : decode cX7_kindle 13 = .ok (.ireturn, 1) := by decide +kernel
theorem dX7_kindle_14 : decode cX7_kindle 14 = .ok (.aload_n 0, 1) := by decide +kernel
theorem dX7_kindle_15 : decode cX7_kindle 15 = .ok (.getfield 13, 3) := by decide +kernel
theorem dX7_kindle_18 : decode cX7_kindle 18 = .ok (.iload_n 1, 1) := by decide +kernel
theorem dX7_kindle_19 : decode cX7_kindle 19 = .ok (.iaload, 1) := by decide +kernel
theorem dX7_kindle_20 : decode cX7_kindle 20 = .ok (.ifCond .le 5, 3) := by decide +kernel
theorem dX7_kindle_23 : decode cX7_kindle 23 = .ok (.iconst 3, 1) := by decide +kernel
theorem dX7_kindle_24 : decode cX7_kindle 24 = .ok (.ireturn, 1) := by decide +kernel
theorem dX7_kindle_25 : decode cX7_kindle 25 = .ok (.aload_n 0, 1) := by decide +kernel
theorem dX7_kindle_26 : decode cX7_kindle 26 = .ok (.getfield 13, 3) := by decide +kernel
theorem dX7_kindle_29 : decode cX7_kindle 29 = .ok (.bipush 20, 2) := by decide +kernel
theorem dX7_kindle_31 : decode cX7_kindle 31 = .ok (.iaload, 1) := by decide +kernel
theorem dX7_kindle_32 : decode cX7_kindle 32 = .ok (.iload_n 1, 1) := by decide +kernel
theorem dX7_kindle_33 : decode cX7_kindle 33 = .ok (.invokestatic 80, 3) := by decide +kernel
theorem dX7_kindle_36 : decode cX7_kindle 36 = .ok (.ifCond .eq 5, 3) := by decide +kernel
theorem dX7_kindle_39 : decode cX7_kindle 39 = .ok (.iconst 4, 1) := by decide +kernel
theorem dX7_kindle_40 : decode cX7_kindle 40 = .ok (.ireturn, 1) := by decide +kernel
theorem dX7_kindle_41 : decode cX7_kindle 41 = .ok (.aload_n 0, 1) := by decide +kernel
theorem dX7_kindle_42 : decode cX7_kindle 42 = .ok (.getfield 13, 3) := by decide +kernel
theorem dX7_kindle_45 : decode cX7_kindle 45 = .ok (.iload_n 1, 1) := by decide +kernel
theorem dX7_kindle_46 : decode cX7_kindle 46 = .ok (.iconst 3, 1) := by decide +kernel
theorem dX7_kindle_47 : decode cX7_kindle 47 = .ok (.iastore, 1) := by decide +kernel
theorem dX7_kindle_48 : decode cX7_kindle 48 = .ok (.iconst 0, 1) := by decide +kernel
theorem dX7_kindle_49 : decode cX7_kindle 49 = .ok (.ireturn, 1) := by decide +kernel
theorem dX7_watch_0 : decode cX7_watch 0 = .ok (.aload_n 0, 1) := by decide +kernel
theorem dX7_watch_1 : decode cX7_watch 1 = .ok (.getfield 13, 3) := by decide +kernel
theorem dX7_watch_4 : decode cX7_watch 4 = .ok (.bipush 12, 2) := by decide +kernel
theorem dX7_watch_6 : decode cX7_watch 6 = .ok (.iload_n 1, 1) := by decide +kernel
theorem dX7_watch_7 : decode cX7_watch 7 = .ok (.iadd, 1) := by decide +kernel
theorem dX7_watch_8 : decode cX7_watch 8 = .ok (.iaload, 1) := by decide +kernel
theorem dX7_watch_9 : decode cX7_watch 9 = .ok (.ifCond .ge 5, 3) := by decide +kernel
theorem dX7_watch_12 : decode cX7_watch 12 = .ok (.iconst 1, 1) := by decide +kernel
theorem dX7_watch_13 : decode cX7_watch 13 = .ok (.ireturn, 1) := by decide +kernel
theorem dX7_watch_14 : decode cX7_watch 14 = .ok (.aload_n 0, 1) := by decide +kernel
theorem dX7_watch_15 : decode cX7_watch 15 = .ok (.getfield 13, 3) := by decide +kernel
theorem dX7_watch_18 : decode cX7_watch 18 = .ok (.bipush 18, 2) := by decide +kernel
theorem dX7_watch_20 : decode cX7_watch 20 = .ok (.iaload, 1) := by decide +kernel
theorem dX7_watch_21 : decode cX7_watch 21 = .ok (.iload_n 1, 1) := by decide +kernel
theorem dX7_watch_22 : decode cX7_watch 22 = .ok (.invokestatic 80, 3) := by decide +kernel
theorem dX7_watch_25 : decode cX7_watch 25 = .ok (.ifCond .ne 23, 3) := by decide +kernel
theorem dX7_watch_28 : decode cX7_watch 28 = .ok (.aload_n 0, 1) := by decide +kernel
theorem dX7_watch_29 : decode cX7_watch 29 = .ok (.getfield 13, 3) := by decide +kernel
theorem dX7_watch_32 : decode cX7_watch 32 = .ok (.bipush 18, 2) := by decide +kernel
theorem dX7_watch_34 : decode cX7_watch 34 = .ok (.iaload, 1) := by decide +kernel
theorem dX7_watch_35 : decode cX7_watch 35 = .ok (.invokestatic 56, 3) := by decide +kernel
theorem dX7_watch_38 : decode cX7_watch 38 = .ok (.aload_n 0, 1) := by decide +kernel
theorem dX7_watch_39 : decode cX7_watch 39 = .ok (.getfield 16, 3) := by decide +kernel
theorem dX7_watch_42 : decode cX7_watch 42 = .ok (.if_icmp .lt 6, 3) := by decide +kernel
theorem dX7_watch_45 : decode cX7_watch 45 = .ok (.bipush 6, 2) := by decide +kernel
theorem dX7_watch_47 : decode cX7_watch 47 = .ok (.ireturn, 1) := by decide +kernel
theorem dX7_watch_48 : decode cX7_watch 48 = .ok (.aload_n 0, 1) := by decide +kernel
theorem dX7_watch_49 : decode cX7_watch 49 = .ok (.getfield 13, 3) := by decide +kernel
theorem dX7_watch_52 : decode cX7_watch 52 = .ok (.bipush 18, 2) := by decide +kernel
theorem dX7_watch_54 : decode cX7_watch 54 = .ok (.dup2, 1) := by decide +kernel
theorem dX7_watch_55 : decode cX7_watch 55 = .ok (.iaload, 1) := by decide +kernel
theorem dX7_watch_56 : decode cX7_watch 56 = .ok (.iconst 1, 1) := by decide +kernel
theorem dX7_watch_57 : decode cX7_watch 57 = .ok (.iload_n 1, 1) := by decide +kernel
theorem dX7_watch_58 : decode cX7_watch 58 = .ok (.ishl, 1) := by decide +kernel
theorem dX7_watch_59 : decode cX7_watch 59 = .ok (.ixor, 1) := by decide +kernel
theorem dX7_watch_60 : decode cX7_watch 60 = .ok (.iastore, 1) := by decide +kernel
theorem dX7_watch_61 : decode cX7_watch 61 = .ok (.iconst 0, 1) := by decide +kernel
theorem dX7_watch_62 : decode cX7_watch 62 = .ok (.ireturn, 1) := by decide +kernel
theorem dX7_burn_0 : decode cX7_burn 0 = .ok (.iconst 0, 1) := by decide +kernel
theorem dX7_burn_1 : decode cX7_burn 1 = .ok (.istore_n 1, 1) := by decide +kernel
theorem dX7_burn_2 : decode cX7_burn 2 = .ok (.iconst 0, 1) := by decide +kernel
theorem dX7_burn_3 : decode cX7_burn 3 = .ok (.istore_n 2, 1) := by decide +kernel
theorem dX7_burn_4 : decode cX7_burn 4 = .ok (.iload_n 2, 1) := by decide +kernel
theorem dX7_burn_5 : decode cX7_burn 5 = .ok (.bipush 6, 2) := by decide +kernel
theorem dX7_burn_7 : decode cX7_burn 7 = .ok (.if_icmp .ge 137, 3) := by decide +kernel
theorem dX7_burn_10 : decode cX7_burn 10 = .ok (.aload_n 0, 1) := by decide +kernel
theorem dX7_burn_11 : decode cX7_burn 11 = .ok (.getfield 13, 3) := by decide +kernel
theorem dX7_burn_14 : decode cX7_burn 14 = .ok (.iload_n 2, 1) := by decide +kernel
theorem dX7_burn_15 : decode cX7_burn 15 = .ok (.iaload, 1) := by decide +kernel
theorem dX7_burn_16 : decode cX7_burn 16 = .ok (.iconst 5, 1) := by decide +kernel
theorem dX7_burn_17 : decode cX7_burn 17 = .ok (.iadd, 1) := by decide +kernel
theorem dX7_burn_18 : decode cX7_burn 18 = .ok (.aload_n 0, 1) := by decide +kernel
theorem dX7_burn_19 : decode cX7_burn 19 = .ok (.getfield 13, 3) := by decide +kernel
theorem dX7_burn_22 : decode cX7_burn 22 = .ok (.bipush 6, 2) := by decide +kernel
theorem dX7_burn_24 : decode cX7_burn 24 = .ok (.iload_n 2, 1) := by decide +kernel
theorem dX7_burn_25 : decode cX7_burn 25 = .ok (.iadd, 1) := by decide +kernel
theorem dX7_burn_26 : decode cX7_burn 26 = .ok (.iaload, 1) := by decide +kernel
theorem dX7_burn_27 : decode cX7_burn 27 = .ok (.isub, 1) := by decide +kernel
theorem dX7_burn_28 : decode cX7_burn 28 = .ok (.istore_n 3, 1) := by decide +kernel
theorem dX7_burn_29 : decode cX7_burn 29 = .ok (.aload_n 0, 1) := by decide +kernel
theorem dX7_burn_30 : decode cX7_burn 30 = .ok (.getfield 13, 3) := by decide +kernel
theorem dX7_burn_33 : decode cX7_burn 33 = .ok (.iload_n 2, 1) := by decide +kernel
theorem dX7_burn_34 : decode cX7_burn 34 = .ok (.iaload, 1) := by decide +kernel
theorem dX7_burn_35 : decode cX7_burn 35 = .ok (.ifCond .le 103, 3) := by decide +kernel
theorem dX7_burn_38 : decode cX7_burn 38 = .ok (.iload_n 3, 1) := by decide +kernel
theorem dX7_burn_39 : decode cX7_burn 39 = .ok (.bipush 9, 2) := by decide +kernel
theorem dX7_burn_41 : decode cX7_burn 41 = .ok (.if_icmp .le 21, 3) := by decide +kernel
theorem dX7_burn_44 : decode cX7_burn 44 = .ok (.aload_n 0, 1) := by decide +kernel
theorem dX7_burn_45 : decode cX7_burn 45 = .ok (.getfield 13, 3) := by decide +kernel
theorem dX7_burn_48 : decode cX7_burn 48 = .ok (.bipush 18, 2) := by decide +kernel
theorem dX7_burn_50 : decode cX7_burn 50 = .ok (.iaload, 1) := by decide +kernel
theorem dX7_burn_51 : decode cX7_burn 51 = .ok (.iload_n 2, 1) := by decide +kernel
theorem dX7_burn_52 : decode cX7_burn 52 = .ok (.invokestatic 80, 3) := by decide +kernel
theorem dX7_burn_55 : decode cX7_burn 55 = .ok (.ifCond .ne 7, 3) := by decide +kernel
theorem dX7_burn_58 : decode cX7_burn 58 = .ok (.iconst 1, 1) := by decide +kernel
theorem dX7_burn_59 : decode cX7_burn 59 = .ok (.goto 4, 3) := by decide +kernel
theorem dX7_burn_62 : decode cX7_burn 62 = .ok (.iconst 0, 1) := by decide +kernel
theorem dX7_burn_63 : decode cX7_burn 63 = .ok (.istore 4, 2) := by decide +kernel
theorem dX7_burn_65 : decode cX7_burn 65 = .ok (.iload_n 1, 1) := by decide +kernel
theorem dX7_burn_66 : decode cX7_burn 66 = .ok (.iload 4, 2) := by decide +kernel
theorem dX7_burn_68 : decode cX7_burn 68 = .ok (.ifCond .eq 9, 3) := by decide +kernel
theorem dX7_burn_71 : decode cX7_burn 71 = .ok (.iconst 1, 1) := by decide +kernel
theorem dX7_burn_72 : decode cX7_burn 72 = .ok (.iload_n 2, 1) := by decide +kernel
theorem dX7_burn_73 : decode cX7_burn 73 = .ok (.ishl, 1) := by decide +kernel
theorem dX7_burn_74 : decode cX7_burn 74 = .ok (.goto 4, 3) := by decide +kernel
theorem dX7_burn_77 : decode cX7_burn 77 = .ok (.iconst 0, 1) := by decide +kernel
theorem dX7_burn_78 : decode cX7_burn 78 = .ok (.ior, 1) := by decide +kernel
theorem dX7_burn_79 : decode cX7_burn 79 = .ok (.istore_n 1, 1) := by decide +kernel
theorem dX7_burn_80 : decode cX7_burn 80 = .ok (.aload_n 0, 1) := by decide +kernel
theorem dX7_burn_81 : decode cX7_burn 81 = .ok (.getfield 13, 3) := by decide +kernel
theorem dX7_burn_84 : decode cX7_burn 84 = .ok (.bipush 20, 2) := by decide +kernel
theorem dX7_burn_86 : decode cX7_burn 86 = .ok (.dup2, 1) := by decide +kernel
theorem dX7_burn_87 : decode cX7_burn 87 = .ok (.iaload, 1) := by decide +kernel
theorem dX7_burn_88 : decode cX7_burn 88 = .ok (.iload_n 3, 1) := by decide +kernel
theorem dX7_burn_89 : decode cX7_burn 89 = .ok (.iconst 1, 1) := by decide +kernel
theorem dX7_burn_90 : decode cX7_burn 90 = .ok (.if_icmp .ge 9, 3) := by decide +kernel
theorem dX7_burn_93 : decode cX7_burn 93 = .ok (.iconst 1, 1) := by decide +kernel
theorem dX7_burn_94 : decode cX7_burn 94 = .ok (.iload_n 2, 1) := by decide +kernel
theorem dX7_burn_95 : decode cX7_burn 95 = .ok (.ishl, 1) := by decide +kernel
theorem dX7_burn_96 : decode cX7_burn 96 = .ok (.goto 4, 3) := by decide +kernel
theorem dX7_burn_99 : decode cX7_burn 99 = .ok (.iconst 0, 1) := by decide +kernel
theorem dX7_burn_100 : decode cX7_burn 100 = .ok (.ior, 1) := by decide +kernel
theorem dX7_burn_101 : decode cX7_burn 101 = .ok (.iastore, 1) := by decide +kernel
theorem dX7_burn_102 : decode cX7_burn 102 = .ok (.aload_n 0, 1) := by decide +kernel
theorem dX7_burn_103 : decode cX7_burn 103 = .ok (.getfield 13, 3) := by decide +kernel
theorem dX7_burn_106 : decode cX7_burn 106 = .ok (.iload_n 2, 1) := by decide +kernel
theorem dX7_burn_107 : decode cX7_burn 107 = .ok (.iload_n 3, 1) := by decide +kernel
theorem dX7_burn_108 : decode cX7_burn 108 = .ok (.iconst 1, 1) := by decide +kernel
theorem dX7_burn_109 : decode cX7_burn 109 = .ok (.if_icmp .ge 7, 3) := by decide +kernel
theorem dX7_burn_112 : decode cX7_burn 112 = .ok (.iconst 0, 1) := by decide +kernel
theorem dX7_burn_113 : decode cX7_burn 113 = .ok (.goto 24, 3) := by decide +kernel
theorem dX7_burn_116 : decode cX7_burn 116 = .ok (.iload_n 3, 1) := by decide +kernel
theorem dX7_burn_117 : decode cX7_burn 117 = .ok (.bipush 10, 2) := by decide +kernel
theorem dX7_burn_119 : decode cX7_burn 119 = .ok (.if_icmp .ge 7, 3) := by decide +kernel
theorem dX7_burn_122 : decode cX7_burn 122 = .ok (.iload_n 3, 1) := by decide +kernel
theorem dX7_burn_123 : decode cX7_burn 123 = .ok (.goto 14, 3) := by decide +kernel
theorem dX7_burn_126 : decode cX7_burn 126 = .ok (.iload 4, 2) := by decide +kernel
theorem dX7_burn_128 : decode cX7_burn 128 = .ok (.ifCond .eq 8, 3) := by decide +kernel
theorem dX7_burn_131 : decode cX7_burn 131 = .ok (.bipush 9, 2) := by decide +kernel
theorem dX7_burn_133 : decode cX7_burn 133 = .ok (.goto 4, 3) := by decide +kernel
theorem dX7_burn_136 : decode cX7_burn 136 = .ok (.iconst 5, 1) := by decide +kernel
theorem dX7_burn_137 : decode cX7_burn 137 = .ok (.iastore, 1) := by decide +kernel
theorem dX7_burn_138 : decode cX7_burn 138 = .ok (.iinc 2 1, 3) := by decide +kernel
theorem dX7_burn_141 : decode cX7_burn 141 = .ok (.goto (-137), 3) := by decide +kernel
theorem dX7_burn_144 : decode cX7_burn 144 = .ok (.iconst 0, 1) := by decide +kernel
theorem dX7_burn_145 : decode cX7_burn 145 = .ok (.istore_n 2, 1) := by decide +kernel
theorem dX7_burn_146 : decode cX7_burn 146 = .ok (.iload_n 2, 1) := by decide +kernel
theorem dX7_burn_147 : decode cX7_burn 147 = .ok (.bipush 6, 2) := by decide +kernel
theorem dX7_burn_149 : decode cX7_burn 149 = .ok (.if_icmp .ge 110, 3) := by decide +kernel
theorem dX7_burn_152 : decode cX7_burn 152 = .ok (.iconst 0, 1) := by decide +kernel
theorem dX7_burn_153 : decode cX7_burn 153 = .ok (.istore_n 3, 1) := by decide +kernel
theorem dX7_burn_154 : decode cX7_burn 154 = .ok (.iload_n 3, 1) := by decide +kernel
theorem dX7_burn_155 : decode cX7_burn 155 = .ok (.bipush 6, 2) := by decide +kernel
theorem dX7_burn_157 : decode cX7_burn 157 = .ok (.if_icmp .ge 96, 3) := by decide +kernel
theorem dX7_burn_160 : decode cX7_burn 160 = .ok (.aload_n 0, 1) := by decide +kernel
theorem dX7_burn_161 : decode cX7_burn 161 = .ok (.getfield 13, 3) := by decide +kernel
theorem dX7_burn_164 : decode cX7_burn 164 = .ok (.iload_n 2, 1) := by decide +kernel
theorem dX7_burn_165 : decode cX7_burn 165 = .ok (.iaload, 1) := by decide +kernel
theorem dX7_burn_166 : decode cX7_burn 166 = .ok (.ifCond .le 44, 3) := by decide +kernel
theorem dX7_burn_169 : decode cX7_burn 169 = .ok (.iload_n 3, 1) := by decide +kernel
theorem dX7_burn_170 : decode cX7_burn 170 = .ok (.iload_n 2, 1) := by decide +kernel
theorem dX7_burn_171 : decode cX7_burn 171 = .ok (.if_icmp .eq 39, 3) := by decide +kernel
theorem dX7_burn_174 : decode cX7_burn 174 = .ok (.iload_n 1, 1) := by decide +kernel
theorem dX7_burn_175 : decode cX7_burn 175 = .ok (.iload_n 3, 1) := by decide +kernel
theorem dX7_burn_176 : decode cX7_burn 176 = .ok (.invokestatic 80, 3) := by decide +kernel
theorem dX7_burn_179 : decode cX7_burn 179 = .ok (.ifCond .eq 31, 3) := by decide +kernel
theorem dX7_burn_182 : decode cX7_burn 182 = .ok (.aload_n 0, 1) := by decide +kernel
theorem dX7_burn_183 : decode cX7_burn 183 = .ok (.getfield 13, 3) := by decide +kernel
theorem dX7_burn_186 : decode cX7_burn 186 = .ok (.bipush 12, 2) := by decide +kernel
theorem dX7_burn_188 : decode cX7_burn 188 = .ok (.iload_n 2, 1) := by decide +kernel
theorem dX7_burn_189 : decode cX7_burn 189 = .ok (.iadd, 1) := by decide +kernel
theorem dX7_burn_190 : decode cX7_burn 190 = .ok (.iaload, 1) := by decide +kernel
theorem dX7_burn_191 : decode cX7_burn 191 = .ok (.aload_n 0, 1) := by decide +kernel
theorem dX7_burn_192 : decode cX7_burn 192 = .ok (.getfield 13, 3) := by decide +kernel
theorem dX7_burn_195 : decode cX7_burn 195 = .ok (.bipush 12, 2) := by decide +kernel
theorem dX7_burn_197 : decode cX7_burn 197 = .ok (.iload_n 3, 1) := by decide +kernel
theorem dX7_burn_198 : decode cX7_burn 198 = .ok (.iadd, 1) := by decide +kernel
theorem dX7_burn_199 : decode cX7_burn 199 = .ok (.iaload, 1) := by decide +kernel
theorem dX7_burn_200 : decode cX7_burn 200 = .ok (.invokestatic 84, 3) := by decide +kernel
theorem dX7_burn_203 : decode cX7_burn 203 = .ok (.ifCond .eq 7, 3) := by decide +kernel
theorem dX7_burn_206 : decode cX7_burn 206 = .ok (.iconst 1, 1) := by decide +kernel
theorem dX7_burn_207 : decode cX7_burn 207 = .ok (.goto 4, 3) := by decide +kernel
theorem dX7_burn_210 : decode cX7_burn 210 = .ok (.iconst 0, 1) := by decide +kernel
theorem dX7_burn_211 : decode cX7_burn 211 = .ok (.istore 4, 2) := by decide +kernel
theorem dX7_burn_213 : decode cX7_burn 213 = .ok (.aload_n 0, 1) := by decide +kernel
theorem dX7_burn_214 : decode cX7_burn 214 = .ok (.getfield 13, 3) := by decide +kernel
theorem dX7_burn_217 : decode cX7_burn 217 = .ok (.bipush 6, 2) := by decide +kernel
theorem dX7_burn_219 : decode cX7_burn 219 = .ok (.iload_n 2, 1) := by decide +kernel
theorem dX7_burn_220 : decode cX7_burn 220 = .ok (.iadd, 1) := by decide +kernel
theorem dX7_burn_221 : decode cX7_burn 221 = .ok (.dup2, 1) := by decide +kernel
theorem dX7_burn_222 : decode cX7_burn 222 = .ok (.iaload, 1) := by decide +kernel
theorem dX7_burn_223 : decode cX7_burn 223 = .ok (.iload 4, 2) := by decide +kernel
theorem dX7_burn_225 : decode cX7_burn 225 = .ok (.ifCond .eq 19, 3) := by decide +kernel
theorem dX7_burn_228 : decode cX7_burn 228 = .ok (.aload_n 0, 1) := by decide +kernel
theorem dX7_burn_229 : decode cX7_burn 229 = .ok (.getfield 13, 3) := by decide +kernel
theorem dX7_burn_232 : decode cX7_burn 232 = .ok (.bipush 6, 2) := by decide +kernel
theorem dX7_burn_234 : decode cX7_burn 234 = .ok (.iload_n 2, 1) := by decide +kernel
theorem dX7_burn_235 : decode cX7_burn 235 = .ok (.iadd, 1) := by decide +kernel
theorem dX7_burn_236 : decode cX7_burn 236 = .ok (.iaload, 1) := by decide +kernel
theorem dX7_burn_237 : decode cX7_burn 237 = .ok (.ifCond .le 7, 3) := by decide +kernel
theorem dX7_burn_240 : decode cX7_burn 240 = .ok (.iconst 1, 1) := by decide +kernel
theorem dX7_burn_241 : decode cX7_burn 241 = .ok (.goto 4, 3) := by decide +kernel
theorem dX7_burn_244 : decode cX7_burn 244 = .ok (.iconst 0, 1) := by decide +kernel
theorem dX7_burn_245 : decode cX7_burn 245 = .ok (.isub, 1) := by decide +kernel
theorem dX7_burn_246 : decode cX7_burn 246 = .ok (.iastore, 1) := by decide +kernel
theorem dX7_burn_247 : decode cX7_burn 247 = .ok (.iinc 3 1, 3) := by decide +kernel
theorem dX7_burn_250 : decode cX7_burn 250 = .ok (.goto (-96), 3) := by decide +kernel
theorem dX7_burn_253 : decode cX7_burn 253 = .ok (.iinc 2 1, 3) := by decide +kernel
theorem dX7_burn_256 : decode cX7_burn 256 = .ok (.goto (-110), 3) := by decide +kernel
theorem dX7_burn_259 : decode cX7_burn 259 = .ok (.aload_n 0, 1) := by decide +kernel
theorem dX7_burn_260 : decode cX7_burn 260 = .ok (.getfield 13, 3) := by decide +kernel
theorem dX7_burn_263 : decode cX7_burn 263 = .ok (.bipush 19, 2) := by decide +kernel
theorem dX7_burn_265 : decode cX7_burn 265 = .ok (.dup2, 1) := by decide +kernel
theorem dX7_burn_266 : decode cX7_burn 266 = .ok (.iaload, 1) := by decide +kernel
theorem dX7_burn_267 : decode cX7_burn 267 = .ok (.iload_n 1, 1) := by decide +kernel
theorem dX7_burn_268 : decode cX7_burn 268 = .ok (.ior, 1) := by decide +kernel
theorem dX7_burn_269 : decode cX7_burn 269 = .ok (.iastore, 1) := by decide +kernel
theorem dX7_burn_270 : decode cX7_burn 270 = .ok (.aload_n 0, 1) := by decide +kernel
theorem dX7_burn_271 : decode cX7_burn 271 = .ok (.dup, 1) := by decide +kernel
theorem dX7_burn_272 : decode cX7_burn 272 = .ok (.getfield 67, 3) := by decide +kernel
theorem dX7_burn_275 : decode cX7_burn 275 = .ok (.iload_n 1, 1) := by decide +kernel
theorem dX7_burn_276 : decode cX7_burn 276 = .ok (.invokestatic 56, 3) := by decide +kernel
theorem dX7_burn_279 : decode cX7_burn 279 = .ok (.iadd, 1) := by decide +kernel
theorem dX7_burn_280 : decode cX7_burn 280 = .ok (.putfield 67, 3) := by decide +kernel
theorem dX7_burn_283 : decode cX7_burn 283 = .ok (.iload_n 1, 1) := by decide +kernel
theorem dX7_burn_284 : decode cX7_burn 284 = .ok (.ireturn, 1) := by decide +kernel
theorem dX7_endNight_0 : decode cX7_endNight 0 = .ok (.aload_n 0, 1) := by decide +kernel
theorem dX7_endNight_1 : decode cX7_endNight 1 = .ok (.getfield 13, 3) := by decide +kernel
theorem dX7_endNight_4 : decode cX7_endNight 4 = .ok (.bipush 21, 2) := by decide +kernel
theorem dX7_endNight_6 : decode cX7_endNight 6 = .ok (.iaload, 1) := by decide +kernel
theorem dX7_endNight_7 : decode cX7_endNight 7 = .ok (.bipush 99, 2) := by decide +kernel
theorem dX7_endNight_9 : decode cX7_endNight 9 = .ok (.if_icmp .ne 6, 3) := by decide +kernel
theorem dX7_endNight_12 : decode cX7_endNight 12 = .ok (.bipush 7, 2) := by decide +kernel
theorem dX7_endNight_14 : decode cX7_endNight 14 = .ok (.ireturn, 1) := by decide +kernel
theorem dX7_endNight_15 : decode cX7_endNight 15 = .ok (.aload_n 0, 1) := by decide +kernel
theorem dX7_endNight_16 : decode cX7_endNight 16 = .ok (.getfield 13, 3) := by decide +kernel
theorem dX7_endNight_19 : decode cX7_endNight 19 = .ok (.bipush 21, 2) := by decide +kernel
theorem dX7_endNight_21 : decode cX7_endNight 21 = .ok (.dup2, 1) := by decide +kernel
theorem dX7_endNight_22 : decode cX7_endNight 22 = .ok (.iaload, 1) := by decide +kernel
theorem dX7_endNight_23 : decode cX7_endNight 23 = .ok (.iconst 1, 1) := by decide +kernel
theorem dX7_endNight_24 : decode cX7_endNight 24 = .ok (.iadd, 1) := by decide +kernel
theorem dX7_endNight_25 : decode cX7_endNight 25 = .ok (.iastore, 1) := by decide +kernel
theorem dX7_endNight_26 : decode cX7_endNight 26 = .ok (.aload_n 0, 1) := by decide +kernel
theorem dX7_endNight_27 : decode cX7_endNight 27 = .ok (.aload_n 0, 1) := by decide +kernel
theorem dX7_endNight_28 : decode cX7_endNight 28 = .ok (.invokevirtual 87, 3) := by decide +kernel
theorem dX7_endNight_31 : decode cX7_endNight 31 = .ok (.putfield 90, 3) := by decide +kernel
theorem dX7_endNight_34 : decode cX7_endNight 34 = .ok (.iconst 0, 1) := by decide +kernel
theorem dX7_endNight_35 : decode cX7_endNight 35 = .ok (.ireturn, 1) := by decide +kernel
theorem dX7_goWeeks_0 : decode cX7_goWeeks 0 = .ok (.aload_n 0, 1) := by decide +kernel
theorem dX7_goWeeks_1 : decode cX7_goWeeks 1 = .ok (.invokevirtual 93, 3) := by decide +kernel
theorem dX7_goWeeks_4 : decode cX7_goWeeks 4 = .ok (.aload_n 0, 1) := by decide +kernel
theorem dX7_goWeeks_5 : decode cX7_goWeeks 5 = .ok (.iconst 0, 1) := by decide +kernel
theorem dX7_goWeeks_6 : decode cX7_goWeeks 6 = .ok (.putfield 96, 3) := by decide +kernel
theorem dX7_goWeeks_9 : decode cX7_goWeeks 9 = .ok (.iconst 0, 1) := by decide +kernel
theorem dX7_goWeeks_10 : decode cX7_goWeeks 10 = .ok (.istore_n 1, 1) := by decide +kernel
theorem dX7_goWeeks_11 : decode cX7_goWeeks 11 = .ok (.iload_n 1, 1) := by decide +kernel
theorem dX7_goWeeks_12 : decode cX7_goWeeks 12 = .ok (.aload_n 0, 1) := by decide +kernel
theorem dX7_goWeeks_13 : decode cX7_goWeeks 13 = .ok (.getfield 60, 3) := by decide +kernel
theorem dX7_goWeeks_16 : decode cX7_goWeeks 16 = .ok (.if_icmp .ge 196, 3) := by decide +kernel
theorem dX7_goWeeks_19 : decode cX7_goWeeks 19 = .ok (.aload_n 0, 1) := by decide +kernel
theorem dX7_goWeeks_20 : decode cX7_goWeeks 20 = .ok (.iconst 0, 1) := by decide +kernel
theorem dX7_goWeeks_21 : decode cX7_goWeeks 21 = .ok (.putfield 90, 3) := by decide +kernel
theorem dX7_goWeeks_24 : decode cX7_goWeeks 24 = .ok (.aload_n 0, 1) := by decide +kernel
theorem dX7_goWeeks_25 : decode cX7_goWeeks 25 = .ok (.getfield 23, 3) := by decide +kernel
theorem dX7_goWeeks_28 : decode cX7_goWeeks 28 = .ok (.iload_n 1, 1) := by decide +kernel
theorem dX7_goWeeks_29 : decode cX7_goWeeks 29 = .ok (.iaload, 1) := by decide +kernel
theorem dX7_goWeeks_30 : decode cX7_goWeeks 30 = .ok (.bipush 46, 2) := by decide +kernel
theorem dX7_goWeeks_32 : decode cX7_goWeeks 32 = .ok (.if_icmp .ne 17, 3) := by decide +kernel
theorem dX7_goWeeks_35 : decode cX7_goWeeks 35 = .ok (.aload_n 0, 1) := by decide +kernel
theorem dX7_goWeeks_36 : decode cX7_goWeeks 36 = .ok (.aload_n 0, 1) := by decide +kernel
theorem dX7_goWeeks_37 : decode cX7_goWeeks 37 = .ok (.invokevirtual 99, 3) := by decide +kernel
theorem dX7_goWeeks_40 : decode cX7_goWeeks 40 = .ok (.putfield 102, 3) := by decide +kernel
theorem dX7_goWeeks_43 : decode cX7_goWeeks 43 = .ok (.iinc 1 1, 3) := by decide +kernel
theorem dX7_goWeeks_46 : decode cX7_goWeeks 46 = .ok (.goto 96, 3) := by decide +kernel
theorem dX7_goWeeks_49 : decode cX7_goWeeks 49 = .ok (.aload_n 0, 1) := by decide +kernel
theorem dX7_goWeeks_50 : decode cX7_goWeeks 50 = .ok (.getfield 23, 3) := by decide +kernel
theorem dX7_goWeeks_53 : decode cX7_goWeeks 53 = .ok (.iload_n 1, 1) := by decide +kernel
theorem dX7_goWeeks_54 : decode cX7_goWeeks 54 = .ok (.iaload, 1) := by decide +kernel
theorem dX7_goWeeks_55 : decode cX7_goWeeks 55 = .ok (.bipush 65, 2) := by decide +kernel
theorem dX7_goWeeks_57 : decode cX7_goWeeks 57 = .ok (.isub, 1) := by decide +kernel
theorem dX7_goWeeks_58 : decode cX7_goWeeks 58 = .ok (.istore_n 2, 1) := by decide +kernel
theorem dX7_goWeeks_59 : decode cX7_goWeeks 59 = .ok (.aload_n 0, 1) := by decide +kernel
theorem dX7_goWeeks_60 : decode cX7_goWeeks 60 = .ok (.getfield 23, 3) := by decide +kernel
theorem dX7_goWeeks_63 : decode cX7_goWeeks 63 = .ok (.iload_n 1, 1) := by decide +kernel
theorem dX7_goWeeks_64 : decode cX7_goWeeks 64 = .ok (.iconst 1, 1) := by decide +kernel
theorem dX7_goWeeks_65 : decode cX7_goWeeks 65 = .ok (.iadd, 1) := by decide +kernel
theorem dX7_goWeeks_66 : decode cX7_goWeeks 66 = .ok (.iaload, 1) := by decide +kernel
theorem dX7_goWeeks_67 : decode cX7_goWeeks 67 = .ok (.istore_n 3, 1) := by decide +kernel
theorem dX7_goWeeks_68 : decode cX7_goWeeks 68 = .ok (.aload_n 0, 1) := by decide +kernel
theorem dX7_goWeeks_69 : decode cX7_goWeeks 69 = .ok (.iload_n 3, 1) := by decide +kernel
theorem dX7_goWeeks_70 : decode cX7_goWeeks 70 = .ok (.bipush 43, 2) := by decide +kernel
theorem dX7_goWeeks_72 : decode cX7_goWeeks 72 = .ok (.if_icmp .ne 12, 3) := by decide +kernel
theorem dX7_goWeeks_75 : decode cX7_goWeeks 75 = .ok (.aload_n 0, 1) := by decide +kernel
theorem dX7_goWeeks_76 : decode cX7_goWeeks 76 = .ok (.iload_n 2, 1) := by decide +kernel
theorem dX7_goWeeks_77 : decode cX7_goWeeks 77 = .ok (.iconst 1, 1) := by decide +kernel
theorem dX7_goWeeks_78 : decode cX7_goWeeks 78 = .ok (.invokevirtual 105, 3) := by decide +kernel
theorem dX7_goWeeks_81 : decode cX7_goWeeks 81 = .ok (.goto 55, 3) := by decide +kernel
theorem dX7_goWeeks_84 : decode cX7_goWeeks 84 = .ok (.iload_n 3, 1) := by decide +kernel
theorem dX7_goWeeks_85 : decode cX7_goWeeks 85 = .ok (.bipush 45, 2) := by decide +kernel
theorem dX7_goWeeks_87 : decode cX7_goWeeks 87 = .ok (.if_icmp .ne 12, 3) := by decide +kernel
theorem dX7_goWeeks_90 : decode cX7_goWeeks 90 = .ok (.aload_n 0, 1) := by decide +kernel
theorem dX7_goWeeks_91 : decode cX7_goWeeks 91 = .ok (.iload_n 2, 1) := by decide +kernel
theorem dX7_goWeeks_92 : decode cX7_goWeeks 92 = .ok (.iconst (-1), 1) := by decide +kernel
theorem dX7_goWeeks_93 : decode cX7_goWeeks 93 = .ok (.invokevirtual 105, 3) := by decide +kernel
theorem dX7_goWeeks_96 : decode cX7_goWeeks 96 = .ok (.goto 40, 3) := by decide +kernel
theorem dX7_goWeeks_99 : decode cX7_goWeeks 99 = .ok (.iload_n 3, 1) := by decide +kernel
theorem dX7_goWeeks_100 : decode cX7_goWeeks 100 = .ok (.bipush 42, 2) := by decide +kernel
theorem dX7_goWeeks_102 : decode cX7_goWeeks 102 = .ok (.if_icmp .ne 11, 3) := by decide +kernel
theorem dX7_goWeeks_105 : decode cX7_goWeeks 105 = .ok (.aload_n 0, 1) := by decide +kernel
theorem dX7_goWeeks_106 : decode cX7_goWeeks 106 = .ok (.iload_n 2, 1) := by decide +kernel
theorem dX7_goWeeks_107 : decode cX7_goWeeks 107 = .ok (.invokevirtual 108, 3) := by decide +kernel
theorem dX7_goWeeks_110 : decode cX7_goWeeks 110 = .ok (.goto 26, 3) := by decide +kernel
theorem dX7_goWeeks_113 : decode cX7_goWeeks 113 = .ok (.iload_n 3, 1) := by decide +kernel
theorem dX7_goWeeks_114 : decode cX7_goWeeks 114 = .ok (.bipush 94, 2) := by decide +kernel
theorem dX7_goWeeks_116 : decode cX7_goWeeks 116 = .ok (.if_icmp .ne 11, 3) := by decide +kernel
theorem dX7_goWeeks_119 : decode cX7_goWeeks 119 = .ok (.aload_n 0, 1) := by decide +kernel
theorem dX7_goWeeks_120 : decode cX7_goWeeks 120 = .ok (.iload_n 2, 1) := by decide +kernel
theorem dX7_goWeeks_121 : decode cX7_goWeeks 121 = .ok (.invokevirtual 111, 3) := by decide +kernel
theorem dX7_goWeeks_124 : decode cX7_goWeeks 124 = .ok (.goto 12, 3) := by decide +kernel
theorem dX7_goWeeks_127 : decode cX7_goWeeks 127 = .ok (.aload_n 0, 1) := by decide +kernel
theorem dX7_goWeeks_128 : decode cX7_goWeeks 128 = .ok (.iload_n 2, 1) := by decide +kernel
theorem dX7_goWeeks_129 : decode cX7_goWeeks 129 = .ok (.iload_n 3, 1) := by decide +kernel
theorem dX7_goWeeks_130 : decode cX7_goWeeks 130 = .ok (.bipush 97, 2) := by decide +kernel
theorem dX7_goWeeks_132 : decode cX7_goWeeks 132 = .ok (.isub, 1) := by decide +kernel
theorem dX7_goWeeks_133 : decode cX7_goWeeks 133 = .ok (.invokevirtual 114, 3) := by decide +kernel
theorem dX7_goWeeks_136 : decode cX7_goWeeks 136 = .ok (.putfield 102, 3) := by decide +kernel
theorem dX7_goWeeks_139 : decode cX7_goWeeks 139 = .ok (.iinc 1 2, 3) := by decide +kernel
theorem dX7_goWeeks_142 : decode cX7_goWeeks 142 = .ok (.aload_n 0, 1) := by decide +kernel
theorem dX7_goWeeks_143 : decode cX7_goWeeks 143 = .ok (.getfield 102, 3) := by decide +kernel
theorem dX7_goWeeks_146 : decode cX7_goWeeks 146 = .ok (.ifCond .le 8, 3) := by decide +kernel
theorem dX7_goWeeks_149 : decode cX7_goWeeks 149 = .ok (.aload_n 0, 1) := by decide +kernel
theorem dX7_goWeeks_150 : decode cX7_goWeeks 150 = .ok (.getfield 96, 3) := by decide +kernel
theorem dX7_goWeeks_153 : decode cX7_goWeeks 153 = .ok (.ireturn, 1) := by decide +kernel
theorem dX7_goWeeks_154 : decode cX7_goWeeks 154 = .ok (.iconst 0, 1) := by decide +kernel
theorem dX7_goWeeks_155 : decode cX7_goWeeks 155 = .ok (.istore_n 2, 1) := by decide +kernel
theorem dX7_goWeeks_156 : decode cX7_goWeeks 156 = .ok (.iload_n 2, 1) := by decide +kernel
theorem dX7_goWeeks_157 : decode cX7_goWeeks 157 = .ok (.bipush 6, 2) := by decide +kernel
theorem dX7_goWeeks_159 : decode cX7_goWeeks 159 = .ok (.if_icmp .ge 40, 3) := by decide +kernel
theorem dX7_goWeeks_162 : decode cX7_goWeeks 162 = .ok (.aload_n 0, 1) := by decide +kernel
theorem dX7_goWeeks_163 : decode cX7_goWeeks 163 = .ok (.getfield 70, 3) := by decide +kernel
theorem dX7_goWeeks_166 : decode cX7_goWeeks 166 = .ok (.ifCond .ge 33, 3) := by decide +kernel
theorem dX7_goWeeks_169 : decode cX7_goWeeks 169 = .ok (.aload_n 0, 1) := by decide +kernel
theorem dX7_goWeeks_170 : decode cX7_goWeeks 170 = .ok (.getfield 90, 3) := by decide +kernel
theorem dX7_goWeeks_173 : decode cX7_goWeeks 173 = .ok (.iload_n 2, 1) := by decide +kernel
theorem dX7_goWeeks_174 : decode cX7_goWeeks 174 = .ok (.invokestatic 80, 3) := by decide +kernel
theorem dX7_goWeeks_177 : decode cX7_goWeeks 177 = .ok (.ifCond .eq 16, 3) := by decide +kernel
theorem dX7_goWeeks_180 : decode cX7_goWeeks 180 = .ok (.aload_n 0, 1) := by decide +kernel
theorem dX7_goWeeks_181 : decode cX7_goWeeks 181 = .ok (.aload_n 0, 1) := by decide +kernel
theorem dX7_goWeeks_182 : decode cX7_goWeeks 182 = .ok (.getfield 96, 3) := by decide +kernel
theorem dX7_goWeeks_185 : decode cX7_goWeeks 185 = .ok (.putfield 70, 3) := by decide +kernel
theorem dX7_goWeeks_188 : decode cX7_goWeeks 188 = .ok (.aload_n 0, 1) := by decide +kernel
theorem dX7_goWeeks_189 : decode cX7_goWeeks 189 = .ok (.iload_n 2, 1) := by decide +kernel
theorem dX7_goWeeks_190 : decode cX7_goWeeks 190 = .ok (.putfield 73, 3) := by decide +kernel
theorem dX7_goWeeks_193 : decode cX7_goWeeks 193 = .ok (.iinc 2 1, 3) := by decide +kernel
theorem dX7_goWeeks_196 : decode cX7_goWeeks 196 = .ok (.goto (-40), 3) := by decide +kernel
theorem dX7_goWeeks_199 : decode cX7_goWeeks 199 = .ok (.aload_n 0, 1) := by decide +kernel
theorem dX7_goWeeks_200 : decode cX7_goWeeks 200 = .ok (.dup, 1) := by decide +kernel
theorem dX7_goWeeks_201 : decode cX7_goWeeks 201 = .ok (.getfield 96, 3) := by decide +kernel
theorem dX7_goWeeks_204 : decode cX7_goWeeks 204 = .ok (.iconst 1, 1) := by decide +kernel
theorem dX7_goWeeks_205 : decode cX7_goWeeks 205 = .ok (.iadd, 1) := by decide +kernel
theorem dX7_goWeeks_206 : decode cX7_goWeeks 206 = .ok (.putfield 96, 3) := by decide +kernel
theorem dX7_goWeeks_209 : decode cX7_goWeeks 209 = .ok (.goto (-198), 3) := by decide +kernel
theorem dX7_goWeeks_212 : decode cX7_goWeeks 212 = .ok (.bipush (-6), 2) := by decide +kernel
theorem dX7_goWeeks_214 : decode cX7_goWeeks 214 = .ok (.ireturn, 1) := by decide +kernel
theorem dX7_judge_0 : decode cX7_judge 0 = .ok (.iload_n 1, 1) := by decide +kernel
theorem dX7_judge_1 : decode cX7_judge 1 = .ok (.iconst 0, 1) := by decide +kernel
theorem dX7_judge_2 : decode cX7_judge 2 = .ok (.iconst 1, 1) := by decide +kernel
theorem dX7_judge_3 : decode cX7_judge 3 = .ok (.invokestatic 48, 3) := by decide +kernel
theorem dX7_judge_6 : decode cX7_judge 6 = .ok (.ifCond .ne 6, 3) := by decide +kernel
theorem dX7_judge_9 : decode cX7_judge 9 = .ok (.bipush (-2), 2) := by decide +kernel
theorem dX7_judge_11 : decode cX7_judge 11 = .ok (.ireturn, 1) := by decide +kernel
theorem dX7_judge_12 : decode cX7_judge 12 = .ok (.aload_n 0, 1) := by decide +kernel
theorem dX7_judge_13 : decode cX7_judge 13 = .ok (.invokevirtual 63, 3) := by decide +kernel
theorem dX7_judge_16 : decode cX7_judge 16 = .ok (.ifCond .lt 6, 3) := by decide +kernel
theorem dX7_judge_19 : decode cX7_judge 19 = .ok (.bipush (-5), 2) := by decide +kernel
theorem dX7_judge_21 : decode cX7_judge 21 = .ok (.ireturn, 1) := by decide +kernel
theorem dX7_judge_22 : decode cX7_judge 22 = .ok (.aload_n 0, 1) := by decide +kernel
theorem dX7_judge_23 : decode cX7_judge 23 = .ok (.invokevirtual 117, 3) := by decide +kernel
theorem dX7_judge_26 : decode cX7_judge 26 = .ok (.istore_n 2, 1) := by decide +kernel
theorem dX7_judge_27 : decode cX7_judge 27 = .ok (.iload_n 2, 1) := by decide +kernel
theorem dX7_judge_28 : decode cX7_judge 28 = .ok (.ifCond .lt 7, 3) := by decide +kernel
theorem dX7_judge_31 : decode cX7_judge 31 = .ok (.iload_n 1, 1) := by decide +kernel
theorem dX7_judge_32 : decode cX7_judge 32 = .ok (.ifCond .ne 7, 3) := by decide +kernel
theorem dX7_judge_35 : decode cX7_judge 35 = .ok (.iload_n 2, 1) := by decide +kernel
theorem dX7_judge_36 : decode cX7_judge 36 = .ok (.goto 7, 3) := by decide +kernel
theorem dX7_judge_39 : decode cX7_judge 39 = .ok (.aload_n 0, 1) := by decide +kernel
theorem dX7_judge_40 : decode cX7_judge 40 = .ok (.getfield 102, 3) := by decide +kernel
theorem dX7_judge_43 : decode cX7_judge 43 = .ok (.ireturn, 1) := by decide +kernel
theorem dX7_barOfWeeks_0 : decode cX7_barOfWeeks 0 = .ok (.aload_n 0, 1) := by decide +kernel
theorem dX7_barOfWeeks_1 : decode cX7_barOfWeeks 1 = .ok (.invokevirtual 63, 3) := by decide +kernel
theorem dX7_barOfWeeks_4 : decode cX7_barOfWeeks 4 = .ok (.ifCond .ge 10, 3) := by decide +kernel
theorem dX7_barOfWeeks_7 : decode cX7_barOfWeeks 7 = .ok (.aload_n 0, 1) := by decide +kernel
theorem dX7_barOfWeeks_8 : decode cX7_barOfWeeks 8 = .ok (.invokevirtual 117, 3) := by decide +kernel
theorem dX7_barOfWeeks_11 : decode cX7_barOfWeeks 11 = .ok (.ifCond .lt 8, 3) := by decide +kernel
theorem dX7_barOfWeeks_14 : decode cX7_barOfWeeks 14 = .ok (.bipush (-5), 2) := by decide +kernel
theorem dX7_barOfWeeks_16 : decode cX7_barOfWeeks 16 = .ok (.goto 4, 3) := by decide +kernel
theorem dX7_barOfWeeks_19 : decode cX7_barOfWeeks 19 = .ok (.iconst 0, 1) := by decide +kernel
theorem dX7_barOfWeeks_20 : decode cX7_barOfWeeks 20 = .ok (.ireturn, 1) := by decide +kernel
theorem dX7_done_0 : decode cX7_done 0 = .ok (.aload_n 0, 1) := by decide +kernel
theorem dX7_done_1 : decode cX7_done 1 = .ok (.invokevirtual 120, 3) := by decide +kernel
theorem dX7_done_4 : decode cX7_done 4 = .ok (.ifCond .ge 6, 3) := by decide +kernel
theorem dX7_done_7 : decode cX7_done 7 = .ok (.bipush (-5), 2) := by decide +kernel
theorem dX7_done_9 : decode cX7_done 9 = .ok (.ireturn, 1) := by decide +kernel
theorem dX7_done_10 : decode cX7_done 10 = .ok (.iconst 0, 1) := by decide +kernel
theorem dX7_done_11 : decode cX7_done 11 = .ok (.istore_n 1, 1) := by decide +kernel
theorem dX7_done_12 : decode cX7_done 12 = .ok (.iload_n 1, 1) := by decide +kernel
theorem dX7_done_13 : decode cX7_done 13 = .ok (.bipush 22, 2) := by decide +kernel
theorem dX7_done_15 : decode cX7_done 15 = .ok (.if_icmp .ge 21, 3) := by decide +kernel
theorem dX7_done_18 : decode cX7_done 18 = .ok (.aload_n 0, 1) := by decide +kernel
theorem dX7_done_19 : decode cX7_done 19 = .ok (.getfield 7, 3) := by decide +kernel
theorem dX7_done_22 : decode cX7_done 22 = .ok (.iload_n 1, 1) := by decide +kernel
theorem dX7_done_23 : decode cX7_done 23 = .ok (.aload_n 0, 1) := by decide +kernel
theorem dX7_done_24 : decode cX7_done 24 = .ok (.getfield 13, 3) := by decide +kernel
theorem dX7_done_27 : decode cX7_done 27 = .ok (.iload_n 1, 1) := by decide +kernel
theorem dX7_done_28 : decode cX7_done 28 = .ok (.iaload, 1) := by decide +kernel
theorem dX7_done_29 : decode cX7_done 29 = .ok (.iastore, 1) := by decide +kernel
theorem dX7_done_30 : decode cX7_done 30 = .ok (.iinc 1 1, 3) := by decide +kernel
theorem dX7_done_33 : decode cX7_done 33 = .ok (.goto (-21), 3) := by decide +kernel
theorem dX7_done_36 : decode cX7_done 36 = .ok (.aload_n 0, 1) := by decide +kernel
theorem dX7_done_37 : decode cX7_done 37 = .ok (.iconst 0, 1) := by decide +kernel
theorem dX7_done_38 : decode cX7_done 38 = .ok (.putfield 60, 3) := by decide +kernel
theorem dX7_done_41 : decode cX7_done 41 = .ok (.aload_n 0, 1) := by decide +kernel
theorem dX7_done_42 : decode cX7_done 42 = .ok (.getfield 96, 3) := by decide +kernel
theorem dX7_done_45 : decode cX7_done 45 = .ok (.ireturn, 1) := by decide +kernel
theorem dX7_behind_0 : decode cX7_behind 0 = .ok (.iload_n 1, 1) := by decide +kernel
theorem dX7_behind_1 : decode cX7_behind 1 = .ok (.invokestatic 52, 3) := by decide +kernel
theorem dX7_behind_4 : decode cX7_behind 4 = .ok (.ifCond .ne 5, 3) := by decide +kernel
theorem dX7_behind_7 : decode cX7_behind 7 = .ok (.iconst (-1), 1) := by decide +kernel
theorem dX7_behind_8 : decode cX7_behind 8 = .ok (.ireturn, 1) := by decide +kernel
theorem dX7_behind_9 : decode cX7_behind 9 = .ok (.iload_n 2, 1) := by decide +kernel
theorem dX7_behind_10 : decode cX7_behind 10 = .ok (.iconst 0, 1) := by decide +kernel
theorem dX7_behind_11 : decode cX7_behind 11 = .ok (.iconst 2, 1) := by decide +kernel
theorem dX7_behind_12 : decode cX7_behind 12 = .ok (.invokestatic 48, 3) := by decide +kernel
theorem dX7_behind_15 : decode cX7_behind 15 = .ok (.ifCond .ne 6, 3) := by decide +kernel
theorem dX7_behind_18 : decode cX7_behind 18 = .ok (.bipush (-2), 2) := by decide +kernel
theorem dX7_behind_20 : decode cX7_behind 20 = .ok (.ireturn, 1) := by decide +kernel
theorem dX7_behind_21 : decode cX7_behind 21 = .ok (.aload_n 0, 1) := by decide +kernel
theorem dX7_behind_22 : decode cX7_behind 22 = .ok (.invokevirtual 120, 3) := by decide +kernel
theorem dX7_behind_25 : decode cX7_behind 25 = .ok (.ifCond .ge 8, 3) := by decide +kernel
theorem dX7_behind_28 : decode cX7_behind 28 = .ok (.bipush (-5), 2) := by decide +kernel
theorem dX7_behind_30 : decode cX7_behind 30 = .ok (.goto 14, 3) := by decide +kernel
theorem dX7_behind_33 : decode cX7_behind 33 = .ok (.aload_n 0, 1) := by decide +kernel
theorem dX7_behind_34 : decode cX7_behind 34 = .ok (.getfield 13, 3) := by decide +kernel
theorem dX7_behind_37 : decode cX7_behind 37 = .ok (.bipush 6, 2) := by decide +kernel
theorem dX7_behind_39 : decode cX7_behind 39 = .ok (.iload_n 2, 1) := by decide +kernel
theorem dX7_behind_40 : decode cX7_behind 40 = .ok (.imul, 1) := by decide +kernel
theorem dX7_behind_41 : decode cX7_behind 41 = .ok (.iload_n 1, 1) := by decide +kernel
theorem dX7_behind_42 : decode cX7_behind 42 = .ok (.iadd, 1) := by decide +kernel
theorem dX7_behind_43 : decode cX7_behind 43 = .ok (.iaload, 1) := by decide +kernel
theorem dX7_behind_44 : decode cX7_behind 44 = .ok (.ireturn, 1) := by decide +kernel
theorem dX7_then_0 : decode cX7_then 0 = .ok (.iload_n 1, 1) := by decide +kernel
theorem dX7_then_1 : decode cX7_then 1 = .ok (.iconst 0, 1) := by decide +kernel
theorem dX7_then_2 : decode cX7_then 2 = .ok (.bipush 6, 2) := by decide +kernel
theorem dX7_then_4 : decode cX7_then 4 = .ok (.invokestatic 48, 3) := by decide +kernel
theorem dX7_then_7 : decode cX7_then 7 = .ok (.ifCond .ne 6, 3) := by decide +kernel
theorem dX7_then_10 : decode cX7_then 10 = .ok (.bipush (-2), 2) := by decide +kernel
theorem dX7_then_12 : decode cX7_then 12 = .ok (.ireturn, 1) := by decide +kernel
theorem dX7_then_13 : decode cX7_then 13 = .ok (.aload_n 0, 1) := by decide +kernel
theorem dX7_then_14 : decode cX7_then 14 = .ok (.invokevirtual 120, 3) := by decide +kernel
theorem dX7_then_17 : decode cX7_then 17 = .ok (.ifCond .ge 6, 3) := by decide +kernel
theorem dX7_then_20 : decode cX7_then 20 = .ok (.bipush (-5), 2) := by decide +kernel
theorem dX7_then_22 : decode cX7_then 22 = .ok (.ireturn, 1) := by decide +kernel
theorem dX7_then_23 : decode cX7_then 23 = .ok (.iload_n 1, 1) := by decide +kernel
theorem dX7_then_24 : decode cX7_then 24 = .ok (.tableswitch 73 0 4 #[36, 44, 52, 60, 65], 36) := by decide +kernel
theorem dX7_then_60 : decode cX7_then 60 = .ok (.aload_n 0, 1) := by decide +kernel
theorem dX7_then_61 : decode cX7_then 61 = .ok (.getfield 13, 3) := by decide +kernel
theorem dX7_then_64 : decode cX7_then 64 = .ok (.bipush 19, 2) := by decide +kernel
theorem dX7_then_66 : decode cX7_then 66 = .ok (.iaload, 1) := by decide +kernel
theorem dX7_then_67 : decode cX7_then 67 = .ok (.ireturn, 1) := by decide +kernel
theorem dX7_then_68 : decode cX7_then 68 = .ok (.aload_n 0, 1) := by decide +kernel
theorem dX7_then_69 : decode cX7_then 69 = .ok (.getfield 13, 3) := by decide +kernel
theorem dX7_then_72 : decode cX7_then 72 = .ok (.bipush 20, 2) := by decide +kernel
theorem dX7_then_74 : decode cX7_then 74 = .ok (.iaload, 1) := by decide +kernel
theorem dX7_then_75 : decode cX7_then 75 = .ok (.ireturn, 1) := by decide +kernel
theorem dX7_then_76 : decode cX7_then 76 = .ok (.aload_n 0, 1) := by decide +kernel
theorem dX7_then_77 : decode cX7_then 77 = .ok (.getfield 13, 3) := by decide +kernel
theorem dX7_then_80 : decode cX7_then 80 = .ok (.bipush 18, 2) := by decide +kernel
theorem dX7_then_82 : decode cX7_then 82 = .ok (.iaload, 1) := by decide +kernel
theorem dX7_then_83 : decode cX7_then 83 = .ok (.ireturn, 1) := by decide +kernel
theorem dX7_then_84 : decode cX7_then 84 = .ok (.aload_n 0, 1) := by decide +kernel
theorem dX7_then_85 : decode cX7_then 85 = .ok (.getfield 67, 3) := by decide +kernel
theorem dX7_then_88 : decode cX7_then 88 = .ok (.ireturn, 1) := by decide +kernel
theorem dX7_then_89 : decode cX7_then 89 = .ok (.aload_n 0, 1) := by decide +kernel
theorem dX7_then_90 : decode cX7_then 90 = .ok (.getfield 13, 3) := by decide +kernel
theorem dX7_then_93 : decode cX7_then 93 = .ok (.bipush 21, 2) := by decide +kernel
theorem dX7_then_95 : decode cX7_then 95 = .ok (.iaload, 1) := by decide +kernel
theorem dX7_then_96 : decode cX7_then 96 = .ok (.ireturn, 1) := by decide +kernel
theorem dX7_then_97 : decode cX7_then 97 = .ok (.iload_n 1, 1) := by decide +kernel
theorem dX7_then_98 : decode cX7_then 98 = .ok (.iconst 5, 1) := by decide +kernel
theorem dX7_then_99 : decode cX7_then 99 = .ok (.if_icmp .ne 10, 3) := by decide +kernel
theorem dX7_then_102 : decode cX7_then 102 = .ok (.aload_n 0, 1) := by decide +kernel
theorem dX7_then_103 : decode cX7_then 103 = .ok (.getfield 70, 3) := by decide +kernel
theorem dX7_then_106 : decode cX7_then 106 = .ok (.goto 7, 3) := by decide +kernel
theorem dX7_then_109 : decode cX7_then 109 = .ok (.aload_n 0, 1) := by decide +kernel
theorem dX7_then_110 : decode cX7_then 110 = .ok (.getfield 73, 3) := by decide +kernel
theorem dX7_then_113 : decode cX7_then 113 = .ok (.ireturn, 1) := by decide +kernel
theorem dX7_chainOf_0 : decode cX7_chainOf 0 = .ok (.iconst 1, 1) := by decide +kernel
theorem dX7_chainOf_1 : decode cX7_chainOf 1 = .ok (.iload_n 1, 1) := by decide +kernel
theorem dX7_chainOf_2 : decode cX7_chainOf 2 = .ok (.ishl, 1) := by decide +kernel
theorem dX7_chainOf_3 : decode cX7_chainOf 3 = .ok (.istore_n 3, 1) := by decide +kernel
theorem dX7_chainOf_4 : decode cX7_chainOf 4 = .ok (.iconst 0, 1) := by decide +kernel
theorem dX7_chainOf_5 : decode cX7_chainOf 5 = .ok (.istore 4, 2) := by decide +kernel
theorem dX7_chainOf_7 : decode cX7_chainOf 7 = .ok (.iload_n 3, 1) := by decide +kernel
theorem dX7_chainOf_8 : decode cX7_chainOf 8 = .ok (.iload 4, 2) := by decide +kernel
theorem dX7_chainOf_10 : decode cX7_chainOf 10 = .ok (.if_icmp .eq 140, 3) := by decide +kernel
theorem dX7_chainOf_13 : decode cX7_chainOf 13 = .ok (.iload_n 3, 1) := by decide +kernel
theorem dX7_chainOf_14 : decode cX7_chainOf 14 = .ok (.istore 4, 2) := by decide +kernel
theorem dX7_chainOf_16 : decode cX7_chainOf 16 = .ok (.iconst 0, 1) := by decide +kernel
theorem dX7_chainOf_17 : decode cX7_chainOf 17 = .ok (.istore 5, 2) := by decide +kernel
theorem dX7_chainOf_19 : decode cX7_chainOf 19 = .ok (.iload 5, 2) := by decide +kernel
theorem dX7_chainOf_21 : decode cX7_chainOf 21 = .ok (.bipush 6, 2) := by decide +kernel
theorem dX7_chainOf_23 : decode cX7_chainOf 23 = .ok (.if_icmp .ge 124, 3) := by decide +kernel
theorem dX7_chainOf_26 : decode cX7_chainOf 26 = .ok (.aload_n 0, 1) := by decide +kernel
theorem dX7_chainOf_27 : decode cX7_chainOf 27 = .ok (.getfield 7, 3) := by decide +kernel
theorem dX7_chainOf_30 : decode cX7_chainOf 30 = .ok (.iload 5, 2) := by decide +kernel
theorem dX7_chainOf_32 : decode cX7_chainOf 32 = .ok (.iaload, 1) := by decide +kernel
theorem dX7_chainOf_33 : decode cX7_chainOf 33 = .ok (.ifCond .le 30, 3) := by decide +kernel
theorem dX7_chainOf_36 : decode cX7_chainOf 36 = .ok (.aload_n 0, 1) := by decide +kernel
theorem dX7_chainOf_37 : decode cX7_chainOf 37 = .ok (.getfield 7, 3) := by decide +kernel
theorem dX7_chainOf_40 : decode cX7_chainOf 40 = .ok (.bipush 6, 2) := by decide +kernel
theorem dX7_chainOf_42 : decode cX7_chainOf 42 = .ok (.iload 5, 2) := by decide +kernel
theorem dX7_chainOf_44 : decode cX7_chainOf 44 = .ok (.iadd, 1) := by decide +kernel
theorem dX7_chainOf_45 : decode cX7_chainOf 45 = .ok (.iaload, 1) := by decide +kernel
theorem dX7_chainOf_46 : decode cX7_chainOf 46 = .ok (.iconst 3, 1) := by decide +kernel
theorem dX7_chainOf_47 : decode cX7_chainOf 47 = .ok (.if_icmp .ge 16, 3) := by decide +kernel
theorem dX7_chainOf_50 : decode cX7_chainOf 50 = .ok (.iload_n 2, 1) := by decide +kernel
theorem dX7_chainOf_51 : decode cX7_chainOf 51 = .ok (.iload 5, 2) := by decide +kernel
theorem dX7_chainOf_53 : decode cX7_chainOf 53 = .ok (.invokestatic 80, 3) := by decide +kernel
theorem dX7_chainOf_56 : decode cX7_chainOf 56 = .ok (.ifCond .ne 7, 3) := by decide +kernel
theorem dX7_chainOf_59 : decode cX7_chainOf 59 = .ok (.iconst 1, 1) := by decide +kernel
theorem dX7_chainOf_60 : decode cX7_chainOf 60 = .ok (.goto 4, 3) := by decide +kernel
theorem dX7_chainOf_63 : decode cX7_chainOf 63 = .ok (.iconst 0, 1) := by decide +kernel
theorem dX7_chainOf_64 : decode cX7_chainOf 64 = .ok (.istore 6, 2) := by decide +kernel
theorem dX7_chainOf_66 : decode cX7_chainOf 66 = .ok (.iconst 0, 1) := by decide +kernel
theorem dX7_chainOf_67 : decode cX7_chainOf 67 = .ok (.istore 7, 2) := by decide +kernel
theorem dX7_chainOf_69 : decode cX7_chainOf 69 = .ok (.iload 7, 2) := by decide +kernel
theorem dX7_chainOf_71 : decode cX7_chainOf 71 = .ok (.bipush 6, 2) := by decide +kernel
theorem dX7_chainOf_73 : decode cX7_chainOf 73 = .ok (.if_icmp .ge 68, 3) := by decide +kernel
theorem dX7_chainOf_76 : decode cX7_chainOf 76 = .ok (.iload 6, 2) := by decide +kernel
theorem dX7_chainOf_78 : decode cX7_chainOf 78 = .ok (.ifCond .eq 63, 3) := by decide +kernel
theorem dX7_chainOf_81 : decode cX7_chainOf 81 = .ok (.iload_n 3, 1) := by decide +kernel
theorem dX7_chainOf_82 : decode cX7_chainOf 82 = .ok (.iload 4, 2) := by decide +kernel
theorem dX7_chainOf_84 : decode cX7_chainOf 84 = .ok (.iload 7, 2) := by decide +kernel
theorem dX7_chainOf_86 : decode cX7_chainOf 86 = .ok (.invokestatic 80, 3) := by decide +kernel
theorem dX7_chainOf_89 : decode cX7_chainOf 89 = .ok (.ifCond .eq 43, 3) := by decide +kernel
theorem dX7_chainOf_92 : decode cX7_chainOf 92 = .ok (.iload 7, 2) := by decide +kernel
theorem dX7_chainOf_94 : decode cX7_chainOf 94 = .ok (.iload 5, 2) := by decide +kernel
theorem dX7_chainOf_96 : decode cX7_chainOf 96 = .ok (.if_icmp .eq 36, 3) := by decide +kernel
theorem dX7_chainOf_99 : decode cX7_chainOf 99 = .ok (.aload_n 0, 1) := by decide +kernel
theorem dX7_chainOf_100 : decode cX7_chainOf 100 = .ok (.getfield 7, 3) := by decide +kernel
theorem dX7_chainOf_103 : decode cX7_chainOf 103 = .ok (.bipush 12, 2) := by decide +kernel
theorem dX7_chainOf_105 : decode cX7_chainOf 105 = .ok (.iload 5, 2) := by decide +kernel
theorem dX7_chainOf_107 : decode cX7_chainOf 107 = .ok (.iadd, 1) := by decide +kernel
theorem dX7_chainOf_108 : decode cX7_chainOf 108 = .ok (.iaload, 1) := by decide +kernel
theorem dX7_chainOf_109 : decode cX7_chainOf 109 = .ok (.aload_n 0, 1) := by decide +kernel
theorem dX7_chainOf_110 : decode cX7_chainOf 110 = .ok (.getfield 7, 3) := by decide +kernel
theorem dX7_chainOf_113 : decode cX7_chainOf 113 = .ok (.bipush 12, 2) := by decide +kernel
theorem dX7_chainOf_115 : decode cX7_chainOf 115 = .ok (.iload 7, 2) := by decide +kernel
theorem dX7_chainOf_117 : decode cX7_chainOf 117 = .ok (.iadd, 1) := by decide +kernel
theorem dX7_chainOf_118 : decode cX7_chainOf 118 = .ok (.iaload, 1) := by decide +kernel
theorem dX7_chainOf_119 : decode cX7_chainOf 119 = .ok (.invokestatic 84, 3) := by decide +kernel
theorem dX7_chainOf_122 : decode cX7_chainOf 122 = .ok (.ifCond .eq 10, 3) := by decide +kernel
theorem dX7_chainOf_125 : decode cX7_chainOf 125 = .ok (.iconst 1, 1) := by decide +kernel
theorem dX7_chainOf_126 : decode cX7_chainOf 126 = .ok (.iload 5, 2) := by decide +kernel
theorem dX7_chainOf_128 : decode cX7_chainOf 128 = .ok (.ishl, 1) := by decide +kernel
theorem dX7_chainOf_129 : decode cX7_chainOf 129 = .ok (.goto 4, 3) := by decide +kernel
theorem dX7_chainOf_132 : decode cX7_chainOf 132 = .ok (.iconst 0, 1) := by decide +kernel
theorem dX7_chainOf_133 : decode cX7_chainOf 133 = .ok (.ior, 1) := by decide +kernel
theorem dX7_chainOf_134 : decode cX7_chainOf 134 = .ok (.istore_n 3, 1) := by decide +kernel
theorem dX7_chainOf_135 : decode cX7_chainOf 135 = .ok (.iinc 7 1, 3) := by decide +kernel
theorem dX7_chainOf_138 : decode cX7_chainOf 138 = .ok (.goto (-69), 3) := by decide +kernel
theorem dX7_chainOf_141 : decode cX7_chainOf 141 = .ok (.iinc 5 1, 3) := by decide +kernel
theorem dX7_chainOf_144 : decode cX7_chainOf 144 = .ok (.goto (-125), 3) := by decide +kernel
theorem dX7_chainOf_147 : decode cX7_chainOf 147 = .ok (.goto (-140), 3) := by decide +kernel
theorem dX7_chainOf_150 : decode cX7_chainOf 150 = .ok (.iload_n 3, 1) := by decide +kernel
theorem dX7_chainOf_151 : decode cX7_chainOf 151 = .ok (.ireturn, 1) := by decide +kernel
theorem dX7_chain_0 : decode cX7_chain 0 = .ok (.iload_n 1, 1) := by decide +kernel
theorem dX7_chain_1 : decode cX7_chain 1 = .ok (.invokestatic 52, 3) := by decide +kernel
theorem dX7_chain_4 : decode cX7_chain 4 = .ok (.ifCond .ne 5, 3) := by decide +kernel
theorem dX7_chain_7 : decode cX7_chain 7 = .ok (.iconst (-1), 1) := by decide +kernel
theorem dX7_chain_8 : decode cX7_chain 8 = .ok (.ireturn, 1) := by decide +kernel
theorem dX7_chain_9 : decode cX7_chain 9 = .ok (.aload_n 0, 1) := by decide +kernel
theorem dX7_chain_10 : decode cX7_chain 10 = .ok (.getfield 7, 3) := by decide +kernel
theorem dX7_chain_13 : decode cX7_chain 13 = .ok (.iload_n 1, 1) := by decide +kernel
theorem dX7_chain_14 : decode cX7_chain 14 = .ok (.iaload, 1) := by decide +kernel
theorem dX7_chain_15 : decode cX7_chain 15 = .ok (.ifCond .le 12, 3) := by decide +kernel
theorem dX7_chain_18 : decode cX7_chain 18 = .ok (.aload_n 0, 1) := by decide +kernel
theorem dX7_chain_19 : decode cX7_chain 19 = .ok (.iload_n 1, 1) := by decide +kernel
theorem dX7_chain_20 : decode cX7_chain 20 = .ok (.iconst 0, 1) := by decide +kernel
theorem dX7_chain_21 : decode cX7_chain 21 = .ok (.invokevirtual 123, 3) := by decide +kernel
theorem dX7_chain_24 : decode cX7_chain 24 = .ok (.goto 5, 3) := by decide +kernel
theorem dX7_chain_27 : decode cX7_chain 27 = .ok (.bipush (-3), 2) := by decide +kernel
theorem dX7_chain_29 : decode cX7_chain 29 = .ok (.ireturn, 1) := by decide +kernel
theorem dX7_cover_0 : decode cX7_cover 0 = .ok (.iload_n 1, 1) := by decide +kernel
theorem dX7_cover_1 : decode cX7_cover 1 = .ok (.invokestatic 52, 3) := by decide +kernel
theorem dX7_cover_4 : decode cX7_cover 4 = .ok (.ifCond .eq 15, 3) := by decide +kernel
theorem dX7_cover_7 : decode cX7_cover 7 = .ok (.iload_n 2, 1) := by decide +kernel
theorem dX7_cover_8 : decode cX7_cover 8 = .ok (.invokestatic 52, 3) := by decide +kernel
theorem dX7_cover_11 : decode cX7_cover 11 = .ok (.ifCond .eq 8, 3) := by decide +kernel
theorem dX7_cover_14 : decode cX7_cover 14 = .ok (.iload_n 1, 1) := by decide +kernel
theorem dX7_cover_15 : decode cX7_cover 15 = .ok (.iload_n 2, 1) := by decide +kernel
theorem dX7_cover_16 : decode cX7_cover 16 = .ok (.if_icmp .ne 5, 3) := by decide +kernel
theorem dX7_cover_19 : decode cX7_cover 19 = .ok (.iconst (-1), 1) := by decide +kernel
theorem dX7_cover_20 : decode cX7_cover 20 = .ok (.ireturn, 1) := by decide +kernel
theorem dX7_cover_21 : decode cX7_cover 21 = .ok (.iload_n 3, 1) := by decide +kernel
theorem dX7_cover_22 : decode cX7_cover 22 = .ok (.iconst 0, 1) := by decide +kernel
theorem dX7_cover_23 : decode cX7_cover 23 = .ok (.iconst 1, 1) := by decide +kernel
theorem dX7_cover_24 : decode cX7_cover 24 = .ok (.invokestatic 48, 3) := by decide +kernel
theorem dX7_cover_27 : decode cX7_cover 27 = .ok (.ifCond .ne 6, 3) := by decide +kernel
theorem dX7_cover_30 : decode cX7_cover 30 = .ok (.bipush (-2), 2) := by decide +kernel
theorem dX7_cover_32 : decode cX7_cover 32 = .ok (.ireturn, 1) := by decide +kernel
theorem dX7_cover_33 : decode cX7_cover 33 = .ok (.aload_n 0, 1) := by decide +kernel
theorem dX7_cover_34 : decode cX7_cover 34 = .ok (.getfield 7, 3) := by decide +kernel
theorem dX7_cover_37 : decode cX7_cover 37 = .ok (.iload_n 1, 1) := by decide +kernel
theorem dX7_cover_38 : decode cX7_cover 38 = .ok (.iaload, 1) := by decide +kernel
theorem dX7_cover_39 : decode cX7_cover 39 = .ok (.ifCond .eq 12, 3) := by decide +kernel
theorem dX7_cover_42 : decode cX7_cover 42 = .ok (.aload_n 0, 1) := by decide +kernel
theorem dX7_cover_43 : decode cX7_cover 43 = .ok (.getfield 7, 3) := by decide +kernel
theorem dX7_cover_46 : decode cX7_cover 46 = .ok (.iload_n 2, 1) := by decide +kernel
theorem dX7_cover_47 : decode cX7_cover 47 = .ok (.iaload, 1) := by decide +kernel
theorem dX7_cover_48 : decode cX7_cover 48 = .ok (.ifCond .ne 6, 3) := by decide +kernel
theorem dX7_cover_51 : decode cX7_cover 51 = .ok (.bipush (-3), 2) := by decide +kernel
theorem dX7_cover_53 : decode cX7_cover 53 = .ok (.ireturn, 1) := by decide +kernel
theorem dX7_cover_54 : decode cX7_cover 54 = .ok (.bipush (-6), 2) := by decide +kernel
theorem dX7_cover_56 : decode cX7_cover 56 = .ok (.istore 4, 2) := by decide +kernel
theorem dX7_cover_58 : decode cX7_cover 58 = .ok (.iconst 0, 1) := by decide +kernel
theorem dX7_cover_59 : decode cX7_cover 59 = .ok (.istore 5, 2) := by decide +kernel
theorem dX7_cover_61 : decode cX7_cover 61 = .ok (.iload 5, 2) := by decide +kernel
theorem dX7_cover_63 : decode cX7_cover 63 = .ok (.bipush 64, 2) := by decide +kernel
theorem dX7_cover_65 : decode cX7_cover 65 = .ok (.if_icmp .ge 80, 3) := by decide +kernel
theorem dX7_cover_68 : decode cX7_cover 68 = .ok (.iload 5, 2) := by decide +kernel
theorem dX7_cover_70 : decode cX7_cover 70 = .ok (.iload_n 1, 1) := by decide +kernel
theorem dX7_cover_71 : decode cX7_cover 71 = .ok (.invokestatic 80, 3) := by decide +kernel
theorem dX7_cover_74 : decode cX7_cover 74 = .ok (.ifCond .ne 34, 3) := by decide +kernel
theorem dX7_cover_77 : decode cX7_cover 77 = .ok (.iload 5, 2) := by decide +kernel
theorem dX7_cover_79 : decode cX7_cover 79 = .ok (.iload_n 2, 1) := by decide +kernel
theorem dX7_cover_80 : decode cX7_cover 80 = .ok (.invokestatic 80, 3) := by decide +kernel
theorem dX7_cover_83 : decode cX7_cover 83 = .ok (.ifCond .ne 25, 3) := by decide +kernel
theorem dX7_cover_86 : decode cX7_cover 86 = .ok (.iload 4, 2) := by decide +kernel
theorem dX7_cover_88 : decode cX7_cover 88 = .ok (.ifCond .lt 16, 3) := by decide +kernel
theorem dX7_cover_91 : decode cX7_cover 91 = .ok (.iload 5, 2) := by decide +kernel
theorem dX7_cover_93 : decode cX7_cover 93 = .ok (.invokestatic 56, 3) := by decide +kernel
theorem dX7_cover_96 : decode cX7_cover 96 = .ok (.iload 4, 2) := by decide +kernel
theorem dX7_cover_98 : decode cX7_cover 98 = .ok (.invokestatic 56, 3) := by decide +kernel
theorem dX7_cover_101 : decode cX7_cover 101 = .ok (.if_icmp .ge 7, 3) := by decide +kernel
theorem dX7_cover_104 : decode cX7_cover 104 = .ok (.iconst 1, 1) := by decide +kernel
theorem dX7_cover_105 : decode cX7_cover 105 = .ok (.goto 4, 3) := by decide +kernel
theorem dX7_cover_108 : decode cX7_cover 108 = .ok (.iconst 0, 1) := by decide +kernel
theorem dX7_cover_109 : decode cX7_cover 109 = .ok (.istore 6, 2) := by decide +kernel
theorem dX7_cover_111 : decode cX7_cover 111 = .ok (.iload 6, 2) := by decide +kernel
theorem dX7_cover_113 : decode cX7_cover 113 = .ok (.ifCond .eq 22, 3) := by decide +kernel
theorem dX7_cover_116 : decode cX7_cover 116 = .ok (.aload_n 0, 1) := by decide +kernel
theorem dX7_cover_117 : decode cX7_cover 117 = .ok (.iload_n 1, 1) := by decide +kernel
theorem dX7_cover_118 : decode cX7_cover 118 = .ok (.iload 5, 2) := by decide +kernel
theorem dX7_cover_120 : decode cX7_cover 120 = .ok (.invokevirtual 123, 3) := by decide +kernel
theorem dX7_cover_123 : decode cX7_cover 123 = .ok (.iload_n 2, 1) := by decide +kernel
theorem dX7_cover_124 : decode cX7_cover 124 = .ok (.invokestatic 80, 3) := by decide +kernel
theorem dX7_cover_127 : decode cX7_cover 127 = .ok (.ifCond .ne 8, 3) := by decide +kernel
theorem dX7_cover_130 : decode cX7_cover 130 = .ok (.iload 5, 2) := by decide +kernel
theorem dX7_cover_132 : decode cX7_cover 132 = .ok (.goto 5, 3) := by decide +kernel
theorem dX7_cover_135 : decode cX7_cover 135 = .ok (.iload 4, 2) := by decide +kernel
theorem dX7_cover_137 : decode cX7_cover 137 = .ok (.istore 4, 2) := by decide +kernel
theorem dX7_cover_139 : decode cX7_cover 139 = .ok (.iinc 5 1, 3) := by decide +kernel
theorem dX7_cover_142 : decode cX7_cover 142 = .ok (.goto (-81), 3) := by decide +kernel
theorem dX7_cover_145 : decode cX7_cover 145 = .ok (.iload 4, 2) := by decide +kernel
theorem dX7_cover_147 : decode cX7_cover 147 = .ok (.ifCond .lt 8, 3) := by decide +kernel
theorem dX7_cover_150 : decode cX7_cover 150 = .ok (.iload_n 3, 1) := by decide +kernel
theorem dX7_cover_151 : decode cX7_cover 151 = .ok (.iconst 1, 1) := by decide +kernel
theorem dX7_cover_152 : decode cX7_cover 152 = .ok (.if_icmp .ne 8, 3) := by decide +kernel
theorem dX7_cover_155 : decode cX7_cover 155 = .ok (.iload 4, 2) := by decide +kernel
theorem dX7_cover_157 : decode cX7_cover 157 = .ok (.goto 8, 3) := by decide +kernel
theorem dX7_cover_160 : decode cX7_cover 160 = .ok (.iload 4, 2) := by decide +kernel
theorem dX7_cover_162 : decode cX7_cover 162 = .ok (.invokestatic 56, 3) := by decide +kernel
theorem dX7_cover_165 : decode cX7_cover 165 = .ok (.ireturn, 1) := by decide +kernel
theorem dX7_canBeDrawn_0 : decode cX7_canBeDrawn 0 = .ok (.iconst 0, 1) := by decide +kernel
theorem dX7_canBeDrawn_1 : decode cX7_canBeDrawn 1 = .ok (.istore_n 3, 1) := by decide +kernel
theorem dX7_canBeDrawn_2 : decode cX7_canBeDrawn 2 = .ok (.iload_n 3, 1) := by decide +kernel
theorem dX7_canBeDrawn_3 : decode cX7_canBeDrawn 3 = .ok (.iload_n 2, 1) := by decide +kernel
theorem dX7_canBeDrawn_4 : decode cX7_canBeDrawn 4 = .ok (.if_icmp .ge 89, 3) := by decide +kernel
theorem dX7_canBeDrawn_7 : decode cX7_canBeDrawn 7 = .ok (.iconst 0, 1) := by decide +kernel
theorem dX7_canBeDrawn_8 : decode cX7_canBeDrawn 8 = .ok (.istore 4, 2) := by decide +kernel
theorem dX7_canBeDrawn_10 : decode cX7_canBeDrawn 10 = .ok (.iconst 0, 1) := by decide +kernel
theorem dX7_canBeDrawn_11 : decode cX7_canBeDrawn 11 = .ok (.istore 5, 2) := by decide +kernel
theorem dX7_canBeDrawn_13 : decode cX7_canBeDrawn 13 = .ok (.iload 5, 2) := by decide +kernel
theorem dX7_canBeDrawn_15 : decode cX7_canBeDrawn 15 = .ok (.iload_n 2, 1) := by decide +kernel
theorem dX7_canBeDrawn_16 : decode cX7_canBeDrawn 16 = .ok (.if_icmp .ge 50, 3) := by decide +kernel
theorem dX7_canBeDrawn_19 : decode cX7_canBeDrawn 19 = .ok (.iload 4, 2) := by decide +kernel
theorem dX7_canBeDrawn_21 : decode cX7_canBeDrawn 21 = .ok (.iload_n 1, 1) := by decide +kernel
theorem dX7_canBeDrawn_22 : decode cX7_canBeDrawn 22 = .ok (.iload 5, 2) := by decide +kernel
theorem dX7_canBeDrawn_24 : decode cX7_canBeDrawn 24 = .ok (.invokestatic 80, 3) := by decide +kernel
theorem dX7_canBeDrawn_27 : decode cX7_canBeDrawn 27 = .ok (.ifCond .eq 29, 3) := by decide +kernel
theorem dX7_canBeDrawn_30 : decode cX7_canBeDrawn 30 = .ok (.aload_n 0, 1) := by decide +kernel
theorem dX7_canBeDrawn_31 : decode cX7_canBeDrawn 31 = .ok (.getfield 29, 3) := by decide +kernel
theorem dX7_canBeDrawn_34 : decode cX7_canBeDrawn 34 = .ok (.iload 5, 2) := by decide +kernel
theorem dX7_canBeDrawn_36 : decode cX7_canBeDrawn 36 = .ok (.iaload, 1) := by decide +kernel
theorem dX7_canBeDrawn_37 : decode cX7_canBeDrawn 37 = .ok (.aload_n 0, 1) := by decide +kernel
theorem dX7_canBeDrawn_38 : decode cX7_canBeDrawn 38 = .ok (.getfield 29, 3) := by decide +kernel
theorem dX7_canBeDrawn_41 : decode cX7_canBeDrawn 41 = .ok (.iload_n 3, 1) := by decide +kernel
theorem dX7_canBeDrawn_42 : decode cX7_canBeDrawn 42 = .ok (.iaload, 1) := by decide +kernel
theorem dX7_canBeDrawn_43 : decode cX7_canBeDrawn 43 = .ok (.if_icmp .gt 13, 3) := by decide +kernel
theorem dX7_canBeDrawn_46 : decode cX7_canBeDrawn 46 = .ok (.aload_n 0, 1) := by decide +kernel
theorem dX7_canBeDrawn_47 : decode cX7_canBeDrawn 47 = .ok (.getfield 26, 3) := by decide +kernel
theorem dX7_canBeDrawn_50 : decode cX7_canBeDrawn 50 = .ok (.iload 5, 2) := by decide +kernel
theorem dX7_canBeDrawn_52 : decode cX7_canBeDrawn 52 = .ok (.iaload, 1) := by decide +kernel
theorem dX7_canBeDrawn_53 : decode cX7_canBeDrawn 53 = .ok (.goto 4, 3) := by decide +kernel
theorem dX7_canBeDrawn_56 : decode cX7_canBeDrawn 56 = .ok (.iconst 0, 1) := by decide +kernel
theorem dX7_canBeDrawn_57 : decode cX7_canBeDrawn 57 = .ok (.iadd, 1) := by decide +kernel
theorem dX7_canBeDrawn_58 : decode cX7_canBeDrawn 58 = .ok (.istore 4, 2) := by decide +kernel
theorem dX7_canBeDrawn_60 : decode cX7_canBeDrawn 60 = .ok (.iinc 5 1, 3) := by decide +kernel
theorem dX7_canBeDrawn_63 : decode cX7_canBeDrawn 63 = .ok (.goto (-50), 3) := by decide +kernel
theorem dX7_canBeDrawn_66 : decode cX7_canBeDrawn 66 = .ok (.iload_n 1, 1) := by decide +kernel
theorem dX7_canBeDrawn_67 : decode cX7_canBeDrawn 67 = .ok (.iload_n 3, 1) := by decide +kernel
theorem dX7_canBeDrawn_68 : decode cX7_canBeDrawn 68 = .ok (.invokestatic 80, 3) := by decide +kernel
theorem dX7_canBeDrawn_71 : decode cX7_canBeDrawn 71 = .ok (.ifCond .eq 16, 3) := by decide +kernel
theorem dX7_canBeDrawn_74 : decode cX7_canBeDrawn 74 = .ok (.iload 4, 2) := by decide +kernel
theorem dX7_canBeDrawn_76 : decode cX7_canBeDrawn 76 = .ok (.aload_n 0, 1) := by decide +kernel
theorem dX7_canBeDrawn_77 : decode cX7_canBeDrawn 77 = .ok (.getfield 29, 3) := by decide +kernel
theorem dX7_canBeDrawn_80 : decode cX7_canBeDrawn 80 = .ok (.iload_n 3, 1) := by decide +kernel
theorem dX7_canBeDrawn_81 : decode cX7_canBeDrawn 81 = .ok (.iaload, 1) := by decide +kernel
theorem dX7_canBeDrawn_82 : decode cX7_canBeDrawn 82 = .ok (.if_icmp .le 5, 3) := by decide +kernel
theorem dX7_canBeDrawn_85 : decode cX7_canBeDrawn 85 = .ok (.iconst 0, 1) := by decide +kernel
theorem dX7_canBeDrawn_86 : decode cX7_canBeDrawn 86 = .ok (.ireturn, 1) := by decide +kernel
theorem dX7_canBeDrawn_87 : decode cX7_canBeDrawn 87 = .ok (.iinc 3 1, 3) := by decide +kernel
theorem dX7_canBeDrawn_90 : decode cX7_canBeDrawn 90 = .ok (.goto (-88), 3) := by decide +kernel
theorem dX7_canBeDrawn_93 : decode cX7_canBeDrawn 93 = .ok (.iconst 1, 1) := by decide +kernel
theorem dX7_canBeDrawn_94 : decode cX7_canBeDrawn 94 = .ok (.ireturn, 1) := by decide +kernel
theorem dX7_due_0 : decode cX7_due 0 = .ok (.iload 4, 2) := by decide +kernel
theorem dX7_due_2 : decode cX7_due 2 = .ok (.iconst 1, 1) := by decide +kernel
theorem dX7_due_3 : decode cX7_due 3 = .ok (.bipush 8, 2) := by decide +kernel
theorem dX7_due_5 : decode cX7_due 5 = .ok (.invokestatic 48, 3) := by decide +kernel
theorem dX7_due_8 : decode cX7_due 8 = .ok (.ifCond .eq 27, 3) := by decide +kernel
theorem dX7_due_11 : decode cX7_due 11 = .ok (.iload_n 1, 1) := by decide +kernel
theorem dX7_due_12 : decode cX7_due 12 = .ok (.ifCond .le 23, 3) := by decide +kernel
theorem dX7_due_15 : decode cX7_due 15 = .ok (.lload_n 2, 1) := by decide +kernel
theorem dX7_due_16 : decode cX7_due 16 = .ok (.lconst 0, 1) := by decide +kernel
theorem dX7_due_17 : decode cX7_due 17 = .ok (.lcmp, 1) := by decide +kernel
theorem dX7_due_18 : decode cX7_due 18 = .ok (.ifCond .lt 17, 3) := by decide +kernel
theorem dX7_due_21 : decode cX7_due 21 = .ok (.iload 5, 2) := by decide +kernel
theorem dX7_due_23 : decode cX7_due 23 = .ok (.iconst 0, 1) := by decide +kernel
theorem dX7_due_24 : decode cX7_due 24 = .ok (.iconst 1, 1) := by decide +kernel
theorem dX7_due_25 : decode cX7_due 25 = .ok (.invokestatic 48, 3) := by decide +kernel
theorem dX7_due_28 : decode cX7_due 28 = .ok (.ifCond .eq 7, 3) := by decide +kernel
theorem dX7_due_31 : decode cX7_due 31 = .ok (.iconst 1, 1) := by decide +kernel
theorem dX7_due_32 : decode cX7_due 32 = .ok (.goto 4, 3) := by decide +kernel
theorem dX7_due_35 : decode cX7_due 35 = .ok (.iconst 0, 1) := by decide +kernel
theorem dX7_due_36 : decode cX7_due 36 = .ok (.istore 6, 2) := by decide +kernel
theorem dX7_due_38 : decode cX7_due 38 = .ok (.iload_n 1, 1) := by decide +kernel
theorem dX7_due_39 : decode cX7_due 39 = .ok (.istore 7, 2) := by decide +kernel
theorem dX7_due_41 : decode cX7_due 41 = .ok (.lload_n 2, 1) := by decide +kernel
theorem dX7_due_42 : decode cX7_due 42 = .ok (.lstore 8, 2) := by decide +kernel
theorem dX7_due_44 : decode cX7_due 44 = .ok (.iload 4, 2) := by decide +kernel
theorem dX7_due_46 : decode cX7_due 46 = .ok (.iconst 1, 1) := by decide +kernel
theorem dX7_due_47 : decode cX7_due 47 = .ok (.isub, 1) := by decide +kernel
theorem dX7_due_48 : decode cX7_due 48 = .ok (.istore 10, 2) := by decide +kernel
theorem dX7_due_50 : decode cX7_due 50 = .ok (.iload 10, 2) := by decide +kernel
theorem dX7_due_52 : decode cX7_due 52 = .ok (.ifCond .lt 72, 3) := by decide +kernel
theorem dX7_due_55 : decode cX7_due 55 = .ok (.iload 6, 2) := by decide +kernel
theorem dX7_due_57 : decode cX7_due 57 = .ok (.ifCond .eq 67, 3) := by decide +kernel
theorem dX7_due_60 : decode cX7_due 60 = .ok (.aload_n 0, 1) := by decide +kernel
theorem dX7_due_61 : decode cX7_due 61 = .ok (.getfield 26, 3) := by decide +kernel
theorem dX7_due_64 : decode cX7_due 64 = .ok (.iload 10, 2) := by decide +kernel
theorem dX7_due_66 : decode cX7_due 66 = .ok (.iload 7, 2) := by decide +kernel
theorem dX7_due_68 : decode cX7_due 68 = .ok (.bipush 10, 2) := by decide +kernel
theorem dX7_due_70 : decode cX7_due 70 = .ok (.irem, 1) := by decide +kernel
theorem dX7_due_71 : decode cX7_due 71 = .ok (.iastore, 1) := by decide +kernel
theorem dX7_due_72 : decode cX7_due 72 = .ok (.aload_n 0, 1) := by decide +kernel
theorem dX7_due_73 : decode cX7_due 73 = .ok (.getfield 29, 3) := by decide +kernel
theorem dX7_due_76 : decode cX7_due 76 = .ok (.iload 10, 2) := by decide +kernel
theorem dX7_due_78 : decode cX7_due 78 = .ok (.lload 8, 2) := by decide +kernel
theorem dX7_due_80 : decode cX7_due 80 = .ok (.ldc2_w 126, 3) := by decide +kernel
theorem dX7_due_83 : decode cX7_due 83 = .ok (.lrem, 1) := by decide +kernel
theorem dX7_due_84 : decode cX7_due 84 = .ok (.l2i, 1) := by decide +kernel
theorem dX7_due_85 : decode cX7_due 85 = .ok (.iastore, 1) := by decide +kernel
theorem dX7_due_86 : decode cX7_due 86 = .ok (.aload_n 0, 1) := by decide +kernel
theorem dX7_due_87 : decode cX7_due 87 = .ok (.getfield 26, 3) := by decide +kernel
theorem dX7_due_90 : decode cX7_due 90 = .ok (.iload 10, 2) := by decide +kernel
theorem dX7_due_92 : decode cX7_due 92 = .ok (.iaload, 1) := by decide +kernel
theorem dX7_due_93 : decode cX7_due 93 = .ok (.ifCond .le 7, 3) := by decide +kernel
theorem dX7_due_96 : decode cX7_due 96 = .ok (.iconst 1, 1) := by decide +kernel
theorem dX7_due_97 : decode cX7_due 97 = .ok (.goto 4, 3) := by decide +kernel
theorem dX7_due_100 : decode cX7_due 100 = .ok (.iconst 0, 1) := by decide +kernel
theorem dX7_due_101 : decode cX7_due 101 = .ok (.istore 6, 2) := by decide +kernel
theorem dX7_due_103 : decode cX7_due 103 = .ok (.iload 7, 2) := by decide +kernel
theorem dX7_due_105 : decode cX7_due 105 = .ok (.bipush 10, 2) := by decide +kernel
theorem dX7_due_107 : decode cX7_due 107 = .ok (.idiv, 1) := by decide +kernel
theorem dX7_due_108 : decode cX7_due 108 = .ok (.istore 7, 2) := by decide +kernel
theorem dX7_due_110 : decode cX7_due 110 = .ok (.lload 8, 2) := by decide +kernel
theorem dX7_due_112 : decode cX7_due 112 = .ok (.ldc2_w 126, 3) := by decide +kernel
theorem dX7_due_115 : decode cX7_due 115 = .ok (.ldiv, 1) := by decide +kernel
theorem dX7_due_116 : decode cX7_due 116 = .ok (.lstore 8, 2) := by decide +kernel
theorem dX7_due_118 : decode cX7_due 118 = .ok (.iinc 10 (-1), 3) := by decide +kernel
theorem dX7_due_121 : decode cX7_due 121 = .ok (.goto (-71), 3) := by decide +kernel
theorem dX7_due_124 : decode cX7_due 124 = .ok (.iload 6, 2) := by decide +kernel
theorem dX7_due_126 : decode cX7_due 126 = .ok (.ifCond .eq 15, 3) := by decide +kernel
theorem dX7_due_129 : decode cX7_due 129 = .ok (.iload 7, 2) := by decide +kernel
theorem dX7_due_131 : decode cX7_due 131 = .ok (.ifCond .ne 10, 3) := by decide +kernel
theorem dX7_due_134 : decode cX7_due 134 = .ok (.lload 8, 2) := by decide +kernel
theorem dX7_due_136 : decode cX7_due 136 = .ok (.lconst 0, 1) := by decide +kernel
theorem dX7_due_137 : decode cX7_due 137 = .ok (.lcmp, 1) := by decide +kernel
theorem dX7_due_138 : decode cX7_due 138 = .ok (.ifCond .eq 6, 3) := by decide +kernel
theorem dX7_due_141 : decode cX7_due 141 = .ok (.bipush (-2), 2) := by decide +kernel
theorem dX7_due_143 : decode cX7_due 143 = .ok (.ireturn, 1) := by decide +kernel
theorem dX7_due_144 : decode cX7_due 144 = .ok (.iconst 0, 1) := by decide +kernel
theorem dX7_due_145 : decode cX7_due 145 = .ok (.istore 10, 2) := by decide +kernel
theorem dX7_due_147 : decode cX7_due 147 = .ok (.iconst 1, 1) := by decide +kernel
theorem dX7_due_148 : decode cX7_due 148 = .ok (.istore 11, 2) := by decide +kernel
theorem dX7_due_150 : decode cX7_due 150 = .ok (.iload 11, 2) := by decide +kernel
theorem dX7_due_152 : decode cX7_due 152 = .ok (.iconst 1, 1) := by decide +kernel
theorem dX7_due_153 : decode cX7_due 153 = .ok (.iload 4, 2) := by decide +kernel
theorem dX7_due_155 : decode cX7_due 155 = .ok (.ishl, 1) := by decide +kernel
theorem dX7_due_156 : decode cX7_due 156 = .ok (.if_icmp .ge 42, 3) := by decide +kernel
theorem dX7_due_159 : decode cX7_due 159 = .ok (.iload 11, 2) := by decide +kernel
theorem dX7_due_161 : decode cX7_due 161 = .ok (.invokestatic 56, 3) := by decide +kernel
theorem dX7_due_164 : decode cX7_due 164 = .ok (.iload 10, 2) := by decide +kernel
theorem dX7_due_166 : decode cX7_due 166 = .ok (.invokestatic 56, 3) := by decide +kernel
theorem dX7_due_169 : decode cX7_due 169 = .ok (.if_icmp .le 19, 3) := by decide +kernel
theorem dX7_due_172 : decode cX7_due 172 = .ok (.aload_n 0, 1) := by decide +kernel
theorem dX7_due_173 : decode cX7_due 173 = .ok (.iload 11, 2) := by decide +kernel
theorem dX7_due_175 : decode cX7_due 175 = .ok (.iload 4, 2) := by decide +kernel
theorem dX7_due_177 : decode cX7_due 177 = .ok (.invokevirtual 128, 3) := by decide +kernel
theorem dX7_due_180 : decode cX7_due 180 = .ok (.ifCond .eq 8, 3) := by decide +kernel
theorem dX7_due_183 : decode cX7_due 183 = .ok (.iload 11, 2) := by decide +kernel
theorem dX7_due_185 : decode cX7_due 185 = .ok (.goto 5, 3) := by decide +kernel
theorem dX7_due_188 : decode cX7_due 188 = .ok (.iload 10, 2) := by decide +kernel
theorem dX7_due_190 : decode cX7_due 190 = .ok (.istore 10, 2) := by decide +kernel
theorem dX7_due_192 : decode cX7_due 192 = .ok (.iinc 11 1, 3) := by decide +kernel
theorem dX7_due_195 : decode cX7_due 195 = .ok (.goto (-45), 3) := by decide +kernel
theorem dX7_due_198 : decode cX7_due 198 = .ok (.iload 5, 2) := by decide +kernel
theorem dX7_due_200 : decode cX7_due 200 = .ok (.ifCond .ne 11, 3) := by decide +kernel
theorem dX7_due_203 : decode cX7_due 203 = .ok (.iload 10, 2) := by decide +kernel
theorem dX7_due_205 : decode cX7_due 205 = .ok (.invokestatic 56, 3) := by decide +kernel
theorem dX7_due_208 : decode cX7_due 208 = .ok (.goto 5, 3) := by decide +kernel
theorem dX7_due_211 : decode cX7_due 211 = .ok (.iload 10, 2) := by decide +kernel
theorem dX7_due_213 : decode cX7_due 213 = .ok (.ireturn, 1) := by decide +kernel
theorem dX7_nods_0 : decode cX7_nods 0 = .ok (.iload_n 1, 1) := by decide +kernel
theorem dX7_nods_1 : decode cX7_nods 1 = .ok (.iconst 1, 1) := by decide +kernel
theorem dX7_nods_2 : decode cX7_nods 2 = .ok (.bipush 9, 2) := by decide +kernel
theorem dX7_nods_4 : decode cX7_nods 4 = .ok (.invokestatic 48, 3) := by decide +kernel
theorem dX7_nods_7 : decode cX7_nods 7 = .ok (.ifCond .eq 56, 3) := by decide +kernel
theorem dX7_nods_10 : decode cX7_nods 10 = .ok (.iload_n 2, 1) := by decide +kernel
theorem dX7_nods_11 : decode cX7_nods 11 = .ok (.iconst 1, 1) := by decide +kernel
theorem dX7_nods_12 : decode cX7_nods 12 = .ok (.bipush 9, 2) := by decide +kernel
theorem dX7_nods_14 : decode cX7_nods 14 = .ok (.invokestatic 48, 3) := by decide +kernel
theorem dX7_nods_17 : decode cX7_nods 17 = .ok (.ifCond .eq 46, 3) := by decide +kernel
theorem dX7_nods_20 : decode cX7_nods 20 = .ok (.iload_n 3, 1) := by decide +kernel
theorem dX7_nods_21 : decode cX7_nods 21 = .ok (.iconst 1, 1) := by decide +kernel
theorem dX7_nods_22 : decode cX7_nods 22 = .ok (.bipush 9, 2) := by decide +kernel
theorem dX7_nods_24 : decode cX7_nods 24 = .ok (.invokestatic 48, 3) := by decide +kernel
theorem dX7_nods_27 : decode cX7_nods 27 = .ok (.ifCond .eq 36, 3) := by decide +kernel
theorem dX7_nods_30 : decode cX7_nods 30 = .ok (.iload 4, 2) := by decide +kernel
theorem dX7_nods_32 : decode cX7_nods 32 = .ok (.iconst 1, 1) := by decide +kernel
theorem dX7_nods_33 : decode cX7_nods 33 = .ok (.bipush 9, 2) := by decide +kernel
theorem dX7_nods_35 : decode cX7_nods 35 = .ok (.invokestatic 48, 3) := by decide +kernel
theorem dX7_nods_38 : decode cX7_nods 38 = .ok (.ifCond .eq 25, 3) := by decide +kernel
theorem dX7_nods_41 : decode cX7_nods 41 = .ok (.iload 5, 2) := by decide +kernel
theorem dX7_nods_43 : decode cX7_nods 43 = .ok (.iconst 0, 1) := by decide +kernel
theorem dX7_nods_44 : decode cX7_nods 44 = .ok (.sipush 9999, 3) := by decide +kernel
theorem dX7_nods_47 : decode cX7_nods 47 = .ok (.invokestatic 48, 3) := by decide +kernel
theorem dX7_nods_50 : decode cX7_nods 50 = .ok (.ifCond .eq 13, 3) := by decide +kernel
theorem dX7_nods_53 : decode cX7_nods 53 = .ok (.iload 6, 2) := by decide +kernel
theorem dX7_nods_55 : decode cX7_nods 55 = .ok (.iconst 0, 1) := by decide +kernel
theorem dX7_nods_56 : decode cX7_nods 56 = .ok (.iconst 1, 1) := by decide +kernel
theorem dX7_nods_57 : decode cX7_nods 57 = .ok (.invokestatic 48, 3) := by decide +kernel
theorem dX7_nods_60 : decode cX7_nods 60 = .ok (.ifCond .ne 6, 3) := by decide +kernel
theorem dX7_nods_63 : decode cX7_nods 63 = .ok (.bipush (-2), 2) := by decide +kernel
theorem dX7_nods_65 : decode cX7_nods 65 = .ok (.ireturn, 1) := by decide +kernel
theorem dX7_nods_66 : decode cX7_nods 66 = .ok (.iconst 0, 1) := by decide +kernel
theorem dX7_nods_67 : decode cX7_nods 67 = .ok (.istore 7, 2) := by decide +kernel
theorem dX7_nods_69 : decode cX7_nods 69 = .ok (.bipush (-6), 2) := by decide +kernel
theorem dX7_nods_71 : decode cX7_nods 71 = .ok (.istore 8, 2) := by decide +kernel
theorem dX7_nods_73 : decode cX7_nods 73 = .ok (.iconst 1, 1) := by decide +kernel
theorem dX7_nods_74 : decode cX7_nods 74 = .ok (.istore 9, 2) := by decide +kernel
theorem dX7_nods_76 : decode cX7_nods 76 = .ok (.iload 9, 2) := by decide +kernel
theorem dX7_nods_78 : decode cX7_nods 78 = .ok (.iload 5, 2) := by decide +kernel
theorem dX7_nods_80 : decode cX7_nods 80 = .ok (.if_icmp .le 8, 3) := by decide +kernel
theorem dX7_nods_83 : decode cX7_nods 83 = .ok (.iload 8, 2) := by decide +kernel
theorem dX7_nods_85 : decode cX7_nods 85 = .ok (.ifCond .ge 82, 3) := by decide +kernel
theorem dX7_nods_88 : decode cX7_nods 88 = .ok (.iload 9, 2) := by decide +kernel
theorem dX7_nods_90 : decode cX7_nods 90 = .ok (.iconst 1, 1) := by decide +kernel
theorem dX7_nods_91 : decode cX7_nods 91 = .ok (.isub, 1) := by decide +kernel
theorem dX7_nods_92 : decode cX7_nods 92 = .ok (.iload_n 1, 1) := by decide +kernel
theorem dX7_nods_93 : decode cX7_nods 93 = .ok (.iload_n 2, 1) := by decide +kernel
theorem dX7_nods_94 : decode cX7_nods 94 = .ok (.iadd, 1) := by decide +kernel
theorem dX7_nods_95 : decode cX7_nods 95 = .ok (.irem, 1) := by decide +kernel
theorem dX7_nods_96 : decode cX7_nods 96 = .ok (.iload_n 1, 1) := by decide +kernel
theorem dX7_nods_97 : decode cX7_nods 97 = .ok (.if_icmp .lt 20, 3) := by decide +kernel
theorem dX7_nods_100 : decode cX7_nods 100 = .ok (.iload 9, 2) := by decide +kernel
theorem dX7_nods_102 : decode cX7_nods 102 = .ok (.iconst 1, 1) := by decide +kernel
theorem dX7_nods_103 : decode cX7_nods 103 = .ok (.isub, 1) := by decide +kernel
theorem dX7_nods_104 : decode cX7_nods 104 = .ok (.iload_n 3, 1) := by decide +kernel
theorem dX7_nods_105 : decode cX7_nods 105 = .ok (.iload 4, 2) := by decide +kernel
theorem dX7_nods_107 : decode cX7_nods 107 = .ok (.iadd, 1) := by decide +kernel
theorem dX7_nods_108 : decode cX7_nods 108 = .ok (.irem, 1) := by decide +kernel
theorem dX7_nods_109 : decode cX7_nods 109 = .ok (.iload_n 3, 1) := by decide +kernel
theorem dX7_nods_110 : decode cX7_nods 110 = .ok (.if_icmp .lt 7, 3) := by decide +kernel
theorem dX7_nods_113 : decode cX7_nods 113 = .ok (.iconst 1, 1) := by decide +kernel
theorem dX7_nods_114 : decode cX7_nods 114 = .ok (.goto 4, 3) := by decide +kernel
theorem dX7_nods_117 : decode cX7_nods 117 = .ok (.iconst 0, 1) := by decide +kernel
theorem dX7_nods_118 : decode cX7_nods 118 = .ok (.istore 10, 2) := by decide +kernel
theorem dX7_nods_120 : decode cX7_nods 120 = .ok (.iload 7, 2) := by decide +kernel
theorem dX7_nods_122 : decode cX7_nods 122 = .ok (.iload 10, 2) := by decide +kernel
theorem dX7_nods_124 : decode cX7_nods 124 = .ok (.ifCond .eq 14, 3) := by decide +kernel
theorem dX7_nods_127 : decode cX7_nods 127 = .ok (.iload 9, 2) := by decide +kernel
theorem dX7_nods_129 : decode cX7_nods 129 = .ok (.iload 5, 2) := by decide +kernel
theorem dX7_nods_131 : decode cX7_nods 131 = .ok (.if_icmp .gt 7, 3) := by decide +kernel
theorem dX7_nods_134 : decode cX7_nods 134 = .ok (.iconst 1, 1) := by decide +kernel
theorem dX7_nods_135 : decode cX7_nods 135 = .ok (.goto 4, 3) := by decide +kernel
theorem dX7_nods_138 : decode cX7_nods 138 = .ok (.iconst 0, 1) := by decide +kernel
theorem dX7_nods_139 : decode cX7_nods 139 = .ok (.iadd, 1) := by decide +kernel
theorem dX7_nods_140 : decode cX7_nods 140 = .ok (.istore 7, 2) := by decide +kernel
theorem dX7_nods_142 : decode cX7_nods 142 = .ok (.iload 10, 2) := by decide +kernel
theorem dX7_nods_144 : decode cX7_nods 144 = .ok (.ifCond .eq 13, 3) := by decide +kernel
theorem dX7_nods_147 : decode cX7_nods 147 = .ok (.iload 8, 2) := by decide +kernel
theorem dX7_nods_149 : decode cX7_nods 149 = .ok (.ifCond .ge 8, 3) := by decide +kernel
theorem dX7_nods_152 : decode cX7_nods 152 = .ok (.iload 9, 2) := by decide +kernel
theorem dX7_nods_154 : decode cX7_nods 154 = .ok (.goto 5, 3) := by decide +kernel
theorem dX7_nods_157 : decode cX7_nods 157 = .ok (.iload 8, 2) := by decide +kernel
theorem dX7_nods_159 : decode cX7_nods 159 = .ok (.istore 8, 2) := by decide +kernel
theorem dX7_nods_161 : decode cX7_nods 161 = .ok (.iinc 9 1, 3) := by decide +kernel
theorem dX7_nods_164 : decode cX7_nods 164 = .ok (.goto (-88), 3) := by decide +kernel
theorem dX7_nods_167 : decode cX7_nods 167 = .ok (.iload 6, 2) := by decide +kernel
theorem dX7_nods_169 : decode cX7_nods 169 = .ok (.ifCond .ne 8, 3) := by decide +kernel
theorem dX7_nods_172 : decode cX7_nods 172 = .ok (.iload 7, 2) := by decide +kernel
theorem dX7_nods_174 : decode cX7_nods 174 = .ok (.goto 5, 3) := by decide +kernel
theorem dX7_nods_177 : decode cX7_nods 177 = .ok (.iload 8, 2) := by decide +kernel
theorem dX7_nods_179 : decode cX7_nods 179 = .ok (.ireturn, 1) := by decide +kernel
theorem dX7_seen_0 : decode cX7_seen 0 = .ok (.iload_n 1, 1) := by decide +kernel
theorem dX7_seen_1 : decode cX7_seen 1 = .ok (.iconst 0, 1) := by decide +kernel
theorem dX7_seen_2 : decode cX7_seen 2 = .ok (.bipush 20, 2) := by decide +kernel
theorem dX7_seen_4 : decode cX7_seen 4 = .ok (.invokestatic 48, 3) := by decide +kernel
theorem dX7_seen_7 : decode cX7_seen 7 = .ok (.ifCond .eq 13, 3) := by decide +kernel
theorem dX7_seen_10 : decode cX7_seen 10 = .ok (.iload_n 2, 1) := by decide +kernel
theorem dX7_seen_11 : decode cX7_seen 11 = .ok (.iconst 0, 1) := by decide +kernel
theorem dX7_seen_12 : decode cX7_seen 12 = .ok (.bipush 6, 2) := by decide +kernel
theorem dX7_seen_14 : decode cX7_seen 14 = .ok (.invokestatic 48, 3) := by decide +kernel
theorem dX7_seen_17 : decode cX7_seen 17 = .ok (.ifCond .ne 6, 3) := by decide +kernel
theorem dX7_seen_20 : decode cX7_seen 20 = .ok (.bipush (-2), 2) := by decide +kernel
theorem dX7_seen_22 : decode cX7_seen 22 = .ok (.ireturn, 1) := by decide +kernel
theorem dX7_seen_23 : decode cX7_seen 23 = .ok (.aload_n 0, 1) := by decide +kernel
theorem dX7_seen_24 : decode cX7_seen 24 = .ok (.getfield 131, 3) := by decide +kernel
theorem dX7_seen_27 : decode cX7_seen 27 = .ok (.bipush 8, 2) := by decide +kernel
theorem dX7_seen_29 : decode cX7_seen 29 = .ok (.if_icmp .ne 6, 3) := by decide +kernel
theorem dX7_seen_32 : decode cX7_seen 32 = .ok (.bipush (-4), 2) := by decide +kernel
theorem dX7_seen_34 : decode cX7_seen 34 = .ok (.ireturn, 1) := by decide +kernel
theorem dX7_seen_35 : decode cX7_seen 35 = .ok (.aload_n 0, 1) := by decide +kernel
theorem dX7_seen_36 : decode cX7_seen 36 = .ok (.getfield 20, 3) := by decide +kernel
theorem dX7_seen_39 : decode cX7_seen 39 = .ok (.iconst 2, 1) := by decide +kernel
theorem dX7_seen_40 : decode cX7_seen 40 = .ok (.aload_n 0, 1) := by decide +kernel
theorem dX7_seen_41 : decode cX7_seen 41 = .ok (.getfield 131, 3) := by decide +kernel
theorem dX7_seen_44 : decode cX7_seen 44 = .ok (.imul, 1) := by decide +kernel
theorem dX7_seen_45 : decode cX7_seen 45 = .ok (.iload_n 1, 1) := by decide +kernel
theorem dX7_seen_46 : decode cX7_seen 46 = .ok (.iastore, 1) := by decide +kernel
theorem dX7_seen_47 : decode cX7_seen 47 = .ok (.aload_n 0, 1) := by decide +kernel
theorem dX7_seen_48 : decode cX7_seen 48 = .ok (.getfield 20, 3) := by decide +kernel
theorem dX7_seen_51 : decode cX7_seen 51 = .ok (.iconst 2, 1) := by decide +kernel
theorem dX7_seen_52 : decode cX7_seen 52 = .ok (.aload_n 0, 1) := by decide +kernel
theorem dX7_seen_53 : decode cX7_seen 53 = .ok (.getfield 131, 3) := by decide +kernel
theorem dX7_seen_56 : decode cX7_seen 56 = .ok (.imul, 1) := by decide +kernel
theorem dX7_seen_57 : decode cX7_seen 57 = .ok (.iconst 1, 1) := by decide +kernel
theorem dX7_seen_58 : decode cX7_seen 58 = .ok (.iadd, 1) := by decide +kernel
theorem dX7_seen_59 : decode cX7_seen 59 = .ok (.iload_n 2, 1) := by decide +kernel
theorem dX7_seen_60 : decode cX7_seen 60 = .ok (.iastore, 1) := by decide +kernel
theorem dX7_seen_61 : decode cX7_seen 61 = .ok (.aload_n 0, 1) := by decide +kernel
theorem dX7_seen_62 : decode cX7_seen 62 = .ok (.dup, 1) := by decide +kernel
theorem dX7_seen_63 : decode cX7_seen 63 = .ok (.getfield 131, 3) := by decide +kernel
theorem dX7_seen_66 : decode cX7_seen 66 = .ok (.iconst 1, 1) := by decide +kernel
theorem dX7_seen_67 : decode cX7_seen 67 = .ok (.iadd, 1) := by decide +kernel
theorem dX7_seen_68 : decode cX7_seen 68 = .ok (.putfield 131, 3) := by decide +kernel
theorem dX7_seen_71 : decode cX7_seen 71 = .ok (.aload_n 0, 1) := by decide +kernel
theorem dX7_seen_72 : decode cX7_seen 72 = .ok (.getfield 131, 3) := by decide +kernel
theorem dX7_seen_75 : decode cX7_seen 75 = .ok (.ireturn, 1) := by decide +kernel
theorem dX7_forget_0 : decode cX7_forget 0 = .ok (.aload_n 0, 1) := by decide +kernel
theorem dX7_forget_1 : decode cX7_forget 1 = .ok (.getfield 131, 3) := by decide +kernel
theorem dX7_forget_4 : decode cX7_forget 4 = .ok (.istore_n 1, 1) := by decide +kernel
theorem dX7_forget_5 : decode cX7_forget 5 = .ok (.aload_n 0, 1) := by decide +kernel
theorem dX7_forget_6 : decode cX7_forget 6 = .ok (.iconst 0, 1) := by decide +kernel
theorem dX7_forget_7 : decode cX7_forget 7 = .ok (.putfield 131, 3) := by decide +kernel
theorem dX7_forget_10 : decode cX7_forget 10 = .ok (.iload_n 1, 1) := by decide +kernel
theorem dX7_forget_11 : decode cX7_forget 11 = .ok (.ireturn, 1) := by decide +kernel
theorem dX7_colour_0 : decode cX7_colour 0 = .ok (.iload_n 0, 1) := by decide +kernel
theorem dX7_colour_1 : decode cX7_colour 1 = .ok (.bipush 10, 2) := by decide +kernel
theorem dX7_colour_3 : decode cX7_colour 3 = .ok (.idiv, 1) := by decide +kernel
theorem dX7_colour_4 : decode cX7_colour 4 = .ok (.iload_n 0, 1) := by decide +kernel
theorem dX7_colour_5 : decode cX7_colour 5 = .ok (.bipush 10, 2) := by decide +kernel
theorem dX7_colour_7 : decode cX7_colour 7 = .ok (.irem, 1) := by decide +kernel
theorem dX7_colour_8 : decode cX7_colour 8 = .ok (.iload_n 1, 1) := by decide +kernel
theorem dX7_colour_9 : decode cX7_colour 9 = .ok (.imul, 1) := by decide +kernel
theorem dX7_colour_10 : decode cX7_colour 10 = .ok (.iadd, 1) := by decide +kernel
theorem dX7_colour_11 : decode cX7_colour 11 = .ok (.bipush 7, 2) := by decide +kernel
theorem dX7_colour_13 : decode cX7_colour 13 = .ok (.irem, 1) := by decide +kernel
theorem dX7_colour_14 : decode cX7_colour 14 = .ok (.ireturn, 1) := by decide +kernel
theorem dX7_isFit_0 : decode cX7_isFit 0 = .ok (.iload_n 1, 1) := by decide +kernel
theorem dX7_isFit_1 : decode cX7_isFit 1 = .ok (.bipush 10, 2) := by decide +kernel
theorem dX7_isFit_3 : decode cX7_isFit 3 = .ok (.irem, 1) := by decide +kernel
theorem dX7_isFit_4 : decode cX7_isFit 4 = .ok (.bipush 7, 2) := by decide +kernel
theorem dX7_isFit_6 : decode cX7_isFit 6 = .ok (.if_icmp .ge 7, 3) := by decide +kernel
theorem dX7_isFit_9 : decode cX7_isFit 9 = .ok (.iconst 1, 1) := by decide +kernel
theorem dX7_isFit_10 : decode cX7_isFit 10 = .ok (.goto 4, 3) := by decide +kernel
theorem dX7_isFit_13 : decode cX7_isFit 13 = .ok (.iconst 0, 1) := by decide +kernel
theorem dX7_isFit_14 : decode cX7_isFit 14 = .ok (.istore_n 2, 1) := by decide +kernel
theorem dX7_isFit_15 : decode cX7_isFit 15 = .ok (.iconst 0, 1) := by decide +kernel
theorem dX7_isFit_16 : decode cX7_isFit 16 = .ok (.istore_n 3, 1) := by decide +kernel
theorem dX7_isFit_17 : decode cX7_isFit 17 = .ok (.iload_n 3, 1) := by decide +kernel
theorem dX7_isFit_18 : decode cX7_isFit 18 = .ok (.aload_n 0, 1) := by decide +kernel
theorem dX7_isFit_19 : decode cX7_isFit 19 = .ok (.getfield 131, 3) := by decide +kernel
theorem dX7_isFit_22 : decode cX7_isFit 22 = .ok (.if_icmp .ge 44, 3) := by decide +kernel
theorem dX7_isFit_25 : decode cX7_isFit 25 = .ok (.iload_n 2, 1) := by decide +kernel
theorem dX7_isFit_26 : decode cX7_isFit 26 = .ok (.ifCond .eq 40, 3) := by decide +kernel
theorem dX7_isFit_29 : decode cX7_isFit 29 = .ok (.iload_n 1, 1) := by decide +kernel
theorem dX7_isFit_30 : decode cX7_isFit 30 = .ok (.aload_n 0, 1) := by decide +kernel
theorem dX7_isFit_31 : decode cX7_isFit 31 = .ok (.getfield 20, 3) := by decide +kernel
theorem dX7_isFit_34 : decode cX7_isFit 34 = .ok (.iconst 2, 1) := by decide +kernel
theorem dX7_isFit_35 : decode cX7_isFit 35 = .ok (.iload_n 3, 1) := by decide +kernel
theorem dX7_isFit_36 : decode cX7_isFit 36 = .ok (.imul, 1) := by decide +kernel
theorem dX7_isFit_37 : decode cX7_isFit 37 = .ok (.iaload, 1) := by decide +kernel
theorem dX7_isFit_38 : decode cX7_isFit 38 = .ok (.invokestatic 134, 3) := by decide +kernel
theorem dX7_isFit_41 : decode cX7_isFit 41 = .ok (.aload_n 0, 1) := by decide +kernel
theorem dX7_isFit_42 : decode cX7_isFit 42 = .ok (.getfield 20, 3) := by decide +kernel
theorem dX7_isFit_45 : decode cX7_isFit 45 = .ok (.iconst 2, 1) := by decide +kernel
theorem dX7_isFit_46 : decode cX7_isFit 46 = .ok (.iload_n 3, 1) := by decide +kernel
theorem dX7_isFit_47 : decode cX7_isFit 47 = .ok (.imul, 1) := by decide +kernel
theorem dX7_isFit_48 : decode cX7_isFit 48 = .ok (.iconst 1, 1) := by decide +kernel
theorem dX7_isFit_49 : decode cX7_isFit 49 = .ok (.iadd, 1) := by decide +kernel
theorem dX7_isFit_50 : decode cX7_isFit 50 = .ok (.iaload, 1) := by decide +kernel
theorem dX7_isFit_51 : decode cX7_isFit 51 = .ok (.if_icmp .ne 7, 3) := by decide +kernel
theorem dX7_isFit_54 : decode cX7_isFit 54 = .ok (.iconst 1, 1) := by decide +kernel
theorem dX7_isFit_55 : decode cX7_isFit 55 = .ok (.goto 4, 3) := by decide +kernel
theorem dX7_isFit_58 : decode cX7_isFit 58 = .ok (.iconst 0, 1) := by decide +kernel
theorem dX7_isFit_59 : decode cX7_isFit 59 = .ok (.istore_n 2, 1) := by decide +kernel
theorem dX7_isFit_60 : decode cX7_isFit 60 = .ok (.iinc 3 1, 3) := by decide +kernel
theorem dX7_isFit_63 : decode cX7_isFit 63 = .ok (.goto (-46), 3) := by decide +kernel
theorem dX7_isFit_66 : decode cX7_isFit 66 = .ok (.iload_n 2, 1) := by decide +kernel
theorem dX7_isFit_67 : decode cX7_isFit 67 = .ok (.ireturn, 1) := by decide +kernel
theorem dX7_matter_0 : decode cX7_matter 0 = .ok (.iconst 0, 1) := by decide +kernel
theorem dX7_matter_1 : decode cX7_matter 1 = .ok (.istore_n 2, 1) := by decide +kernel
theorem dX7_matter_2 : decode cX7_matter 2 = .ok (.iconst 0, 1) := by decide +kernel
theorem dX7_matter_3 : decode cX7_matter 3 = .ok (.istore_n 3, 1) := by decide +kernel
theorem dX7_matter_4 : decode cX7_matter 4 = .ok (.iload_n 3, 1) := by decide +kernel
theorem dX7_matter_5 : decode cX7_matter 5 = .ok (.bipush 70, 2) := by decide +kernel
theorem dX7_matter_7 : decode cX7_matter 7 = .ok (.if_icmp .ge 27, 3) := by decide +kernel
theorem dX7_matter_10 : decode cX7_matter 10 = .ok (.aload_n 0, 1) := by decide +kernel
theorem dX7_matter_11 : decode cX7_matter 11 = .ok (.iload_n 3, 1) := by decide +kernel
theorem dX7_matter_12 : decode cX7_matter 12 = .ok (.invokevirtual 137, 3) := by decide +kernel
theorem dX7_matter_15 : decode cX7_matter 15 = .ok (.ifCond .eq 13, 3) := by decide +kernel
theorem dX7_matter_18 : decode cX7_matter 18 = .ok (.iload_n 2, 1) := by decide +kernel
theorem dX7_matter_19 : decode cX7_matter 19 = .ok (.iload_n 1, 1) := by decide +kernel
theorem dX7_matter_20 : decode cX7_matter 20 = .ok (.if_icmp .ne 5, 3) := by decide +kernel
theorem dX7_matter_23 : decode cX7_matter 23 = .ok (.iload_n 3, 1) := by decide +kernel
theorem dX7_matter_24 : decode cX7_matter 24 = .ok (.ireturn, 1) := by decide +kernel
theorem dX7_matter_25 : decode cX7_matter 25 = .ok (.iinc 2 1, 3) := by decide +kernel
theorem dX7_matter_28 : decode cX7_matter 28 = .ok (.iinc 3 1, 3) := by decide +kernel
theorem dX7_matter_31 : decode cX7_matter 31 = .ok (.goto (-27), 3) := by decide +kernel
theorem dX7_matter_34 : decode cX7_matter 34 = .ok (.iload_n 1, 1) := by decide +kernel
theorem dX7_matter_35 : decode cX7_matter 35 = .ok (.iconst (-1), 1) := by decide +kernel
theorem dX7_matter_36 : decode cX7_matter 36 = .ok (.if_icmp .ne 7, 3) := by decide +kernel
theorem dX7_matter_39 : decode cX7_matter 39 = .ok (.iload_n 2, 1) := by decide +kernel
theorem dX7_matter_40 : decode cX7_matter 40 = .ok (.goto 5, 3) := by decide +kernel
theorem dX7_matter_43 : decode cX7_matter 43 = .ok (.bipush (-6), 2) := by decide +kernel
theorem dX7_matter_45 : decode cX7_matter 45 = .ok (.ireturn, 1) := by decide +kernel
theorem dX7_ask_0 : decode cX7_ask 0 = .ok (.iload_n 1, 1) := by decide +kernel
theorem dX7_ask_1 : decode cX7_ask 1 = .ok (.iconst 0, 1) := by decide +kernel
theorem dX7_ask_2 : decode cX7_ask 2 = .ok (.iconst 1, 1) := by decide +kernel
theorem dX7_ask_3 : decode cX7_ask 3 = .ok (.invokestatic 48, 3) := by decide +kernel
theorem dX7_ask_6 : decode cX7_ask 6 = .ok (.ifCond .ne 6, 3) := by decide +kernel
theorem dX7_ask_9 : decode cX7_ask 9 = .ok (.bipush (-2), 2) := by decide +kernel
theorem dX7_ask_11 : decode cX7_ask 11 = .ok (.ireturn, 1) := by decide +kernel
theorem dX7_ask_12 : decode cX7_ask 12 = .ok (.bipush (-6), 2) := by decide +kernel
theorem dX7_ask_14 : decode cX7_ask 14 = .ok (.istore_n 2, 1) := by decide +kernel
theorem dX7_ask_15 : decode cX7_ask 15 = .ok (.ldc 140, 2) := by decide +kernel
theorem dX7_ask_17 : decode cX7_ask 17 = .ok (.istore_n 3, 1) := by decide +kernel
theorem dX7_ask_18 : decode cX7_ask 18 = .ok (.iconst 0, 1) := by decide +kernel
theorem dX7_ask_19 : decode cX7_ask 19 = .ok (.istore 4, 2) := by decide +kernel
theorem dX7_ask_21 : decode cX7_ask 21 = .ok (.iload 4, 2) := by decide +kernel
theorem dX7_ask_23 : decode cX7_ask 23 = .ok (.bipush 21, 2) := by decide +kernel
theorem dX7_ask_25 : decode cX7_ask 25 = .ok (.if_icmp .ge 149, 3) := by decide +kernel
theorem dX7_ask_28 : decode cX7_ask 28 = .ok (.iconst 0, 1) := by decide +kernel
theorem dX7_ask_29 : decode cX7_ask 29 = .ok (.istore 5, 2) := by decide +kernel
theorem dX7_ask_31 : decode cX7_ask 31 = .ok (.iconst 0, 1) := by decide +kernel
theorem dX7_ask_32 : decode cX7_ask 32 = .ok (.istore 6, 2) := by decide +kernel
theorem dX7_ask_34 : decode cX7_ask 34 = .ok (.iload 6, 2) := by decide +kernel
theorem dX7_ask_36 : decode cX7_ask 36 = .ok (.bipush 7, 2) := by decide +kernel
theorem dX7_ask_38 : decode cX7_ask 38 = .ok (.if_icmp .ge 17, 3) := by decide +kernel
theorem dX7_ask_41 : decode cX7_ask 41 = .ok (.aload_n 0, 1) := by decide +kernel
theorem dX7_ask_42 : decode cX7_ask 42 = .ok (.getfield 32, 3) := by decide +kernel
theorem dX7_ask_45 : decode cX7_ask 45 = .ok (.iload 6, 2) := by decide +kernel
theorem dX7_ask_47 : decode cX7_ask 47 = .ok (.iconst 0, 1) := by decide +kernel
theorem dX7_ask_48 : decode cX7_ask 48 = .ok (.iastore, 1) := by decide +kernel
theorem dX7_ask_49 : decode cX7_ask 49 = .ok (.iinc 6 1, 3) := by decide +kernel
theorem dX7_ask_52 : decode cX7_ask 52 = .ok (.goto (-18), 3) := by decide +kernel
theorem dX7_ask_55 : decode cX7_ask 55 = .ok (.iconst 0, 1) := by decide +kernel
theorem dX7_ask_56 : decode cX7_ask 56 = .ok (.istore 6, 2) := by decide +kernel
theorem dX7_ask_58 : decode cX7_ask 58 = .ok (.iload 6, 2) := by decide +kernel
theorem dX7_ask_60 : decode cX7_ask 60 = .ok (.bipush 70, 2) := by decide +kernel
theorem dX7_ask_62 : decode cX7_ask 62 = .ok (.if_icmp .ge 64, 3) := by decide +kernel
theorem dX7_ask_65 : decode cX7_ask 65 = .ok (.aload_n 0, 1) := by decide +kernel
theorem dX7_ask_66 : decode cX7_ask 66 = .ok (.iload 6, 2) := by decide +kernel
theorem dX7_ask_68 : decode cX7_ask 68 = .ok (.invokevirtual 137, 3) := by decide +kernel
theorem dX7_ask_71 : decode cX7_ask 71 = .ok (.ifCond .eq 49, 3) := by decide +kernel
theorem dX7_ask_74 : decode cX7_ask 74 = .ok (.iload 6, 2) := by decide +kernel
theorem dX7_ask_76 : decode cX7_ask 76 = .ok (.iload 4, 2) := by decide +kernel
theorem dX7_ask_78 : decode cX7_ask 78 = .ok (.invokestatic 134, 3) := by decide +kernel
theorem dX7_ask_81 : decode cX7_ask 81 = .ok (.istore 7, 2) := by decide +kernel
theorem dX7_ask_83 : decode cX7_ask 83 = .ok (.aload_n 0, 1) := by decide +kernel
theorem dX7_ask_84 : decode cX7_ask 84 = .ok (.getfield 32, 3) := by decide +kernel
theorem dX7_ask_87 : decode cX7_ask 87 = .ok (.iload 7, 2) := by decide +kernel
theorem dX7_ask_89 : decode cX7_ask 89 = .ok (.dup2, 1) := by decide +kernel
theorem dX7_ask_90 : decode cX7_ask 90 = .ok (.iaload, 1) := by decide +kernel
theorem dX7_ask_91 : decode cX7_ask 91 = .ok (.iconst 1, 1) := by decide +kernel
theorem dX7_ask_92 : decode cX7_ask 92 = .ok (.iadd, 1) := by decide +kernel
theorem dX7_ask_93 : decode cX7_ask 93 = .ok (.iastore, 1) := by decide +kernel
theorem dX7_ask_94 : decode cX7_ask 94 = .ok (.aload_n 0, 1) := by decide +kernel
theorem dX7_ask_95 : decode cX7_ask 95 = .ok (.getfield 32, 3) := by decide +kernel
theorem dX7_ask_98 : decode cX7_ask 98 = .ok (.iload 7, 2) := by decide +kernel
theorem dX7_ask_100 : decode cX7_ask 100 = .ok (.iaload, 1) := by decide +kernel
theorem dX7_ask_101 : decode cX7_ask 101 = .ok (.iload 5, 2) := by decide +kernel
theorem dX7_ask_103 : decode cX7_ask 103 = .ok (.if_icmp .le 13, 3) := by decide +kernel
theorem dX7_ask_106 : decode cX7_ask 106 = .ok (.aload_n 0, 1) := by decide +kernel
theorem dX7_ask_107 : decode cX7_ask 107 = .ok (.getfield 32, 3) := by decide +kernel
theorem dX7_ask_110 : decode cX7_ask 110 = .ok (.iload 7, 2) := by decide +kernel
theorem dX7_ask_112 : decode cX7_ask 112 = .ok (.iaload, 1) := by decide +kernel
theorem dX7_ask_113 : decode cX7_ask 113 = .ok (.goto 5, 3) := by decide +kernel
theorem dX7_ask_116 : decode cX7_ask 116 = .ok (.iload 5, 2) := by decide +kernel
theorem dX7_ask_118 : decode cX7_ask 118 = .ok (.istore 5, 2) := by decide +kernel
theorem dX7_ask_120 : decode cX7_ask 120 = .ok (.iinc 6 1, 3) := by decide +kernel
theorem dX7_ask_123 : decode cX7_ask 123 = .ok (.goto (-65), 3) := by decide +kernel
theorem dX7_ask_126 : decode cX7_ask 126 = .ok (.iload 5, 2) := by decide +kernel
theorem dX7_ask_128 : decode cX7_ask 128 = .ok (.ifCond .le 13, 3) := by decide +kernel
theorem dX7_ask_131 : decode cX7_ask 131 = .ok (.iload 5, 2) := by decide +kernel
theorem dX7_ask_133 : decode cX7_ask 133 = .ok (.iload_n 3, 1) := by decide +kernel
theorem dX7_ask_134 : decode cX7_ask 134 = .ok (.if_icmp .ge 7, 3) := by decide +kernel
theorem dX7_ask_137 : decode cX7_ask 137 = .ok (.iconst 1, 1) := by decide +kernel
theorem dX7_ask_138 : decode cX7_ask 138 = .ok (.goto 4, 3) := by decide +kernel
theorem dX7_ask_141 : decode cX7_ask 141 = .ok (.iconst 0, 1) := by decide +kernel
theorem dX7_ask_142 : decode cX7_ask 142 = .ok (.istore 6, 2) := by decide +kernel
theorem dX7_ask_144 : decode cX7_ask 144 = .ok (.iload 6, 2) := by decide +kernel
theorem dX7_ask_146 : decode cX7_ask 146 = .ok (.ifCond .eq 8, 3) := by decide +kernel
theorem dX7_ask_149 : decode cX7_ask 149 = .ok (.iload 4, 2) := by decide +kernel
theorem dX7_ask_151 : decode cX7_ask 151 = .ok (.goto 4, 3) := by decide +kernel
theorem dX7_ask_154 : decode cX7_ask 154 = .ok (.iload_n 2, 1) := by decide +kernel
theorem dX7_ask_155 : decode cX7_ask 155 = .ok (.istore_n 2, 1) := by decide +kernel
theorem dX7_ask_156 : decode cX7_ask 156 = .ok (.iload 6, 2) := by decide +kernel
theorem dX7_ask_158 : decode cX7_ask 158 = .ok (.ifCond .eq 8, 3) := by decide +kernel
theorem dX7_ask_161 : decode cX7_ask 161 = .ok (.iload 5, 2) := by decide +kernel
theorem dX7_ask_163 : decode cX7_ask 163 = .ok (.goto 4, 3) := by decide +kernel
theorem dX7_ask_166 : decode cX7_ask 166 = .ok (.iload_n 3, 1) := by decide +kernel
theorem dX7_ask_167 : decode cX7_ask 167 = .ok (.istore_n 3, 1) := by decide +kernel
theorem dX7_ask_168 : decode cX7_ask 168 = .ok (.iinc 4 1, 3) := by decide +kernel
theorem dX7_ask_171 : decode cX7_ask 171 = .ok (.goto (-150), 3) := by decide +kernel
theorem dX7_ask_174 : decode cX7_ask 174 = .ok (.iload_n 2, 1) := by decide +kernel
theorem dX7_ask_175 : decode cX7_ask 175 = .ok (.ifCond .lt 7, 3) := by decide +kernel
theorem dX7_ask_178 : decode cX7_ask 178 = .ok (.iload_n 1, 1) := by decide +kernel
theorem dX7_ask_179 : decode cX7_ask 179 = .ok (.ifCond .ne 7, 3) := by decide +kernel
theorem dX7_ask_182 : decode cX7_ask 182 = .ok (.iload_n 2, 1) := by decide +kernel
theorem dX7_ask_183 : decode cX7_ask 183 = .ok (.goto 4, 3) := by decide +kernel
theorem dX7_ask_186 : decode cX7_ask 186 = .ok (.iload_n 3, 1) := by decide +kernel
theorem dX7_ask_187 : decode cX7_ask 187 = .ok (.ireturn, 1) := by decide +kernel
theorem dX7_layWorth_0 : decode cX7_layWorth 0 = .ok (.iconst 1, 1) := by decide +kernel
theorem dX7_layWorth_1 : decode cX7_layWorth 1 = .ok (.istore_n 2, 1) := by decide +kernel
theorem dX7_layWorth_2 : decode cX7_layWorth 2 = .ok (.iload_n 2, 1) := by decide +kernel
theorem dX7_layWorth_3 : decode cX7_layWorth 3 = .ok (.iload_n 1, 1) := by decide +kernel
theorem dX7_layWorth_4 : decode cX7_layWorth 4 = .ok (.if_icmp .gt 109, 3) := by decide +kernel
theorem dX7_layWorth_7 : decode cX7_layWorth 7 = .ok (.iconst 0, 1) := by decide +kernel
theorem dX7_layWorth_8 : decode cX7_layWorth 8 = .ok (.istore_n 3, 1) := by decide +kernel
theorem dX7_layWorth_9 : decode cX7_layWorth 9 = .ok (.iload_n 3, 1) := by decide +kernel
theorem dX7_layWorth_10 : decode cX7_layWorth 10 = .ok (.bipush 64, 2) := by decide +kernel
theorem dX7_layWorth_12 : decode cX7_layWorth 12 = .ok (.if_icmp .ge 16, 3) := by decide +kernel
theorem dX7_layWorth_15 : decode cX7_layWorth 15 = .ok (.aload_n 0, 1) := by decide +kernel
theorem dX7_layWorth_16 : decode cX7_layWorth 16 = .ok (.getfield 38, 3) := by decide +kernel
theorem dX7_layWorth_19 : decode cX7_layWorth 19 = .ok (.iload_n 3, 1) := by decide +kernel
theorem dX7_layWorth_20 : decode cX7_layWorth 20 = .ok (.iconst 0, 1) := by decide +kernel
theorem dX7_layWorth_21 : decode cX7_layWorth 21 = .ok (.bastore, 1) := by decide +kernel
theorem dX7_layWorth_22 : decode cX7_layWorth 22 = .ok (.iinc 3 1, 3) := by decide +kernel
theorem dX7_layWorth_25 : decode cX7_layWorth 25 = .ok (.goto (-16), 3) := by decide +kernel
theorem dX7_layWorth_28 : decode cX7_layWorth 28 = .ok (.iconst 1, 1) := by decide +kernel
theorem dX7_layWorth_29 : decode cX7_layWorth 29 = .ok (.istore_n 3, 1) := by decide +kernel
theorem dX7_layWorth_30 : decode cX7_layWorth 30 = .ok (.iload_n 3, 1) := by decide +kernel
theorem dX7_layWorth_31 : decode cX7_layWorth 31 = .ok (.iconst 3, 1) := by decide +kernel
theorem dX7_layWorth_32 : decode cX7_layWorth 32 = .ok (.if_icmp .ge 51, 3) := by decide +kernel
theorem dX7_layWorth_35 : decode cX7_layWorth 35 = .ok (.iconst 0, 1) := by decide +kernel
theorem dX7_layWorth_36 : decode cX7_layWorth 36 = .ok (.istore 4, 2) := by decide +kernel
theorem dX7_layWorth_38 : decode cX7_layWorth 38 = .ok (.iload 4, 2) := by decide +kernel
theorem dX7_layWorth_40 : decode cX7_layWorth 40 = .ok (.iload_n 3, 1) := by decide +kernel
theorem dX7_layWorth_41 : decode cX7_layWorth 41 = .ok (.iadd, 1) := by decide +kernel
theorem dX7_layWorth_42 : decode cX7_layWorth 42 = .ok (.iload_n 2, 1) := by decide +kernel
theorem dX7_layWorth_43 : decode cX7_layWorth 43 = .ok (.if_icmp .gt 34, 3) := by decide +kernel
theorem dX7_layWorth_46 : decode cX7_layWorth 46 = .ok (.aload_n 0, 1) := by decide +kernel
theorem dX7_layWorth_47 : decode cX7_layWorth 47 = .ok (.getfield 38, 3) := by decide +kernel
theorem dX7_layWorth_50 : decode cX7_layWorth 50 = .ok (.aload_n 0, 1) := by decide +kernel
theorem dX7_layWorth_51 : decode cX7_layWorth 51 = .ok (.getfield 35, 3) := by decide +kernel
theorem dX7_layWorth_54 : decode cX7_layWorth 54 = .ok (.iload 4, 2) := by decide +kernel
theorem dX7_layWorth_56 : decode cX7_layWorth 56 = .ok (.iaload, 1) := by decide +kernel
theorem dX7_layWorth_57 : decode cX7_layWorth 57 = .ok (.aload_n 0, 1) := by decide +kernel
theorem dX7_layWorth_58 : decode cX7_layWorth 58 = .ok (.getfield 35, 3) := by decide +kernel
theorem dX7_layWorth_61 : decode cX7_layWorth 61 = .ok (.iload_n 2, 1) := by decide +kernel
theorem dX7_layWorth_62 : decode cX7_layWorth 62 = .ok (.iload_n 3, 1) := by decide +kernel
theorem dX7_layWorth_63 : decode cX7_layWorth 63 = .ok (.isub, 1) := by decide +kernel
theorem dX7_layWorth_64 : decode cX7_layWorth 64 = .ok (.iload 4, 2) := by decide +kernel
theorem dX7_layWorth_66 : decode cX7_layWorth 66 = .ok (.isub, 1) := by decide +kernel
theorem dX7_layWorth_67 : decode cX7_layWorth 67 = .ok (.iaload, 1) := by decide +kernel
theorem dX7_layWorth_68 : decode cX7_layWorth 68 = .ok (.ixor, 1) := by decide +kernel
theorem dX7_layWorth_69 : decode cX7_layWorth 69 = .ok (.iconst 1, 1) := by decide +kernel
theorem dX7_layWorth_70 : decode cX7_layWorth 70 = .ok (.bastore, 1) := by decide +kernel
theorem dX7_layWorth_71 : decode cX7_layWorth 71 = .ok (.iinc 4 1, 3) := by decide +kernel
theorem dX7_layWorth_74 : decode cX7_layWorth 74 = .ok (.goto (-36), 3) := by decide +kernel
theorem dX7_layWorth_77 : decode cX7_layWorth 77 = .ok (.iinc 3 1, 3) := by decide +kernel
theorem dX7_layWorth_80 : decode cX7_layWorth 80 = .ok (.goto (-50), 3) := by decide +kernel
theorem dX7_layWorth_83 : decode cX7_layWorth 83 = .ok (.iconst 0, 1) := by decide +kernel
theorem dX7_layWorth_84 : decode cX7_layWorth 84 = .ok (.istore_n 3, 1) := by decide +kernel
theorem dX7_layWorth_85 : decode cX7_layWorth 85 = .ok (.aload_n 0, 1) := by decide +kernel
theorem dX7_layWorth_86 : decode cX7_layWorth 86 = .ok (.getfield 38, 3) := by decide +kernel
theorem dX7_layWorth_89 : decode cX7_layWorth 89 = .ok (.iload_n 3, 1) := by decide +kernel
theorem dX7_layWorth_90 : decode cX7_layWorth 90 = .ok (.baload, 1) := by decide +kernel
theorem dX7_layWorth_91 : decode cX7_layWorth 91 = .ok (.ifCond .eq 9, 3) := by decide +kernel
theorem dX7_layWorth_94 : decode cX7_layWorth 94 = .ok (.iinc 3 1, 3) := by decide +kernel
theorem dX7_layWorth_97 : decode cX7_layWorth 97 = .ok (.goto (-12), 3) := by decide +kernel
theorem dX7_layWorth_100 : decode cX7_layWorth 100 = .ok (.aload_n 0, 1) := by decide +kernel
theorem dX7_layWorth_101 : decode cX7_layWorth 101 = .ok (.getfield 35, 3) := by decide +kernel
theorem dX7_layWorth_104 : decode cX7_layWorth 104 = .ok (.iload_n 2, 1) := by decide +kernel
theorem dX7_layWorth_105 : decode cX7_layWorth 105 = .ok (.iload_n 3, 1) := by decide +kernel
theorem dX7_layWorth_106 : decode cX7_layWorth 106 = .ok (.iastore, 1) := by decide +kernel
theorem dX7_layWorth_107 : decode cX7_layWorth 107 = .ok (.iinc 2 1, 3) := by decide +kernel
theorem dX7_layWorth_110 : decode cX7_layWorth 110 = .ok (.goto (-108), 3) := by decide +kernel
theorem dX7_layWorth_113 : decode cX7_layWorth 113 = .ok (.return_, 1) := by decide +kernel
theorem dX7_takes_0 : decode cX7_takes 0 = .ok (.iload_n 1, 1) := by decide +kernel
theorem dX7_takes_1 : decode cX7_takes 1 = .ok (.iconst 0, 1) := by decide +kernel
theorem dX7_takes_2 : decode cX7_takes 2 = .ok (.bipush 60, 2) := by decide +kernel
theorem dX7_takes_4 : decode cX7_takes 4 = .ok (.invokestatic 48, 3) := by decide +kernel
theorem dX7_takes_7 : decode cX7_takes 7 = .ok (.ifCond .eq 12, 3) := by decide +kernel
theorem dX7_takes_10 : decode cX7_takes 10 = .ok (.iload_n 2, 1) := by decide +kernel
theorem dX7_takes_11 : decode cX7_takes 11 = .ok (.iconst 0, 1) := by decide +kernel
theorem dX7_takes_12 : decode cX7_takes 12 = .ok (.iconst 1, 1) := by decide +kernel
theorem dX7_takes_13 : decode cX7_takes 13 = .ok (.invokestatic 48, 3) := by decide +kernel
theorem dX7_takes_16 : decode cX7_takes 16 = .ok (.ifCond .ne 6, 3) := by decide +kernel
theorem dX7_takes_19 : decode cX7_takes 19 = .ok (.bipush (-2), 2) := by decide +kernel
theorem dX7_takes_21 : decode cX7_takes 21 = .ok (.ireturn, 1) := by decide +kernel
theorem dX7_takes_22 : decode cX7_takes 22 = .ok (.aload_n 0, 1) := by decide +kernel
theorem dX7_takes_23 : decode cX7_takes 23 = .ok (.iload_n 1, 1) := by decide +kernel
theorem dX7_takes_24 : decode cX7_takes 24 = .ok (.invokevirtual 141, 3) := by decide +kernel
theorem dX7_takes_27 : decode cX7_takes 27 = .ok (.iload_n 2, 1) := by decide +kernel
theorem dX7_takes_28 : decode cX7_takes 28 = .ok (.ifCond .ne 18, 3) := by decide +kernel
theorem dX7_takes_31 : decode cX7_takes 31 = .ok (.aload_n 0, 1) := by decide +kernel
theorem dX7_takes_32 : decode cX7_takes 32 = .ok (.getfield 35, 3) := by decide +kernel
theorem dX7_takes_35 : decode cX7_takes 35 = .ok (.iload_n 1, 1) := by decide +kernel
theorem dX7_takes_36 : decode cX7_takes 36 = .ok (.iaload, 1) := by decide +kernel
theorem dX7_takes_37 : decode cX7_takes 37 = .ok (.ifCond .le 7, 3) := by decide +kernel
theorem dX7_takes_40 : decode cX7_takes 40 = .ok (.iconst 1, 1) := by decide +kernel
theorem dX7_takes_41 : decode cX7_takes 41 = .ok (.goto 4, 3) := by decide +kernel
theorem dX7_takes_44 : decode cX7_takes 44 = .ok (.iconst 0, 1) := by decide +kernel
theorem dX7_takes_45 : decode cX7_takes 45 = .ok (.ireturn, 1) := by decide +kernel
theorem dX7_takes_46 : decode cX7_takes 46 = .ok (.iconst 1, 1) := by decide +kernel
theorem dX7_takes_47 : decode cX7_takes 47 = .ok (.istore_n 3, 1) := by decide +kernel
theorem dX7_takes_48 : decode cX7_takes 48 = .ok (.iload_n 3, 1) := by decide +kernel
theorem dX7_takes_49 : decode cX7_takes 49 = .ok (.iconst 3, 1) := by decide +kernel
theorem dX7_takes_50 : decode cX7_takes 50 = .ok (.if_icmp .ge 55, 3) := by decide +kernel
theorem dX7_takes_53 : decode cX7_takes 53 = .ok (.iconst 0, 1) := by decide +kernel
theorem dX7_takes_54 : decode cX7_takes 54 = .ok (.istore 4, 2) := by decide +kernel
theorem dX7_takes_56 : decode cX7_takes 56 = .ok (.iload 4, 2) := by decide +kernel
theorem dX7_takes_58 : decode cX7_takes 58 = .ok (.iload_n 3, 1) := by decide +kernel
theorem dX7_takes_59 : decode cX7_takes 59 = .ok (.iadd, 1) := by decide +kernel
theorem dX7_takes_60 : decode cX7_takes 60 = .ok (.iload_n 1, 1) := by decide +kernel
theorem dX7_takes_61 : decode cX7_takes 61 = .ok (.if_icmp .gt 38, 3) := by decide +kernel
theorem dX7_takes_64 : decode cX7_takes 64 = .ok (.aload_n 0, 1) := by decide +kernel
theorem dX7_takes_65 : decode cX7_takes 65 = .ok (.getfield 35, 3) := by decide +kernel
theorem dX7_takes_68 : decode cX7_takes 68 = .ok (.iload 4, 2) := by decide +kernel
theorem dX7_takes_70 : decode cX7_takes 70 = .ok (.iaload, 1) := by decide +kernel
theorem dX7_takes_71 : decode cX7_takes 71 = .ok (.aload_n 0, 1) := by decide +kernel
theorem dX7_takes_72 : decode cX7_takes 72 = .ok (.getfield 35, 3) := by decide +kernel
theorem dX7_takes_75 : decode cX7_takes 75 = .ok (.iload_n 1, 1) := by decide +kernel
theorem dX7_takes_76 : decode cX7_takes 76 = .ok (.iload_n 3, 1) := by decide +kernel
theorem dX7_takes_77 : decode cX7_takes 77 = .ok (.isub, 1) := by decide +kernel
theorem dX7_takes_78 : decode cX7_takes 78 = .ok (.iload 4, 2) := by decide +kernel
theorem dX7_takes_80 : decode cX7_takes 80 = .ok (.isub, 1) := by decide +kernel
theorem dX7_takes_81 : decode cX7_takes 81 = .ok (.iaload, 1) := by decide +kernel
theorem dX7_takes_82 : decode cX7_takes 82 = .ok (.if_icmp .ne 11, 3) := by decide +kernel
theorem dX7_takes_85 : decode cX7_takes 85 = .ok (.bipush 100, 2) := by decide +kernel
theorem dX7_takes_87 : decode cX7_takes 87 = .ok (.iload_n 3, 1) := by decide +kernel
theorem dX7_takes_88 : decode cX7_takes 88 = .ok (.imul, 1) := by decide +kernel
theorem dX7_takes_89 : decode cX7_takes 89 = .ok (.iload 4, 2) := by decide +kernel
theorem dX7_takes_91 : decode cX7_takes 91 = .ok (.iadd, 1) := by decide +kernel
theorem dX7_takes_92 : decode cX7_takes 92 = .ok (.ireturn, 1) := by decide +kernel
theorem dX7_takes_93 : decode cX7_takes 93 = .ok (.iinc 4 1, 3) := by decide +kernel
theorem dX7_takes_96 : decode cX7_takes 96 = .ok (.goto (-40), 3) := by decide +kernel
theorem dX7_takes_99 : decode cX7_takes 99 = .ok (.iinc 3 1, 3) := by decide +kernel
theorem dX7_takes_102 : decode cX7_takes 102 = .ok (.goto (-54), 3) := by decide +kernel
theorem dX7_takes_105 : decode cX7_takes 105 = .ok (.bipush (-6), 2) := by decide +kernel
theorem dX7_takes_107 : decode cX7_takes 107 = .ok (.ireturn, 1) := by decide +kernel
theorem dX7_lowest_0 : decode cX7_lowest 0 = .ok (.lload_n 0, 1) := by decide +kernel
theorem dX7_lowest_1 : decode cX7_lowest 1 = .ok (.lstore 5, 2) := by decide +kernel
theorem dX7_lowest_3 : decode cX7_lowest 3 = .ok (.lload_n 2, 1) := by decide +kernel
theorem dX7_lowest_4 : decode cX7_lowest 4 = .ok (.lstore 7, 2) := by decide +kernel
theorem dX7_lowest_6 : decode cX7_lowest 6 = .ok (.lload 7, 2) := by decide +kernel
theorem dX7_lowest_8 : decode cX7_lowest 8 = .ok (.lconst 0, 1) := by decide +kernel
theorem dX7_lowest_9 : decode cX7_lowest 9 = .ok (.lcmp, 1) := by decide +kernel
theorem dX7_lowest_10 : decode cX7_lowest 10 = .ok (.ifCond .eq 21, 3) := by decide +kernel
theorem dX7_lowest_13 : decode cX7_lowest 13 = .ok (.lload 5, 2) := by decide +kernel
theorem dX7_lowest_15 : decode cX7_lowest 15 = .ok (.lload 7, 2) := by decide +kernel
theorem dX7_lowest_17 : decode cX7_lowest 17 = .ok (.lrem, 1) := by decide +kernel
theorem dX7_lowest_18 : decode cX7_lowest 18 = .ok (.lstore 9, 2) := by decide +kernel
theorem dX7_lowest_20 : decode cX7_lowest 20 = .ok (.lload 7, 2) := by decide +kernel
theorem dX7_lowest_22 : decode cX7_lowest 22 = .ok (.lstore 5, 2) := by decide +kernel
theorem dX7_lowest_24 : decode cX7_lowest 24 = .ok (.lload 9, 2) := by decide +kernel
theorem dX7_lowest_26 : decode cX7_lowest 26 = .ok (.lstore 7, 2) := by decide +kernel
theorem dX7_lowest_28 : decode cX7_lowest 28 = .ok (.goto (-22), 3) := by decide +kernel
theorem dX7_lowest_31 : decode cX7_lowest 31 = .ok (.iload 4, 2) := by decide +kernel
theorem dX7_lowest_33 : decode cX7_lowest 33 = .ok (.ifCond .ne 10, 3) := by decide +kernel
theorem dX7_lowest_36 : decode cX7_lowest 36 = .ok (.lload_n 0, 1) := by decide +kernel
theorem dX7_lowest_37 : decode cX7_lowest 37 = .ok (.lload 5, 2) := by decide +kernel
theorem dX7_lowest_39 : decode cX7_lowest 39 = .ok (.ldiv, 1) := by decide +kernel
theorem dX7_lowest_40 : decode cX7_lowest 40 = .ok (.goto 7, 3) := by decide +kernel
theorem dX7_lowest_43 : decode cX7_lowest 43 = .ok (.lload_n 2, 1) := by decide +kernel
theorem dX7_lowest_44 : decode cX7_lowest 44 = .ok (.lload 5, 2) := by decide +kernel
theorem dX7_lowest_46 : decode cX7_lowest 46 = .ok (.ldiv, 1) := by decide +kernel
theorem dX7_lowest_47 : decode cX7_lowest 47 = .ok (.lreturn, 1) := by decide +kernel
theorem dX7_lean_0 : decode cX7_lean 0 = .ok (.iload_n 1, 1) := by decide +kernel
theorem dX7_lean_1 : decode cX7_lean 1 = .ok (.iconst 0, 1) := by decide +kernel
theorem dX7_lean_2 : decode cX7_lean 2 = .ok (.bipush 8, 2) := by decide +kernel
theorem dX7_lean_4 : decode cX7_lean 4 = .ok (.invokestatic 48, 3) := by decide +kernel
theorem dX7_lean_7 : decode cX7_lean 7 = .ok (.ifCond .eq 41, 3) := by decide +kernel
theorem dX7_lean_10 : decode cX7_lean 10 = .ok (.iload_n 2, 1) := by decide +kernel
theorem dX7_lean_11 : decode cX7_lean 11 = .ok (.iconst 0, 1) := by decide +kernel
theorem dX7_lean_12 : decode cX7_lean 12 = .ok (.bipush 10, 2) := by decide +kernel
theorem dX7_lean_14 : decode cX7_lean 14 = .ok (.invokestatic 48, 3) := by decide +kernel
theorem dX7_lean_17 : decode cX7_lean 17 = .ok (.ifCond .eq 31, 3) := by decide +kernel
theorem dX7_lean_20 : decode cX7_lean 20 = .ok (.iload_n 3, 1) := by decide +kernel
theorem dX7_lean_21 : decode cX7_lean 21 = .ok (.iconst 0, 1) := by decide +kernel
theorem dX7_lean_22 : decode cX7_lean 22 = .ok (.iconst 1, 1) := by decide +kernel
theorem dX7_lean_23 : decode cX7_lean 23 = .ok (.invokestatic 48, 3) := by decide +kernel
theorem dX7_lean_26 : decode cX7_lean 26 = .ok (.ifCond .eq 22, 3) := by decide +kernel
theorem dX7_lean_29 : decode cX7_lean 29 = .ok (.iload_n 3, 1) := by decide +kernel
theorem dX7_lean_30 : decode cX7_lean 30 = .ok (.iconst 1, 1) := by decide +kernel
theorem dX7_lean_31 : decode cX7_lean 31 = .ok (.if_icmp .ne 7, 3) := by decide +kernel
theorem dX7_lean_34 : decode cX7_lean 34 = .ok (.iload_n 2, 1) := by decide +kernel
theorem dX7_lean_35 : decode cX7_lean 35 = .ok (.ifCond .eq 13, 3) := by decide +kernel
theorem dX7_lean_38 : decode cX7_lean 38 = .ok (.iload 4, 2) := by decide +kernel
theorem dX7_lean_40 : decode cX7_lean 40 = .ok (.iconst 0, 1) := by decide +kernel
theorem dX7_lean_41 : decode cX7_lean 41 = .ok (.iconst 1, 1) := by decide +kernel
theorem dX7_lean_42 : decode cX7_lean 42 = .ok (.invokestatic 48, 3) := by decide +kernel
theorem dX7_lean_45 : decode cX7_lean 45 = .ok (.ifCond .ne 7, 3) := by decide +kernel
theorem dX7_lean_48 : decode cX7_lean 48 = .ok (.ldc2_w 145, 3) := by decide +kernel
theorem dX7_lean_51 : decode cX7_lean 51 = .ok (.lreturn, 1) := by decide +kernel
theorem dX7_lean_52 : decode cX7_lean 52 = .ok (.iload_n 3, 1) := by decide +kernel
theorem dX7_lean_53 : decode cX7_lean 53 = .ok (.iconst 1, 1) := by decide +kernel
theorem dX7_lean_54 : decode cX7_lean 54 = .ok (.if_icmp .ne 16, 3) := by decide +kernel
theorem dX7_lean_57 : decode cX7_lean 57 = .ok (.ldc2_w 126, 3) := by decide +kernel
theorem dX7_lean_60 : decode cX7_lean 60 = .ok (.iload_n 2, 1) := by decide +kernel
theorem dX7_lean_61 : decode cX7_lean 61 = .ok (.iload_n 2, 1) := by decide +kernel
theorem dX7_lean_62 : decode cX7_lean 62 = .ok (.imul, 1) := by decide +kernel
theorem dX7_lean_63 : decode cX7_lean 63 = .ok (.i2l, 1) := by decide +kernel
theorem dX7_lean_64 : decode cX7_lean 64 = .ok (.iload 4, 2) := by decide +kernel
theorem dX7_lean_66 : decode cX7_lean 66 = .ok (.invokestatic 147, 3) := by decide +kernel
theorem dX7_lean_69 : decode cX7_lean 69 = .ok (.lreturn, 1) := by decide +kernel
theorem dX7_lean_70 : decode cX7_lean 70 = .ok (.lconst 1, 1) := by decide +kernel
theorem dX7_lean_71 : decode cX7_lean 71 = .ok (.lstore 5, 2) := by decide +kernel
theorem dX7_lean_73 : decode cX7_lean 73 = .ok (.lconst 1, 1) := by decide +kernel
theorem dX7_lean_74 : decode cX7_lean 74 = .ok (.lstore 7, 2) := by decide +kernel
theorem dX7_lean_76 : decode cX7_lean 76 = .ok (.iconst 0, 1) := by decide +kernel
theorem dX7_lean_77 : decode cX7_lean 77 = .ok (.istore 9, 2) := by decide +kernel
theorem dX7_lean_79 : decode cX7_lean 79 = .ok (.iload 9, 2) := by decide +kernel
theorem dX7_lean_81 : decode cX7_lean 81 = .ok (.iload_n 1, 1) := by decide +kernel
theorem dX7_lean_82 : decode cX7_lean 82 = .ok (.if_icmp .ge 29, 3) := by decide +kernel
theorem dX7_lean_85 : decode cX7_lean 85 = .ok (.lload 5, 2) := by decide +kernel
theorem dX7_lean_87 : decode cX7_lean 87 = .ok (.bipush 100, 2) := by decide +kernel
theorem dX7_lean_89 : decode cX7_lean 89 = .ok (.iload_n 2, 1) := by decide +kernel
theorem dX7_lean_90 : decode cX7_lean 90 = .ok (.iload_n 2, 1) := by decide +kernel
theorem dX7_lean_91 : decode cX7_lean 91 = .ok (.imul, 1) := by decide +kernel
theorem dX7_lean_92 : decode cX7_lean 92 = .ok (.isub, 1) := by decide +kernel
theorem dX7_lean_93 : decode cX7_lean 93 = .ok (.i2l, 1) := by decide +kernel
theorem dX7_lean_94 : decode cX7_lean 94 = .ok (.lmul, 1) := by decide +kernel
theorem dX7_lean_95 : decode cX7_lean 95 = .ok (.lstore 5, 2) := by decide +kernel
theorem dX7_lean_97 : decode cX7_lean 97 = .ok (.lload 7, 2) := by decide +kernel
theorem dX7_lean_99 : decode cX7_lean 99 = .ok (.ldc2_w 126, 3) := by decide +kernel
theorem dX7_lean_102 : decode cX7_lean 102 = .ok (.lmul, 1) := by decide +kernel
theorem dX7_lean_103 : decode cX7_lean 103 = .ok (.lstore 7, 2) := by decide +kernel
theorem dX7_lean_105 : decode cX7_lean 105 = .ok (.iinc 9 1, 3) := by decide +kernel
theorem dX7_lean_108 : decode cX7_lean 108 = .ok (.goto (-29), 3) := by decide +kernel
theorem dX7_lean_111 : decode cX7_lean 111 = .ok (.lload 5, 2) := by decide +kernel
theorem dX7_lean_113 : decode cX7_lean 113 = .ok (.lload 7, 2) := by decide +kernel
theorem dX7_lean_115 : decode cX7_lean 115 = .ok (.iload 4, 2) := by decide +kernel
theorem dX7_lean_117 : decode cX7_lean 117 = .ok (.invokestatic 147, 3) := by decide +kernel
theorem dX7_lean_120 : decode cX7_lean 120 = .ok (.lreturn, 1) := by decide +kernel
theorem dX7_year_0 : decode cX7_year 0 = .ok (.iload_n 1, 1) := by decide +kernel
theorem dX7_year_1 : decode cX7_year 1 = .ok (.iconst 0, 1) := by decide +kernel
theorem dX7_year_2 : decode cX7_year 2 = .ok (.sipush 9999, 3) := by decide +kernel
theorem dX7_year_5 : decode cX7_year 5 = .ok (.invokestatic 48, 3) := by decide +kernel
theorem dX7_year_8 : decode cX7_year 8 = .ok (.ifCond .eq 22, 3) := by decide +kernel
theorem dX7_year_11 : decode cX7_year 11 = .ok (.iload_n 2, 1) := by decide +kernel
theorem dX7_year_12 : decode cX7_year 12 = .ok (.iconst 1, 1) := by decide +kernel
theorem dX7_year_13 : decode cX7_year 13 = .ok (.bipush 99, 2) := by decide +kernel
theorem dX7_year_15 : decode cX7_year 15 = .ok (.invokestatic 48, 3) := by decide +kernel
theorem dX7_year_18 : decode cX7_year 18 = .ok (.ifCond .eq 12, 3) := by decide +kernel
theorem dX7_year_21 : decode cX7_year 21 = .ok (.iload_n 3, 1) := by decide +kernel
theorem dX7_year_22 : decode cX7_year 22 = .ok (.iconst 0, 1) := by decide +kernel
theorem dX7_year_23 : decode cX7_year 23 = .ok (.iconst 2, 1) := by decide +kernel
theorem dX7_year_24 : decode cX7_year 24 = .ok (.invokestatic 48, 3) := by decide +kernel
theorem dX7_year_27 : decode cX7_year 27 = .ok (.ifCond .ne 6, 3) := by decide +kernel
theorem dX7_year_30 : decode cX7_year 30 = .ok (.bipush (-2), 2) := by decide +kernel
theorem dX7_year_32 : decode cX7_year 32 = .ok (.ireturn, 1) := by decide +kernel
theorem dX7_year_33 : decode cX7_year 33 = .ok (.aload_n 0, 1) := by decide +kernel
theorem dX7_year_34 : decode cX7_year 34 = .ok (.invokevirtual 93, 3) := by decide +kernel
theorem dX7_year_37 : decode cX7_year 37 = .ok (.iload_n 1, 1) := by decide +kernel
theorem dX7_year_38 : decode cX7_year 38 = .ok (.istore 4, 2) := by decide +kernel
theorem dX7_year_40 : decode cX7_year 40 = .ok (.iconst 0, 1) := by decide +kernel
theorem dX7_year_41 : decode cX7_year 41 = .ok (.istore 5, 2) := by decide +kernel
theorem dX7_year_43 : decode cX7_year 43 = .ok (.iload 5, 2) := by decide +kernel
theorem dX7_year_45 : decode cX7_year 45 = .ok (.iload_n 2, 1) := by decide +kernel
theorem dX7_year_46 : decode cX7_year 46 = .ok (.if_icmp .ge 155, 3) := by decide +kernel
theorem dX7_year_49 : decode cX7_year 49 = .ok (.bipush 75, 2) := by decide +kernel
theorem dX7_year_51 : decode cX7_year 51 = .ok (.iload 4, 2) := by decide +kernel
theorem dX7_year_53 : decode cX7_year 53 = .ok (.imul, 1) := by decide +kernel
theorem dX7_year_54 : decode cX7_year 54 = .ok (.bipush 74, 2) := by decide +kernel
theorem dX7_year_56 : decode cX7_year 56 = .ok (.iadd, 1) := by decide +kernel
theorem dX7_year_57 : decode cX7_year 57 = .ok (.ldc 151, 2) := by decide +kernel
theorem dX7_year_59 : decode cX7_year 59 = .ok (.irem, 1) := by decide +kernel
theorem dX7_year_60 : decode cX7_year 60 = .ok (.istore 4, 2) := by decide +kernel
theorem dX7_year_62 : decode cX7_year 62 = .ok (.iload 4, 2) := by decide +kernel
theorem dX7_year_64 : decode cX7_year 64 = .ok (.bipush 6, 2) := by decide +kernel
theorem dX7_year_66 : decode cX7_year 66 = .ok (.irem, 1) := by decide +kernel
theorem dX7_year_67 : decode cX7_year 67 = .ok (.istore 6, 2) := by decide +kernel
theorem dX7_year_69 : decode cX7_year 69 = .ok (.iload 4, 2) := by decide +kernel
theorem dX7_year_71 : decode cX7_year 71 = .ok (.bipush 6, 2) := by decide +kernel
theorem dX7_year_73 : decode cX7_year 73 = .ok (.idiv, 1) := by decide +kernel
theorem dX7_year_74 : decode cX7_year 74 = .ok (.bipush 8, 2) := by decide +kernel
theorem dX7_year_76 : decode cX7_year 76 = .ok (.irem, 1) := by decide +kernel
theorem dX7_year_77 : decode cX7_year 77 = .ok (.tableswitch 110 0 4 #[35, 56, 70, 84, 97], 35) := by decide +kernel
theorem dX7_year_112 : decode cX7_year 112 = .ok (.aload_n 0, 1) := by decide +kernel
theorem dX7_year_113 : decode cX7_year 113 = .ok (.aload_n 0, 1) := by decide +kernel
theorem dX7_year_114 : decode cX7_year 114 = .ok (.iload 6, 2) := by decide +kernel
theorem dX7_year_116 : decode cX7_year 116 = .ok (.iload 4, 2) := by decide +kernel
theorem dX7_year_118 : decode cX7_year 118 = .ok (.bipush 48, 2) := by decide +kernel
theorem dX7_year_120 : decode cX7_year 120 = .ok (.idiv, 1) := by decide +kernel
theorem dX7_year_121 : decode cX7_year 121 = .ok (.bipush 25, 2) := by decide +kernel
theorem dX7_year_123 : decode cX7_year 123 = .ok (.irem, 1) := by decide +kernel
theorem dX7_year_124 : decode cX7_year 124 = .ok (.invokevirtual 114, 3) := by decide +kernel
theorem dX7_year_127 : decode cX7_year 127 = .ok (.putfield 102, 3) := by decide +kernel
theorem dX7_year_130 : decode cX7_year 130 = .ok (.goto 65, 3) := by decide +kernel
theorem dX7_year_133 : decode cX7_year 133 = .ok (.aload_n 0, 1) := by decide +kernel
theorem dX7_year_134 : decode cX7_year 134 = .ok (.aload_n 0, 1) := by decide +kernel
theorem dX7_year_135 : decode cX7_year 135 = .ok (.iload 6, 2) := by decide +kernel
theorem dX7_year_137 : decode cX7_year 137 = .ok (.iconst 1, 1) := by decide +kernel
theorem dX7_year_138 : decode cX7_year 138 = .ok (.invokevirtual 105, 3) := by decide +kernel
theorem dX7_year_141 : decode cX7_year 141 = .ok (.putfield 102, 3) := by decide +kernel
theorem dX7_year_144 : decode cX7_year 144 = .ok (.goto 51, 3) := by decide +kernel
theorem dX7_year_147 : decode cX7_year 147 = .ok (.aload_n 0, 1) := by decide +kernel
theorem dX7_year_148 : decode cX7_year 148 = .ok (.aload_n 0, 1) := by decide +kernel
theorem dX7_year_149 : decode cX7_year 149 = .ok (.iload 6, 2) := by decide +kernel
theorem dX7_year_151 : decode cX7_year 151 = .ok (.iconst (-1), 1) := by decide +kernel
theorem dX7_year_152 : decode cX7_year 152 = .ok (.invokevirtual 105, 3) := by decide +kernel
theorem dX7_year_155 : decode cX7_year 155 = .ok (.putfield 102, 3) := by decide +kernel
theorem dX7_year_158 : decode cX7_year 158 = .ok (.goto 37, 3) := by decide +kernel
theorem dX7_year_161 : decode cX7_year 161 = .ok (.aload_n 0, 1) := by decide +kernel
theorem dX7_year_162 : decode cX7_year 162 = .ok (.aload_n 0, 1) := by decide +kernel
theorem dX7_year_163 : decode cX7_year 163 = .ok (.iload 6, 2) := by decide +kernel
theorem dX7_year_165 : decode cX7_year 165 = .ok (.invokevirtual 108, 3) := by decide +kernel
theorem dX7_year_168 : decode cX7_year 168 = .ok (.putfield 102, 3) := by decide +kernel
theorem dX7_year_171 : decode cX7_year 171 = .ok (.goto 24, 3) := by decide +kernel
theorem dX7_year_174 : decode cX7_year 174 = .ok (.aload_n 0, 1) := by decide +kernel
theorem dX7_year_175 : decode cX7_year 175 = .ok (.aload_n 0, 1) := by decide +kernel
theorem dX7_year_176 : decode cX7_year 176 = .ok (.iload 6, 2) := by decide +kernel
theorem dX7_year_178 : decode cX7_year 178 = .ok (.invokevirtual 111, 3) := by decide +kernel
theorem dX7_year_181 : decode cX7_year 181 = .ok (.putfield 102, 3) := by decide +kernel
theorem dX7_year_184 : decode cX7_year 184 = .ok (.goto 11, 3) := by decide +kernel
theorem dX7_year_187 : decode cX7_year 187 = .ok (.aload_n 0, 1) := by decide +kernel
theorem dX7_year_188 : decode cX7_year 188 = .ok (.aload_n 0, 1) := by decide +kernel
theorem dX7_year_189 : decode cX7_year 189 = .ok (.invokevirtual 99, 3) := by decide +kernel
theorem dX7_year_192 : decode cX7_year 192 = .ok (.putfield 102, 3) := by decide +kernel
theorem dX7_year_195 : decode cX7_year 195 = .ok (.iinc 5 1, 3) := by decide +kernel
theorem dX7_year_198 : decode cX7_year 198 = .ok (.goto (-155), 3) := by decide +kernel
theorem dX7_year_201 : decode cX7_year 201 = .ok (.iconst 0, 1) := by decide +kernel
theorem dX7_year_202 : decode cX7_year 202 = .ok (.istore 5, 2) := by decide +kernel
theorem dX7_year_204 : decode cX7_year 204 = .ok (.iconst 0, 1) := by decide +kernel
theorem dX7_year_205 : decode cX7_year 205 = .ok (.istore 6, 2) := by decide +kernel
theorem dX7_year_207 : decode cX7_year 207 = .ok (.iload 6, 2) := by decide +kernel
theorem dX7_year_209 : decode cX7_year 209 = .ok (.bipush 6, 2) := by decide +kernel
theorem dX7_year_211 : decode cX7_year 211 = .ok (.if_icmp .ge 21, 3) := by decide +kernel
theorem dX7_year_214 : decode cX7_year 214 = .ok (.iload 5, 2) := by decide +kernel
theorem dX7_year_216 : decode cX7_year 216 = .ok (.aload_n 0, 1) := by decide +kernel
theorem dX7_year_217 : decode cX7_year 217 = .ok (.getfield 13, 3) := by decide +kernel
theorem dX7_year_220 : decode cX7_year 220 = .ok (.iload 6, 2) := by decide +kernel
theorem dX7_year_222 : decode cX7_year 222 = .ok (.iaload, 1) := by decide +kernel
theorem dX7_year_223 : decode cX7_year 223 = .ok (.iadd, 1) := by decide +kernel
theorem dX7_year_224 : decode cX7_year 224 = .ok (.istore 5, 2) := by decide +kernel
theorem dX7_year_226 : decode cX7_year 226 = .ok (.iinc 6 1, 3) := by decide +kernel
theorem dX7_year_229 : decode cX7_year 229 = .ok (.goto (-22), 3) := by decide +kernel
theorem dX7_year_232 : decode cX7_year 232 = .ok (.iload_n 3, 1) := by decide +kernel
theorem dX7_year_233 : decode cX7_year 233 = .ok (.ifCond .ne 16, 3) := by decide +kernel
theorem dX7_year_236 : decode cX7_year 236 = .ok (.aload_n 0, 1) := by decide +kernel
theorem dX7_year_237 : decode cX7_year 237 = .ok (.getfield 13, 3) := by decide +kernel
theorem dX7_year_240 : decode cX7_year 240 = .ok (.bipush 19, 2) := by decide +kernel
theorem dX7_year_242 : decode cX7_year 242 = .ok (.iaload, 1) := by decide +kernel
theorem dX7_year_243 : decode cX7_year 243 = .ok (.invokestatic 56, 3) := by decide +kernel
theorem dX7_year_246 : decode cX7_year 246 = .ok (.goto 23, 3) := by decide +kernel
theorem dX7_year_249 : decode cX7_year 249 = .ok (.iload_n 3, 1) := by decide +kernel
theorem dX7_year_250 : decode cX7_year 250 = .ok (.iconst 1, 1) := by decide +kernel
theorem dX7_year_251 : decode cX7_year 251 = .ok (.if_icmp .ne 16, 3) := by decide +kernel
theorem dX7_year_254 : decode cX7_year 254 = .ok (.aload_n 0, 1) := by decide +kernel
theorem dX7_year_255 : decode cX7_year 255 = .ok (.getfield 13, 3) := by decide +kernel
theorem dX7_year_258 : decode cX7_year 258 = .ok (.bipush 20, 2) := by decide +kernel
theorem dX7_year_260 : decode cX7_year 260 = .ok (.iaload, 1) := by decide +kernel
theorem dX7_year_261 : decode cX7_year 261 = .ok (.invokestatic 56, 3) := by decide +kernel
theorem dX7_year_264 : decode cX7_year 264 = .ok (.goto 5, 3) := by decide +kernel
theorem dX7_year_267 : decode cX7_year 267 = .ok (.iload 5, 2) := by decide +kernel
theorem dX7_year_269 : decode cX7_year 269 = .ok (.ireturn, 1) := by decide +kernel
theorem dX7_image_0 : decode cX7_image 0 = .ok (.iload_n 1, 1) := by decide +kernel
theorem dX7_image_1 : decode cX7_image 1 = .ok (.iconst 0, 1) := by decide +kernel
theorem dX7_image_2 : decode cX7_image 2 = .ok (.iconst 1, 1) := by decide +kernel
theorem dX7_image_3 : decode cX7_image 3 = .ok (.invokestatic 48, 3) := by decide +kernel
theorem dX7_image_6 : decode cX7_image 6 = .ok (.ifCond .ne 6, 3) := by decide +kernel
theorem dX7_image_9 : decode cX7_image 9 = .ok (.bipush (-2), 2) := by decide +kernel
theorem dX7_image_11 : decode cX7_image 11 = .ok (.ireturn, 1) := by decide +kernel
theorem dX7_image_12 : decode cX7_image 12 = .ok (.bipush 50, 2) := by decide +kernel
theorem dX7_image_14 : decode cX7_image 14 = .ok (.iload_n 1, 1) := by decide +kernel
theorem dX7_image_15 : decode cX7_image 15 = .ok (.imul, 1) := by decide +kernel
theorem dX7_image_16 : decode cX7_image 16 = .ok (.istore_n 2, 1) := by decide +kernel
theorem dX7_image_17 : decode cX7_image 17 = .ok (.iconst 0, 1) := by decide +kernel
theorem dX7_image_18 : decode cX7_image 18 = .ok (.istore_n 3, 1) := by decide +kernel
theorem dX7_image_19 : decode cX7_image 19 = .ok (.iload_n 3, 1) := by decide +kernel
theorem dX7_image_20 : decode cX7_image 20 = .ok (.bipush 22, 2) := by decide +kernel
theorem dX7_image_22 : decode cX7_image 22 = .ok (.if_icmp .ge 23, 3) := by decide +kernel
theorem dX7_image_25 : decode cX7_image 25 = .ok (.aload_n 0, 1) := by decide +kernel
theorem dX7_image_26 : decode cX7_image 26 = .ok (.getfield 42, 3) := by decide +kernel
theorem dX7_image_29 : decode cX7_image 29 = .ok (.iload_n 2, 1) := by decide +kernel
theorem dX7_image_30 : decode cX7_image 30 = .ok (.iload_n 3, 1) := by decide +kernel
theorem dX7_image_31 : decode cX7_image 31 = .ok (.iadd, 1) := by decide +kernel
theorem dX7_image_32 : decode cX7_image 32 = .ok (.aload_n 0, 1) := by decide +kernel
theorem dX7_image_33 : decode cX7_image 33 = .ok (.getfield 7, 3) := by decide +kernel
theorem dX7_image_36 : decode cX7_image 36 = .ok (.iload_n 3, 1) := by decide +kernel
theorem dX7_image_37 : decode cX7_image 37 = .ok (.iaload, 1) := by decide +kernel
theorem dX7_image_38 : decode cX7_image 38 = .ok (.iastore, 1) := by decide +kernel
theorem dX7_image_39 : decode cX7_image 39 = .ok (.iinc 3 1, 3) := by decide +kernel
theorem dX7_image_42 : decode cX7_image 42 = .ok (.goto (-23), 3) := by decide +kernel
theorem dX7_image_45 : decode cX7_image 45 = .ok (.iconst 0, 1) := by decide +kernel
theorem dX7_image_46 : decode cX7_image 46 = .ok (.istore_n 3, 1) := by decide +kernel
theorem dX7_image_47 : decode cX7_image 47 = .ok (.iload_n 3, 1) := by decide +kernel
theorem dX7_image_48 : decode cX7_image 48 = .ok (.bipush 16, 2) := by decide +kernel
theorem dX7_image_50 : decode cX7_image 50 = .ok (.if_icmp .ge 26, 3) := by decide +kernel
theorem dX7_image_53 : decode cX7_image 53 = .ok (.aload_n 0, 1) := by decide +kernel
theorem dX7_image_54 : decode cX7_image 54 = .ok (.getfield 42, 3) := by decide +kernel
theorem dX7_image_57 : decode cX7_image 57 = .ok (.iload_n 2, 1) := by decide +kernel
theorem dX7_image_58 : decode cX7_image 58 = .ok (.bipush 22, 2) := by decide +kernel
theorem dX7_image_60 : decode cX7_image 60 = .ok (.iadd, 1) := by decide +kernel
theorem dX7_image_61 : decode cX7_image 61 = .ok (.iload_n 3, 1) := by decide +kernel
theorem dX7_image_62 : decode cX7_image 62 = .ok (.iadd, 1) := by decide +kernel
theorem dX7_image_63 : decode cX7_image 63 = .ok (.aload_n 0, 1) := by decide +kernel
theorem dX7_image_64 : decode cX7_image 64 = .ok (.getfield 20, 3) := by decide +kernel
theorem dX7_image_67 : decode cX7_image 67 = .ok (.iload_n 3, 1) := by decide +kernel
theorem dX7_image_68 : decode cX7_image 68 = .ok (.iaload, 1) := by decide +kernel
theorem dX7_image_69 : decode cX7_image 69 = .ok (.iastore, 1) := by decide +kernel
theorem dX7_image_70 : decode cX7_image 70 = .ok (.iinc 3 1, 3) := by decide +kernel
theorem dX7_image_73 : decode cX7_image 73 = .ok (.goto (-26), 3) := by decide +kernel
theorem dX7_image_76 : decode cX7_image 76 = .ok (.aload_n 0, 1) := by decide +kernel
theorem dX7_image_77 : decode cX7_image 77 = .ok (.getfield 42, 3) := by decide +kernel
theorem dX7_image_80 : decode cX7_image 80 = .ok (.iload_n 2, 1) := by decide +kernel
theorem dX7_image_81 : decode cX7_image 81 = .ok (.bipush 45, 2) := by decide +kernel
theorem dX7_image_83 : decode cX7_image 83 = .ok (.iadd, 1) := by decide +kernel
theorem dX7_image_84 : decode cX7_image 84 = .ok (.aload_n 0, 1) := by decide +kernel
theorem dX7_image_85 : decode cX7_image 85 = .ok (.getfield 16, 3) := by decide +kernel
theorem dX7_image_88 : decode cX7_image 88 = .ok (.iastore, 1) := by decide +kernel
theorem dX7_image_89 : decode cX7_image 89 = .ok (.aload_n 0, 1) := by decide +kernel
theorem dX7_image_90 : decode cX7_image 90 = .ok (.getfield 42, 3) := by decide +kernel
theorem dX7_image_93 : decode cX7_image 93 = .ok (.iload_n 2, 1) := by decide +kernel
theorem dX7_image_94 : decode cX7_image 94 = .ok (.bipush 46, 2) := by decide +kernel
theorem dX7_image_96 : decode cX7_image 96 = .ok (.iadd, 1) := by decide +kernel
theorem dX7_image_97 : decode cX7_image 97 = .ok (.aload_n 0, 1) := by decide +kernel
theorem dX7_image_98 : decode cX7_image 98 = .ok (.getfield 131, 3) := by decide +kernel
theorem dX7_image_101 : decode cX7_image 101 = .ok (.iastore, 1) := by decide +kernel
theorem dX7_image_102 : decode cX7_image 102 = .ok (.aload_n 0, 1) := by decide +kernel
theorem dX7_image_103 : decode cX7_image 103 = .ok (.getfield 45, 3) := by decide +kernel
theorem dX7_image_106 : decode cX7_image 106 = .ok (.iload_n 1, 1) := by decide +kernel
theorem dX7_image_107 : decode cX7_image 107 = .ok (.iconst 1, 1) := by decide +kernel
theorem dX7_image_108 : decode cX7_image 108 = .ok (.bastore, 1) := by decide +kernel
theorem dX7_image_109 : decode cX7_image 109 = .ok (.iconst 1, 1) := by decide +kernel
theorem dX7_image_110 : decode cX7_image 110 = .ok (.ireturn, 1) := by decide +kernel
theorem dX7_restore_0 : decode cX7_restore 0 = .ok (.iload_n 1, 1) := by decide +kernel
theorem dX7_restore_1 : decode cX7_restore 1 = .ok (.iconst 0, 1) := by decide +kernel
theorem dX7_restore_2 : decode cX7_restore 2 = .ok (.iconst 1, 1) := by decide +kernel
theorem dX7_restore_3 : decode cX7_restore 3 = .ok (.invokestatic 48, 3) := by decide +kernel
theorem dX7_restore_6 : decode cX7_restore 6 = .ok (.ifCond .ne 6, 3) := by decide +kernel
theorem dX7_restore_9 : decode cX7_restore 9 = .ok (.bipush (-2), 2) := by decide +kernel
theorem dX7_restore_11 : decode cX7_restore 11 = .ok (.ireturn, 1) := by decide +kernel
theorem dX7_restore_12 : decode cX7_restore 12 = .ok (.aload_n 0, 1) := by decide +kernel
theorem dX7_restore_13 : decode cX7_restore 13 = .ok (.getfield 45, 3) := by decide +kernel
theorem dX7_restore_16 : decode cX7_restore 16 = .ok (.iload_n 1, 1) := by decide +kernel
theorem dX7_restore_17 : decode cX7_restore 17 = .ok (.baload, 1) := by decide +kernel
theorem dX7_restore_18 : decode cX7_restore 18 = .ok (.ifCond .ne 6, 3) := by decide +kernel
theorem dX7_restore_21 : decode cX7_restore 21 = .ok (.bipush (-3), 2) := by decide +kernel
theorem dX7_restore_23 : decode cX7_restore 23 = .ok (.ireturn, 1) := by decide +kernel
theorem dX7_restore_24 : decode cX7_restore 24 = .ok (.bipush 50, 2) := by decide +kernel
theorem dX7_restore_26 : decode cX7_restore 26 = .ok (.iload_n 1, 1) := by decide +kernel
theorem dX7_restore_27 : decode cX7_restore 27 = .ok (.imul, 1) := by decide +kernel
theorem dX7_restore_28 : decode cX7_restore 28 = .ok (.istore_n 2, 1) := by decide +kernel
theorem dX7_restore_29 : decode cX7_restore 29 = .ok (.iconst 0, 1) := by decide +kernel
theorem dX7_restore_30 : decode cX7_restore 30 = .ok (.istore_n 3, 1) := by decide +kernel
theorem dX7_restore_31 : decode cX7_restore 31 = .ok (.iload_n 3, 1) := by decide +kernel
theorem dX7_restore_32 : decode cX7_restore 32 = .ok (.bipush 22, 2) := by decide +kernel
theorem dX7_restore_34 : decode cX7_restore 34 = .ok (.if_icmp .ge 23, 3) := by decide +kernel
theorem dX7_restore_37 : decode cX7_restore 37 = .ok (.aload_n 0, 1) := by decide +kernel
theorem dX7_restore_38 : decode cX7_restore 38 = .ok (.getfield 7, 3) := by decide +kernel
theorem dX7_restore_41 : decode cX7_restore 41 = .ok (.iload_n 3, 1) := by decide +kernel
theorem dX7_restore_42 : decode cX7_restore 42 = .ok (.aload_n 0, 1) := by decide +kernel
theorem dX7_restore_43 : decode cX7_restore 43 = .ok (.getfield 42, 3) := by decide +kernel
theorem dX7_restore_46 : decode cX7_restore 46 = .ok (.iload_n 2, 1) := by decide +kernel
theorem dX7_restore_47 : decode cX7_restore 47 = .ok (.iload_n 3, 1) := by decide +kernel
theorem dX7_restore_48 : decode cX7_restore 48 = .ok (.iadd, 1) := by decide +kernel
theorem dX7_restore_49 : decode cX7_restore 49 = .ok (.iaload, 1) := by decide +kernel
theorem dX7_restore_50 : decode cX7_restore 50 = .ok (.iastore, 1) := by decide +kernel
theorem dX7_restore_51 : decode cX7_restore 51 = .ok (.iinc 3 1, 3) := by decide +kernel
theorem dX7_restore_54 : decode cX7_restore 54 = .ok (.goto (-23), 3) := by decide +kernel
theorem dX7_restore_57 : decode cX7_restore 57 = .ok (.iconst 0, 1) := by decide +kernel
theorem dX7_restore_58 : decode cX7_restore 58 = .ok (.istore_n 3, 1) := by decide +kernel
theorem dX7_restore_59 : decode cX7_restore 59 = .ok (.iload_n 3, 1) := by decide +kernel
theorem dX7_restore_60 : decode cX7_restore 60 = .ok (.bipush 16, 2) := by decide +kernel
theorem dX7_restore_62 : decode cX7_restore 62 = .ok (.if_icmp .ge 26, 3) := by decide +kernel
theorem dX7_restore_65 : decode cX7_restore 65 = .ok (.aload_n 0, 1) := by decide +kernel
theorem dX7_restore_66 : decode cX7_restore 66 = .ok (.getfield 20, 3) := by decide +kernel
theorem dX7_restore_69 : decode cX7_restore 69 = .ok (.iload_n 3, 1) := by decide +kernel
theorem dX7_restore_70 : decode cX7_restore 70 = .ok (.aload_n 0, 1) := by decide +kernel
theorem dX7_restore_71 : decode cX7_restore 71 = .ok (.getfield 42, 3) := by decide +kernel
theorem dX7_restore_74 : decode cX7_restore 74 = .ok (.iload_n 2, 1) := by decide +kernel
theorem dX7_restore_75 : decode cX7_restore 75 = .ok (.bipush 22, 2) := by decide +kernel
theorem dX7_restore_77 : decode cX7_restore 77 = .ok (.iadd, 1) := by decide +kernel
theorem dX7_restore_78 : decode cX7_restore 78 = .ok (.iload_n 3, 1) := by decide +kernel
theorem dX7_restore_79 : decode cX7_restore 79 = .ok (.iadd, 1) := by decide +kernel
theorem dX7_restore_80 : decode cX7_restore 80 = .ok (.iaload, 1) := by decide +kernel
theorem dX7_restore_81 : decode cX7_restore 81 = .ok (.iastore, 1) := by decide +kernel
theorem dX7_restore_82 : decode cX7_restore 82 = .ok (.iinc 3 1, 3) := by decide +kernel
theorem dX7_restore_85 : decode cX7_restore 85 = .ok (.goto (-26), 3) := by decide +kernel
theorem dX7_restore_88 : decode cX7_restore 88 = .ok (.aload_n 0, 1) := by decide +kernel
theorem dX7_restore_89 : decode cX7_restore 89 = .ok (.aload_n 0, 1) := by decide +kernel
theorem dX7_restore_90 : decode cX7_restore 90 = .ok (.getfield 42, 3) := by decide +kernel
theorem dX7_restore_93 : decode cX7_restore 93 = .ok (.iload_n 2, 1) := by decide +kernel
theorem dX7_restore_94 : decode cX7_restore 94 = .ok (.bipush 45, 2) := by decide +kernel
theorem dX7_restore_96 : decode cX7_restore 96 = .ok (.iadd, 1) := by decide +kernel
theorem dX7_restore_97 : decode cX7_restore 97 = .ok (.iaload, 1) := by decide +kernel
theorem dX7_restore_98 : decode cX7_restore 98 = .ok (.putfield 16, 3) := by decide +kernel
theorem dX7_restore_101 : decode cX7_restore 101 = .ok (.aload_n 0, 1) := by decide +kernel
theorem dX7_restore_102 : decode cX7_restore 102 = .ok (.aload_n 0, 1) := by decide +kernel
theorem dX7_restore_103 : decode cX7_restore 103 = .ok (.getfield 42, 3) := by decide +kernel
theorem dX7_restore_106 : decode cX7_restore 106 = .ok (.iload_n 2, 1) := by decide +kernel
theorem dX7_restore_107 : decode cX7_restore 107 = .ok (.bipush 46, 2) := by decide +kernel
theorem dX7_restore_109 : decode cX7_restore 109 = .ok (.iadd, 1) := by decide +kernel
theorem dX7_restore_110 : decode cX7_restore 110 = .ok (.iaload, 1) := by decide +kernel
theorem dX7_restore_111 : decode cX7_restore 111 = .ok (.putfield 131, 3) := by decide +kernel
theorem dX7_restore_114 : decode cX7_restore 114 = .ok (.iconst 1, 1) := by decide +kernel
theorem dX7_restore_115 : decode cX7_restore 115 = .ok (.ireturn, 1) := by decide +kernel
theorem dX7_told_0 : decode cX7_told 0 = .ok (.iload_n 1, 1) := by decide +kernel
theorem dX7_told_1 : decode cX7_told 1 = .ok (.bipush 10, 2) := by decide +kernel
theorem dX7_told_3 : decode cX7_told 3 = .ok (.if_icmp .lt 69, 3) := by decide +kernel
theorem dX7_told_6 : decode cX7_told 6 = .ok (.iload_n 1, 1) := by decide +kernel
theorem dX7_told_7 : decode cX7_told 7 = .ok (.bipush 10, 2) := by decide +kernel
theorem dX7_told_9 : decode cX7_told 9 = .ok (.irem, 1) := by decide +kernel
theorem dX7_told_10 : decode cX7_told 10 = .ok (.istore_n 2, 1) := by decide +kernel
theorem dX7_told_11 : decode cX7_told 11 = .ok (.iload_n 1, 1) := by decide +kernel
theorem dX7_told_12 : decode cX7_told 12 = .ok (.bipush 39, 2) := by decide +kernel
theorem dX7_told_14 : decode cX7_told 14 = .ok (.if_icmp .gt 10, 3) := by decide +kernel
theorem dX7_told_17 : decode cX7_told 17 = .ok (.iload_n 2, 1) := by decide +kernel
theorem dX7_told_18 : decode cX7_told 18 = .ok (.invokestatic 52, 3) := by decide +kernel
theorem dX7_told_21 : decode cX7_told 21 = .ok (.ifCond .ne 8, 3) := by decide +kernel
theorem dX7_told_24 : decode cX7_told 24 = .ok (.bipush (-2), 2) := by decide +kernel
theorem dX7_told_26 : decode cX7_told 26 = .ok (.goto 45, 3) := by decide +kernel
theorem dX7_told_29 : decode cX7_told 29 = .ok (.iload_n 1, 1) := by decide +kernel
theorem dX7_told_30 : decode cX7_told 30 = .ok (.bipush 20, 2) := by decide +kernel
theorem dX7_told_32 : decode cX7_told 32 = .ok (.if_icmp .ge 15, 3) := by decide +kernel
theorem dX7_told_35 : decode cX7_told 35 = .ok (.aload_n 0, 1) := by decide +kernel
theorem dX7_told_36 : decode cX7_told 36 = .ok (.getfield 7, 3) := by decide +kernel
theorem dX7_told_39 : decode cX7_told 39 = .ok (.bipush 12, 2) := by decide +kernel
theorem dX7_told_41 : decode cX7_told 41 = .ok (.iload_n 2, 1) := by decide +kernel
theorem dX7_told_42 : decode cX7_told 42 = .ok (.iadd, 1) := by decide +kernel
theorem dX7_told_43 : decode cX7_told 43 = .ok (.iaload, 1) := by decide +kernel
theorem dX7_told_44 : decode cX7_told 44 = .ok (.goto 27, 3) := by decide +kernel
theorem dX7_told_47 : decode cX7_told 47 = .ok (.iload_n 1, 1) := by decide +kernel
theorem dX7_told_48 : decode cX7_told 48 = .ok (.bipush 30, 2) := by decide +kernel
theorem dX7_told_50 : decode cX7_told 50 = .ok (.if_icmp .ge 12, 3) := by decide +kernel
theorem dX7_told_53 : decode cX7_told 53 = .ok (.aload_n 0, 1) := by decide +kernel
theorem dX7_told_54 : decode cX7_told 54 = .ok (.getfield 7, 3) := by decide +kernel
theorem dX7_told_57 : decode cX7_told 57 = .ok (.iload_n 2, 1) := by decide +kernel
theorem dX7_told_58 : decode cX7_told 58 = .ok (.iaload, 1) := by decide +kernel
theorem dX7_told_59 : decode cX7_told 59 = .ok (.goto 12, 3) := by decide +kernel
theorem dX7_told_62 : decode cX7_told 62 = .ok (.aload_n 0, 1) := by decide +kernel
theorem dX7_told_63 : decode cX7_told 63 = .ok (.getfield 7, 3) := by decide +kernel
theorem dX7_told_66 : decode cX7_told 66 = .ok (.bipush 6, 2) := by decide +kernel
theorem dX7_told_68 : decode cX7_told 68 = .ok (.iload_n 2, 1) := by decide +kernel
theorem dX7_told_69 : decode cX7_told 69 = .ok (.iadd, 1) := by decide +kernel
theorem dX7_told_70 : decode cX7_told 70 = .ok (.iaload, 1) := by decide +kernel
theorem dX7_told_71 : decode cX7_told 71 = .ok (.ireturn, 1) := by decide +kernel
theorem dX7_told_72 : decode cX7_told 72 = .ok (.iload_n 1, 1) := by decide +kernel
theorem dX7_told_73 : decode cX7_told 73 = .ok (.tableswitch 81 0 5 #[39, 44, 49, 57, 65, 73], 39) := by decide +kernel
theorem dX7_told_112 : decode cX7_told 112 = .ok (.aload_n 0, 1) := by decide +kernel
theorem dX7_told_113 : decode cX7_told 113 = .ok (.getfield 60, 3) := by decide +kernel
theorem dX7_told_116 : decode cX7_told 116 = .ok (.ireturn, 1) := by decide +kernel
theorem dX7_told_117 : decode cX7_told 117 = .ok (.aload_n 0, 1) := by decide +kernel
theorem dX7_told_118 : decode cX7_told 118 = .ok (.getfield 16, 3) := by decide +kernel
theorem dX7_told_121 : decode cX7_told 121 = .ok (.ireturn, 1) := by decide +kernel
theorem dX7_told_122 : decode cX7_told 122 = .ok (.aload_n 0, 1) := by decide +kernel
theorem dX7_told_123 : decode cX7_told 123 = .ok (.getfield 7, 3) := by decide +kernel
theorem dX7_told_126 : decode cX7_told 126 = .ok (.bipush 19, 2) := by decide +kernel
theorem dX7_told_128 : decode cX7_told 128 = .ok (.iaload, 1) := by decide +kernel
theorem dX7_told_129 : decode cX7_told 129 = .ok (.ireturn, 1) := by decide +kernel
theorem dX7_told_130 : decode cX7_told 130 = .ok (.aload_n 0, 1) := by decide +kernel
theorem dX7_told_131 : decode cX7_told 131 = .ok (.getfield 7, 3) := by decide +kernel
theorem dX7_told_134 : decode cX7_told 134 = .ok (.bipush 20, 2) := by decide +kernel
theorem dX7_told_136 : decode cX7_told 136 = .ok (.iaload, 1) := by decide +kernel
theorem dX7_told_137 : decode cX7_told 137 = .ok (.ireturn, 1) := by decide +kernel
theorem dX7_told_138 : decode cX7_told 138 = .ok (.aload_n 0, 1) := by decide +kernel
theorem dX7_told_139 : decode cX7_told 139 = .ok (.getfield 7, 3) := by decide +kernel
theorem dX7_told_142 : decode cX7_told 142 = .ok (.bipush 18, 2) := by decide +kernel
theorem dX7_told_144 : decode cX7_told 144 = .ok (.iaload, 1) := by decide +kernel
theorem dX7_told_145 : decode cX7_told 145 = .ok (.ireturn, 1) := by decide +kernel
theorem dX7_told_146 : decode cX7_told 146 = .ok (.aload_n 0, 1) := by decide +kernel
theorem dX7_told_147 : decode cX7_told 147 = .ok (.getfield 7, 3) := by decide +kernel
theorem dX7_told_150 : decode cX7_told 150 = .ok (.bipush 21, 2) := by decide +kernel
theorem dX7_told_152 : decode cX7_told 152 = .ok (.iaload, 1) := by decide +kernel
theorem dX7_told_153 : decode cX7_told 153 = .ok (.ireturn, 1) := by decide +kernel
theorem dX7_told_154 : decode cX7_told 154 = .ok (.iload_n 1, 1) := by decide +kernel
theorem dX7_told_155 : decode cX7_told 155 = .ok (.bipush 6, 2) := by decide +kernel
theorem dX7_told_157 : decode cX7_told 157 = .ok (.if_icmp .ne 10, 3) := by decide +kernel
theorem dX7_told_160 : decode cX7_told 160 = .ok (.aload_n 0, 1) := by decide +kernel
theorem dX7_told_161 : decode cX7_told 161 = .ok (.getfield 131, 3) := by decide +kernel
theorem dX7_told_164 : decode cX7_told 164 = .ok (.goto 5, 3) := by decide +kernel
theorem dX7_told_167 : decode cX7_told 167 = .ok (.bipush (-2), 2) := by decide +kernel
theorem dX7_told_169 : decode cX7_told 169 = .ok (.ireturn, 1) := by decide +kernel
theorem dL_law_0 : decode cL_law 0 = .ok (.new 7, 3) := by decide +kernel
theorem dL_law_3 : decode cL_law 3 = .ok (.dup, 1) := by decide +kernel
theorem dL_law_4 : decode cL_law 4 = .ok (.invokespecial 9, 3) := by decide +kernel
theorem dL_law_7 : decode cL_law 7 = .ok (.astore_n 1, 1) := by decide +kernel
theorem dL_law_8 : decode cL_law 8 = .ok (.new 10, 3) := by decide +kernel
theorem dL_law_11 : decode cL_law 11 = .ok (.dup, 1) := by decide +kernel
theorem dL_law_12 : decode cL_law 12 = .ok (.invokespecial 12, 3) := by decide +kernel
theorem dL_law_15 : decode cL_law 15 = .ok (.astore_n 2, 1) := by decide +kernel
theorem dL_law_16 : decode cL_law 16 = .ok (.iconst 0, 1) := by decide +kernel
theorem dL_law_17 : decode cL_law 17 = .ok (.istore_n 3, 1) := by decide +kernel
theorem dL_law_18 : decode cL_law 18 = .ok (.iload_n 3, 1) := by decide +kernel
theorem dL_law_19 : decode cL_law 19 = .ok (.aload_n 0, 1) := by decide +kernel
theorem dL_law_20 : decode cL_law 20 = .ok (.arraylength, 1) := by decide +kernel
theorem dL_law_21 : decode cL_law 21 = .ok (.bipush 7, 2) := by decide +kernel
theorem dL_law_23 : decode cL_law 23 = .ok (.isub, 1) := by decide +kernel
theorem dL_law_24 : decode cL_law 24 = .ok (.if_icmp .gt 854, 3) := by decide +kernel
theorem dL_law_27 : decode cL_law 27 = .ok (.aload_n 0, 1) := by decide +kernel
theorem dL_law_28 : decode cL_law 28 = .ok (.iload_n 3, 1) := by decide +kernel
theorem dL_law_29 : decode cL_law 29 = .ok (.iaload, 1) := by decide +kernel
theorem dL_law_30 : decode cL_law 30 = .ok (.bipush 31, 2) := by decide +kernel
theorem dL_law_32 : decode cL_law 32 = .ok (.iand, 1) := by decide +kernel
theorem dL_law_33 : decode cL_law 33 = .ok (.tableswitch 839 0 22 #[107, 160, 183, 206, 219, 232, 255, 268, 301, 324, 347, 390, 473, 548, 581, 594, 617, 640, 673, 727, 770, 793, 816], 107) := by decide +kernel
theorem dL_law_140 : decode cL_law 140 = .ok (.aload_n 1, 1) := by decide +kernel
theorem dL_law_141 : decode cL_law 141 = .ok (.aload_n 0, 1) := by decide +kernel
theorem dL_law_142 : decode cL_law 142 = .ok (.iload_n 3, 1) := by decide +kernel
theorem dL_law_143 : decode cL_law 143 = .ok (.iconst 1, 1) := by decide +kernel
theorem dL_law_144 : decode cL_law 144 = .ok (.iadd, 1) := by decide +kernel
theorem dL_law_145 : decode cL_law 145 = .ok (.iaload, 1) := by decide +kernel
theorem dL_law_146 : decode cL_law 146 = .ok (.aload_n 0, 1) := by decide +kernel
theorem dL_law_147 : decode cL_law 147 = .ok (.iload_n 3, 1) := by decide +kernel
theorem dL_law_148 : decode cL_law 148 = .ok (.iconst 2, 1) := by decide +kernel
theorem dL_law_149 : decode cL_law 149 = .ok (.iadd, 1) := by decide +kernel
theorem dL_law_150 : decode cL_law 150 = .ok (.iaload, 1) := by decide +kernel
theorem dL_law_151 : decode cL_law 151 = .ok (.aload_n 0, 1) := by decide +kernel
theorem dL_law_152 : decode cL_law 152 = .ok (.iload_n 3, 1) := by decide +kernel
theorem dL_law_153 : decode cL_law 153 = .ok (.iconst 3, 1) := by decide +kernel
theorem dL_law_154 : decode cL_law 154 = .ok (.iadd, 1) := by decide +kernel
theorem dL_law_155 : decode cL_law 155 = .ok (.iaload, 1) := by decide +kernel
theorem dL_law_156 : decode cL_law 156 = .ok (.aload_n 0, 1) := by decide +kernel
theorem dL_law_157 : decode cL_law 157 = .ok (.iload_n 3, 1) := by decide +kernel
theorem dL_law_158 : decode cL_law 158 = .ok (.iconst 4, 1) := by decide +kernel
theorem dL_law_159 : decode cL_law 159 = .ok (.iadd, 1) := by decide +kernel
theorem dL_law_160 : decode cL_law 160 = .ok (.iaload, 1) := by decide +kernel
theorem dL_law_161 : decode cL_law 161 = .ok (.invokevirtual 13, 3) := by decide +kernel
theorem dL_law_164 : decode cL_law 164 = .ok (.aload_n 2, 1) := by decide +kernel
theorem dL_law_165 : decode cL_law 165 = .ok (.aload_n 0, 1) := by decide +kernel
theorem dL_law_166 : decode cL_law 166 = .ok (.iload_n 3, 1) := by decide +kernel
theorem dL_law_167 : decode cL_law 167 = .ok (.iconst 1, 1) := by decide +kernel
theorem dL_law_168 : decode cL_law 168 = .ok (.iadd, 1) := by decide +kernel
theorem dL_law_169 : decode cL_law 169 = .ok (.iaload, 1) := by decide +kernel
theorem dL_law_170 : decode cL_law 170 = .ok (.aload_n 0, 1) := by decide +kernel
theorem dL_law_171 : decode cL_law 171 = .ok (.iload_n 3, 1) := by decide +kernel
theorem dL_law_172 : decode cL_law 172 = .ok (.iconst 2, 1) := by decide +kernel
theorem dL_law_173 : decode cL_law 173 = .ok (.iadd, 1) := by decide +kernel
theorem dL_law_174 : decode cL_law 174 = .ok (.iaload, 1) := by decide +kernel
theorem dL_law_175 : decode cL_law 175 = .ok (.aload_n 0, 1) := by decide +kernel
theorem dL_law_176 : decode cL_law 176 = .ok (.iload_n 3, 1) := by decide +kernel
theorem dL_law_177 : decode cL_law 177 = .ok (.iconst 3, 1) := by decide +kernel
theorem dL_law_178 : decode cL_law 178 = .ok (.iadd, 1) := by decide +kernel
theorem dL_law_179 : decode cL_law 179 = .ok (.iaload, 1) := by decide +kernel
theorem dL_law_180 : decode cL_law 180 = .ok (.aload_n 0, 1) := by decide +kernel
theorem dL_law_181 : decode cL_law 181 = .ok (.iload_n 3, 1) := by decide +kernel
theorem dL_law_182 : decode cL_law 182 = .ok (.iconst 4, 1) := by decide +kernel
theorem dL_law_183 : decode cL_law 183 = .ok (.iadd, 1) := by decide +kernel
theorem dL_law_184 : decode cL_law 184 = .ok (.iaload, 1) := by decide +kernel
theorem dL_law_185 : decode cL_law 185 = .ok (.invokevirtual 17, 3) := by decide +kernel
theorem dL_law_188 : decode cL_law 188 = .ok (.if_icmp .eq 684, 3) := by decide +kernel
theorem dL_law_191 : decode cL_law 191 = .ok (.iconst 0, 1) := by decide +kernel
theorem dL_law_192 : decode cL_law 192 = .ok (.ireturn, 1) := by decide +kernel
theorem dL_law_193 : decode cL_law 193 = .ok (.aload_n 1, 1) := by decide +kernel
theorem dL_law_194 : decode cL_law 194 = .ok (.aload_n 0, 1) := by decide +kernel
theorem dL_law_195 : decode cL_law 195 = .ok (.iload_n 3, 1) := by decide +kernel
theorem dL_law_196 : decode cL_law 196 = .ok (.iconst 1, 1) := by decide +kernel
theorem dL_law_197 : decode cL_law 197 = .ok (.iadd, 1) := by decide +kernel
theorem dL_law_198 : decode cL_law 198 = .ok (.iaload, 1) := by decide +kernel
theorem dL_law_199 : decode cL_law 199 = .ok (.invokevirtual 18, 3) := by decide +kernel
theorem dL_law_202 : decode cL_law 202 = .ok (.aload_n 2, 1) := by decide +kernel
theorem dL_law_203 : decode cL_law 203 = .ok (.aload_n 0, 1) := by decide +kernel
theorem dL_law_204 : decode cL_law 204 = .ok (.iload_n 3, 1) := by decide +kernel
theorem dL_law_205 : decode cL_law 205 = .ok (.iconst 1, 1) := by decide +kernel
theorem dL_law_206 : decode cL_law 206 = .ok (.iadd, 1) := by decide +kernel
theorem dL_law_207 : decode cL_law 207 = .ok (.iaload, 1) := by decide +kernel
theorem dL_law_208 : decode cL_law 208 = .ok (.invokevirtual 22, 3) := by decide +kernel
theorem dL_law_211 : decode cL_law 211 = .ok (.if_icmp .eq 661, 3) := by decide +kernel
theorem dL_law_214 : decode cL_law 214 = .ok (.iconst 0, 1) := by decide +kernel
theorem dL_law_215 : decode cL_law 215 = .ok (.ireturn, 1) := by decide +kernel
theorem dL_law_216 : decode cL_law 216 = .ok (.aload_n 1, 1) := by decide +kernel
theorem dL_law_217 : decode cL_law 217 = .ok (.aload_n 0, 1) := by decide +kernel
theorem dL_law_218 : decode cL_law 218 = .ok (.iload_n 3, 1) := by decide +kernel
theorem dL_law_219 : decode cL_law 219 = .ok (.iconst 1, 1) := by decide +kernel
theorem dL_law_220 : decode cL_law 220 = .ok (.iadd, 1) := by decide +kernel
theorem dL_law_221 : decode cL_law 221 = .ok (.iaload, 1) := by decide +kernel
theorem dL_law_222 : decode cL_law 222 = .ok (.invokevirtual 23, 3) := by decide +kernel
theorem dL_law_225 : decode cL_law 225 = .ok (.aload_n 2, 1) := by decide +kernel
theorem dL_law_226 : decode cL_law 226 = .ok (.aload_n 0, 1) := by decide +kernel
theorem dL_law_227 : decode cL_law 227 = .ok (.iload_n 3, 1) := by decide +kernel
theorem dL_law_228 : decode cL_law 228 = .ok (.iconst 1, 1) := by decide +kernel
theorem dL_law_229 : decode cL_law 229 = .ok (.iadd, 1) := by decide +kernel
theorem dL_law_230 : decode cL_law 230 = .ok (.iaload, 1) := by decide +kernel
theorem dL_law_231 : decode cL_law 231 = .ok (.invokevirtual 26, 3) := by decide +kernel
theorem dL_law_234 : decode cL_law 234 = .ok (.if_icmp .eq 638, 3) := by decide +kernel
theorem dL_law_237 : decode cL_law 237 = .ok (.iconst 0, 1) := by decide +kernel
theorem dL_law_238 : decode cL_law 238 = .ok (.ireturn, 1) := by decide +kernel
theorem dL_law_239 : decode cL_law 239 = .ok (.aload_n 1, 1) := by decide +kernel
theorem dL_law_240 : decode cL_law 240 = .ok (.invokevirtual 27, 3) := by decide +kernel
theorem dL_law_243 : decode cL_law 243 = .ok (.aload_n 2, 1) := by decide +kernel
theorem dL_law_244 : decode cL_law 244 = .ok (.invokevirtual 31, 3) := by decide +kernel
theorem dL_law_247 : decode cL_law 247 = .ok (.if_icmp .eq 625, 3) := by decide +kernel
theorem dL_law_250 : decode cL_law 250 = .ok (.iconst 0, 1) := by decide +kernel
theorem dL_law_251 : decode cL_law 251 = .ok (.ireturn, 1) := by decide +kernel
theorem dL_law_252 : decode cL_law 252 = .ok (.aload_n 1, 1) := by decide +kernel
theorem dL_law_253 : decode cL_law 253 = .ok (.invokevirtual 32, 3) := by decide +kernel
theorem dL_law_256 : decode cL_law 256 = .ok (.aload_n 2, 1) := by decide +kernel
theorem dL_law_257 : decode cL_law 257 = .ok (.invokevirtual 35, 3) := by decide +kernel
theorem dL_law_260 : decode cL_law 260 = .ok (.if_icmp .eq 612, 3) := by decide +kernel
theorem dL_law_263 : decode cL_law 263 = .ok (.iconst 0, 1) := by decide +kernel
theorem dL_law_264 : decode cL_law 264 = .ok (.ireturn, 1) := by decide +kernel
theorem dL_law_265 : decode cL_law 265 = .ok (.aload_n 1, 1) := by decide +kernel
theorem dL_law_266 : decode cL_law 266 = .ok (.aload_n 0, 1) := by decide +kernel
theorem dL_law_267 : decode cL_law 267 = .ok (.iload_n 3, 1) := by decide +kernel
theorem dL_law_268 : decode cL_law 268 = .ok (.iconst 1, 1) := by decide +kernel
theorem dL_law_269 : decode cL_law 269 = .ok (.iadd, 1) := by decide +kernel
theorem dL_law_270 : decode cL_law 270 = .ok (.iaload, 1) := by decide +kernel
theorem dL_law_271 : decode cL_law 271 = .ok (.invokevirtual 36, 3) := by decide +kernel
theorem dL_law_274 : decode cL_law 274 = .ok (.aload_n 2, 1) := by decide +kernel
theorem dL_law_275 : decode cL_law 275 = .ok (.aload_n 0, 1) := by decide +kernel
theorem dL_law_276 : decode cL_law 276 = .ok (.iload_n 3, 1) := by decide +kernel
theorem dL_law_277 : decode cL_law 277 = .ok (.iconst 1, 1) := by decide +kernel
theorem dL_law_278 : decode cL_law 278 = .ok (.iadd, 1) := by decide +kernel
theorem dL_law_279 : decode cL_law 279 = .ok (.iaload, 1) := by decide +kernel
theorem dL_law_280 : decode cL_law 280 = .ok (.invokevirtual 39, 3) := by decide +kernel
theorem dL_law_283 : decode cL_law 283 = .ok (.if_icmp .eq 589, 3) := by decide +kernel
theorem dL_law_286 : decode cL_law 286 = .ok (.iconst 0, 1) := by decide +kernel
theorem dL_law_287 : decode cL_law 287 = .ok (.ireturn, 1) := by decide +kernel
theorem dL_law_288 : decode cL_law 288 = .ok (.aload_n 1, 1) := by decide +kernel
theorem dL_law_289 : decode cL_law 289 = .ok (.invokevirtual 40, 3) := by decide +kernel
theorem dL_law_292 : decode cL_law 292 = .ok (.aload_n 2, 1) := by decide +kernel
theorem dL_law_293 : decode cL_law 293 = .ok (.invokevirtual 43, 3) := by decide +kernel
theorem dL_law_296 : decode cL_law 296 = .ok (.if_icmp .eq 576, 3) := by decide +kernel
theorem dL_law_299 : decode cL_law 299 = .ok (.iconst 0, 1) := by decide +kernel
theorem dL_law_300 : decode cL_law 300 = .ok (.ireturn, 1) := by decide +kernel
theorem dL_law_301 : decode cL_law 301 = .ok (.aload_n 1, 1) := by decide +kernel
theorem dL_law_302 : decode cL_law 302 = .ok (.aload_n 0, 1) := by decide +kernel
theorem dL_law_303 : decode cL_law 303 = .ok (.iload_n 3, 1) := by decide +kernel
theorem dL_law_304 : decode cL_law 304 = .ok (.iconst 1, 1) := by decide +kernel
theorem dL_law_305 : decode cL_law 305 = .ok (.iadd, 1) := by decide +kernel
theorem dL_law_306 : decode cL_law 306 = .ok (.iaload, 1) := by decide +kernel
theorem dL_law_307 : decode cL_law 307 = .ok (.aload_n 0, 1) := by decide +kernel
theorem dL_law_308 : decode cL_law 308 = .ok (.iload_n 3, 1) := by decide +kernel
theorem dL_law_309 : decode cL_law 309 = .ok (.iconst 2, 1) := by decide +kernel
theorem dL_law_310 : decode cL_law 310 = .ok (.iadd, 1) := by decide +kernel
theorem dL_law_311 : decode cL_law 311 = .ok (.iaload, 1) := by decide +kernel
theorem dL_law_312 : decode cL_law 312 = .ok (.invokevirtual 44, 3) := by decide +kernel
theorem dL_law_315 : decode cL_law 315 = .ok (.aload_n 2, 1) := by decide +kernel
theorem dL_law_316 : decode cL_law 316 = .ok (.aload_n 0, 1) := by decide +kernel
theorem dL_law_317 : decode cL_law 317 = .ok (.iload_n 3, 1) := by decide +kernel
theorem dL_law_318 : decode cL_law 318 = .ok (.iconst 1, 1) := by decide +kernel
theorem dL_law_319 : decode cL_law 319 = .ok (.iadd, 1) := by decide +kernel
theorem dL_law_320 : decode cL_law 320 = .ok (.iaload, 1) := by decide +kernel
theorem dL_law_321 : decode cL_law 321 = .ok (.aload_n 0, 1) := by decide +kernel
theorem dL_law_322 : decode cL_law 322 = .ok (.iload_n 3, 1) := by decide +kernel
theorem dL_law_323 : decode cL_law 323 = .ok (.iconst 2, 1) := by decide +kernel
theorem dL_law_324 : decode cL_law 324 = .ok (.iadd, 1) := by decide +kernel
theorem dL_law_325 : decode cL_law 325 = .ok (.iaload, 1) := by decide +kernel
theorem dL_law_326 : decode cL_law 326 = .ok (.invokevirtual 48, 3) := by decide +kernel
theorem dL_law_329 : decode cL_law 329 = .ok (.if_icmp .eq 543, 3) := by decide +kernel
theorem dL_law_332 : decode cL_law 332 = .ok (.iconst 0, 1) := by decide +kernel
theorem dL_law_333 : decode cL_law 333 = .ok (.ireturn, 1) := by decide +kernel
theorem dL_law_334 : decode cL_law 334 = .ok (.aload_n 1, 1) := by decide +kernel
theorem dL_law_335 : decode cL_law 335 = .ok (.aload_n 0, 1) := by decide +kernel
theorem dL_law_336 : decode cL_law 336 = .ok (.iload_n 3, 1) := by decide +kernel
theorem dL_law_337 : decode cL_law 337 = .ok (.iconst 1, 1) := by decide +kernel
theorem dL_law_338 : decode cL_law 338 = .ok (.iadd, 1) := by decide +kernel
theorem dL_law_339 : decode cL_law 339 = .ok (.iaload, 1) := by decide +kernel
theorem dL_law_340 : decode cL_law 340 = .ok (.invokevirtual 49, 3) := by decide +kernel
theorem dL_law_343 : decode cL_law 343 = .ok (.aload_n 2, 1) := by decide +kernel
theorem dL_law_344 : decode cL_law 344 = .ok (.aload_n 0, 1) := by decide +kernel
theorem dL_law_345 : decode cL_law 345 = .ok (.iload_n 3, 1) := by decide +kernel
theorem dL_law_346 : decode cL_law 346 = .ok (.iconst 1, 1) := by decide +kernel
theorem dL_law_347 : decode cL_law 347 = .ok (.iadd, 1) := by decide +kernel
theorem dL_law_348 : decode cL_law 348 = .ok (.iaload, 1) := by decide +kernel
theorem dL_law_349 : decode cL_law 349 = .ok (.invokevirtual 52, 3) := by decide +kernel
theorem dL_law_352 : decode cL_law 352 = .ok (.if_icmp .eq 520, 3) := by decide +kernel
theorem dL_law_355 : decode cL_law 355 = .ok (.iconst 0, 1) := by decide +kernel
theorem dL_law_356 : decode cL_law 356 = .ok (.ireturn, 1) := by decide +kernel
theorem dL_law_357 : decode cL_law 357 = .ok (.aload_n 1, 1) := by decide +kernel
theorem dL_law_358 : decode cL_law 358 = .ok (.aload_n 0, 1) := by decide +kernel
theorem dL_law_359 : decode cL_law 359 = .ok (.iload_n 3, 1) := by decide +kernel
theorem dL_law_360 : decode cL_law 360 = .ok (.iconst 1, 1) := by decide +kernel
theorem dL_law_361 : decode cL_law 361 = .ok (.iadd, 1) := by decide +kernel
theorem dL_law_362 : decode cL_law 362 = .ok (.iaload, 1) := by decide +kernel
theorem dL_law_363 : decode cL_law 363 = .ok (.invokevirtual 53, 3) := by decide +kernel
theorem dL_law_366 : decode cL_law 366 = .ok (.aload_n 2, 1) := by decide +kernel
theorem dL_law_367 : decode cL_law 367 = .ok (.aload_n 0, 1) := by decide +kernel
theorem dL_law_368 : decode cL_law 368 = .ok (.iload_n 3, 1) := by decide +kernel
theorem dL_law_369 : decode cL_law 369 = .ok (.iconst 1, 1) := by decide +kernel
theorem dL_law_370 : decode cL_law 370 = .ok (.iadd, 1) := by decide +kernel
theorem dL_law_371 : decode cL_law 371 = .ok (.iaload, 1) := by decide +kernel
theorem dL_law_372 : decode cL_law 372 = .ok (.invokevirtual 56, 3) := by decide +kernel
theorem dL_law_375 : decode cL_law 375 = .ok (.if_icmp .eq 497, 3) := by decide +kernel
theorem dL_law_378 : decode cL_law 378 = .ok (.iconst 0, 1) := by decide +kernel
theorem dL_law_379 : decode cL_law 379 = .ok (.ireturn, 1) := by decide +kernel
theorem dL_law_380 : decode cL_law 380 = .ok (.aload_n 1, 1) := by decide +kernel
theorem dL_law_381 : decode cL_law 381 = .ok (.aload_n 0, 1) := by decide +kernel
theorem dL_law_382 : decode cL_law 382 = .ok (.iload_n 3, 1) := by decide +kernel
theorem dL_law_383 : decode cL_law 383 = .ok (.iconst 1, 1) := by decide +kernel
theorem dL_law_384 : decode cL_law 384 = .ok (.iadd, 1) := by decide +kernel
theorem dL_law_385 : decode cL_law 385 = .ok (.iaload, 1) := by decide +kernel
theorem dL_law_386 : decode cL_law 386 = .ok (.aload_n 0, 1) := by decide +kernel
theorem dL_law_387 : decode cL_law 387 = .ok (.iload_n 3, 1) := by decide +kernel
theorem dL_law_388 : decode cL_law 388 = .ok (.iconst 2, 1) := by decide +kernel
theorem dL_law_389 : decode cL_law 389 = .ok (.iadd, 1) := by decide +kernel
theorem dL_law_390 : decode cL_law 390 = .ok (.iaload, 1) := by decide +kernel
theorem dL_law_391 : decode cL_law 391 = .ok (.aload_n 0, 1) := by decide +kernel
theorem dL_law_392 : decode cL_law 392 = .ok (.iload_n 3, 1) := by decide +kernel
theorem dL_law_393 : decode cL_law 393 = .ok (.iconst 3, 1) := by decide +kernel
theorem dL_law_394 : decode cL_law 394 = .ok (.iadd, 1) := by decide +kernel
theorem dL_law_395 : decode cL_law 395 = .ok (.iaload, 1) := by decide +kernel
theorem dL_law_396 : decode cL_law 396 = .ok (.invokevirtual 57, 3) := by decide +kernel
theorem dL_law_399 : decode cL_law 399 = .ok (.aload_n 2, 1) := by decide +kernel
theorem dL_law_400 : decode cL_law 400 = .ok (.aload_n 0, 1) := by decide +kernel
theorem dL_law_401 : decode cL_law 401 = .ok (.iload_n 3, 1) := by decide +kernel
theorem dL_law_402 : decode cL_law 402 = .ok (.iconst 1, 1) := by decide +kernel
theorem dL_law_403 : decode cL_law 403 = .ok (.iadd, 1) := by decide +kernel
theorem dL_law_404 : decode cL_law 404 = .ok (.iaload, 1) := by decide +kernel
theorem dL_law_405 : decode cL_law 405 = .ok (.aload_n 0, 1) := by decide +kernel
theorem dL_law_406 : decode cL_law 406 = .ok (.iload_n 3, 1) := by decide +kernel
theorem dL_law_407 : decode cL_law 407 = .ok (.iconst 2, 1) := by decide +kernel
theorem dL_law_408 : decode cL_law 408 = .ok (.iadd, 1) := by decide +kernel
theorem dL_law_409 : decode cL_law 409 = .ok (.iaload, 1) := by decide +kernel
theorem dL_law_410 : decode cL_law 410 = .ok (.aload_n 0, 1) := by decide +kernel
theorem dL_law_411 : decode cL_law 411 = .ok (.iload_n 3, 1) := by decide +kernel
theorem dL_law_412 : decode cL_law 412 = .ok (.iconst 3, 1) := by decide +kernel
theorem dL_law_413 : decode cL_law 413 = .ok (.iadd, 1) := by decide +kernel
theorem dL_law_414 : decode cL_law 414 = .ok (.iaload, 1) := by decide +kernel
theorem dL_law_415 : decode cL_law 415 = .ok (.invokevirtual 61, 3) := by decide +kernel
theorem dL_law_418 : decode cL_law 418 = .ok (.if_icmp .eq 454, 3) := by decide +kernel
theorem dL_law_421 : decode cL_law 421 = .ok (.iconst 0, 1) := by decide +kernel
theorem dL_law_422 : decode cL_law 422 = .ok (.ireturn, 1) := by decide +kernel
theorem dL_law_423 : decode cL_law 423 = .ok (.aload_n 1, 1) := by decide +kernel
theorem dL_law_424 : decode cL_law 424 = .ok (.aload_n 0, 1) := by decide +kernel
theorem dL_law_425 : decode cL_law 425 = .ok (.iload_n 3, 1) := by decide +kernel
theorem dL_law_426 : decode cL_law 426 = .ok (.iconst 1, 1) := by decide +kernel
theorem dL_law_427 : decode cL_law 427 = .ok (.iadd, 1) := by decide +kernel
theorem dL_law_428 : decode cL_law 428 = .ok (.iaload, 1) := by decide +kernel
theorem dL_law_429 : decode cL_law 429 = .ok (.aload_n 0, 1) := by decide +kernel
theorem dL_law_430 : decode cL_law 430 = .ok (.iload_n 3, 1) := by decide +kernel
theorem dL_law_431 : decode cL_law 431 = .ok (.iconst 2, 1) := by decide +kernel
theorem dL_law_432 : decode cL_law 432 = .ok (.iadd, 1) := by decide +kernel
theorem dL_law_433 : decode cL_law 433 = .ok (.iaload, 1) := by decide +kernel
theorem dL_law_434 : decode cL_law 434 = .ok (.i2l, 1) := by decide +kernel
theorem dL_law_435 : decode cL_law 435 = .ok (.bipush 32, 2) := by decide +kernel
theorem dL_law_437 : decode cL_law 437 = .ok (.lshl, 1) := by decide +kernel
theorem dL_law_438 : decode cL_law 438 = .ok (.aload_n 0, 1) := by decide +kernel
theorem dL_law_439 : decode cL_law 439 = .ok (.iload_n 3, 1) := by decide +kernel
theorem dL_law_440 : decode cL_law 440 = .ok (.iconst 3, 1) := by decide +kernel
theorem dL_law_441 : decode cL_law 441 = .ok (.iadd, 1) := by decide +kernel
theorem dL_law_442 : decode cL_law 442 = .ok (.iaload, 1) := by decide +kernel
theorem dL_law_443 : decode cL_law 443 = .ok (.i2l, 1) := by decide +kernel
theorem dL_law_444 : decode cL_law 444 = .ok (.ldc2_w 62, 3) := by decide +kernel
theorem dL_law_447 : decode cL_law 447 = .ok (.land, 1) := by decide +kernel
theorem dL_law_448 : decode cL_law 448 = .ok (.lor, 1) := by decide +kernel
theorem dL_law_449 : decode cL_law 449 = .ok (.aload_n 0, 1) := by decide +kernel
theorem dL_law_450 : decode cL_law 450 = .ok (.iload_n 3, 1) := by decide +kernel
theorem dL_law_451 : decode cL_law 451 = .ok (.iconst 4, 1) := by decide +kernel
theorem dL_law_452 : decode cL_law 452 = .ok (.iadd, 1) := by decide +kernel
theorem dL_law_453 : decode cL_law 453 = .ok (.iaload, 1) := by decide +kernel
theorem dL_law_454 : decode cL_law 454 = .ok (.aload_n 0, 1) := by decide +kernel
theorem dL_law_455 : decode cL_law 455 = .ok (.iload_n 3, 1) := by decide +kernel
theorem dL_law_456 : decode cL_law 456 = .ok (.iconst 5, 1) := by decide +kernel
theorem dL_law_457 : decode cL_law 457 = .ok (.iadd, 1) := by decide +kernel
theorem dL_law_458 : decode cL_law 458 = .ok (.iaload, 1) := by decide +kernel
theorem dL_law_459 : decode cL_law 459 = .ok (.invokevirtual 64, 3) := by decide +kernel
theorem dL_law_462 : decode cL_law 462 = .ok (.aload_n 2, 1) := by decide +kernel
theorem dL_law_463 : decode cL_law 463 = .ok (.aload_n 0, 1) := by decide +kernel
theorem dL_law_464 : decode cL_law 464 = .ok (.iload_n 3, 1) := by decide +kernel
theorem dL_law_465 : decode cL_law 465 = .ok (.iconst 1, 1) := by decide +kernel
theorem dL_law_466 : decode cL_law 466 = .ok (.iadd, 1) := by decide +kernel
theorem dL_law_467 : decode cL_law 467 = .ok (.iaload, 1) := by decide +kernel
theorem dL_law_468 : decode cL_law 468 = .ok (.aload_n 0, 1) := by decide +kernel
theorem dL_law_469 : decode cL_law 469 = .ok (.iload_n 3, 1) := by decide +kernel
theorem dL_law_470 : decode cL_law 470 = .ok (.iconst 2, 1) := by decide +kernel
theorem dL_law_471 : decode cL_law 471 = .ok (.iadd, 1) := by decide +kernel
theorem dL_law_472 : decode cL_law 472 = .ok (.iaload, 1) := by decide +kernel
theorem dL_law_473 : decode cL_law 473 = .ok (.i2l, 1) := by decide +kernel
theorem dL_law_474 : decode cL_law 474 = .ok (.bipush 32, 2) := by decide +kernel
theorem dL_law_476 : decode cL_law 476 = .ok (.lshl, 1) := by decide +kernel
theorem dL_law_477 : decode cL_law 477 = .ok (.aload_n 0, 1) := by decide +kernel
theorem dL_law_478 : decode cL_law 478 = .ok (.iload_n 3, 1) := by decide +kernel
theorem dL_law_479 : decode cL_law 479 = .ok (.iconst 3, 1) := by decide +kernel
theorem dL_law_480 : decode cL_law 480 = .ok (.iadd, 1) := by decide +kernel
theorem dL_law_481 : decode cL_law 481 = .ok (.iaload, 1) := by decide +kernel
theorem dL_law_482 : decode cL_law 482 = .ok (.i2l, 1) := by decide +kernel
theorem dL_law_483 : decode cL_law 483 = .ok (.ldc2_w 62, 3) := by decide +kernel
theorem dL_law_486 : decode cL_law 486 = .ok (.land, 1) := by decide +kernel
theorem dL_law_487 : decode cL_law 487 = .ok (.lor, 1) := by decide +kernel
theorem dL_law_488 : decode cL_law 488 = .ok (.aload_n 0, 1) := by decide +kernel
theorem dL_law_489 : decode cL_law 489 = .ok (.iload_n 3, 1) := by decide +kernel
theorem dL_law_490 : decode cL_law 490 = .ok (.iconst 4, 1) := by decide +kernel
theorem dL_law_491 : decode cL_law 491 = .ok (.iadd, 1) := by decide +kernel
theorem dL_law_492 : decode cL_law 492 = .ok (.iaload, 1) := by decide +kernel
theorem dL_law_493 : decode cL_law 493 = .ok (.aload_n 0, 1) := by decide +kernel
theorem dL_law_494 : decode cL_law 494 = .ok (.iload_n 3, 1) := by decide +kernel
theorem dL_law_495 : decode cL_law 495 = .ok (.iconst 5, 1) := by decide +kernel
theorem dL_law_496 : decode cL_law 496 = .ok (.iadd, 1) := by decide +kernel
theorem dL_law_497 : decode cL_law 497 = .ok (.iaload, 1) := by decide +kernel
theorem dL_law_498 : decode cL_law 498 = .ok (.invokevirtual 68, 3) := by decide +kernel
theorem dL_law_501 : decode cL_law 501 = .ok (.if_icmp .eq 371, 3) := by decide +kernel
theorem dL_law_504 : decode cL_law 504 = .ok (.iconst 0, 1) := by decide +kernel
theorem dL_law_505 : decode cL_law 505 = .ok (.ireturn, 1) := by decide +kernel
theorem dL_law_506 : decode cL_law 506 = .ok (.aload_n 1, 1) := by decide +kernel
theorem dL_law_507 : decode cL_law 507 = .ok (.aload_n 0, 1) := by decide +kernel
theorem dL_law_508 : decode cL_law 508 = .ok (.iload_n 3, 1) := by decide +kernel
theorem dL_law_509 : decode cL_law 509 = .ok (.iconst 1, 1) := by decide +kernel
theorem dL_law_510 : decode cL_law 510 = .ok (.iadd, 1) := by decide +kernel
theorem dL_law_511 : decode cL_law 511 = .ok (.iaload, 1) := by decide +kernel
theorem dL_law_512 : decode cL_law 512 = .ok (.aload_n 0, 1) := by decide +kernel
theorem dL_law_513 : decode cL_law 513 = .ok (.iload_n 3, 1) := by decide +kernel
theorem dL_law_514 : decode cL_law 514 = .ok (.iconst 2, 1) := by decide +kernel
theorem dL_law_515 : decode cL_law 515 = .ok (.iadd, 1) := by decide +kernel
theorem dL_law_516 : decode cL_law 516 = .ok (.iaload, 1) := by decide +kernel
theorem dL_law_517 : decode cL_law 517 = .ok (.aload_n 0, 1) := by decide +kernel
theorem dL_law_518 : decode cL_law 518 = .ok (.iload_n 3, 1) := by decide +kernel
theorem dL_law_519 : decode cL_law 519 = .ok (.iconst 3, 1) := by decide +kernel
theorem dL_law_520 : decode cL_law 520 = .ok (.iadd, 1) := by decide +kernel
theorem dL_law_521 : decode cL_law 521 = .ok (.iaload, 1) := by decide +kernel
theorem dL_law_522 : decode cL_law 522 = .ok (.aload_n 0, 1) := by decide +kernel
theorem dL_law_523 : decode cL_law 523 = .ok (.iload_n 3, 1) := by decide +kernel
theorem dL_law_524 : decode cL_law 524 = .ok (.iconst 4, 1) := by decide +kernel
theorem dL_law_525 : decode cL_law 525 = .ok (.iadd, 1) := by decide +kernel
theorem dL_law_526 : decode cL_law 526 = .ok (.iaload, 1) := by decide +kernel
theorem dL_law_527 : decode cL_law 527 = .ok (.aload_n 0, 1) := by decide +kernel
theorem dL_law_528 : decode cL_law 528 = .ok (.iload_n 3, 1) := by decide +kernel
theorem dL_law_529 : decode cL_law 529 = .ok (.iconst 5, 1) := by decide +kernel
theorem dL_law_530 : decode cL_law 530 = .ok (.iadd, 1) := by decide +kernel
theorem dL_law_531 : decode cL_law 531 = .ok (.iaload, 1) := by decide +kernel
theorem dL_law_532 : decode cL_law 532 = .ok (.aload_n 0, 1) := by decide +kernel
theorem dL_law_533 : decode cL_law 533 = .ok (.iload_n 3, 1) := by decide +kernel
theorem dL_law_534 : decode cL_law 534 = .ok (.bipush 6, 2) := by decide +kernel
theorem dL_law_536 : decode cL_law 536 = .ok (.iadd, 1) := by decide +kernel
theorem dL_law_537 : decode cL_law 537 = .ok (.iaload, 1) := by decide +kernel
theorem dL_law_538 : decode cL_law 538 = .ok (.invokevirtual 69, 3) := by decide +kernel
theorem dL_law_541 : decode cL_law 541 = .ok (.aload_n 2, 1) := by decide +kernel
theorem dL_law_542 : decode cL_law 542 = .ok (.aload_n 0, 1) := by decide +kernel
theorem dL_law_543 : decode cL_law 543 = .ok (.iload_n 3, 1) := by decide +kernel
theorem dL_law_544 : decode cL_law 544 = .ok (.iconst 1, 1) := by decide +kernel
theorem dL_law_545 : decode cL_law 545 = .ok (.iadd, 1) := by decide +kernel
theorem dL_law_546 : decode cL_law 546 = .ok (.iaload, 1) := by decide +kernel
theorem dL_law_547 : decode cL_law 547 = .ok (.aload_n 0, 1) := by decide +kernel
theorem dL_law_548 : decode cL_law 548 = .ok (.iload_n 3, 1) := by decide +kernel
theorem dL_law_549 : decode cL_law 549 = .ok (.iconst 2, 1) := by decide +kernel
theorem dL_law_550 : decode cL_law 550 = .ok (.iadd, 1) := by decide +kernel
theorem dL_law_551 : decode cL_law 551 = .ok (.iaload, 1) := by decide +kernel
theorem dL_law_552 : decode cL_law 552 = .ok (.aload_n 0, 1) := by decide +kernel
theorem dL_law_553 : decode cL_law 553 = .ok (.iload_n 3, 1) := by decide +kernel
theorem dL_law_554 : decode cL_law 554 = .ok (.iconst 3, 1) := by decide +kernel
theorem dL_law_555 : decode cL_law 555 = .ok (.iadd, 1) := by decide +kernel
theorem dL_law_556 : decode cL_law 556 = .ok (.iaload, 1) := by decide +kernel
theorem dL_law_557 : decode cL_law 557 = .ok (.aload_n 0, 1) := by decide +kernel
theorem dL_law_558 : decode cL_law 558 = .ok (.iload_n 3, 1) := by decide +kernel
theorem dL_law_559 : decode cL_law 559 = .ok (.iconst 4, 1) := by decide +kernel
theorem dL_law_560 : decode cL_law 560 = .ok (.iadd, 1) := by decide +kernel
theorem dL_law_561 : decode cL_law 561 = .ok (.iaload, 1) := by decide +kernel
theorem dL_law_562 : decode cL_law 562 = .ok (.aload_n 0, 1) := by decide +kernel
theorem dL_law_563 : decode cL_law 563 = .ok (.iload_n 3, 1) := by decide +kernel
theorem dL_law_564 : decode cL_law 564 = .ok (.iconst 5, 1) := by decide +kernel
theorem dL_law_565 : decode cL_law 565 = .ok (.iadd, 1) := by decide +kernel
theorem dL_law_566 : decode cL_law 566 = .ok (.iaload, 1) := by decide +kernel
theorem dL_law_567 : decode cL_law 567 = .ok (.aload_n 0, 1) := by decide +kernel
theorem dL_law_568 : decode cL_law 568 = .ok (.iload_n 3, 1) := by decide +kernel
theorem dL_law_569 : decode cL_law 569 = .ok (.bipush 6, 2) := by decide +kernel
theorem dL_law_571 : decode cL_law 571 = .ok (.iadd, 1) := by decide +kernel
theorem dL_law_572 : decode cL_law 572 = .ok (.iaload, 1) := by decide +kernel
theorem dL_law_573 : decode cL_law 573 = .ok (.invokevirtual 73, 3) := by decide +kernel
theorem dL_law_576 : decode cL_law 576 = .ok (.if_icmp .eq 296, 3) := by decide +kernel
theorem dL_law_579 : decode cL_law 579 = .ok (.iconst 0, 1) := by decide +kernel
theorem dL_law_580 : decode cL_law 580 = .ok (.ireturn, 1) := by decide +kernel
theorem dL_law_581 : decode cL_law 581 = .ok (.aload_n 1, 1) := by decide +kernel
theorem dL_law_582 : decode cL_law 582 = .ok (.aload_n 0, 1) := by decide +kernel
theorem dL_law_583 : decode cL_law 583 = .ok (.iload_n 3, 1) := by decide +kernel
theorem dL_law_584 : decode cL_law 584 = .ok (.iconst 1, 1) := by decide +kernel
theorem dL_law_585 : decode cL_law 585 = .ok (.iadd, 1) := by decide +kernel
theorem dL_law_586 : decode cL_law 586 = .ok (.iaload, 1) := by decide +kernel
theorem dL_law_587 : decode cL_law 587 = .ok (.aload_n 0, 1) := by decide +kernel
theorem dL_law_588 : decode cL_law 588 = .ok (.iload_n 3, 1) := by decide +kernel
theorem dL_law_589 : decode cL_law 589 = .ok (.iconst 2, 1) := by decide +kernel
theorem dL_law_590 : decode cL_law 590 = .ok (.iadd, 1) := by decide +kernel
theorem dL_law_591 : decode cL_law 591 = .ok (.iaload, 1) := by decide +kernel
theorem dL_law_592 : decode cL_law 592 = .ok (.invokevirtual 74, 3) := by decide +kernel
theorem dL_law_595 : decode cL_law 595 = .ok (.aload_n 2, 1) := by decide +kernel
theorem dL_law_596 : decode cL_law 596 = .ok (.aload_n 0, 1) := by decide +kernel
theorem dL_law_597 : decode cL_law 597 = .ok (.iload_n 3, 1) := by decide +kernel
theorem dL_law_598 : decode cL_law 598 = .ok (.iconst 1, 1) := by decide +kernel
theorem dL_law_599 : decode cL_law 599 = .ok (.iadd, 1) := by decide +kernel
theorem dL_law_600 : decode cL_law 600 = .ok (.iaload, 1) := by decide +kernel
theorem dL_law_601 : decode cL_law 601 = .ok (.aload_n 0, 1) := by decide +kernel
theorem dL_law_602 : decode cL_law 602 = .ok (.iload_n 3, 1) := by decide +kernel
theorem dL_law_603 : decode cL_law 603 = .ok (.iconst 2, 1) := by decide +kernel
theorem dL_law_604 : decode cL_law 604 = .ok (.iadd, 1) := by decide +kernel
theorem dL_law_605 : decode cL_law 605 = .ok (.iaload, 1) := by decide +kernel
theorem dL_law_606 : decode cL_law 606 = .ok (.invokevirtual 77, 3) := by decide +kernel
theorem dL_law_609 : decode cL_law 609 = .ok (.if_icmp .eq 263, 3) := by decide +kernel
theorem dL_law_612 : decode cL_law 612 = .ok (.iconst 0, 1) := by decide +kernel
theorem dL_law_613 : decode cL_law 613 = .ok (.ireturn, 1) := by decide +kernel
theorem dL_law_614 : decode cL_law 614 = .ok (.aload_n 1, 1) := by decide +kernel
theorem dL_law_615 : decode cL_law 615 = .ok (.invokevirtual 78, 3) := by decide +kernel
theorem dL_law_618 : decode cL_law 618 = .ok (.aload_n 2, 1) := by decide +kernel
theorem dL_law_619 : decode cL_law 619 = .ok (.invokevirtual 81, 3) := by decide +kernel
theorem dL_law_622 : decode cL_law 622 = .ok (.if_icmp .eq 250, 3) := by decide +kernel
theorem dL_law_625 : decode cL_law 625 = .ok (.iconst 0, 1) := by decide +kernel
theorem dL_law_626 : decode cL_law 626 = .ok (.ireturn, 1) := by decide +kernel
theorem dL_law_627 : decode cL_law 627 = .ok (.aload_n 1, 1) := by decide +kernel
theorem dL_law_628 : decode cL_law 628 = .ok (.aload_n 0, 1) := by decide +kernel
theorem dL_law_629 : decode cL_law 629 = .ok (.iload_n 3, 1) := by decide +kernel
theorem dL_law_630 : decode cL_law 630 = .ok (.iconst 1, 1) := by decide +kernel
theorem dL_law_631 : decode cL_law 631 = .ok (.iadd, 1) := by decide +kernel
theorem dL_law_632 : decode cL_law 632 = .ok (.iaload, 1) := by decide +kernel
theorem dL_law_633 : decode cL_law 633 = .ok (.invokevirtual 82, 3) := by decide +kernel
theorem dL_law_636 : decode cL_law 636 = .ok (.aload_n 2, 1) := by decide +kernel
theorem dL_law_637 : decode cL_law 637 = .ok (.aload_n 0, 1) := by decide +kernel
theorem dL_law_638 : decode cL_law 638 = .ok (.iload_n 3, 1) := by decide +kernel
theorem dL_law_639 : decode cL_law 639 = .ok (.iconst 1, 1) := by decide +kernel
theorem dL_law_640 : decode cL_law 640 = .ok (.iadd, 1) := by decide +kernel
theorem dL_law_641 : decode cL_law 641 = .ok (.iaload, 1) := by decide +kernel
theorem dL_law_642 : decode cL_law 642 = .ok (.invokevirtual 85, 3) := by decide +kernel
theorem dL_law_645 : decode cL_law 645 = .ok (.if_icmp .eq 227, 3) := by decide +kernel
theorem dL_law_648 : decode cL_law 648 = .ok (.iconst 0, 1) := by decide +kernel
theorem dL_law_649 : decode cL_law 649 = .ok (.ireturn, 1) := by decide +kernel
theorem dL_law_650 : decode cL_law 650 = .ok (.aload_n 1, 1) := by decide +kernel
theorem dL_law_651 : decode cL_law 651 = .ok (.aload_n 0, 1) := by decide +kernel
theorem dL_law_652 : decode cL_law 652 = .ok (.iload_n 3, 1) := by decide +kernel
theorem dL_law_653 : decode cL_law 653 = .ok (.iconst 1, 1) := by decide +kernel
theorem dL_law_654 : decode cL_law 654 = .ok (.iadd, 1) := by decide +kernel
theorem dL_law_655 : decode cL_law 655 = .ok (.iaload, 1) := by decide +kernel
theorem dL_law_656 : decode cL_law 656 = .ok (.invokevirtual 86, 3) := by decide +kernel
theorem dL_law_659 : decode cL_law 659 = .ok (.aload_n 2, 1) := by decide +kernel
theorem dL_law_660 : decode cL_law 660 = .ok (.aload_n 0, 1) := by decide +kernel
theorem dL_law_661 : decode cL_law 661 = .ok (.iload_n 3, 1) := by decide +kernel
theorem dL_law_662 : decode cL_law 662 = .ok (.iconst 1, 1) := by decide +kernel
theorem dL_law_663 : decode cL_law 663 = .ok (.iadd, 1) := by decide +kernel
theorem dL_law_664 : decode cL_law 664 = .ok (.iaload, 1) := by decide +kernel
theorem dL_law_665 : decode cL_law 665 = .ok (.invokevirtual 89, 3) := by decide +kernel
theorem dL_law_668 : decode cL_law 668 = .ok (.if_icmp .eq 204, 3) := by decide +kernel
theorem dL_law_671 : decode cL_law 671 = .ok (.iconst 0, 1) := by decide +kernel
theorem dL_law_672 : decode cL_law 672 = .ok (.ireturn, 1) := by decide +kernel
theorem dL_law_673 : decode cL_law 673 = .ok (.aload_n 1, 1) := by decide +kernel
theorem dL_law_674 : decode cL_law 674 = .ok (.aload_n 0, 1) := by decide +kernel
theorem dL_law_675 : decode cL_law 675 = .ok (.iload_n 3, 1) := by decide +kernel
theorem dL_law_676 : decode cL_law 676 = .ok (.iconst 1, 1) := by decide +kernel
theorem dL_law_677 : decode cL_law 677 = .ok (.iadd, 1) := by decide +kernel
theorem dL_law_678 : decode cL_law 678 = .ok (.iaload, 1) := by decide +kernel
theorem dL_law_679 : decode cL_law 679 = .ok (.aload_n 0, 1) := by decide +kernel
theorem dL_law_680 : decode cL_law 680 = .ok (.iload_n 3, 1) := by decide +kernel
theorem dL_law_681 : decode cL_law 681 = .ok (.iconst 2, 1) := by decide +kernel
theorem dL_law_682 : decode cL_law 682 = .ok (.iadd, 1) := by decide +kernel
theorem dL_law_683 : decode cL_law 683 = .ok (.iaload, 1) := by decide +kernel
theorem dL_law_684 : decode cL_law 684 = .ok (.invokevirtual 90, 3) := by decide +kernel
theorem dL_law_687 : decode cL_law 687 = .ok (.aload_n 2, 1) := by decide +kernel
theorem dL_law_688 : decode cL_law 688 = .ok (.aload_n 0, 1) := by decide +kernel
theorem dL_law_689 : decode cL_law 689 = .ok (.iload_n 3, 1) := by decide +kernel
theorem dL_law_690 : decode cL_law 690 = .ok (.iconst 1, 1) := by decide +kernel
theorem dL_law_691 : decode cL_law 691 = .ok (.iadd, 1) := by decide +kernel
theorem dL_law_692 : decode cL_law 692 = .ok (.iaload, 1) := by decide +kernel
theorem dL_law_693 : decode cL_law 693 = .ok (.aload_n 0, 1) := by decide +kernel
theorem dL_law_694 : decode cL_law 694 = .ok (.iload_n 3, 1) := by decide +kernel
theorem dL_law_695 : decode cL_law 695 = .ok (.iconst 2, 1) := by decide +kernel
theorem dL_law_696 : decode cL_law 696 = .ok (.iadd, 1) := by decide +kernel
theorem dL_law_697 : decode cL_law 697 = .ok (.iaload, 1) := by decide +kernel
theorem dL_law_698 : decode cL_law 698 = .ok (.invokevirtual 93, 3) := by decide +kernel
theorem dL_law_701 : decode cL_law 701 = .ok (.if_icmp .eq 171, 3) := by decide +kernel
theorem dL_law_704 : decode cL_law 704 = .ok (.iconst 0, 1) := by decide +kernel
theorem dL_law_705 : decode cL_law 705 = .ok (.ireturn, 1) := by decide +kernel
theorem dL_law_706 : decode cL_law 706 = .ok (.aload_n 1, 1) := by decide +kernel
theorem dL_law_707 : decode cL_law 707 = .ok (.aload_n 0, 1) := by decide +kernel
theorem dL_law_708 : decode cL_law 708 = .ok (.iload_n 3, 1) := by decide +kernel
theorem dL_law_709 : decode cL_law 709 = .ok (.iconst 1, 1) := by decide +kernel
theorem dL_law_710 : decode cL_law 710 = .ok (.iadd, 1) := by decide +kernel
theorem dL_law_711 : decode cL_law 711 = .ok (.iaload, 1) := by decide +kernel
theorem dL_law_712 : decode cL_law 712 = .ok (.aload_n 0, 1) := by decide +kernel
theorem dL_law_713 : decode cL_law 713 = .ok (.iload_n 3, 1) := by decide +kernel
theorem dL_law_714 : decode cL_law 714 = .ok (.iconst 2, 1) := by decide +kernel
theorem dL_law_715 : decode cL_law 715 = .ok (.iadd, 1) := by decide +kernel
theorem dL_law_716 : decode cL_law 716 = .ok (.iaload, 1) := by decide +kernel
theorem dL_law_717 : decode cL_law 717 = .ok (.aload_n 0, 1) := by decide +kernel
theorem dL_law_718 : decode cL_law 718 = .ok (.iload_n 3, 1) := by decide +kernel
theorem dL_law_719 : decode cL_law 719 = .ok (.iconst 3, 1) := by decide +kernel
theorem dL_law_720 : decode cL_law 720 = .ok (.iadd, 1) := by decide +kernel
theorem dL_law_721 : decode cL_law 721 = .ok (.iaload, 1) := by decide +kernel
theorem dL_law_722 : decode cL_law 722 = .ok (.aload_n 0, 1) := by decide +kernel
theorem dL_law_723 : decode cL_law 723 = .ok (.iload_n 3, 1) := by decide +kernel
theorem dL_law_724 : decode cL_law 724 = .ok (.iconst 4, 1) := by decide +kernel
theorem dL_law_725 : decode cL_law 725 = .ok (.iadd, 1) := by decide +kernel
theorem dL_law_726 : decode cL_law 726 = .ok (.iaload, 1) := by decide +kernel
theorem dL_law_727 : decode cL_law 727 = .ok (.invokevirtual 94, 3) := by decide +kernel
theorem dL_law_730 : decode cL_law 730 = .ok (.aload_n 2, 1) := by decide +kernel
theorem dL_law_731 : decode cL_law 731 = .ok (.aload_n 0, 1) := by decide +kernel
theorem dL_law_732 : decode cL_law 732 = .ok (.iload_n 3, 1) := by decide +kernel
theorem dL_law_733 : decode cL_law 733 = .ok (.iconst 1, 1) := by decide +kernel
theorem dL_law_734 : decode cL_law 734 = .ok (.iadd, 1) := by decide +kernel
theorem dL_law_735 : decode cL_law 735 = .ok (.iaload, 1) := by decide +kernel
theorem dL_law_736 : decode cL_law 736 = .ok (.aload_n 0, 1) := by decide +kernel
theorem dL_law_737 : decode cL_law 737 = .ok (.iload_n 3, 1) := by decide +kernel
theorem dL_law_738 : decode cL_law 738 = .ok (.iconst 2, 1) := by decide +kernel
theorem dL_law_739 : decode cL_law 739 = .ok (.iadd, 1) := by decide +kernel
theorem dL_law_740 : decode cL_law 740 = .ok (.iaload, 1) := by decide +kernel
theorem dL_law_741 : decode cL_law 741 = .ok (.aload_n 0, 1) := by decide +kernel
theorem dL_law_742 : decode cL_law 742 = .ok (.iload_n 3, 1) := by decide +kernel
theorem dL_law_743 : decode cL_law 743 = .ok (.iconst 3, 1) := by decide +kernel
theorem dL_law_744 : decode cL_law 744 = .ok (.iadd, 1) := by decide +kernel
theorem dL_law_745 : decode cL_law 745 = .ok (.iaload, 1) := by decide +kernel
theorem dL_law_746 : decode cL_law 746 = .ok (.aload_n 0, 1) := by decide +kernel
theorem dL_law_747 : decode cL_law 747 = .ok (.iload_n 3, 1) := by decide +kernel
theorem dL_law_748 : decode cL_law 748 = .ok (.iconst 4, 1) := by decide +kernel
theorem dL_law_749 : decode cL_law 749 = .ok (.iadd, 1) := by decide +kernel
theorem dL_law_750 : decode cL_law 750 = .ok (.iaload, 1) := by decide +kernel
theorem dL_law_751 : decode cL_law 751 = .ok (.invokevirtual 98, 3) := by decide +kernel
theorem dL_law_754 : decode cL_law 754 = .ok (.lcmp, 1) := by decide +kernel
theorem dL_law_755 : decode cL_law 755 = .ok (.ifCond .eq 117, 3) := by decide +kernel
theorem dL_law_758 : decode cL_law 758 = .ok (.iconst 0, 1) := by decide +kernel
theorem dL_law_759 : decode cL_law 759 = .ok (.ireturn, 1) := by decide +kernel
theorem dL_law_760 : decode cL_law 760 = .ok (.aload_n 1, 1) := by decide +kernel
theorem dL_law_761 : decode cL_law 761 = .ok (.aload_n 0, 1) := by decide +kernel
theorem dL_law_762 : decode cL_law 762 = .ok (.iload_n 3, 1) := by decide +kernel
theorem dL_law_763 : decode cL_law 763 = .ok (.iconst 1, 1) := by decide +kernel
theorem dL_law_764 : decode cL_law 764 = .ok (.iadd, 1) := by decide +kernel
theorem dL_law_765 : decode cL_law 765 = .ok (.iaload, 1) := by decide +kernel
theorem dL_law_766 : decode cL_law 766 = .ok (.aload_n 0, 1) := by decide +kernel
theorem dL_law_767 : decode cL_law 767 = .ok (.iload_n 3, 1) := by decide +kernel
theorem dL_law_768 : decode cL_law 768 = .ok (.iconst 2, 1) := by decide +kernel
theorem dL_law_769 : decode cL_law 769 = .ok (.iadd, 1) := by decide +kernel
theorem dL_law_770 : decode cL_law 770 = .ok (.iaload, 1) := by decide +kernel
theorem dL_law_771 : decode cL_law 771 = .ok (.aload_n 0, 1) := by decide +kernel
theorem dL_law_772 : decode cL_law 772 = .ok (.iload_n 3, 1) := by decide +kernel
theorem dL_law_773 : decode cL_law 773 = .ok (.iconst 3, 1) := by decide +kernel
theorem dL_law_774 : decode cL_law 774 = .ok (.iadd, 1) := by decide +kernel
theorem dL_law_775 : decode cL_law 775 = .ok (.iaload, 1) := by decide +kernel
theorem dL_law_776 : decode cL_law 776 = .ok (.invokevirtual 99, 3) := by decide +kernel
theorem dL_law_779 : decode cL_law 779 = .ok (.aload_n 2, 1) := by decide +kernel
theorem dL_law_780 : decode cL_law 780 = .ok (.aload_n 0, 1) := by decide +kernel
theorem dL_law_781 : decode cL_law 781 = .ok (.iload_n 3, 1) := by decide +kernel
theorem dL_law_782 : decode cL_law 782 = .ok (.iconst 1, 1) := by decide +kernel
theorem dL_law_783 : decode cL_law 783 = .ok (.iadd, 1) := by decide +kernel
theorem dL_law_784 : decode cL_law 784 = .ok (.iaload, 1) := by decide +kernel
theorem dL_law_785 : decode cL_law 785 = .ok (.aload_n 0, 1) := by decide +kernel
theorem dL_law_786 : decode cL_law 786 = .ok (.iload_n 3, 1) := by decide +kernel
theorem dL_law_787 : decode cL_law 787 = .ok (.iconst 2, 1) := by decide +kernel
theorem dL_law_788 : decode cL_law 788 = .ok (.iadd, 1) := by decide +kernel
theorem dL_law_789 : decode cL_law 789 = .ok (.iaload, 1) := by decide +kernel
theorem dL_law_790 : decode cL_law 790 = .ok (.aload_n 0, 1) := by decide +kernel
theorem dL_law_791 : decode cL_law 791 = .ok (.iload_n 3, 1) := by decide +kernel
theorem dL_law_792 : decode cL_law 792 = .ok (.iconst 3, 1) := by decide +kernel
theorem dL_law_793 : decode cL_law 793 = .ok (.iadd, 1) := by decide +kernel
theorem dL_law_794 : decode cL_law 794 = .ok (.iaload, 1) := by decide +kernel
theorem dL_law_795 : decode cL_law 795 = .ok (.invokevirtual 102, 3) := by decide +kernel
theorem dL_law_798 : decode cL_law 798 = .ok (.if_icmp .eq 74, 3) := by decide +kernel
theorem dL_law_801 : decode cL_law 801 = .ok (.iconst 0, 1) := by decide +kernel
theorem dL_law_802 : decode cL_law 802 = .ok (.ireturn, 1) := by decide +kernel
theorem dL_law_803 : decode cL_law 803 = .ok (.aload_n 1, 1) := by decide +kernel
theorem dL_law_804 : decode cL_law 804 = .ok (.aload_n 0, 1) := by decide +kernel
theorem dL_law_805 : decode cL_law 805 = .ok (.iload_n 3, 1) := by decide +kernel
theorem dL_law_806 : decode cL_law 806 = .ok (.iconst 1, 1) := by decide +kernel
theorem dL_law_807 : decode cL_law 807 = .ok (.iadd, 1) := by decide +kernel
theorem dL_law_808 : decode cL_law 808 = .ok (.iaload, 1) := by decide +kernel
theorem dL_law_809 : decode cL_law 809 = .ok (.invokevirtual 103, 3) := by decide +kernel
theorem dL_law_812 : decode cL_law 812 = .ok (.aload_n 2, 1) := by decide +kernel
theorem dL_law_813 : decode cL_law 813 = .ok (.aload_n 0, 1) := by decide +kernel
theorem dL_law_814 : decode cL_law 814 = .ok (.iload_n 3, 1) := by decide +kernel
theorem dL_law_815 : decode cL_law 815 = .ok (.iconst 1, 1) := by decide +kernel
theorem dL_law_816 : decode cL_law 816 = .ok (.iadd, 1) := by decide +kernel
theorem dL_law_817 : decode cL_law 817 = .ok (.iaload, 1) := by decide +kernel
theorem dL_law_818 : decode cL_law 818 = .ok (.invokevirtual 106, 3) := by decide +kernel
theorem dL_law_821 : decode cL_law 821 = .ok (.if_icmp .eq 51, 3) := by decide +kernel
theorem dL_law_824 : decode cL_law 824 = .ok (.iconst 0, 1) := by decide +kernel
theorem dL_law_825 : decode cL_law 825 = .ok (.ireturn, 1) := by decide +kernel
theorem dL_law_826 : decode cL_law 826 = .ok (.aload_n 1, 1) := by decide +kernel
theorem dL_law_827 : decode cL_law 827 = .ok (.aload_n 0, 1) := by decide +kernel
theorem dL_law_828 : decode cL_law 828 = .ok (.iload_n 3, 1) := by decide +kernel
theorem dL_law_829 : decode cL_law 829 = .ok (.iconst 1, 1) := by decide +kernel
theorem dL_law_830 : decode cL_law 830 = .ok (.iadd, 1) := by decide +kernel
theorem dL_law_831 : decode cL_law 831 = .ok (.iaload, 1) := by decide +kernel
theorem dL_law_832 : decode cL_law 832 = .ok (.invokevirtual 107, 3) := by decide +kernel
theorem dL_law_835 : decode cL_law 835 = .ok (.aload_n 2, 1) := by decide +kernel
theorem dL_law_836 : decode cL_law 836 = .ok (.aload_n 0, 1) := by decide +kernel
theorem dL_law_837 : decode cL_law 837 = .ok (.iload_n 3, 1) := by decide +kernel
theorem dL_law_838 : decode cL_law 838 = .ok (.iconst 1, 1) := by decide +kernel
theorem dL_law_839 : decode cL_law 839 = .ok (.iadd, 1) := by decide +kernel
theorem dL_law_840 : decode cL_law 840 = .ok (.iaload, 1) := by decide +kernel
theorem dL_law_841 : decode cL_law 841 = .ok (.invokevirtual 110, 3) := by decide +kernel
theorem dL_law_844 : decode cL_law 844 = .ok (.if_icmp .eq 28, 3) := by decide +kernel
theorem dL_law_847 : decode cL_law 847 = .ok (.iconst 0, 1) := by decide +kernel
theorem dL_law_848 : decode cL_law 848 = .ok (.ireturn, 1) := by decide +kernel
theorem dL_law_849 : decode cL_law 849 = .ok (.aload_n 1, 1) := by decide +kernel
theorem dL_law_850 : decode cL_law 850 = .ok (.aload_n 0, 1) := by decide +kernel
theorem dL_law_851 : decode cL_law 851 = .ok (.iload_n 3, 1) := by decide +kernel
theorem dL_law_852 : decode cL_law 852 = .ok (.iconst 1, 1) := by decide +kernel
theorem dL_law_853 : decode cL_law 853 = .ok (.iadd, 1) := by decide +kernel
theorem dL_law_854 : decode cL_law 854 = .ok (.iaload, 1) := by decide +kernel
theorem dL_law_855 : decode cL_law 855 = .ok (.invokevirtual 111, 3) := by decide +kernel
theorem dL_law_858 : decode cL_law 858 = .ok (.aload_n 2, 1) := by decide +kernel
theorem dL_law_859 : decode cL_law 859 = .ok (.aload_n 0, 1) := by decide +kernel
theorem dL_law_860 : decode cL_law 860 = .ok (.iload_n 3, 1) := by decide +kernel
theorem dL_law_861 : decode cL_law 861 = .ok (.iconst 1, 1) := by decide +kernel
theorem dL_law_862 : decode cL_law 862 = .ok (.iadd, 1) := by decide +kernel
theorem dL_law_863 : decode cL_law 863 = .ok (.iaload, 1) := by decide +kernel
theorem dL_law_864 : decode cL_law 864 = .ok (.invokevirtual 114, 3) := by decide +kernel
theorem dL_law_867 : decode cL_law 867 = .ok (.if_icmp .eq 5, 3) := by decide +kernel
theorem dL_law_870 : decode cL_law 870 = .ok (.iconst 0, 1) := by decide +kernel
theorem dL_law_871 : decode cL_law 871 = .ok (.ireturn, 1) := by decide +kernel
theorem dL_law_872 : decode cL_law 872 = .ok (.iinc 3 7, 3) := by decide +kernel
theorem dL_law_875 : decode cL_law 875 = .ok (.goto (-857), 3) := by decide +kernel
theorem dL_law_878 : decode cL_law 878 = .ok (.iconst 1, 1) := by decide +kernel
theorem dL_law_879 : decode cL_law 879 = .ok (.ireturn, 1) := by decide +kernel
