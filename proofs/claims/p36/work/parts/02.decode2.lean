theorem dX5_split_97 : decode cX5_split 97 = .ok (.iload_n 3, 1) := by decide +kernel
theorem dX5_split_98 : decode cX5_split 98 = .ok (.iconst 1, 1) := by decide +kernel
theorem dX5_split_99 : decode cX5_split 99 = .ok (.isub, 1) := by decide +kernel
theorem dX5_split_100 : decode cX5_split 100 = .ok (.iload_n 3, 1) := by decide +kernel
theorem dX5_split_101 : decode cX5_split 101 = .ok (.iconst 1, 1) := by decide +kernel
theorem dX5_split_102 : decode cX5_split 102 = .ok (.isub, 1) := by decide +kernel
theorem dX5_split_103 : decode cX5_split 103 = .ok (.invokevirtual 100, 3) := by decide +kernel
theorem dX5_split_106 : decode cX5_split 106 = .ok (.aload_n 0, 1) := by decide +kernel
theorem dX5_split_107 : decode cX5_split 107 = .ok (.getfield 36, 3) := by decide +kernel
theorem dX5_split_110 : decode cX5_split 110 = .ok (.iload 8, 2) := by decide +kernel
theorem dX5_split_112 : decode cX5_split 112 = .ok (.iload 8, 2) := by decide +kernel
theorem dX5_split_114 : decode cX5_split 114 = .ok (.invokevirtual 87, 3) := by decide +kernel
theorem dX5_split_117 : decode cX5_split 117 = .ok (.iinc 5 1, 3) := by decide +kernel
theorem dX5_split_120 : decode cX5_split 120 = .ok (.goto (-95), 3) := by decide +kernel
theorem dX5_split_123 : decode cX5_split 123 = .ok (.aload_n 0, 1) := by decide +kernel
theorem dX5_split_124 : decode cX5_split 124 = .ok (.getfield 33, 3) := by decide +kernel
theorem dX5_split_127 : decode cX5_split 127 = .ok (.iload_n 1, 1) := by decide +kernel
theorem dX5_split_128 : decode cX5_split 128 = .ok (.iconst 4, 1) := by decide +kernel
theorem dX5_split_129 : decode cX5_split 129 = .ok (.invokevirtual 87, 3) := by decide +kernel
theorem dX5_split_132 : decode cX5_split 132 = .ok (.iconst 0, 1) := by decide +kernel
theorem dX5_split_133 : decode cX5_split 133 = .ok (.istore 5, 2) := by decide +kernel
theorem dX5_split_135 : decode cX5_split 135 = .ok (.iload 5, 2) := by decide +kernel
theorem dX5_split_137 : decode cX5_split 137 = .ok (.aload_n 2, 1) := by decide +kernel
theorem dX5_split_138 : decode cX5_split 138 = .ok (.getfield 103, 3) := by decide +kernel
theorem dX5_split_141 : decode cX5_split 141 = .ok (.if_icmp .ge 60, 3) := by decide +kernel
theorem dX5_split_144 : decode cX5_split 144 = .ok (.aload_n 0, 1) := by decide +kernel
theorem dX5_split_145 : decode cX5_split 145 = .ok (.getfield 39, 3) := by decide +kernel
theorem dX5_split_148 : decode cX5_split 148 = .ok (.iload 5, 2) := by decide +kernel
theorem dX5_split_150 : decode cX5_split 150 = .ok (.invokevirtual 48, 3) := by decide +kernel
theorem dX5_split_153 : decode cX5_split 153 = .ok (.iload_n 1, 1) := by decide +kernel
theorem dX5_split_154 : decode cX5_split 154 = .ok (.if_icmp .ne 41, 3) := by decide +kernel
theorem dX5_split_157 : decode cX5_split 157 = .ok (.aload_n 0, 1) := by decide +kernel
theorem dX5_split_158 : decode cX5_split 158 = .ok (.iload 5, 2) := by decide +kernel
theorem dX5_split_160 : decode cX5_split 160 = .ok (.iload 4, 2) := by decide +kernel
theorem dX5_split_162 : decode cX5_split 162 = .ok (.aload_n 0, 1) := by decide +kernel
theorem dX5_split_163 : decode cX5_split 163 = .ok (.iload_n 1, 1) := by decide +kernel
theorem dX5_split_164 : decode cX5_split 164 = .ok (.aload_n 2, 1) := by decide +kernel
theorem dX5_split_165 : decode cX5_split 165 = .ok (.getfield 119, 3) := by decide +kernel
theorem dX5_split_168 : decode cX5_split 168 = .ok (.getfield 78, 3) := by decide +kernel
theorem dX5_split_171 : decode cX5_split 171 = .ok (.iload 5, 2) := by decide +kernel
theorem dX5_split_173 : decode cX5_split 173 = .ok (.invokevirtual 48, 3) := by decide +kernel
theorem dX5_split_176 : decode cX5_split 176 = .ok (.aload_n 2, 1) := by decide +kernel
theorem dX5_split_177 : decode cX5_split 177 = .ok (.getfield 119, 3) := by decide +kernel
theorem dX5_split_180 : decode cX5_split 180 = .ok (.getfield 81, 3) := by decide +kernel
theorem dX5_split_183 : decode cX5_split 183 = .ok (.iload 5, 2) := by decide +kernel
theorem dX5_split_185 : decode cX5_split 185 = .ok (.invokevirtual 48, 3) := by decide +kernel
theorem dX5_split_188 : decode cX5_split 188 = .ok (.invokevirtual 67, 3) := by decide +kernel
theorem dX5_split_191 : decode cX5_split 191 = .ok (.iadd, 1) := by decide +kernel
theorem dX5_split_192 : decode cX5_split 192 = .ok (.invokevirtual 112, 3) := by decide +kernel
theorem dX5_split_195 : decode cX5_split 195 = .ok (.iinc 5 1, 3) := by decide +kernel
theorem dX5_split_198 : decode cX5_split 198 = .ok (.goto (-63), 3) := by decide +kernel
theorem dX5_split_201 : decode cX5_split 201 = .ok (.return_, 1) := by decide +kernel
theorem dX5_growPacked_0 : decode cX5_growPacked 0 = .ok (.aload_n 0, 1) := by decide +kernel
theorem dX5_growPacked_1 : decode cX5_growPacked 1 = .ok (.invokevirtual 94, 3) := by decide +kernel
theorem dX5_growPacked_4 : decode cX5_growPacked 4 = .ok (.iconst 0, 1) := by decide +kernel
theorem dX5_growPacked_5 : decode cX5_growPacked 5 = .ok (.istore 4, 2) := by decide +kernel
theorem dX5_growPacked_7 : decode cX5_growPacked 7 = .ok (.iconst 0, 1) := by decide +kernel
theorem dX5_growPacked_8 : decode cX5_growPacked 8 = .ok (.istore 5, 2) := by decide +kernel
theorem dX5_growPacked_10 : decode cX5_growPacked 10 = .ok (.iload 5, 2) := by decide +kernel
theorem dX5_growPacked_12 : decode cX5_growPacked 12 = .ok (.aload_n 1, 1) := by decide +kernel
theorem dX5_growPacked_13 : decode cX5_growPacked 13 = .ok (.getfield 103, 3) := by decide +kernel
theorem dX5_growPacked_16 : decode cX5_growPacked 16 = .ok (.if_icmp .ge 33, 3) := by decide +kernel
theorem dX5_growPacked_19 : decode cX5_growPacked 19 = .ok (.aload_n 1, 1) := by decide +kernel
theorem dX5_growPacked_20 : decode cX5_growPacked 20 = .ok (.iload 5, 2) := by decide +kernel
theorem dX5_growPacked_22 : decode cX5_growPacked 22 = .ok (.iload_n 2, 1) := by decide +kernel
theorem dX5_growPacked_23 : decode cX5_growPacked 23 = .ok (.invokevirtual 108, 3) := by decide +kernel
theorem dX5_growPacked_26 : decode cX5_growPacked 26 = .ok (.ifCond .eq 17, 3) := by decide +kernel
theorem dX5_growPacked_29 : decode cX5_growPacked 29 = .ok (.aload_n 0, 1) := by decide +kernel
theorem dX5_growPacked_30 : decode cX5_growPacked 30 = .ok (.getfield 42, 3) := by decide +kernel
theorem dX5_growPacked_33 : decode cX5_growPacked 33 = .ok (.iload 4, 2) := by decide +kernel
theorem dX5_growPacked_35 : decode cX5_growPacked 35 = .ok (.iload 5, 2) := by decide +kernel
theorem dX5_growPacked_37 : decode cX5_growPacked 37 = .ok (.invokevirtual 87, 3) := by decide +kernel
theorem dX5_growPacked_40 : decode cX5_growPacked 40 = .ok (.iinc 4 1, 3) := by decide +kernel
theorem dX5_growPacked_43 : decode cX5_growPacked 43 = .ok (.iinc 5 1, 3) := by decide +kernel
theorem dX5_growPacked_46 : decode cX5_growPacked 46 = .ok (.goto (-36), 3) := by decide +kernel
theorem dX5_growPacked_49 : decode cX5_growPacked 49 = .ok (.iload 4, 2) := by decide +kernel
theorem dX5_growPacked_51 : decode cX5_growPacked 51 = .ok (.ifCond .eq 8, 3) := by decide +kernel
theorem dX5_growPacked_54 : decode cX5_growPacked 54 = .ok (.iload_n 3, 1) := by decide +kernel
theorem dX5_growPacked_55 : decode cX5_growPacked 55 = .ok (.iconst 2, 1) := by decide +kernel
theorem dX5_growPacked_56 : decode cX5_growPacked 56 = .ok (.if_icmp .ge 4, 3) := by decide +kernel
theorem dX5_growPacked_59 : decode cX5_growPacked 59 = .ok (.return_, 1) := by decide +kernel
theorem dX5_growPacked_60 : decode cX5_growPacked 60 = .ok (.aload_n 0, 1) := by decide +kernel
theorem dX5_growPacked_61 : decode cX5_growPacked 61 = .ok (.aload_n 1, 1) := by decide +kernel
theorem dX5_growPacked_62 : decode cX5_growPacked 62 = .ok (.getfield 119, 3) := by decide +kernel
theorem dX5_growPacked_65 : decode cX5_growPacked 65 = .ok (.iload 4, 2) := by decide +kernel
theorem dX5_growPacked_67 : decode cX5_growPacked 67 = .ok (.iload_n 3, 1) := by decide +kernel
theorem dX5_growPacked_68 : decode cX5_growPacked 68 = .ok (.invokevirtual 120, 3) := by decide +kernel
theorem dX5_growPacked_71 : decode cX5_growPacked 71 = .ok (.aload_n 0, 1) := by decide +kernel
theorem dX5_growPacked_72 : decode cX5_growPacked 72 = .ok (.aload_n 1, 1) := by decide +kernel
theorem dX5_growPacked_73 : decode cX5_growPacked 73 = .ok (.getfield 119, 3) := by decide +kernel
theorem dX5_growPacked_76 : decode cX5_growPacked 76 = .ok (.iload 4, 2) := by decide +kernel
theorem dX5_growPacked_78 : decode cX5_growPacked 78 = .ok (.iload_n 3, 1) := by decide +kernel
theorem dX5_growPacked_79 : decode cX5_growPacked 79 = .ok (.invokevirtual 124, 3) := by decide +kernel
theorem dX5_growPacked_82 : decode cX5_growPacked 82 = .ok (.iconst 0, 1) := by decide +kernel
theorem dX5_growPacked_83 : decode cX5_growPacked 83 = .ok (.istore 5, 2) := by decide +kernel
theorem dX5_growPacked_85 : decode cX5_growPacked 85 = .ok (.iconst 1, 1) := by decide +kernel
theorem dX5_growPacked_86 : decode cX5_growPacked 86 = .ok (.istore 6, 2) := by decide +kernel
theorem dX5_growPacked_88 : decode cX5_growPacked 88 = .ok (.iload 6, 2) := by decide +kernel
theorem dX5_growPacked_90 : decode cX5_growPacked 90 = .ok (.bipush 11, 2) := by decide +kernel
theorem dX5_growPacked_92 : decode cX5_growPacked 92 = .ok (.if_icmp .ge 86, 3) := by decide +kernel
theorem dX5_growPacked_95 : decode cX5_growPacked 95 = .ok (.aload_n 0, 1) := by decide +kernel
theorem dX5_growPacked_96 : decode cX5_growPacked 96 = .ok (.getfield 52, 3) := by decide +kernel
theorem dX5_growPacked_99 : decode cX5_growPacked 99 = .ok (.iload 5, 2) := by decide +kernel
theorem dX5_growPacked_101 : decode cX5_growPacked 101 = .ok (.isub, 1) := by decide +kernel
theorem dX5_growPacked_102 : decode cX5_growPacked 102 = .ok (.iconst 1, 1) := by decide +kernel
theorem dX5_growPacked_103 : decode cX5_growPacked 103 = .ok (.if_icmp .le 75, 3) := by decide +kernel
theorem dX5_growPacked_106 : decode cX5_growPacked 106 = .ok (.aload_n 0, 1) := by decide +kernel
theorem dX5_growPacked_107 : decode cX5_growPacked 107 = .ok (.getfield 52, 3) := by decide +kernel
theorem dX5_growPacked_110 : decode cX5_growPacked 110 = .ok (.istore 7, 2) := by decide +kernel
theorem dX5_growPacked_112 : decode cX5_growPacked 112 = .ok (.iload 5, 2) := by decide +kernel
theorem dX5_growPacked_114 : decode cX5_growPacked 114 = .ok (.istore 8, 2) := by decide +kernel
theorem dX5_growPacked_116 : decode cX5_growPacked 116 = .ok (.iload 8, 2) := by decide +kernel
theorem dX5_growPacked_118 : decode cX5_growPacked 118 = .ok (.iload 7, 2) := by decide +kernel
theorem dX5_growPacked_120 : decode cX5_growPacked 120 = .ok (.if_icmp .ge 23, 3) := by decide +kernel
theorem dX5_growPacked_123 : decode cX5_growPacked 123 = .ok (.aload_n 0, 1) := by decide +kernel
theorem dX5_growPacked_124 : decode cX5_growPacked 124 = .ok (.getfield 42, 3) := by decide +kernel
theorem dX5_growPacked_127 : decode cX5_growPacked 127 = .ok (.iload 8, 2) := by decide +kernel
theorem dX5_growPacked_129 : decode cX5_growPacked 129 = .ok (.iload 5, 2) := by decide +kernel
theorem dX5_growPacked_131 : decode cX5_growPacked 131 = .ok (.isub, 1) := by decide +kernel
theorem dX5_growPacked_132 : decode cX5_growPacked 132 = .ok (.iload 8, 2) := by decide +kernel
theorem dX5_growPacked_134 : decode cX5_growPacked 134 = .ok (.invokevirtual 87, 3) := by decide +kernel
theorem dX5_growPacked_137 : decode cX5_growPacked 137 = .ok (.iinc 8 1, 3) := by decide +kernel
theorem dX5_growPacked_140 : decode cX5_growPacked 140 = .ok (.goto (-24), 3) := by decide +kernel
theorem dX5_growPacked_143 : decode cX5_growPacked 143 = .ok (.aload_n 0, 1) := by decide +kernel
theorem dX5_growPacked_144 : decode cX5_growPacked 144 = .ok (.aload_n 0, 1) := by decide +kernel
theorem dX5_growPacked_145 : decode cX5_growPacked 145 = .ok (.getfield 14, 3) := by decide +kernel
theorem dX5_growPacked_148 : decode cX5_growPacked 148 = .ok (.iload 7, 2) := by decide +kernel
theorem dX5_growPacked_150 : decode cX5_growPacked 150 = .ok (.iload 5, 2) := by decide +kernel
theorem dX5_growPacked_152 : decode cX5_growPacked 152 = .ok (.isub, 1) := by decide +kernel
theorem dX5_growPacked_153 : decode cX5_growPacked 153 = .ok (.iload_n 3, 1) := by decide +kernel
theorem dX5_growPacked_154 : decode cX5_growPacked 154 = .ok (.invokevirtual 120, 3) := by decide +kernel
theorem dX5_growPacked_157 : decode cX5_growPacked 157 = .ok (.aload_n 0, 1) := by decide +kernel
theorem dX5_growPacked_158 : decode cX5_growPacked 158 = .ok (.iload 5, 2) := by decide +kernel
theorem dX5_growPacked_160 : decode cX5_growPacked 160 = .ok (.iload 7, 2) := by decide +kernel
theorem dX5_growPacked_162 : decode cX5_growPacked 162 = .ok (.iload_n 3, 1) := by decide +kernel
theorem dX5_growPacked_163 : decode cX5_growPacked 163 = .ok (.iload 6, 2) := by decide +kernel
theorem dX5_growPacked_165 : decode cX5_growPacked 165 = .ok (.invokevirtual 127, 3) := by decide +kernel
theorem dX5_growPacked_168 : decode cX5_growPacked 168 = .ok (.iload 7, 2) := by decide +kernel
theorem dX5_growPacked_170 : decode cX5_growPacked 170 = .ok (.istore 5, 2) := by decide +kernel
theorem dX5_growPacked_172 : decode cX5_growPacked 172 = .ok (.iinc 6 1, 3) := by decide +kernel
theorem dX5_growPacked_175 : decode cX5_growPacked 175 = .ok (.goto (-87), 3) := by decide +kernel
theorem dX5_growPacked_178 : decode cX5_growPacked 178 = .ok (.aload_n 0, 1) := by decide +kernel
theorem dX5_growPacked_179 : decode cX5_growPacked 179 = .ok (.aload_n 0, 1) := by decide +kernel
theorem dX5_growPacked_180 : decode cX5_growPacked 180 = .ok (.getfield 52, 3) := by decide +kernel
theorem dX5_growPacked_183 : decode cX5_growPacked 183 = .ok (.iconst 1, 1) := by decide +kernel
theorem dX5_growPacked_184 : decode cX5_growPacked 184 = .ok (.isub, 1) := by decide +kernel
theorem dX5_growPacked_185 : decode cX5_growPacked 185 = .ok (.putfield 60, 3) := by decide +kernel
theorem dX5_growPacked_188 : decode cX5_growPacked 188 = .ok (.return_, 1) := by decide +kernel
theorem dX5_orderToPack_0 : decode cX5_orderToPack 0 = .ok (.iconst 0, 1) := by decide +kernel
theorem dX5_orderToPack_1 : decode cX5_orderToPack 1 = .ok (.istore 4, 2) := by decide +kernel
theorem dX5_orderToPack_3 : decode cX5_orderToPack 3 = .ok (.iload 4, 2) := by decide +kernel
theorem dX5_orderToPack_5 : decode cX5_orderToPack 5 = .ok (.iload_n 2, 1) := by decide +kernel
theorem dX5_orderToPack_6 : decode cX5_orderToPack 6 = .ok (.if_icmp .ge 42, 3) := by decide +kernel
theorem dX5_orderToPack_9 : decode cX5_orderToPack 9 = .ok (.aload_n 0, 1) := by decide +kernel
theorem dX5_orderToPack_10 : decode cX5_orderToPack 10 = .ok (.getfield 42, 3) := by decide +kernel
theorem dX5_orderToPack_13 : decode cX5_orderToPack 13 = .ok (.iload 4, 2) := by decide +kernel
theorem dX5_orderToPack_15 : decode cX5_orderToPack 15 = .ok (.invokevirtual 48, 3) := by decide +kernel
theorem dX5_orderToPack_18 : decode cX5_orderToPack 18 = .ok (.istore 5, 2) := by decide +kernel
theorem dX5_orderToPack_20 : decode cX5_orderToPack 20 = .ok (.aload_n 0, 1) := by decide +kernel
theorem dX5_orderToPack_21 : decode cX5_orderToPack 21 = .ok (.getfield 42, 3) := by decide +kernel
theorem dX5_orderToPack_24 : decode cX5_orderToPack 24 = .ok (.iload 4, 2) := by decide +kernel
theorem dX5_orderToPack_26 : decode cX5_orderToPack 26 = .ok (.aload_n 1, 1) := by decide +kernel
theorem dX5_orderToPack_27 : decode cX5_orderToPack 27 = .ok (.iload 5, 2) := by decide +kernel
theorem dX5_orderToPack_29 : decode cX5_orderToPack 29 = .ok (.invokevirtual 131, 3) := by decide +kernel
theorem dX5_orderToPack_32 : decode cX5_orderToPack 32 = .ok (.sipush 128, 3) := by decide +kernel
theorem dX5_orderToPack_35 : decode cX5_orderToPack 35 = .ok (.imul, 1) := by decide +kernel
theorem dX5_orderToPack_36 : decode cX5_orderToPack 36 = .ok (.iload 5, 2) := by decide +kernel
theorem dX5_orderToPack_38 : decode cX5_orderToPack 38 = .ok (.iadd, 1) := by decide +kernel
theorem dX5_orderToPack_39 : decode cX5_orderToPack 39 = .ok (.invokevirtual 87, 3) := by decide +kernel
theorem dX5_orderToPack_42 : decode cX5_orderToPack 42 = .ok (.iinc 4 1, 3) := by decide +kernel
theorem dX5_orderToPack_45 : decode cX5_orderToPack 45 = .ok (.goto (-42), 3) := by decide +kernel
theorem dX5_orderToPack_48 : decode cX5_orderToPack 48 = .ok (.aload_n 0, 1) := by decide +kernel
theorem dX5_orderToPack_49 : decode cX5_orderToPack 49 = .ok (.getfield 42, 3) := by decide +kernel
theorem dX5_orderToPack_52 : decode cX5_orderToPack 52 = .ok (.iconst 0, 1) := by decide +kernel
theorem dX5_orderToPack_53 : decode cX5_orderToPack 53 = .ok (.iload_n 2, 1) := by decide +kernel
theorem dX5_orderToPack_54 : decode cX5_orderToPack 54 = .ok (.invokevirtual 134, 3) := by decide +kernel
theorem dX5_orderToPack_57 : decode cX5_orderToPack 57 = .ok (.iconst 0, 1) := by decide +kernel
theorem dX5_orderToPack_58 : decode cX5_orderToPack 58 = .ok (.istore 4, 2) := by decide +kernel
theorem dX5_orderToPack_60 : decode cX5_orderToPack 60 = .ok (.iload 4, 2) := by decide +kernel
theorem dX5_orderToPack_62 : decode cX5_orderToPack 62 = .ok (.iload_n 2, 1) := by decide +kernel
theorem dX5_orderToPack_63 : decode cX5_orderToPack 63 = .ok (.if_icmp .ge 46, 3) := by decide +kernel
theorem dX5_orderToPack_66 : decode cX5_orderToPack 66 = .ok (.aload_n 0, 1) := by decide +kernel
theorem dX5_orderToPack_67 : decode cX5_orderToPack 67 = .ok (.getfield 42, 3) := by decide +kernel
theorem dX5_orderToPack_70 : decode cX5_orderToPack 70 = .ok (.iload 4, 2) := by decide +kernel
theorem dX5_orderToPack_72 : decode cX5_orderToPack 72 = .ok (.invokevirtual 48, 3) := by decide +kernel
theorem dX5_orderToPack_75 : decode cX5_orderToPack 75 = .ok (.sipush 128, 3) := by decide +kernel
theorem dX5_orderToPack_78 : decode cX5_orderToPack 78 = .ok (.irem, 1) := by decide +kernel
theorem dX5_orderToPack_79 : decode cX5_orderToPack 79 = .ok (.istore 5, 2) := by decide +kernel
theorem dX5_orderToPack_81 : decode cX5_orderToPack 81 = .ok (.aload_n 0, 1) := by decide +kernel
theorem dX5_orderToPack_82 : decode cX5_orderToPack 82 = .ok (.getfield 42, 3) := by decide +kernel
theorem dX5_orderToPack_85 : decode cX5_orderToPack 85 = .ok (.iload 4, 2) := by decide +kernel
theorem dX5_orderToPack_87 : decode cX5_orderToPack 87 = .ok (.aload_n 1, 1) := by decide +kernel
theorem dX5_orderToPack_88 : decode cX5_orderToPack 88 = .ok (.iload 5, 2) := by decide +kernel
theorem dX5_orderToPack_90 : decode cX5_orderToPack 90 = .ok (.invokevirtual 137, 3) := by decide +kernel
theorem dX5_orderToPack_93 : decode cX5_orderToPack 93 = .ok (.sipush 128, 3) := by decide +kernel
theorem dX5_orderToPack_96 : decode cX5_orderToPack 96 = .ok (.imul, 1) := by decide +kernel
theorem dX5_orderToPack_97 : decode cX5_orderToPack 97 = .ok (.iload 5, 2) := by decide +kernel
theorem dX5_orderToPack_99 : decode cX5_orderToPack 99 = .ok (.iadd, 1) := by decide +kernel
theorem dX5_orderToPack_100 : decode cX5_orderToPack 100 = .ok (.invokevirtual 87, 3) := by decide +kernel
theorem dX5_orderToPack_103 : decode cX5_orderToPack 103 = .ok (.iinc 4 1, 3) := by decide +kernel
theorem dX5_orderToPack_106 : decode cX5_orderToPack 106 = .ok (.goto (-46), 3) := by decide +kernel
theorem dX5_orderToPack_109 : decode cX5_orderToPack 109 = .ok (.iconst 1, 1) := by decide +kernel
theorem dX5_orderToPack_110 : decode cX5_orderToPack 110 = .ok (.iload_n 2, 1) := by decide +kernel
theorem dX5_orderToPack_111 : decode cX5_orderToPack 111 = .ok (.iload_n 3, 1) := by decide +kernel
theorem dX5_orderToPack_112 : decode cX5_orderToPack 112 = .ok (.invokestatic 140, 3) := by decide +kernel
theorem dX5_orderToPack_115 : decode cX5_orderToPack 115 = .ok (.invokestatic 143, 3) := by decide +kernel
theorem dX5_orderToPack_118 : decode cX5_orderToPack 118 = .ok (.istore 4, 2) := by decide +kernel
theorem dX5_orderToPack_120 : decode cX5_orderToPack 120 = .ok (.iconst 0, 1) := by decide +kernel
theorem dX5_orderToPack_121 : decode cX5_orderToPack 121 = .ok (.istore 5, 2) := by decide +kernel
theorem dX5_orderToPack_123 : decode cX5_orderToPack 123 = .ok (.iload 5, 2) := by decide +kernel
theorem dX5_orderToPack_125 : decode cX5_orderToPack 125 = .ok (.iload_n 2, 1) := by decide +kernel
theorem dX5_orderToPack_126 : decode cX5_orderToPack 126 = .ok (.if_icmp .ge 31, 3) := by decide +kernel
theorem dX5_orderToPack_129 : decode cX5_orderToPack 129 = .ok (.aload_n 0, 1) := by decide +kernel
theorem dX5_orderToPack_130 : decode cX5_orderToPack 130 = .ok (.getfield 42, 3) := by decide +kernel
theorem dX5_orderToPack_133 : decode cX5_orderToPack 133 = .ok (.iload 5, 2) := by decide +kernel
theorem dX5_orderToPack_135 : decode cX5_orderToPack 135 = .ok (.iload 5, 2) := by decide +kernel
theorem dX5_orderToPack_137 : decode cX5_orderToPack 137 = .ok (.iload 4, 2) := by decide +kernel
theorem dX5_orderToPack_139 : decode cX5_orderToPack 139 = .ok (.iadd, 1) := by decide +kernel
theorem dX5_orderToPack_140 : decode cX5_orderToPack 140 = .ok (.iload_n 2, 1) := by decide +kernel
theorem dX5_orderToPack_141 : decode cX5_orderToPack 141 = .ok (.invokestatic 148, 3) := by decide +kernel
theorem dX5_orderToPack_144 : decode cX5_orderToPack 144 = .ok (.invokevirtual 134, 3) := by decide +kernel
theorem dX5_orderToPack_147 : decode cX5_orderToPack 147 = .ok (.iload 5, 2) := by decide +kernel
theorem dX5_orderToPack_149 : decode cX5_orderToPack 149 = .ok (.iload 4, 2) := by decide +kernel
theorem dX5_orderToPack_151 : decode cX5_orderToPack 151 = .ok (.iadd, 1) := by decide +kernel
theorem dX5_orderToPack_152 : decode cX5_orderToPack 152 = .ok (.istore 5, 2) := by decide +kernel
theorem dX5_orderToPack_154 : decode cX5_orderToPack 154 = .ok (.goto (-31), 3) := by decide +kernel
theorem dX5_orderToPack_157 : decode cX5_orderToPack 157 = .ok (.iconst 0, 1) := by decide +kernel
theorem dX5_orderToPack_158 : decode cX5_orderToPack 158 = .ok (.istore 5, 2) := by decide +kernel
theorem dX5_orderToPack_160 : decode cX5_orderToPack 160 = .ok (.iload 5, 2) := by decide +kernel
theorem dX5_orderToPack_162 : decode cX5_orderToPack 162 = .ok (.iload_n 2, 1) := by decide +kernel
theorem dX5_orderToPack_163 : decode cX5_orderToPack 163 = .ok (.if_icmp .ge 31, 3) := by decide +kernel
theorem dX5_orderToPack_166 : decode cX5_orderToPack 166 = .ok (.aload_n 0, 1) := by decide +kernel
theorem dX5_orderToPack_167 : decode cX5_orderToPack 167 = .ok (.getfield 42, 3) := by decide +kernel
theorem dX5_orderToPack_170 : decode cX5_orderToPack 170 = .ok (.iload 5, 2) := by decide +kernel
theorem dX5_orderToPack_172 : decode cX5_orderToPack 172 = .ok (.aload_n 0, 1) := by decide +kernel
theorem dX5_orderToPack_173 : decode cX5_orderToPack 173 = .ok (.getfield 42, 3) := by decide +kernel
theorem dX5_orderToPack_176 : decode cX5_orderToPack 176 = .ok (.iload 5, 2) := by decide +kernel
theorem dX5_orderToPack_178 : decode cX5_orderToPack 178 = .ok (.invokevirtual 48, 3) := by decide +kernel
theorem dX5_orderToPack_181 : decode cX5_orderToPack 181 = .ok (.sipush 128, 3) := by decide +kernel
theorem dX5_orderToPack_184 : decode cX5_orderToPack 184 = .ok (.irem, 1) := by decide +kernel
theorem dX5_orderToPack_185 : decode cX5_orderToPack 185 = .ok (.invokevirtual 87, 3) := by decide +kernel
theorem dX5_orderToPack_188 : decode cX5_orderToPack 188 = .ok (.iinc 5 1, 3) := by decide +kernel
theorem dX5_orderToPack_191 : decode cX5_orderToPack 191 = .ok (.goto (-31), 3) := by decide +kernel
theorem dX5_orderToPack_194 : decode cX5_orderToPack 194 = .ok (.return_, 1) := by decide +kernel
theorem dX5_sliceLength_0 : decode cX5_sliceLength 0 = .ok (.iconst 0, 1) := by decide +kernel
theorem dX5_sliceLength_1 : decode cX5_sliceLength 1 = .ok (.istore_n 2, 1) := by decide +kernel
theorem dX5_sliceLength_2 : decode cX5_sliceLength 2 = .ok (.iload_n 2, 1) := by decide +kernel
theorem dX5_sliceLength_3 : decode cX5_sliceLength 3 = .ok (.bipush 80, 2) := by decide +kernel
theorem dX5_sliceLength_5 : decode cX5_sliceLength 5 = .ok (.if_icmp .ge 18, 3) := by decide +kernel
theorem dX5_sliceLength_8 : decode cX5_sliceLength 8 = .ok (.iload_n 2, 1) := by decide +kernel
theorem dX5_sliceLength_9 : decode cX5_sliceLength 9 = .ok (.iload_n 2, 1) := by decide +kernel
theorem dX5_sliceLength_10 : decode cX5_sliceLength 10 = .ok (.imul, 1) := by decide +kernel
theorem dX5_sliceLength_11 : decode cX5_sliceLength 11 = .ok (.iload_n 1, 1) := by decide +kernel
theorem dX5_sliceLength_12 : decode cX5_sliceLength 12 = .ok (.imul, 1) := by decide +kernel
theorem dX5_sliceLength_13 : decode cX5_sliceLength 13 = .ok (.iload_n 0, 1) := by decide +kernel
theorem dX5_sliceLength_14 : decode cX5_sliceLength 14 = .ok (.if_icmp .ge 9, 3) := by decide +kernel
theorem dX5_sliceLength_17 : decode cX5_sliceLength 17 = .ok (.iinc 2 1, 3) := by decide +kernel
theorem dX5_sliceLength_20 : decode cX5_sliceLength 20 = .ok (.goto (-18), 3) := by decide +kernel
theorem dX5_sliceLength_23 : decode cX5_sliceLength 23 = .ok (.iload_n 2, 1) := by decide +kernel
theorem dX5_sliceLength_24 : decode cX5_sliceLength 24 = .ok (.iload_n 1, 1) := by decide +kernel
theorem dX5_sliceLength_25 : decode cX5_sliceLength 25 = .ok (.imul, 1) := by decide +kernel
theorem dX5_sliceLength_26 : decode cX5_sliceLength 26 = .ok (.ireturn, 1) := by decide +kernel
theorem dX5_cutLeaves_0 : decode cX5_cutLeaves 0 = .ok (.iconst (-1), 1) := by decide +kernel
theorem dX5_cutLeaves_1 : decode cX5_cutLeaves 1 = .ok (.istore 4, 2) := by decide +kernel
theorem dX5_cutLeaves_3 : decode cX5_cutLeaves 3 = .ok (.iconst 0, 1) := by decide +kernel
theorem dX5_cutLeaves_4 : decode cX5_cutLeaves 4 = .ok (.istore 5, 2) := by decide +kernel
theorem dX5_cutLeaves_6 : decode cX5_cutLeaves 6 = .ok (.iload 5, 2) := by decide +kernel
theorem dX5_cutLeaves_8 : decode cX5_cutLeaves 8 = .ok (.iload_n 2, 1) := by decide +kernel
theorem dX5_cutLeaves_9 : decode cX5_cutLeaves 9 = .ok (.if_icmp .ge 75, 3) := by decide +kernel
theorem dX5_cutLeaves_12 : decode cX5_cutLeaves 12 = .ok (.aload_n 0, 1) := by decide +kernel
theorem dX5_cutLeaves_13 : decode cX5_cutLeaves 13 = .ok (.getfield 42, 3) := by decide +kernel
theorem dX5_cutLeaves_16 : decode cX5_cutLeaves 16 = .ok (.iload 5, 2) := by decide +kernel
theorem dX5_cutLeaves_18 : decode cX5_cutLeaves 18 = .ok (.invokevirtual 48, 3) := by decide +kernel
theorem dX5_cutLeaves_21 : decode cX5_cutLeaves 21 = .ok (.istore 6, 2) := by decide +kernel
theorem dX5_cutLeaves_23 : decode cX5_cutLeaves 23 = .ok (.iload 4, 2) := by decide +kernel
theorem dX5_cutLeaves_25 : decode cX5_cutLeaves 25 = .ok (.iconst (-1), 1) := by decide +kernel
theorem dX5_cutLeaves_26 : decode cX5_cutLeaves 26 = .ok (.if_icmp .eq 16, 3) := by decide +kernel
theorem dX5_cutLeaves_29 : decode cX5_cutLeaves 29 = .ok (.aload_n 0, 1) := by decide +kernel
theorem dX5_cutLeaves_30 : decode cX5_cutLeaves 30 = .ok (.getfield 27, 3) := by decide +kernel
theorem dX5_cutLeaves_33 : decode cX5_cutLeaves 33 = .ok (.iload 4, 2) := by decide +kernel
theorem dX5_cutLeaves_35 : decode cX5_cutLeaves 35 = .ok (.invokevirtual 48, 3) := by decide +kernel
theorem dX5_cutLeaves_38 : decode cX5_cutLeaves 38 = .ok (.iload_n 3, 1) := by decide +kernel
theorem dX5_cutLeaves_39 : decode cX5_cutLeaves 39 = .ok (.if_icmp .lt 19, 3) := by decide +kernel
theorem dX5_cutLeaves_42 : decode cX5_cutLeaves 42 = .ok (.aload_n 0, 1) := by decide +kernel
theorem dX5_cutLeaves_43 : decode cX5_cutLeaves 43 = .ok (.iconst 0, 1) := by decide +kernel
theorem dX5_cutLeaves_44 : decode cX5_cutLeaves 44 = .ok (.invokevirtual 97, 3) := by decide +kernel
theorem dX5_cutLeaves_47 : decode cX5_cutLeaves 47 = .ok (.istore 4, 2) := by decide +kernel
theorem dX5_cutLeaves_49 : decode cX5_cutLeaves 49 = .ok (.aload_n 0, 1) := by decide +kernel
theorem dX5_cutLeaves_50 : decode cX5_cutLeaves 50 = .ok (.iload 4, 2) := by decide +kernel
theorem dX5_cutLeaves_52 : decode cX5_cutLeaves 52 = .ok (.aload_n 1, 1) := by decide +kernel
theorem dX5_cutLeaves_53 : decode cX5_cutLeaves 53 = .ok (.iload 6, 2) := by decide +kernel
theorem dX5_cutLeaves_55 : decode cX5_cutLeaves 55 = .ok (.invokevirtual 151, 3) := by decide +kernel
theorem dX5_cutLeaves_58 : decode cX5_cutLeaves 58 = .ok (.aload_n 0, 1) := by decide +kernel
theorem dX5_cutLeaves_59 : decode cX5_cutLeaves 59 = .ok (.getfield 14, 3) := by decide +kernel
theorem dX5_cutLeaves_62 : decode cX5_cutLeaves 62 = .ok (.iload 4, 2) := by decide +kernel
theorem dX5_cutLeaves_64 : decode cX5_cutLeaves 64 = .ok (.aload_n 1, 1) := by decide +kernel
theorem dX5_cutLeaves_65 : decode cX5_cutLeaves 65 = .ok (.iload 6, 2) := by decide +kernel
theorem dX5_cutLeaves_67 : decode cX5_cutLeaves 67 = .ok (.invokevirtual 155, 3) := by decide +kernel
theorem dX5_cutLeaves_70 : decode cX5_cutLeaves 70 = .ok (.aload_n 0, 1) := by decide +kernel
theorem dX5_cutLeaves_71 : decode cX5_cutLeaves 71 = .ok (.iload 6, 2) := by decide +kernel
theorem dX5_cutLeaves_73 : decode cX5_cutLeaves 73 = .ok (.iload 4, 2) := by decide +kernel
theorem dX5_cutLeaves_75 : decode cX5_cutLeaves 75 = .ok (.invokevirtual 112, 3) := by decide +kernel
theorem dX5_cutLeaves_78 : decode cX5_cutLeaves 78 = .ok (.iinc 5 1, 3) := by decide +kernel
theorem dX5_cutLeaves_81 : decode cX5_cutLeaves 81 = .ok (.goto (-75), 3) := by decide +kernel
theorem dX5_cutLeaves_84 : decode cX5_cutLeaves 84 = .ok (.return_, 1) := by decide +kernel
theorem dX5_cutNodes_0 : decode cX5_cutNodes 0 = .ok (.iconst (-1), 1) := by decide +kernel
theorem dX5_cutNodes_1 : decode cX5_cutNodes 1 = .ok (.istore 5, 2) := by decide +kernel
theorem dX5_cutNodes_3 : decode cX5_cutNodes 3 = .ok (.iload_n 1, 1) := by decide +kernel
theorem dX5_cutNodes_4 : decode cX5_cutNodes 4 = .ok (.istore 6, 2) := by decide +kernel
theorem dX5_cutNodes_6 : decode cX5_cutNodes 6 = .ok (.iload 6, 2) := by decide +kernel
theorem dX5_cutNodes_8 : decode cX5_cutNodes 8 = .ok (.iload_n 2, 1) := by decide +kernel
theorem dX5_cutNodes_9 : decode cX5_cutNodes 9 = .ok (.if_icmp .ge 108, 3) := by decide +kernel
theorem dX5_cutNodes_12 : decode cX5_cutNodes 12 = .ok (.aload_n 0, 1) := by decide +kernel
theorem dX5_cutNodes_13 : decode cX5_cutNodes 13 = .ok (.getfield 42, 3) := by decide +kernel
theorem dX5_cutNodes_16 : decode cX5_cutNodes 16 = .ok (.iload 6, 2) := by decide +kernel
theorem dX5_cutNodes_18 : decode cX5_cutNodes 18 = .ok (.iload_n 1, 1) := by decide +kernel
theorem dX5_cutNodes_19 : decode cX5_cutNodes 19 = .ok (.isub, 1) := by decide +kernel
theorem dX5_cutNodes_20 : decode cX5_cutNodes 20 = .ok (.invokevirtual 48, 3) := by decide +kernel
theorem dX5_cutNodes_23 : decode cX5_cutNodes 23 = .ok (.istore 7, 2) := by decide +kernel
theorem dX5_cutNodes_25 : decode cX5_cutNodes 25 = .ok (.iload 5, 2) := by decide +kernel
theorem dX5_cutNodes_27 : decode cX5_cutNodes 27 = .ok (.iconst (-1), 1) := by decide +kernel
theorem dX5_cutNodes_28 : decode cX5_cutNodes 28 = .ok (.if_icmp .eq 16, 3) := by decide +kernel
theorem dX5_cutNodes_31 : decode cX5_cutNodes 31 = .ok (.aload_n 0, 1) := by decide +kernel
theorem dX5_cutNodes_32 : decode cX5_cutNodes 32 = .ok (.getfield 33, 3) := by decide +kernel
theorem dX5_cutNodes_35 : decode cX5_cutNodes 35 = .ok (.iload 5, 2) := by decide +kernel
theorem dX5_cutNodes_37 : decode cX5_cutNodes 37 = .ok (.invokevirtual 48, 3) := by decide +kernel
theorem dX5_cutNodes_40 : decode cX5_cutNodes 40 = .ok (.iload_n 3, 1) := by decide +kernel
theorem dX5_cutNodes_41 : decode cX5_cutNodes 41 = .ok (.if_icmp .lt 34, 3) := by decide +kernel
theorem dX5_cutNodes_44 : decode cX5_cutNodes 44 = .ok (.aload_n 0, 1) := by decide +kernel
theorem dX5_cutNodes_45 : decode cX5_cutNodes 45 = .ok (.iload 4, 2) := by decide +kernel
theorem dX5_cutNodes_47 : decode cX5_cutNodes 47 = .ok (.invokevirtual 97, 3) := by decide +kernel
theorem dX5_cutNodes_50 : decode cX5_cutNodes 50 = .ok (.istore 5, 2) := by decide +kernel
theorem dX5_cutNodes_52 : decode cX5_cutNodes 52 = .ok (.aload_n 0, 1) := by decide +kernel
theorem dX5_cutNodes_53 : decode cX5_cutNodes 53 = .ok (.iload 5, 2) := by decide +kernel
theorem dX5_cutNodes_55 : decode cX5_cutNodes 55 = .ok (.aload_n 0, 1) := by decide +kernel
theorem dX5_cutNodes_56 : decode cX5_cutNodes 56 = .ok (.getfield 14, 3) := by decide +kernel
theorem dX5_cutNodes_59 : decode cX5_cutNodes 59 = .ok (.iload 7, 2) := by decide +kernel
theorem dX5_cutNodes_61 : decode cX5_cutNodes 61 = .ok (.invokevirtual 151, 3) := by decide +kernel
theorem dX5_cutNodes_64 : decode cX5_cutNodes 64 = .ok (.aload_n 0, 1) := by decide +kernel
theorem dX5_cutNodes_65 : decode cX5_cutNodes 65 = .ok (.getfield 30, 3) := by decide +kernel
theorem dX5_cutNodes_68 : decode cX5_cutNodes 68 = .ok (.iload 5, 2) := by decide +kernel
theorem dX5_cutNodes_70 : decode cX5_cutNodes 70 = .ok (.iload 6, 2) := by decide +kernel
theorem dX5_cutNodes_72 : decode cX5_cutNodes 72 = .ok (.invokevirtual 87, 3) := by decide +kernel
theorem dX5_cutNodes_75 : decode cX5_cutNodes 75 = .ok (.aload_n 0, 1) := by decide +kernel
theorem dX5_cutNodes_76 : decode cX5_cutNodes 76 = .ok (.getfield 14, 3) := by decide +kernel
theorem dX5_cutNodes_79 : decode cX5_cutNodes 79 = .ok (.iload 5, 2) := by decide +kernel
theorem dX5_cutNodes_81 : decode cX5_cutNodes 81 = .ok (.aload_n 0, 1) := by decide +kernel
theorem dX5_cutNodes_82 : decode cX5_cutNodes 82 = .ok (.getfield 14, 3) := by decide +kernel
theorem dX5_cutNodes_85 : decode cX5_cutNodes 85 = .ok (.iload 7, 2) := by decide +kernel
theorem dX5_cutNodes_87 : decode cX5_cutNodes 87 = .ok (.invokevirtual 155, 3) := by decide +kernel
theorem dX5_cutNodes_90 : decode cX5_cutNodes 90 = .ok (.aload_n 0, 1) := by decide +kernel
theorem dX5_cutNodes_91 : decode cX5_cutNodes 91 = .ok (.getfield 36, 3) := by decide +kernel
theorem dX5_cutNodes_94 : decode cX5_cutNodes 94 = .ok (.iload 6, 2) := by decide +kernel
theorem dX5_cutNodes_96 : decode cX5_cutNodes 96 = .ok (.iload 7, 2) := by decide +kernel
theorem dX5_cutNodes_98 : decode cX5_cutNodes 98 = .ok (.invokevirtual 87, 3) := by decide +kernel
theorem dX5_cutNodes_101 : decode cX5_cutNodes 101 = .ok (.aload_n 0, 1) := by decide +kernel
theorem dX5_cutNodes_102 : decode cX5_cutNodes 102 = .ok (.getfield 33, 3) := by decide +kernel
theorem dX5_cutNodes_105 : decode cX5_cutNodes 105 = .ok (.iload 5, 2) := by decide +kernel
theorem dX5_cutNodes_107 : decode cX5_cutNodes 107 = .ok (.iconst 1, 1) := by decide +kernel
theorem dX5_cutNodes_108 : decode cX5_cutNodes 108 = .ok (.invokevirtual 91, 3) := by decide +kernel
theorem dX5_cutNodes_111 : decode cX5_cutNodes 111 = .ok (.iinc 6 1, 3) := by decide +kernel
theorem dX5_cutNodes_114 : decode cX5_cutNodes 114 = .ok (.goto (-108), 3) := by decide +kernel
theorem dX5_cutNodes_117 : decode cX5_cutNodes 117 = .ok (.return_, 1) := by decide +kernel
theorem dX5_copyBox_0 : decode cX5_copyBox 0 = .ok (.aload_n 0, 1) := by decide +kernel
theorem dX5_copyBox_1 : decode cX5_copyBox 1 = .ok (.getfield 14, 3) := by decide +kernel
theorem dX5_copyBox_4 : decode cX5_copyBox 4 = .ok (.iload_n 1, 1) := by decide +kernel
theorem dX5_copyBox_5 : decode cX5_copyBox 5 = .ok (.aload_n 2, 1) := by decide +kernel
theorem dX5_copyBox_6 : decode cX5_copyBox 6 = .ok (.getfield 78, 3) := by decide +kernel
theorem dX5_copyBox_9 : decode cX5_copyBox 9 = .ok (.iload_n 3, 1) := by decide +kernel
theorem dX5_copyBox_10 : decode cX5_copyBox 10 = .ok (.invokevirtual 48, 3) := by decide +kernel
theorem dX5_copyBox_13 : decode cX5_copyBox 13 = .ok (.aload_n 2, 1) := by decide +kernel
theorem dX5_copyBox_14 : decode cX5_copyBox 14 = .ok (.getfield 81, 3) := by decide +kernel
theorem dX5_copyBox_17 : decode cX5_copyBox 17 = .ok (.iload_n 3, 1) := by decide +kernel
theorem dX5_copyBox_18 : decode cX5_copyBox 18 = .ok (.invokevirtual 48, 3) := by decide +kernel
theorem dX5_copyBox_21 : decode cX5_copyBox 21 = .ok (.aload_n 2, 1) := by decide +kernel
theorem dX5_copyBox_22 : decode cX5_copyBox 22 = .ok (.getfield 84, 3) := by decide +kernel
theorem dX5_copyBox_25 : decode cX5_copyBox 25 = .ok (.iload_n 3, 1) := by decide +kernel
theorem dX5_copyBox_26 : decode cX5_copyBox 26 = .ok (.invokevirtual 48, 3) := by decide +kernel
theorem dX5_copyBox_29 : decode cX5_copyBox 29 = .ok (.aload_n 2, 1) := by decide +kernel
theorem dX5_copyBox_30 : decode cX5_copyBox 30 = .ok (.getfield 158, 3) := by decide +kernel
theorem dX5_copyBox_33 : decode cX5_copyBox 33 = .ok (.iload_n 3, 1) := by decide +kernel
theorem dX5_copyBox_34 : decode cX5_copyBox 34 = .ok (.invokevirtual 48, 3) := by decide +kernel
theorem dX5_copyBox_37 : decode cX5_copyBox 37 = .ok (.invokevirtual 100, 3) := by decide +kernel
theorem dX5_copyBox_40 : decode cX5_copyBox 40 = .ok (.return_, 1) := by decide +kernel
theorem dX6_init_0 : decode cX6_init 0 = .ok (.aload_n 0, 1) := by decide +kernel
theorem dX6_init_1 : decode cX6_init 1 = .ok (.invokespecial 1, 3) := by decide +kernel
theorem dX6_init_4 : decode cX6_init 4 = .ok (.aload_n 0, 1) := by decide +kernel
theorem dX6_init_5 : decode cX6_init 5 = .ok (.new 7, 3) := by decide +kernel
theorem dX6_init_8 : decode cX6_init 8 = .ok (.dup, 1) := by decide +kernel
theorem dX6_init_9 : decode cX6_init 9 = .ok (.invokespecial 9, 3) := by decide +kernel
theorem dX6_init_12 : decode cX6_init 12 = .ok (.putfield 10, 3) := by decide +kernel
theorem dX6_init_15 : decode cX6_init 15 = .ok (.aload_n 0, 1) := by decide +kernel
theorem dX6_init_16 : decode cX6_init 16 = .ok (.iconst 4, 1) := by decide +kernel
theorem dX6_init_17 : decode cX6_init 17 = .ok (.anewarray 16, 3) := by decide +kernel
theorem dX6_init_20 : decode cX6_init 20 = .ok (.putfield 18, 3) := by decide +kernel
theorem dX6_init_23 : decode cX6_init 23 = .ok (.aload_n 0, 1) := by decide +kernel
theorem dX6_init_24 : decode cX6_init 24 = .ok (.new 22, 3) := by decide +kernel
theorem dX6_init_27 : decode cX6_init 27 = .ok (.dup, 1) := by decide +kernel
theorem dX6_init_28 : decode cX6_init 28 = .ok (.invokespecial 24, 3) := by decide +kernel
theorem dX6_init_31 : decode cX6_init 31 = .ok (.putfield 25, 3) := by decide +kernel
theorem dX6_init_34 : decode cX6_init 34 = .ok (.aload_n 0, 1) := by decide +kernel
theorem dX6_init_35 : decode cX6_init 35 = .ok (.new 29, 3) := by decide +kernel
theorem dX6_init_38 : decode cX6_init 38 = .ok (.dup, 1) := by decide +kernel
theorem dX6_init_39 : decode cX6_init 39 = .ok (.invokespecial 31, 3) := by decide +kernel
theorem dX6_init_42 : decode cX6_init 42 = .ok (.putfield 32, 3) := by decide +kernel
theorem dX6_init_45 : decode cX6_init 45 = .ok (.aload_n 0, 1) := by decide +kernel
theorem dX6_init_46 : decode cX6_init 46 = .ok (.iconst 0, 1) := by decide +kernel
theorem dX6_init_47 : decode cX6_init 47 = .ok (.putfield 36, 3) := by decide +kernel
theorem dX6_init_50 : decode cX6_init 50 = .ok (.return_, 1) := by decide +kernel
theorem dX6_addLayer_0 : decode cX6_addLayer 0 = .ok (.aload_n 0, 1) := by decide +kernel
theorem dX6_addLayer_1 : decode cX6_addLayer 1 = .ok (.getfield 36, 3) := by decide +kernel
theorem dX6_addLayer_4 : decode cX6_addLayer 4 = .ok (.ifCond .lt 15, 3) := by decide +kernel
theorem dX6_addLayer_7 : decode cX6_addLayer 7 = .ok (.aload_n 0, 1) := by decide +kernel
theorem dX6_addLayer_8 : decode cX6_addLayer 8 = .ok (.getfield 36, 3) := by decide +kernel
theorem dX6_addLayer_11 : decode cX6_addLayer 11 = .ok (.aload_n 0, 1) := by decide +kernel
theorem dX6_addLayer_12 : decode cX6_addLayer 12 = .ok (.getfield 18, 3) := by decide +kernel
theorem dX6_addLayer_15 : decode cX6_addLayer 15 = .ok (.arraylength, 1) := by decide +kernel
theorem dX6_addLayer_16 : decode cX6_addLayer 16 = .ok (.if_icmp .lt 13, 3) := by decide +kernel
theorem dX6_addLayer_19 : decode cX6_addLayer 19 = .ok (.new 40, 3) := by decide +kernel
theorem dX6_addLayer_22 : decode cX6_addLayer 22 = .ok (.dup, 1) := by decide +kernel
theorem dX6_addLayer_23 : decode cX6_addLayer 23 = .ok (.ldc 42, 2) := by decide +kernel
theorem dX6_addLayer_25 : decode cX6_addLayer 25 = .ok (.invokespecial 44, 3) := by decide +kernel
theorem dX6_addLayer_28 : decode cX6_addLayer 28 = .ok (.athrow, 1) := by decide +kernel
theorem dX6_addLayer_29 : decode cX6_addLayer 29 = .ok (.new 16, 3) := by decide +kernel
theorem dX6_addLayer_32 : decode cX6_addLayer 32 = .ok (.dup, 1) := by decide +kernel
theorem dX6_addLayer_33 : decode cX6_addLayer 33 = .ok (.aload_n 0, 1) := by decide +kernel
theorem dX6_addLayer_34 : decode cX6_addLayer 34 = .ok (.getfield 36, 3) := by decide +kernel
theorem dX6_addLayer_37 : decode cX6_addLayer 37 = .ok (.iload_n 1, 1) := by decide +kernel
theorem dX6_addLayer_38 : decode cX6_addLayer 38 = .ok (.invokespecial 47, 3) := by decide +kernel
theorem dX6_addLayer_41 : decode cX6_addLayer 41 = .ok (.astore_n 2, 1) := by decide +kernel
theorem dX6_addLayer_42 : decode cX6_addLayer 42 = .ok (.aload_n 0, 1) := by decide +kernel
theorem dX6_addLayer_43 : decode cX6_addLayer 43 = .ok (.getfield 18, 3) := by decide +kernel
theorem dX6_addLayer_46 : decode cX6_addLayer 46 = .ok (.aload_n 0, 1) := by decide +kernel
theorem dX6_addLayer_47 : decode cX6_addLayer 47 = .ok (.getfield 36, 3) := by decide +kernel
theorem dX6_addLayer_50 : decode cX6_addLayer 50 = .ok (.aload_n 2, 1) := by decide +kernel
theorem dX6_addLayer_51 : decode cX6_addLayer 51 = .ok (.aastore, 1) := by decide +kernel
theorem dX6_addLayer_52 : decode cX6_addLayer 52 = .ok (.aload_n 0, 1) := by decide +kernel
theorem dX6_addLayer_53 : decode cX6_addLayer 53 = .ok (.dup, 1) := by decide +kernel
theorem dX6_addLayer_54 : decode cX6_addLayer 54 = .ok (.getfield 36, 3) := by decide +kernel
theorem dX6_addLayer_57 : decode cX6_addLayer 57 = .ok (.iconst 1, 1) := by decide +kernel
theorem dX6_addLayer_58 : decode cX6_addLayer 58 = .ok (.iadd, 1) := by decide +kernel
theorem dX6_addLayer_59 : decode cX6_addLayer 59 = .ok (.putfield 36, 3) := by decide +kernel
theorem dX6_addLayer_62 : decode cX6_addLayer 62 = .ok (.aload_n 2, 1) := by decide +kernel
theorem dX6_addLayer_63 : decode cX6_addLayer 63 = .ok (.aload_n 0, 1) := by decide +kernel
theorem dX6_addLayer_64 : decode cX6_addLayer 64 = .ok (.getfield 10, 3) := by decide +kernel
theorem dX6_addLayer_67 : decode cX6_addLayer 67 = .ok (.invokevirtual 50, 3) := by decide +kernel
theorem dX6_addLayer_70 : decode cX6_addLayer 70 = .ok (.aload_n 2, 1) := by decide +kernel
theorem dX6_addLayer_71 : decode cX6_addLayer 71 = .ok (.getfield 54, 3) := by decide +kernel
theorem dX6_addLayer_74 : decode cX6_addLayer 74 = .ok (.ireturn, 1) := by decide +kernel
theorem dX6_setSize_0 : decode cX6_setSize 0 = .ok (.aload_n 0, 1) := by decide +kernel
theorem dX6_setSize_1 : decode cX6_setSize 1 = .ok (.iload_n 1, 1) := by decide +kernel
theorem dX6_setSize_2 : decode cX6_setSize 2 = .ok (.invokevirtual 57, 3) := by decide +kernel
theorem dX6_setSize_5 : decode cX6_setSize 5 = .ok (.astore_n 3, 1) := by decide +kernel
theorem dX6_setSize_6 : decode cX6_setSize 6 = .ok (.aload_n 3, 1) := by decide +kernel
theorem dX6_setSize_7 : decode cX6_setSize 7 = .ok (.iload_n 2, 1) := by decide +kernel
theorem dX6_setSize_8 : decode cX6_setSize 8 = .ok (.invokestatic 61, 3) := by decide +kernel
theorem dX6_setSize_11 : decode cX6_setSize 11 = .ok (.aload_n 3, 1) := by decide +kernel
theorem dX6_setSize_12 : decode cX6_setSize 12 = .ok (.getfield 65, 3) := by decide +kernel
theorem dX6_setSize_15 : decode cX6_setSize 15 = .ok (.istore 4, 2) := by decide +kernel
theorem dX6_setSize_17 : decode cX6_setSize 17 = .ok (.aload_n 3, 1) := by decide +kernel
theorem dX6_setSize_18 : decode cX6_setSize 18 = .ok (.iload_n 2, 1) := by decide +kernel
theorem dX6_setSize_19 : decode cX6_setSize 19 = .ok (.putfield 65, 3) := by decide +kernel
theorem dX6_setSize_22 : decode cX6_setSize 22 = .ok (.aload_n 3, 1) := by decide +kernel
theorem dX6_setSize_23 : decode cX6_setSize 23 = .ok (.aload_n 0, 1) := by decide +kernel
theorem dX6_setSize_24 : decode cX6_setSize 24 = .ok (.getfield 10, 3) := by decide +kernel
theorem dX6_setSize_27 : decode cX6_setSize 27 = .ok (.invokevirtual 50, 3) := by decide +kernel
theorem dX6_setSize_30 : decode cX6_setSize 30 = .ok (.iload 4, 2) := by decide +kernel
theorem dX6_setSize_32 : decode cX6_setSize 32 = .ok (.ireturn, 1) := by decide +kernel
theorem dX6_addPoint_0 : decode cX6_addPoint 0 = .ok (.aload_n 0, 1) := by decide +kernel
theorem dX6_addPoint_1 : decode cX6_addPoint 1 = .ok (.iload_n 1, 1) := by decide +kernel
theorem dX6_addPoint_2 : decode cX6_addPoint 2 = .ok (.invokevirtual 57, 3) := by decide +kernel
theorem dX6_addPoint_5 : decode cX6_addPoint 5 = .ok (.astore 5, 2) := by decide +kernel
theorem dX6_addPoint_7 : decode cX6_addPoint 7 = .ok (.aload 5, 2) := by decide +kernel
theorem dX6_addPoint_9 : decode cX6_addPoint 9 = .ok (.invokestatic 68, 3) := by decide +kernel
theorem dX6_addPoint_12 : decode cX6_addPoint 12 = .ok (.iload_n 2, 1) := by decide +kernel
theorem dX6_addPoint_13 : decode cX6_addPoint 13 = .ok (.iload_n 3, 1) := by decide +kernel
theorem dX6_addPoint_14 : decode cX6_addPoint 14 = .ok (.invokestatic 72, 3) := by decide +kernel
theorem dX6_addPoint_17 : decode cX6_addPoint 17 = .ok (.iload 4, 2) := by decide +kernel
theorem dX6_addPoint_19 : decode cX6_addPoint 19 = .ok (.ifCond .lt 10, 3) := by decide +kernel
theorem dX6_addPoint_22 : decode cX6_addPoint 22 = .ok (.iload 4, 2) := by decide +kernel
theorem dX6_addPoint_24 : decode cX6_addPoint 24 = .ok (.bipush 10, 2) := by decide +kernel
theorem dX6_addPoint_26 : decode cX6_addPoint 26 = .ok (.if_icmp .lt 13, 3) := by decide +kernel
theorem dX6_addPoint_29 : decode cX6_addPoint 29 = .ok (.new 76, 3) := by decide +kernel
theorem dX6_addPoint_32 : decode cX6_addPoint 32 = .ok (.dup, 1) := by decide +kernel
theorem dX6_addPoint_33 : decode cX6_addPoint 33 = .ok (.ldc 78, 2) := by decide +kernel
theorem dX6_addPoint_35 : decode cX6_addPoint 35 = .ok (.invokespecial 80, 3) := by decide +kernel
theorem dX6_addPoint_38 : decode cX6_addPoint 38 = .ok (.athrow, 1) := by decide +kernel
theorem dX6_addPoint_39 : decode cX6_addPoint 39 = .ok (.aload_n 0, 1) := by decide +kernel
theorem dX6_addPoint_40 : decode cX6_addPoint 40 = .ok (.iconst 1, 1) := by decide +kernel
theorem dX6_addPoint_41 : decode cX6_addPoint 41 = .ok (.invokevirtual 81, 3) := by decide +kernel
theorem dX6_addPoint_44 : decode cX6_addPoint 44 = .ok (.aload_n 0, 1) := by decide +kernel
theorem dX6_addPoint_45 : decode cX6_addPoint 45 = .ok (.getfield 10, 3) := by decide +kernel
theorem dX6_addPoint_48 : decode cX6_addPoint 48 = .ok (.iload_n 1, 1) := by decide +kernel
theorem dX6_addPoint_49 : decode cX6_addPoint 49 = .ok (.iload 4, 2) := by decide +kernel
theorem dX6_addPoint_51 : decode cX6_addPoint 51 = .ok (.invokevirtual 85, 3) := by decide +kernel
theorem dX6_addPoint_54 : decode cX6_addPoint 54 = .ok (.istore 6, 2) := by decide +kernel
theorem dX6_addPoint_56 : decode cX6_addPoint 56 = .ok (.aload_n 0, 1) := by decide +kernel
theorem dX6_addPoint_57 : decode cX6_addPoint 57 = .ok (.getfield 10, 3) := by decide +kernel
theorem dX6_addPoint_60 : decode cX6_addPoint 60 = .ok (.getfield 89, 3) := by decide +kernel
theorem dX6_addPoint_63 : decode cX6_addPoint 63 = .ok (.iload 6, 2) := by decide +kernel
theorem dX6_addPoint_65 : decode cX6_addPoint 65 = .ok (.iload_n 2, 1) := by decide +kernel
theorem dX6_addPoint_66 : decode cX6_addPoint 66 = .ok (.iload_n 3, 1) := by decide +kernel
theorem dX6_addPoint_67 : decode cX6_addPoint 67 = .ok (.iconst 0, 1) := by decide +kernel
theorem dX6_addPoint_68 : decode cX6_addPoint 68 = .ok (.iconst 0, 1) := by decide +kernel
theorem dX6_addPoint_69 : decode cX6_addPoint 69 = .ok (.invokevirtual 93, 3) := by decide +kernel
theorem dX6_addPoint_72 : decode cX6_addPoint 72 = .ok (.aload 5, 2) := by decide +kernel
theorem dX6_addPoint_74 : decode cX6_addPoint 74 = .ok (.aload_n 0, 1) := by decide +kernel
theorem dX6_addPoint_75 : decode cX6_addPoint 75 = .ok (.getfield 10, 3) := by decide +kernel
theorem dX6_addPoint_78 : decode cX6_addPoint 78 = .ok (.invokevirtual 50, 3) := by decide +kernel
theorem dX6_addPoint_81 : decode cX6_addPoint 81 = .ok (.iload 6, 2) := by decide +kernel
theorem dX6_addPoint_83 : decode cX6_addPoint 83 = .ok (.ireturn, 1) := by decide +kernel
theorem dX6_addBox_0 : decode cX6_addBox 0 = .ok (.aload_n 0, 1) := by decide +kernel
theorem dX6_addBox_1 : decode cX6_addBox 1 = .ok (.iload_n 1, 1) := by decide +kernel
theorem dX6_addBox_2 : decode cX6_addBox 2 = .ok (.invokevirtual 57, 3) := by decide +kernel
theorem dX6_addBox_5 : decode cX6_addBox 5 = .ok (.invokestatic 99, 3) := by decide +kernel
theorem dX6_addBox_8 : decode cX6_addBox 8 = .ok (.iload_n 2, 1) := by decide +kernel
theorem dX6_addBox_9 : decode cX6_addBox 9 = .ok (.iload_n 3, 1) := by decide +kernel
theorem dX6_addBox_10 : decode cX6_addBox 10 = .ok (.invokestatic 72, 3) := by decide +kernel
theorem dX6_addBox_13 : decode cX6_addBox 13 = .ok (.iload 4, 2) := by decide +kernel
theorem dX6_addBox_15 : decode cX6_addBox 15 = .ok (.ifCond .lt 24, 3) := by decide +kernel
theorem dX6_addBox_18 : decode cX6_addBox 18 = .ok (.iload 4, 2) := by decide +kernel
theorem dX6_addBox_20 : decode cX6_addBox 20 = .ok (.sipush 200, 3) := by decide +kernel
theorem dX6_addBox_23 : decode cX6_addBox 23 = .ok (.if_icmp .gt 16, 3) := by decide +kernel
theorem dX6_addBox_26 : decode cX6_addBox 26 = .ok (.iload 5, 2) := by decide +kernel
theorem dX6_addBox_28 : decode cX6_addBox 28 = .ok (.ifCond .lt 11, 3) := by decide +kernel
theorem dX6_addBox_31 : decode cX6_addBox 31 = .ok (.iload 5, 2) := by decide +kernel
theorem dX6_addBox_33 : decode cX6_addBox 33 = .ok (.sipush 200, 3) := by decide +kernel
theorem dX6_addBox_36 : decode cX6_addBox 36 = .ok (.if_icmp .le 13, 3) := by decide +kernel
theorem dX6_addBox_39 : decode cX6_addBox 39 = .ok (.new 76, 3) := by decide +kernel
theorem dX6_addBox_42 : decode cX6_addBox 42 = .ok (.dup, 1) := by decide +kernel
theorem dX6_addBox_43 : decode cX6_addBox 43 = .ok (.ldc 102, 2) := by decide +kernel
theorem dX6_addBox_45 : decode cX6_addBox 45 = .ok (.invokespecial 80, 3) := by decide +kernel
theorem dX6_addBox_48 : decode cX6_addBox 48 = .ok (.athrow, 1) := by decide +kernel
theorem dX6_addBox_49 : decode cX6_addBox 49 = .ok (.iload_n 2, 1) := by decide +kernel
theorem dX6_addBox_50 : decode cX6_addBox 50 = .ok (.iload 4, 2) := by decide +kernel
theorem dX6_addBox_52 : decode cX6_addBox 52 = .ok (.iadd, 1) := by decide +kernel
theorem dX6_addBox_53 : decode cX6_addBox 53 = .ok (.iload_n 3, 1) := by decide +kernel
theorem dX6_addBox_54 : decode cX6_addBox 54 = .ok (.iload 5, 2) := by decide +kernel
theorem dX6_addBox_56 : decode cX6_addBox 56 = .ok (.iadd, 1) := by decide +kernel
theorem dX6_addBox_57 : decode cX6_addBox 57 = .ok (.invokestatic 72, 3) := by decide +kernel
theorem dX6_addBox_60 : decode cX6_addBox 60 = .ok (.iload 6, 2) := by decide +kernel
theorem dX6_addBox_62 : decode cX6_addBox 62 = .ok (.ifCond .lt 10, 3) := by decide +kernel
theorem dX6_addBox_65 : decode cX6_addBox 65 = .ok (.iload 6, 2) := by decide +kernel
theorem dX6_addBox_67 : decode cX6_addBox 67 = .ok (.bipush 10, 2) := by decide +kernel
theorem dX6_addBox_69 : decode cX6_addBox 69 = .ok (.if_icmp .lt 13, 3) := by decide +kernel
theorem dX6_addBox_72 : decode cX6_addBox 72 = .ok (.new 76, 3) := by decide +kernel
theorem dX6_addBox_75 : decode cX6_addBox 75 = .ok (.dup, 1) := by decide +kernel
theorem dX6_addBox_76 : decode cX6_addBox 76 = .ok (.ldc 78, 2) := by decide +kernel
theorem dX6_addBox_78 : decode cX6_addBox 78 = .ok (.invokespecial 80, 3) := by decide +kernel
theorem dX6_addBox_81 : decode cX6_addBox 81 = .ok (.athrow, 1) := by decide +kernel
theorem dX6_addBox_82 : decode cX6_addBox 82 = .ok (.aload_n 0, 1) := by decide +kernel
theorem dX6_addBox_83 : decode cX6_addBox 83 = .ok (.iconst 1, 1) := by decide +kernel
theorem dX6_addBox_84 : decode cX6_addBox 84 = .ok (.invokevirtual 81, 3) := by decide +kernel
theorem dX6_addBox_87 : decode cX6_addBox 87 = .ok (.aload_n 0, 1) := by decide +kernel
theorem dX6_addBox_88 : decode cX6_addBox 88 = .ok (.getfield 10, 3) := by decide +kernel
theorem dX6_addBox_91 : decode cX6_addBox 91 = .ok (.iload_n 1, 1) := by decide +kernel
theorem dX6_addBox_92 : decode cX6_addBox 92 = .ok (.iload 6, 2) := by decide +kernel
theorem dX6_addBox_94 : decode cX6_addBox 94 = .ok (.invokevirtual 85, 3) := by decide +kernel
theorem dX6_addBox_97 : decode cX6_addBox 97 = .ok (.istore 7, 2) := by decide +kernel
theorem dX6_addBox_99 : decode cX6_addBox 99 = .ok (.aload_n 0, 1) := by decide +kernel
theorem dX6_addBox_100 : decode cX6_addBox 100 = .ok (.getfield 10, 3) := by decide +kernel
theorem dX6_addBox_103 : decode cX6_addBox 103 = .ok (.getfield 89, 3) := by decide +kernel
theorem dX6_addBox_106 : decode cX6_addBox 106 = .ok (.iload 7, 2) := by decide +kernel
theorem dX6_addBox_108 : decode cX6_addBox 108 = .ok (.iload_n 2, 1) := by decide +kernel
theorem dX6_addBox_109 : decode cX6_addBox 109 = .ok (.iload_n 3, 1) := by decide +kernel
theorem dX6_addBox_110 : decode cX6_addBox 110 = .ok (.iload 4, 2) := by decide +kernel
theorem dX6_addBox_112 : decode cX6_addBox 112 = .ok (.iload 5, 2) := by decide +kernel
theorem dX6_addBox_114 : decode cX6_addBox 114 = .ok (.invokevirtual 93, 3) := by decide +kernel
theorem dX6_addBox_117 : decode cX6_addBox 117 = .ok (.iload 7, 2) := by decide +kernel
theorem dX6_addBox_119 : decode cX6_addBox 119 = .ok (.ireturn, 1) := by decide +kernel
theorem dX6_move_0 : decode cX6_move 0 = .ok (.aload_n 0, 1) := by decide +kernel
theorem dX6_move_1 : decode cX6_move 1 = .ok (.iload_n 1, 1) := by decide +kernel
theorem dX6_move_2 : decode cX6_move 2 = .ok (.invokevirtual 109, 3) := by decide +kernel
theorem dX6_move_5 : decode cX6_move 5 = .ok (.astore 4, 2) := by decide +kernel
theorem dX6_move_7 : decode cX6_move 7 = .ok (.aload_n 0, 1) := by decide +kernel
theorem dX6_move_8 : decode cX6_move 8 = .ok (.getfield 10, 3) := by decide +kernel
theorem dX6_move_11 : decode cX6_move 11 = .ok (.getfield 89, 3) := by decide +kernel
theorem dX6_move_14 : decode cX6_move 14 = .ok (.astore 5, 2) := by decide +kernel
theorem dX6_move_16 : decode cX6_move 16 = .ok (.aload 5, 2) := by decide +kernel
theorem dX6_move_18 : decode cX6_move 18 = .ok (.getfield 112, 3) := by decide +kernel
theorem dX6_move_21 : decode cX6_move 21 = .ok (.iload_n 1, 1) := by decide +kernel
theorem dX6_move_22 : decode cX6_move 22 = .ok (.invokevirtual 116, 3) := by decide +kernel
theorem dX6_move_25 : decode cX6_move 25 = .ok (.istore 6, 2) := by decide +kernel
theorem dX6_move_27 : decode cX6_move 27 = .ok (.aload 5, 2) := by decide +kernel
theorem dX6_move_29 : decode cX6_move 29 = .ok (.getfield 122, 3) := by decide +kernel
theorem dX6_move_32 : decode cX6_move 32 = .ok (.iload_n 1, 1) := by decide +kernel
theorem dX6_move_33 : decode cX6_move 33 = .ok (.invokevirtual 116, 3) := by decide +kernel
theorem dX6_move_36 : decode cX6_move 36 = .ok (.istore 7, 2) := by decide +kernel
theorem dX6_move_38 : decode cX6_move 38 = .ok (.iload_n 2, 1) := by decide +kernel
theorem dX6_move_39 : decode cX6_move 39 = .ok (.iload_n 3, 1) := by decide +kernel
theorem dX6_move_40 : decode cX6_move 40 = .ok (.invokestatic 72, 3) := by decide +kernel
theorem dX6_move_43 : decode cX6_move 43 = .ok (.iload_n 2, 1) := by decide +kernel
theorem dX6_move_44 : decode cX6_move 44 = .ok (.iload 6, 2) := by decide +kernel
theorem dX6_move_46 : decode cX6_move 46 = .ok (.iadd, 1) := by decide +kernel
theorem dX6_move_47 : decode cX6_move 47 = .ok (.iload_n 3, 1) := by decide +kernel
theorem dX6_move_48 : decode cX6_move 48 = .ok (.iload 7, 2) := by decide +kernel
theorem dX6_move_50 : decode cX6_move 50 = .ok (.iadd, 1) := by decide +kernel
theorem dX6_move_51 : decode cX6_move 51 = .ok (.invokestatic 72, 3) := by decide +kernel
theorem dX6_move_54 : decode cX6_move 54 = .ok (.aload 5, 2) := by decide +kernel
theorem dX6_move_56 : decode cX6_move 56 = .ok (.iload_n 1, 1) := by decide +kernel
theorem dX6_move_57 : decode cX6_move 57 = .ok (.iload_n 2, 1) := by decide +kernel
theorem dX6_move_58 : decode cX6_move 58 = .ok (.iload_n 3, 1) := by decide +kernel
theorem dX6_move_59 : decode cX6_move 59 = .ok (.iload 6, 2) := by decide +kernel
theorem dX6_move_61 : decode cX6_move 61 = .ok (.iload 7, 2) := by decide +kernel
theorem dX6_move_63 : decode cX6_move 63 = .ok (.invokevirtual 125, 3) := by decide +kernel
theorem dX6_move_66 : decode cX6_move 66 = .ok (.istore 8, 2) := by decide +kernel
theorem dX6_move_68 : decode cX6_move 68 = .ok (.aload 5, 2) := by decide +kernel
theorem dX6_move_70 : decode cX6_move 70 = .ok (.iload_n 1, 1) := by decide +kernel
theorem dX6_move_71 : decode cX6_move 71 = .ok (.iload_n 2, 1) := by decide +kernel
theorem dX6_move_72 : decode cX6_move 72 = .ok (.iload_n 3, 1) := by decide +kernel
theorem dX6_move_73 : decode cX6_move 73 = .ok (.iload 6, 2) := by decide +kernel
theorem dX6_move_75 : decode cX6_move 75 = .ok (.iload 7, 2) := by decide +kernel
theorem dX6_move_77 : decode cX6_move 77 = .ok (.invokevirtual 93, 3) := by decide +kernel
theorem dX6_move_80 : decode cX6_move 80 = .ok (.aload 4, 2) := by decide +kernel
theorem dX6_move_82 : decode cX6_move 82 = .ok (.iload_n 1, 1) := by decide +kernel
theorem dX6_move_83 : decode cX6_move 83 = .ok (.invokevirtual 129, 3) := by decide +kernel
theorem dX6_move_86 : decode cX6_move 86 = .ok (.aload 4, 2) := by decide +kernel
theorem dX6_move_88 : decode cX6_move 88 = .ok (.aload_n 0, 1) := by decide +kernel
theorem dX6_move_89 : decode cX6_move 89 = .ok (.getfield 10, 3) := by decide +kernel
theorem dX6_move_92 : decode cX6_move 92 = .ok (.invokevirtual 50, 3) := by decide +kernel
theorem dX6_move_95 : decode cX6_move 95 = .ok (.iload 8, 2) := by decide +kernel
theorem dX6_move_97 : decode cX6_move 97 = .ok (.ireturn, 1) := by decide +kernel
theorem dX6_remove_0 : decode cX6_remove 0 = .ok (.aload_n 0, 1) := by decide +kernel
theorem dX6_remove_1 : decode cX6_remove 1 = .ok (.iload_n 1, 1) := by decide +kernel
theorem dX6_remove_2 : decode cX6_remove 2 = .ok (.invokevirtual 109, 3) := by decide +kernel
theorem dX6_remove_5 : decode cX6_remove 5 = .ok (.astore_n 2, 1) := by decide +kernel
theorem dX6_remove_6 : decode cX6_remove 6 = .ok (.aload_n 0, 1) := by decide +kernel
theorem dX6_remove_7 : decode cX6_remove 7 = .ok (.getfield 10, 3) := by decide +kernel
theorem dX6_remove_10 : decode cX6_remove 10 = .ok (.getfield 132, 3) := by decide +kernel
theorem dX6_remove_13 : decode cX6_remove 13 = .ok (.iload_n 1, 1) := by decide +kernel
theorem dX6_remove_14 : decode cX6_remove 14 = .ok (.iconst (-1), 1) := by decide +kernel
theorem dX6_remove_15 : decode cX6_remove 15 = .ok (.invokevirtual 135, 3) := by decide +kernel
theorem dX6_remove_18 : decode cX6_remove 18 = .ok (.aload_n 2, 1) := by decide +kernel
theorem dX6_remove_19 : decode cX6_remove 19 = .ok (.iload_n 1, 1) := by decide +kernel
theorem dX6_remove_20 : decode cX6_remove 20 = .ok (.invokevirtual 129, 3) := by decide +kernel
theorem dX6_remove_23 : decode cX6_remove 23 = .ok (.aload_n 2, 1) := by decide +kernel
theorem dX6_remove_24 : decode cX6_remove 24 = .ok (.aload_n 0, 1) := by decide +kernel
theorem dX6_remove_25 : decode cX6_remove 25 = .ok (.getfield 10, 3) := by decide +kernel
theorem dX6_remove_28 : decode cX6_remove 28 = .ok (.invokevirtual 50, 3) := by decide +kernel
theorem dX6_remove_31 : decode cX6_remove 31 = .ok (.aload_n 0, 1) := by decide +kernel
theorem dX6_remove_32 : decode cX6_remove 32 = .ok (.getfield 10, 3) := by decide +kernel
theorem dX6_remove_35 : decode cX6_remove 35 = .ok (.aload_n 2, 1) := by decide +kernel
theorem dX6_remove_36 : decode cX6_remove 36 = .ok (.getfield 54, 3) := by decide +kernel
theorem dX6_remove_39 : decode cX6_remove 39 = .ok (.invokevirtual 137, 3) := by decide +kernel
theorem dX6_remove_42 : decode cX6_remove 42 = .ok (.ireturn, 1) := by decide +kernel
theorem dX6_pack_0 : decode cX6_pack 0 = .ok (.aload_n 0, 1) := by decide +kernel
theorem dX6_pack_1 : decode cX6_pack 1 = .ok (.iload_n 1, 1) := by decide +kernel
theorem dX6_pack_2 : decode cX6_pack 2 = .ok (.invokevirtual 57, 3) := by decide +kernel
theorem dX6_pack_5 : decode cX6_pack 5 = .ok (.astore_n 2, 1) := by decide +kernel
theorem dX6_pack_6 : decode cX6_pack 6 = .ok (.aload_n 2, 1) := by decide +kernel
theorem dX6_pack_7 : decode cX6_pack 7 = .ok (.invokestatic 99, 3) := by decide +kernel
theorem dX6_pack_10 : decode cX6_pack 10 = .ok (.aload_n 2, 1) := by decide +kernel
theorem dX6_pack_11 : decode cX6_pack 11 = .ok (.getfield 140, 3) := by decide +kernel
theorem dX6_pack_14 : decode cX6_pack 14 = .ok (.aload_n 0, 1) := by decide +kernel
theorem dX6_pack_15 : decode cX6_pack 15 = .ok (.getfield 10, 3) := by decide +kernel
theorem dX6_pack_18 : decode cX6_pack 18 = .ok (.iload_n 1, 1) := by decide +kernel
theorem dX6_pack_19 : decode cX6_pack 19 = .ok (.aload_n 2, 1) := by decide +kernel
theorem dX6_pack_20 : decode cX6_pack 20 = .ok (.getfield 65, 3) := by decide +kernel
theorem dX6_pack_23 : decode cX6_pack 23 = .ok (.invokevirtual 143, 3) := by decide +kernel
theorem dX6_pack_26 : decode cX6_pack 26 = .ok (.aload_n 2, 1) := by decide +kernel
theorem dX6_pack_27 : decode cX6_pack 27 = .ok (.getfield 140, 3) := by decide +kernel
theorem dX6_pack_30 : decode cX6_pack 30 = .ok (.getfield 147, 3) := by decide +kernel
theorem dX6_pack_33 : decode cX6_pack 33 = .ok (.ireturn, 1) := by decide +kernel
theorem dX6_things_0 : decode cX6_things 0 = .ok (.aload_n 0, 1) := by decide +kernel
theorem dX6_things_1 : decode cX6_things 1 = .ok (.getfield 10, 3) := by decide +kernel
theorem dX6_things_4 : decode cX6_things 4 = .ok (.getfield 106, 3) := by decide +kernel
theorem dX6_things_7 : decode cX6_things 7 = .ok (.ireturn, 1) := by decide +kernel
theorem dX6_size_0 : decode cX6_size 0 = .ok (.aload_n 0, 1) := by decide +kernel
theorem dX6_size_1 : decode cX6_size 1 = .ok (.getfield 10, 3) := by decide +kernel
theorem dX6_size_4 : decode cX6_size 4 = .ok (.aload_n 0, 1) := by decide +kernel
theorem dX6_size_5 : decode cX6_size 5 = .ok (.iload_n 1, 1) := by decide +kernel
theorem dX6_size_6 : decode cX6_size 6 = .ok (.invokevirtual 57, 3) := by decide +kernel
theorem dX6_size_9 : decode cX6_size 9 = .ok (.getfield 54, 3) := by decide +kernel
theorem dX6_size_12 : decode cX6_size 12 = .ok (.invokevirtual 137, 3) := by decide +kernel
theorem dX6_size_15 : decode cX6_size 15 = .ok (.ireturn, 1) := by decide +kernel
theorem dX6_of_0 : decode cX6_of 0 = .ok (.aload_n 0, 1) := by decide +kernel
theorem dX6_of_1 : decode cX6_of 1 = .ok (.iload_n 1, 1) := by decide +kernel
theorem dX6_of_2 : decode cX6_of 2 = .ok (.invokevirtual 109, 3) := by decide +kernel
theorem dX6_of_5 : decode cX6_of 5 = .ok (.astore_n 3, 1) := by decide +kernel
theorem dX6_of_6 : decode cX6_of 6 = .ok (.iload_n 2, 1) := by decide +kernel
theorem dX6_of_7 : decode cX6_of 7 = .ok (.tableswitch 132 0 6 #[41, 46, 61, 76, 91, 106, 118], 41) := by decide +kernel
theorem dX6_of_48 : decode cX6_of 48 = .ok (.aload_n 3, 1) := by decide +kernel
theorem dX6_of_49 : decode cX6_of 49 = .ok (.getfield 54, 3) := by decide +kernel
theorem dX6_of_52 : decode cX6_of 52 = .ok (.ireturn, 1) := by decide +kernel
theorem dX6_of_53 : decode cX6_of 53 = .ok (.aload_n 0, 1) := by decide +kernel
theorem dX6_of_54 : decode cX6_of 54 = .ok (.getfield 10, 3) := by decide +kernel
theorem dX6_of_57 : decode cX6_of 57 = .ok (.getfield 89, 3) := by decide +kernel
theorem dX6_of_60 : decode cX6_of 60 = .ok (.getfield 150, 3) := by decide +kernel
theorem dX6_of_63 : decode cX6_of 63 = .ok (.iload_n 1, 1) := by decide +kernel
theorem dX6_of_64 : decode cX6_of 64 = .ok (.invokevirtual 116, 3) := by decide +kernel
theorem dX6_of_67 : decode cX6_of 67 = .ok (.ireturn, 1) := by decide +kernel
theorem dX6_of_68 : decode cX6_of 68 = .ok (.aload_n 0, 1) := by decide +kernel
theorem dX6_of_69 : decode cX6_of 69 = .ok (.getfield 10, 3) := by decide +kernel
theorem dX6_of_72 : decode cX6_of 72 = .ok (.getfield 89, 3) := by decide +kernel
theorem dX6_of_75 : decode cX6_of 75 = .ok (.getfield 153, 3) := by decide +kernel
theorem dX6_of_78 : decode cX6_of 78 = .ok (.iload_n 1, 1) := by decide +kernel
theorem dX6_of_79 : decode cX6_of 79 = .ok (.invokevirtual 116, 3) := by decide +kernel
theorem dX6_of_82 : decode cX6_of 82 = .ok (.ireturn, 1) := by decide +kernel
theorem dX6_of_83 : decode cX6_of 83 = .ok (.aload_n 0, 1) := by decide +kernel
theorem dX6_of_84 : decode cX6_of 84 = .ok (.getfield 10, 3) := by decide +kernel
theorem dX6_of_87 : decode cX6_of 87 = .ok (.getfield 89, 3) := by decide +kernel
theorem dX6_of_90 : decode cX6_of 90 = .ok (.getfield 112, 3) := by decide +kernel
theorem dX6_of_93 : decode cX6_of 93 = .ok (.iload_n 1, 1) := by decide +kernel
theorem dX6_of_94 : decode cX6_of 94 = .ok (.invokevirtual 116, 3) := by decide +kernel
theorem dX6_of_97 : decode cX6_of 97 = .ok (.ireturn, 1) := by decide +kernel
theorem dX6_of_98 : decode cX6_of 98 = .ok (.aload_n 0, 1) := by decide +kernel
theorem dX6_of_99 : decode cX6_of 99 = .ok (.getfield 10, 3) := by decide +kernel
theorem dX6_of_102 : decode cX6_of 102 = .ok (.getfield 89, 3) := by decide +kernel
theorem dX6_of_105 : decode cX6_of 105 = .ok (.getfield 122, 3) := by decide +kernel
theorem dX6_of_108 : decode cX6_of 108 = .ok (.iload_n 1, 1) := by decide +kernel
theorem dX6_of_109 : decode cX6_of 109 = .ok (.invokevirtual 116, 3) := by decide +kernel
theorem dX6_of_112 : decode cX6_of 112 = .ok (.ireturn, 1) := by decide +kernel
theorem dX6_of_113 : decode cX6_of 113 = .ok (.aload_n 0, 1) := by decide +kernel
theorem dX6_of_114 : decode cX6_of 114 = .ok (.getfield 10, 3) := by decide +kernel
theorem dX6_of_117 : decode cX6_of 117 = .ok (.getfield 156, 3) := by decide +kernel
theorem dX6_of_120 : decode cX6_of 120 = .ok (.iload_n 1, 1) := by decide +kernel
theorem dX6_of_121 : decode cX6_of 121 = .ok (.invokevirtual 116, 3) := by decide +kernel
theorem dX6_of_124 : decode cX6_of 124 = .ok (.ireturn, 1) := by decide +kernel
theorem dX6_of_125 : decode cX6_of 125 = .ok (.aload_n 3, 1) := by decide +kernel
theorem dX6_of_126 : decode cX6_of 126 = .ok (.iload_n 1, 1) := by decide +kernel
theorem dX6_of_127 : decode cX6_of 127 = .ok (.invokevirtual 159, 3) := by decide +kernel
theorem dX6_of_130 : decode cX6_of 130 = .ok (.ifCond .eq 7, 3) := by decide +kernel
theorem dX6_of_133 : decode cX6_of 133 = .ok (.iconst 1, 1) := by decide +kernel
theorem dX6_of_134 : decode cX6_of 134 = .ok (.goto 4, 3) := by decide +kernel
theorem dX6_of_137 : decode cX6_of 137 = .ok (.iconst 0, 1) := by decide +kernel
theorem dX6_of_138 : decode cX6_of 138 = .ok (.ireturn, 1) := by decide +kernel
theorem dX6_of_139 : decode cX6_of 139 = .ok (.new 76, 3) := by decide +kernel
theorem dX6_of_142 : decode cX6_of 142 = .ok (.dup, 1) := by decide +kernel
theorem dX6_of_143 : decode cX6_of 143 = .ok (.ldc 163, 2) := by decide +kernel
theorem dX6_of_145 : decode cX6_of 145 = .ok (.invokespecial 80, 3) := by decide +kernel
theorem dX6_of_148 : decode cX6_of 148 = .ok (.athrow, 1) := by decide +kernel
theorem dX6_nodes_0 : decode cX6_nodes 0 = .ok (.aload_n 0, 1) := by decide +kernel
theorem dX6_nodes_1 : decode cX6_nodes 1 = .ok (.iload_n 1, 1) := by decide +kernel
theorem dX6_nodes_2 : decode cX6_nodes 2 = .ok (.invokevirtual 57, 3) := by decide +kernel
theorem dX6_nodes_5 : decode cX6_nodes 5 = .ok (.getfield 140, 3) := by decide +kernel
theorem dX6_nodes_8 : decode cX6_nodes 8 = .ok (.getfield 147, 3) := by decide +kernel
theorem dX6_nodes_11 : decode cX6_nodes 11 = .ok (.ireturn, 1) := by decide +kernel
theorem dX6_depth_0 : decode cX6_depth 0 = .ok (.aload_n 0, 1) := by decide +kernel
theorem dX6_depth_1 : decode cX6_depth 1 = .ok (.iload_n 1, 1) := by decide +kernel
theorem dX6_depth_2 : decode cX6_depth 2 = .ok (.invokevirtual 57, 3) := by decide +kernel
theorem dX6_depth_5 : decode cX6_depth 5 = .ok (.getfield 140, 3) := by decide +kernel
theorem dX6_depth_8 : decode cX6_depth 8 = .ok (.invokevirtual 165, 3) := by decide +kernel
theorem dX6_depth_11 : decode cX6_depth 11 = .ok (.ireturn, 1) := by decide +kernel
theorem dX6_leaf_0 : decode cX6_leaf 0 = .ok (.aload_n 0, 1) := by decide +kernel
theorem dX6_leaf_1 : decode cX6_leaf 1 = .ok (.iload_n 1, 1) := by decide +kernel
theorem dX6_leaf_2 : decode cX6_leaf 2 = .ok (.invokevirtual 57, 3) := by decide +kernel
theorem dX6_leaf_5 : decode cX6_leaf 5 = .ok (.astore 5, 2) := by decide +kernel
theorem dX6_leaf_7 : decode cX6_leaf 7 = .ok (.aload 5, 2) := by decide +kernel
theorem dX6_leaf_9 : decode cX6_leaf 9 = .ok (.invokestatic 68, 3) := by decide +kernel
theorem dX6_leaf_12 : decode cX6_leaf 12 = .ok (.iload_n 2, 1) := by decide +kernel
theorem dX6_leaf_13 : decode cX6_leaf 13 = .ok (.iload_n 3, 1) := by decide +kernel
theorem dX6_leaf_14 : decode cX6_leaf 14 = .ok (.invokestatic 72, 3) := by decide +kernel
theorem dX6_leaf_17 : decode cX6_leaf 17 = .ok (.aload 5, 2) := by decide +kernel
theorem dX6_leaf_19 : decode cX6_leaf 19 = .ok (.getfield 140, 3) := by decide +kernel
theorem dX6_leaf_22 : decode cX6_leaf 22 = .ok (.astore 6, 2) := by decide +kernel
theorem dX6_leaf_24 : decode cX6_leaf 24 = .ok (.aload 6, 2) := by decide +kernel
theorem dX6_leaf_26 : decode cX6_leaf 26 = .ok (.iload_n 2, 1) := by decide +kernel
theorem dX6_leaf_27 : decode cX6_leaf 27 = .ok (.iload_n 3, 1) := by decide +kernel
theorem dX6_leaf_28 : decode cX6_leaf 28 = .ok (.invokevirtual 169, 3) := by decide +kernel
theorem dX6_leaf_31 : decode cX6_leaf 31 = .ok (.istore 7, 2) := by decide +kernel
theorem dX6_leaf_33 : decode cX6_leaf 33 = .ok (.iload 4, 2) := by decide +kernel
theorem dX6_leaf_35 : decode cX6_leaf 35 = .ok (.tableswitch 99 0 4 #[33, 47, 61, 77, 88], 33) := by decide +kernel
theorem dX6_leaf_68 : decode cX6_leaf 68 = .ok (.aload 6, 2) := by decide +kernel
theorem dX6_leaf_70 : decode cX6_leaf 70 = .ok (.getfield 172, 3) := by decide +kernel
theorem dX6_leaf_73 : decode cX6_leaf 73 = .ok (.getfield 150, 3) := by decide +kernel
theorem dX6_leaf_76 : decode cX6_leaf 76 = .ok (.iload 7, 2) := by decide +kernel
theorem dX6_leaf_78 : decode cX6_leaf 78 = .ok (.invokevirtual 116, 3) := by decide +kernel
theorem dX6_leaf_81 : decode cX6_leaf 81 = .ok (.ireturn, 1) := by decide +kernel
theorem dX6_leaf_82 : decode cX6_leaf 82 = .ok (.aload 6, 2) := by decide +kernel
theorem dX6_leaf_84 : decode cX6_leaf 84 = .ok (.getfield 172, 3) := by decide +kernel
theorem dX6_leaf_87 : decode cX6_leaf 87 = .ok (.getfield 153, 3) := by decide +kernel
theorem dX6_leaf_90 : decode cX6_leaf 90 = .ok (.iload 7, 2) := by decide +kernel
theorem dX6_leaf_92 : decode cX6_leaf 92 = .ok (.invokevirtual 116, 3) := by decide +kernel
theorem dX6_leaf_95 : decode cX6_leaf 95 = .ok (.ireturn, 1) := by decide +kernel
theorem dX6_leaf_96 : decode cX6_leaf 96 = .ok (.aload 6, 2) := by decide +kernel
theorem dX6_leaf_98 : decode cX6_leaf 98 = .ok (.getfield 172, 3) := by decide +kernel
theorem dX6_leaf_101 : decode cX6_leaf 101 = .ok (.getfield 112, 3) := by decide +kernel
theorem dX6_leaf_104 : decode cX6_leaf 104 = .ok (.iload 7, 2) := by decide +kernel
theorem dX6_leaf_106 : decode cX6_leaf 106 = .ok (.invokevirtual 116, 3) := by decide +kernel
theorem dX6_leaf_109 : decode cX6_leaf 109 = .ok (.iconst 1, 1) := by decide +kernel
theorem dX6_leaf_110 : decode cX6_leaf 110 = .ok (.iadd, 1) := by decide +kernel
theorem dX6_leaf_111 : decode cX6_leaf 111 = .ok (.ireturn, 1) := by decide +kernel
theorem dX6_leaf_112 : decode cX6_leaf 112 = .ok (.aload 6, 2) := by decide +kernel
theorem dX6_leaf_114 : decode cX6_leaf 114 = .ok (.getfield 173, 3) := by decide +kernel
theorem dX6_leaf_117 : decode cX6_leaf 117 = .ok (.iload 7, 2) := by decide +kernel
theorem dX6_leaf_119 : decode cX6_leaf 119 = .ok (.invokevirtual 116, 3) := by decide +kernel
theorem dX6_leaf_122 : decode cX6_leaf 122 = .ok (.ireturn, 1) := by decide +kernel
theorem dX6_leaf_123 : decode cX6_leaf 123 = .ok (.aload 6, 2) := by decide +kernel
theorem dX6_leaf_125 : decode cX6_leaf 125 = .ok (.getfield 176, 3) := by decide +kernel
theorem dX6_leaf_128 : decode cX6_leaf 128 = .ok (.iload 7, 2) := by decide +kernel
theorem dX6_leaf_130 : decode cX6_leaf 130 = .ok (.invokevirtual 116, 3) := by decide +kernel
theorem dX6_leaf_133 : decode cX6_leaf 133 = .ok (.ireturn, 1) := by decide +kernel
theorem dX6_leaf_134 : decode cX6_leaf 134 = .ok (.new 76, 3) := by decide +kernel
theorem dX6_leaf_137 : decode cX6_leaf 137 = .ok (.dup, 1) := by decide +kernel
theorem dX6_leaf_138 : decode cX6_leaf 138 = .ok (.ldc 179, 2) := by decide +kernel
theorem dX6_leaf_140 : decode cX6_leaf 140 = .ok (.invokespecial 80, 3) := by decide +kernel
theorem dX6_leaf_143 : decode cX6_leaf 143 = .ok (.athrow, 1) := by decide +kernel
theorem dX6_level_0 : decode cX6_level 0 = .ok (.aload_n 0, 1) := by decide +kernel
theorem dX6_level_1 : decode cX6_level 1 = .ok (.iload_n 1, 1) := by decide +kernel
theorem dX6_level_2 : decode cX6_level 2 = .ok (.invokevirtual 57, 3) := by decide +kernel
theorem dX6_level_5 : decode cX6_level 5 = .ok (.astore_n 3, 1) := by decide +kernel
theorem dX6_level_6 : decode cX6_level 6 = .ok (.aload_n 3, 1) := by decide +kernel
theorem dX6_level_7 : decode cX6_level 7 = .ok (.invokestatic 99, 3) := by decide +kernel
theorem dX6_level_10 : decode cX6_level 10 = .ok (.iload_n 2, 1) := by decide +kernel
theorem dX6_level_11 : decode cX6_level 11 = .ok (.ifCond .ge 13, 3) := by decide +kernel
theorem dX6_level_14 : decode cX6_level 14 = .ok (.new 76, 3) := by decide +kernel
theorem dX6_level_17 : decode cX6_level 17 = .ok (.dup, 1) := by decide +kernel
theorem dX6_level_18 : decode cX6_level 18 = .ok (.ldc 181, 2) := by decide +kernel
theorem dX6_level_20 : decode cX6_level 20 = .ok (.invokespecial 80, 3) := by decide +kernel
theorem dX6_level_23 : decode cX6_level 23 = .ok (.athrow, 1) := by decide +kernel
theorem dX6_level_24 : decode cX6_level 24 = .ok (.aload_n 3, 1) := by decide +kernel
theorem dX6_level_25 : decode cX6_level 25 = .ok (.getfield 140, 3) := by decide +kernel
theorem dX6_level_28 : decode cX6_level 28 = .ok (.iload_n 2, 1) := by decide +kernel
theorem dX6_level_29 : decode cX6_level 29 = .ok (.invokevirtual 183, 3) := by decide +kernel
theorem dX6_level_32 : decode cX6_level 32 = .ok (.ireturn, 1) := by decide +kernel
theorem dX6_node_0 : decode cX6_node 0 = .ok (.aload_n 0, 1) := by decide +kernel
theorem dX6_node_1 : decode cX6_node 1 = .ok (.iload_n 1, 1) := by decide +kernel
theorem dX6_node_2 : decode cX6_node 2 = .ok (.invokevirtual 57, 3) := by decide +kernel
theorem dX6_node_5 : decode cX6_node 5 = .ok (.astore 5, 2) := by decide +kernel
theorem dX6_node_7 : decode cX6_node 7 = .ok (.aload 5, 2) := by decide +kernel
theorem dX6_node_9 : decode cX6_node 9 = .ok (.invokestatic 99, 3) := by decide +kernel
theorem dX6_node_12 : decode cX6_node 12 = .ok (.aload 5, 2) := by decide +kernel
theorem dX6_node_14 : decode cX6_node 14 = .ok (.getfield 140, 3) := by decide +kernel
theorem dX6_node_17 : decode cX6_node 17 = .ok (.astore 6, 2) := by decide +kernel
theorem dX6_node_19 : decode cX6_node 19 = .ok (.iload_n 3, 1) := by decide +kernel
theorem dX6_node_20 : decode cX6_node 20 = .ok (.ifCond .lt 13, 3) := by decide +kernel
theorem dX6_node_23 : decode cX6_node 23 = .ok (.iload_n 3, 1) := by decide +kernel
theorem dX6_node_24 : decode cX6_node 24 = .ok (.aload 6, 2) := by decide +kernel
theorem dX6_node_26 : decode cX6_node 26 = .ok (.iload_n 2, 1) := by decide +kernel
theorem dX6_node_27 : decode cX6_node 27 = .ok (.invokevirtual 183, 3) := by decide +kernel
theorem dX6_node_30 : decode cX6_node 30 = .ok (.if_icmp .lt 13, 3) := by decide +kernel
theorem dX6_node_33 : decode cX6_node 33 = .ok (.new 186, 3) := by decide +kernel
theorem dX6_node_36 : decode cX6_node 36 = .ok (.dup, 1) := by decide +kernel
theorem dX6_node_37 : decode cX6_node 37 = .ok (.ldc 188, 2) := by decide +kernel
theorem dX6_node_39 : decode cX6_node 39 = .ok (.invokespecial 190, 3) := by decide +kernel
theorem dX6_node_42 : decode cX6_node 42 = .ok (.athrow, 1) := by decide +kernel
theorem dX6_node_43 : decode cX6_node 43 = .ok (.aload 6, 2) := by decide +kernel
theorem dX6_node_45 : decode cX6_node 45 = .ok (.iload_n 2, 1) := by decide +kernel
theorem dX6_node_46 : decode cX6_node 46 = .ok (.invokevirtual 191, 3) := by decide +kernel
theorem dX6_node_49 : decode cX6_node 49 = .ok (.iload_n 3, 1) := by decide +kernel
theorem dX6_node_50 : decode cX6_node 50 = .ok (.iadd, 1) := by decide +kernel
theorem dX6_node_51 : decode cX6_node 51 = .ok (.istore 7, 2) := by decide +kernel
theorem dX6_node_53 : decode cX6_node 53 = .ok (.iload 4, 2) := by decide +kernel
theorem dX6_node_55 : decode cX6_node 55 = .ok (.tableswitch 123 0 4 #[33, 47, 61, 75, 89], 33) := by decide +kernel
theorem dX6_node_88 : decode cX6_node 88 = .ok (.aload 6, 2) := by decide +kernel
theorem dX6_node_90 : decode cX6_node 90 = .ok (.getfield 172, 3) := by decide +kernel
theorem dX6_node_93 : decode cX6_node 93 = .ok (.getfield 150, 3) := by decide +kernel
theorem dX6_node_96 : decode cX6_node 96 = .ok (.iload 7, 2) := by decide +kernel
theorem dX6_node_98 : decode cX6_node 98 = .ok (.invokevirtual 116, 3) := by decide +kernel
theorem dX6_node_101 : decode cX6_node 101 = .ok (.ireturn, 1) := by decide +kernel
theorem dX6_node_102 : decode cX6_node 102 = .ok (.aload 6, 2) := by decide +kernel
theorem dX6_node_104 : decode cX6_node 104 = .ok (.getfield 172, 3) := by decide +kernel
theorem dX6_node_107 : decode cX6_node 107 = .ok (.getfield 153, 3) := by decide +kernel
theorem dX6_node_110 : decode cX6_node 110 = .ok (.iload 7, 2) := by decide +kernel
theorem dX6_node_112 : decode cX6_node 112 = .ok (.invokevirtual 116, 3) := by decide +kernel
theorem dX6_node_115 : decode cX6_node 115 = .ok (.ireturn, 1) := by decide +kernel
theorem dX6_node_116 : decode cX6_node 116 = .ok (.aload 6, 2) := by decide +kernel
theorem dX6_node_118 : decode cX6_node 118 = .ok (.getfield 172, 3) := by decide +kernel
theorem dX6_node_121 : decode cX6_node 121 = .ok (.getfield 112, 3) := by decide +kernel
theorem dX6_node_124 : decode cX6_node 124 = .ok (.iload 7, 2) := by decide +kernel
theorem dX6_node_126 : decode cX6_node 126 = .ok (.invokevirtual 116, 3) := by decide +kernel
theorem dX6_node_129 : decode cX6_node 129 = .ok (.ireturn, 1) := by decide +kernel
theorem dX6_node_130 : decode cX6_node 130 = .ok (.aload 6, 2) := by decide +kernel
theorem dX6_node_132 : decode cX6_node 132 = .ok (.getfield 172, 3) := by decide +kernel
theorem dX6_node_135 : decode cX6_node 135 = .ok (.getfield 122, 3) := by decide +kernel
theorem dX6_node_138 : decode cX6_node 138 = .ok (.iload 7, 2) := by decide +kernel
theorem dX6_node_140 : decode cX6_node 140 = .ok (.invokevirtual 116, 3) := by decide +kernel
theorem dX6_node_143 : decode cX6_node 143 = .ok (.ireturn, 1) := by decide +kernel
theorem dX6_node_144 : decode cX6_node 144 = .ok (.aload 6, 2) := by decide +kernel
theorem dX6_node_146 : decode cX6_node 146 = .ok (.iload 7, 2) := by decide +kernel
theorem dX6_node_148 : decode cX6_node 148 = .ok (.invokevirtual 194, 3) := by decide +kernel
theorem dX6_node_151 : decode cX6_node 151 = .ok (.ifCond .eq 16, 3) := by decide +kernel
theorem dX6_node_154 : decode cX6_node 154 = .ok (.aload 6, 2) := by decide +kernel
theorem dX6_node_156 : decode cX6_node 156 = .ok (.getfield 173, 3) := by decide +kernel
theorem dX6_node_159 : decode cX6_node 159 = .ok (.iload 7, 2) := by decide +kernel
theorem dX6_node_161 : decode cX6_node 161 = .ok (.invokevirtual 116, 3) := by decide +kernel
theorem dX6_node_164 : decode cX6_node 164 = .ok (.goto 13, 3) := by decide +kernel
theorem dX6_node_167 : decode cX6_node 167 = .ok (.aload 6, 2) := by decide +kernel
theorem dX6_node_169 : decode cX6_node 169 = .ok (.getfield 197, 3) := by decide +kernel
theorem dX6_node_172 : decode cX6_node 172 = .ok (.iload 7, 2) := by decide +kernel
theorem dX6_node_174 : decode cX6_node 174 = .ok (.invokevirtual 116, 3) := by decide +kernel
theorem dX6_node_177 : decode cX6_node 177 = .ok (.ireturn, 1) := by decide +kernel
theorem dX6_node_178 : decode cX6_node 178 = .ok (.new 76, 3) := by decide +kernel
theorem dX6_node_181 : decode cX6_node 181 = .ok (.dup, 1) := by decide +kernel
theorem dX6_node_182 : decode cX6_node 182 = .ok (.ldc 179, 2) := by decide +kernel
theorem dX6_node_184 : decode cX6_node 184 = .ok (.invokespecial 80, 3) := by decide +kernel
theorem dX6_node_187 : decode cX6_node 187 = .ok (.athrow, 1) := by decide +kernel
theorem dX6_inBox_0 : decode cX6_inBox 0 = .ok (.aload_n 0, 1) := by decide +kernel
theorem dX6_inBox_1 : decode cX6_inBox 1 = .ok (.iload_n 1, 1) := by decide +kernel
theorem dX6_inBox_2 : decode cX6_inBox 2 = .ok (.invokevirtual 57, 3) := by decide +kernel
theorem dX6_inBox_5 : decode cX6_inBox 5 = .ok (.astore 6, 2) := by decide +kernel
theorem dX6_inBox_7 : decode cX6_inBox 7 = .ok (.iload_n 2, 1) := by decide +kernel
theorem dX6_inBox_8 : decode cX6_inBox 8 = .ok (.iload_n 3, 1) := by decide +kernel
theorem dX6_inBox_9 : decode cX6_inBox 9 = .ok (.invokestatic 72, 3) := by decide +kernel
theorem dX6_inBox_12 : decode cX6_inBox 12 = .ok (.iload 4, 2) := by decide +kernel
theorem dX6_inBox_14 : decode cX6_inBox 14 = .ok (.iload 5, 2) := by decide +kernel
theorem dX6_inBox_16 : decode cX6_inBox 16 = .ok (.invokestatic 72, 3) := by decide +kernel
theorem dX6_inBox_19 : decode cX6_inBox 19 = .ok (.aload_n 0, 1) := by decide +kernel
theorem dX6_inBox_20 : decode cX6_inBox 20 = .ok (.getfield 10, 3) := by decide +kernel
theorem dX6_inBox_23 : decode cX6_inBox 23 = .ok (.aload 6, 2) := by decide +kernel
theorem dX6_inBox_25 : decode cX6_inBox 25 = .ok (.getfield 54, 3) := by decide +kernel
theorem dX6_inBox_28 : decode cX6_inBox 28 = .ok (.iload_n 2, 1) := by decide +kernel
theorem dX6_inBox_29 : decode cX6_inBox 29 = .ok (.iload_n 3, 1) := by decide +kernel
theorem dX6_inBox_30 : decode cX6_inBox 30 = .ok (.iload 4, 2) := by decide +kernel
theorem dX6_inBox_32 : decode cX6_inBox 32 = .ok (.iload 5, 2) := by decide +kernel
theorem dX6_inBox_34 : decode cX6_inBox 34 = .ok (.invokevirtual 200, 3) := by decide +kernel
theorem dX6_inBox_37 : decode cX6_inBox 37 = .ok (.ireturn, 1) := by decide +kernel
theorem dX6_visited_0 : decode cX6_visited 0 = .ok (.aload_n 0, 1) := by decide +kernel
theorem dX6_visited_1 : decode cX6_visited 1 = .ok (.iload_n 1, 1) := by decide +kernel
theorem dX6_visited_2 : decode cX6_visited 2 = .ok (.invokevirtual 57, 3) := by decide +kernel
theorem dX6_visited_5 : decode cX6_visited 5 = .ok (.astore 6, 2) := by decide +kernel
theorem dX6_visited_7 : decode cX6_visited 7 = .ok (.iload_n 2, 1) := by decide +kernel
theorem dX6_visited_8 : decode cX6_visited 8 = .ok (.iload_n 3, 1) := by decide +kernel
theorem dX6_visited_9 : decode cX6_visited 9 = .ok (.invokestatic 72, 3) := by decide +kernel
theorem dX6_visited_12 : decode cX6_visited 12 = .ok (.iload 4, 2) := by decide +kernel
theorem dX6_visited_14 : decode cX6_visited 14 = .ok (.iload 5, 2) := by decide +kernel
theorem dX6_visited_16 : decode cX6_visited 16 = .ok (.invokestatic 72, 3) := by decide +kernel
theorem dX6_visited_19 : decode cX6_visited 19 = .ok (.aload 6, 2) := by decide +kernel
theorem dX6_visited_21 : decode cX6_visited 21 = .ok (.getfield 140, 3) := by decide +kernel
theorem dX6_visited_24 : decode cX6_visited 24 = .ok (.iload_n 2, 1) := by decide +kernel
theorem dX6_visited_25 : decode cX6_visited 25 = .ok (.iload_n 3, 1) := by decide +kernel
theorem dX6_visited_26 : decode cX6_visited 26 = .ok (.iload 4, 2) := by decide +kernel
theorem dX6_visited_28 : decode cX6_visited 28 = .ok (.iload 5, 2) := by decide +kernel
theorem dX6_visited_30 : decode cX6_visited 30 = .ok (.iconst 0, 1) := by decide +kernel
theorem dX6_visited_31 : decode cX6_visited 31 = .ok (.invokevirtual 203, 3) := by decide +kernel
theorem dX6_visited_34 : decode cX6_visited 34 = .ok (.ireturn, 1) := by decide +kernel
theorem dX6_nearest_0 : decode cX6_nearest 0 = .ok (.aload_n 0, 1) := by decide +kernel
theorem dX6_nearest_1 : decode cX6_nearest 1 = .ok (.iload_n 1, 1) := by decide +kernel
theorem dX6_nearest_2 : decode cX6_nearest 2 = .ok (.iload_n 2, 1) := by decide +kernel
theorem dX6_nearest_3 : decode cX6_nearest 3 = .ok (.iload_n 3, 1) := by decide +kernel
theorem dX6_nearest_4 : decode cX6_nearest 4 = .ok (.iload 4, 2) := by decide +kernel
theorem dX6_nearest_6 : decode cX6_nearest 6 = .ok (.invokevirtual 206, 3) := by decide +kernel
theorem dX6_nearest_9 : decode cX6_nearest 9 = .ok (.istore 5, 2) := by decide +kernel
theorem dX6_nearest_11 : decode cX6_nearest 11 = .ok (.iload 5, 2) := by decide +kernel
theorem dX6_nearest_13 : decode cX6_nearest 13 = .ok (.ifCond .ge 7, 3) := by decide +kernel
theorem dX6_nearest_16 : decode cX6_nearest 16 = .ok (.iconst (-1), 1) := by decide +kernel
theorem dX6_nearest_17 : decode cX6_nearest 17 = .ok (.goto 9, 3) := by decide +kernel
theorem dX6_nearest_20 : decode cX6_nearest 20 = .ok (.iload 5, 2) := by decide +kernel
theorem dX6_nearest_22 : decode cX6_nearest 22 = .ok (.sipush 128, 3) := by decide +kernel
theorem dX6_nearest_25 : decode cX6_nearest 25 = .ok (.irem, 1) := by decide +kernel
theorem dX6_nearest_26 : decode cX6_nearest 26 = .ok (.ireturn, 1) := by decide +kernel
theorem dX6_far_0 : decode cX6_far 0 = .ok (.aload_n 0, 1) := by decide +kernel
theorem dX6_far_1 : decode cX6_far 1 = .ok (.iload_n 1, 1) := by decide +kernel
theorem dX6_far_2 : decode cX6_far 2 = .ok (.iload_n 2, 1) := by decide +kernel
theorem dX6_far_3 : decode cX6_far 3 = .ok (.iload_n 3, 1) := by decide +kernel
theorem dX6_far_4 : decode cX6_far 4 = .ok (.iload 4, 2) := by decide +kernel
theorem dX6_far_6 : decode cX6_far 6 = .ok (.invokevirtual 206, 3) := by decide +kernel
theorem dX6_far_9 : decode cX6_far 9 = .ok (.istore 5, 2) := by decide +kernel
theorem dX6_far_11 : decode cX6_far 11 = .ok (.iload 5, 2) := by decide +kernel
theorem dX6_far_13 : decode cX6_far 13 = .ok (.ifCond .ge 7, 3) := by decide +kernel
theorem dX6_far_16 : decode cX6_far 16 = .ok (.iconst (-1), 1) := by decide +kernel
theorem dX6_far_17 : decode cX6_far 17 = .ok (.goto 9, 3) := by decide +kernel
theorem dX6_far_20 : decode cX6_far 20 = .ok (.iload 5, 2) := by decide +kernel
theorem dX6_far_22 : decode cX6_far 22 = .ok (.sipush 128, 3) := by decide +kernel
theorem dX6_far_25 : decode cX6_far 25 = .ok (.idiv, 1) := by decide +kernel
theorem dX6_far_26 : decode cX6_far 26 = .ok (.ireturn, 1) := by decide +kernel
theorem dX6_visitedFor_0 : decode cX6_visitedFor 0 = .ok (.aload_n 0, 1) := by decide +kernel
theorem dX6_visitedFor_1 : decode cX6_visitedFor 1 = .ok (.iload_n 1, 1) := by decide +kernel
theorem dX6_visitedFor_2 : decode cX6_visitedFor 2 = .ok (.iload_n 2, 1) := by decide +kernel
theorem dX6_visitedFor_3 : decode cX6_visitedFor 3 = .ok (.iload_n 3, 1) := by decide +kernel
theorem dX6_visitedFor_4 : decode cX6_visitedFor 4 = .ok (.iload 4, 2) := by decide +kernel
theorem dX6_visitedFor_6 : decode cX6_visitedFor 6 = .ok (.invokevirtual 206, 3) := by decide +kernel
theorem dX6_visitedFor_9 : decode cX6_visitedFor 9 = .ok (.istore 5, 2) := by decide +kernel
theorem dX6_visitedFor_11 : decode cX6_visitedFor 11 = .ok (.aload_n 0, 1) := by decide +kernel
theorem dX6_visitedFor_12 : decode cX6_visitedFor 12 = .ok (.iload_n 1, 1) := by decide +kernel
theorem dX6_visitedFor_13 : decode cX6_visitedFor 13 = .ok (.invokevirtual 57, 3) := by decide +kernel
theorem dX6_visitedFor_16 : decode cX6_visitedFor 16 = .ok (.getfield 140, 3) := by decide +kernel
theorem dX6_visitedFor_19 : decode cX6_visitedFor 19 = .ok (.astore 6, 2) := by decide +kernel
theorem dX6_visitedFor_21 : decode cX6_visitedFor 21 = .ok (.iload 5, 2) := by decide +kernel
theorem dX6_visitedFor_23 : decode cX6_visitedFor 23 = .ok (.ifCond .ge 11, 3) := by decide +kernel
theorem dX6_visitedFor_26 : decode cX6_visitedFor 26 = .ok (.aload 6, 2) := by decide +kernel
theorem dX6_visitedFor_28 : decode cX6_visitedFor 28 = .ok (.getfield 147, 3) := by decide +kernel
theorem dX6_visitedFor_31 : decode cX6_visitedFor 31 = .ok (.goto 18, 3) := by decide +kernel
theorem dX6_visitedFor_34 : decode cX6_visitedFor 34 = .ok (.aload 6, 2) := by decide +kernel
theorem dX6_visitedFor_36 : decode cX6_visitedFor 36 = .ok (.iload_n 2, 1) := by decide +kernel
theorem dX6_visitedFor_37 : decode cX6_visitedFor 37 = .ok (.iload_n 3, 1) := by decide +kernel
theorem dX6_visitedFor_38 : decode cX6_visitedFor 38 = .ok (.iconst 0, 1) := by decide +kernel
theorem dX6_visitedFor_39 : decode cX6_visitedFor 39 = .ok (.iconst 0, 1) := by decide +kernel
theorem dX6_visitedFor_40 : decode cX6_visitedFor 40 = .ok (.iload 5, 2) := by decide +kernel
theorem dX6_visitedFor_42 : decode cX6_visitedFor 42 = .ok (.sipush 128, 3) := by decide +kernel
theorem dX6_visitedFor_45 : decode cX6_visitedFor 45 = .ok (.idiv, 1) := by decide +kernel
theorem dX6_visitedFor_46 : decode cX6_visitedFor 46 = .ok (.invokevirtual 203, 3) := by decide +kernel
theorem dX6_visitedFor_49 : decode cX6_visitedFor 49 = .ok (.ireturn, 1) := by decide +kernel
theorem dX6_pairs_0 : decode cX6_pairs 0 = .ok (.aload_n 0, 1) := by decide +kernel
theorem dX6_pairs_1 : decode cX6_pairs 1 = .ok (.iload_n 1, 1) := by decide +kernel
theorem dX6_pairs_2 : decode cX6_pairs 2 = .ok (.invokevirtual 57, 3) := by decide +kernel
theorem dX6_pairs_5 : decode cX6_pairs 5 = .ok (.astore 4, 2) := by decide +kernel
theorem dX6_pairs_7 : decode cX6_pairs 7 = .ok (.aload_n 0, 1) := by decide +kernel
theorem dX6_pairs_8 : decode cX6_pairs 8 = .ok (.iload_n 2, 1) := by decide +kernel
theorem dX6_pairs_9 : decode cX6_pairs 9 = .ok (.invokevirtual 57, 3) := by decide +kernel
theorem dX6_pairs_12 : decode cX6_pairs 12 = .ok (.astore 5, 2) := by decide +kernel
theorem dX6_pairs_14 : decode cX6_pairs 14 = .ok (.iload_n 3, 1) := by decide +kernel
theorem dX6_pairs_15 : decode cX6_pairs 15 = .ok (.invokestatic 210, 3) := by decide +kernel
theorem dX6_pairs_18 : decode cX6_pairs 18 = .ok (.aload_n 0, 1) := by decide +kernel
theorem dX6_pairs_19 : decode cX6_pairs 19 = .ok (.getfield 10, 3) := by decide +kernel
theorem dX6_pairs_22 : decode cX6_pairs 22 = .ok (.aload 4, 2) := by decide +kernel
theorem dX6_pairs_24 : decode cX6_pairs 24 = .ok (.getfield 54, 3) := by decide +kernel
theorem dX6_pairs_27 : decode cX6_pairs 27 = .ok (.aload 5, 2) := by decide +kernel
theorem dX6_pairs_29 : decode cX6_pairs 29 = .ok (.getfield 54, 3) := by decide +kernel
theorem dX6_pairs_32 : decode cX6_pairs 32 = .ok (.iload_n 3, 1) := by decide +kernel
theorem dX6_pairs_33 : decode cX6_pairs 33 = .ok (.invokevirtual 213, 3) := by decide +kernel
theorem dX6_pairs_36 : decode cX6_pairs 36 = .ok (.ireturn, 1) := by decide +kernel
theorem dX6_visitedPairs_0 : decode cX6_visitedPairs 0 = .ok (.aload_n 0, 1) := by decide +kernel
theorem dX6_visitedPairs_1 : decode cX6_visitedPairs 1 = .ok (.iload_n 1, 1) := by decide +kernel
theorem dX6_visitedPairs_2 : decode cX6_visitedPairs 2 = .ok (.invokevirtual 57, 3) := by decide +kernel
theorem dX6_visitedPairs_5 : decode cX6_visitedPairs 5 = .ok (.getfield 140, 3) := by decide +kernel
theorem dX6_visitedPairs_8 : decode cX6_visitedPairs 8 = .ok (.astore 4, 2) := by decide +kernel
theorem dX6_visitedPairs_10 : decode cX6_visitedPairs 10 = .ok (.aload_n 0, 1) := by decide +kernel
theorem dX6_visitedPairs_11 : decode cX6_visitedPairs 11 = .ok (.iload_n 2, 1) := by decide +kernel
theorem dX6_visitedPairs_12 : decode cX6_visitedPairs 12 = .ok (.invokevirtual 57, 3) := by decide +kernel
theorem dX6_visitedPairs_15 : decode cX6_visitedPairs 15 = .ok (.getfield 140, 3) := by decide +kernel
theorem dX6_visitedPairs_18 : decode cX6_visitedPairs 18 = .ok (.astore 5, 2) := by decide +kernel
theorem dX6_visitedPairs_20 : decode cX6_visitedPairs 20 = .ok (.iload_n 3, 1) := by decide +kernel
theorem dX6_visitedPairs_21 : decode cX6_visitedPairs 21 = .ok (.invokestatic 210, 3) := by decide +kernel
theorem dX6_visitedPairs_24 : decode cX6_visitedPairs 24 = .ok (.aload 4, 2) := by decide +kernel
theorem dX6_visitedPairs_26 : decode cX6_visitedPairs 26 = .ok (.getfield 147, 3) := by decide +kernel
theorem dX6_visitedPairs_29 : decode cX6_visitedPairs 29 = .ok (.ifCond .eq 11, 3) := by decide +kernel
theorem dX6_visitedPairs_32 : decode cX6_visitedPairs 32 = .ok (.aload 5, 2) := by decide +kernel
theorem dX6_visitedPairs_34 : decode cX6_visitedPairs 34 = .ok (.getfield 147, 3) := by decide +kernel
theorem dX6_visitedPairs_37 : decode cX6_visitedPairs 37 = .ok (.ifCond .ne 5, 3) := by decide +kernel
theorem dX6_visitedPairs_40 : decode cX6_visitedPairs 40 = .ok (.iconst 0, 1) := by decide +kernel
theorem dX6_visitedPairs_41 : decode cX6_visitedPairs 41 = .ok (.ireturn, 1) := by decide +kernel
theorem dX6_visitedPairs_42 : decode cX6_visitedPairs 42 = .ok (.aload 4, 2) := by decide +kernel
theorem dX6_visitedPairs_44 : decode cX6_visitedPairs 44 = .ok (.aload 4, 2) := by decide +kernel
theorem dX6_visitedPairs_46 : decode cX6_visitedPairs 46 = .ok (.getfield 217, 3) := by decide +kernel
theorem dX6_visitedPairs_49 : decode cX6_visitedPairs 49 = .ok (.aload 5, 2) := by decide +kernel
theorem dX6_visitedPairs_51 : decode cX6_visitedPairs 51 = .ok (.aload 5, 2) := by decide +kernel
theorem dX6_visitedPairs_53 : decode cX6_visitedPairs 53 = .ok (.getfield 217, 3) := by decide +kernel
theorem dX6_visitedPairs_56 : decode cX6_visitedPairs 56 = .ok (.iload_n 3, 1) := by decide +kernel
theorem dX6_visitedPairs_57 : decode cX6_visitedPairs 57 = .ok (.iconst 0, 1) := by decide +kernel
theorem dX6_visitedPairs_58 : decode cX6_visitedPairs 58 = .ok (.invokestatic 220, 3) := by decide +kernel
theorem dX6_visitedPairs_61 : decode cX6_visitedPairs 61 = .ok (.ireturn, 1) := by decide +kernel
theorem dX6_clusters_0 : decode cX6_clusters 0 = .ok (.aload_n 0, 1) := by decide +kernel
theorem dX6_clusters_1 : decode cX6_clusters 1 = .ok (.iload_n 1, 1) := by decide +kernel
theorem dX6_clusters_2 : decode cX6_clusters 2 = .ok (.invokevirtual 57, 3) := by decide +kernel
theorem dX6_clusters_5 : decode cX6_clusters 5 = .ok (.astore_n 3, 1) := by decide +kernel
theorem dX6_clusters_6 : decode cX6_clusters 6 = .ok (.iload_n 2, 1) := by decide +kernel
theorem dX6_clusters_7 : decode cX6_clusters 7 = .ok (.invokestatic 210, 3) := by decide +kernel
theorem dX6_clusters_10 : decode cX6_clusters 10 = .ok (.aload_n 0, 1) := by decide +kernel
theorem dX6_clusters_11 : decode cX6_clusters 11 = .ok (.getfield 10, 3) := by decide +kernel
theorem dX6_clusters_14 : decode cX6_clusters 14 = .ok (.aload_n 3, 1) := by decide +kernel
theorem dX6_clusters_15 : decode cX6_clusters 15 = .ok (.getfield 54, 3) := by decide +kernel
theorem dX6_clusters_18 : decode cX6_clusters 18 = .ok (.iload_n 2, 1) := by decide +kernel
theorem dX6_clusters_19 : decode cX6_clusters 19 = .ok (.invokevirtual 224, 3) := by decide +kernel
theorem dX6_clusters_22 : decode cX6_clusters 22 = .ok (.aload_n 0, 1) := by decide +kernel
theorem dX6_clusters_23 : decode cX6_clusters 23 = .ok (.getfield 10, 3) := by decide +kernel
theorem dX6_clusters_26 : decode cX6_clusters 26 = .ok (.aload_n 3, 1) := by decide +kernel
theorem dX6_clusters_27 : decode cX6_clusters 27 = .ok (.getfield 54, 3) := by decide +kernel
theorem dX6_clusters_30 : decode cX6_clusters 30 = .ok (.invokevirtual 227, 3) := by decide +kernel
theorem dX6_clusters_33 : decode cX6_clusters 33 = .ok (.ireturn, 1) := by decide +kernel
theorem dX6_greatest_0 : decode cX6_greatest 0 = .ok (.aload_n 0, 1) := by decide +kernel
theorem dX6_greatest_1 : decode cX6_greatest 1 = .ok (.iload_n 1, 1) := by decide +kernel
theorem dX6_greatest_2 : decode cX6_greatest 2 = .ok (.invokevirtual 57, 3) := by decide +kernel
theorem dX6_greatest_5 : decode cX6_greatest 5 = .ok (.astore_n 3, 1) := by decide +kernel
theorem dX6_greatest_6 : decode cX6_greatest 6 = .ok (.iload_n 2, 1) := by decide +kernel
theorem dX6_greatest_7 : decode cX6_greatest 7 = .ok (.invokestatic 210, 3) := by decide +kernel
theorem dX6_greatest_10 : decode cX6_greatest 10 = .ok (.aload_n 0, 1) := by decide +kernel
theorem dX6_greatest_11 : decode cX6_greatest 11 = .ok (.getfield 10, 3) := by decide +kernel
theorem dX6_greatest_14 : decode cX6_greatest 14 = .ok (.aload_n 3, 1) := by decide +kernel
theorem dX6_greatest_15 : decode cX6_greatest 15 = .ok (.getfield 54, 3) := by decide +kernel
theorem dX6_greatest_18 : decode cX6_greatest 18 = .ok (.iload_n 2, 1) := by decide +kernel
theorem dX6_greatest_19 : decode cX6_greatest 19 = .ok (.invokevirtual 224, 3) := by decide +kernel
theorem dX6_greatest_22 : decode cX6_greatest 22 = .ok (.aload_n 0, 1) := by decide +kernel
theorem dX6_greatest_23 : decode cX6_greatest 23 = .ok (.getfield 10, 3) := by decide +kernel
theorem dX6_greatest_26 : decode cX6_greatest 26 = .ok (.aload_n 3, 1) := by decide +kernel
theorem dX6_greatest_27 : decode cX6_greatest 27 = .ok (.getfield 54, 3) := by decide +kernel
theorem dX6_greatest_30 : decode cX6_greatest 30 = .ok (.invokevirtual 230, 3) := by decide +kernel
theorem dX6_greatest_33 : decode cX6_greatest 33 = .ok (.ireturn, 1) := by decide +kernel
theorem dX6_area_0 : decode cX6_area 0 = .ok (.aload_n 0, 1) := by decide +kernel
theorem dX6_area_1 : decode cX6_area 1 = .ok (.getfield 25, 3) := by decide +kernel
theorem dX6_area_4 : decode cX6_area 4 = .ok (.getfield 233, 3) := by decide +kernel
theorem dX6_area_7 : decode cX6_area 7 = .ok (.iconst 3, 1) := by decide +kernel
theorem dX6_area_8 : decode cX6_area 8 = .ok (.if_icmp .ge 7, 3) := by decide +kernel
theorem dX6_area_11 : decode cX6_area 11 = .ok (.iconst 0, 1) := by decide +kernel
theorem dX6_area_12 : decode cX6_area 12 = .ok (.goto 10, 3) := by decide +kernel
theorem dX6_area_15 : decode cX6_area 15 = .ok (.aload_n 0, 1) := by decide +kernel
theorem dX6_area_16 : decode cX6_area 16 = .ok (.getfield 25, 3) := by decide +kernel
theorem dX6_area_19 : decode cX6_area 19 = .ok (.invokevirtual 249, 3) := by decide +kernel
theorem dX6_area_22 : decode cX6_area 22 = .ok (.ireturn, 1) := by decide +kernel
theorem dX6_nodesWith_0 : decode cX6_nodesWith 0 = .ok (.aload_n 0, 1) := by decide +kernel
theorem dX6_nodesWith_1 : decode cX6_nodesWith 1 = .ok (.iload_n 1, 1) := by decide +kernel
theorem dX6_nodesWith_2 : decode cX6_nodesWith 2 = .ok (.invokevirtual 57, 3) := by decide +kernel
theorem dX6_nodesWith_5 : decode cX6_nodesWith 5 = .ok (.astore_n 3, 1) := by decide +kernel
theorem dX6_nodesWith_6 : decode cX6_nodesWith 6 = .ok (.aload_n 3, 1) := by decide +kernel
theorem dX6_nodesWith_7 : decode cX6_nodesWith 7 = .ok (.iload_n 2, 1) := by decide +kernel
theorem dX6_nodesWith_8 : decode cX6_nodesWith 8 = .ok (.invokestatic 61, 3) := by decide +kernel
theorem dX6_nodesWith_11 : decode cX6_nodesWith 11 = .ok (.aload_n 3, 1) := by decide +kernel
theorem dX6_nodesWith_12 : decode cX6_nodesWith 12 = .ok (.getfield 252, 3) := by decide +kernel
theorem dX6_nodesWith_15 : decode cX6_nodesWith 15 = .ok (.ifCond .eq 19, 3) := by decide +kernel
theorem dX6_nodesWith_18 : decode cX6_nodesWith 18 = .ok (.aload_n 0, 1) := by decide +kernel
theorem dX6_nodesWith_19 : decode cX6_nodesWith 19 = .ok (.getfield 32, 3) := by decide +kernel
theorem dX6_nodesWith_22 : decode cX6_nodesWith 22 = .ok (.aload_n 0, 1) := by decide +kernel
theorem dX6_nodesWith_23 : decode cX6_nodesWith 23 = .ok (.getfield 10, 3) := by decide +kernel
theorem dX6_nodesWith_26 : decode cX6_nodesWith 26 = .ok (.iload_n 1, 1) := by decide +kernel
theorem dX6_nodesWith_27 : decode cX6_nodesWith 27 = .ok (.iload_n 2, 1) := by decide +kernel
theorem dX6_nodesWith_28 : decode cX6_nodesWith 28 = .ok (.invokevirtual 256, 3) := by decide +kernel
theorem dX6_nodesWith_31 : decode cX6_nodesWith 31 = .ok (.goto 16, 3) := by decide +kernel
theorem dX6_nodesWith_34 : decode cX6_nodesWith 34 = .ok (.aload_n 0, 1) := by decide +kernel
theorem dX6_nodesWith_35 : decode cX6_nodesWith 35 = .ok (.getfield 32, 3) := by decide +kernel
theorem dX6_nodesWith_38 : decode cX6_nodesWith 38 = .ok (.aload_n 0, 1) := by decide +kernel
theorem dX6_nodesWith_39 : decode cX6_nodesWith 39 = .ok (.getfield 10, 3) := by decide +kernel
theorem dX6_nodesWith_42 : decode cX6_nodesWith 42 = .ok (.iload_n 1, 1) := by decide +kernel
theorem dX6_nodesWith_43 : decode cX6_nodesWith 43 = .ok (.iload_n 2, 1) := by decide +kernel
theorem dX6_nodesWith_44 : decode cX6_nodesWith 44 = .ok (.invokevirtual 143, 3) := by decide +kernel
theorem dX6_nodesWith_47 : decode cX6_nodesWith 47 = .ok (.aload_n 0, 1) := by decide +kernel
theorem dX6_nodesWith_48 : decode cX6_nodesWith 48 = .ok (.getfield 32, 3) := by decide +kernel
theorem dX6_nodesWith_51 : decode cX6_nodesWith 51 = .ok (.getfield 147, 3) := by decide +kernel
theorem dX6_nodesWith_54 : decode cX6_nodesWith 54 = .ok (.ireturn, 1) := by decide +kernel
theorem dX6_digest_0 : decode cX6_digest 0 = .ok (.ldc2_w 259, 3) := by decide +kernel
theorem dX6_digest_3 : decode cX6_digest 3 = .ok (.aload_n 0, 1) := by decide +kernel
theorem dX6_digest_4 : decode cX6_digest 4 = .ok (.invokevirtual 261, 3) := by decide +kernel
theorem dX6_digest_7 : decode cX6_digest 7 = .ok (.i2l, 1) := by decide +kernel
theorem dX6_digest_8 : decode cX6_digest 8 = .ok (.ladd, 1) := by decide +kernel
theorem dX6_digest_9 : decode cX6_digest 9 = .ok (.lstore_n 1, 1) := by decide +kernel
theorem dX6_digest_10 : decode cX6_digest 10 = .ok (.iconst 0, 1) := by decide +kernel
theorem dX6_digest_11 : decode cX6_digest 11 = .ok (.istore_n 3, 1) := by decide +kernel
theorem dX6_digest_12 : decode cX6_digest 12 = .ok (.iload_n 3, 1) := by decide +kernel
theorem dX6_digest_13 : decode cX6_digest 13 = .ok (.aload_n 0, 1) := by decide +kernel
theorem dX6_digest_14 : decode cX6_digest 14 = .ok (.getfield 10, 3) := by decide +kernel
theorem dX6_digest_17 : decode cX6_digest 17 = .ok (.getfield 106, 3) := by decide +kernel
theorem dX6_digest_20 : decode cX6_digest 20 = .ok (.if_icmp .ge 64, 3) := by decide +kernel
theorem dX6_digest_23 : decode cX6_digest 23 = .ok (.aload_n 0, 1) := by decide +kernel
theorem dX6_digest_24 : decode cX6_digest 24 = .ok (.getfield 10, 3) := by decide +kernel
theorem dX6_digest_27 : decode cX6_digest 27 = .ok (.getfield 132, 3) := by decide +kernel
theorem dX6_digest_30 : decode cX6_digest 30 = .ok (.iload_n 3, 1) := by decide +kernel
theorem dX6_digest_31 : decode cX6_digest 31 = .ok (.invokevirtual 116, 3) := by decide +kernel
theorem dX6_digest_34 : decode cX6_digest 34 = .ok (.iconst (-1), 1) := by decide +kernel
theorem dX6_digest_35 : decode cX6_digest 35 = .ok (.if_icmp .eq 43, 3) := by decide +kernel
theorem dX6_digest_38 : decode cX6_digest 38 = .ok (.lload_n 1, 1) := by decide +kernel
theorem dX6_digest_39 : decode cX6_digest 39 = .ok (.ldc2_w 263, 3) := by decide +kernel
theorem dX6_digest_42 : decode cX6_digest 42 = .ok (.lmul, 1) := by decide +kernel
theorem dX6_digest_43 : decode cX6_digest 43 = .ok (.iload_n 3, 1) := by decide +kernel
theorem dX6_digest_44 : decode cX6_digest 44 = .ok (.i2l, 1) := by decide +kernel
theorem dX6_digest_45 : decode cX6_digest 45 = .ok (.ladd, 1) := by decide +kernel
theorem dX6_digest_46 : decode cX6_digest 46 = .ok (.lstore_n 1, 1) := by decide +kernel
theorem dX6_digest_47 : decode cX6_digest 47 = .ok (.iconst 0, 1) := by decide +kernel
theorem dX6_digest_48 : decode cX6_digest 48 = .ok (.istore 4, 2) := by decide +kernel
theorem dX6_digest_50 : decode cX6_digest 50 = .ok (.iload 4, 2) := by decide +kernel
theorem dX6_digest_52 : decode cX6_digest 52 = .ok (.bipush 6, 2) := by decide +kernel
theorem dX6_digest_54 : decode cX6_digest 54 = .ok (.if_icmp .gt 24, 3) := by decide +kernel
theorem dX6_digest_57 : decode cX6_digest 57 = .ok (.lload_n 1, 1) := by decide +kernel
theorem dX6_digest_58 : decode cX6_digest 58 = .ok (.ldc2_w 263, 3) := by decide +kernel
theorem dX6_digest_61 : decode cX6_digest 61 = .ok (.lmul, 1) := by decide +kernel
theorem dX6_digest_62 : decode cX6_digest 62 = .ok (.aload_n 0, 1) := by decide +kernel
theorem dX6_digest_63 : decode cX6_digest 63 = .ok (.iload_n 3, 1) := by decide +kernel
theorem dX6_digest_64 : decode cX6_digest 64 = .ok (.iload 4, 2) := by decide +kernel
theorem dX6_digest_66 : decode cX6_digest 66 = .ok (.invokevirtual 265, 3) := by decide +kernel
theorem dX6_digest_69 : decode cX6_digest 69 = .ok (.i2l, 1) := by decide +kernel
theorem dX6_digest_70 : decode cX6_digest 70 = .ok (.ladd, 1) := by decide +kernel
theorem dX6_digest_71 : decode cX6_digest 71 = .ok (.lstore_n 1, 1) := by decide +kernel
theorem dX6_digest_72 : decode cX6_digest 72 = .ok (.iinc 4 1, 3) := by decide +kernel
theorem dX6_digest_75 : decode cX6_digest 75 = .ok (.goto (-25), 3) := by decide +kernel
theorem dX6_digest_78 : decode cX6_digest 78 = .ok (.iinc 3 1, 3) := by decide +kernel
theorem dX6_digest_81 : decode cX6_digest 81 = .ok (.goto (-69), 3) := by decide +kernel
theorem dX6_digest_84 : decode cX6_digest 84 = .ok (.iconst 0, 1) := by decide +kernel
theorem dX6_digest_85 : decode cX6_digest 85 = .ok (.istore_n 3, 1) := by decide +kernel
theorem dX6_digest_86 : decode cX6_digest 86 = .ok (.iload_n 3, 1) := by decide +kernel
theorem dX6_digest_87 : decode cX6_digest 87 = .ok (.aload_n 0, 1) := by decide +kernel
theorem dX6_digest_88 : decode cX6_digest 88 = .ok (.getfield 36, 3) := by decide +kernel
theorem dX6_digest_91 : decode cX6_digest 91 = .ok (.if_icmp .ge 200, 3) := by decide +kernel
theorem dX6_digest_94 : decode cX6_digest 94 = .ok (.lload_n 1, 1) := by decide +kernel
theorem dX6_digest_95 : decode cX6_digest 95 = .ok (.ldc2_w 263, 3) := by decide +kernel
theorem dX6_digest_98 : decode cX6_digest 98 = .ok (.lmul, 1) := by decide +kernel
theorem dX6_digest_99 : decode cX6_digest 99 = .ok (.aload_n 0, 1) := by decide +kernel
theorem dX6_digest_100 : decode cX6_digest 100 = .ok (.iload_n 3, 1) := by decide +kernel
theorem dX6_digest_101 : decode cX6_digest 101 = .ok (.invokevirtual 268, 3) := by decide +kernel
theorem dX6_digest_104 : decode cX6_digest 104 = .ok (.i2l, 1) := by decide +kernel
theorem dX6_digest_105 : decode cX6_digest 105 = .ok (.ladd, 1) := by decide +kernel
theorem dX6_digest_106 : decode cX6_digest 106 = .ok (.lstore_n 1, 1) := by decide +kernel
theorem dX6_digest_107 : decode cX6_digest 107 = .ok (.lload_n 1, 1) := by decide +kernel
theorem dX6_digest_108 : decode cX6_digest 108 = .ok (.ldc2_w 263, 3) := by decide +kernel
theorem dX6_digest_111 : decode cX6_digest 111 = .ok (.lmul, 1) := by decide +kernel
theorem dX6_digest_112 : decode cX6_digest 112 = .ok (.aload_n 0, 1) := by decide +kernel
theorem dX6_digest_113 : decode cX6_digest 113 = .ok (.iload_n 3, 1) := by decide +kernel
theorem dX6_digest_114 : decode cX6_digest 114 = .ok (.invokevirtual 270, 3) := by decide +kernel
theorem dX6_digest_117 : decode cX6_digest 117 = .ok (.i2l, 1) := by decide +kernel
theorem dX6_digest_118 : decode cX6_digest 118 = .ok (.ladd, 1) := by decide +kernel
theorem dX6_digest_119 : decode cX6_digest 119 = .ok (.lstore_n 1, 1) := by decide +kernel
theorem dX6_digest_120 : decode cX6_digest 120 = .ok (.lload_n 1, 1) := by decide +kernel
theorem dX6_digest_121 : decode cX6_digest 121 = .ok (.ldc2_w 263, 3) := by decide +kernel
theorem dX6_digest_124 : decode cX6_digest 124 = .ok (.lmul, 1) := by decide +kernel
theorem dX6_digest_125 : decode cX6_digest 125 = .ok (.aload_n 0, 1) := by decide +kernel
theorem dX6_digest_126 : decode cX6_digest 126 = .ok (.iload_n 3, 1) := by decide +kernel
theorem dX6_digest_127 : decode cX6_digest 127 = .ok (.invokevirtual 273, 3) := by decide +kernel
theorem dX6_digest_130 : decode cX6_digest 130 = .ok (.i2l, 1) := by decide +kernel
theorem dX6_digest_131 : decode cX6_digest 131 = .ok (.ladd, 1) := by decide +kernel
theorem dX6_digest_132 : decode cX6_digest 132 = .ok (.lstore_n 1, 1) := by decide +kernel
theorem dX6_digest_133 : decode cX6_digest 133 = .ok (.lload_n 1, 1) := by decide +kernel
theorem dX6_digest_134 : decode cX6_digest 134 = .ok (.ldc2_w 263, 3) := by decide +kernel
theorem dX6_digest_137 : decode cX6_digest 137 = .ok (.lmul, 1) := by decide +kernel
theorem dX6_digest_138 : decode cX6_digest 138 = .ok (.aload_n 0, 1) := by decide +kernel
theorem dX6_digest_139 : decode cX6_digest 139 = .ok (.iload_n 3, 1) := by decide +kernel
theorem dX6_digest_140 : decode cX6_digest 140 = .ok (.bipush 100, 2) := by decide +kernel
theorem dX6_digest_142 : decode cX6_digest 142 = .ok (.bipush 100, 2) := by decide +kernel
theorem dX6_digest_144 : decode cX6_digest 144 = .ok (.sipush 400, 3) := by decide +kernel
theorem dX6_digest_147 : decode cX6_digest 147 = .ok (.sipush 300, 3) := by decide +kernel
theorem dX6_digest_150 : decode cX6_digest 150 = .ok (.invokevirtual 276, 3) := by decide +kernel
theorem dX6_digest_153 : decode cX6_digest 153 = .ok (.i2l, 1) := by decide +kernel
theorem dX6_digest_154 : decode cX6_digest 154 = .ok (.ladd, 1) := by decide +kernel
theorem dX6_digest_155 : decode cX6_digest 155 = .ok (.lstore_n 1, 1) := by decide +kernel
