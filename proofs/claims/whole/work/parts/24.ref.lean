/-! The reference's acts: the house. -/
theorem d208_0 : decode (m_code 208) 0 = .ok (.iload_n 1, 1) := by decide +kernel
theorem d208_1 : decode (m_code 208) 1 = .ok (.invokestatic 43, 3) := by decide +kernel
theorem d208_4 : decode (m_code 208) 4 = .ok (.ifCond .ne 7, 3) := by decide +kernel
theorem d208_7 : decode (m_code 208) 7 = .ok (.iconst (-1), 1) := by decide +kernel
theorem d208_8 : decode (m_code 208) 8 = .ok (.goto 32, 3) := by decide +kernel
theorem d208_11 : decode (m_code 208) 11 = .ok (.iload_n 2, 1) := by decide +kernel
theorem d208_12 : decode (m_code 208) 12 = .ok (.invokestatic 47, 3) := by decide +kernel
theorem d208_15 : decode (m_code 208) 15 = .ok (.ifCond .ne 8, 3) := by decide +kernel
theorem d208_18 : decode (m_code 208) 18 = .ok (.bipush (-2), 2) := by decide +kernel
theorem d208_20 : decode (m_code 208) 20 = .ok (.goto 20, 3) := by decide +kernel
theorem d208_23 : decode (m_code 208) 23 = .ok (.aload_n 0, 1) := by decide +kernel
theorem d208_24 : decode (m_code 208) 24 = .ok (.getfield 7, 3) := by decide +kernel
theorem d208_27 : decode (m_code 208) 27 = .ok (.iconst 2, 1) := by decide +kernel
theorem d208_28 : decode (m_code 208) 28 = .ok (.iaload, 1) := by decide +kernel
theorem d208_29 : decode (m_code 208) 29 = .ok (.bipush 12, 2) := by decide +kernel
theorem d208_31 : decode (m_code 208) 31 = .ok (.if_icmp .ne 8, 3) := by decide +kernel
theorem d208_34 : decode (m_code 208) 34 = .ok (.bipush (-3), 2) := by decide +kernel
theorem d208_36 : decode (m_code 208) 36 = .ok (.goto 4, 3) := by decide +kernel
theorem d208_39 : decode (m_code 208) 39 = .ok (.iconst 0, 1) := by decide +kernel
theorem d208_40 : decode (m_code 208) 40 = .ok (.istore_n 3, 1) := by decide +kernel
theorem d208_41 : decode (m_code 208) 41 = .ok (.iload_n 3, 1) := by decide +kernel
theorem d208_42 : decode (m_code 208) 42 = .ok (.ifCond .ge 5, 3) := by decide +kernel
theorem d208_45 : decode (m_code 208) 45 = .ok (.iload_n 3, 1) := by decide +kernel
theorem d208_46 : decode (m_code 208) 46 = .ok (.ireturn, 1) := by decide +kernel
theorem d208_47 : decode (m_code 208) 47 = .ok (.aload_n 0, 1) := by decide +kernel
theorem d208_48 : decode (m_code 208) 48 = .ok (.invokevirtual 50, 3) := by decide +kernel
theorem d208_51 : decode (m_code 208) 51 = .ok (.aload_n 0, 1) := by decide +kernel
theorem d208_52 : decode (m_code 208) 52 = .ok (.getfield 7, 3) := by decide +kernel
theorem d208_55 : decode (m_code 208) 55 = .ok (.iconst 2, 1) := by decide +kernel
theorem d208_56 : decode (m_code 208) 56 = .ok (.iaload, 1) := by decide +kernel
theorem d208_57 : decode (m_code 208) 57 = .ok (.istore 4, 2) := by decide +kernel
theorem d208_59 : decode (m_code 208) 59 = .ok (.iconst 0, 1) := by decide +kernel
theorem d208_60 : decode (m_code 208) 60 = .ok (.istore 5, 2) := by decide +kernel
theorem d208_62 : decode (m_code 208) 62 = .ok (.iload 5, 2) := by decide +kernel
theorem d208_64 : decode (m_code 208) 64 = .ok (.bipush 6, 2) := by decide +kernel
theorem d208_66 : decode (m_code 208) 66 = .ok (.if_icmp .ge 26, 3) := by decide +kernel
theorem d208_69 : decode (m_code 208) 69 = .ok (.aload_n 0, 1) := by decide +kernel
theorem d208_70 : decode (m_code 208) 70 = .ok (.getfield 7, 3) := by decide +kernel
theorem d208_73 : decode (m_code 208) 73 = .ok (.bipush 20, 2) := by decide +kernel
theorem d208_75 : decode (m_code 208) 75 = .ok (.bipush 6, 2) := by decide +kernel
theorem d208_77 : decode (m_code 208) 77 = .ok (.iload 4, 2) := by decide +kernel
theorem d208_79 : decode (m_code 208) 79 = .ok (.imul, 1) := by decide +kernel
theorem d208_80 : decode (m_code 208) 80 = .ok (.iadd, 1) := by decide +kernel
theorem d208_81 : decode (m_code 208) 81 = .ok (.iload 5, 2) := by decide +kernel
theorem d208_83 : decode (m_code 208) 83 = .ok (.iadd, 1) := by decide +kernel
theorem d208_84 : decode (m_code 208) 84 = .ok (.iconst 0, 1) := by decide +kernel
theorem d208_85 : decode (m_code 208) 85 = .ok (.iastore, 1) := by decide +kernel
theorem d208_86 : decode (m_code 208) 86 = .ok (.iinc 5 1, 3) := by decide +kernel
theorem d208_89 : decode (m_code 208) 89 = .ok (.goto (-27), 3) := by decide +kernel
theorem d208_92 : decode (m_code 208) 92 = .ok (.aload_n 0, 1) := by decide +kernel
theorem d208_93 : decode (m_code 208) 93 = .ok (.getfield 7, 3) := by decide +kernel
theorem d208_96 : decode (m_code 208) 96 = .ok (.bipush 20, 2) := by decide +kernel
theorem d208_98 : decode (m_code 208) 98 = .ok (.bipush 6, 2) := by decide +kernel
theorem d208_100 : decode (m_code 208) 100 = .ok (.iload 4, 2) := by decide +kernel
theorem d208_102 : decode (m_code 208) 102 = .ok (.imul, 1) := by decide +kernel
theorem d208_103 : decode (m_code 208) 103 = .ok (.iadd, 1) := by decide +kernel
theorem d208_104 : decode (m_code 208) 104 = .ok (.iconst 0, 1) := by decide +kernel
theorem d208_105 : decode (m_code 208) 105 = .ok (.iadd, 1) := by decide +kernel
theorem d208_106 : decode (m_code 208) 106 = .ok (.iload_n 1, 1) := by decide +kernel
theorem d208_107 : decode (m_code 208) 107 = .ok (.iastore, 1) := by decide +kernel
theorem d208_108 : decode (m_code 208) 108 = .ok (.aload_n 0, 1) := by decide +kernel
theorem d208_109 : decode (m_code 208) 109 = .ok (.getfield 7, 3) := by decide +kernel
theorem d208_112 : decode (m_code 208) 112 = .ok (.bipush 20, 2) := by decide +kernel
theorem d208_114 : decode (m_code 208) 114 = .ok (.bipush 6, 2) := by decide +kernel
theorem d208_116 : decode (m_code 208) 116 = .ok (.iload 4, 2) := by decide +kernel
theorem d208_118 : decode (m_code 208) 118 = .ok (.imul, 1) := by decide +kernel
theorem d208_119 : decode (m_code 208) 119 = .ok (.iadd, 1) := by decide +kernel
theorem d208_120 : decode (m_code 208) 120 = .ok (.iconst 1, 1) := by decide +kernel
theorem d208_121 : decode (m_code 208) 121 = .ok (.iadd, 1) := by decide +kernel
theorem d208_122 : decode (m_code 208) 122 = .ok (.iload_n 2, 1) := by decide +kernel
theorem d208_123 : decode (m_code 208) 123 = .ok (.iastore, 1) := by decide +kernel
theorem d208_124 : decode (m_code 208) 124 = .ok (.aload_n 0, 1) := by decide +kernel
theorem d208_125 : decode (m_code 208) 125 = .ok (.getfield 7, 3) := by decide +kernel
theorem d208_128 : decode (m_code 208) 128 = .ok (.iconst 2, 1) := by decide +kernel
theorem d208_129 : decode (m_code 208) 129 = .ok (.dup2, 1) := by decide +kernel
theorem d208_130 : decode (m_code 208) 130 = .ok (.iaload, 1) := by decide +kernel
theorem d208_131 : decode (m_code 208) 131 = .ok (.iconst 1, 1) := by decide +kernel
theorem d208_132 : decode (m_code 208) 132 = .ok (.iadd, 1) := by decide +kernel
theorem d208_133 : decode (m_code 208) 133 = .ok (.iastore, 1) := by decide +kernel
theorem d208_134 : decode (m_code 208) 134 = .ok (.iload 4, 2) := by decide +kernel
theorem d208_136 : decode (m_code 208) 136 = .ok (.ireturn, 1) := by decide +kernel
theorem d214_0 : decode (m_code 214) 0 = .ok (.aload_n 0, 1) := by decide +kernel
theorem d214_1 : decode (m_code 214) 1 = .ok (.iload_n 1, 1) := by decide +kernel
theorem d214_2 : decode (m_code 214) 2 = .ok (.invokevirtual 57, 3) := by decide +kernel
theorem d214_5 : decode (m_code 214) 5 = .ok (.ifCond .eq 11, 3) := by decide +kernel
theorem d214_8 : decode (m_code 214) 8 = .ok (.aload_n 0, 1) := by decide +kernel
theorem d214_9 : decode (m_code 214) 9 = .ok (.iload_n 2, 1) := by decide +kernel
theorem d214_10 : decode (m_code 214) 10 = .ok (.invokevirtual 57, 3) := by decide +kernel
theorem d214_13 : decode (m_code 214) 13 = .ok (.ifCond .ne 5, 3) := by decide +kernel
theorem d214_16 : decode (m_code 214) 16 = .ok (.iconst (-1), 1) := by decide +kernel
theorem d214_17 : decode (m_code 214) 17 = .ok (.ireturn, 1) := by decide +kernel
theorem d214_18 : decode (m_code 214) 18 = .ok (.iload_n 3, 1) := by decide +kernel
theorem d214_19 : decode (m_code 214) 19 = .ok (.iconst 1, 1) := by decide +kernel
theorem d214_20 : decode (m_code 214) 20 = .ok (.bipush 9, 2) := by decide +kernel
theorem d214_22 : decode (m_code 214) 22 = .ok (.invokestatic 39, 3) := by decide +kernel
theorem d214_25 : decode (m_code 214) 25 = .ok (.ifCond .eq 19, 3) := by decide +kernel
theorem d214_28 : decode (m_code 214) 28 = .ok (.iload 4, 2) := by decide +kernel
theorem d214_30 : decode (m_code 214) 30 = .ok (.iconst (-1), 1) := by decide +kernel
theorem d214_31 : decode (m_code 214) 31 = .ok (.bipush 7, 2) := by decide +kernel
theorem d214_33 : decode (m_code 214) 33 = .ok (.invokestatic 39, 3) := by decide +kernel
theorem d214_36 : decode (m_code 214) 36 = .ok (.ifCond .eq 8, 3) := by decide +kernel
theorem d214_39 : decode (m_code 214) 39 = .ok (.iload_n 1, 1) := by decide +kernel
theorem d214_40 : decode (m_code 214) 40 = .ok (.iload_n 2, 1) := by decide +kernel
theorem d214_41 : decode (m_code 214) 41 = .ok (.if_icmp .ne 6, 3) := by decide +kernel
theorem d214_44 : decode (m_code 214) 44 = .ok (.bipush (-2), 2) := by decide +kernel
theorem d214_46 : decode (m_code 214) 46 = .ok (.ireturn, 1) := by decide +kernel
theorem d214_47 : decode (m_code 214) 47 = .ok (.aload_n 0, 1) := by decide +kernel
theorem d214_48 : decode (m_code 214) 48 = .ok (.iload_n 1, 1) := by decide +kernel
theorem d214_49 : decode (m_code 214) 49 = .ok (.iload_n 2, 1) := by decide +kernel
theorem d214_50 : decode (m_code 214) 50 = .ok (.invokevirtual 60, 3) := by decide +kernel
theorem d214_53 : decode (m_code 214) 53 = .ok (.bipush (-5), 2) := by decide +kernel
theorem d214_55 : decode (m_code 214) 55 = .ok (.if_icmp .eq 6, 3) := by decide +kernel
theorem d214_58 : decode (m_code 214) 58 = .ok (.bipush (-4), 2) := by decide +kernel
theorem d214_60 : decode (m_code 214) 60 = .ok (.ireturn, 1) := by decide +kernel
theorem d214_61 : decode (m_code 214) 61 = .ok (.aload_n 0, 1) := by decide +kernel
theorem d214_62 : decode (m_code 214) 62 = .ok (.getfield 7, 3) := by decide +kernel
theorem d214_65 : decode (m_code 214) 65 = .ok (.iconst 3, 1) := by decide +kernel
theorem d214_66 : decode (m_code 214) 66 = .ok (.iaload, 1) := by decide +kernel
theorem d214_67 : decode (m_code 214) 67 = .ok (.bipush 20, 2) := by decide +kernel
theorem d214_69 : decode (m_code 214) 69 = .ok (.if_icmp .ne 6, 3) := by decide +kernel
theorem d214_72 : decode (m_code 214) 72 = .ok (.bipush (-3), 2) := by decide +kernel
theorem d214_74 : decode (m_code 214) 74 = .ok (.ireturn, 1) := by decide +kernel
theorem d214_75 : decode (m_code 214) 75 = .ok (.aload_n 0, 1) := by decide +kernel
theorem d214_76 : decode (m_code 214) 76 = .ok (.invokevirtual 50, 3) := by decide +kernel
theorem d214_79 : decode (m_code 214) 79 = .ok (.aload_n 0, 1) := by decide +kernel
theorem d214_80 : decode (m_code 214) 80 = .ok (.getfield 7, 3) := by decide +kernel
theorem d214_83 : decode (m_code 214) 83 = .ok (.iconst 3, 1) := by decide +kernel
theorem d214_84 : decode (m_code 214) 84 = .ok (.iaload, 1) := by decide +kernel
theorem d214_85 : decode (m_code 214) 85 = .ok (.istore 5, 2) := by decide +kernel
theorem d214_87 : decode (m_code 214) 87 = .ok (.aload_n 0, 1) := by decide +kernel
theorem d214_88 : decode (m_code 214) 88 = .ok (.getfield 7, 3) := by decide +kernel
theorem d214_91 : decode (m_code 214) 91 = .ok (.bipush 92, 2) := by decide +kernel
theorem d214_93 : decode (m_code 214) 93 = .ok (.iconst 5, 1) := by decide +kernel
theorem d214_94 : decode (m_code 214) 94 = .ok (.iload 5, 2) := by decide +kernel
theorem d214_96 : decode (m_code 214) 96 = .ok (.imul, 1) := by decide +kernel
theorem d214_97 : decode (m_code 214) 97 = .ok (.iadd, 1) := by decide +kernel
theorem d214_98 : decode (m_code 214) 98 = .ok (.iconst 0, 1) := by decide +kernel
theorem d214_99 : decode (m_code 214) 99 = .ok (.iadd, 1) := by decide +kernel
theorem d214_100 : decode (m_code 214) 100 = .ok (.iload_n 1, 1) := by decide +kernel
theorem d214_101 : decode (m_code 214) 101 = .ok (.iastore, 1) := by decide +kernel
theorem d214_102 : decode (m_code 214) 102 = .ok (.aload_n 0, 1) := by decide +kernel
theorem d214_103 : decode (m_code 214) 103 = .ok (.getfield 7, 3) := by decide +kernel
theorem d214_106 : decode (m_code 214) 106 = .ok (.bipush 92, 2) := by decide +kernel
theorem d214_108 : decode (m_code 214) 108 = .ok (.iconst 5, 1) := by decide +kernel
theorem d214_109 : decode (m_code 214) 109 = .ok (.iload 5, 2) := by decide +kernel
theorem d214_111 : decode (m_code 214) 111 = .ok (.imul, 1) := by decide +kernel
theorem d214_112 : decode (m_code 214) 112 = .ok (.iadd, 1) := by decide +kernel
theorem d214_113 : decode (m_code 214) 113 = .ok (.iconst 1, 1) := by decide +kernel
theorem d214_114 : decode (m_code 214) 114 = .ok (.iadd, 1) := by decide +kernel
theorem d214_115 : decode (m_code 214) 115 = .ok (.iload_n 2, 1) := by decide +kernel
theorem d214_116 : decode (m_code 214) 116 = .ok (.iastore, 1) := by decide +kernel
theorem d214_117 : decode (m_code 214) 117 = .ok (.aload_n 0, 1) := by decide +kernel
theorem d214_118 : decode (m_code 214) 118 = .ok (.getfield 7, 3) := by decide +kernel
theorem d214_121 : decode (m_code 214) 121 = .ok (.bipush 92, 2) := by decide +kernel
theorem d214_123 : decode (m_code 214) 123 = .ok (.iconst 5, 1) := by decide +kernel
theorem d214_124 : decode (m_code 214) 124 = .ok (.iload 5, 2) := by decide +kernel
theorem d214_126 : decode (m_code 214) 126 = .ok (.imul, 1) := by decide +kernel
theorem d214_127 : decode (m_code 214) 127 = .ok (.iadd, 1) := by decide +kernel
theorem d214_128 : decode (m_code 214) 128 = .ok (.iconst 2, 1) := by decide +kernel
theorem d214_129 : decode (m_code 214) 129 = .ok (.iadd, 1) := by decide +kernel
theorem d214_130 : decode (m_code 214) 130 = .ok (.iload_n 3, 1) := by decide +kernel
theorem d214_131 : decode (m_code 214) 131 = .ok (.iastore, 1) := by decide +kernel
theorem d214_132 : decode (m_code 214) 132 = .ok (.aload_n 0, 1) := by decide +kernel
theorem d214_133 : decode (m_code 214) 133 = .ok (.getfield 7, 3) := by decide +kernel
theorem d214_136 : decode (m_code 214) 136 = .ok (.bipush 92, 2) := by decide +kernel
theorem d214_138 : decode (m_code 214) 138 = .ok (.iconst 5, 1) := by decide +kernel
theorem d214_139 : decode (m_code 214) 139 = .ok (.iload 5, 2) := by decide +kernel
theorem d214_141 : decode (m_code 214) 141 = .ok (.imul, 1) := by decide +kernel
theorem d214_142 : decode (m_code 214) 142 = .ok (.iadd, 1) := by decide +kernel
theorem d214_143 : decode (m_code 214) 143 = .ok (.iconst 3, 1) := by decide +kernel
theorem d214_144 : decode (m_code 214) 144 = .ok (.iadd, 1) := by decide +kernel
theorem d214_145 : decode (m_code 214) 145 = .ok (.iload 4, 2) := by decide +kernel
theorem d214_147 : decode (m_code 214) 147 = .ok (.iastore, 1) := by decide +kernel
theorem d214_148 : decode (m_code 214) 148 = .ok (.aload_n 0, 1) := by decide +kernel
theorem d214_149 : decode (m_code 214) 149 = .ok (.getfield 7, 3) := by decide +kernel
theorem d214_152 : decode (m_code 214) 152 = .ok (.bipush 92, 2) := by decide +kernel
theorem d214_154 : decode (m_code 214) 154 = .ok (.iconst 5, 1) := by decide +kernel
theorem d214_155 : decode (m_code 214) 155 = .ok (.iload 5, 2) := by decide +kernel
theorem d214_157 : decode (m_code 214) 157 = .ok (.imul, 1) := by decide +kernel
theorem d214_158 : decode (m_code 214) 158 = .ok (.iadd, 1) := by decide +kernel
theorem d214_159 : decode (m_code 214) 159 = .ok (.iconst 4, 1) := by decide +kernel
theorem d214_160 : decode (m_code 214) 160 = .ok (.iadd, 1) := by decide +kernel
theorem d214_161 : decode (m_code 214) 161 = .ok (.iconst 0, 1) := by decide +kernel
theorem d214_162 : decode (m_code 214) 162 = .ok (.iastore, 1) := by decide +kernel
theorem d214_163 : decode (m_code 214) 163 = .ok (.aload_n 0, 1) := by decide +kernel
theorem d214_164 : decode (m_code 214) 164 = .ok (.getfield 7, 3) := by decide +kernel
theorem d214_167 : decode (m_code 214) 167 = .ok (.iconst 3, 1) := by decide +kernel
theorem d214_168 : decode (m_code 214) 168 = .ok (.dup2, 1) := by decide +kernel
theorem d214_169 : decode (m_code 214) 169 = .ok (.iaload, 1) := by decide +kernel
theorem d214_170 : decode (m_code 214) 170 = .ok (.iconst 1, 1) := by decide +kernel
theorem d214_171 : decode (m_code 214) 171 = .ok (.iadd, 1) := by decide +kernel
theorem d214_172 : decode (m_code 214) 172 = .ok (.iastore, 1) := by decide +kernel
theorem d214_173 : decode (m_code 214) 173 = .ok (.iload 5, 2) := by decide +kernel
theorem d214_175 : decode (m_code 214) 175 = .ok (.ireturn, 1) := by decide +kernel
theorem d218_0 : decode (m_code 218) 0 = .ok (.aload_n 0, 1) := by decide +kernel
theorem d218_1 : decode (m_code 218) 1 = .ok (.iload_n 1, 1) := by decide +kernel
theorem d218_2 : decode (m_code 218) 2 = .ok (.invokevirtual 57, 3) := by decide +kernel
theorem d218_5 : decode (m_code 218) 5 = .ok (.ifCond .ne 7, 3) := by decide +kernel
theorem d218_8 : decode (m_code 218) 8 = .ok (.iconst (-1), 1) := by decide +kernel
theorem d218_9 : decode (m_code 218) 9 = .ok (.goto 40, 3) := by decide +kernel
theorem d218_12 : decode (m_code 218) 12 = .ok (.iload_n 2, 1) := by decide +kernel
theorem d218_13 : decode (m_code 218) 13 = .ok (.invokestatic 47, 3) := by decide +kernel
theorem d218_16 : decode (m_code 218) 16 = .ok (.ifCond .ne 8, 3) := by decide +kernel
theorem d218_19 : decode (m_code 218) 19 = .ok (.bipush (-2), 2) := by decide +kernel
theorem d218_21 : decode (m_code 218) 21 = .ok (.goto 28, 3) := by decide +kernel
theorem d218_24 : decode (m_code 218) 24 = .ok (.iload_n 1, 1) := by decide +kernel
theorem d218_25 : decode (m_code 218) 25 = .ok (.ifCond .ne 8, 3) := by decide +kernel
theorem d218_28 : decode (m_code 218) 28 = .ok (.bipush (-4), 2) := by decide +kernel
theorem d218_30 : decode (m_code 218) 30 = .ok (.goto 19, 3) := by decide +kernel
theorem d218_33 : decode (m_code 218) 33 = .ok (.aload_n 0, 1) := by decide +kernel
theorem d218_34 : decode (m_code 218) 34 = .ok (.iload_n 1, 1) := by decide +kernel
theorem d218_35 : decode (m_code 218) 35 = .ok (.iconst 1, 1) := by decide +kernel
theorem d218_36 : decode (m_code 218) 36 = .ok (.invokevirtual 63, 3) := by decide +kernel
theorem d218_39 : decode (m_code 218) 39 = .ok (.iload_n 2, 1) := by decide +kernel
theorem d218_40 : decode (m_code 218) 40 = .ok (.if_icmp .ne 8, 3) := by decide +kernel
theorem d218_43 : decode (m_code 218) 43 = .ok (.bipush (-5), 2) := by decide +kernel
theorem d218_45 : decode (m_code 218) 45 = .ok (.goto 4, 3) := by decide +kernel
theorem d218_48 : decode (m_code 218) 48 = .ok (.iconst 0, 1) := by decide +kernel
theorem d218_49 : decode (m_code 218) 49 = .ok (.istore_n 3, 1) := by decide +kernel
theorem d218_50 : decode (m_code 218) 50 = .ok (.iload_n 3, 1) := by decide +kernel
theorem d218_51 : decode (m_code 218) 51 = .ok (.ifCond .ge 5, 3) := by decide +kernel
theorem d218_54 : decode (m_code 218) 54 = .ok (.iload_n 3, 1) := by decide +kernel
theorem d218_55 : decode (m_code 218) 55 = .ok (.ireturn, 1) := by decide +kernel
theorem d218_56 : decode (m_code 218) 56 = .ok (.aload_n 0, 1) := by decide +kernel
theorem d218_57 : decode (m_code 218) 57 = .ok (.invokevirtual 50, 3) := by decide +kernel
theorem d218_60 : decode (m_code 218) 60 = .ok (.aload_n 0, 1) := by decide +kernel
theorem d218_61 : decode (m_code 218) 61 = .ok (.iload_n 1, 1) := by decide +kernel
theorem d218_62 : decode (m_code 218) 62 = .ok (.iconst 1, 1) := by decide +kernel
theorem d218_63 : decode (m_code 218) 63 = .ok (.invokevirtual 63, 3) := by decide +kernel
theorem d218_66 : decode (m_code 218) 66 = .ok (.istore 4, 2) := by decide +kernel
theorem d218_68 : decode (m_code 218) 68 = .ok (.aload_n 0, 1) := by decide +kernel
theorem d218_69 : decode (m_code 218) 69 = .ok (.getfield 7, 3) := by decide +kernel
theorem d218_72 : decode (m_code 218) 72 = .ok (.bipush 20, 2) := by decide +kernel
theorem d218_74 : decode (m_code 218) 74 = .ok (.bipush 6, 2) := by decide +kernel
theorem d218_76 : decode (m_code 218) 76 = .ok (.iload_n 1, 1) := by decide +kernel
theorem d218_77 : decode (m_code 218) 77 = .ok (.imul, 1) := by decide +kernel
theorem d218_78 : decode (m_code 218) 78 = .ok (.iadd, 1) := by decide +kernel
theorem d218_79 : decode (m_code 218) 79 = .ok (.iconst 1, 1) := by decide +kernel
theorem d218_80 : decode (m_code 218) 80 = .ok (.iadd, 1) := by decide +kernel
theorem d218_81 : decode (m_code 218) 81 = .ok (.iload_n 2, 1) := by decide +kernel
theorem d218_82 : decode (m_code 218) 82 = .ok (.iastore, 1) := by decide +kernel
theorem d218_83 : decode (m_code 218) 83 = .ok (.iload 4, 2) := by decide +kernel
theorem d218_85 : decode (m_code 218) 85 = .ok (.ireturn, 1) := by decide +kernel
theorem c_record {X : mX} {h : mH} {R : Nat → Nat → Int32} {σ : Nat → Int32} (hR : Ms h R σ) {n : Nat} (hn : R 0 5 = nI n) (hn4 : n ≤ 4) : Does X 212 [.ref 313] h (F_rec R σ n) σ none := by
  by_cases h4 : n = 4
  · subst h4
    exact c_record4 hR hn
  · exact c_record3 hR hn (by omega)
/-- the counts that a row holds -/
def Cn (σ : Nat → Int32) (mi nR nD nG nW nA : Nat) : Prop := (σ 0 = nI mi ∧ mi ≤ 720) ∧ (σ 2 = nI nR ∧ 1 ≤ nR ∧ nR ≤ 12) ∧ (σ 3 = nI nD ∧ nD ≤ 20) ∧ (σ 4 = nI nG ∧ nG ≤ 4) ∧ (σ 5 = nI nW ∧ nW ≤ 10) ∧ (σ 6 = nI nA ∧ nA ≤ 40)
theorem r_addRoom_1 {X : mX} {h : mH} {R : Nat → Nat → Int32} {σ : Nat → Int32} (hR : Ms h R σ) {mi nR nD nG nW nA n : Nat} (hC : Cn σ mi nR nD nG nW nA) (hn : R 0 5 = nI n) (hn4 : n ≤ 4) {zone bound : Int32} (hz : ¬ (nI 0 ≤ zone ∧ zone ≤ nI 5)) : Tells X 208 [.ref 313, .int (zone), .int (bound)] h (-1) := by
  obtain ⟨⟨h0, hmi⟩, ⟨h2, hR1, hR12⟩, ⟨h3, hD⟩, ⟨h4, hG⟩, ⟨h5, hW⟩, ⟨h6, hA⟩⟩ := hC
  refine wp_iload_n d208_0 rfl ?_
  refine wp_invsT (e := 43) (j2 := 209) (n := 1) d208_1 (by decide +kernel) (by decide +kernel) rfl rfl rfl (Nat.le_of_ble_eq_true rfl) (Nat.le_of_ble_eq_true rfl) rfl rfl (Nat.le_of_ble_eq_true rfl) (by decide +kernel) (c_isZone (zone)) ?_
  refine wp_ifb_ne d208_4 (tgt := 11) (by decide) (fun hq9 => absurd hq9 hz) (fun _ => ?_)
  refine wp_iconst d208_7 (v := (-1 : Int32)) (by decide) ?_
  refine wp_goto d208_8 (tgt := 40) (by decide) ?_
  refine wp_istore_n d208_40 (Nat.le_of_ble_eq_true rfl) rfl ?_
  refine wp_iload_n d208_41 rfl ?_
  refine wp_if_ge d208_42 (tgt := 47) (by decide) (fun hz => absurd hz (by decide)) (fun _ => ?_)
  refine wp_iload_n d208_45 rfl ?_
  refine wp_iret d208_46 (by decide +kernel) ?_
  exact ⟨rfl, rfl⟩
theorem r_addRoom_2 {X : mX} {h : mH} {R : Nat → Nat → Int32} {σ : Nat → Int32} (hR : Ms h R σ) {mi nR nD nG nW nA n : Nat} (hC : Cn σ mi nR nD nG nW nA) (hn : R 0 5 = nI n) (hn4 : n ≤ 4) {zone bound : Int32} (hz : nI 0 ≤ zone ∧ zone ≤ nI 5) (hb : ¬ (nI 0 ≤ bound ∧ bound ≤ nI 240)) : Tells X 208 [.ref 313, .int (zone), .int (bound)] h (-2) := by
  obtain ⟨⟨h0, hmi⟩, ⟨h2, hR1, hR12⟩, ⟨h3, hD⟩, ⟨h4, hG⟩, ⟨h5, hW⟩, ⟨h6, hA⟩⟩ := hC
  refine wp_iload_n d208_0 rfl ?_
  refine wp_invsT (e := 43) (j2 := 209) (n := 1) d208_1 (by decide +kernel) (by decide +kernel) rfl rfl rfl (Nat.le_of_ble_eq_true rfl) (Nat.le_of_ble_eq_true rfl) rfl rfl (Nat.le_of_ble_eq_true rfl) (by decide +kernel) (c_isZone (zone)) ?_
  refine wp_ifb_ne d208_4 (tgt := 11) (by decide) (fun _ => ?_) (fun hq9 => absurd hz hq9)
  refine wp_iload_n d208_11 rfl ?_
  refine wp_invsT (e := 47) (j2 := 211) (n := 1) d208_12 (by decide +kernel) (by decide +kernel) rfl rfl rfl (Nat.le_of_ble_eq_true rfl) (Nat.le_of_ble_eq_true rfl) rfl rfl (Nat.le_of_ble_eq_true rfl) (by decide +kernel) (c_isBound (bound)) ?_
  refine wp_ifb_ne d208_15 (tgt := 23) (by decide) (fun hq9 => absurd hq9 hb) (fun _ => ?_)
  refine wp_bipush d208_18 (v := (-2 : Int32)) (by decide) ?_
  refine wp_goto d208_20 (tgt := 40) (by decide) ?_
  refine wp_istore_n d208_40 (Nat.le_of_ble_eq_true rfl) rfl ?_
  refine wp_iload_n d208_41 rfl ?_
  refine wp_if_ge d208_42 (tgt := 47) (by decide) (fun hz => absurd hz (by decide)) (fun _ => ?_)
  refine wp_iload_n d208_45 rfl ?_
  refine wp_iret d208_46 (by decide +kernel) ?_
  exact ⟨rfl, rfl⟩
theorem r_addRoom_3 {X : mX} {h : mH} {R : Nat → Nat → Int32} {σ : Nat → Int32} (hR : Ms h R σ) {mi nR nD nG nW nA n : Nat} (hC : Cn σ mi nR nD nG nW nA) (hn : R 0 5 = nI n) (hn4 : n ≤ 4) {zone bound : Int32} (hz : nI 0 ≤ zone ∧ zone ≤ nI 5) (hb : nI 0 ≤ bound ∧ bound ≤ nI 240) (hf : nR = 12) : Tells X 208 [.ref 313, .int (zone), .int (bound)] h (-3) := by
  obtain ⟨⟨h0, hmi⟩, ⟨h2, hR1, hR12⟩, ⟨h3, hD⟩, ⟨h4, hG⟩, ⟨h5, hW⟩, ⟨h6, hA⟩⟩ := hC
  refine wp_iload_n d208_0 rfl ?_
  refine wp_invsT (e := 43) (j2 := 209) (n := 1) d208_1 (by decide +kernel) (by decide +kernel) rfl rfl rfl (Nat.le_of_ble_eq_true rfl) (Nat.le_of_ble_eq_true rfl) rfl rfl (Nat.le_of_ble_eq_true rfl) (by decide +kernel) (c_isZone (zone)) ?_
  refine wp_ifb_ne d208_4 (tgt := 11) (by decide) (fun _ => ?_) (fun hq9 => absurd hz hq9)
  refine wp_iload_n d208_11 rfl ?_
  refine wp_invsT (e := 47) (j2 := 211) (n := 1) d208_12 (by decide +kernel) (by decide +kernel) rfl rfl rfl (Nat.le_of_ble_eq_true rfl) (Nat.le_of_ble_eq_true rfl) rfl rfl (Nat.le_of_ble_eq_true rfl) (by decide +kernel) (c_isBound (bound)) ?_
  refine wp_ifb_ne d208_15 (tgt := 23) (by decide) (fun _ => ?_) (fun hq9 => absurd hb hq9)
  refine wp_aload_n d208_23 rfl ?_
  refine wp_getf (e := 7) (ci := 12) (k := 0) (nest := false) d208_24 (by decide +kernel) (md_0 hR) rfl ?_
  refine wp_iconst d208_27 (v := nI 2) (by decide) ?_
  refine wp_iald d208_28 (md_1 hR) (nI_in (by omega) (by decide)) (v := nI nR) ((congrArg σ (nI_nat (by omega))).trans h2) ?_
  refine wp_bipush d208_29 (v := nI 12) (by decide) ?_
  refine wp_icmp_ne d208_31 (tgt := 39) (by decide) (fun hq9 => absurd (by rw [hf] : nI nR = nI 12) hq9) (fun _ => ?_)
  refine wp_bipush d208_34 (v := (-3 : Int32)) (by decide) ?_
  refine wp_goto d208_36 (tgt := 40) (by decide) ?_
  refine wp_istore_n d208_40 (Nat.le_of_ble_eq_true rfl) rfl ?_
  refine wp_iload_n d208_41 rfl ?_
  refine wp_if_ge d208_42 (tgt := 47) (by decide) (fun hz => absurd hz (by decide)) (fun _ => ?_)
  refine wp_iload_n d208_45 rfl ?_
  refine wp_iret d208_46 (by decide +kernel) ?_
  exact ⟨rfl, rfl⟩
def G_clr (σ : Nat → Int32) (b : Nat) : Nat → (Nat → Int32)
  | 0 => σ
  | k + 1 => upd (G_clr σ b k) (b + k) (nI 0)
theorem G_clr_at (σ : Nat → Int32) (b k i : Nat) : G_clr σ b k i = if b ≤ i ∧ i < b + k then nI 0 else σ i := by
  induction k with
  | zero => rw [if_neg (by omega)]; rfl
  | succ k ih =>
    unfold G_clr upd
    split
    next h => rw [if_pos (by omega)]
    next h =>
      rw [ih]
      split
      next h2 => rw [if_pos (by omega)]
      next h2 => rw [if_neg (by omega)]
theorem G_clr_ne {σ : Nat → Int32} {b k i : Nat} (h : i < b ∨ b + k ≤ i) : G_clr σ b k i = σ i := by rw [G_clr_at, if_neg (by omega)]
def R_addRoom (σ : Nat → Int32) (nR : Nat) (zone bound : Int32) : Nat → Int32 := upd (upd (upd (G_clr σ (20 + 6 * nR) 6) (20 + 6 * nR + 0) zone) (20 + 6 * nR + 1) bound) 2 (nI (nR + 1))
theorem r_addRoom_l {X : mX}  {h0 : mH} {R : Nat → Nat → Int32} {σ : Nat → Int32} {nR : Nat} (hr : nR < 12) {zone bound : Int32} {l3 : Option Value} {Q : Option Value → mH → Prop} : ∀ (d : Nat) (k : Nat) (h : mH), 6 - k = d → k ≤ 6 → Ms h R (G_clr σ (20 + 6 * nR) k) → Frm h0 h 313 8 → (∀ h1, Ms h1 R (G_clr σ (20 + 6 * nR) 6) → Frm h0 h1 313 8 → ∀ v, m_wp X 208 92 [some (.ref 313), some (.int zone), some (.int bound), l3, some (.int (nI nR)), some (.int v)] [] h1 Q) → m_wp X 208 62 [some (.ref 313), some (.int (zone)), some (.int (bound)), l3, some (.int (nI nR)), some (.int (nI k))] [] h Q := by
  intro d
  induction d using Nat.strongRecOn with
  | ind d ih =>
    intro k h hd hk hR hF K
    refine wp_iload d208_62 rfl ?_
    refine wp_bipush d208_64 (v := nI 6) (by decide) ?_
    refine wp_icmp_ge d208_66 (tgt := 92) (by decide) (fun hc66 => ?_) (fun hc66 => ?_)
    · have hc66 : 6 ≤ k := (nI_leI (by omega) (by omega)).mp hc66
      rw [show k = 6 by omega] at hR
      exact K h hR hF _
    · have hc66 : ¬ (6 ≤ k) := fun z => hc66 ((nI_leI (by omega) (by omega)).mpr z)
      refine wp_aload_n d208_69 rfl ?_
      refine wp_getf (e := 7) (ci := 12) (k := 0) (nest := false) d208_70 (by decide +kernel) (md_0 hR) rfl ?_
      refine wp_bipush d208_73 (v := nI 20) (by decide) ?_
      refine wp_bipush d208_75 (v := nI 6) (by decide) ?_
      refine wp_iload d208_77 rfl ?_
      refine wp_imulv d208_79 (v := nI (6 * nR)) (nI_mul _ _) ?_
      refine wp_iaddv d208_80 (v := nI (20 + 6 * nR)) (nI_add _ _) ?_
      refine wp_iload d208_81 rfl ?_
      refine wp_iaddv d208_83 (v := nI (20 + 6 * nR + k)) (nI_add _ _) ?_
      refine wp_iconst d208_84 (v := nI 0) (by decide) ?_
      refine wp_stS d208_85 hR hF (k := 20 + 6 * nR + k) (by omega) (fun h hR hF => ?_)
      refine wp_iinc d208_86 rfl (v := nI (k + 1)) (nI_add _ 1) (Nat.le_of_ble_eq_true rfl) rfl ?_
      refine wp_goto d208_89 (tgt := 62) (by decide) ?_
      exact ih (6 - (k + 1)) (by omega) (k + 1) h rfl (by omega) hR hF K
theorem r_addRoom {X : mX} {h : mH} {R : Nat → Nat → Int32} {σ : Nat → Int32} (hR : Ms h R σ) {mi nR nD nG nW nA n : Nat} (hC : Cn σ mi nR nD nG nW nA) (hn : R 0 5 = nI n) (hn4 : n ≤ 4) {zone bound : Int32} (hz : nI 0 ≤ zone ∧ zone ≤ nI 5) (hb : nI 0 ≤ bound ∧ bound ≤ nI 240) (hf : ¬ nR = 12) : Does X 208 [.ref 313, .int (zone), .int (bound)] h (F_rec R σ n) (R_addRoom σ nR zone bound) (some (.int (nI nR))) := by
  obtain ⟨⟨h0, hmi⟩, ⟨h2, hR1, hR12⟩, ⟨h3, hD⟩, ⟨h4, hG⟩, ⟨h5, hW⟩, ⟨h6, hA⟩⟩ := hC
  have hF : Frm h h 313 8 := Frm.rf
  refine wp_iload_n d208_0 rfl ?_
  refine wp_invsT (e := 43) (j2 := 209) (n := 1) d208_1 (by decide +kernel) (by decide +kernel) rfl rfl rfl (Nat.le_of_ble_eq_true rfl) (Nat.le_of_ble_eq_true rfl) rfl rfl (Nat.le_of_ble_eq_true rfl) (by decide +kernel) (c_isZone (zone)) ?_
  refine wp_ifb_ne d208_4 (tgt := 11) (by decide) (fun _ => ?_) (fun hq9 => absurd hz hq9)
  refine wp_iload_n d208_11 rfl ?_
  refine wp_invsT (e := 47) (j2 := 211) (n := 1) d208_12 (by decide +kernel) (by decide +kernel) rfl rfl rfl (Nat.le_of_ble_eq_true rfl) (Nat.le_of_ble_eq_true rfl) rfl rfl (Nat.le_of_ble_eq_true rfl) (by decide +kernel) (c_isBound (bound)) ?_
  refine wp_ifb_ne d208_15 (tgt := 23) (by decide) (fun _ => ?_) (fun hq9 => absurd hb hq9)
  refine wp_aload_n d208_23 rfl ?_
  refine wp_getf (e := 7) (ci := 12) (k := 0) (nest := false) d208_24 (by decide +kernel) (md_0 hR) rfl ?_
  refine wp_iconst d208_27 (v := nI 2) (by decide) ?_
  refine wp_iald d208_28 (md_1 hR) (nI_in (by omega) (by decide)) (v := nI nR) ((congrArg σ (nI_nat (by omega))).trans h2) ?_
  refine wp_bipush d208_29 (v := nI 12) (by decide) ?_
  refine wp_icmp_ne d208_31 (tgt := 39) (by decide) (fun _ => ?_) (fun hq9 => absurd hq9 (fun q => hf ((nI_eq (by omega) (by omega)).mp q)))
  refine wp_iconst d208_39 (v := nI 0) (by decide) ?_
  refine wp_istore_n d208_40 (Nat.le_of_ble_eq_true rfl) rfl ?_
  refine wp_iload_n d208_41 rfl ?_
  refine wp_if_ge d208_42 (tgt := 47) (by decide) (fun _ => ?_) (fun hz => absurd hz (by decide))
  refine wp_aload_n d208_47 rfl ?_
  refine wp_invvD (e := 50) (j2 := 212) (n := 0) d208_48 (by decide +kernel) (by decide +kernel) rfl rfl rfl (md_0 hR) (by decide +kernel) (Nat.le_of_ble_eq_true rfl) rfl rfl (Nat.le_of_ble_eq_true rfl) (by decide +kernel) (c_record hR hn hn4) hF ?_
  intro h hR hF
  refine wp_aload_n d208_51 rfl ?_
  refine wp_getf (e := 7) (ci := 12) (k := 0) (nest := false) d208_52 (by decide +kernel) (md_0 hR) rfl ?_
  refine wp_iconst d208_55 (v := nI 2) (by decide) ?_
  refine wp_iald d208_56 (md_1 hR) (nI_in (by omega) (by decide)) (v := nI nR) ((congrArg σ (nI_nat (by omega))).trans h2) ?_
  refine wp_istore d208_57 (Nat.le_of_ble_eq_true rfl) rfl ?_
  refine wp_iconst d208_59 (v := nI 0) (by decide) ?_
  refine wp_istore d208_60 (Nat.le_of_ble_eq_true rfl) rfl ?_
  refine r_addRoom_l (σ := σ) (nR := nR) (by omega) _ 0 h rfl (by omega) hR hF ?_
  intro h hR hF v5
  refine wp_aload_n d208_92 rfl ?_
  refine wp_getf (e := 7) (ci := 12) (k := 0) (nest := false) d208_93 (by decide +kernel) (md_0 hR) rfl ?_
  refine wp_bipush d208_96 (v := nI 20) (by decide) ?_
  refine wp_bipush d208_98 (v := nI 6) (by decide) ?_
  refine wp_iload d208_100 rfl ?_
  refine wp_imulv d208_102 (v := nI (6 * nR)) (nI_mul _ _) ?_
  refine wp_iaddv d208_103 (v := nI (20 + 6 * nR)) (nI_add _ _) ?_
  refine wp_iconst d208_104 (v := nI 0) (by decide) ?_
  refine wp_iaddv d208_105 (v := nI (20 + 6 * nR + 0)) (nI_add _ _) ?_
  refine wp_iload_n d208_106 rfl ?_
  refine wp_stS d208_107 hR hF (k := 20 + 6 * nR + 0) (by omega) (fun h hR hF => ?_)
  refine wp_aload_n d208_108 rfl ?_
  refine wp_getf (e := 7) (ci := 12) (k := 0) (nest := false) d208_109 (by decide +kernel) (md_0 hR) rfl ?_
  refine wp_bipush d208_112 (v := nI 20) (by decide) ?_
  refine wp_bipush d208_114 (v := nI 6) (by decide) ?_
  refine wp_iload d208_116 rfl ?_
  refine wp_imulv d208_118 (v := nI (6 * nR)) (nI_mul _ _) ?_
  refine wp_iaddv d208_119 (v := nI (20 + 6 * nR)) (nI_add _ _) ?_
  refine wp_iconst d208_120 (v := nI 1) (by decide) ?_
  refine wp_iaddv d208_121 (v := nI (20 + 6 * nR + 1)) (nI_add _ _) ?_
  refine wp_iload_n d208_122 rfl ?_
  refine wp_stS d208_123 hR hF (k := 20 + 6 * nR + 1) (by omega) (fun h hR hF => ?_)
  refine wp_aload_n d208_124 rfl ?_
  refine wp_getf (e := 7) (ci := 12) (k := 0) (nest := false) d208_125 (by decide +kernel) (md_0 hR) rfl ?_
  refine wp_iconst d208_128 (v := nI 2) (by decide) ?_
  refine wp_dup2 d208_129 rfl rfl ?_
  refine wp_iald d208_130 (md_1 hR) (nI_in (by omega) (by decide)) (v := nI nR) ((congrArg ((upd (upd (G_clr σ (20 + 6 * nR) 6) (20 + 6 * nR + 0) (zone)) (20 + 6 * nR + 1) (bound))) (nI_nat (by omega))).trans ((upd_ne (by omega)).trans ((upd_ne (by omega)).trans ((G_clr_ne (by omega)).trans h2)))) ?_
  refine wp_iconst d208_131 (v := nI 1) (by decide) ?_
  refine wp_iaddv d208_132 (v := nI (nR + 1)) (nI_add _ _) ?_
  refine wp_stS d208_133 hR hF (k := 2) (by omega) (fun h hR hF => ?_)
  refine wp_iload d208_134 rfl ?_
  refine wp_iret d208_136 (by decide +kernel) ?_
  exact ⟨rfl, hR, hF⟩
theorem r_addDoor_1a {X : mX} {h : mH} {R : Nat → Nat → Int32} {σ : Nat → Int32} (hR : Ms h R σ) {mi nR nD nG nW nA n : Nat} (hC : Cn σ mi nR nD nG nW nA) (hn : R 0 5 = nI n) (hn4 : n ≤ 4) {x y mt key : Int32} (hx : ¬ (nI 0 ≤ x ∧ x < nI nR)) : Tells X 214 [.ref 313, .int (x), .int (y), .int (mt), .int (key)] h (-1) := by
  obtain ⟨⟨h0, hmi⟩, ⟨h2, hR1, hR12⟩, ⟨h3, hD⟩, ⟨h4, hG⟩, ⟨h5, hW⟩, ⟨h6, hA⟩⟩ := hC
  refine wp_aload_n d214_0 rfl ?_
  refine wp_iload_n d214_1 rfl ?_
  refine wp_invvT (e := 57) (j2 := 215) (n := 1) d214_2 (by decide +kernel) (by decide +kernel) rfl rfl rfl (md_0 hR) (by decide +kernel) (Nat.le_of_ble_eq_true rfl) rfl rfl (Nat.le_of_ble_eq_true rfl) (by decide +kernel) (c_isRoom hR (n := nR) h2 (by omega) (x)) ?_
  refine wp_ifb_eq d214_5 (tgt := 16) (by decide) (fun _ => ?_) (fun hq9 => absurd hq9 hx)
  refine wp_iconst d214_16 (v := (-1 : Int32)) (by decide) ?_
  refine wp_iret d214_17 (by decide +kernel) ?_
  exact ⟨rfl, rfl⟩
theorem r_addDoor_1b {X : mX} {h : mH} {R : Nat → Nat → Int32} {σ : Nat → Int32} (hR : Ms h R σ) {mi nR nD nG nW nA n : Nat} (hC : Cn σ mi nR nD nG nW nA) (hn : R 0 5 = nI n) (hn4 : n ≤ 4) {x y mt key : Int32} (hx : nI 0 ≤ x ∧ x < nI nR) (hy : ¬ (nI 0 ≤ y ∧ y < nI nR)) : Tells X 214 [.ref 313, .int (x), .int (y), .int (mt), .int (key)] h (-1) := by
  obtain ⟨⟨h0, hmi⟩, ⟨h2, hR1, hR12⟩, ⟨h3, hD⟩, ⟨h4, hG⟩, ⟨h5, hW⟩, ⟨h6, hA⟩⟩ := hC
  refine wp_aload_n d214_0 rfl ?_
  refine wp_iload_n d214_1 rfl ?_
  refine wp_invvT (e := 57) (j2 := 215) (n := 1) d214_2 (by decide +kernel) (by decide +kernel) rfl rfl rfl (md_0 hR) (by decide +kernel) (Nat.le_of_ble_eq_true rfl) rfl rfl (Nat.le_of_ble_eq_true rfl) (by decide +kernel) (c_isRoom hR (n := nR) h2 (by omega) (x)) ?_
  refine wp_ifb_eq d214_5 (tgt := 16) (by decide) (fun hq9 => absurd hx hq9) (fun _ => ?_)
  refine wp_aload_n d214_8 rfl ?_
  refine wp_iload_n d214_9 rfl ?_
  refine wp_invvT (e := 57) (j2 := 215) (n := 1) d214_10 (by decide +kernel) (by decide +kernel) rfl rfl rfl (md_0 hR) (by decide +kernel) (Nat.le_of_ble_eq_true rfl) rfl rfl (Nat.le_of_ble_eq_true rfl) (by decide +kernel) (c_isRoom hR (n := nR) h2 (by omega) (y)) ?_
  refine wp_ifb_ne d214_13 (tgt := 18) (by decide) (fun hq9 => absurd hq9 hy) (fun _ => ?_)
  refine wp_iconst d214_16 (v := (-1 : Int32)) (by decide) ?_
  refine wp_iret d214_17 (by decide +kernel) ?_
  exact ⟨rfl, rfl⟩
theorem r_addDoor_2a {X : mX} {h : mH} {R : Nat → Nat → Int32} {σ : Nat → Int32} (hR : Ms h R σ) {mi nR nD nG nW nA n : Nat} (hC : Cn σ mi nR nD nG nW nA) (hn : R 0 5 = nI n) (hn4 : n ≤ 4) {x y mt key : Int32} (hx : nI 0 ≤ x ∧ x < nI nR) (hy : nI 0 ≤ y ∧ y < nI nR) (hm : ¬ (nI 1 ≤ mt ∧ mt ≤ nI 9)) : Tells X 214 [.ref 313, .int (x), .int (y), .int (mt), .int (key)] h (-2) := by
  obtain ⟨⟨h0, hmi⟩, ⟨h2, hR1, hR12⟩, ⟨h3, hD⟩, ⟨h4, hG⟩, ⟨h5, hW⟩, ⟨h6, hA⟩⟩ := hC
  refine wp_aload_n d214_0 rfl ?_
  refine wp_iload_n d214_1 rfl ?_
  refine wp_invvT (e := 57) (j2 := 215) (n := 1) d214_2 (by decide +kernel) (by decide +kernel) rfl rfl rfl (md_0 hR) (by decide +kernel) (Nat.le_of_ble_eq_true rfl) rfl rfl (Nat.le_of_ble_eq_true rfl) (by decide +kernel) (c_isRoom hR (n := nR) h2 (by omega) (x)) ?_
  refine wp_ifb_eq d214_5 (tgt := 16) (by decide) (fun hq9 => absurd hx hq9) (fun _ => ?_)
  refine wp_aload_n d214_8 rfl ?_
  refine wp_iload_n d214_9 rfl ?_
  refine wp_invvT (e := 57) (j2 := 215) (n := 1) d214_10 (by decide +kernel) (by decide +kernel) rfl rfl rfl (md_0 hR) (by decide +kernel) (Nat.le_of_ble_eq_true rfl) rfl rfl (Nat.le_of_ble_eq_true rfl) (by decide +kernel) (c_isRoom hR (n := nR) h2 (by omega) (y)) ?_
  refine wp_ifb_ne d214_13 (tgt := 18) (by decide) (fun _ => ?_) (fun hq9 => absurd hy hq9)
  refine wp_iload_n d214_18 rfl ?_
  refine wp_iconst d214_19 (v := nI 1) (by decide) ?_
  refine wp_bipush d214_20 (v := nI 9) (by decide) ?_
  refine wp_invsT (e := 39) (j2 := 210) (n := 3) d214_22 (by decide +kernel) (by decide +kernel) rfl rfl rfl (Nat.le_of_ble_eq_true rfl) (Nat.le_of_ble_eq_true rfl) rfl rfl (Nat.le_of_ble_eq_true rfl) (by decide +kernel) (c_within (mt) (nI 1) (nI 9)) ?_
  refine wp_ifb_eq d214_25 (tgt := 44) (by decide) (fun _ => ?_) (fun hq9 => absurd hq9 hm)
  refine wp_bipush d214_44 (v := (-2 : Int32)) (by decide) ?_
  refine wp_iret d214_46 (by decide +kernel) ?_
  exact ⟨rfl, rfl⟩
theorem r_addDoor_2b {X : mX} {h : mH} {R : Nat → Nat → Int32} {σ : Nat → Int32} (hR : Ms h R σ) {mi nR nD nG nW nA n : Nat} (hC : Cn σ mi nR nD nG nW nA) (hn : R 0 5 = nI n) (hn4 : n ≤ 4) {x y mt key : Int32} (hx : nI 0 ≤ x ∧ x < nI nR) (hy : nI 0 ≤ y ∧ y < nI nR) (hm : nI 1 ≤ mt ∧ mt ≤ nI 9) (hk : ¬ ((-1 : Int32) ≤ key ∧ key ≤ nI 7)) : Tells X 214 [.ref 313, .int (x), .int (y), .int (mt), .int (key)] h (-2) := by
  obtain ⟨⟨h0, hmi⟩, ⟨h2, hR1, hR12⟩, ⟨h3, hD⟩, ⟨h4, hG⟩, ⟨h5, hW⟩, ⟨h6, hA⟩⟩ := hC
  refine wp_aload_n d214_0 rfl ?_
  refine wp_iload_n d214_1 rfl ?_
  refine wp_invvT (e := 57) (j2 := 215) (n := 1) d214_2 (by decide +kernel) (by decide +kernel) rfl rfl rfl (md_0 hR) (by decide +kernel) (Nat.le_of_ble_eq_true rfl) rfl rfl (Nat.le_of_ble_eq_true rfl) (by decide +kernel) (c_isRoom hR (n := nR) h2 (by omega) (x)) ?_
  refine wp_ifb_eq d214_5 (tgt := 16) (by decide) (fun hq9 => absurd hx hq9) (fun _ => ?_)
  refine wp_aload_n d214_8 rfl ?_
  refine wp_iload_n d214_9 rfl ?_
  refine wp_invvT (e := 57) (j2 := 215) (n := 1) d214_10 (by decide +kernel) (by decide +kernel) rfl rfl rfl (md_0 hR) (by decide +kernel) (Nat.le_of_ble_eq_true rfl) rfl rfl (Nat.le_of_ble_eq_true rfl) (by decide +kernel) (c_isRoom hR (n := nR) h2 (by omega) (y)) ?_
  refine wp_ifb_ne d214_13 (tgt := 18) (by decide) (fun _ => ?_) (fun hq9 => absurd hy hq9)
  refine wp_iload_n d214_18 rfl ?_
  refine wp_iconst d214_19 (v := nI 1) (by decide) ?_
  refine wp_bipush d214_20 (v := nI 9) (by decide) ?_
  refine wp_invsT (e := 39) (j2 := 210) (n := 3) d214_22 (by decide +kernel) (by decide +kernel) rfl rfl rfl (Nat.le_of_ble_eq_true rfl) (Nat.le_of_ble_eq_true rfl) rfl rfl (Nat.le_of_ble_eq_true rfl) (by decide +kernel) (c_within (mt) (nI 1) (nI 9)) ?_
  refine wp_ifb_eq d214_25 (tgt := 44) (by decide) (fun hq9 => absurd hm hq9) (fun _ => ?_)
  refine wp_iload d214_28 rfl ?_
  refine wp_iconst d214_30 (v := (-1 : Int32)) (by decide) ?_
  refine wp_bipush d214_31 (v := nI 7) (by decide) ?_
  refine wp_invsT (e := 39) (j2 := 210) (n := 3) d214_33 (by decide +kernel) (by decide +kernel) rfl rfl rfl (Nat.le_of_ble_eq_true rfl) (Nat.le_of_ble_eq_true rfl) rfl rfl (Nat.le_of_ble_eq_true rfl) (by decide +kernel) (c_within (key) ((-1 : Int32)) (nI 7)) ?_
  refine wp_ifb_eq d214_36 (tgt := 44) (by decide) (fun _ => ?_) (fun hq9 => absurd hq9 hk)
  refine wp_bipush d214_44 (v := (-2 : Int32)) (by decide) ?_
  refine wp_iret d214_46 (by decide +kernel) ?_
  exact ⟨rfl, rfl⟩
theorem r_addDoor_2c {X : mX} {h : mH} {R : Nat → Nat → Int32} {σ : Nat → Int32} (hR : Ms h R σ) {mi nR nD nG nW nA n : Nat} (hC : Cn σ mi nR nD nG nW nA) (hn : R 0 5 = nI n) (hn4 : n ≤ 4) {x y mt key : Int32} (hx : nI 0 ≤ x ∧ x < nI nR) (hy : nI 0 ≤ y ∧ y < nI nR) (hm : nI 1 ≤ mt ∧ mt ≤ nI 9) (hk : (-1 : Int32) ≤ key ∧ key ≤ nI 7) (he : x = y) : Tells X 214 [.ref 313, .int (x), .int (y), .int (mt), .int (key)] h (-2) := by
  obtain ⟨⟨h0, hmi⟩, ⟨h2, hR1, hR12⟩, ⟨h3, hD⟩, ⟨h4, hG⟩, ⟨h5, hW⟩, ⟨h6, hA⟩⟩ := hC
  refine wp_aload_n d214_0 rfl ?_
  refine wp_iload_n d214_1 rfl ?_
  refine wp_invvT (e := 57) (j2 := 215) (n := 1) d214_2 (by decide +kernel) (by decide +kernel) rfl rfl rfl (md_0 hR) (by decide +kernel) (Nat.le_of_ble_eq_true rfl) rfl rfl (Nat.le_of_ble_eq_true rfl) (by decide +kernel) (c_isRoom hR (n := nR) h2 (by omega) (x)) ?_
  refine wp_ifb_eq d214_5 (tgt := 16) (by decide) (fun hq9 => absurd hx hq9) (fun _ => ?_)
  refine wp_aload_n d214_8 rfl ?_
  refine wp_iload_n d214_9 rfl ?_
  refine wp_invvT (e := 57) (j2 := 215) (n := 1) d214_10 (by decide +kernel) (by decide +kernel) rfl rfl rfl (md_0 hR) (by decide +kernel) (Nat.le_of_ble_eq_true rfl) rfl rfl (Nat.le_of_ble_eq_true rfl) (by decide +kernel) (c_isRoom hR (n := nR) h2 (by omega) (y)) ?_
  refine wp_ifb_ne d214_13 (tgt := 18) (by decide) (fun _ => ?_) (fun hq9 => absurd hy hq9)
  refine wp_iload_n d214_18 rfl ?_
  refine wp_iconst d214_19 (v := nI 1) (by decide) ?_
  refine wp_bipush d214_20 (v := nI 9) (by decide) ?_
  refine wp_invsT (e := 39) (j2 := 210) (n := 3) d214_22 (by decide +kernel) (by decide +kernel) rfl rfl rfl (Nat.le_of_ble_eq_true rfl) (Nat.le_of_ble_eq_true rfl) rfl rfl (Nat.le_of_ble_eq_true rfl) (by decide +kernel) (c_within (mt) (nI 1) (nI 9)) ?_
  refine wp_ifb_eq d214_25 (tgt := 44) (by decide) (fun hq9 => absurd hm hq9) (fun _ => ?_)
  refine wp_iload d214_28 rfl ?_
  refine wp_iconst d214_30 (v := (-1 : Int32)) (by decide) ?_
  refine wp_bipush d214_31 (v := nI 7) (by decide) ?_
  refine wp_invsT (e := 39) (j2 := 210) (n := 3) d214_33 (by decide +kernel) (by decide +kernel) rfl rfl rfl (Nat.le_of_ble_eq_true rfl) (Nat.le_of_ble_eq_true rfl) rfl rfl (Nat.le_of_ble_eq_true rfl) (by decide +kernel) (c_within (key) ((-1 : Int32)) (nI 7)) ?_
  refine wp_ifb_eq d214_36 (tgt := 44) (by decide) (fun hq9 => absurd hk hq9) (fun _ => ?_)
  refine wp_iload_n d214_39 rfl ?_
  refine wp_iload_n d214_40 rfl ?_
  refine wp_icmp_ne d214_41 (tgt := 47) (by decide) (fun hq9 => absurd he hq9) (fun _ => ?_)
  refine wp_bipush d214_44 (v := (-2 : Int32)) (by decide) ?_
  refine wp_iret d214_46 (by decide +kernel) ?_
  exact ⟨rfl, rfl⟩
theorem r_addDoor_3 {X : mX} {h : mH} {R : Nat → Nat → Int32} {σ : Nat → Int32} (hR : Ms h R σ) {mi nR nD nG nW nA n : Nat} (hC : Cn σ mi nR nD nG nW nA) (hn : R 0 5 = nI n) (hn4 : n ≤ 4) {x y mt key : Int32} (hx : nI 0 ≤ x ∧ x < nI nR) (hy : nI 0 ≤ y ∧ y < nI nR) (hm : nI 1 ≤ mt ∧ mt ≤ nI 9) (hk : (-1 : Int32) ≤ key ∧ key ≤ nI 7) (he : ¬ x = y) (hd : ¬ F_db σ x y nD = -5) : Tells X 214 [.ref 313, .int (x), .int (y), .int (mt), .int (key)] h (-4) := by
  obtain ⟨⟨h0, hmi⟩, ⟨h2, hR1, hR12⟩, ⟨h3, hD⟩, ⟨h4, hG⟩, ⟨h5, hW⟩, ⟨h6, hA⟩⟩ := hC
  refine wp_aload_n d214_0 rfl ?_
  refine wp_iload_n d214_1 rfl ?_
  refine wp_invvT (e := 57) (j2 := 215) (n := 1) d214_2 (by decide +kernel) (by decide +kernel) rfl rfl rfl (md_0 hR) (by decide +kernel) (Nat.le_of_ble_eq_true rfl) rfl rfl (Nat.le_of_ble_eq_true rfl) (by decide +kernel) (c_isRoom hR (n := nR) h2 (by omega) (x)) ?_
  refine wp_ifb_eq d214_5 (tgt := 16) (by decide) (fun hq9 => absurd hx hq9) (fun _ => ?_)
  refine wp_aload_n d214_8 rfl ?_
  refine wp_iload_n d214_9 rfl ?_
  refine wp_invvT (e := 57) (j2 := 215) (n := 1) d214_10 (by decide +kernel) (by decide +kernel) rfl rfl rfl (md_0 hR) (by decide +kernel) (Nat.le_of_ble_eq_true rfl) rfl rfl (Nat.le_of_ble_eq_true rfl) (by decide +kernel) (c_isRoom hR (n := nR) h2 (by omega) (y)) ?_
  refine wp_ifb_ne d214_13 (tgt := 18) (by decide) (fun _ => ?_) (fun hq9 => absurd hy hq9)
  refine wp_iload_n d214_18 rfl ?_
  refine wp_iconst d214_19 (v := nI 1) (by decide) ?_
  refine wp_bipush d214_20 (v := nI 9) (by decide) ?_
  refine wp_invsT (e := 39) (j2 := 210) (n := 3) d214_22 (by decide +kernel) (by decide +kernel) rfl rfl rfl (Nat.le_of_ble_eq_true rfl) (Nat.le_of_ble_eq_true rfl) rfl rfl (Nat.le_of_ble_eq_true rfl) (by decide +kernel) (c_within (mt) (nI 1) (nI 9)) ?_
  refine wp_ifb_eq d214_25 (tgt := 44) (by decide) (fun hq9 => absurd hm hq9) (fun _ => ?_)
  refine wp_iload d214_28 rfl ?_
  refine wp_iconst d214_30 (v := (-1 : Int32)) (by decide) ?_
  refine wp_bipush d214_31 (v := nI 7) (by decide) ?_
  refine wp_invsT (e := 39) (j2 := 210) (n := 3) d214_33 (by decide +kernel) (by decide +kernel) rfl rfl rfl (Nat.le_of_ble_eq_true rfl) (Nat.le_of_ble_eq_true rfl) rfl rfl (Nat.le_of_ble_eq_true rfl) (by decide +kernel) (c_within (key) ((-1 : Int32)) (nI 7)) ?_
  refine wp_ifb_eq d214_36 (tgt := 44) (by decide) (fun hq9 => absurd hk hq9) (fun _ => ?_)
  refine wp_iload_n d214_39 rfl ?_
  refine wp_iload_n d214_40 rfl ?_
  refine wp_icmp_ne d214_41 (tgt := 47) (by decide) (fun _ => ?_) (fun hq9 => absurd hq9 he)
  refine wp_aload_n d214_47 rfl ?_
  refine wp_iload_n d214_48 rfl ?_
  refine wp_iload_n d214_49 rfl ?_
  refine wp_invvT (e := 60) (j2 := 216) (n := 2) d214_50 (by decide +kernel) (by decide +kernel) rfl rfl rfl (md_0 hR) (by decide +kernel) (Nat.le_of_ble_eq_true rfl) rfl rfl (Nat.le_of_ble_eq_true rfl) (by decide +kernel) (c_doorBetween hR h3 hD (x) (y)) ?_
  refine wp_bipush d214_53 (v := (-5 : Int32)) (by decide) ?_
  refine wp_icmp_eq d214_55 (tgt := 61) (by decide) (fun hq9 => absurd hq9 hd) (fun _ => ?_)
  refine wp_bipush d214_58 (v := (-4 : Int32)) (by decide) ?_
  refine wp_iret d214_60 (by decide +kernel) ?_
  exact ⟨rfl, rfl⟩
theorem r_addDoor_4 {X : mX} {h : mH} {R : Nat → Nat → Int32} {σ : Nat → Int32} (hR : Ms h R σ) {mi nR nD nG nW nA n : Nat} (hC : Cn σ mi nR nD nG nW nA) (hn : R 0 5 = nI n) (hn4 : n ≤ 4) {x y mt key : Int32} (hx : nI 0 ≤ x ∧ x < nI nR) (hy : nI 0 ≤ y ∧ y < nI nR) (hm : nI 1 ≤ mt ∧ mt ≤ nI 9) (hk : (-1 : Int32) ≤ key ∧ key ≤ nI 7) (he : ¬ x = y) (hd : F_db σ x y nD = -5) (hf : nD = 20) : Tells X 214 [.ref 313, .int (x), .int (y), .int (mt), .int (key)] h (-3) := by
  obtain ⟨⟨h0, hmi⟩, ⟨h2, hR1, hR12⟩, ⟨h3, hD⟩, ⟨h4, hG⟩, ⟨h5, hW⟩, ⟨h6, hA⟩⟩ := hC
  refine wp_aload_n d214_0 rfl ?_
  refine wp_iload_n d214_1 rfl ?_
  refine wp_invvT (e := 57) (j2 := 215) (n := 1) d214_2 (by decide +kernel) (by decide +kernel) rfl rfl rfl (md_0 hR) (by decide +kernel) (Nat.le_of_ble_eq_true rfl) rfl rfl (Nat.le_of_ble_eq_true rfl) (by decide +kernel) (c_isRoom hR (n := nR) h2 (by omega) (x)) ?_
  refine wp_ifb_eq d214_5 (tgt := 16) (by decide) (fun hq9 => absurd hx hq9) (fun _ => ?_)
  refine wp_aload_n d214_8 rfl ?_
  refine wp_iload_n d214_9 rfl ?_
  refine wp_invvT (e := 57) (j2 := 215) (n := 1) d214_10 (by decide +kernel) (by decide +kernel) rfl rfl rfl (md_0 hR) (by decide +kernel) (Nat.le_of_ble_eq_true rfl) rfl rfl (Nat.le_of_ble_eq_true rfl) (by decide +kernel) (c_isRoom hR (n := nR) h2 (by omega) (y)) ?_
  refine wp_ifb_ne d214_13 (tgt := 18) (by decide) (fun _ => ?_) (fun hq9 => absurd hy hq9)
  refine wp_iload_n d214_18 rfl ?_
  refine wp_iconst d214_19 (v := nI 1) (by decide) ?_
  refine wp_bipush d214_20 (v := nI 9) (by decide) ?_
  refine wp_invsT (e := 39) (j2 := 210) (n := 3) d214_22 (by decide +kernel) (by decide +kernel) rfl rfl rfl (Nat.le_of_ble_eq_true rfl) (Nat.le_of_ble_eq_true rfl) rfl rfl (Nat.le_of_ble_eq_true rfl) (by decide +kernel) (c_within (mt) (nI 1) (nI 9)) ?_
  refine wp_ifb_eq d214_25 (tgt := 44) (by decide) (fun hq9 => absurd hm hq9) (fun _ => ?_)
  refine wp_iload d214_28 rfl ?_
  refine wp_iconst d214_30 (v := (-1 : Int32)) (by decide) ?_
  refine wp_bipush d214_31 (v := nI 7) (by decide) ?_
  refine wp_invsT (e := 39) (j2 := 210) (n := 3) d214_33 (by decide +kernel) (by decide +kernel) rfl rfl rfl (Nat.le_of_ble_eq_true rfl) (Nat.le_of_ble_eq_true rfl) rfl rfl (Nat.le_of_ble_eq_true rfl) (by decide +kernel) (c_within (key) ((-1 : Int32)) (nI 7)) ?_
  refine wp_ifb_eq d214_36 (tgt := 44) (by decide) (fun hq9 => absurd hk hq9) (fun _ => ?_)
  refine wp_iload_n d214_39 rfl ?_
  refine wp_iload_n d214_40 rfl ?_
  refine wp_icmp_ne d214_41 (tgt := 47) (by decide) (fun _ => ?_) (fun hq9 => absurd hq9 he)
  refine wp_aload_n d214_47 rfl ?_
  refine wp_iload_n d214_48 rfl ?_
  refine wp_iload_n d214_49 rfl ?_
  refine wp_invvT (e := 60) (j2 := 216) (n := 2) d214_50 (by decide +kernel) (by decide +kernel) rfl rfl rfl (md_0 hR) (by decide +kernel) (Nat.le_of_ble_eq_true rfl) rfl rfl (Nat.le_of_ble_eq_true rfl) (by decide +kernel) (c_doorBetween hR h3 hD (x) (y)) ?_
  refine wp_bipush d214_53 (v := (-5 : Int32)) (by decide) ?_
  refine wp_icmp_eq d214_55 (tgt := 61) (by decide) (fun _ => ?_) (fun hq9 => absurd hd hq9)
  refine wp_aload_n d214_61 rfl ?_
  refine wp_getf (e := 7) (ci := 12) (k := 0) (nest := false) d214_62 (by decide +kernel) (md_0 hR) rfl ?_
  refine wp_iconst d214_65 (v := nI 3) (by decide) ?_
  refine wp_iald d214_66 (md_1 hR) (nI_in (by omega) (by decide)) (v := nI nD) ((congrArg σ (nI_nat (by omega))).trans h3) ?_
  refine wp_bipush d214_67 (v := nI 20) (by decide) ?_
  refine wp_icmp_ne d214_69 (tgt := 75) (by decide) (fun hq9 => absurd (by rw [hf] : nI nD = nI 20) hq9) (fun _ => ?_)
  refine wp_bipush d214_72 (v := (-3 : Int32)) (by decide) ?_
  refine wp_iret d214_74 (by decide +kernel) ?_
  exact ⟨rfl, rfl⟩
def R_addDoor (σ : Nat → Int32) (nD : Nat) (x y mt key : Int32) : Nat → Int32 := upd (upd (upd (upd (upd (upd σ (92 + 5 * nD + 0) x) (92 + 5 * nD + 1) y) (92 + 5 * nD + 2) mt) (92 + 5 * nD + 3) key) (92 + 5 * nD + 4) (nI 0)) 3 (nI (nD + 1))
theorem r_addDoor {X : mX} {h : mH} {R : Nat → Nat → Int32} {σ : Nat → Int32} (hR : Ms h R σ) {mi nR nD nG nW nA n : Nat} (hC : Cn σ mi nR nD nG nW nA) (hn : R 0 5 = nI n) (hn4 : n ≤ 4) {x y mt key : Int32} (hx : nI 0 ≤ x ∧ x < nI nR) (hy : nI 0 ≤ y ∧ y < nI nR) (hm : nI 1 ≤ mt ∧ mt ≤ nI 9) (hk : (-1 : Int32) ≤ key ∧ key ≤ nI 7) (he : ¬ x = y) (hd : F_db σ x y nD = -5) (hf : ¬ nD = 20) : Does X 214 [.ref 313, .int (x), .int (y), .int (mt), .int (key)] h (F_rec R σ n) (R_addDoor σ nD x y mt key) (some (.int (nI nD))) := by
  obtain ⟨⟨h0, hmi⟩, ⟨h2, hR1, hR12⟩, ⟨h3, hD⟩, ⟨h4, hG⟩, ⟨h5, hW⟩, ⟨h6, hA⟩⟩ := hC
  have hF : Frm h h 313 8 := Frm.rf
  refine wp_aload_n d214_0 rfl ?_
  refine wp_iload_n d214_1 rfl ?_
  refine wp_invvT (e := 57) (j2 := 215) (n := 1) d214_2 (by decide +kernel) (by decide +kernel) rfl rfl rfl (md_0 hR) (by decide +kernel) (Nat.le_of_ble_eq_true rfl) rfl rfl (Nat.le_of_ble_eq_true rfl) (by decide +kernel) (c_isRoom hR (n := nR) h2 (by omega) (x)) ?_
  refine wp_ifb_eq d214_5 (tgt := 16) (by decide) (fun hq9 => absurd hx hq9) (fun _ => ?_)
  refine wp_aload_n d214_8 rfl ?_
  refine wp_iload_n d214_9 rfl ?_
  refine wp_invvT (e := 57) (j2 := 215) (n := 1) d214_10 (by decide +kernel) (by decide +kernel) rfl rfl rfl (md_0 hR) (by decide +kernel) (Nat.le_of_ble_eq_true rfl) rfl rfl (Nat.le_of_ble_eq_true rfl) (by decide +kernel) (c_isRoom hR (n := nR) h2 (by omega) (y)) ?_
  refine wp_ifb_ne d214_13 (tgt := 18) (by decide) (fun _ => ?_) (fun hq9 => absurd hy hq9)
  refine wp_iload_n d214_18 rfl ?_
  refine wp_iconst d214_19 (v := nI 1) (by decide) ?_
  refine wp_bipush d214_20 (v := nI 9) (by decide) ?_
  refine wp_invsT (e := 39) (j2 := 210) (n := 3) d214_22 (by decide +kernel) (by decide +kernel) rfl rfl rfl (Nat.le_of_ble_eq_true rfl) (Nat.le_of_ble_eq_true rfl) rfl rfl (Nat.le_of_ble_eq_true rfl) (by decide +kernel) (c_within (mt) (nI 1) (nI 9)) ?_
  refine wp_ifb_eq d214_25 (tgt := 44) (by decide) (fun hq9 => absurd hm hq9) (fun _ => ?_)
  refine wp_iload d214_28 rfl ?_
  refine wp_iconst d214_30 (v := (-1 : Int32)) (by decide) ?_
  refine wp_bipush d214_31 (v := nI 7) (by decide) ?_
  refine wp_invsT (e := 39) (j2 := 210) (n := 3) d214_33 (by decide +kernel) (by decide +kernel) rfl rfl rfl (Nat.le_of_ble_eq_true rfl) (Nat.le_of_ble_eq_true rfl) rfl rfl (Nat.le_of_ble_eq_true rfl) (by decide +kernel) (c_within (key) ((-1 : Int32)) (nI 7)) ?_
  refine wp_ifb_eq d214_36 (tgt := 44) (by decide) (fun hq9 => absurd hk hq9) (fun _ => ?_)
  refine wp_iload_n d214_39 rfl ?_
  refine wp_iload_n d214_40 rfl ?_
  refine wp_icmp_ne d214_41 (tgt := 47) (by decide) (fun _ => ?_) (fun hq9 => absurd hq9 he)
  refine wp_aload_n d214_47 rfl ?_
  refine wp_iload_n d214_48 rfl ?_
  refine wp_iload_n d214_49 rfl ?_
  refine wp_invvT (e := 60) (j2 := 216) (n := 2) d214_50 (by decide +kernel) (by decide +kernel) rfl rfl rfl (md_0 hR) (by decide +kernel) (Nat.le_of_ble_eq_true rfl) rfl rfl (Nat.le_of_ble_eq_true rfl) (by decide +kernel) (c_doorBetween hR h3 hD (x) (y)) ?_
  refine wp_bipush d214_53 (v := (-5 : Int32)) (by decide) ?_
  refine wp_icmp_eq d214_55 (tgt := 61) (by decide) (fun _ => ?_) (fun hq9 => absurd hd hq9)
  refine wp_aload_n d214_61 rfl ?_
  refine wp_getf (e := 7) (ci := 12) (k := 0) (nest := false) d214_62 (by decide +kernel) (md_0 hR) rfl ?_
  refine wp_iconst d214_65 (v := nI 3) (by decide) ?_
  refine wp_iald d214_66 (md_1 hR) (nI_in (by omega) (by decide)) (v := nI nD) ((congrArg σ (nI_nat (by omega))).trans h3) ?_
  refine wp_bipush d214_67 (v := nI 20) (by decide) ?_
  refine wp_icmp_ne d214_69 (tgt := 75) (by decide) (fun _ => ?_) (fun hq9 => absurd hq9 (fun q => hf ((nI_eq (by omega) (by omega)).mp q)))
  refine wp_aload_n d214_75 rfl ?_
  refine wp_invvD (e := 50) (j2 := 212) (n := 0) d214_76 (by decide +kernel) (by decide +kernel) rfl rfl rfl (md_0 hR) (by decide +kernel) (Nat.le_of_ble_eq_true rfl) rfl rfl (Nat.le_of_ble_eq_true rfl) (by decide +kernel) (c_record hR hn hn4) hF ?_
  intro h hR hF
  refine wp_aload_n d214_79 rfl ?_
  refine wp_getf (e := 7) (ci := 12) (k := 0) (nest := false) d214_80 (by decide +kernel) (md_0 hR) rfl ?_
  refine wp_iconst d214_83 (v := nI 3) (by decide) ?_
  refine wp_iald d214_84 (md_1 hR) (nI_in (by omega) (by decide)) (v := nI nD) ((congrArg σ (nI_nat (by omega))).trans h3) ?_
  refine wp_istore d214_85 (Nat.le_of_ble_eq_true rfl) rfl ?_
  refine wp_aload_n d214_87 rfl ?_
  refine wp_getf (e := 7) (ci := 12) (k := 0) (nest := false) d214_88 (by decide +kernel) (md_0 hR) rfl ?_
  refine wp_bipush d214_91 (v := nI 92) (by decide) ?_
  refine wp_iconst d214_93 (v := nI 5) (by decide) ?_
  refine wp_iload d214_94 rfl ?_
  refine wp_imulv d214_96 (v := nI (5 * nD)) (nI_mul _ _) ?_
  refine wp_iaddv d214_97 (v := nI (92 + 5 * nD)) (nI_add _ _) ?_
  refine wp_iconst d214_98 (v := nI 0) (by decide) ?_
  refine wp_iaddv d214_99 (v := nI (92 + 5 * nD + 0)) (nI_add _ _) ?_
  refine wp_iload_n d214_100 rfl ?_
  refine wp_stS d214_101 hR hF (k := 92 + 5 * nD + 0) (by omega) (fun h hR hF => ?_)
  refine wp_aload_n d214_102 rfl ?_
  refine wp_getf (e := 7) (ci := 12) (k := 0) (nest := false) d214_103 (by decide +kernel) (md_0 hR) rfl ?_
  refine wp_bipush d214_106 (v := nI 92) (by decide) ?_
  refine wp_iconst d214_108 (v := nI 5) (by decide) ?_
  refine wp_iload d214_109 rfl ?_
  refine wp_imulv d214_111 (v := nI (5 * nD)) (nI_mul _ _) ?_
  refine wp_iaddv d214_112 (v := nI (92 + 5 * nD)) (nI_add _ _) ?_
  refine wp_iconst d214_113 (v := nI 1) (by decide) ?_
  refine wp_iaddv d214_114 (v := nI (92 + 5 * nD + 1)) (nI_add _ _) ?_
  refine wp_iload_n d214_115 rfl ?_
  refine wp_stS d214_116 hR hF (k := 92 + 5 * nD + 1) (by omega) (fun h hR hF => ?_)
  refine wp_aload_n d214_117 rfl ?_
  refine wp_getf (e := 7) (ci := 12) (k := 0) (nest := false) d214_118 (by decide +kernel) (md_0 hR) rfl ?_
  refine wp_bipush d214_121 (v := nI 92) (by decide) ?_
  refine wp_iconst d214_123 (v := nI 5) (by decide) ?_
  refine wp_iload d214_124 rfl ?_
  refine wp_imulv d214_126 (v := nI (5 * nD)) (nI_mul _ _) ?_
  refine wp_iaddv d214_127 (v := nI (92 + 5 * nD)) (nI_add _ _) ?_
  refine wp_iconst d214_128 (v := nI 2) (by decide) ?_
  refine wp_iaddv d214_129 (v := nI (92 + 5 * nD + 2)) (nI_add _ _) ?_
  refine wp_iload_n d214_130 rfl ?_
  refine wp_stS d214_131 hR hF (k := 92 + 5 * nD + 2) (by omega) (fun h hR hF => ?_)
  refine wp_aload_n d214_132 rfl ?_
  refine wp_getf (e := 7) (ci := 12) (k := 0) (nest := false) d214_133 (by decide +kernel) (md_0 hR) rfl ?_
  refine wp_bipush d214_136 (v := nI 92) (by decide) ?_
  refine wp_iconst d214_138 (v := nI 5) (by decide) ?_
  refine wp_iload d214_139 rfl ?_
  refine wp_imulv d214_141 (v := nI (5 * nD)) (nI_mul _ _) ?_
  refine wp_iaddv d214_142 (v := nI (92 + 5 * nD)) (nI_add _ _) ?_
  refine wp_iconst d214_143 (v := nI 3) (by decide) ?_
  refine wp_iaddv d214_144 (v := nI (92 + 5 * nD + 3)) (nI_add _ _) ?_
  refine wp_iload d214_145 rfl ?_
  refine wp_stS d214_147 hR hF (k := 92 + 5 * nD + 3) (by omega) (fun h hR hF => ?_)
  refine wp_aload_n d214_148 rfl ?_
  refine wp_getf (e := 7) (ci := 12) (k := 0) (nest := false) d214_149 (by decide +kernel) (md_0 hR) rfl ?_
  refine wp_bipush d214_152 (v := nI 92) (by decide) ?_
  refine wp_iconst d214_154 (v := nI 5) (by decide) ?_
  refine wp_iload d214_155 rfl ?_
  refine wp_imulv d214_157 (v := nI (5 * nD)) (nI_mul _ _) ?_
  refine wp_iaddv d214_158 (v := nI (92 + 5 * nD)) (nI_add _ _) ?_
  refine wp_iconst d214_159 (v := nI 4) (by decide) ?_
  refine wp_iaddv d214_160 (v := nI (92 + 5 * nD + 4)) (nI_add _ _) ?_
  refine wp_iconst d214_161 (v := nI 0) (by decide) ?_
  refine wp_stS d214_162 hR hF (k := 92 + 5 * nD + 4) (by omega) (fun h hR hF => ?_)
  refine wp_aload_n d214_163 rfl ?_
  refine wp_getf (e := 7) (ci := 12) (k := 0) (nest := false) d214_164 (by decide +kernel) (md_0 hR) rfl ?_
  refine wp_iconst d214_167 (v := nI 3) (by decide) ?_
  refine wp_dup2 d214_168 rfl rfl ?_
  refine wp_iald d214_169 (md_1 hR) (nI_in (by omega) (by decide)) (v := nI nD) ((congrArg ((upd (upd (upd (upd (upd σ (92 + 5 * nD + 0) (x)) (92 + 5 * nD + 1) (y)) (92 + 5 * nD + 2) (mt)) (92 + 5 * nD + 3) (key)) (92 + 5 * nD + 4) (nI 0))) (nI_nat (by omega))).trans ((upd_ne (by omega)).trans ((upd_ne (by omega)).trans ((upd_ne (by omega)).trans ((upd_ne (by omega)).trans ((upd_ne (by omega)).trans h3)))))) ?_
  refine wp_iconst d214_170 (v := nI 1) (by decide) ?_
  refine wp_iaddv d214_171 (v := nI (nD + 1)) (nI_add _ _) ?_
  refine wp_stS d214_172 hR hF (k := 3) (by omega) (fun h hR hF => ?_)
  refine wp_iload d214_173 rfl ?_
  refine wp_iret d214_175 (by decide +kernel) ?_
  exact ⟨rfl, hR, hF⟩
theorem r_setBound_1 {X : mX} {h : mH} {R : Nat → Nat → Int32} {σ : Nat → Int32} (hR : Ms h R σ) {mi nR nD nG nW nA n : Nat} (hC : Cn σ mi nR nD nG nW nA) (hn : R 0 5 = nI n) (hn4 : n ≤ 4) {x bound : Int32} (hx : ¬ (nI 0 ≤ x ∧ x < nI nR)) : Tells X 218 [.ref 313, .int (x), .int (bound)] h (-1) := by
  obtain ⟨⟨h0, hmi⟩, ⟨h2, hR1, hR12⟩, ⟨h3, hD⟩, ⟨h4, hG⟩, ⟨h5, hW⟩, ⟨h6, hA⟩⟩ := hC
  refine wp_aload_n d218_0 rfl ?_
  refine wp_iload_n d218_1 rfl ?_
  refine wp_invvT (e := 57) (j2 := 215) (n := 1) d218_2 (by decide +kernel) (by decide +kernel) rfl rfl rfl (md_0 hR) (by decide +kernel) (Nat.le_of_ble_eq_true rfl) rfl rfl (Nat.le_of_ble_eq_true rfl) (by decide +kernel) (c_isRoom hR (n := nR) h2 (by omega) (x)) ?_
  refine wp_ifb_ne d218_5 (tgt := 12) (by decide) (fun hq9 => absurd hq9 hx) (fun _ => ?_)
  refine wp_iconst d218_8 (v := (-1 : Int32)) (by decide) ?_
  refine wp_goto d218_9 (tgt := 49) (by decide) ?_
  refine wp_istore_n d218_49 (Nat.le_of_ble_eq_true rfl) rfl ?_
  refine wp_iload_n d218_50 rfl ?_
  refine wp_if_ge d218_51 (tgt := 56) (by decide) (fun hz => absurd hz (by decide)) (fun _ => ?_)
  refine wp_iload_n d218_54 rfl ?_
  refine wp_iret d218_55 (by decide +kernel) ?_
  exact ⟨rfl, rfl⟩
theorem r_setBound_2 {X : mX} {h : mH} {R : Nat → Nat → Int32} {σ : Nat → Int32} (hR : Ms h R σ) {mi nR nD nG nW nA n : Nat} (hC : Cn σ mi nR nD nG nW nA) (hn : R 0 5 = nI n) (hn4 : n ≤ 4) {x bound : Int32} (hx : nI 0 ≤ x ∧ x < nI nR) (hb : ¬ (nI 0 ≤ bound ∧ bound ≤ nI 240)) : Tells X 218 [.ref 313, .int (x), .int (bound)] h (-2) := by
  obtain ⟨⟨h0, hmi⟩, ⟨h2, hR1, hR12⟩, ⟨h3, hD⟩, ⟨h4, hG⟩, ⟨h5, hW⟩, ⟨h6, hA⟩⟩ := hC
  refine wp_aload_n d218_0 rfl ?_
  refine wp_iload_n d218_1 rfl ?_
  refine wp_invvT (e := 57) (j2 := 215) (n := 1) d218_2 (by decide +kernel) (by decide +kernel) rfl rfl rfl (md_0 hR) (by decide +kernel) (Nat.le_of_ble_eq_true rfl) rfl rfl (Nat.le_of_ble_eq_true rfl) (by decide +kernel) (c_isRoom hR (n := nR) h2 (by omega) (x)) ?_
  refine wp_ifb_ne d218_5 (tgt := 12) (by decide) (fun _ => ?_) (fun hq9 => absurd hx hq9)
  refine wp_iload_n d218_12 rfl ?_
  refine wp_invsT (e := 47) (j2 := 211) (n := 1) d218_13 (by decide +kernel) (by decide +kernel) rfl rfl rfl (Nat.le_of_ble_eq_true rfl) (Nat.le_of_ble_eq_true rfl) rfl rfl (Nat.le_of_ble_eq_true rfl) (by decide +kernel) (c_isBound (bound)) ?_
  refine wp_ifb_ne d218_16 (tgt := 24) (by decide) (fun hq9 => absurd hq9 hb) (fun _ => ?_)
  refine wp_bipush d218_19 (v := (-2 : Int32)) (by decide) ?_
  refine wp_goto d218_21 (tgt := 49) (by decide) ?_
  refine wp_istore_n d218_49 (Nat.le_of_ble_eq_true rfl) rfl ?_
  refine wp_iload_n d218_50 rfl ?_
  refine wp_if_ge d218_51 (tgt := 56) (by decide) (fun hz => absurd hz (by decide)) (fun _ => ?_)
  refine wp_iload_n d218_54 rfl ?_
  refine wp_iret d218_55 (by decide +kernel) ?_
  exact ⟨rfl, rfl⟩
theorem r_setBound_3 {X : mX} {h : mH} {R : Nat → Nat → Int32} {σ : Nat → Int32} (hR : Ms h R σ) {mi nR nD nG nW nA n : Nat} (hC : Cn σ mi nR nD nG nW nA) (hn : R 0 5 = nI n) (hn4 : n ≤ 4) {r : Nat} {bound : Int32} (hr : r < nR) (hb : nI 0 ≤ bound ∧ bound ≤ nI 240) (hz : r = 0) : Tells X 218 [.ref 313, .int (nI r), .int (bound)] h (-4) := by
  obtain ⟨⟨h0, hmi⟩, ⟨h2, hR1, hR12⟩, ⟨h3, hD⟩, ⟨h4, hG⟩, ⟨h5, hW⟩, ⟨h6, hA⟩⟩ := hC
  refine wp_aload_n d218_0 rfl ?_
  refine wp_iload_n d218_1 rfl ?_
  refine wp_invvT (e := 57) (j2 := 215) (n := 1) d218_2 (by decide +kernel) (by decide +kernel) rfl rfl rfl (md_0 hR) (by decide +kernel) (Nat.le_of_ble_eq_true rfl) rfl rfl (Nat.le_of_ble_eq_true rfl) (by decide +kernel) (c_isRoom hR (n := nR) h2 (by omega) (nI r)) ?_
  refine wp_ifb_ne d218_5 (tgt := 12) (by decide) (fun _ => ?_) (fun hq9 => absurd (⟨nI_le (by omega) (by omega), nI_lt hr (by omega)⟩ : nI 0 ≤ nI r ∧ nI r < nI nR) hq9)
  refine wp_iload_n d218_12 rfl ?_
  refine wp_invsT (e := 47) (j2 := 211) (n := 1) d218_13 (by decide +kernel) (by decide +kernel) rfl rfl rfl (Nat.le_of_ble_eq_true rfl) (Nat.le_of_ble_eq_true rfl) rfl rfl (Nat.le_of_ble_eq_true rfl) (by decide +kernel) (c_isBound (bound)) ?_
  refine wp_ifb_ne d218_16 (tgt := 24) (by decide) (fun _ => ?_) (fun hq9 => absurd hb hq9)
  refine wp_iload_n d218_24 rfl ?_
  refine wp_if_ne d218_25 (tgt := 33) (by decide) (fun hq9 => absurd (by rw [hz]; rfl : nI r = 0) hq9) (fun _ => ?_)
  refine wp_bipush d218_28 (v := (-4 : Int32)) (by decide) ?_
  refine wp_goto d218_30 (tgt := 49) (by decide) ?_
  refine wp_istore_n d218_49 (Nat.le_of_ble_eq_true rfl) rfl ?_
  refine wp_iload_n d218_50 rfl ?_
  refine wp_if_ge d218_51 (tgt := 56) (by decide) (fun hz => absurd hz (by decide)) (fun _ => ?_)
  refine wp_iload_n d218_54 rfl ?_
  refine wp_iret d218_55 (by decide +kernel) ?_
  exact ⟨rfl, rfl⟩
theorem r_setBound_4 {X : mX} {h : mH} {R : Nat → Nat → Int32} {σ : Nat → Int32} (hR : Ms h R σ) {mi nR nD nG nW nA n : Nat} (hC : Cn σ mi nR nD nG nW nA) (hn : R 0 5 = nI n) (hn4 : n ≤ 4) {r : Nat} {bound : Int32} (hr : r < nR) (hb : nI 0 ≤ bound ∧ bound ≤ nI 240) (hz : 0 < r) (he : σ (20 + 6 * r + 1) = bound) : Tells X 218 [.ref 313, .int (nI r), .int (bound)] h (-5) := by
  obtain ⟨⟨h0, hmi⟩, ⟨h2, hR1, hR12⟩, ⟨h3, hD⟩, ⟨h4, hG⟩, ⟨h5, hW⟩, ⟨h6, hA⟩⟩ := hC
  refine wp_aload_n d218_0 rfl ?_
  refine wp_iload_n d218_1 rfl ?_
  refine wp_invvT (e := 57) (j2 := 215) (n := 1) d218_2 (by decide +kernel) (by decide +kernel) rfl rfl rfl (md_0 hR) (by decide +kernel) (Nat.le_of_ble_eq_true rfl) rfl rfl (Nat.le_of_ble_eq_true rfl) (by decide +kernel) (c_isRoom hR (n := nR) h2 (by omega) (nI r)) ?_
  refine wp_ifb_ne d218_5 (tgt := 12) (by decide) (fun _ => ?_) (fun hq9 => absurd (⟨nI_le (by omega) (by omega), nI_lt hr (by omega)⟩ : nI 0 ≤ nI r ∧ nI r < nI nR) hq9)
  refine wp_iload_n d218_12 rfl ?_
  refine wp_invsT (e := 47) (j2 := 211) (n := 1) d218_13 (by decide +kernel) (by decide +kernel) rfl rfl rfl (Nat.le_of_ble_eq_true rfl) (Nat.le_of_ble_eq_true rfl) rfl rfl (Nat.le_of_ble_eq_true rfl) (by decide +kernel) (c_isBound (bound)) ?_
  refine wp_ifb_ne d218_16 (tgt := 24) (by decide) (fun _ => ?_) (fun hq9 => absurd hb hq9)
  refine wp_iload_n d218_24 rfl ?_
  refine wp_if_ne d218_25 (tgt := 33) (by decide) (fun _ => ?_) (fun hq9 => absurd hq9 (nI_ne0 (by omega) (by omega)))
  refine wp_aload_n d218_33 rfl ?_
  refine wp_iload_n d218_34 rfl ?_
  refine wp_iconst d218_35 (v := nI 1) (by decide) ?_
  refine wp_invvT (e := 63) (j2 := 219) (n := 2) d218_36 (by decide +kernel) (by decide +kernel) rfl rfl rfl (md_0 hR) (by decide +kernel) (Nat.le_of_ble_eq_true rfl) rfl rfl (Nat.le_of_ble_eq_true rfl) (by decide +kernel) (c_roomPart hR (r := r) (p := 1) (by omega) (by omega)) ?_
  refine wp_iload_n d218_39 rfl ?_
  refine wp_icmp_ne d218_40 (tgt := 48) (by decide) (fun hq9 => absurd he hq9) (fun _ => ?_)
  refine wp_bipush d218_43 (v := (-5 : Int32)) (by decide) ?_
  refine wp_goto d218_45 (tgt := 49) (by decide) ?_
  refine wp_istore_n d218_49 (Nat.le_of_ble_eq_true rfl) rfl ?_
  refine wp_iload_n d218_50 rfl ?_
  refine wp_if_ge d218_51 (tgt := 56) (by decide) (fun hz => absurd hz (by decide)) (fun _ => ?_)
  refine wp_iload_n d218_54 rfl ?_
  refine wp_iret d218_55 (by decide +kernel) ?_
  exact ⟨rfl, rfl⟩
theorem r_setBound {X : mX} {h : mH} {R : Nat → Nat → Int32} {σ : Nat → Int32} (hR : Ms h R σ) {mi nR nD nG nW nA n : Nat} (hC : Cn σ mi nR nD nG nW nA) (hn : R 0 5 = nI n) (hn4 : n ≤ 4) {r : Nat} {bound : Int32} (hr : r < nR) (hb : nI 0 ≤ bound ∧ bound ≤ nI 240) (hz : 0 < r) (he : ¬ σ (20 + 6 * r + 1) = bound) : Does X 218 [.ref 313, .int (nI r), .int (bound)] h (F_rec R σ n) (upd σ (20 + 6 * r + 1) bound) (some (.int (σ (20 + 6 * r + 1)))) := by
  obtain ⟨⟨h0, hmi⟩, ⟨h2, hR1, hR12⟩, ⟨h3, hD⟩, ⟨h4, hG⟩, ⟨h5, hW⟩, ⟨h6, hA⟩⟩ := hC
  have hF : Frm h h 313 8 := Frm.rf
  refine wp_aload_n d218_0 rfl ?_
  refine wp_iload_n d218_1 rfl ?_
  refine wp_invvT (e := 57) (j2 := 215) (n := 1) d218_2 (by decide +kernel) (by decide +kernel) rfl rfl rfl (md_0 hR) (by decide +kernel) (Nat.le_of_ble_eq_true rfl) rfl rfl (Nat.le_of_ble_eq_true rfl) (by decide +kernel) (c_isRoom hR (n := nR) h2 (by omega) (nI r)) ?_
  refine wp_ifb_ne d218_5 (tgt := 12) (by decide) (fun _ => ?_) (fun hq9 => absurd (⟨nI_le (by omega) (by omega), nI_lt hr (by omega)⟩ : nI 0 ≤ nI r ∧ nI r < nI nR) hq9)
  refine wp_iload_n d218_12 rfl ?_
  refine wp_invsT (e := 47) (j2 := 211) (n := 1) d218_13 (by decide +kernel) (by decide +kernel) rfl rfl rfl (Nat.le_of_ble_eq_true rfl) (Nat.le_of_ble_eq_true rfl) rfl rfl (Nat.le_of_ble_eq_true rfl) (by decide +kernel) (c_isBound (bound)) ?_
  refine wp_ifb_ne d218_16 (tgt := 24) (by decide) (fun _ => ?_) (fun hq9 => absurd hb hq9)
  refine wp_iload_n d218_24 rfl ?_
  refine wp_if_ne d218_25 (tgt := 33) (by decide) (fun _ => ?_) (fun hq9 => absurd hq9 (nI_ne0 (by omega) (by omega)))
  refine wp_aload_n d218_33 rfl ?_
  refine wp_iload_n d218_34 rfl ?_
  refine wp_iconst d218_35 (v := nI 1) (by decide) ?_
  refine wp_invvT (e := 63) (j2 := 219) (n := 2) d218_36 (by decide +kernel) (by decide +kernel) rfl rfl rfl (md_0 hR) (by decide +kernel) (Nat.le_of_ble_eq_true rfl) rfl rfl (Nat.le_of_ble_eq_true rfl) (by decide +kernel) (c_roomPart hR (r := r) (p := 1) (by omega) (by omega)) ?_
  refine wp_iload_n d218_39 rfl ?_
  refine wp_icmp_ne d218_40 (tgt := 48) (by decide) (fun _ => ?_) (fun hq9 => absurd hq9 he)
  refine wp_iconst d218_48 (v := nI 0) (by decide) ?_
  refine wp_istore_n d218_49 (Nat.le_of_ble_eq_true rfl) rfl ?_
  refine wp_iload_n d218_50 rfl ?_
  refine wp_if_ge d218_51 (tgt := 56) (by decide) (fun _ => ?_) (fun hz => absurd hz (by decide))
  refine wp_aload_n d218_56 rfl ?_
  refine wp_invvD (e := 50) (j2 := 212) (n := 0) d218_57 (by decide +kernel) (by decide +kernel) rfl rfl rfl (md_0 hR) (by decide +kernel) (Nat.le_of_ble_eq_true rfl) rfl rfl (Nat.le_of_ble_eq_true rfl) (by decide +kernel) (c_record hR hn hn4) hF ?_
  intro h hR hF
  refine wp_aload_n d218_60 rfl ?_
  refine wp_iload_n d218_61 rfl ?_
  refine wp_iconst d218_62 (v := nI 1) (by decide) ?_
  refine wp_invvT (e := 63) (j2 := 219) (n := 2) d218_63 (by decide +kernel) (by decide +kernel) rfl rfl rfl (md_0 hR) (by decide +kernel) (Nat.le_of_ble_eq_true rfl) rfl rfl (Nat.le_of_ble_eq_true rfl) (by decide +kernel) (c_roomPart hR (r := r) (p := 1) (by omega) (by omega)) ?_
  refine wp_istore d218_66 (Nat.le_of_ble_eq_true rfl) rfl ?_
  refine wp_aload_n d218_68 rfl ?_
  refine wp_getf (e := 7) (ci := 12) (k := 0) (nest := false) d218_69 (by decide +kernel) (md_0 hR) rfl ?_
  refine wp_bipush d218_72 (v := nI 20) (by decide) ?_
  refine wp_bipush d218_74 (v := nI 6) (by decide) ?_
  refine wp_iload_n d218_76 rfl ?_
  refine wp_imulv d218_77 (v := nI (6 * r)) (nI_mul _ _) ?_
  refine wp_iaddv d218_78 (v := nI (20 + 6 * r)) (nI_add _ _) ?_
  refine wp_iconst d218_79 (v := nI 1) (by decide) ?_
  refine wp_iaddv d218_80 (v := nI (20 + 6 * r + 1)) (nI_add _ _) ?_
  refine wp_iload_n d218_81 rfl ?_
  refine wp_stS d218_82 hR hF (k := 20 + 6 * r + 1) (by omega) (fun h hR hF => ?_)
  refine wp_iload d218_83 rfl ?_
  refine wp_iret d218_85 (by decide +kernel) ?_
  exact ⟨rfl, hR, hF⟩
