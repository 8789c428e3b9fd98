/-! Both tell alike. -/
theorem d147_0 : decode (m_code 147) 0 = .ok (.aload_n 0, 1) := by decide +kernel
theorem d147_1 : decode (m_code 147) 1 = .ok (.getfield 15, 3) := by decide +kernel
theorem d147_4 : decode (m_code 147) 4 = .ok (.ireturn, 1) := by decide +kernel
theorem d161_0 : decode (m_code 161) 0 = .ok (.aload_n 0, 1) := by decide +kernel
theorem d161_1 : decode (m_code 161) 1 = .ok (.getfield 27, 3) := by decide +kernel
theorem d161_4 : decode (m_code 161) 4 = .ok (.ireturn, 1) := by decide +kernel
theorem d165_0 : decode (m_code 165) 0 = .ok (.aload_n 0, 1) := by decide +kernel
theorem d165_1 : decode (m_code 165) 1 = .ok (.getfield 10, 3) := by decide +kernel
theorem d165_4 : decode (m_code 165) 4 = .ok (.getfield 50, 3) := by decide +kernel
theorem d165_7 : decode (m_code 165) 7 = .ok (.iload_n 1, 1) := by decide +kernel
theorem d165_8 : decode (m_code 165) 8 = .ok (.invokevirtual 68, 3) := by decide +kernel
theorem d165_11 : decode (m_code 165) 11 = .ok (.ifCond .ne 5, 3) := by decide +kernel
theorem d165_14 : decode (m_code 165) 14 = .ok (.iconst (-1), 1) := by decide +kernel
theorem d165_15 : decode (m_code 165) 15 = .ok (.ireturn, 1) := by decide +kernel
theorem d165_16 : decode (m_code 165) 16 = .ok (.iload_n 2, 1) := by decide +kernel
theorem d165_17 : decode (m_code 165) 17 = .ok (.tableswitch 159 0 8 #[51, 63, 75, 87, 99, 111, 123, 135, 147], 51) := by decide +kernel
theorem d165_68 : decode (m_code 165) 68 = .ok (.aload_n 0, 1) := by decide +kernel
theorem d165_69 : decode (m_code 165) 69 = .ok (.getfield 10, 3) := by decide +kernel
theorem d165_72 : decode (m_code 165) 72 = .ok (.getfield 50, 3) := by decide +kernel
theorem d165_75 : decode (m_code 165) 75 = .ok (.iload_n 1, 1) := by decide +kernel
theorem d165_76 : decode (m_code 165) 76 = .ok (.invokevirtual 278, 3) := by decide +kernel
theorem d165_79 : decode (m_code 165) 79 = .ok (.ireturn, 1) := by decide +kernel
theorem d165_80 : decode (m_code 165) 80 = .ok (.aload_n 0, 1) := by decide +kernel
theorem d165_81 : decode (m_code 165) 81 = .ok (.getfield 10, 3) := by decide +kernel
theorem d165_84 : decode (m_code 165) 84 = .ok (.getfield 50, 3) := by decide +kernel
theorem d165_87 : decode (m_code 165) 87 = .ok (.iload_n 1, 1) := by decide +kernel
theorem d165_88 : decode (m_code 165) 88 = .ok (.invokevirtual 87, 3) := by decide +kernel
theorem d165_91 : decode (m_code 165) 91 = .ok (.ireturn, 1) := by decide +kernel
theorem d165_92 : decode (m_code 165) 92 = .ok (.aload_n 0, 1) := by decide +kernel
theorem d165_93 : decode (m_code 165) 93 = .ok (.getfield 10, 3) := by decide +kernel
theorem d165_96 : decode (m_code 165) 96 = .ok (.getfield 50, 3) := by decide +kernel
theorem d165_99 : decode (m_code 165) 99 = .ok (.iload_n 1, 1) := by decide +kernel
theorem d165_100 : decode (m_code 165) 100 = .ok (.invokevirtual 281, 3) := by decide +kernel
theorem d165_103 : decode (m_code 165) 103 = .ok (.ireturn, 1) := by decide +kernel
theorem d165_104 : decode (m_code 165) 104 = .ok (.aload_n 0, 1) := by decide +kernel
theorem d165_105 : decode (m_code 165) 105 = .ok (.getfield 10, 3) := by decide +kernel
theorem d165_108 : decode (m_code 165) 108 = .ok (.getfield 50, 3) := by decide +kernel
theorem d165_111 : decode (m_code 165) 111 = .ok (.iload_n 1, 1) := by decide +kernel
theorem d165_112 : decode (m_code 165) 112 = .ok (.invokevirtual 284, 3) := by decide +kernel
theorem d165_115 : decode (m_code 165) 115 = .ok (.ireturn, 1) := by decide +kernel
theorem d165_116 : decode (m_code 165) 116 = .ok (.aload_n 0, 1) := by decide +kernel
theorem d165_117 : decode (m_code 165) 117 = .ok (.getfield 10, 3) := by decide +kernel
theorem d165_120 : decode (m_code 165) 120 = .ok (.getfield 50, 3) := by decide +kernel
theorem d165_123 : decode (m_code 165) 123 = .ok (.iload_n 1, 1) := by decide +kernel
theorem d165_124 : decode (m_code 165) 124 = .ok (.invokevirtual 287, 3) := by decide +kernel
theorem d165_127 : decode (m_code 165) 127 = .ok (.ireturn, 1) := by decide +kernel
theorem d165_128 : decode (m_code 165) 128 = .ok (.aload_n 0, 1) := by decide +kernel
theorem d165_129 : decode (m_code 165) 129 = .ok (.getfield 10, 3) := by decide +kernel
theorem d165_132 : decode (m_code 165) 132 = .ok (.getfield 50, 3) := by decide +kernel
theorem d165_135 : decode (m_code 165) 135 = .ok (.iload_n 1, 1) := by decide +kernel
theorem d165_136 : decode (m_code 165) 136 = .ok (.invokevirtual 290, 3) := by decide +kernel
theorem d165_139 : decode (m_code 165) 139 = .ok (.ireturn, 1) := by decide +kernel
theorem d165_140 : decode (m_code 165) 140 = .ok (.aload_n 0, 1) := by decide +kernel
theorem d165_141 : decode (m_code 165) 141 = .ok (.getfield 10, 3) := by decide +kernel
theorem d165_144 : decode (m_code 165) 144 = .ok (.getfield 131, 3) := by decide +kernel
theorem d165_147 : decode (m_code 165) 147 = .ok (.iload_n 1, 1) := by decide +kernel
theorem d165_148 : decode (m_code 165) 148 = .ok (.invokevirtual 205, 3) := by decide +kernel
theorem d165_151 : decode (m_code 165) 151 = .ok (.ireturn, 1) := by decide +kernel
theorem d165_152 : decode (m_code 165) 152 = .ok (.aload_n 0, 1) := by decide +kernel
theorem d165_153 : decode (m_code 165) 153 = .ok (.getfield 10, 3) := by decide +kernel
theorem d165_156 : decode (m_code 165) 156 = .ok (.getfield 188, 3) := by decide +kernel
theorem d165_159 : decode (m_code 165) 159 = .ok (.iload_n 1, 1) := by decide +kernel
theorem d165_160 : decode (m_code 165) 160 = .ok (.invokevirtual 293, 3) := by decide +kernel
theorem d165_163 : decode (m_code 165) 163 = .ok (.ireturn, 1) := by decide +kernel
theorem d165_164 : decode (m_code 165) 164 = .ok (.aload_n 0, 1) := by decide +kernel
theorem d165_165 : decode (m_code 165) 165 = .ok (.getfield 10, 3) := by decide +kernel
theorem d165_168 : decode (m_code 165) 168 = .ok (.getfield 220, 3) := by decide +kernel
theorem d165_171 : decode (m_code 165) 171 = .ok (.iload_n 1, 1) := by decide +kernel
theorem d165_172 : decode (m_code 165) 172 = .ok (.invokevirtual 294, 3) := by decide +kernel
theorem d165_175 : decode (m_code 165) 175 = .ok (.ireturn, 1) := by decide +kernel
theorem d165_176 : decode (m_code 165) 176 = .ok (.bipush (-2), 2) := by decide +kernel
theorem d165_178 : decode (m_code 165) 178 = .ok (.ireturn, 1) := by decide +kernel
theorem d170_0 : decode (m_code 170) 0 = .ok (.aload_n 0, 1) := by decide +kernel
theorem d170_1 : decode (m_code 170) 1 = .ok (.getfield 10, 3) := by decide +kernel
theorem d170_4 : decode (m_code 170) 4 = .ok (.getfield 74, 3) := by decide +kernel
theorem d170_7 : decode (m_code 170) 7 = .ok (.iload_n 1, 1) := by decide +kernel
theorem d170_8 : decode (m_code 170) 8 = .ok (.invokevirtual 297, 3) := by decide +kernel
theorem d170_11 : decode (m_code 170) 11 = .ok (.ifCond .ne 5, 3) := by decide +kernel
theorem d170_14 : decode (m_code 170) 14 = .ok (.iconst (-1), 1) := by decide +kernel
theorem d170_15 : decode (m_code 170) 15 = .ok (.ireturn, 1) := by decide +kernel
theorem d170_16 : decode (m_code 170) 16 = .ok (.iload_n 2, 1) := by decide +kernel
theorem d170_17 : decode (m_code 170) 17 = .ok (.tableswitch 95 0 4 #[35, 47, 59, 71, 83], 35) := by decide +kernel
theorem d170_52 : decode (m_code 170) 52 = .ok (.aload_n 0, 1) := by decide +kernel
theorem d170_53 : decode (m_code 170) 53 = .ok (.getfield 10, 3) := by decide +kernel
theorem d170_56 : decode (m_code 170) 56 = .ok (.getfield 74, 3) := by decide +kernel
theorem d170_59 : decode (m_code 170) 59 = .ok (.iload_n 1, 1) := by decide +kernel
theorem d170_60 : decode (m_code 170) 60 = .ok (.invokevirtual 298, 3) := by decide +kernel
theorem d170_63 : decode (m_code 170) 63 = .ok (.ireturn, 1) := by decide +kernel
theorem d170_64 : decode (m_code 170) 64 = .ok (.aload_n 0, 1) := by decide +kernel
theorem d170_65 : decode (m_code 170) 65 = .ok (.getfield 10, 3) := by decide +kernel
theorem d170_68 : decode (m_code 170) 68 = .ok (.getfield 74, 3) := by decide +kernel
theorem d170_71 : decode (m_code 170) 71 = .ok (.iload_n 1, 1) := by decide +kernel
theorem d170_72 : decode (m_code 170) 72 = .ok (.invokevirtual 301, 3) := by decide +kernel
theorem d170_75 : decode (m_code 170) 75 = .ok (.ireturn, 1) := by decide +kernel
theorem d170_76 : decode (m_code 170) 76 = .ok (.aload_n 0, 1) := by decide +kernel
theorem d170_77 : decode (m_code 170) 77 = .ok (.getfield 10, 3) := by decide +kernel
theorem d170_80 : decode (m_code 170) 80 = .ok (.getfield 74, 3) := by decide +kernel
theorem d170_83 : decode (m_code 170) 83 = .ok (.iload_n 1, 1) := by decide +kernel
theorem d170_84 : decode (m_code 170) 84 = .ok (.invokevirtual 211, 3) := by decide +kernel
theorem d170_87 : decode (m_code 170) 87 = .ok (.ireturn, 1) := by decide +kernel
theorem d170_88 : decode (m_code 170) 88 = .ok (.aload_n 0, 1) := by decide +kernel
theorem d170_89 : decode (m_code 170) 89 = .ok (.getfield 10, 3) := by decide +kernel
theorem d170_92 : decode (m_code 170) 92 = .ok (.getfield 74, 3) := by decide +kernel
theorem d170_95 : decode (m_code 170) 95 = .ok (.iload_n 1, 1) := by decide +kernel
theorem d170_96 : decode (m_code 170) 96 = .ok (.invokevirtual 304, 3) := by decide +kernel
theorem d170_99 : decode (m_code 170) 99 = .ok (.ireturn, 1) := by decide +kernel
theorem d170_100 : decode (m_code 170) 100 = .ok (.aload_n 0, 1) := by decide +kernel
theorem d170_101 : decode (m_code 170) 101 = .ok (.getfield 10, 3) := by decide +kernel
theorem d170_104 : decode (m_code 170) 104 = .ok (.getfield 74, 3) := by decide +kernel
theorem d170_107 : decode (m_code 170) 107 = .ok (.iload_n 1, 1) := by decide +kernel
theorem d170_108 : decode (m_code 170) 108 = .ok (.invokevirtual 307, 3) := by decide +kernel
theorem d170_111 : decode (m_code 170) 111 = .ok (.ireturn, 1) := by decide +kernel
theorem d170_112 : decode (m_code 170) 112 = .ok (.bipush (-2), 2) := by decide +kernel
theorem d170_114 : decode (m_code 170) 114 = .ok (.ireturn, 1) := by decide +kernel
theorem d175_0 : decode (m_code 175) 0 = .ok (.iload_n 1, 1) := by decide +kernel
theorem d175_1 : decode (m_code 175) 1 = .ok (.invokestatic 40, 3) := by decide +kernel
theorem d175_4 : decode (m_code 175) 4 = .ok (.ifCond .ne 5, 3) := by decide +kernel
theorem d175_7 : decode (m_code 175) 7 = .ok (.iconst (-1), 1) := by decide +kernel
theorem d175_8 : decode (m_code 175) 8 = .ok (.ireturn, 1) := by decide +kernel
theorem d175_9 : decode (m_code 175) 9 = .ok (.aload_n 0, 1) := by decide +kernel
theorem d175_10 : decode (m_code 175) 10 = .ok (.getfield 10, 3) := by decide +kernel
theorem d175_13 : decode (m_code 175) 13 = .ok (.getfield 95, 3) := by decide +kernel
theorem d175_16 : decode (m_code 175) 16 = .ok (.iload_n 1, 1) := by decide +kernel
theorem d175_17 : decode (m_code 175) 17 = .ok (.invokevirtual 99, 3) := by decide +kernel
theorem d175_20 : decode (m_code 175) 20 = .ok (.istore_n 3, 1) := by decide +kernel
theorem d175_21 : decode (m_code 175) 21 = .ok (.iload_n 2, 1) := by decide +kernel
theorem d175_22 : decode (m_code 175) 22 = .ok (.tableswitch 101 0 4 #[34, 44, 56, 68, 77], 34) := by decide +kernel
theorem d175_56 : decode (m_code 175) 56 = .ok (.iload_n 3, 1) := by decide +kernel
theorem d175_57 : decode (m_code 175) 57 = .ok (.ifCond .eq 7, 3) := by decide +kernel
theorem d175_60 : decode (m_code 175) 60 = .ok (.iconst 1, 1) := by decide +kernel
theorem d175_61 : decode (m_code 175) 61 = .ok (.goto 4, 3) := by decide +kernel
theorem d175_64 : decode (m_code 175) 64 = .ok (.iconst 0, 1) := by decide +kernel
theorem d175_65 : decode (m_code 175) 65 = .ok (.ireturn, 1) := by decide +kernel
theorem d175_66 : decode (m_code 175) 66 = .ok (.aload_n 0, 1) := by decide +kernel
theorem d175_67 : decode (m_code 175) 67 = .ok (.getfield 10, 3) := by decide +kernel
theorem d175_70 : decode (m_code 175) 70 = .ok (.getfield 95, 3) := by decide +kernel
theorem d175_73 : decode (m_code 175) 73 = .ok (.iload_n 1, 1) := by decide +kernel
theorem d175_74 : decode (m_code 175) 74 = .ok (.invokevirtual 110, 3) := by decide +kernel
theorem d175_77 : decode (m_code 175) 77 = .ok (.ireturn, 1) := by decide +kernel
theorem d175_78 : decode (m_code 175) 78 = .ok (.aload_n 0, 1) := by decide +kernel
theorem d175_79 : decode (m_code 175) 79 = .ok (.getfield 10, 3) := by decide +kernel
theorem d175_82 : decode (m_code 175) 82 = .ok (.getfield 50, 3) := by decide +kernel
theorem d175_85 : decode (m_code 175) 85 = .ok (.iload_n 1, 1) := by decide +kernel
theorem d175_86 : decode (m_code 175) 86 = .ok (.invokevirtual 310, 3) := by decide +kernel
theorem d175_89 : decode (m_code 175) 89 = .ok (.ireturn, 1) := by decide +kernel
theorem d175_90 : decode (m_code 175) 90 = .ok (.aload_n 0, 1) := by decide +kernel
theorem d175_91 : decode (m_code 175) 91 = .ok (.getfield 10, 3) := by decide +kernel
theorem d175_94 : decode (m_code 175) 94 = .ok (.iload_n 1, 1) := by decide +kernel
theorem d175_95 : decode (m_code 175) 95 = .ok (.invokevirtual 311, 3) := by decide +kernel
theorem d175_98 : decode (m_code 175) 98 = .ok (.ireturn, 1) := by decide +kernel
theorem d175_99 : decode (m_code 175) 99 = .ok (.iload_n 3, 1) := by decide +kernel
theorem d175_100 : decode (m_code 175) 100 = .ok (.ifCond .ne 21, 3) := by decide +kernel
theorem d175_103 : decode (m_code 175) 103 = .ok (.aload_n 0, 1) := by decide +kernel
theorem d175_104 : decode (m_code 175) 104 = .ok (.getfield 10, 3) := by decide +kernel
theorem d175_107 : decode (m_code 175) 107 = .ok (.getfield 95, 3) := by decide +kernel
theorem d175_110 : decode (m_code 175) 110 = .ok (.iload_n 1, 1) := by decide +kernel
theorem d175_111 : decode (m_code 175) 111 = .ok (.invokevirtual 118, 3) := by decide +kernel
theorem d175_114 : decode (m_code 175) 114 = .ok (.ifCond .ne 7, 3) := by decide +kernel
theorem d175_117 : decode (m_code 175) 117 = .ok (.iconst 1, 1) := by decide +kernel
theorem d175_118 : decode (m_code 175) 118 = .ok (.goto 4, 3) := by decide +kernel
theorem d175_121 : decode (m_code 175) 121 = .ok (.iconst 0, 1) := by decide +kernel
theorem d175_122 : decode (m_code 175) 122 = .ok (.ireturn, 1) := by decide +kernel
theorem d175_123 : decode (m_code 175) 123 = .ok (.bipush (-2), 2) := by decide +kernel
theorem d175_125 : decode (m_code 175) 125 = .ok (.ireturn, 1) := by decide +kernel
theorem d178_0 : decode (m_code 178) 0 = .ok (.aload_n 0, 1) := by decide +kernel
theorem d178_1 : decode (m_code 178) 1 = .ok (.getfield 10, 3) := by decide +kernel
theorem d178_4 : decode (m_code 178) 4 = .ok (.getfield 131, 3) := by decide +kernel
theorem d178_7 : decode (m_code 178) 7 = .ok (.iload_n 1, 1) := by decide +kernel
theorem d178_8 : decode (m_code 178) 8 = .ok (.invokevirtual 144, 3) := by decide +kernel
theorem d178_11 : decode (m_code 178) 11 = .ok (.ifCond .ne 5, 3) := by decide +kernel
theorem d178_14 : decode (m_code 178) 14 = .ok (.iconst (-1), 1) := by decide +kernel
theorem d178_15 : decode (m_code 178) 15 = .ok (.ireturn, 1) := by decide +kernel
theorem d178_16 : decode (m_code 178) 16 = .ok (.iload_n 2, 1) := by decide +kernel
theorem d178_17 : decode (m_code 178) 17 = .ok (.tableswitch 143 0 7 #[47, 59, 71, 83, 95, 107, 119, 131], 47) := by decide +kernel
theorem d178_64 : decode (m_code 178) 64 = .ok (.aload_n 0, 1) := by decide +kernel
theorem d178_65 : decode (m_code 178) 65 = .ok (.getfield 10, 3) := by decide +kernel
theorem d178_68 : decode (m_code 178) 68 = .ok (.getfield 131, 3) := by decide +kernel
theorem d178_71 : decode (m_code 178) 71 = .ok (.iload_n 1, 1) := by decide +kernel
theorem d178_72 : decode (m_code 178) 72 = .ok (.invokevirtual 314, 3) := by decide +kernel
theorem d178_75 : decode (m_code 178) 75 = .ok (.ireturn, 1) := by decide +kernel
theorem d178_76 : decode (m_code 178) 76 = .ok (.aload_n 0, 1) := by decide +kernel
theorem d178_77 : decode (m_code 178) 77 = .ok (.getfield 10, 3) := by decide +kernel
theorem d178_80 : decode (m_code 178) 80 = .ok (.getfield 131, 3) := by decide +kernel
theorem d178_83 : decode (m_code 178) 83 = .ok (.iload_n 1, 1) := by decide +kernel
theorem d178_84 : decode (m_code 178) 84 = .ok (.invokevirtual 315, 3) := by decide +kernel
theorem d178_87 : decode (m_code 178) 87 = .ok (.ireturn, 1) := by decide +kernel
theorem d178_88 : decode (m_code 178) 88 = .ok (.aload_n 0, 1) := by decide +kernel
theorem d178_89 : decode (m_code 178) 89 = .ok (.getfield 10, 3) := by decide +kernel
theorem d178_92 : decode (m_code 178) 92 = .ok (.getfield 131, 3) := by decide +kernel
theorem d178_95 : decode (m_code 178) 95 = .ok (.iload_n 1, 1) := by decide +kernel
theorem d178_96 : decode (m_code 178) 96 = .ok (.invokevirtual 318, 3) := by decide +kernel
theorem d178_99 : decode (m_code 178) 99 = .ok (.ireturn, 1) := by decide +kernel
theorem d178_100 : decode (m_code 178) 100 = .ok (.aload_n 0, 1) := by decide +kernel
theorem d178_101 : decode (m_code 178) 101 = .ok (.getfield 10, 3) := by decide +kernel
theorem d178_104 : decode (m_code 178) 104 = .ok (.getfield 131, 3) := by decide +kernel
theorem d178_107 : decode (m_code 178) 107 = .ok (.iload_n 1, 1) := by decide +kernel
theorem d178_108 : decode (m_code 178) 108 = .ok (.invokevirtual 175, 3) := by decide +kernel
theorem d178_111 : decode (m_code 178) 111 = .ok (.ireturn, 1) := by decide +kernel
theorem d178_112 : decode (m_code 178) 112 = .ok (.aload_n 0, 1) := by decide +kernel
theorem d178_113 : decode (m_code 178) 113 = .ok (.getfield 10, 3) := by decide +kernel
theorem d178_116 : decode (m_code 178) 116 = .ok (.getfield 131, 3) := by decide +kernel
theorem d178_119 : decode (m_code 178) 119 = .ok (.iload_n 1, 1) := by decide +kernel
theorem d178_120 : decode (m_code 178) 120 = .ok (.invokevirtual 169, 3) := by decide +kernel
theorem d178_123 : decode (m_code 178) 123 = .ok (.ireturn, 1) := by decide +kernel
theorem d178_124 : decode (m_code 178) 124 = .ok (.aload_n 0, 1) := by decide +kernel
theorem d178_125 : decode (m_code 178) 125 = .ok (.getfield 10, 3) := by decide +kernel
theorem d178_128 : decode (m_code 178) 128 = .ok (.getfield 153, 3) := by decide +kernel
theorem d178_131 : decode (m_code 178) 131 = .ok (.iload_n 1, 1) := by decide +kernel
theorem d178_132 : decode (m_code 178) 132 = .ok (.invokevirtual 321, 3) := by decide +kernel
theorem d178_135 : decode (m_code 178) 135 = .ok (.ireturn, 1) := by decide +kernel
theorem d178_136 : decode (m_code 178) 136 = .ok (.aload_n 0, 1) := by decide +kernel
theorem d178_137 : decode (m_code 178) 137 = .ok (.getfield 10, 3) := by decide +kernel
theorem d178_140 : decode (m_code 178) 140 = .ok (.getfield 131, 3) := by decide +kernel
theorem d178_143 : decode (m_code 178) 143 = .ok (.iload_n 1, 1) := by decide +kernel
theorem d178_144 : decode (m_code 178) 144 = .ok (.invokevirtual 324, 3) := by decide +kernel
theorem d178_147 : decode (m_code 178) 147 = .ok (.ireturn, 1) := by decide +kernel
theorem d178_148 : decode (m_code 178) 148 = .ok (.aload_n 0, 1) := by decide +kernel
theorem d178_149 : decode (m_code 178) 149 = .ok (.getfield 10, 3) := by decide +kernel
theorem d178_152 : decode (m_code 178) 152 = .ok (.getfield 131, 3) := by decide +kernel
theorem d178_155 : decode (m_code 178) 155 = .ok (.iload_n 1, 1) := by decide +kernel
theorem d178_156 : decode (m_code 178) 156 = .ok (.invokevirtual 327, 3) := by decide +kernel
theorem d178_159 : decode (m_code 178) 159 = .ok (.ireturn, 1) := by decide +kernel
theorem d178_160 : decode (m_code 178) 160 = .ok (.bipush (-2), 2) := by decide +kernel
theorem d178_162 : decode (m_code 178) 162 = .ok (.ireturn, 1) := by decide +kernel
theorem d181_0 : decode (m_code 181) 0 = .ok (.aload_n 0, 1) := by decide +kernel
theorem d181_1 : decode (m_code 181) 1 = .ok (.getfield 10, 3) := by decide +kernel
theorem d181_4 : decode (m_code 181) 4 = .ok (.getfield 131, 3) := by decide +kernel
theorem d181_7 : decode (m_code 181) 7 = .ok (.iload_n 1, 1) := by decide +kernel
theorem d181_8 : decode (m_code 181) 8 = .ok (.invokevirtual 144, 3) := by decide +kernel
theorem d181_11 : decode (m_code 181) 11 = .ok (.ifCond .ne 5, 3) := by decide +kernel
theorem d181_14 : decode (m_code 181) 14 = .ok (.iconst (-1), 1) := by decide +kernel
theorem d181_15 : decode (m_code 181) 15 = .ok (.ireturn, 1) := by decide +kernel
theorem d181_16 : decode (m_code 181) 16 = .ok (.iload_n 2, 1) := by decide +kernel
theorem d181_17 : decode (m_code 181) 17 = .ok (.ifCond .ge 8, 3) := by decide +kernel
theorem d181_20 : decode (m_code 181) 20 = .ok (.bipush (-2), 2) := by decide +kernel
theorem d181_22 : decode (m_code 181) 22 = .ok (.goto 15, 3) := by decide +kernel
theorem d181_25 : decode (m_code 181) 25 = .ok (.aload_n 0, 1) := by decide +kernel
theorem d181_26 : decode (m_code 181) 26 = .ok (.getfield 10, 3) := by decide +kernel
theorem d181_29 : decode (m_code 181) 29 = .ok (.getfield 131, 3) := by decide +kernel
theorem d181_32 : decode (m_code 181) 32 = .ok (.iload_n 1, 1) := by decide +kernel
theorem d181_33 : decode (m_code 181) 33 = .ok (.iload_n 2, 1) := by decide +kernel
theorem d181_34 : decode (m_code 181) 34 = .ok (.invokevirtual 330, 3) := by decide +kernel
theorem d181_37 : decode (m_code 181) 37 = .ok (.ireturn, 1) := by decide +kernel
theorem d182_0 : decode (m_code 182) 0 = .ok (.iload_n 1, 1) := by decide +kernel
theorem d182_1 : decode (m_code 182) 1 = .ok (.invokestatic 145, 3) := by decide +kernel
theorem d182_4 : decode (m_code 182) 4 = .ok (.ifCond .eq 17, 3) := by decide +kernel
theorem d182_7 : decode (m_code 182) 7 = .ok (.aload_n 0, 1) := by decide +kernel
theorem d182_8 : decode (m_code 182) 8 = .ok (.getfield 10, 3) := by decide +kernel
theorem d182_11 : decode (m_code 182) 11 = .ok (.getfield 153, 3) := by decide +kernel
theorem d182_14 : decode (m_code 182) 14 = .ok (.iload_n 1, 1) := by decide +kernel
theorem d182_15 : decode (m_code 182) 15 = .ok (.invokevirtual 157, 3) := by decide +kernel
theorem d182_18 : decode (m_code 182) 18 = .ok (.goto 4, 3) := by decide +kernel
theorem d182_21 : decode (m_code 182) 21 = .ok (.iconst (-1), 1) := by decide +kernel
theorem d182_22 : decode (m_code 182) 22 = .ok (.ireturn, 1) := by decide +kernel
theorem d183_0 : decode (m_code 183) 0 = .ok (.aload_n 0, 1) := by decide +kernel
theorem d183_1 : decode (m_code 183) 1 = .ok (.getfield 10, 3) := by decide +kernel
theorem d183_4 : decode (m_code 183) 4 = .ok (.getfield 188, 3) := by decide +kernel
theorem d183_7 : decode (m_code 183) 7 = .ok (.iload_n 1, 1) := by decide +kernel
theorem d183_8 : decode (m_code 183) 8 = .ok (.invokevirtual 198, 3) := by decide +kernel
theorem d183_11 : decode (m_code 183) 11 = .ok (.ifCond .ne 5, 3) := by decide +kernel
theorem d183_14 : decode (m_code 183) 14 = .ok (.iconst (-1), 1) := by decide +kernel
theorem d183_15 : decode (m_code 183) 15 = .ok (.ireturn, 1) := by decide +kernel
theorem d183_16 : decode (m_code 183) 16 = .ok (.iload_n 2, 1) := by decide +kernel
theorem d183_17 : decode (m_code 183) 17 = .ok (.tableswitch 95 0 4 #[35, 47, 59, 71, 83], 35) := by decide +kernel
theorem d183_52 : decode (m_code 183) 52 = .ok (.aload_n 0, 1) := by decide +kernel
theorem d183_53 : decode (m_code 183) 53 = .ok (.getfield 10, 3) := by decide +kernel
theorem d183_56 : decode (m_code 183) 56 = .ok (.getfield 188, 3) := by decide +kernel
theorem d183_59 : decode (m_code 183) 59 = .ok (.iload_n 1, 1) := by decide +kernel
theorem d183_60 : decode (m_code 183) 60 = .ok (.invokevirtual 332, 3) := by decide +kernel
theorem d183_63 : decode (m_code 183) 63 = .ok (.ireturn, 1) := by decide +kernel
theorem d183_64 : decode (m_code 183) 64 = .ok (.aload_n 0, 1) := by decide +kernel
theorem d183_65 : decode (m_code 183) 65 = .ok (.getfield 10, 3) := by decide +kernel
theorem d183_68 : decode (m_code 183) 68 = .ok (.getfield 188, 3) := by decide +kernel
theorem d183_71 : decode (m_code 183) 71 = .ok (.iload_n 1, 1) := by decide +kernel
theorem d183_72 : decode (m_code 183) 72 = .ok (.invokevirtual 199, 3) := by decide +kernel
theorem d183_75 : decode (m_code 183) 75 = .ok (.ireturn, 1) := by decide +kernel
theorem d183_76 : decode (m_code 183) 76 = .ok (.aload_n 0, 1) := by decide +kernel
theorem d183_77 : decode (m_code 183) 77 = .ok (.getfield 10, 3) := by decide +kernel
theorem d183_80 : decode (m_code 183) 80 = .ok (.getfield 188, 3) := by decide +kernel
theorem d183_83 : decode (m_code 183) 83 = .ok (.iload_n 1, 1) := by decide +kernel
theorem d183_84 : decode (m_code 183) 84 = .ok (.invokevirtual 335, 3) := by decide +kernel
theorem d183_87 : decode (m_code 183) 87 = .ok (.ireturn, 1) := by decide +kernel
theorem d183_88 : decode (m_code 183) 88 = .ok (.aload_n 0, 1) := by decide +kernel
theorem d183_89 : decode (m_code 183) 89 = .ok (.getfield 10, 3) := by decide +kernel
theorem d183_92 : decode (m_code 183) 92 = .ok (.getfield 188, 3) := by decide +kernel
theorem d183_95 : decode (m_code 183) 95 = .ok (.iload_n 1, 1) := by decide +kernel
theorem d183_96 : decode (m_code 183) 96 = .ok (.invokevirtual 338, 3) := by decide +kernel
theorem d183_99 : decode (m_code 183) 99 = .ok (.ireturn, 1) := by decide +kernel
theorem d183_100 : decode (m_code 183) 100 = .ok (.aload_n 0, 1) := by decide +kernel
theorem d183_101 : decode (m_code 183) 101 = .ok (.getfield 10, 3) := by decide +kernel
theorem d183_104 : decode (m_code 183) 104 = .ok (.getfield 188, 3) := by decide +kernel
theorem d183_107 : decode (m_code 183) 107 = .ok (.iload_n 1, 1) := by decide +kernel
theorem d183_108 : decode (m_code 183) 108 = .ok (.invokevirtual 341, 3) := by decide +kernel
theorem d183_111 : decode (m_code 183) 111 = .ok (.ireturn, 1) := by decide +kernel
theorem d183_112 : decode (m_code 183) 112 = .ok (.bipush (-2), 2) := by decide +kernel
theorem d183_114 : decode (m_code 183) 114 = .ok (.ireturn, 1) := by decide +kernel
theorem d185_0 : decode (m_code 185) 0 = .ok (.aload_n 0, 1) := by decide +kernel
theorem d185_1 : decode (m_code 185) 1 = .ok (.getfield 10, 3) := by decide +kernel
theorem d185_4 : decode (m_code 185) 4 = .ok (.getfield 220, 3) := by decide +kernel
theorem d185_7 : decode (m_code 185) 7 = .ok (.iload_n 1, 1) := by decide +kernel
theorem d185_8 : decode (m_code 185) 8 = .ok (.invokevirtual 224, 3) := by decide +kernel
theorem d185_11 : decode (m_code 185) 11 = .ok (.ifCond .ne 5, 3) := by decide +kernel
theorem d185_14 : decode (m_code 185) 14 = .ok (.iconst (-1), 1) := by decide +kernel
theorem d185_15 : decode (m_code 185) 15 = .ok (.ireturn, 1) := by decide +kernel
theorem d185_16 : decode (m_code 185) 16 = .ok (.iload_n 2, 1) := by decide +kernel
theorem d185_17 : decode (m_code 185) 17 = .ok (.tableswitch 95 0 4 #[35, 47, 59, 71, 83], 35) := by decide +kernel
theorem d185_52 : decode (m_code 185) 52 = .ok (.aload_n 0, 1) := by decide +kernel
theorem d185_53 : decode (m_code 185) 53 = .ok (.getfield 10, 3) := by decide +kernel
theorem d185_56 : decode (m_code 185) 56 = .ok (.getfield 220, 3) := by decide +kernel
theorem d185_59 : decode (m_code 185) 59 = .ok (.iload_n 1, 1) := by decide +kernel
theorem d185_60 : decode (m_code 185) 60 = .ok (.invokevirtual 344, 3) := by decide +kernel
theorem d185_63 : decode (m_code 185) 63 = .ok (.ireturn, 1) := by decide +kernel
theorem d185_64 : decode (m_code 185) 64 = .ok (.aload_n 0, 1) := by decide +kernel
theorem d185_65 : decode (m_code 185) 65 = .ok (.getfield 10, 3) := by decide +kernel
theorem d185_68 : decode (m_code 185) 68 = .ok (.getfield 220, 3) := by decide +kernel
theorem d185_71 : decode (m_code 185) 71 = .ok (.iload_n 1, 1) := by decide +kernel
theorem d185_72 : decode (m_code 185) 72 = .ok (.invokevirtual 227, 3) := by decide +kernel
theorem d185_75 : decode (m_code 185) 75 = .ok (.ireturn, 1) := by decide +kernel
theorem d185_76 : decode (m_code 185) 76 = .ok (.aload_n 0, 1) := by decide +kernel
theorem d185_77 : decode (m_code 185) 77 = .ok (.getfield 10, 3) := by decide +kernel
theorem d185_80 : decode (m_code 185) 80 = .ok (.getfield 220, 3) := by decide +kernel
theorem d185_83 : decode (m_code 185) 83 = .ok (.iload_n 1, 1) := by decide +kernel
theorem d185_84 : decode (m_code 185) 84 = .ok (.invokevirtual 235, 3) := by decide +kernel
theorem d185_87 : decode (m_code 185) 87 = .ok (.ireturn, 1) := by decide +kernel
theorem d185_88 : decode (m_code 185) 88 = .ok (.aload_n 0, 1) := by decide +kernel
theorem d185_89 : decode (m_code 185) 89 = .ok (.getfield 10, 3) := by decide +kernel
theorem d185_92 : decode (m_code 185) 92 = .ok (.getfield 220, 3) := by decide +kernel
theorem d185_95 : decode (m_code 185) 95 = .ok (.iload_n 1, 1) := by decide +kernel
theorem d185_96 : decode (m_code 185) 96 = .ok (.invokevirtual 347, 3) := by decide +kernel
theorem d185_99 : decode (m_code 185) 99 = .ok (.ireturn, 1) := by decide +kernel
theorem d185_100 : decode (m_code 185) 100 = .ok (.aload_n 0, 1) := by decide +kernel
theorem d185_101 : decode (m_code 185) 101 = .ok (.getfield 10, 3) := by decide +kernel
theorem d185_104 : decode (m_code 185) 104 = .ok (.getfield 220, 3) := by decide +kernel
theorem d185_107 : decode (m_code 185) 107 = .ok (.iload_n 1, 1) := by decide +kernel
theorem d185_108 : decode (m_code 185) 108 = .ok (.invokevirtual 350, 3) := by decide +kernel
theorem d185_111 : decode (m_code 185) 111 = .ok (.ireturn, 1) := by decide +kernel
theorem d185_112 : decode (m_code 185) 112 = .ok (.bipush (-2), 2) := by decide +kernel
theorem d185_114 : decode (m_code 185) 114 = .ok (.ireturn, 1) := by decide +kernel
theorem d188_0 : decode (m_code 188) 0 = .ok (.iload_n 1, 1) := by decide +kernel
theorem d188_1 : decode (m_code 188) 1 = .ok (.ifCond .lt 12, 3) := by decide +kernel
theorem d188_4 : decode (m_code 188) 4 = .ok (.iload_n 2, 1) := by decide +kernel
theorem d188_5 : decode (m_code 188) 5 = .ok (.iconst 0, 1) := by decide +kernel
theorem d188_6 : decode (m_code 188) 6 = .ok (.iconst 3, 1) := by decide +kernel
theorem d188_7 : decode (m_code 188) 7 = .ok (.invokestatic 46, 3) := by decide +kernel
theorem d188_10 : decode (m_code 188) 10 = .ok (.ifCond .ne 6, 3) := by decide +kernel
theorem d188_13 : decode (m_code 188) 13 = .ok (.bipush (-2), 2) := by decide +kernel
theorem d188_15 : decode (m_code 188) 15 = .ok (.ireturn, 1) := by decide +kernel
theorem d188_16 : decode (m_code 188) 16 = .ok (.aload_n 0, 1) := by decide +kernel
theorem d188_17 : decode (m_code 188) 17 = .ok (.getfield 10, 3) := by decide +kernel
theorem d188_20 : decode (m_code 188) 20 = .ok (.getfield 355, 3) := by decide +kernel
theorem d188_23 : decode (m_code 188) 23 = .ok (.iload_n 1, 1) := by decide +kernel
theorem d188_24 : decode (m_code 188) 24 = .ok (.iload_n 2, 1) := by decide +kernel
theorem d188_25 : decode (m_code 188) 25 = .ok (.invokevirtual 359, 3) := by decide +kernel
theorem d188_28 : decode (m_code 188) 28 = .ok (.ireturn, 1) := by decide +kernel
theorem d190_0 : decode (m_code 190) 0 = .ok (.aload_n 0, 1) := by decide +kernel
theorem d190_1 : decode (m_code 190) 1 = .ok (.getfield 10, 3) := by decide +kernel
theorem d190_4 : decode (m_code 190) 4 = .ok (.getfield 50, 3) := by decide +kernel
theorem d190_7 : decode (m_code 190) 7 = .ok (.iload_n 1, 1) := by decide +kernel
theorem d190_8 : decode (m_code 190) 8 = .ok (.invokevirtual 68, 3) := by decide +kernel
theorem d190_11 : decode (m_code 190) 11 = .ok (.ifCond .ne 5, 3) := by decide +kernel
theorem d190_14 : decode (m_code 190) 14 = .ok (.iconst (-1), 1) := by decide +kernel
theorem d190_15 : decode (m_code 190) 15 = .ok (.ireturn, 1) := by decide +kernel
theorem d190_16 : decode (m_code 190) 16 = .ok (.iload_n 2, 1) := by decide +kernel
theorem d190_17 : decode (m_code 190) 17 = .ok (.ifCond .lt 19, 3) := by decide +kernel
theorem d190_20 : decode (m_code 190) 20 = .ok (.iload_n 3, 1) := by decide +kernel
theorem d190_21 : decode (m_code 190) 21 = .ok (.iload_n 2, 1) := by decide +kernel
theorem d190_22 : decode (m_code 190) 22 = .ok (.if_icmp .lt 14, 3) := by decide +kernel
theorem d190_25 : decode (m_code 190) 25 = .ok (.iload_n 3, 1) := by decide +kernel
theorem d190_26 : decode (m_code 190) 26 = .ok (.aload_n 0, 1) := by decide +kernel
theorem d190_27 : decode (m_code 190) 27 = .ok (.getfield 10, 3) := by decide +kernel
theorem d190_30 : decode (m_code 190) 30 = .ok (.getfield 138, 3) := by decide +kernel
theorem d190_33 : decode (m_code 190) 33 = .ok (.if_icmp .le 6, 3) := by decide +kernel
theorem d190_36 : decode (m_code 190) 36 = .ok (.bipush (-2), 2) := by decide +kernel
theorem d190_38 : decode (m_code 190) 38 = .ok (.ireturn, 1) := by decide +kernel
theorem d190_39 : decode (m_code 190) 39 = .ok (.aload_n 0, 1) := by decide +kernel
theorem d190_40 : decode (m_code 190) 40 = .ok (.getfield 10, 3) := by decide +kernel
theorem d190_43 : decode (m_code 190) 43 = .ok (.getfield 355, 3) := by decide +kernel
theorem d190_46 : decode (m_code 190) 46 = .ok (.iload_n 1, 1) := by decide +kernel
theorem d190_47 : decode (m_code 190) 47 = .ok (.iload_n 2, 1) := by decide +kernel
theorem d190_48 : decode (m_code 190) 48 = .ok (.iload_n 3, 1) := by decide +kernel
theorem d190_49 : decode (m_code 190) 49 = .ok (.invokevirtual 362, 3) := by decide +kernel
theorem d190_52 : decode (m_code 190) 52 = .ok (.ireturn, 1) := by decide +kernel
theorem d197_0 : decode (m_code 197) 0 = .ok (.aload_n 0, 1) := by decide +kernel
theorem d197_1 : decode (m_code 197) 1 = .ok (.getfield 10, 3) := by decide +kernel
theorem d197_4 : decode (m_code 197) 4 = .ok (.getfield 50, 3) := by decide +kernel
theorem d197_7 : decode (m_code 197) 7 = .ok (.invokevirtual 368, 3) := by decide +kernel
theorem d197_10 : decode (m_code 197) 10 = .ok (.ireturn, 1) := by decide +kernel
theorem d200_0 : decode (m_code 200) 0 = .ok (.iload_n 1, 1) := by decide +kernel
theorem d200_1 : decode (m_code 200) 1 = .ok (.tableswitch 243 0 15 #[79, 87, 95, 106, 117, 128, 139, 150, 161, 172, 183, 194, 205, 216, 227, 235], 79) := by decide +kernel
theorem d200_80 : decode (m_code 200) 80 = .ok (.aload_n 0, 1) := by decide +kernel
theorem d200_81 : decode (m_code 200) 81 = .ok (.getfield 10, 3) := by decide +kernel
theorem d200_84 : decode (m_code 200) 84 = .ok (.getfield 138, 3) := by decide +kernel
theorem d200_87 : decode (m_code 200) 87 = .ok (.ireturn, 1) := by decide +kernel
theorem d200_88 : decode (m_code 200) 88 = .ok (.aload_n 0, 1) := by decide +kernel
theorem d200_89 : decode (m_code 200) 89 = .ok (.getfield 10, 3) := by decide +kernel
theorem d200_92 : decode (m_code 200) 92 = .ok (.getfield 247, 3) := by decide +kernel
theorem d200_95 : decode (m_code 200) 95 = .ok (.ireturn, 1) := by decide +kernel
theorem d200_96 : decode (m_code 200) 96 = .ok (.aload_n 0, 1) := by decide +kernel
theorem d200_97 : decode (m_code 200) 97 = .ok (.getfield 10, 3) := by decide +kernel
theorem d200_100 : decode (m_code 200) 100 = .ok (.getfield 50, 3) := by decide +kernel
theorem d200_103 : decode (m_code 200) 103 = .ok (.invokevirtual 54, 3) := by decide +kernel
theorem d200_106 : decode (m_code 200) 106 = .ok (.ireturn, 1) := by decide +kernel
theorem d200_107 : decode (m_code 200) 107 = .ok (.aload_n 0, 1) := by decide +kernel
theorem d200_108 : decode (m_code 200) 108 = .ok (.getfield 10, 3) := by decide +kernel
theorem d200_111 : decode (m_code 200) 111 = .ok (.getfield 74, 3) := by decide +kernel
theorem d200_114 : decode (m_code 200) 114 = .ok (.invokevirtual 83, 3) := by decide +kernel
theorem d200_117 : decode (m_code 200) 117 = .ok (.ireturn, 1) := by decide +kernel
theorem d200_118 : decode (m_code 200) 118 = .ok (.aload_n 0, 1) := by decide +kernel
theorem d200_119 : decode (m_code 200) 119 = .ok (.getfield 10, 3) := by decide +kernel
theorem d200_122 : decode (m_code 200) 122 = .ok (.getfield 131, 3) := by decide +kernel
theorem d200_125 : decode (m_code 200) 125 = .ok (.invokevirtual 135, 3) := by decide +kernel
theorem d200_128 : decode (m_code 200) 128 = .ok (.ireturn, 1) := by decide +kernel
theorem d200_129 : decode (m_code 200) 129 = .ok (.aload_n 0, 1) := by decide +kernel
theorem d200_130 : decode (m_code 200) 130 = .ok (.getfield 10, 3) := by decide +kernel
theorem d200_133 : decode (m_code 200) 133 = .ok (.getfield 188, 3) := by decide +kernel
theorem d200_136 : decode (m_code 200) 136 = .ok (.invokevirtual 192, 3) := by decide +kernel
theorem d200_139 : decode (m_code 200) 139 = .ok (.ireturn, 1) := by decide +kernel
theorem d200_140 : decode (m_code 200) 140 = .ok (.aload_n 0, 1) := by decide +kernel
theorem d200_141 : decode (m_code 200) 141 = .ok (.getfield 10, 3) := by decide +kernel
theorem d200_144 : decode (m_code 200) 144 = .ok (.getfield 188, 3) := by decide +kernel
theorem d200_147 : decode (m_code 200) 147 = .ok (.invokevirtual 371, 3) := by decide +kernel
theorem d200_150 : decode (m_code 200) 150 = .ok (.ireturn, 1) := by decide +kernel
theorem d200_151 : decode (m_code 200) 151 = .ok (.aload_n 0, 1) := by decide +kernel
theorem d200_152 : decode (m_code 200) 152 = .ok (.getfield 10, 3) := by decide +kernel
theorem d200_155 : decode (m_code 200) 155 = .ok (.getfield 220, 3) := by decide +kernel
theorem d200_158 : decode (m_code 200) 158 = .ok (.invokevirtual 374, 3) := by decide +kernel
theorem d200_161 : decode (m_code 200) 161 = .ok (.ireturn, 1) := by decide +kernel
theorem d200_162 : decode (m_code 200) 162 = .ok (.aload_n 0, 1) := by decide +kernel
theorem d200_163 : decode (m_code 200) 163 = .ok (.getfield 10, 3) := by decide +kernel
theorem d200_166 : decode (m_code 200) 166 = .ok (.getfield 220, 3) := by decide +kernel
theorem d200_169 : decode (m_code 200) 169 = .ok (.invokevirtual 375, 3) := by decide +kernel
theorem d200_172 : decode (m_code 200) 172 = .ok (.ireturn, 1) := by decide +kernel
theorem d200_173 : decode (m_code 200) 173 = .ok (.aload_n 0, 1) := by decide +kernel
theorem d200_174 : decode (m_code 200) 174 = .ok (.getfield 10, 3) := by decide +kernel
theorem d200_177 : decode (m_code 200) 177 = .ok (.getfield 220, 3) := by decide +kernel
theorem d200_180 : decode (m_code 200) 180 = .ok (.invokevirtual 376, 3) := by decide +kernel
theorem d200_183 : decode (m_code 200) 183 = .ok (.ireturn, 1) := by decide +kernel
theorem d200_184 : decode (m_code 200) 184 = .ok (.aload_n 0, 1) := by decide +kernel
theorem d200_185 : decode (m_code 200) 185 = .ok (.getfield 10, 3) := by decide +kernel
theorem d200_188 : decode (m_code 200) 188 = .ok (.getfield 95, 3) := by decide +kernel
theorem d200_191 : decode (m_code 200) 191 = .ok (.invokevirtual 125, 3) := by decide +kernel
theorem d200_194 : decode (m_code 200) 194 = .ok (.ireturn, 1) := by decide +kernel
theorem d200_195 : decode (m_code 200) 195 = .ok (.aload_n 0, 1) := by decide +kernel
theorem d200_196 : decode (m_code 200) 196 = .ok (.getfield 10, 3) := by decide +kernel
theorem d200_199 : decode (m_code 200) 199 = .ok (.getfield 153, 3) := by decide +kernel
theorem d200_202 : decode (m_code 200) 202 = .ok (.invokevirtual 241, 3) := by decide +kernel
theorem d200_205 : decode (m_code 200) 205 = .ok (.ireturn, 1) := by decide +kernel
theorem d200_206 : decode (m_code 200) 206 = .ok (.aload_n 0, 1) := by decide +kernel
theorem d200_207 : decode (m_code 200) 207 = .ok (.getfield 10, 3) := by decide +kernel
theorem d200_210 : decode (m_code 200) 210 = .ok (.getfield 355, 3) := by decide +kernel
theorem d200_213 : decode (m_code 200) 213 = .ok (.invokevirtual 379, 3) := by decide +kernel
theorem d200_216 : decode (m_code 200) 216 = .ok (.ireturn, 1) := by decide +kernel
theorem d200_217 : decode (m_code 200) 217 = .ok (.aload_n 0, 1) := by decide +kernel
theorem d200_218 : decode (m_code 200) 218 = .ok (.getfield 10, 3) := by decide +kernel
theorem d200_221 : decode (m_code 200) 221 = .ok (.getfield 131, 3) := by decide +kernel
theorem d200_224 : decode (m_code 200) 224 = .ok (.invokevirtual 382, 3) := by decide +kernel
theorem d200_227 : decode (m_code 200) 227 = .ok (.ireturn, 1) := by decide +kernel
theorem d200_228 : decode (m_code 200) 228 = .ok (.aload_n 0, 1) := by decide +kernel
theorem d200_229 : decode (m_code 200) 229 = .ok (.getfield 25, 3) := by decide +kernel
theorem d200_232 : decode (m_code 200) 232 = .ok (.invokevirtual 271, 3) := by decide +kernel
theorem d200_235 : decode (m_code 200) 235 = .ok (.ireturn, 1) := by decide +kernel
theorem d200_236 : decode (m_code 200) 236 = .ok (.aload_n 0, 1) := by decide +kernel
theorem d200_237 : decode (m_code 200) 237 = .ok (.getfield 32, 3) := by decide +kernel
theorem d200_240 : decode (m_code 200) 240 = .ok (.invokevirtual 250, 3) := by decide +kernel
theorem d200_243 : decode (m_code 200) 243 = .ok (.ireturn, 1) := by decide +kernel
theorem d200_244 : decode (m_code 200) 244 = .ok (.bipush (-2), 2) := by decide +kernel
theorem d200_246 : decode (m_code 200) 246 = .ok (.ireturn, 1) := by decide +kernel
theorem ag_room {X : mX} {h : mH} (hI : Inv h) (x w : Int32)  : Ag X 165 276 [.int (x), .int (w)] h := by
  have hI0 := hI
  obtain ⟨V, p, q, u, v, n, hk, tl, sg, R, σ, hP, hW, hCel, hT, hMs, hCV, hn, hn4, hHi, hKe, hTx⟩ := hI
  obtain ⟨mi, nR, nD, nG, nW, nA, hC⟩ := id hCV
  obtain ⟨st, ln, hS, hUp⟩ := hW.one (k := 0) (by omega)
  obtain ⟨hCn, hKn, hKz, hKr, hKd, hKu, hKg, hKo, hKk, hKw, hKa, hKm, hKs⟩ := id hC
  obtain ⟨⟨km0, kmi2⟩, ⟨kR0, kR1, kR2⟩, ⟨kD0, kD2⟩, ⟨kG0, kG2⟩, ⟨kW0, kW2⟩, kA0, kA2⟩ := id hCn
  obtain ⟨kmi, kni, kR, kD, kG, kW, kA, klo⟩ := id hKn
  have h0 := hCel.1
  obtain ⟨⟨oc, pl, od, hT1, hT2⟩, hT3⟩ := id hT
  have hM : Mus h (bs 0) st (V 0).1 := hS.1
  have hF : Frm h h (bs 0) 43 := Frm.rf
  refine wp_aload_n d165_0 rfl ?_
  refine wp_getf (e := 10) (ci := 0) (k := 0) (nest := false) d165_1 (by decide +kernel) ((hF.2.2 0 (Or.inl (by decide))).trans h0) rfl ?_
  refine wp_getf (e := 50) (ci := 1) (k := 0) (nest := true) d165_4 (by decide +kernel) (um_0 hM) rfl ?_
  refine wp_iload_n d165_7 rfl ?_
  refine wp_invvT (e := 68) (j2 := 35) (n := 1) d165_8 (by decide +kernel) (by decide +kernel) rfl rfl rfl (um_1 hM) (by decide +kernel) (Nat.le_of_ble_eq_true rfl) rfl rfl (Nat.le_of_ble_eq_true rfl) (by decide +kernel) (u_has1 hM kR (by omega) (x)) ?_
  refine wp_ifb_ne d165_11 (tgt := 16) (by decide) (fun hc11 => ?_) (fun hc11 => ?_)
  · obtain ⟨r, hr, rfl⟩ := nI_ofr (by omega) hc11
    refine wp_iload_n d165_16 rfl ?_
    by_cases hx : w.toInt < 0 ∨ 8 < w.toInt
    · refine wp_tswOut d165_17 hx (tgt := 176) (by decide) ?_
      refine wp_bipush d165_176 (v := (-2 : Int32)) (by decide) ?_
      refine wp_iret d165_178 (by decide +kernel) ?_
      exact ⟨_, rfl, ag_T hI0 (r_room_2 hMs hCn hn hn4 hr hx)⟩
    · obtain ⟨k0, hk0, rfl⟩ := nI_rng (n := 9) (by decide) hx
      rcases (show k0 = 0 ∨ k0 = 1 ∨ k0 = 2 ∨ k0 = 3 ∨ k0 = 4 ∨ k0 = 5 ∨ k0 = 6 ∨ k0 = 7 ∨ k0 = 8 by omega) with rfl | rfl | rfl | rfl | rfl | rfl | rfl | rfl | rfl
      · refine wp_tswIn d165_17 (by decide) (by decide) (off := 51) (by decide) (tgt := 68) (by decide) ?_
        refine wp_aload_n d165_68 rfl ?_
        refine wp_getf (e := 10) (ci := 0) (k := 0) (nest := false) d165_69 (by decide +kernel) ((hF.2.2 0 (Or.inl (by decide))).trans h0) rfl ?_
        refine wp_getf (e := 50) (ci := 1) (k := 0) (nest := true) d165_72 (by decide +kernel) (um_0 hM) rfl ?_
        refine wp_iload_n d165_75 rfl ?_
        refine wp_invvT (e := 278) (j2 := 60) (n := 1) d165_76 (by decide +kernel) (by decide +kernel) rfl rfl rfl (um_1 hM) (by decide +kernel) (Nat.le_of_ble_eq_true rfl) rfl rfl (Nat.le_of_ble_eq_true rfl) (by decide +kernel) (u_a60 hM kR (by omega) (r := r) (by omega)) ?_
        refine wp_iret d165_79 (by decide +kernel) ?_
        exact ⟨_, congrArg (fun z => some (Value.int z)) (((hKr r hr).1.1).symm), ag_T hI0 (r_room_v0 hMs hCn hn hn4 hr)⟩
      · refine wp_tswIn d165_17 (by decide) (by decide) (off := 63) (by decide) (tgt := 80) (by decide) ?_
        refine wp_aload_n d165_80 rfl ?_
        refine wp_getf (e := 10) (ci := 0) (k := 0) (nest := false) d165_81 (by decide +kernel) ((hF.2.2 0 (Or.inl (by decide))).trans h0) rfl ?_
        refine wp_getf (e := 50) (ci := 1) (k := 0) (nest := true) d165_84 (by decide +kernel) (um_0 hM) rfl ?_
        refine wp_iload_n d165_87 rfl ?_
        refine wp_invvT (e := 87) (j2 := 42) (n := 1) d165_88 (by decide +kernel) (by decide +kernel) rfl rfl rfl (um_1 hM) (by decide +kernel) (Nat.le_of_ble_eq_true rfl) rfl rfl (Nat.le_of_ble_eq_true rfl) (by decide +kernel) (u_a42 hM kR (by omega) (r := r) (by omega)) ?_
        refine wp_iret d165_91 (by decide +kernel) ?_
        exact ⟨_, congrArg (fun z => some (Value.int z)) (((hKr r hr).1.2.1).symm), ag_T hI0 (r_room_v1 hMs hCn hn hn4 hr)⟩
      · refine wp_tswIn d165_17 (by decide) (by decide) (off := 75) (by decide) (tgt := 92) (by decide) ?_
        refine wp_aload_n d165_92 rfl ?_
        refine wp_getf (e := 10) (ci := 0) (k := 0) (nest := false) d165_93 (by decide +kernel) ((hF.2.2 0 (Or.inl (by decide))).trans h0) rfl ?_
        refine wp_getf (e := 50) (ci := 1) (k := 0) (nest := true) d165_96 (by decide +kernel) (um_0 hM) rfl ?_
        refine wp_iload_n d165_99 rfl ?_
        refine wp_invvT (e := 281) (j2 := 135) (n := 1) d165_100 (by decide +kernel) (by decide +kernel) rfl rfl rfl (um_1 hM) (by decide +kernel) (Nat.le_of_ble_eq_true rfl) rfl rfl (Nat.le_of_ble_eq_true rfl) (by decide +kernel) (u_a135 hM kR (by omega) (r := r) (by omega)) ?_
        refine wp_iret d165_103 (by decide +kernel) ?_
        exact ⟨_, congrArg (fun z => some (Value.int z)) (((hKr r hr).1.2.2.1).symm), ag_T hI0 (r_room_v2 hMs hCn hn hn4 hr)⟩
      · refine wp_tswIn d165_17 (by decide) (by decide) (off := 87) (by decide) (tgt := 104) (by decide) ?_
        refine wp_aload_n d165_104 rfl ?_
        refine wp_getf (e := 10) (ci := 0) (k := 0) (nest := false) d165_105 (by decide +kernel) ((hF.2.2 0 (Or.inl (by decide))).trans h0) rfl ?_
        refine wp_getf (e := 50) (ci := 1) (k := 0) (nest := true) d165_108 (by decide +kernel) (um_0 hM) rfl ?_
        refine wp_iload_n d165_111 rfl ?_
        refine wp_invvT (e := 284) (j2 := 130) (n := 1) d165_112 (by decide +kernel) (by decide +kernel) rfl rfl rfl (um_1 hM) (by decide +kernel) (Nat.le_of_ble_eq_true rfl) rfl rfl (Nat.le_of_ble_eq_true rfl) (by decide +kernel) (u_a130 hM kR (by omega) (r := r) (by omega)) ?_
        refine wp_iret d165_115 (by decide +kernel) ?_
        exact ⟨_, congrArg (fun z => some (Value.int z)) (((hKr r hr).1.2.2.2.1).symm), ag_T hI0 (r_room_v3 hMs hCn hn hn4 hr)⟩
      · refine wp_tswIn d165_17 (by decide) (by decide) (off := 99) (by decide) (tgt := 116) (by decide) ?_
        refine wp_aload_n d165_116 rfl ?_
        refine wp_getf (e := 10) (ci := 0) (k := 0) (nest := false) d165_117 (by decide +kernel) ((hF.2.2 0 (Or.inl (by decide))).trans h0) rfl ?_
        refine wp_getf (e := 50) (ci := 1) (k := 0) (nest := true) d165_120 (by decide +kernel) (um_0 hM) rfl ?_
        refine wp_iload_n d165_123 rfl ?_
        refine wp_invvT (e := 287) (j2 := 166) (n := 1) d165_124 (by decide +kernel) (by decide +kernel) rfl rfl rfl (um_1 hM) (by decide +kernel) (Nat.le_of_ble_eq_true rfl) rfl rfl (Nat.le_of_ble_eq_true rfl) (by decide +kernel) (u_a166 hM kR (by omega) (r := r) (by omega)) ?_
        refine wp_iret d165_127 (by decide +kernel) ?_
        exact ⟨_, congrArg (fun z => some (Value.int z)) (((hKr r hr).1.2.2.2.2.1).symm), ag_T hI0 (r_room_v4 hMs hCn hn hn4 hr)⟩
      · refine wp_tswIn d165_17 (by decide) (by decide) (off := 111) (by decide) (tgt := 128) (by decide) ?_
        refine wp_aload_n d165_128 rfl ?_
        refine wp_getf (e := 10) (ci := 0) (k := 0) (nest := false) d165_129 (by decide +kernel) ((hF.2.2 0 (Or.inl (by decide))).trans h0) rfl ?_
        refine wp_getf (e := 50) (ci := 1) (k := 0) (nest := true) d165_132 (by decide +kernel) (um_0 hM) rfl ?_
        refine wp_iload_n d165_135 rfl ?_
        refine wp_invvT (e := 290) (j2 := 167) (n := 1) d165_136 (by decide +kernel) (by decide +kernel) rfl rfl rfl (um_1 hM) (by decide +kernel) (Nat.le_of_ble_eq_true rfl) rfl rfl (Nat.le_of_ble_eq_true rfl) (by decide +kernel) (u_a167 hM kR (by omega) (r := r) (by omega)) ?_
        refine wp_iret d165_139 (by decide +kernel) ?_
        exact ⟨_, congrArg (fun z => some (Value.int z)) (((hKr r hr).1.2.2.2.2.2).symm), ag_T hI0 (r_room_v5 hMs hCn hn hn4 hr)⟩
      · refine wp_tswIn d165_17 (by decide) (by decide) (off := 123) (by decide) (tgt := 140) (by decide) ?_
        refine wp_aload_n d165_140 rfl ?_
        refine wp_getf (e := 10) (ci := 0) (k := 0) (nest := false) d165_141 (by decide +kernel) ((hF.2.2 0 (Or.inl (by decide))).trans h0) rfl ?_
        refine wp_getf (e := 131) (ci := 1) (k := 4) (nest := true) d165_144 (by decide +kernel) (um_0 hM) rfl ?_
        refine wp_iload_n d165_147 rfl ?_
        refine wp_invvT (e := 205) (j2 := 91) (n := 1) d165_148 (by decide +kernel) (by decide +kernel) rfl rfl rfl (um_19 hM) (by decide +kernel) (Nat.le_of_ble_eq_true rfl) rfl rfl (Nat.le_of_ble_eq_true rfl) (by decide +kernel) (u_countIn hM kG kG2 (x := nI r)) ?_
        refine wp_iret d165_151 (by decide +kernel) ?_
        exact ⟨_, congrArg (fun z => some (Value.int z)) (congrArg nI (c_gi hKg (nI r))), ag_T hI0 (r_room_v6 hMs hCn hn hn4 hr)⟩
      · refine wp_tswIn d165_17 (by decide) (by decide) (off := 135) (by decide) (tgt := 152) (by decide) ?_
        refine wp_aload_n d165_152 rfl ?_
        refine wp_getf (e := 10) (ci := 0) (k := 0) (nest := false) d165_153 (by decide +kernel) ((hF.2.2 0 (Or.inl (by decide))).trans h0) rfl ?_
        refine wp_getf (e := 188) (ci := 1) (k := 5) (nest := true) d165_156 (by decide +kernel) (um_0 hM) rfl ?_
        refine wp_iload_n d165_159 rfl ?_
        refine wp_invvT (e := 293) (j2 := 168) (n := 1) d165_160 (by decide +kernel) (by decide +kernel) rfl rfl rfl (um_29 hM) (by decide +kernel) (Nat.le_of_ble_eq_true rfl) rfl rfl (Nat.le_of_ble_eq_true rfl) (by decide +kernel) (u_countInW hM kW kW2 (x := nI r)) ?_
        refine wp_iret d165_163 (by decide +kernel) ?_
        exact ⟨_, congrArg (fun z => some (Value.int z)) (congrArg nI (c_cw hKw (nI r))), ag_T hI0 (r_room_v7 hMs hCn hn hn4 hr)⟩
      · refine wp_tswIn d165_17 (by decide) (by decide) (off := 147) (by decide) (tgt := 164) (by decide) ?_
        refine wp_aload_n d165_164 rfl ?_
        refine wp_getf (e := 10) (ci := 0) (k := 0) (nest := false) d165_165 (by decide +kernel) ((hF.2.2 0 (Or.inl (by decide))).trans h0) rfl ?_
        refine wp_getf (e := 220) (ci := 1) (k := 6) (nest := true) d165_168 (by decide +kernel) (um_0 hM) rfl ?_
        refine wp_iload_n d165_171 rfl ?_
        refine wp_invvT (e := 294) (j2 := 169) (n := 1) d165_172 (by decide +kernel) (by decide +kernel) rfl rfl rfl (um_35 hM) (by decide +kernel) (Nat.le_of_ble_eq_true rfl) rfl rfl (Nat.le_of_ble_eq_true rfl) (by decide +kernel) (u_openIn hM kA kA2 (x := nI r)) ?_
        refine wp_iret d165_175 (by decide +kernel) ?_
        exact ⟨_, congrArg (fun z => some (Value.int z)) (congrArg nI (c_ca hKa (nI r))), ag_T hI0 (r_room_v8 hMs hCn hn hn4 hr)⟩
  · refine wp_iconst d165_14 (v := (-1 : Int32)) (by decide) ?_
    refine wp_iret d165_15 (by decide +kernel) ?_
    exact ⟨_, rfl, ag_T hI0 (r_room_1 hMs hCn hn hn4 hc11)⟩
theorem K_d1.key {M : Nat → Nat → Int32} {σ : Nat → Int32} {nR d : Nat} (h : K_d1 M σ nR d) : (0 ≤ σ (92 + 5 * d + 3) ∧ M 12 d = σ (92 + 5 * d + 3)) ∨ (¬ 0 ≤ σ (92 + 5 * d + 3) ∧ M 12 d = -5) := by
  obtain ⟨-, q, -⟩ := h
  rcases q with ⟨q1, q2⟩ | ⟨k, hk, q1, q2⟩
  · exact Or.inr ⟨by rw [q1]; decide, q2⟩
  · exact Or.inl ⟨by rw [q1]; exact nI_pos' (by omega), q2.trans q1.symm⟩
theorem K_d1.eq {M : Nat → Nat → Int32} {σ : Nat → Int32} {nR d : Nat} (h : K_d1 M σ nR d) : M 9 d = σ (92 + 5 * d + 0) ∧ M 10 d = σ (92 + 5 * d + 1) ∧ M 11 d = σ (92 + 5 * d + 2) ∧ M 13 d = σ (92 + 5 * d + 4) := by
  obtain ⟨⟨a, b, w, h1, h2, h3, h4, h5, h6, h7, h8, h9, h10⟩, -, q⟩ := h
  exact ⟨h6.trans h5.symm, h8.trans h7.symm, h10.trans h9.symm, q.symm⟩
theorem lt6 {x : Int32} : (nI 0 ≤ x ∧ x < nI 6) ↔ (nI 0 ≤ x ∧ x ≤ nI 5) := and_congr Iff.rfl (nI_lt_le (by decide))
theorem lt8 {x : Int32} : (nI 0 ≤ x ∧ x < nI 8) ↔ (nI 0 ≤ x ∧ x ≤ nI 7) := and_congr Iff.rfl (nI_lt_le (by decide))
theorem mem04 {v : Int32} (h : v.toInt < 0 ∨ 4 < v.toInt) : ¬ (nI 0 ≤ v ∧ v ≤ nI 4) := by
  rintro ⟨h1, h2⟩
  rw [Int32.le_iff_toInt_le, nI_int (by decide)] at h1 h2
  omega
theorem K_z.exc {M : Nat → Nat → Int32} {σ : Nat → Int32} {z : Nat} (h : K_z M σ) (hz : z < 6) : M 16 z = σ (14 + z) := by
  obtain ⟨-, h1, -⟩ := h
  obtain ⟨e, -, h2, h3⟩ := h1 z hz
  exact h2.trans h3.symm
theorem K_g1.parts {M : Nat → Nat → Int32} {σ : Nat → Int32} {nR us g : Nat} (h : K_g1 M σ nR us g) (hR : nR ≤ 12) : (0 ≤ σ (192 + 10 * g + 0) ∧ ¬ M 20 g = -5 ∧ M 22 g = -5 ∧ M 23 g = σ (192 + 10 * g + 3)) ∨ (¬ 0 ≤ σ (192 + 10 * g + 0) ∧ M 20 g = -5 ∧ M 22 g = σ (192 + 10 * g + 2) ∧ σ (192 + 10 * g + 3) = nI 0) := by
  obtain ⟨p1, p2, p3, p4⟩ := h
  rcases p4 with ⟨r, s, a1, a2, a3, a4, a5, a6, a7, a8, a9⟩ | ⟨t, l, s, a1, a2, a3, a4, a5, a6, a7, a8, a9, b1, b2, b3⟩
  · exact Or.inl ⟨by rw [a3]; exact nI_pos' (by omega), by rw [a4]; exact nI_ne5 (by omega), a7, a9.trans a8.symm⟩
  · exact Or.inr ⟨by rw [a5]; decide, a6, b1.trans a9.symm, b2⟩
theorem ag_door {X : mX} {h : mH} (hI : Inv h) (x w : Int32)  : Ag X 170 277 [.int (x), .int (w)] h := by
  have hI0 := hI
  obtain ⟨V, p, q, u, v, n, hk, tl, sg, R, σ, hP, hW, hCel, hT, hMs, hCV, hn, hn4, hHi, hKe, hTx⟩ := hI
  obtain ⟨mi, nR, nD, nG, nW, nA, hC⟩ := id hCV
  obtain ⟨st, ln, hS, hUp⟩ := hW.one (k := 0) (by omega)
  obtain ⟨hCn, hKn, hKz, hKr, hKd, hKu, hKg, hKo, hKk, hKw, hKa, hKm, hKs⟩ := id hC
  obtain ⟨⟨km0, kmi2⟩, ⟨kR0, kR1, kR2⟩, ⟨kD0, kD2⟩, ⟨kG0, kG2⟩, ⟨kW0, kW2⟩, kA0, kA2⟩ := id hCn
  obtain ⟨kmi, kni, kR, kD, kG, kW, kA, klo⟩ := id hKn
  have h0 := hCel.1
  obtain ⟨⟨oc, pl, od, hT1, hT2⟩, hT3⟩ := id hT
  have hM : Mus h (bs 0) st (V 0).1 := hS.1
  have hF : Frm h h (bs 0) 43 := Frm.rf
  refine wp_aload_n d170_0 rfl ?_
  refine wp_getf (e := 10) (ci := 0) (k := 0) (nest := false) d170_1 (by decide +kernel) ((hF.2.2 0 (Or.inl (by decide))).trans h0) rfl ?_
  refine wp_getf (e := 74) (ci := 1) (k := 1) (nest := true) d170_4 (by decide +kernel) (um_0 hM) rfl ?_
  refine wp_iload_n d170_7 rfl ?_
  refine wp_invvT (e := 297) (j2 := 94) (n := 1) d170_8 (by decide +kernel) (by decide +kernel) rfl rfl rfl (um_8 hM) (by decide +kernel) (Nat.le_of_ble_eq_true rfl) rfl rfl (Nat.le_of_ble_eq_true rfl) (by decide +kernel) (u_has8 hM kD (by omega) (x)) ?_
  refine wp_ifb_ne d170_11 (tgt := 16) (by decide) (fun hc11 => ?_) (fun hc11 => ?_)
  · obtain ⟨d, hd, rfl⟩ := nI_ofr (by omega) hc11
    refine wp_iload_n d170_16 rfl ?_
    by_cases hx : w.toInt < 0 ∨ 4 < w.toInt
    · refine wp_tswOut d170_17 hx (tgt := 112) (by decide) ?_
      refine wp_bipush d170_112 (v := (-2 : Int32)) (by decide) ?_
      refine wp_iret d170_114 (by decide +kernel) ?_
      exact ⟨_, rfl, ag_T hI0 (r_door_2 hMs hCn hn hn4 hd (mem04 hx))⟩
    · obtain ⟨k0, hk0, rfl⟩ := nI_rng (n := 5) (by decide) hx
      rcases (show k0 = 0 ∨ k0 = 1 ∨ k0 = 2 ∨ k0 = 3 ∨ k0 = 4 by omega) with rfl | rfl | rfl | rfl | rfl
      · refine wp_tswIn d170_17 (by decide) (by decide) (off := 35) (by decide) (tgt := 52) (by decide) ?_
        refine wp_aload_n d170_52 rfl ?_
        refine wp_getf (e := 10) (ci := 0) (k := 0) (nest := false) d170_53 (by decide +kernel) ((hF.2.2 0 (Or.inl (by decide))).trans h0) rfl ?_
        refine wp_getf (e := 74) (ci := 1) (k := 1) (nest := true) d170_56 (by decide +kernel) (um_0 hM) rfl ?_
        refine wp_iload_n d170_59 rfl ?_
        refine wp_invvT (e := 298) (j2 := 171) (n := 1) d170_60 (by decide +kernel) (by decide +kernel) rfl rfl rfl (um_8 hM) (by decide +kernel) (Nat.le_of_ble_eq_true rfl) rfl rfl (Nat.le_of_ble_eq_true rfl) (by decide +kernel) (u_a171 hM kD (by omega) (r := d) (by omega)) ?_
        refine wp_iret d170_63 (by decide +kernel) ?_
        exact ⟨_, congrArg (fun z => some (Value.int z)) ((K_d1.eq (hKd d hd)).1), ag_T hI0 (r_door_v0 hMs hCn hn hn4 hd)⟩
      · refine wp_tswIn d170_17 (by decide) (by decide) (off := 47) (by decide) (tgt := 64) (by decide) ?_
        refine wp_aload_n d170_64 rfl ?_
        refine wp_getf (e := 10) (ci := 0) (k := 0) (nest := false) d170_65 (by decide +kernel) ((hF.2.2 0 (Or.inl (by decide))).trans h0) rfl ?_
        refine wp_getf (e := 74) (ci := 1) (k := 1) (nest := true) d170_68 (by decide +kernel) (um_0 hM) rfl ?_
        refine wp_iload_n d170_71 rfl ?_
        refine wp_invvT (e := 301) (j2 := 172) (n := 1) d170_72 (by decide +kernel) (by decide +kernel) rfl rfl rfl (um_8 hM) (by decide +kernel) (Nat.le_of_ble_eq_true rfl) rfl rfl (Nat.le_of_ble_eq_true rfl) (by decide +kernel) (u_a172 hM kD (by omega) (r := d) (by omega)) ?_
        refine wp_iret d170_75 (by decide +kernel) ?_
        exact ⟨_, congrArg (fun z => some (Value.int z)) ((K_d1.eq (hKd d hd)).2.1), ag_T hI0 (r_door_v1 hMs hCn hn hn4 hd)⟩
      · refine wp_tswIn d170_17 (by decide) (by decide) (off := 59) (by decide) (tgt := 76) (by decide) ?_
        refine wp_aload_n d170_76 rfl ?_
        refine wp_getf (e := 10) (ci := 0) (k := 0) (nest := false) d170_77 (by decide +kernel) ((hF.2.2 0 (Or.inl (by decide))).trans h0) rfl ?_
        refine wp_getf (e := 74) (ci := 1) (k := 1) (nest := true) d170_80 (by decide +kernel) (um_0 hM) rfl ?_
        refine wp_iload_n d170_83 rfl ?_
        refine wp_invvT (e := 211) (j2 := 93) (n := 1) d170_84 (by decide +kernel) (by decide +kernel) rfl rfl rfl (um_8 hM) (by decide +kernel) (Nat.le_of_ble_eq_true rfl) rfl rfl (Nat.le_of_ble_eq_true rfl) (by decide +kernel) (u_a93 hM kD (by omega) (r := d) (by omega)) ?_
        refine wp_iret d170_87 (by decide +kernel) ?_
        exact ⟨_, congrArg (fun z => some (Value.int z)) ((K_d1.eq (hKd d hd)).2.2.1), ag_T hI0 (r_door_v2 hMs hCn hn hn4 hd)⟩
      · refine wp_tswIn d170_17 (by decide) (by decide) (off := 71) (by decide) (tgt := 88) (by decide) ?_
        refine wp_aload_n d170_88 rfl ?_
        refine wp_getf (e := 10) (ci := 0) (k := 0) (nest := false) d170_89 (by decide +kernel) ((hF.2.2 0 (Or.inl (by decide))).trans h0) rfl ?_
        refine wp_getf (e := 74) (ci := 1) (k := 1) (nest := true) d170_92 (by decide +kernel) (um_0 hM) rfl ?_
        refine wp_iload_n d170_95 rfl ?_
        refine wp_invvT (e := 304) (j2 := 173) (n := 1) d170_96 (by decide +kernel) (by decide +kernel) rfl rfl rfl (um_8 hM) (by decide +kernel) (Nat.le_of_ble_eq_true rfl) rfl rfl (Nat.le_of_ble_eq_true rfl) (by decide +kernel) (u_a173 hM kD (by omega) (r := d) (by omega)) ?_
        refine wp_iret d170_99 (by decide +kernel) ?_
        rcases K_d1.key (hKd d hd) with ⟨z1, z2⟩ | ⟨z1, z2⟩
        · exact ⟨_, congrArg (fun z => some (Value.int z)) z2, ag_T hI0 (r_door_v3a hMs hCn hn hn4 hd z1)⟩
        · exact ⟨_, congrArg (fun z => some (Value.int z)) z2, ag_T hI0 (r_door_v3b hMs hCn hn hn4 hd z1)⟩
      · refine wp_tswIn d170_17 (by decide) (by decide) (off := 83) (by decide) (tgt := 100) (by decide) ?_
        refine wp_aload_n d170_100 rfl ?_
        refine wp_getf (e := 10) (ci := 0) (k := 0) (nest := false) d170_101 (by decide +kernel) ((hF.2.2 0 (Or.inl (by decide))).trans h0) rfl ?_
        refine wp_getf (e := 74) (ci := 1) (k := 1) (nest := true) d170_104 (by decide +kernel) (um_0 hM) rfl ?_
        refine wp_iload_n d170_107 rfl ?_
        refine wp_invvT (e := 307) (j2 := 174) (n := 1) d170_108 (by decide +kernel) (by decide +kernel) rfl rfl rfl (um_8 hM) (by decide +kernel) (Nat.le_of_ble_eq_true rfl) rfl rfl (Nat.le_of_ble_eq_true rfl) (by decide +kernel) (u_a174 hM kD (by omega) (r := d) (by omega)) ?_
        refine wp_iret d170_111 (by decide +kernel) ?_
        exact ⟨_, congrArg (fun z => some (Value.int z)) ((K_d1.eq (hKd d hd)).2.2.2), ag_T hI0 (r_door_v4 hMs hCn hn hn4 hd)⟩
  · refine wp_iconst d170_14 (v := (-1 : Int32)) (by decide) ?_
    refine wp_iret d170_15 (by decide +kernel) ?_
    exact ⟨_, rfl, ag_T hI0 (r_door_1 hMs hCn hn hn4 hc11)⟩
theorem ag_work {X : mX} {h : mH} (hI : Inv h) (x w : Int32)  : Ag X 183 283 [.int (x), .int (w)] h := by
  have hI0 := hI
  obtain ⟨V, p, q, u, v, n, hk, tl, sg, R, σ, hP, hW, hCel, hT, hMs, hCV, hn, hn4, hHi, hKe, hTx⟩ := hI
  obtain ⟨mi, nR, nD, nG, nW, nA, hC⟩ := id hCV
  obtain ⟨st, ln, hS, hUp⟩ := hW.one (k := 0) (by omega)
  obtain ⟨hCn, hKn, hKz, hKr, hKd, hKu, hKg, hKo, hKk, hKw, hKa, hKm, hKs⟩ := id hC
  obtain ⟨⟨km0, kmi2⟩, ⟨kR0, kR1, kR2⟩, ⟨kD0, kD2⟩, ⟨kG0, kG2⟩, ⟨kW0, kW2⟩, kA0, kA2⟩ := id hCn
  obtain ⟨kmi, kni, kR, kD, kG, kW, kA, klo⟩ := id hKn
  have h0 := hCel.1
  obtain ⟨⟨oc, pl, od, hT1, hT2⟩, hT3⟩ := id hT
  have hM : Mus h (bs 0) st (V 0).1 := hS.1
  have hF : Frm h h (bs 0) 43 := Frm.rf
  refine wp_aload_n d183_0 rfl ?_
  refine wp_getf (e := 10) (ci := 0) (k := 0) (nest := false) d183_1 (by decide +kernel) ((hF.2.2 0 (Or.inl (by decide))).trans h0) rfl ?_
  refine wp_getf (e := 188) (ci := 1) (k := 5) (nest := true) d183_4 (by decide +kernel) (um_0 hM) rfl ?_
  refine wp_iload_n d183_7 rfl ?_
  refine wp_invvT (e := 198) (j2 := 87) (n := 1) d183_8 (by decide +kernel) (by decide +kernel) rfl rfl rfl (um_29 hM) (by decide +kernel) (Nat.le_of_ble_eq_true rfl) rfl rfl (Nat.le_of_ble_eq_true rfl) (by decide +kernel) (u_has29 hM kW (by omega) (x)) ?_
  refine wp_ifb_ne d183_11 (tgt := 16) (by decide) (fun hc11 => ?_) (fun hc11 => ?_)
  · obtain ⟨w0, hw, rfl⟩ := nI_ofr (by omega) hc11
    refine wp_iload_n d183_16 rfl ?_
    by_cases hx : w.toInt < 0 ∨ 4 < w.toInt
    · refine wp_tswOut d183_17 hx (tgt := 112) (by decide) ?_
      refine wp_bipush d183_112 (v := (-2 : Int32)) (by decide) ?_
      refine wp_iret d183_114 (by decide +kernel) ?_
      exact ⟨_, rfl, ag_T hI0 (r_work_2 hMs hCn hn hn4 hw (mem04 hx))⟩
    · obtain ⟨k0, hk0, rfl⟩ := nI_rng (n := 5) (by decide) hx
      rcases (show k0 = 0 ∨ k0 = 1 ∨ k0 = 2 ∨ k0 = 3 ∨ k0 = 4 by omega) with rfl | rfl | rfl | rfl | rfl
      · refine wp_tswIn d183_17 (by decide) (by decide) (off := 35) (by decide) (tgt := 52) (by decide) ?_
        refine wp_aload_n d183_52 rfl ?_
        refine wp_getf (e := 10) (ci := 0) (k := 0) (nest := false) d183_53 (by decide +kernel) ((hF.2.2 0 (Or.inl (by decide))).trans h0) rfl ?_
        refine wp_getf (e := 188) (ci := 1) (k := 5) (nest := true) d183_56 (by decide +kernel) (um_0 hM) rfl ?_
        refine wp_iload_n d183_59 rfl ?_
        refine wp_invvT (e := 332) (j2 := 134) (n := 1) d183_60 (by decide +kernel) (by decide +kernel) rfl rfl rfl (um_29 hM) (by decide +kernel) (Nat.le_of_ble_eq_true rfl) rfl rfl (Nat.le_of_ble_eq_true rfl) (by decide +kernel) (u_a134 hM kW (by omega) (r := w0) (by omega)) ?_
        refine wp_iret d183_63 (by decide +kernel) ?_
        exact ⟨_, congrArg (fun z => some (Value.int z)) (((hKw w0 hw).1.1).symm), ag_T hI0 (r_work_v0 hMs hCn hn hn4 hw)⟩
      · refine wp_tswIn d183_17 (by decide) (by decide) (off := 47) (by decide) (tgt := 64) (by decide) ?_
        refine wp_aload_n d183_64 rfl ?_
        refine wp_getf (e := 10) (ci := 0) (k := 0) (nest := false) d183_65 (by decide +kernel) ((hF.2.2 0 (Or.inl (by decide))).trans h0) rfl ?_
        refine wp_getf (e := 188) (ci := 1) (k := 5) (nest := true) d183_68 (by decide +kernel) (um_0 hM) rfl ?_
        refine wp_iload_n d183_71 rfl ?_
        refine wp_invvT (e := 199) (j2 := 88) (n := 1) d183_72 (by decide +kernel) (by decide +kernel) rfl rfl rfl (um_29 hM) (by decide +kernel) (Nat.le_of_ble_eq_true rfl) rfl rfl (Nat.le_of_ble_eq_true rfl) (by decide +kernel) (u_a88 hM kW (by omega) (r := w0) (by omega)) ?_
        refine wp_iret d183_75 (by decide +kernel) ?_
        exact ⟨_, congrArg (fun z => some (Value.int z)) (((hKw w0 hw).1.2.1).symm), ag_T hI0 (r_work_v1 hMs hCn hn hn4 hw)⟩
      · refine wp_tswIn d183_17 (by decide) (by decide) (off := 59) (by decide) (tgt := 76) (by decide) ?_
        refine wp_aload_n d183_76 rfl ?_
        refine wp_getf (e := 10) (ci := 0) (k := 0) (nest := false) d183_77 (by decide +kernel) ((hF.2.2 0 (Or.inl (by decide))).trans h0) rfl ?_
        refine wp_getf (e := 188) (ci := 1) (k := 5) (nest := true) d183_80 (by decide +kernel) (um_0 hM) rfl ?_
        refine wp_iload_n d183_83 rfl ?_
        refine wp_invvT (e := 335) (j2 := 133) (n := 1) d183_84 (by decide +kernel) (by decide +kernel) rfl rfl rfl (um_29 hM) (by decide +kernel) (Nat.le_of_ble_eq_true rfl) rfl rfl (Nat.le_of_ble_eq_true rfl) (by decide +kernel) (u_a133 hM kW (by omega) (r := w0) (by omega)) ?_
        refine wp_iret d183_87 (by decide +kernel) ?_
        exact ⟨_, congrArg (fun z => some (Value.int z)) (((hKw w0 hw).1.2.2.1).symm), ag_T hI0 (r_work_v2 hMs hCn hn hn4 hw)⟩
      · refine wp_tswIn d183_17 (by decide) (by decide) (off := 71) (by decide) (tgt := 88) (by decide) ?_
        refine wp_aload_n d183_88 rfl ?_
        refine wp_getf (e := 10) (ci := 0) (k := 0) (nest := false) d183_89 (by decide +kernel) ((hF.2.2 0 (Or.inl (by decide))).trans h0) rfl ?_
        refine wp_getf (e := 188) (ci := 1) (k := 5) (nest := true) d183_92 (by decide +kernel) (um_0 hM) rfl ?_
        refine wp_iload_n d183_95 rfl ?_
        refine wp_invvT (e := 338) (j2 := 90) (n := 1) d183_96 (by decide +kernel) (by decide +kernel) rfl rfl rfl (um_29 hM) (by decide +kernel) (Nat.le_of_ble_eq_true rfl) rfl rfl (Nat.le_of_ble_eq_true rfl) (by decide +kernel) (u_a90 hM kW (by omega) (r := w0) (by omega)) ?_
        refine wp_iret d183_99 (by decide +kernel) ?_
        exact ⟨_, congrArg (fun z => some (Value.int z)) (((hKw w0 hw).1.2.2.2.1).symm), ag_T hI0 (r_work_v3 hMs hCn hn hn4 hw)⟩
      · refine wp_tswIn d183_17 (by decide) (by decide) (off := 83) (by decide) (tgt := 100) (by decide) ?_
        refine wp_aload_n d183_100 rfl ?_
        refine wp_getf (e := 10) (ci := 0) (k := 0) (nest := false) d183_101 (by decide +kernel) ((hF.2.2 0 (Or.inl (by decide))).trans h0) rfl ?_
        refine wp_getf (e := 188) (ci := 1) (k := 5) (nest := true) d183_104 (by decide +kernel) (um_0 hM) rfl ?_
        refine wp_iload_n d183_107 rfl ?_
        refine wp_invvT (e := 341) (j2 := 184) (n := 1) d183_108 (by decide +kernel) (by decide +kernel) rfl rfl rfl (um_29 hM) (by decide +kernel) (Nat.le_of_ble_eq_true rfl) rfl rfl (Nat.le_of_ble_eq_true rfl) (by decide +kernel) (u_a184 hM kW (by omega) (r := w0) (by omega)) ?_
        refine wp_iret d183_111 (by decide +kernel) ?_
        exact ⟨_, congrArg (fun z => some (Value.int z)) (((hKw w0 hw).1.2.2.2.2).symm), ag_T hI0 (r_work_v4 hMs hCn hn hn4 hw)⟩
  · refine wp_iconst d183_14 (v := (-1 : Int32)) (by decide) ?_
    refine wp_iret d183_15 (by decide +kernel) ?_
    exact ⟨_, rfl, ag_T hI0 (r_work_1 hMs hCn hn hn4 hc11)⟩
theorem ag_alarm {X : mX} {h : mH} (hI : Inv h) (x w : Int32)  : Ag X 185 284 [.int (x), .int (w)] h := by
  have hI0 := hI
  obtain ⟨V, p, q, u, v, n, hk, tl, sg, R, σ, hP, hW, hCel, hT, hMs, hCV, hn, hn4, hHi, hKe, hTx⟩ := hI
  obtain ⟨mi, nR, nD, nG, nW, nA, hC⟩ := id hCV
  obtain ⟨st, ln, hS, hUp⟩ := hW.one (k := 0) (by omega)
  obtain ⟨hCn, hKn, hKz, hKr, hKd, hKu, hKg, hKo, hKk, hKw, hKa, hKm, hKs⟩ := id hC
  obtain ⟨⟨km0, kmi2⟩, ⟨kR0, kR1, kR2⟩, ⟨kD0, kD2⟩, ⟨kG0, kG2⟩, ⟨kW0, kW2⟩, kA0, kA2⟩ := id hCn
  obtain ⟨kmi, kni, kR, kD, kG, kW, kA, klo⟩ := id hKn
  have h0 := hCel.1
  obtain ⟨⟨oc, pl, od, hT1, hT2⟩, hT3⟩ := id hT
  have hM : Mus h (bs 0) st (V 0).1 := hS.1
  have hF : Frm h h (bs 0) 43 := Frm.rf
  refine wp_aload_n d185_0 rfl ?_
  refine wp_getf (e := 10) (ci := 0) (k := 0) (nest := false) d185_1 (by decide +kernel) ((hF.2.2 0 (Or.inl (by decide))).trans h0) rfl ?_
  refine wp_getf (e := 220) (ci := 1) (k := 6) (nest := true) d185_4 (by decide +kernel) (um_0 hM) rfl ?_
  refine wp_iload_n d185_7 rfl ?_
  refine wp_invvT (e := 224) (j2 := 99) (n := 1) d185_8 (by decide +kernel) (by decide +kernel) rfl rfl rfl (um_35 hM) (by decide +kernel) (Nat.le_of_ble_eq_true rfl) rfl rfl (Nat.le_of_ble_eq_true rfl) (by decide +kernel) (u_has35 hM kA (by omega) (x)) ?_
  refine wp_ifb_ne d185_11 (tgt := 16) (by decide) (fun hc11 => ?_) (fun hc11 => ?_)
  · obtain ⟨a, ha, rfl⟩ := nI_ofr (by omega) hc11
    refine wp_iload_n d185_16 rfl ?_
    by_cases hx : w.toInt < 0 ∨ 4 < w.toInt
    · refine wp_tswOut d185_17 hx (tgt := 112) (by decide) ?_
      refine wp_bipush d185_112 (v := (-2 : Int32)) (by decide) ?_
      refine wp_iret d185_114 (by decide +kernel) ?_
      exact ⟨_, rfl, ag_T hI0 (r_alarm_2 hMs hCn hn hn4 ha (mem04 hx))⟩
    · obtain ⟨k0, hk0, rfl⟩ := nI_rng (n := 5) (by decide) hx
      rcases (show k0 = 0 ∨ k0 = 1 ∨ k0 = 2 ∨ k0 = 3 ∨ k0 = 4 by omega) with rfl | rfl | rfl | rfl | rfl
      · refine wp_tswIn d185_17 (by decide) (by decide) (off := 35) (by decide) (tgt := 52) (by decide) ?_
        refine wp_aload_n d185_52 rfl ?_
        refine wp_getf (e := 10) (ci := 0) (k := 0) (nest := false) d185_53 (by decide +kernel) ((hF.2.2 0 (Or.inl (by decide))).trans h0) rfl ?_
        refine wp_getf (e := 220) (ci := 1) (k := 6) (nest := true) d185_56 (by decide +kernel) (um_0 hM) rfl ?_
        refine wp_iload_n d185_59 rfl ?_
        refine wp_invvT (e := 344) (j2 := 186) (n := 1) d185_60 (by decide +kernel) (by decide +kernel) rfl rfl rfl (um_35 hM) (by decide +kernel) (Nat.le_of_ble_eq_true rfl) rfl rfl (Nat.le_of_ble_eq_true rfl) (by decide +kernel) (u_a186 hM kA (by omega) (r := a) (by omega)) ?_
        refine wp_iret d185_63 (by decide +kernel) ?_
        exact ⟨_, congrArg (fun z => some (Value.int z)) (((hKa a ha).1).symm), ag_T hI0 (r_alarm_v0 hMs hCn hn hn4 ha)⟩
      · refine wp_tswIn d185_17 (by decide) (by decide) (off := 47) (by decide) (tgt := 64) (by decide) ?_
        refine wp_aload_n d185_64 rfl ?_
        refine wp_getf (e := 10) (ci := 0) (k := 0) (nest := false) d185_65 (by decide +kernel) ((hF.2.2 0 (Or.inl (by decide))).trans h0) rfl ?_
        refine wp_getf (e := 220) (ci := 1) (k := 6) (nest := true) d185_68 (by decide +kernel) (um_0 hM) rfl ?_
        refine wp_iload_n d185_71 rfl ?_
        refine wp_invvT (e := 227) (j2 := 100) (n := 1) d185_72 (by decide +kernel) (by decide +kernel) rfl rfl rfl (um_35 hM) (by decide +kernel) (Nat.le_of_ble_eq_true rfl) rfl rfl (Nat.le_of_ble_eq_true rfl) (by decide +kernel) (u_a100 hM kA (by omega) (r := a) (by omega)) ?_
        refine wp_iret d185_75 (by decide +kernel) ?_
        exact ⟨_, congrArg (fun z => some (Value.int z)) (((hKa a ha).2.1).symm), ag_T hI0 (r_alarm_v1 hMs hCn hn hn4 ha)⟩
      · refine wp_tswIn d185_17 (by decide) (by decide) (off := 59) (by decide) (tgt := 76) (by decide) ?_
        refine wp_aload_n d185_76 rfl ?_
        refine wp_getf (e := 10) (ci := 0) (k := 0) (nest := false) d185_77 (by decide +kernel) ((hF.2.2 0 (Or.inl (by decide))).trans h0) rfl ?_
        refine wp_getf (e := 220) (ci := 1) (k := 6) (nest := true) d185_80 (by decide +kernel) (um_0 hM) rfl ?_
        refine wp_iload_n d185_83 rfl ?_
        refine wp_invvT (e := 235) (j2 := 104) (n := 1) d185_84 (by decide +kernel) (by decide +kernel) rfl rfl rfl (um_35 hM) (by decide +kernel) (Nat.le_of_ble_eq_true rfl) rfl rfl (Nat.le_of_ble_eq_true rfl) (by decide +kernel) (u_a104 hM kA (by omega) (r := a) (by omega)) ?_
        refine wp_iret d185_87 (by decide +kernel) ?_
        exact ⟨_, congrArg (fun z => some (Value.int z)) (((hKa a ha).2.2.1).symm), ag_T hI0 (r_alarm_v2 hMs hCn hn hn4 ha)⟩
      · refine wp_tswIn d185_17 (by decide) (by decide) (off := 71) (by decide) (tgt := 88) (by decide) ?_
        refine wp_aload_n d185_88 rfl ?_
        refine wp_getf (e := 10) (ci := 0) (k := 0) (nest := false) d185_89 (by decide +kernel) ((hF.2.2 0 (Or.inl (by decide))).trans h0) rfl ?_
        refine wp_getf (e := 220) (ci := 1) (k := 6) (nest := true) d185_92 (by decide +kernel) (um_0 hM) rfl ?_
        refine wp_iload_n d185_95 rfl ?_
        refine wp_invvT (e := 347) (j2 := 102) (n := 1) d185_96 (by decide +kernel) (by decide +kernel) rfl rfl rfl (um_35 hM) (by decide +kernel) (Nat.le_of_ble_eq_true rfl) rfl rfl (Nat.le_of_ble_eq_true rfl) (by decide +kernel) (u_a102 hM kA (by omega) (r := a) (by omega)) ?_
        refine wp_iret d185_99 (by decide +kernel) ?_
        exact ⟨_, congrArg (fun z => some (Value.int z)) (((hKa a ha).2.2.2.1).symm), ag_T hI0 (r_alarm_v3 hMs hCn hn hn4 ha)⟩
      · refine wp_tswIn d185_17 (by decide) (by decide) (off := 83) (by decide) (tgt := 100) (by decide) ?_
        refine wp_aload_n d185_100 rfl ?_
        refine wp_getf (e := 10) (ci := 0) (k := 0) (nest := false) d185_101 (by decide +kernel) ((hF.2.2 0 (Or.inl (by decide))).trans h0) rfl ?_
        refine wp_getf (e := 220) (ci := 1) (k := 6) (nest := true) d185_104 (by decide +kernel) (um_0 hM) rfl ?_
        refine wp_iload_n d185_107 rfl ?_
        refine wp_invvT (e := 350) (j2 := 187) (n := 1) d185_108 (by decide +kernel) (by decide +kernel) rfl rfl rfl (um_35 hM) (by decide +kernel) (Nat.le_of_ble_eq_true rfl) rfl rfl (Nat.le_of_ble_eq_true rfl) (by decide +kernel) (u_a187 hM kA (by omega) (r := a) (by omega)) ?_
        refine wp_iret d185_111 (by decide +kernel) ?_
        exact ⟨_, congrArg (fun z => some (Value.int z)) (((hKa a ha).2.2.2.2).symm), ag_T hI0 (r_alarm_v4 hMs hCn hn hn4 ha)⟩
  · refine wp_iconst d185_14 (v := (-1 : Int32)) (by decide) ?_
    refine wp_iret d185_15 (by decide +kernel) ?_
    exact ⟨_, rfl, ag_T hI0 (r_alarm_1 hMs hCn hn hn4 hc11)⟩
theorem K_g1.ord {M : Nat → Nat → Int32} {σ : Nat → Int32} {nR us g : Nat} (h : K_g1 M σ nR us g) : M 27 g = σ (192 + 10 * g + 5) := by
  obtain ⟨⟨m, h1, h2, h3⟩, -⟩ := h
  exact h3.trans h2.symm
theorem ag_guard {X : mX} {h : mH} (hI : Inv h) (x w : Int32)  : Ag X 178 280 [.int (x), .int (w)] h := by
  have hI0 := hI
  obtain ⟨V, p, q, u, v, n, hk, tl, sg, R, σ, hP, hW, hCel, hT, hMs, hCV, hn, hn4, hHi, hKe, hTx⟩ := hI
  obtain ⟨mi, nR, nD, nG, nW, nA, hC⟩ := id hCV
  obtain ⟨st, ln, hS, hUp⟩ := hW.one (k := 0) (by omega)
  obtain ⟨hCn, hKn, hKz, hKr, hKd, hKu, hKg, hKo, hKk, hKw, hKa, hKm, hKs⟩ := id hC
  obtain ⟨⟨km0, kmi2⟩, ⟨kR0, kR1, kR2⟩, ⟨kD0, kD2⟩, ⟨kG0, kG2⟩, ⟨kW0, kW2⟩, kA0, kA2⟩ := id hCn
  obtain ⟨kmi, kni, kR, kD, kG, kW, kA, klo⟩ := id hKn
  have h0 := hCel.1
  obtain ⟨⟨oc, pl, od, hT1, hT2⟩, hT3⟩ := id hT
  have hM : Mus h (bs 0) st (V 0).1 := hS.1
  have hF : Frm h h (bs 0) 43 := Frm.rf
  refine wp_aload_n d178_0 rfl ?_
  refine wp_getf (e := 10) (ci := 0) (k := 0) (nest := false) d178_1 (by decide +kernel) ((hF.2.2 0 (Or.inl (by decide))).trans h0) rfl ?_
  refine wp_getf (e := 131) (ci := 1) (k := 4) (nest := true) d178_4 (by decide +kernel) (um_0 hM) rfl ?_
  refine wp_iload_n d178_7 rfl ?_
  refine wp_invvT (e := 144) (j2 := 59) (n := 1) d178_8 (by decide +kernel) (by decide +kernel) rfl rfl rfl (um_19 hM) (by decide +kernel) (Nat.le_of_ble_eq_true rfl) rfl rfl (Nat.le_of_ble_eq_true rfl) (by decide +kernel) (u_has19 hM kG (by omega) (x)) ?_
  refine wp_ifb_ne d178_11 (tgt := 16) (by decide) (fun hc11 => ?_) (fun hc11 => ?_)
  · obtain ⟨g, hg, rfl⟩ := nI_ofr (by omega) hc11
    refine wp_iload_n d178_16 rfl ?_
    by_cases hx : w.toInt < 0 ∨ 7 < w.toInt
    · refine wp_tswOut d178_17 hx (tgt := 160) (by decide) ?_
      refine wp_bipush d178_160 (v := (-2 : Int32)) (by decide) ?_
      refine wp_iret d178_162 (by decide +kernel) ?_
      rcases (hKg g hg).parts kR2 with ⟨z1, z2, z3, z4⟩ | ⟨z1, z2, z3, z4⟩
      · exact ⟨_, congrArg (fun z => some (Value.int z)) (rfl), ag_T hI0 (r_guard_2a hMs hCn hn hn4 hg z1 hx)⟩
      · exact ⟨_, congrArg (fun z => some (Value.int z)) (rfl), ag_T hI0 (r_guard_2b hMs hCn hn hn4 hg z1 hx)⟩
    · obtain ⟨k0, hk0, rfl⟩ := nI_rng (n := 8) (by decide) hx
      rcases (show k0 = 0 ∨ k0 = 1 ∨ k0 = 2 ∨ k0 = 3 ∨ k0 = 4 ∨ k0 = 5 ∨ k0 = 6 ∨ k0 = 7 by omega) with rfl | rfl | rfl | rfl | rfl | rfl | rfl | rfl
      · refine wp_tswIn d178_17 (by decide) (by decide) (off := 47) (by decide) (tgt := 64) (by decide) ?_
        refine wp_aload_n d178_64 rfl ?_
        refine wp_getf (e := 10) (ci := 0) (k := 0) (nest := false) d178_65 (by decide +kernel) ((hF.2.2 0 (Or.inl (by decide))).trans h0) rfl ?_
        refine wp_getf (e := 131) (ci := 1) (k := 4) (nest := true) d178_68 (by decide +kernel) (um_0 hM) rfl ?_
        refine wp_iload_n d178_71 rfl ?_
        refine wp_invvT (e := 314) (j2 := 58) (n := 1) d178_72 (by decide +kernel) (by decide +kernel) rfl rfl rfl (um_19 hM) (by decide +kernel) (Nat.le_of_ble_eq_true rfl) rfl rfl (Nat.le_of_ble_eq_true rfl) (by decide +kernel) (u_a58 hM kG (by omega) (r := g) (by omega)) ?_
        refine wp_iret d178_75 (by decide +kernel) ?_
        rcases (hKg g hg).parts kR2 with ⟨z1, z2, z3, z4⟩ | ⟨z1, z2, z3, z4⟩
        · exact ⟨_, congrArg (fun z => some (Value.int z)) ((hKg g hg).at'.1.symm), ag_T hI0 (r_guard_v0a hMs hCn hn hn4 hg z1)⟩
        · exact ⟨_, congrArg (fun z => some (Value.int z)) ((hKg g hg).at'.1.symm), ag_T hI0 (r_guard_v0b hMs hCn hn hn4 hg z1)⟩
      · refine wp_tswIn d178_17 (by decide) (by decide) (off := 59) (by decide) (tgt := 76) (by decide) ?_
        refine wp_aload_n d178_76 rfl ?_
        refine wp_getf (e := 10) (ci := 0) (k := 0) (nest := false) d178_77 (by decide +kernel) ((hF.2.2 0 (Or.inl (by decide))).trans h0) rfl ?_
        refine wp_getf (e := 131) (ci := 1) (k := 4) (nest := true) d178_80 (by decide +kernel) (um_0 hM) rfl ?_
        refine wp_iload_n d178_83 rfl ?_
        refine wp_invvT (e := 315) (j2 := 61) (n := 1) d178_84 (by decide +kernel) (by decide +kernel) rfl rfl rfl (um_19 hM) (by decide +kernel) (Nat.le_of_ble_eq_true rfl) rfl rfl (Nat.le_of_ble_eq_true rfl) (by decide +kernel) (u_a61 hM kG (by omega) (r := g) (by omega)) ?_
        refine wp_iret d178_87 (by decide +kernel) ?_
        rcases (hKg g hg).parts kR2 with ⟨z1, z2, z3, z4⟩ | ⟨z1, z2, z3, z4⟩
        · exact ⟨_, congrArg (fun z => some (Value.int z)) ((hKg g hg).at'.2.symm), ag_T hI0 (r_guard_v1a hMs hCn hn hn4 hg z1)⟩
        · exact ⟨_, congrArg (fun z => some (Value.int z)) ((hKg g hg).at'.2.symm), ag_T hI0 (r_guard_v1b hMs hCn hn hn4 hg z1)⟩
      · refine wp_tswIn d178_17 (by decide) (by decide) (off := 71) (by decide) (tgt := 88) (by decide) ?_
        refine wp_aload_n d178_88 rfl ?_
        refine wp_getf (e := 10) (ci := 0) (k := 0) (nest := false) d178_89 (by decide +kernel) ((hF.2.2 0 (Or.inl (by decide))).trans h0) rfl ?_
        refine wp_getf (e := 131) (ci := 1) (k := 4) (nest := true) d178_92 (by decide +kernel) (um_0 hM) rfl ?_
        refine wp_iload_n d178_95 rfl ?_
        refine wp_invvT (e := 318) (j2 := 125) (n := 1) d178_96 (by decide +kernel) (by decide +kernel) rfl rfl rfl (um_19 hM) (by decide +kernel) (Nat.le_of_ble_eq_true rfl) rfl rfl (Nat.le_of_ble_eq_true rfl) (by decide +kernel) (u_a125 hM kG (by omega) (r := g) (by omega)) ?_
        refine wp_iret d178_99 (by decide +kernel) ?_
        rcases (hKg g hg).parts kR2 with ⟨z1, z2, z3, z4⟩ | ⟨z1, z2, z3, z4⟩
        · exact ⟨_, congrArg (fun z => some (Value.int z)) (z3), ag_T hI0 (r_guard_v2a hMs hCn hn hn4 hg z1)⟩
        · exact ⟨_, congrArg (fun z => some (Value.int z)) (z3), ag_T hI0 (r_guard_v2b hMs hCn hn hn4 hg z1)⟩
      · refine wp_tswIn d178_17 (by decide) (by decide) (off := 83) (by decide) (tgt := 100) (by decide) ?_
        refine wp_aload_n d178_100 rfl ?_
        refine wp_getf (e := 10) (ci := 0) (k := 0) (nest := false) d178_101 (by decide +kernel) ((hF.2.2 0 (Or.inl (by decide))).trans h0) rfl ?_
        refine wp_getf (e := 131) (ci := 1) (k := 4) (nest := true) d178_104 (by decide +kernel) (um_0 hM) rfl ?_
        refine wp_iload_n d178_107 rfl ?_
        refine wp_invvT (e := 175) (j2 := 79) (n := 1) d178_108 (by decide +kernel) (by decide +kernel) rfl rfl rfl (um_19 hM) (by decide +kernel) (Nat.le_of_ble_eq_true rfl) rfl rfl (Nat.le_of_ble_eq_true rfl) (by decide +kernel) (u_stayLeft hM kG (by omega) (by omega)) ?_
        refine wp_iret d178_111 (by decide +kernel) ?_
        rcases (hKg g hg).parts kR2 with ⟨z1, z2, z3, z4⟩ | ⟨z1, z2, z3, z4⟩
        · exact ⟨_, congrArg (fun z => some (Value.int z)) ((if_neg z2).trans z4), ag_T hI0 (r_guard_v3a hMs hCn hn hn4 hg z1)⟩
        · exact ⟨_, congrArg (fun z => some (Value.int z)) ((if_pos z2).trans z4.symm), ag_T hI0 (r_guard_v3b hMs hCn hn hn4 hg z1)⟩
      · refine wp_tswIn d178_17 (by decide) (by decide) (off := 95) (by decide) (tgt := 112) (by decide) ?_
        refine wp_aload_n d178_112 rfl ?_
        refine wp_getf (e := 10) (ci := 0) (k := 0) (nest := false) d178_113 (by decide +kernel) ((hF.2.2 0 (Or.inl (by decide))).trans h0) rfl ?_
        refine wp_getf (e := 131) (ci := 1) (k := 4) (nest := true) d178_116 (by decide +kernel) (um_0 hM) rfl ?_
        refine wp_iload_n d178_119 rfl ?_
        refine wp_invvT (e := 169) (j2 := 76) (n := 1) d178_120 (by decide +kernel) (by decide +kernel) rfl rfl rfl (um_19 hM) (by decide +kernel) (Nat.le_of_ble_eq_true rfl) rfl rfl (Nat.le_of_ble_eq_true rfl) (by decide +kernel) (u_a76 hM kG (by omega) (r := g) (by omega)) ?_
        refine wp_iret d178_123 (by decide +kernel) ?_
        rcases (hKg g hg).parts kR2 with ⟨z1, z2, z3, z4⟩ | ⟨z1, z2, z3, z4⟩
        · exact ⟨_, congrArg (fun z => some (Value.int z)) ((hKg g hg).ord), ag_T hI0 (r_guard_v4a hMs hCn hn hn4 hg z1)⟩
        · exact ⟨_, congrArg (fun z => some (Value.int z)) ((hKg g hg).ord), ag_T hI0 (r_guard_v4b hMs hCn hn hn4 hg z1)⟩
      · refine wp_tswIn d178_17 (by decide) (by decide) (off := 107) (by decide) (tgt := 124) (by decide) ?_
        refine wp_aload_n d178_124 rfl ?_
        refine wp_getf (e := 10) (ci := 0) (k := 0) (nest := false) d178_125 (by decide +kernel) ((hF.2.2 0 (Or.inl (by decide))).trans h0) rfl ?_
        refine wp_getf (e := 153) (ci := 1) (k := 3) (nest := true) d178_128 (by decide +kernel) (um_0 hM) rfl ?_
        refine wp_iload_n d178_131 rfl ?_
        refine wp_invvT (e := 321) (j2 := 69) (n := 1) d178_132 (by decide +kernel) (by decide +kernel) rfl rfl rfl (um_17 hM) (by decide +kernel) (Nat.le_of_ble_eq_true rfl) rfl rfl (Nat.le_of_ble_eq_true rfl) (by decide +kernel) (u_bitsOf hM (x := nI g)) ?_
        refine wp_iret d178_135 (by decide +kernel) ?_
        rcases (hKg g hg).parts kR2 with ⟨z1, z2, z3, z4⟩ | ⟨z1, z2, z3, z4⟩
        · exact ⟨_, congrArg (fun z => some (Value.int z)) (K_kb hKk hg), ag_T hI0 (r_guard_v5a hMs hCn hn hn4 hg z1)⟩
        · exact ⟨_, congrArg (fun z => some (Value.int z)) (K_kb hKk hg), ag_T hI0 (r_guard_v5b hMs hCn hn hn4 hg z1)⟩
      · refine wp_tswIn d178_17 (by decide) (by decide) (off := 119) (by decide) (tgt := 136) (by decide) ?_
        refine wp_aload_n d178_136 rfl ?_
        refine wp_getf (e := 10) (ci := 0) (k := 0) (nest := false) d178_137 (by decide +kernel) ((hF.2.2 0 (Or.inl (by decide))).trans h0) rfl ?_
        refine wp_getf (e := 131) (ci := 1) (k := 4) (nest := true) d178_140 (by decide +kernel) (um_0 hM) rfl ?_
        refine wp_iload_n d178_143 rfl ?_
        refine wp_invvT (e := 324) (j2 := 179) (n := 1) d178_144 (by decide +kernel) (by decide +kernel) rfl rfl rfl (um_19 hM) (by decide +kernel) (Nat.le_of_ble_eq_true rfl) rfl rfl (Nat.le_of_ble_eq_true rfl) (by decide +kernel) (u_a179 hM kG (by omega) (r := g) (by omega)) ?_
        refine wp_iret d178_147 (by decide +kernel) ?_
        rcases (hKg g hg).parts kR2 with ⟨z1, z2, z3, z4⟩ | ⟨z1, z2, z3, z4⟩
        · exact ⟨_, congrArg (fun z => some (Value.int z)) ((hKg g hg).2.2.1.1.symm), ag_T hI0 (r_guard_v6a hMs hCn hn hn4 hg z1)⟩
        · exact ⟨_, congrArg (fun z => some (Value.int z)) ((hKg g hg).2.2.1.1.symm), ag_T hI0 (r_guard_v6b hMs hCn hn hn4 hg z1)⟩
      · refine wp_tswIn d178_17 (by decide) (by decide) (off := 131) (by decide) (tgt := 148) (by decide) ?_
        refine wp_aload_n d178_148 rfl ?_
        refine wp_getf (e := 10) (ci := 0) (k := 0) (nest := false) d178_149 (by decide +kernel) ((hF.2.2 0 (Or.inl (by decide))).trans h0) rfl ?_
        refine wp_getf (e := 131) (ci := 1) (k := 4) (nest := true) d178_152 (by decide +kernel) (um_0 hM) rfl ?_
        refine wp_iload_n d178_155 rfl ?_
        refine wp_invvT (e := 327) (j2 := 180) (n := 1) d178_156 (by decide +kernel) (by decide +kernel) rfl rfl rfl (um_19 hM) (by decide +kernel) (Nat.le_of_ble_eq_true rfl) rfl rfl (Nat.le_of_ble_eq_true rfl) (by decide +kernel) (u_a180 hM kG (by omega) (r := g) (by omega)) ?_
        refine wp_iret d178_159 (by decide +kernel) ?_
        rcases (hKg g hg).parts kR2 with ⟨z1, z2, z3, z4⟩ | ⟨z1, z2, z3, z4⟩
        · exact ⟨_, congrArg (fun z => some (Value.int z)) ((hKg g hg).2.2.1.2.symm), ag_T hI0 (r_guard_v7a hMs hCn hn hn4 hg z1)⟩
        · exact ⟨_, congrArg (fun z => some (Value.int z)) ((hKg g hg).2.2.1.2.symm), ag_T hI0 (r_guard_v7b hMs hCn hn hn4 hg z1)⟩
  · refine wp_iconst d178_14 (v := (-1 : Int32)) (by decide) ?_
    refine wp_iret d178_15 (by decide +kernel) ?_
    exact ⟨_, rfl, ag_T hI0 (r_guard_1 hMs hCn hn hn4 hc11)⟩
theorem ag_holder {X : mX} {h : mH} (hI : Inv h) (x : Int32)  : Ag X 182 282 [.int (x)] h := by
  have hI0 := hI
  obtain ⟨V, p, q, u, v, n, hk, tl, sg, R, σ, hP, hW, hCel, hT, hMs, hCV, hn, hn4, hHi, hKe, hTx⟩ := hI
  obtain ⟨mi, nR, nD, nG, nW, nA, hC⟩ := id hCV
  obtain ⟨st, ln, hS, hUp⟩ := hW.one (k := 0) (by omega)
  obtain ⟨hCn, hKn, hKz, hKr, hKd, hKu, hKg, hKo, hKk, hKw, hKa, hKm, hKs⟩ := id hC
  obtain ⟨⟨km0, kmi2⟩, ⟨kR0, kR1, kR2⟩, ⟨kD0, kD2⟩, ⟨kG0, kG2⟩, ⟨kW0, kW2⟩, kA0, kA2⟩ := id hCn
  obtain ⟨kmi, kni, kR, kD, kG, kW, kA, klo⟩ := id hKn
  have h0 := hCel.1
  obtain ⟨⟨oc, pl, od, hT1, hT2⟩, hT3⟩ := id hT
  have hM : Mus h (bs 0) st (V 0).1 := hS.1
  have hF : Frm h h (bs 0) 43 := Frm.rf
  refine wp_iload_n d182_0 rfl ?_
  refine wp_invsT (e := 145) (j2 := 37) (n := 1) d182_1 (by decide +kernel) (by decide +kernel) rfl rfl rfl (Nat.le_of_ble_eq_true rfl) (Nat.le_of_ble_eq_true rfl) rfl rfl (Nat.le_of_ble_eq_true rfl) (by decide +kernel) (s_isKey (x)) ?_
  refine wp_ifb_eq d182_4 (tgt := 21) (by decide) (fun hc4 => ?_) (fun hc4 => ?_)
  · refine wp_iconst d182_21 (v := (-1 : Int32)) (by decide) ?_
    refine wp_iret d182_22 (by decide +kernel) ?_
    exact ⟨_, rfl, ag_T hI0 (r_holder_1 hMs hCn hn hn4 (fun z => hc4 (lt8.mpr z)))⟩
  · obtain ⟨k, hk8, rfl⟩ := nI_ofr (by omega) hc4
    refine wp_aload_n d182_7 rfl ?_
    refine wp_getf (e := 10) (ci := 0) (k := 0) (nest := false) d182_8 (by decide +kernel) ((hF.2.2 0 (Or.inl (by decide))).trans h0) rfl ?_
    refine wp_getf (e := 153) (ci := 1) (k := 3) (nest := true) d182_11 (by decide +kernel) (um_0 hM) rfl ?_
    refine wp_iload_n d182_14 rfl ?_
    refine wp_invvT (e := 157) (j2 := 67) (n := 1) d182_15 (by decide +kernel) (by decide +kernel) rfl rfl rfl (um_17 hM) (by decide +kernel) (Nat.le_of_ble_eq_true rfl) rfl rfl (Nat.le_of_ble_eq_true rfl) (by decide +kernel) (u_holderOf hM (z := k) (by omega)) ?_
    refine wp_goto d182_18 (tgt := 22) (by decide) ?_
    refine wp_iret d182_22 (by decide +kernel) ?_
    exact ⟨_, congrArg (fun z => some (Value.int z)) ((c_ho hKk kG2 hk8).symm), ag_T hI0 (r_holder hMs hCn hn hn4 hk8)⟩
theorem ag_zone {X : mX} {h : mH} (hI : Inv h) (x w : Int32)  : Ag X 175 279 [.int (x), .int (w)] h := by
  have hI0 := hI
  obtain ⟨V, p, q, u, v, n, hk, tl, sg, R, σ, hP, hW, hCel, hT, hMs, hCV, hn, hn4, hHi, hKe, hTx⟩ := hI
  obtain ⟨mi, nR, nD, nG, nW, nA, hC⟩ := id hCV
  obtain ⟨st, ln, hS, hUp⟩ := hW.one (k := 0) (by omega)
  obtain ⟨hCn, hKn, hKz, hKr, hKd, hKu, hKg, hKo, hKk, hKw, hKa, hKm, hKs⟩ := id hC
  obtain ⟨⟨km0, kmi2⟩, ⟨kR0, kR1, kR2⟩, ⟨kD0, kD2⟩, ⟨kG0, kG2⟩, ⟨kW0, kW2⟩, kA0, kA2⟩ := id hCn
  obtain ⟨kmi, kni, kR, kD, kG, kW, kA, klo⟩ := id hKn
  have h0 := hCel.1
  obtain ⟨⟨oc, pl, od, hT1, hT2⟩, hT3⟩ := id hT
  have hM : Mus h (bs 0) st (V 0).1 := hS.1
  have hF : Frm h h (bs 0) 43 := Frm.rf
  refine wp_iload_n d175_0 rfl ?_
  refine wp_invsT (e := 40) (j2 := 15) (n := 1) d175_1 (by decide +kernel) (by decide +kernel) rfl rfl rfl (Nat.le_of_ble_eq_true rfl) (Nat.le_of_ble_eq_true rfl) rfl rfl (Nat.le_of_ble_eq_true rfl) (by decide +kernel) (s_isZone (x)) ?_
  refine wp_ifb_ne d175_4 (tgt := 9) (by decide) (fun hc4 => ?_) (fun hc4 => ?_)
  · obtain ⟨z, hz, rfl⟩ := nI_ofr (by omega) hc4
    refine wp_aload_n d175_9 rfl ?_
    refine wp_getf (e := 10) (ci := 0) (k := 0) (nest := false) d175_10 (by decide +kernel) ((hF.2.2 0 (Or.inl (by decide))).trans h0) rfl ?_
    refine wp_getf (e := 95) (ci := 1) (k := 2) (nest := true) d175_13 (by decide +kernel) (um_0 hM) rfl ?_
    refine wp_iload_n d175_16 rfl ?_
    refine wp_invvT (e := 99) (j2 := 45) (n := 1) d175_17 (by decide +kernel) (by decide +kernel) rfl rfl rfl (um_15 hM) (by decide +kernel) (Nat.le_of_ble_eq_true rfl) rfl rfl (Nat.le_of_ble_eq_true rfl) (by decide +kernel) (u_isOpen hM (z := z) (by omega)) ?_
    refine wp_istore_n d175_20 (Nat.le_of_ble_eq_true rfl) rfl ?_
    refine wp_iload_n d175_21 rfl ?_
    by_cases hx : w.toInt < 0 ∨ 4 < w.toInt
    · refine wp_tswOut d175_22 hx (tgt := 123) (by decide) ?_
      refine wp_bipush d175_123 (v := (-2 : Int32)) (by decide) ?_
      refine wp_iret d175_125 (by decide +kernel) ?_
      exact ⟨_, rfl, ag_T hI0 (r_zone_2 hMs hCn hn hn4 hz hx)⟩
    · obtain ⟨k0, hk0, rfl⟩ := nI_rng (n := 5) (by decide) hx
      rcases (show k0 = 0 ∨ k0 = 1 ∨ k0 = 2 ∨ k0 = 3 ∨ k0 = 4 by omega) with rfl | rfl | rfl | rfl | rfl
      · refine wp_tswIn d175_22 (by decide) (by decide) (off := 34) (by decide) (tgt := 56) (by decide) ?_
        refine wp_iload_n d175_56 rfl ?_
        refine wp_ifb_eq d175_57 (tgt := 64) (by decide) (fun hc57 => ?_) (fun hc57 => ?_)
        · refine wp_iconst d175_64 (v := nI 0) (by decide) ?_
          refine wp_iret d175_65 (by decide +kernel) ?_
          exact ⟨_, congrArg (fun z => some (Value.int z)) (((hKz.opn hz).2.resolve_right (fun z => hc57 ((hKz.opn hz).1.mpr z))).symm), ag_T hI0 (r_zone_v0 hMs hCn hn hn4 hz)⟩
        · refine wp_iconst d175_60 (v := nI 1) (by decide) ?_
          refine wp_goto d175_61 (tgt := 65) (by decide) ?_
          refine wp_iret d175_65 (by decide +kernel) ?_
          exact ⟨_, congrArg (fun z => some (Value.int z)) (((hKz.opn hz).1.mp hc57).symm), ag_T hI0 (r_zone_v0 hMs hCn hn hn4 hz)⟩
      · refine wp_tswIn d175_22 (by decide) (by decide) (off := 44) (by decide) (tgt := 66) (by decide) ?_
        refine wp_aload_n d175_66 rfl ?_
        refine wp_getf (e := 10) (ci := 0) (k := 0) (nest := false) d175_67 (by decide +kernel) ((hF.2.2 0 (Or.inl (by decide))).trans h0) rfl ?_
        refine wp_getf (e := 95) (ci := 1) (k := 2) (nest := true) d175_70 (by decide +kernel) (um_0 hM) rfl ?_
        refine wp_iload_n d175_73 rfl ?_
        refine wp_invvT (e := 110) (j2 := 47) (n := 1) d175_74 (by decide +kernel) (by decide +kernel) rfl rfl rfl (um_15 hM) (by decide +kernel) (Nat.le_of_ble_eq_true rfl) rfl rfl (Nat.le_of_ble_eq_true rfl) (by decide +kernel) (u_excludedBy hM (z := z) (by omega)) ?_
        refine wp_iret d175_77 (by decide +kernel) ?_
        exact ⟨_, congrArg (fun z => some (Value.int z)) ((hKz.exc hz)), ag_T hI0 (r_zone_v1 hMs hCn hn hn4 hz)⟩
      · refine wp_tswIn d175_22 (by decide) (by decide) (off := 56) (by decide) (tgt := 78) (by decide) ?_
        refine wp_aload_n d175_78 rfl ?_
        refine wp_getf (e := 10) (ci := 0) (k := 0) (nest := false) d175_79 (by decide +kernel) ((hF.2.2 0 (Or.inl (by decide))).trans h0) rfl ?_
        refine wp_getf (e := 50) (ci := 1) (k := 0) (nest := true) d175_82 (by decide +kernel) (um_0 hM) rfl ?_
        refine wp_iload_n d175_85 rfl ?_
        refine wp_invvT (e := 310) (j2 := 176) (n := 1) d175_86 (by decide +kernel) (by decide +kernel) rfl rfl rfl (um_1 hM) (by decide +kernel) (Nat.le_of_ble_eq_true rfl) rfl rfl (Nat.le_of_ble_eq_true rfl) (by decide +kernel) (u_countOfZ hM kR kR2 (x := nI z)) ?_
        refine wp_iret d175_89 (by decide +kernel) ?_
        exact ⟨_, congrArg (fun z => some (Value.int z)) (congrArg nI (c_zr hKr (nI z))), ag_T hI0 (r_zone_v2 hMs hCn hn hn4 hz)⟩
      · refine wp_tswIn d175_22 (by decide) (by decide) (off := 68) (by decide) (tgt := 90) (by decide) ?_
        refine wp_aload_n d175_90 rfl ?_
        refine wp_getf (e := 10) (ci := 0) (k := 0) (nest := false) d175_91 (by decide +kernel) ((hF.2.2 0 (Or.inl (by decide))).trans h0) rfl ?_
        refine wp_iload_n d175_94 rfl ?_
        refine wp_invvT (e := 311) (j2 := 177) (n := 1) d175_95 (by decide +kernel) (by decide +kernel) rfl rfl rfl (um_0 hM) (by decide +kernel) (Nat.le_of_ble_eq_true rfl) rfl rfl (Nat.le_of_ble_eq_true rfl) (by decide +kernel) (u_guardsInZone hM kG kG2 kR kR2 (x := nI z)) ?_
        refine wp_iret d175_98 (by decide +kernel) ?_
        exact ⟨_, congrArg (fun z => some (Value.int z)) (congrArg nI (c_zg kR2 hKr hKg hz)), ag_T hI0 (r_zone_v3 hMs hCn hn hn4 hz)⟩
      · refine wp_tswIn d175_22 (by decide) (by decide) (off := 77) (by decide) (tgt := 99) (by decide) ?_
        refine wp_iload_n d175_99 rfl ?_
        refine wp_ifb_ne d175_100 (tgt := 121) (by decide) (fun hc100 => ?_) (fun hc100 => ?_)
        · refine wp_iconst d175_121 (v := nI 0) (by decide) ?_
          refine wp_iret d175_122 (by decide +kernel) ?_
          exact ⟨_, congrArg (fun z => some (Value.int z)) (m_b_f (fun q => absurd (((hKz.opn hz).1.mp hc100).symm.trans q.1) (by decide))).symm, ag_T hI0 (r_zone_v4 hMs hCn hn hn4 hz)⟩
        · refine wp_aload_n d175_103 rfl ?_
          refine wp_getf (e := 10) (ci := 0) (k := 0) (nest := false) d175_104 (by decide +kernel) ((hF.2.2 0 (Or.inl (by decide))).trans h0) rfl ?_
          refine wp_getf (e := 95) (ci := 1) (k := 2) (nest := true) d175_107 (by decide +kernel) (um_0 hM) rfl ?_
          refine wp_iload_n d175_110 rfl ?_
          refine wp_invvT (e := 118) (j2 := 52) (n := 1) d175_111 (by decide +kernel) (by decide +kernel) rfl rfl rfl (um_15 hM) (by decide +kernel) (Nat.le_of_ble_eq_true rfl) rfl rfl (Nat.le_of_ble_eq_true rfl) (by decide +kernel) (u_isBarred hM (z := z) (by omega)) ?_
          refine wp_ifb_ne d175_114 (tgt := 121) (by decide) (fun hc114 => ?_) (fun hc114 => ?_)
          · refine wp_iconst d175_121 (v := nI 0) (by decide) ?_
            refine wp_iret d175_122 (by decide +kernel) ?_
            exact ⟨_, congrArg (fun z => some (Value.int z)) (m_b_f (fun q => hc114 ((hKz.barred hz).mpr (Bool.eq_false_iff.mpr q.2)))).symm, ag_T hI0 (r_zone_v4 hMs hCn hn hn4 hz)⟩
          · refine wp_iconst d175_117 (v := nI 1) (by decide) ?_
            refine wp_goto d175_118 (tgt := 122) (by decide) ?_
            refine wp_iret d175_122 (by decide +kernel) ?_
            exact ⟨_, congrArg (fun z => some (Value.int z)) (m_b_t ⟨(hKz.opn hz).2.resolve_right (fun z => hc100 ((hKz.opn hz).1.mpr z)), Bool.eq_false_iff.mp ((hKz.barred hz).mp (Classical.byContradiction hc114))⟩).symm, ag_T hI0 (r_zone_v4 hMs hCn hn hn4 hz)⟩
  · refine wp_iconst d175_7 (v := (-1 : Int32)) (by decide) ?_
    refine wp_iret d175_8 (by decide +kernel) ?_
    exact ⟨_, rfl, ag_T hI0 (r_zone_1 hMs hCn hn hn4 (fun z => hc4 (lt6.mpr z)))⟩
def F_oo (M : Nat → Nat → Int32) (g m : Nat) (w : Int32) : Int32 := if w < nI m then M 28 (g * 12 + w.toNatClampNeg) else -5
theorem u_orderAny {X : mX} {h : mH} {B st : Nat} {M : Nat → Nat → Int32} (hM : Mus h B st M) {n : Nat} (hn : M 19 9 = nI n) (hn2 : n ≤ 4) {g : Nat} (hg : g < n) {m : Nat} (hm : M 27 g = nI m) (hm2 : m ≤ 12) {w : Int32} (hw : ¬ w < 0) : Tells X 112 [.ref (B + 19), .int (nI g), .int (w)] h (F_oo M g m w) := by
  unfold F_oo
  by_cases z : w < nI m
  · obtain ⟨k, hk, rfl⟩ := nI_ofr (by omega) ⟨Int32.not_lt.mp hw, z⟩
    rw [if_pos z, nI_nat (by omega)]
    exact u_orderOf hM hn hn2 hg hm hm2 hk
  · rw [if_neg z]
    exact u_orderOf_2 hM hn hn2 hg hm hm2 hw z
theorem K_o1.val {M : Nat → Nat → Int32} {σ : Nat → Int32} {nR g m k : Nat} (h : K_o1 M σ nR g) (hm : m ≤ 12) (h5 : σ (192 + 10 * g + 5) = nI m) (hk : k < m) : F_oo M g m (nI k) = nI 100 * σ (232 + 24 * g + 2 * k) + σ (232 + 24 * g + 2 * k + 1) := by
  obtain ⟨r, s, h1, h2, h3, h4, h6⟩ := h m hm h5 k hk
  unfold F_oo
  rw [if_pos (nI_lt hk (by omega)), nI_nat (by omega), h6, h3, h4, nI_mul, nI_add]
def F_pa (T : Nat → Int32) (c p : Nat) (x : Int32) : Int32 := if x < nI c then T ((c - 1 - x.toNatClampNeg) * 4 + p) else -5
theorem u_partAny {X : mX} {h : mH} {B st ln c : Nat} {M : Nat → Nat → Int32} {T : Nat → Int32} (hS : MusT h B st ln M T c) {p : Nat} (hp : p < 4) {x : Int32} (hx : ¬ x < 0) : Tells X 189 [.ref (B + 41), .int x, .int (nI p)] h (F_pa T c p x) := by
  have hc := hS.2.2.2.2.2.2
  unfold F_pa
  by_cases z : x < nI c
  · obtain ⟨k, hk, rfl⟩ := nI_ofr (by omega) ⟨Int32.not_lt.mp hx, z⟩
    rw [if_pos z, nI_nat (by omega)]
    exact u_partOfStay hS hk hp
  · rw [if_neg z]
    exact u_partOfStay_o hS hx (Int32.not_lt.mp z) hp
theorem c_part {T : Nat → Int32} {c p N : Nat} {σ f : Nat → Int32} (hc : c = F_sy σ N) (hN : N ≤ 2880) (hf : ∀ k, k < N → 0 < σ (1298 + k) → f k = T (4 * F_sy σ k + p)) {x : Int32} (hx : ¬ x < 0) : F_pa T c p x = F_s σ f N x := by
  have hle := F_sy_le σ N
  unfold F_pa
  by_cases z : x < nI c
  · obtain ⟨k, hk, rfl⟩ := nI_ofr (by omega) ⟨Int32.not_lt.mp hx, z⟩
    rw [if_pos z, nI_nat (by omega), c_stay hf (by omega) N (Nat.le_refl _) k (by omega), ← hc]
    congr 1
    omega
  · rw [if_neg z]
    obtain ⟨l, hl, rfl⟩ : ∃ l, l < 2 ^ 31 ∧ x = nI l := by
      have h1 := Int32.le_iff_toInt_le.mp (Int32.not_lt.mp hx)
      have h2 := Int32.toInt_lt x
      have h0 : (0 : Int32).toInt = 0 := by decide
      refine ⟨x.toInt.toNat, by omega, ?_⟩
      apply Int32.toInt_inj.mp
      rw [nI_int (by omega)]
      omega
    have : ¬ l < c := fun y => z (nI_lt y (by omega))
    exact (c_stay_no N l (by omega) hl (by omega)).symm
theorem gap_nums {f u : Int32} {mi : Nat} (h1 : ¬ f < 0) (h2 : ¬ u < f) (h3 : u ≤ nI mi) (hmi : mi ≤ 720) : ∃ lo N, lo + N ≤ mi ∧ f = nI lo ∧ u = nI (lo + N) := by
  have e1 := Int32.le_iff_toInt_le.mp (Int32.not_lt.mp h1)
  have e2 := Int32.le_iff_toInt_le.mp (Int32.not_lt.mp h2)
  have e3 := Int32.le_iff_toInt_le.mp h3
  rw [nI_int (by omega)] at e3
  have h0 : (0 : Int32).toInt = 0 := by decide
  refine ⟨f.toInt.toNat, u.toInt.toNat - f.toInt.toNat, by omega, ?_, ?_⟩
  · apply Int32.toInt_inj.mp
    rw [nI_int (by omega)]
    omega
  · apply Int32.toInt_inj.mp
    rw [nI_int (by omega)]
    omega
theorem lt4 {x : Int32} : (nI 0 ≤ x ∧ x < nI 4) ↔ (nI 0 ≤ x ∧ x ≤ nI 3) := and_congr Iff.rfl (nI_lt_le (by decide))
theorem ag_orderAt {X : mX} {h : mH} (hI : Inv h) (x w : Int32)  : Ag X 181 281 [.int (x), .int (w)] h := by
  have hI0 := hI
  obtain ⟨V, p, q, u, v, n, hk, tl, sg, R, σ, hP, hW, hCel, hT, hMs, hCV, hn, hn4, hHi, hKe, hTx⟩ := hI
  obtain ⟨mi, nR, nD, nG, nW, nA, hC⟩ := id hCV
  obtain ⟨st, ln, hS, hUp⟩ := hW.one (k := 0) (by omega)
  obtain ⟨hCn, hKn, hKz, hKr, hKd, hKu, hKg, hKo, hKk, hKw, hKa, hKm, hKs⟩ := id hC
  obtain ⟨⟨km0, kmi2⟩, ⟨kR0, kR1, kR2⟩, ⟨kD0, kD2⟩, ⟨kG0, kG2⟩, ⟨kW0, kW2⟩, kA0, kA2⟩ := id hCn
  obtain ⟨kmi, kni, kR, kD, kG, kW, kA, klo⟩ := id hKn
  have h0 := hCel.1
  obtain ⟨⟨oc, pl, od, hT1, hT2⟩, hT3⟩ := id hT
  have hM : Mus h (bs 0) st (V 0).1 := hS.1
  have hF : Frm h h (bs 0) 43 := Frm.rf
  refine wp_aload_n d181_0 rfl ?_
  refine wp_getf (e := 10) (ci := 0) (k := 0) (nest := false) d181_1 (by decide +kernel) ((hF.2.2 0 (Or.inl (by decide))).trans h0) rfl ?_
  refine wp_getf (e := 131) (ci := 1) (k := 4) (nest := true) d181_4 (by decide +kernel) (um_0 hM) rfl ?_
  refine wp_iload_n d181_7 rfl ?_
  refine wp_invvT (e := 144) (j2 := 59) (n := 1) d181_8 (by decide +kernel) (by decide +kernel) rfl rfl rfl (um_19 hM) (by decide +kernel) (Nat.le_of_ble_eq_true rfl) rfl rfl (Nat.le_of_ble_eq_true rfl) (by decide +kernel) (u_has19 hM kG (by omega) (x)) ?_
  refine wp_ifb_ne d181_11 (tgt := 16) (by decide) (fun hc11 => ?_) (fun hc11 => ?_)
  · obtain ⟨g, hg, rfl⟩ := nI_ofr (by omega) hc11
    obtain ⟨⟨m, m1, m2, m3⟩, -⟩ := hKg g hg
    refine wp_iload_n d181_16 rfl ?_
    refine wp_if_ge d181_17 (tgt := 25) (by decide) (fun hc17 => ?_) (fun hc17 => ?_)
    · refine wp_aload_n d181_25 rfl ?_
      refine wp_getf (e := 10) (ci := 0) (k := 0) (nest := false) d181_26 (by decide +kernel) ((hF.2.2 0 (Or.inl (by decide))).trans h0) rfl ?_
      refine wp_getf (e := 131) (ci := 1) (k := 4) (nest := true) d181_29 (by decide +kernel) (um_0 hM) rfl ?_
      refine wp_iload_n d181_32 rfl ?_
      refine wp_iload_n d181_33 rfl ?_
      refine wp_invvT (e := 330) (j2 := 112) (n := 2) d181_34 (by decide +kernel) (by decide +kernel) rfl rfl rfl (um_19 hM) (by decide +kernel) (Nat.le_of_ble_eq_true rfl) rfl rfl (Nat.le_of_ble_eq_true rfl) (by decide +kernel) (u_orderAny hM kG kG2 hg m3 m1 (Int32.not_lt.mpr hc17)) ?_
      refine wp_iret d181_37 (by decide +kernel) ?_
      by_cases z : w < nI m
      · obtain ⟨k, hk, rfl⟩ := nI_ofr (by omega) ⟨hc17, z⟩
        exact ⟨_, congrArg (fun z => some (Value.int z)) ((hKo g hg).val m1 m2 hk), ag_T hI0 (r_orderAt hMs hCn hn hn4 hg (by omega) (by rw [m2]; exact z))⟩
      · exact ⟨_, congrArg (fun z => some (Value.int z)) (if_neg z), ag_T hI0 (r_orderAt_3 hMs hCn hn hn4 hg hc17 (by rw [m2]; exact z))⟩
    · refine wp_bipush d181_20 (v := (-2 : Int32)) (by decide) ?_
      refine wp_goto d181_22 (tgt := 37) (by decide) ?_
      refine wp_iret d181_37 (by decide +kernel) ?_
      exact ⟨_, rfl, ag_T hI0 (r_orderAt_2 hMs hCn hn hn4 hg hc17)⟩
  · refine wp_iconst d181_14 (v := (-1 : Int32)) (by decide) ?_
    refine wp_iret d181_15 (by decide +kernel) ?_
    exact ⟨_, rfl, ag_T hI0 (r_orderAt_1 hMs hCn hn hn4 hc11)⟩
theorem ag_stay {X : mX} {h : mH} (hI : Inv h) (x w : Int32)  : Ag X 188 285 [.int (x), .int (w)] h := by
  have hI0 := hI
  obtain ⟨V, p, q, u, v, n, hk, tl, sg, R, σ, hP, hW, hCel, hT, hMs, hCV, hn, hn4, hHi, hKe, hTx⟩ := hI
  obtain ⟨mi, nR, nD, nG, nW, nA, hC⟩ := id hCV
  obtain ⟨st, ln, hS, hUp⟩ := hW.one (k := 0) (by omega)
  obtain ⟨hCn, hKn, hKz, hKr, hKd, hKu, hKg, hKo, hKk, hKw, hKa, hKm, hKs⟩ := id hC
  obtain ⟨⟨km0, kmi2⟩, ⟨kR0, kR1, kR2⟩, ⟨kD0, kD2⟩, ⟨kG0, kG2⟩, ⟨kW0, kW2⟩, kA0, kA2⟩ := id hCn
  obtain ⟨kmi, kni, kR, kD, kG, kW, kA, klo⟩ := id hKn
  have h0 := hCel.1
  obtain ⟨⟨oc, pl, od, hT1, hT2⟩, hT3⟩ := id hT
  have hM : Mus h (bs 0) st (V 0).1 := hS.1
  have hF : Frm h h (bs 0) 43 := Frm.rf
  refine wp_iload_n d188_0 rfl ?_
  refine wp_if_lt d188_1 (tgt := 13) (by decide) (fun hc1 => ?_) (fun hc1 => ?_)
  · refine wp_bipush d188_13 (v := (-2 : Int32)) (by decide) ?_
    refine wp_iret d188_15 (by decide +kernel) ?_
    exact ⟨_, rfl, ag_T hI0 (r_stay_1 hMs hCn hn hn4 hc1)⟩
  · refine wp_iload_n d188_4 rfl ?_
    refine wp_iconst d188_5 (v := nI 0) (by decide) ?_
    refine wp_iconst d188_6 (v := nI 3) (by decide) ?_
    refine wp_invsT (e := 46) (j2 := 16) (n := 3) d188_7 (by decide +kernel) (by decide +kernel) rfl rfl rfl (Nat.le_of_ble_eq_true rfl) (Nat.le_of_ble_eq_true rfl) rfl rfl (Nat.le_of_ble_eq_true rfl) (by decide +kernel) (s_within (w) (nI 0) (nI 3)) ?_
    refine wp_ifb_ne d188_10 (tgt := 16) (by decide) (fun hc10 => ?_) (fun hc10 => ?_)
    · obtain ⟨p0, hp0, rfl⟩ := nI_ofr (by omega) (lt4.mpr hc10)
      refine wp_aload_n d188_16 rfl ?_
      refine wp_getf (e := 10) (ci := 0) (k := 0) (nest := false) d188_17 (by decide +kernel) ((hF.2.2 0 (Or.inl (by decide))).trans h0) rfl ?_
      refine wp_getf (e := 355) (ci := 1) (k := 7) (nest := true) d188_20 (by decide +kernel) (um_0 hM) rfl ?_
      refine wp_iload_n d188_23 rfl ?_
      refine wp_iload_n d188_24 rfl ?_
      refine wp_invvT (e := 359) (j2 := 189) (n := 2) d188_25 (by decide +kernel) (by decide +kernel) rfl rfl rfl (um_41 hM) (by decide +kernel) (Nat.le_of_ble_eq_true rfl) rfl rfl (Nat.le_of_ble_eq_true rfl) (by decide +kernel) (u_partAny hS hp0 hc1) ?_
      refine wp_iret d188_28 (by decide +kernel) ?_
      rcases (show p0 = 0 ∨ p0 = 1 ∨ p0 = 2 ∨ p0 = 3 by omega) with rfl | rfl | rfl | rfl
      · exact ⟨_, congrArg (fun z => some (Value.int z)) (c_part hKs.1 (by omega) hKs.f0 hc1), ag_T hI0 (r_stay_v0 hMs hCn hn hn4 hc1)⟩
      · exact ⟨_, congrArg (fun z => some (Value.int z)) (c_part hKs.1 (by omega) hKs.f1 hc1), ag_T hI0 (r_stay_v1 hMs hCn hn hn4 hc1)⟩
      · exact ⟨_, congrArg (fun z => some (Value.int z)) (c_part hKs.1 (by omega) hKs.f2 hc1), ag_T hI0 (r_stay_v2 hMs hCn hn hn4 hc1)⟩
      · exact ⟨_, congrArg (fun z => some (Value.int z)) (c_part hKs.1 (by omega) hKs.f3 hc1), ag_T hI0 (r_stay_v3 hMs hCn hn hn4 hc1)⟩
    · refine wp_bipush d188_13 (v := (-2 : Int32)) (by decide) ?_
      refine wp_iret d188_15 (by decide +kernel) ?_
      exact ⟨_, rfl, ag_T hI0 (r_stay_2 hMs hCn hn hn4 hc1 hc10)⟩
theorem ag_gap {X : mX} {h : mH} (hI : Inv h) (x f9 u9 : Int32)  : Ag X 190 286 [.int (x), .int (f9), .int (u9)] h := by
  have hI0 := hI
  obtain ⟨V, p, q, u, v, n, hk, tl, sg, R, σ, hP, hW, hCel, hT, hMs, hCV, hn, hn4, hHi, hKe, hTx⟩ := hI
  obtain ⟨mi, nR, nD, nG, nW, nA, hC⟩ := id hCV
  obtain ⟨st, ln, hS, hUp⟩ := hW.one (k := 0) (by omega)
  obtain ⟨hCn, hKn, hKz, hKr, hKd, hKu, hKg, hKo, hKk, hKw, hKa, hKm, hKs⟩ := id hC
  obtain ⟨⟨km0, kmi2⟩, ⟨kR0, kR1, kR2⟩, ⟨kD0, kD2⟩, ⟨kG0, kG2⟩, ⟨kW0, kW2⟩, kA0, kA2⟩ := id hCn
  obtain ⟨kmi, kni, kR, kD, kG, kW, kA, klo⟩ := id hKn
  have h0 := hCel.1
  obtain ⟨⟨oc, pl, od, hT1, hT2⟩, hT3⟩ := id hT
  have hM : Mus h (bs 0) st (V 0).1 := hS.1
  have hF : Frm h h (bs 0) 43 := Frm.rf
  refine wp_aload_n d190_0 rfl ?_
  refine wp_getf (e := 10) (ci := 0) (k := 0) (nest := false) d190_1 (by decide +kernel) ((hF.2.2 0 (Or.inl (by decide))).trans h0) rfl ?_
  refine wp_getf (e := 50) (ci := 1) (k := 0) (nest := true) d190_4 (by decide +kernel) (um_0 hM) rfl ?_
  refine wp_iload_n d190_7 rfl ?_
  refine wp_invvT (e := 68) (j2 := 35) (n := 1) d190_8 (by decide +kernel) (by decide +kernel) rfl rfl rfl (um_1 hM) (by decide +kernel) (Nat.le_of_ble_eq_true rfl) rfl rfl (Nat.le_of_ble_eq_true rfl) (by decide +kernel) (u_has1 hM kR (by omega) (x)) ?_
  refine wp_ifb_ne d190_11 (tgt := 16) (by decide) (fun hc11 => ?_) (fun hc11 => ?_)
  · refine wp_iload_n d190_16 rfl ?_
    refine wp_if_lt d190_17 (tgt := 36) (by decide) (fun hc17 => ?_) (fun hc17 => ?_)
    · refine wp_bipush d190_36 (v := (-2 : Int32)) (by decide) ?_
      refine wp_iret d190_38 (by decide +kernel) ?_
      exact ⟨_, rfl, ag_T hI0 (r_gap_2 hMs hCn hn hn4 hc11 hc17)⟩
    · refine wp_iload_n d190_20 rfl ?_
      refine wp_iload_n d190_21 rfl ?_
      refine wp_icmp_lt d190_22 (tgt := 36) (by decide) (fun hc22 => ?_) (fun hc22 => ?_)
      · refine wp_bipush d190_36 (v := (-2 : Int32)) (by decide) ?_
        refine wp_iret d190_38 (by decide +kernel) ?_
        exact ⟨_, rfl, ag_T hI0 (r_gap_3 hMs hCn hn hn4 hc11 hc17 hc22)⟩
      · refine wp_iload_n d190_25 rfl ?_
        refine wp_aload_n d190_26 rfl ?_
        refine wp_getf (e := 10) (ci := 0) (k := 0) (nest := false) d190_27 (by decide +kernel) ((hF.2.2 0 (Or.inl (by decide))).trans h0) rfl ?_
        refine wp_getf (e := 138) (ci := 1) (k := 8) (nest := true) (v := .int (nI mi)) d190_30 (by decide +kernel) (um_0 hM) (congrArg (fun z => some (Value.int z)) kmi) ?_
        refine wp_icmp_le d190_33 (tgt := 39) (by decide) (fun hc33 => ?_) (fun hc33 => ?_)
        · obtain ⟨lo, N, hlN, rfl, rfl⟩ := gap_nums hc17 hc22 hc33 kmi2
          refine wp_aload_n d190_39 rfl ?_
          refine wp_getf (e := 10) (ci := 0) (k := 0) (nest := false) d190_40 (by decide +kernel) ((hF.2.2 0 (Or.inl (by decide))).trans h0) rfl ?_
          refine wp_getf (e := 355) (ci := 1) (k := 7) (nest := true) d190_43 (by decide +kernel) (um_0 hM) rfl ?_
          refine wp_iload_n d190_46 rfl ?_
          refine wp_iload_n d190_47 rfl ?_
          refine wp_iload_n d190_48 rfl ?_
          refine wp_invvT (e := 362) (j2 := 191) (n := 3) d190_49 (by decide +kernel) (by decide +kernel) rfl rfl rfl (um_41 hM) (by decide +kernel) (Nat.le_of_ble_eq_true rfl) rfl rfl (Nat.le_of_ble_eq_true rfl) (by decide +kernel) (u_gap hM (x := x) (by omega)) ?_
          refine wp_iret d190_52 (by decide +kernel) ?_
          exact ⟨_, congrArg (fun z => some (Value.int z)) (c_gap hKm x lo N hlN), ag_T hI0 (r_gap hMs hCn hn hn4 hc11 hlN)⟩
        · refine wp_bipush d190_36 (v := (-2 : Int32)) (by decide) ?_
          refine wp_iret d190_38 (by decide +kernel) ?_
          exact ⟨_, rfl, ag_T hI0 (r_gap_4 hMs hCn hn hn4 hc11 hc17 hc22 hc33)⟩
  · refine wp_iconst d190_14 (v := (-1 : Int32)) (by decide) ?_
    refine wp_iret d190_15 (by decide +kernel) ?_
    exact ⟨_, rfl, ag_T hI0 (r_gap_1 hMs hCn hn hn4 hc11)⟩
theorem ag_firstDue {X : mX} {h : mH} (hI : Inv h)   : Ag X 197 288 [] h := by
  have hI0 := hI
  obtain ⟨V, p, q, u, v, n, hk, tl, sg, R, σ, hP, hW, hCel, hT, hMs, hCV, hn, hn4, hHi, hKe, hTx⟩ := hI
  obtain ⟨mi, nR, nD, nG, nW, nA, hC⟩ := id hCV
  obtain ⟨st, ln, hS, hUp⟩ := hW.one (k := 0) (by omega)
  obtain ⟨hCn, hKn, hKz, hKr, hKd, hKu, hKg, hKo, hKk, hKw, hKa, hKm, hKs⟩ := id hC
  obtain ⟨⟨km0, kmi2⟩, ⟨kR0, kR1, kR2⟩, ⟨kD0, kD2⟩, ⟨kG0, kG2⟩, ⟨kW0, kW2⟩, kA0, kA2⟩ := id hCn
  obtain ⟨kmi, kni, kR, kD, kG, kW, kA, klo⟩ := id hKn
  have h0 := hCel.1
  obtain ⟨⟨oc, pl, od, hT1, hT2⟩, hT3⟩ := id hT
  have hM : Mus h (bs 0) st (V 0).1 := hS.1
  have hF : Frm h h (bs 0) 43 := Frm.rf
  refine wp_aload_n d197_0 rfl ?_
  refine wp_getf (e := 10) (ci := 0) (k := 0) (nest := false) d197_1 (by decide +kernel) ((hF.2.2 0 (Or.inl (by decide))).trans h0) rfl ?_
  refine wp_getf (e := 50) (ci := 1) (k := 0) (nest := true) d197_4 (by decide +kernel) (um_0 hM) rfl ?_
  refine wp_invvT (e := 368) (j2 := 198) (n := 0) d197_7 (by decide +kernel) (by decide +kernel) rfl rfl rfl (um_1 hM) (by decide +kernel) (Nat.le_of_ble_eq_true rfl) rfl rfl (Nat.le_of_ble_eq_true rfl) (by decide +kernel) (u_firstDue hM kR kR2) ?_
  refine wp_iret d197_10 (by decide +kernel) ?_
  exact ⟨_, congrArg (fun z => some (Value.int z)) (c_due' hKr kmi2 kR2), ag_T hI0 (r_firstDue hMs hCn hn hn4)⟩
theorem u_hsize {X : mX} {h : mH} {a : Nat} {x y z w : Value} {n : Nat} (hH : m_get h a = some (.inr (10, [x, y, z, w, .int (nI n)]))) : Tells X 161 [.ref a] h (nI n) := by
  refine wp_aload_n d161_0 rfl ?_
  refine wp_getf (e := 27) (ci := 10) (k := 4) (nest := false) d161_1 (by decide +kernel) hH rfl ?_
  refine wp_iret d161_4 (by decide +kernel) ?_
  exact ⟨rfl, rfl⟩
theorem u_tlen {X : mX} {h : mH} {a : Nat} {x y z w : Value} {n : Nat} (hH : m_get h a = some (.inr (11, [x, .int (nI n), y, z, w]))) : Tells X 147 [.ref a] h (nI n) := by
  refine wp_aload_n d147_0 rfl ?_
  refine wp_getf (e := 15) (ci := 11) (k := 1) (nest := false) d147_1 (by decide +kernel) hH rfl ?_
  refine wp_iret d147_4 (by decide +kernel) ?_
  exact ⟨rfl, rfl⟩
theorem ag_count {X : mX} {h : mH} (hI : Inv h) (w : Int32)  : Ag X 200 290 [.int (w)] h := by
  have hI0 := hI
  obtain ⟨V, p, q, u, v, n, hk, tl, sg, R, σ, hP, hW, hCel, hT, hMs, hCV, hn, hn4, hHi, hKe, hTx⟩ := hI
  obtain ⟨mi, nR, nD, nG, nW, nA, hC⟩ := id hCV
  obtain ⟨st, ln, hS, hUp⟩ := hW.one (k := 0) (by omega)
  obtain ⟨hCn, hKn, hKz, hKr, hKd, hKu, hKg, hKo, hKk, hKw, hKa, hKm, hKs⟩ := id hC
  obtain ⟨⟨km0, kmi2⟩, ⟨kR0, kR1, kR2⟩, ⟨kD0, kD2⟩, ⟨kG0, kG2⟩, ⟨kW0, kW2⟩, kA0, kA2⟩ := id hCn
  obtain ⟨kmi, kni, kR, kD, kG, kW, kA, klo⟩ := id hKn
  have h0 := hCel.1
  obtain ⟨⟨oc, pl, od, hT1, hT2⟩, hT3⟩ := id hT
  have hM : Mus h (bs 0) st (V 0).1 := hS.1
  have hF : Frm h h (bs 0) 43 := Frm.rf
  refine wp_iload_n d200_0 rfl ?_
  by_cases hx : w.toInt < 0 ∨ 15 < w.toInt
  · refine wp_tswOut d200_1 hx (tgt := 244) (by decide) ?_
    refine wp_bipush d200_244 (v := (-2 : Int32)) (by decide) ?_
    refine wp_iret d200_246 (by decide +kernel) ?_
    exact ⟨_, rfl, ag_T hI0 (r_count_1 hMs hCn hn hn4 hx)⟩
  · obtain ⟨k0, hk0, rfl⟩ := nI_rng (n := 16) (by decide) hx
    rcases (show k0 = 0 ∨ k0 = 1 ∨ k0 = 2 ∨ k0 = 3 ∨ k0 = 4 ∨ k0 = 5 ∨ k0 = 6 ∨ k0 = 7 ∨ k0 = 8 ∨ k0 = 9 ∨ k0 = 10 ∨ k0 = 11 ∨ k0 = 12 ∨ k0 = 13 ∨ k0 = 14 ∨ k0 = 15 by omega) with rfl | rfl | rfl | rfl | rfl | rfl | rfl | rfl | rfl | rfl | rfl | rfl | rfl | rfl | rfl | rfl
    · refine wp_tswIn d200_1 (by decide) (by decide) (off := 79) (by decide) (tgt := 80) (by decide) ?_
      refine wp_aload_n d200_80 rfl ?_
      refine wp_getf (e := 10) (ci := 0) (k := 0) (nest := false) d200_81 (by decide +kernel) ((hF.2.2 0 (Or.inl (by decide))).trans h0) rfl ?_
      refine wp_getf (e := 138) (ci := 1) (k := 8) (nest := true) (v := .int (nI mi)) d200_84 (by decide +kernel) (um_0 hM) (congrArg (fun z => some (Value.int z)) kmi) ?_
      refine wp_iret d200_87 (by decide +kernel) ?_
      exact ⟨_, congrArg (fun z => some (Value.int z)) (km0.symm), ag_T hI0 (r_count_v0 hMs hCn hn hn4)⟩
    · refine wp_tswIn d200_1 (by decide) (by decide) (off := 87) (by decide) (tgt := 88) (by decide) ?_
      refine wp_aload_n d200_88 rfl ?_
      refine wp_getf (e := 10) (ci := 0) (k := 0) (nest := false) d200_89 (by decide +kernel) ((hF.2.2 0 (Or.inl (by decide))).trans h0) rfl ?_
      refine wp_getf (e := 247) (ci := 1) (k := 9) (nest := true) d200_92 (by decide +kernel) (um_0 hM) rfl ?_
      refine wp_iret d200_95 (by decide +kernel) ?_
      exact ⟨_, congrArg (fun z => some (Value.int z)) (kni), ag_T hI0 (r_count_v1 hMs hCn hn hn4)⟩
    · refine wp_tswIn d200_1 (by decide) (by decide) (off := 95) (by decide) (tgt := 96) (by decide) ?_
      refine wp_aload_n d200_96 rfl ?_
      refine wp_getf (e := 10) (ci := 0) (k := 0) (nest := false) d200_97 (by decide +kernel) ((hF.2.2 0 (Or.inl (by decide))).trans h0) rfl ?_
      refine wp_getf (e := 50) (ci := 1) (k := 0) (nest := true) d200_100 (by decide +kernel) (um_0 hM) rfl ?_
      refine wp_invvT (e := 54) (j2 := 17) (n := 0) d200_103 (by decide +kernel) (by decide +kernel) rfl rfl rfl (um_1 hM) (by decide +kernel) (Nat.le_of_ble_eq_true rfl) rfl rfl (Nat.le_of_ble_eq_true rfl) (by decide +kernel) (u_size1 hM kR (by omega)) ?_
      refine wp_iret d200_106 (by decide +kernel) ?_
      exact ⟨_, congrArg (fun z => some (Value.int z)) (kR0.symm), ag_T hI0 (r_count_v2 hMs hCn hn hn4)⟩
    · refine wp_tswIn d200_1 (by decide) (by decide) (off := 106) (by decide) (tgt := 107) (by decide) ?_
      refine wp_aload_n d200_107 rfl ?_
      refine wp_getf (e := 10) (ci := 0) (k := 0) (nest := false) d200_108 (by decide +kernel) ((hF.2.2 0 (Or.inl (by decide))).trans h0) rfl ?_
      refine wp_getf (e := 74) (ci := 1) (k := 1) (nest := true) d200_111 (by decide +kernel) (um_0 hM) rfl ?_
      refine wp_invvT (e := 83) (j2 := 39) (n := 0) d200_114 (by decide +kernel) (by decide +kernel) rfl rfl rfl (um_8 hM) (by decide +kernel) (Nat.le_of_ble_eq_true rfl) rfl rfl (Nat.le_of_ble_eq_true rfl) (by decide +kernel) (u_size8 hM kD (by omega)) ?_
      refine wp_iret d200_117 (by decide +kernel) ?_
      exact ⟨_, congrArg (fun z => some (Value.int z)) (kD0.symm), ag_T hI0 (r_count_v3 hMs hCn hn hn4)⟩
    · refine wp_tswIn d200_1 (by decide) (by decide) (off := 117) (by decide) (tgt := 118) (by decide) ?_
      refine wp_aload_n d200_118 rfl ?_
      refine wp_getf (e := 10) (ci := 0) (k := 0) (nest := false) d200_119 (by decide +kernel) ((hF.2.2 0 (Or.inl (by decide))).trans h0) rfl ?_
      refine wp_getf (e := 131) (ci := 1) (k := 4) (nest := true) d200_122 (by decide +kernel) (um_0 hM) rfl ?_
      refine wp_invvT (e := 135) (j2 := 57) (n := 0) d200_125 (by decide +kernel) (by decide +kernel) rfl rfl rfl (um_19 hM) (by decide +kernel) (Nat.le_of_ble_eq_true rfl) rfl rfl (Nat.le_of_ble_eq_true rfl) (by decide +kernel) (u_size19 hM kG (by omega)) ?_
      refine wp_iret d200_128 (by decide +kernel) ?_
      exact ⟨_, congrArg (fun z => some (Value.int z)) (kG0.symm), ag_T hI0 (r_count_v4 hMs hCn hn hn4)⟩
    · refine wp_tswIn d200_1 (by decide) (by decide) (off := 128) (by decide) (tgt := 129) (by decide) ?_
      refine wp_aload_n d200_129 rfl ?_
      refine wp_getf (e := 10) (ci := 0) (k := 0) (nest := false) d200_130 (by decide +kernel) ((hF.2.2 0 (Or.inl (by decide))).trans h0) rfl ?_
      refine wp_getf (e := 188) (ci := 1) (k := 5) (nest := true) d200_133 (by decide +kernel) (um_0 hM) rfl ?_
      refine wp_invvT (e := 192) (j2 := 84) (n := 0) d200_136 (by decide +kernel) (by decide +kernel) rfl rfl rfl (um_29 hM) (by decide +kernel) (Nat.le_of_ble_eq_true rfl) rfl rfl (Nat.le_of_ble_eq_true rfl) (by decide +kernel) (u_size29 hM kW (by omega)) ?_
      refine wp_iret d200_139 (by decide +kernel) ?_
      exact ⟨_, congrArg (fun z => some (Value.int z)) (kW0.symm), ag_T hI0 (r_count_v5 hMs hCn hn hn4)⟩
    · refine wp_tswIn d200_1 (by decide) (by decide) (off := 139) (by decide) (tgt := 140) (by decide) ?_
      refine wp_aload_n d200_140 rfl ?_
      refine wp_getf (e := 10) (ci := 0) (k := 0) (nest := false) d200_141 (by decide +kernel) ((hF.2.2 0 (Or.inl (by decide))).trans h0) rfl ?_
      refine wp_getf (e := 188) (ci := 1) (k := 5) (nest := true) d200_144 (by decide +kernel) (um_0 hM) rfl ?_
      refine wp_invvT (e := 371) (j2 := 201) (n := 0) d200_147 (by decide +kernel) (by decide +kernel) rfl rfl rfl (um_29 hM) (by decide +kernel) (Nat.le_of_ble_eq_true rfl) rfl rfl (Nat.le_of_ble_eq_true rfl) (by decide +kernel) (u_troubledCount hM kW kW2) ?_
      refine wp_iret d200_150 (by decide +kernel) ?_
      exact ⟨_, congrArg (fun z => some (Value.int z)) (congrArg nI (c_ct hKw)), ag_T hI0 (r_count_v6 hMs hCn hn hn4)⟩
    · refine wp_tswIn d200_1 (by decide) (by decide) (off := 150) (by decide) (tgt := 151) (by decide) ?_
      refine wp_aload_n d200_151 rfl ?_
      refine wp_getf (e := 10) (ci := 0) (k := 0) (nest := false) d200_152 (by decide +kernel) ((hF.2.2 0 (Or.inl (by decide))).trans h0) rfl ?_
      refine wp_getf (e := 220) (ci := 1) (k := 6) (nest := true) d200_155 (by decide +kernel) (um_0 hM) rfl ?_
      refine wp_invvT (e := 374) (j2 := 202) (n := 0) d200_158 (by decide +kernel) (by decide +kernel) rfl rfl rfl (um_35 hM) (by decide +kernel) (Nat.le_of_ble_eq_true rfl) rfl rfl (Nat.le_of_ble_eq_true rfl) (by decide +kernel) (u_size35 hM kA (by omega)) ?_
      refine wp_iret d200_161 (by decide +kernel) ?_
      exact ⟨_, rfl, ag_T hI0 (r_count_v7 hMs hCn hn hn4)⟩
    · refine wp_tswIn d200_1 (by decide) (by decide) (off := 161) (by decide) (tgt := 162) (by decide) ?_
      refine wp_aload_n d200_162 rfl ?_
      refine wp_getf (e := 10) (ci := 0) (k := 0) (nest := false) d200_163 (by decide +kernel) ((hF.2.2 0 (Or.inl (by decide))).trans h0) rfl ?_
      refine wp_getf (e := 220) (ci := 1) (k := 6) (nest := true) d200_166 (by decide +kernel) (um_0 hM) rfl ?_
      refine wp_invvT (e := 375) (j2 := 203) (n := 0) d200_169 (by decide +kernel) (by decide +kernel) rfl rfl rfl (um_35 hM) (by decide +kernel) (Nat.le_of_ble_eq_true rfl) rfl rfl (Nat.le_of_ble_eq_true rfl) (by decide +kernel) (u_openCountA hM kA kA2) ?_
      refine wp_iret d200_172 (by decide +kernel) ?_
      exact ⟨_, congrArg (fun z => some (Value.int z)) (congrArg nI (c_co hKa)), ag_T hI0 (r_count_v8 hMs hCn hn hn4)⟩
    · refine wp_tswIn d200_1 (by decide) (by decide) (off := 172) (by decide) (tgt := 173) (by decide) ?_
      refine wp_aload_n d200_173 rfl ?_
      refine wp_getf (e := 10) (ci := 0) (k := 0) (nest := false) d200_174 (by decide +kernel) ((hF.2.2 0 (Or.inl (by decide))).trans h0) rfl ?_
      refine wp_getf (e := 220) (ci := 1) (k := 6) (nest := true) d200_177 (by decide +kernel) (um_0 hM) rfl ?_
      refine wp_invvT (e := 376) (j2 := 204) (n := 0) d200_180 (by decide +kernel) (by decide +kernel) rfl rfl rfl (um_35 hM) (by decide +kernel) (Nat.le_of_ble_eq_true rfl) rfl rfl (Nat.le_of_ble_eq_true rfl) (by decide +kernel) (u_f204 hM) ?_
      refine wp_iret d200_183 (by decide +kernel) ?_
      exact ⟨_, congrArg (fun z => some (Value.int z)) (klo), ag_T hI0 (r_count_v9 hMs hCn hn hn4)⟩
    · refine wp_tswIn d200_1 (by decide) (by decide) (off := 183) (by decide) (tgt := 184) (by decide) ?_
      refine wp_aload_n d200_184 rfl ?_
      refine wp_getf (e := 10) (ci := 0) (k := 0) (nest := false) d200_185 (by decide +kernel) ((hF.2.2 0 (Or.inl (by decide))).trans h0) rfl ?_
      refine wp_getf (e := 95) (ci := 1) (k := 2) (nest := true) d200_188 (by decide +kernel) (um_0 hM) rfl ?_
      refine wp_invvT (e := 125) (j2 := 54) (n := 0) d200_191 (by decide +kernel) (by decide +kernel) rfl rfl rfl (um_15 hM) (by decide +kernel) (Nat.le_of_ble_eq_true rfl) rfl rfl (Nat.le_of_ble_eq_true rfl) (by decide +kernel) (u_openCount hM) ?_
      refine wp_iret d200_194 (by decide +kernel) ?_
      exact ⟨_, congrArg (fun z => some (Value.int z)) (hKz.count), ag_T hI0 (r_count_v10 hMs hCn hn hn4)⟩
    · refine wp_tswIn d200_1 (by decide) (by decide) (off := 194) (by decide) (tgt := 195) (by decide) ?_
      refine wp_aload_n d200_195 rfl ?_
      refine wp_getf (e := 10) (ci := 0) (k := 0) (nest := false) d200_196 (by decide +kernel) ((hF.2.2 0 (Or.inl (by decide))).trans h0) rfl ?_
      refine wp_getf (e := 153) (ci := 1) (k := 3) (nest := true) d200_199 (by decide +kernel) (um_0 hM) rfl ?_
      refine wp_invvT (e := 241) (j2 := 138) (n := 0) d200_202 (by decide +kernel) (by decide +kernel) rfl rfl rfl (um_17 hM) (by decide +kernel) (Nat.le_of_ble_eq_true rfl) rfl rfl (Nat.le_of_ble_eq_true rfl) (by decide +kernel) (u_outCount hM) ?_
      refine wp_iret d200_205 (by decide +kernel) ?_
      exact ⟨_, congrArg (fun z => some (Value.int z)) (c_ko hKk kG2), ag_T hI0 (r_count_v11 hMs hCn hn hn4)⟩
    · refine wp_tswIn d200_1 (by decide) (by decide) (off := 205) (by decide) (tgt := 206) (by decide) ?_
      refine wp_aload_n d200_206 rfl ?_
      refine wp_getf (e := 10) (ci := 0) (k := 0) (nest := false) d200_207 (by decide +kernel) ((hF.2.2 0 (Or.inl (by decide))).trans h0) rfl ?_
      refine wp_getf (e := 355) (ci := 1) (k := 7) (nest := true) d200_210 (by decide +kernel) (um_0 hM) rfl ?_
      refine wp_invvT (e := 379) (j2 := 205) (n := 0) d200_213 (by decide +kernel) (by decide +kernel) rfl rfl rfl (um_41 hM) (by decide +kernel) (Nat.le_of_ble_eq_true rfl) rfl rfl (Nat.le_of_ble_eq_true rfl) (by decide +kernel) (u_f205 hM) ?_
      refine wp_iret d200_216 (by decide +kernel) ?_
      exact ⟨_, congrArg (fun z => some (Value.int z)) (hS.2.2.2.2.2.1.trans (congrArg nI hKs.1)), ag_T hI0 (r_count_v12 hMs hCn hn hn4)⟩
    · refine wp_tswIn d200_1 (by decide) (by decide) (off := 216) (by decide) (tgt := 217) (by decide) ?_
      refine wp_aload_n d200_217 rfl ?_
      refine wp_getf (e := 10) (ci := 0) (k := 0) (nest := false) d200_218 (by decide +kernel) ((hF.2.2 0 (Or.inl (by decide))).trans h0) rfl ?_
      refine wp_getf (e := 131) (ci := 1) (k := 4) (nest := true) d200_221 (by decide +kernel) (um_0 hM) rfl ?_
      refine wp_invvT (e := 382) (j2 := 206) (n := 0) d200_224 (by decide +kernel) (by decide +kernel) rfl rfl rfl (um_19 hM) (by decide +kernel) (Nat.le_of_ble_eq_true rfl) rfl rfl (Nat.le_of_ble_eq_true rfl) (by decide +kernel) (u_haltCount hM kG kG2) ?_
      refine wp_iret d200_227 (by decide +kernel) ?_
      exact ⟨_, congrArg (fun z => some (Value.int z)) (c_hu hKg), ag_T hI0 (r_count_v13 hMs hCn hn hn4)⟩
    · refine wp_tswIn d200_1 (by decide) (by decide) (off := 227) (by decide) (tgt := 228) (by decide) ?_
      refine wp_aload_n d200_228 rfl ?_
      refine wp_getf (e := 25) (ci := 0) (k := 3) (nest := false) d200_229 (by decide +kernel) ((hF.2.2 0 (Or.inl (by decide))).trans h0) rfl ?_
      refine wp_invvT (e := 271) (j2 := 161) (n := 0) d200_232 (by decide +kernel) (by decide +kernel) rfl rfl rfl hCel.2 (by decide +kernel) (Nat.le_of_ble_eq_true rfl) rfl rfl (Nat.le_of_ble_eq_true rfl) (by decide +kernel) (u_hsize hCel.2) ?_
      refine wp_iret d200_235 (by decide +kernel) ?_
      exact ⟨_, rfl, ag_T hI0 (r_count_v14 hMs hCn hn hn4)⟩
    · refine wp_tswIn d200_1 (by decide) (by decide) (off := 235) (by decide) (tgt := 236) (by decide) ?_
      refine wp_aload_n d200_236 rfl ?_
      refine wp_getf (e := 32) (ci := 0) (k := 4) (nest := false) d200_237 (by decide +kernel) ((hF.2.2 0 (Or.inl (by decide))).trans h0) rfl ?_
      refine wp_invvT (e := 250) (j2 := 147) (n := 0) d200_240 (by decide +kernel) (by decide +kernel) rfl rfl rfl hT1 (by decide +kernel) (Nat.le_of_ble_eq_true rfl) rfl rfl (Nat.le_of_ble_eq_true rfl) (by decide +kernel) (u_tlen hT1) ?_
      refine wp_iret d200_243 (by decide +kernel) ?_
      exact ⟨_, rfl, ag_T hI0 (r_count_v15 hMs hCn hn hn4 hTx.2.1)⟩
