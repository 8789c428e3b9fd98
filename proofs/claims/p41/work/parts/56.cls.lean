/-! The class: parts of a museum are copied. -/
theorem d20_0 : decode (m_code 20) 0 = .ok (.aload_n 0, 1) := by decide +kernel
theorem d20_1 : decode (m_code 20) 1 = .ok (.aload_n 1, 1) := by decide +kernel
theorem d20_2 : decode (m_code 20) 2 = .ok (.getfield 30, 3) := by decide +kernel
theorem d20_5 : decode (m_code 20) 5 = .ok (.putfield 30, 3) := by decide +kernel
theorem d20_8 : decode (m_code 20) 8 = .ok (.aload_n 1, 1) := by decide +kernel
theorem d20_9 : decode (m_code 20) 9 = .ok (.getfield 9, 3) := by decide +kernel
theorem d20_12 : decode (m_code 20) 12 = .ok (.iconst 0, 1) := by decide +kernel
theorem d20_13 : decode (m_code 20) 13 = .ok (.aload_n 0, 1) := by decide +kernel
theorem d20_14 : decode (m_code 20) 14 = .ok (.getfield 9, 3) := by decide +kernel
theorem d20_17 : decode (m_code 20) 17 = .ok (.iconst 0, 1) := by decide +kernel
theorem d20_18 : decode (m_code 20) 18 = .ok (.aload_n 0, 1) := by decide +kernel
theorem d20_19 : decode (m_code 20) 19 = .ok (.getfield 30, 3) := by decide +kernel
theorem d20_22 : decode (m_code 20) 22 = .ok (.invokestatic 34, 3) := by decide +kernel
theorem d20_25 : decode (m_code 20) 25 = .ok (.aload_n 1, 1) := by decide +kernel
theorem d20_26 : decode (m_code 20) 26 = .ok (.getfield 15, 3) := by decide +kernel
theorem d20_29 : decode (m_code 20) 29 = .ok (.iconst 0, 1) := by decide +kernel
theorem d20_30 : decode (m_code 20) 30 = .ok (.aload_n 0, 1) := by decide +kernel
theorem d20_31 : decode (m_code 20) 31 = .ok (.getfield 15, 3) := by decide +kernel
theorem d20_34 : decode (m_code 20) 34 = .ok (.iconst 0, 1) := by decide +kernel
theorem d20_35 : decode (m_code 20) 35 = .ok (.aload_n 0, 1) := by decide +kernel
theorem d20_36 : decode (m_code 20) 36 = .ok (.getfield 30, 3) := by decide +kernel
theorem d20_39 : decode (m_code 20) 39 = .ok (.invokestatic 34, 3) := by decide +kernel
theorem d20_42 : decode (m_code 20) 42 = .ok (.aload_n 1, 1) := by decide +kernel
theorem d20_43 : decode (m_code 20) 43 = .ok (.getfield 18, 3) := by decide +kernel
theorem d20_46 : decode (m_code 20) 46 = .ok (.iconst 0, 1) := by decide +kernel
theorem d20_47 : decode (m_code 20) 47 = .ok (.aload_n 0, 1) := by decide +kernel
theorem d20_48 : decode (m_code 20) 48 = .ok (.getfield 18, 3) := by decide +kernel
theorem d20_51 : decode (m_code 20) 51 = .ok (.iconst 0, 1) := by decide +kernel
theorem d20_52 : decode (m_code 20) 52 = .ok (.aload_n 0, 1) := by decide +kernel
theorem d20_53 : decode (m_code 20) 53 = .ok (.getfield 30, 3) := by decide +kernel
theorem d20_56 : decode (m_code 20) 56 = .ok (.invokestatic 34, 3) := by decide +kernel
theorem d20_59 : decode (m_code 20) 59 = .ok (.aload_n 1, 1) := by decide +kernel
theorem d20_60 : decode (m_code 20) 60 = .ok (.getfield 21, 3) := by decide +kernel
theorem d20_63 : decode (m_code 20) 63 = .ok (.iconst 0, 1) := by decide +kernel
theorem d20_64 : decode (m_code 20) 64 = .ok (.aload_n 0, 1) := by decide +kernel
theorem d20_65 : decode (m_code 20) 65 = .ok (.getfield 21, 3) := by decide +kernel
theorem d20_68 : decode (m_code 20) 68 = .ok (.iconst 0, 1) := by decide +kernel
theorem d20_69 : decode (m_code 20) 69 = .ok (.aload_n 0, 1) := by decide +kernel
theorem d20_70 : decode (m_code 20) 70 = .ok (.getfield 30, 3) := by decide +kernel
theorem d20_73 : decode (m_code 20) 73 = .ok (.invokestatic 34, 3) := by decide +kernel
theorem d20_76 : decode (m_code 20) 76 = .ok (.aload_n 1, 1) := by decide +kernel
theorem d20_77 : decode (m_code 20) 77 = .ok (.getfield 24, 3) := by decide +kernel
theorem d20_80 : decode (m_code 20) 80 = .ok (.iconst 0, 1) := by decide +kernel
theorem d20_81 : decode (m_code 20) 81 = .ok (.aload_n 0, 1) := by decide +kernel
theorem d20_82 : decode (m_code 20) 82 = .ok (.getfield 24, 3) := by decide +kernel
theorem d20_85 : decode (m_code 20) 85 = .ok (.iconst 0, 1) := by decide +kernel
theorem d20_86 : decode (m_code 20) 86 = .ok (.aload_n 0, 1) := by decide +kernel
theorem d20_87 : decode (m_code 20) 87 = .ok (.getfield 30, 3) := by decide +kernel
theorem d20_90 : decode (m_code 20) 90 = .ok (.invokestatic 34, 3) := by decide +kernel
theorem d20_93 : decode (m_code 20) 93 = .ok (.aload_n 1, 1) := by decide +kernel
theorem d20_94 : decode (m_code 20) 94 = .ok (.getfield 27, 3) := by decide +kernel
theorem d20_97 : decode (m_code 20) 97 = .ok (.iconst 0, 1) := by decide +kernel
theorem d20_98 : decode (m_code 20) 98 = .ok (.aload_n 0, 1) := by decide +kernel
theorem d20_99 : decode (m_code 20) 99 = .ok (.getfield 27, 3) := by decide +kernel
theorem d20_102 : decode (m_code 20) 102 = .ok (.iconst 0, 1) := by decide +kernel
theorem d20_103 : decode (m_code 20) 103 = .ok (.aload_n 0, 1) := by decide +kernel
theorem d20_104 : decode (m_code 20) 104 = .ok (.getfield 30, 3) := by decide +kernel
theorem d20_107 : decode (m_code 20) 107 = .ok (.invokestatic 34, 3) := by decide +kernel
theorem d20_110 : decode (m_code 20) 110 = .ok (.return_, 1) := by decide +kernel
theorem d21_0 : decode (m_code 21) 0 = .ok (.aload_n 0, 1) := by decide +kernel
theorem d21_1 : decode (m_code 21) 1 = .ok (.aload_n 1, 1) := by decide +kernel
theorem d21_2 : decode (m_code 21) 2 = .ok (.getfield 30, 3) := by decide +kernel
theorem d21_5 : decode (m_code 21) 5 = .ok (.putfield 30, 3) := by decide +kernel
theorem d21_8 : decode (m_code 21) 8 = .ok (.aload_n 1, 1) := by decide +kernel
theorem d21_9 : decode (m_code 21) 9 = .ok (.getfield 9, 3) := by decide +kernel
theorem d21_12 : decode (m_code 21) 12 = .ok (.iconst 0, 1) := by decide +kernel
theorem d21_13 : decode (m_code 21) 13 = .ok (.aload_n 0, 1) := by decide +kernel
theorem d21_14 : decode (m_code 21) 14 = .ok (.getfield 9, 3) := by decide +kernel
theorem d21_17 : decode (m_code 21) 17 = .ok (.iconst 0, 1) := by decide +kernel
theorem d21_18 : decode (m_code 21) 18 = .ok (.aload_n 0, 1) := by decide +kernel
theorem d21_19 : decode (m_code 21) 19 = .ok (.getfield 30, 3) := by decide +kernel
theorem d21_22 : decode (m_code 21) 22 = .ok (.invokestatic 34, 3) := by decide +kernel
theorem d21_25 : decode (m_code 21) 25 = .ok (.aload_n 1, 1) := by decide +kernel
theorem d21_26 : decode (m_code 21) 26 = .ok (.getfield 15, 3) := by decide +kernel
theorem d21_29 : decode (m_code 21) 29 = .ok (.iconst 0, 1) := by decide +kernel
theorem d21_30 : decode (m_code 21) 30 = .ok (.aload_n 0, 1) := by decide +kernel
theorem d21_31 : decode (m_code 21) 31 = .ok (.getfield 15, 3) := by decide +kernel
theorem d21_34 : decode (m_code 21) 34 = .ok (.iconst 0, 1) := by decide +kernel
theorem d21_35 : decode (m_code 21) 35 = .ok (.aload_n 0, 1) := by decide +kernel
theorem d21_36 : decode (m_code 21) 36 = .ok (.getfield 30, 3) := by decide +kernel
theorem d21_39 : decode (m_code 21) 39 = .ok (.invokestatic 34, 3) := by decide +kernel
theorem d21_42 : decode (m_code 21) 42 = .ok (.aload_n 1, 1) := by decide +kernel
theorem d21_43 : decode (m_code 21) 43 = .ok (.getfield 18, 3) := by decide +kernel
theorem d21_46 : decode (m_code 21) 46 = .ok (.iconst 0, 1) := by decide +kernel
theorem d21_47 : decode (m_code 21) 47 = .ok (.aload_n 0, 1) := by decide +kernel
theorem d21_48 : decode (m_code 21) 48 = .ok (.getfield 18, 3) := by decide +kernel
theorem d21_51 : decode (m_code 21) 51 = .ok (.iconst 0, 1) := by decide +kernel
theorem d21_52 : decode (m_code 21) 52 = .ok (.aload_n 0, 1) := by decide +kernel
theorem d21_53 : decode (m_code 21) 53 = .ok (.getfield 30, 3) := by decide +kernel
theorem d21_56 : decode (m_code 21) 56 = .ok (.invokestatic 34, 3) := by decide +kernel
theorem d21_59 : decode (m_code 21) 59 = .ok (.aload_n 1, 1) := by decide +kernel
theorem d21_60 : decode (m_code 21) 60 = .ok (.getfield 21, 3) := by decide +kernel
theorem d21_63 : decode (m_code 21) 63 = .ok (.iconst 0, 1) := by decide +kernel
theorem d21_64 : decode (m_code 21) 64 = .ok (.aload_n 0, 1) := by decide +kernel
theorem d21_65 : decode (m_code 21) 65 = .ok (.getfield 21, 3) := by decide +kernel
theorem d21_68 : decode (m_code 21) 68 = .ok (.iconst 0, 1) := by decide +kernel
theorem d21_69 : decode (m_code 21) 69 = .ok (.aload_n 0, 1) := by decide +kernel
theorem d21_70 : decode (m_code 21) 70 = .ok (.getfield 30, 3) := by decide +kernel
theorem d21_73 : decode (m_code 21) 73 = .ok (.invokestatic 34, 3) := by decide +kernel
theorem d21_76 : decode (m_code 21) 76 = .ok (.aload_n 1, 1) := by decide +kernel
theorem d21_77 : decode (m_code 21) 77 = .ok (.getfield 24, 3) := by decide +kernel
theorem d21_80 : decode (m_code 21) 80 = .ok (.iconst 0, 1) := by decide +kernel
theorem d21_81 : decode (m_code 21) 81 = .ok (.aload_n 0, 1) := by decide +kernel
theorem d21_82 : decode (m_code 21) 82 = .ok (.getfield 24, 3) := by decide +kernel
theorem d21_85 : decode (m_code 21) 85 = .ok (.iconst 0, 1) := by decide +kernel
theorem d21_86 : decode (m_code 21) 86 = .ok (.aload_n 0, 1) := by decide +kernel
theorem d21_87 : decode (m_code 21) 87 = .ok (.getfield 30, 3) := by decide +kernel
theorem d21_90 : decode (m_code 21) 90 = .ok (.invokestatic 34, 3) := by decide +kernel
theorem d21_93 : decode (m_code 21) 93 = .ok (.return_, 1) := by decide +kernel
theorem d22_0 : decode (m_code 22) 0 = .ok (.aload_n 1, 1) := by decide +kernel
theorem d22_1 : decode (m_code 22) 1 = .ok (.getfield 9, 3) := by decide +kernel
theorem d22_4 : decode (m_code 22) 4 = .ok (.iconst 0, 1) := by decide +kernel
theorem d22_5 : decode (m_code 22) 5 = .ok (.aload_n 0, 1) := by decide +kernel
theorem d22_6 : decode (m_code 22) 6 = .ok (.getfield 9, 3) := by decide +kernel
theorem d22_9 : decode (m_code 22) 9 = .ok (.iconst 0, 1) := by decide +kernel
theorem d22_10 : decode (m_code 22) 10 = .ok (.bipush 6, 2) := by decide +kernel
theorem d22_12 : decode (m_code 22) 12 = .ok (.invokestatic 19, 3) := by decide +kernel
theorem d22_15 : decode (m_code 22) 15 = .ok (.aload_n 0, 1) := by decide +kernel
theorem d22_16 : decode (m_code 22) 16 = .ok (.aload_n 1, 1) := by decide +kernel
theorem d22_17 : decode (m_code 22) 17 = .ok (.getfield 15, 3) := by decide +kernel
theorem d22_20 : decode (m_code 22) 20 = .ok (.putfield 15, 3) := by decide +kernel
theorem d22_23 : decode (m_code 22) 23 = .ok (.return_, 1) := by decide +kernel
theorem d23_0 : decode (m_code 23) 0 = .ok (.aload_n 1, 1) := by decide +kernel
theorem d23_1 : decode (m_code 23) 1 = .ok (.getfield 9, 3) := by decide +kernel
theorem d23_4 : decode (m_code 23) 4 = .ok (.iconst 0, 1) := by decide +kernel
theorem d23_5 : decode (m_code 23) 5 = .ok (.aload_n 0, 1) := by decide +kernel
theorem d23_6 : decode (m_code 23) 6 = .ok (.getfield 9, 3) := by decide +kernel
theorem d23_9 : decode (m_code 23) 9 = .ok (.iconst 0, 1) := by decide +kernel
theorem d23_10 : decode (m_code 23) 10 = .ok (.bipush 8, 2) := by decide +kernel
theorem d23_12 : decode (m_code 23) 12 = .ok (.invokestatic 21, 3) := by decide +kernel
theorem d23_15 : decode (m_code 23) 15 = .ok (.return_, 1) := by decide +kernel
theorem d24_0 : decode (m_code 24) 0 = .ok (.aload_n 0, 1) := by decide +kernel
theorem d24_1 : decode (m_code 24) 1 = .ok (.aload_n 1, 1) := by decide +kernel
theorem d24_2 : decode (m_code 24) 2 = .ok (.getfield 39, 3) := by decide +kernel
theorem d24_5 : decode (m_code 24) 5 = .ok (.putfield 39, 3) := by decide +kernel
theorem d24_8 : decode (m_code 24) 8 = .ok (.aload_n 1, 1) := by decide +kernel
theorem d24_9 : decode (m_code 24) 9 = .ok (.getfield 9, 3) := by decide +kernel
theorem d24_12 : decode (m_code 24) 12 = .ok (.iconst 0, 1) := by decide +kernel
theorem d24_13 : decode (m_code 24) 13 = .ok (.aload_n 0, 1) := by decide +kernel
theorem d24_14 : decode (m_code 24) 14 = .ok (.getfield 9, 3) := by decide +kernel
theorem d24_17 : decode (m_code 24) 17 = .ok (.iconst 0, 1) := by decide +kernel
theorem d24_18 : decode (m_code 24) 18 = .ok (.aload_n 0, 1) := by decide +kernel
theorem d24_19 : decode (m_code 24) 19 = .ok (.getfield 39, 3) := by decide +kernel
theorem d24_22 : decode (m_code 24) 22 = .ok (.invokestatic 43, 3) := by decide +kernel
theorem d24_25 : decode (m_code 24) 25 = .ok (.aload_n 1, 1) := by decide +kernel
theorem d24_26 : decode (m_code 24) 26 = .ok (.getfield 15, 3) := by decide +kernel
theorem d24_29 : decode (m_code 24) 29 = .ok (.iconst 0, 1) := by decide +kernel
theorem d24_30 : decode (m_code 24) 30 = .ok (.aload_n 0, 1) := by decide +kernel
theorem d24_31 : decode (m_code 24) 31 = .ok (.getfield 15, 3) := by decide +kernel
theorem d24_34 : decode (m_code 24) 34 = .ok (.iconst 0, 1) := by decide +kernel
theorem d24_35 : decode (m_code 24) 35 = .ok (.aload_n 0, 1) := by decide +kernel
theorem d24_36 : decode (m_code 24) 36 = .ok (.getfield 39, 3) := by decide +kernel
theorem d24_39 : decode (m_code 24) 39 = .ok (.invokestatic 43, 3) := by decide +kernel
theorem d24_42 : decode (m_code 24) 42 = .ok (.aload_n 1, 1) := by decide +kernel
theorem d24_43 : decode (m_code 24) 43 = .ok (.getfield 18, 3) := by decide +kernel
theorem d24_46 : decode (m_code 24) 46 = .ok (.iconst 0, 1) := by decide +kernel
theorem d24_47 : decode (m_code 24) 47 = .ok (.aload_n 0, 1) := by decide +kernel
theorem d24_48 : decode (m_code 24) 48 = .ok (.getfield 18, 3) := by decide +kernel
theorem d24_51 : decode (m_code 24) 51 = .ok (.iconst 0, 1) := by decide +kernel
theorem d24_52 : decode (m_code 24) 52 = .ok (.aload_n 0, 1) := by decide +kernel
theorem d24_53 : decode (m_code 24) 53 = .ok (.getfield 39, 3) := by decide +kernel
theorem d24_56 : decode (m_code 24) 56 = .ok (.invokestatic 43, 3) := by decide +kernel
theorem d24_59 : decode (m_code 24) 59 = .ok (.aload_n 1, 1) := by decide +kernel
theorem d24_60 : decode (m_code 24) 60 = .ok (.getfield 21, 3) := by decide +kernel
theorem d24_63 : decode (m_code 24) 63 = .ok (.iconst 0, 1) := by decide +kernel
theorem d24_64 : decode (m_code 24) 64 = .ok (.aload_n 0, 1) := by decide +kernel
theorem d24_65 : decode (m_code 24) 65 = .ok (.getfield 21, 3) := by decide +kernel
theorem d24_68 : decode (m_code 24) 68 = .ok (.iconst 0, 1) := by decide +kernel
theorem d24_69 : decode (m_code 24) 69 = .ok (.aload_n 0, 1) := by decide +kernel
theorem d24_70 : decode (m_code 24) 70 = .ok (.getfield 39, 3) := by decide +kernel
theorem d24_73 : decode (m_code 24) 73 = .ok (.invokestatic 43, 3) := by decide +kernel
theorem d24_76 : decode (m_code 24) 76 = .ok (.aload_n 1, 1) := by decide +kernel
theorem d24_77 : decode (m_code 24) 77 = .ok (.getfield 24, 3) := by decide +kernel
theorem d24_80 : decode (m_code 24) 80 = .ok (.iconst 0, 1) := by decide +kernel
theorem d24_81 : decode (m_code 24) 81 = .ok (.aload_n 0, 1) := by decide +kernel
theorem d24_82 : decode (m_code 24) 82 = .ok (.getfield 24, 3) := by decide +kernel
theorem d24_85 : decode (m_code 24) 85 = .ok (.iconst 0, 1) := by decide +kernel
theorem d24_86 : decode (m_code 24) 86 = .ok (.aload_n 0, 1) := by decide +kernel
theorem d24_87 : decode (m_code 24) 87 = .ok (.getfield 39, 3) := by decide +kernel
theorem d24_90 : decode (m_code 24) 90 = .ok (.invokestatic 43, 3) := by decide +kernel
theorem d24_93 : decode (m_code 24) 93 = .ok (.aload_n 1, 1) := by decide +kernel
theorem d24_94 : decode (m_code 24) 94 = .ok (.getfield 27, 3) := by decide +kernel
theorem d24_97 : decode (m_code 24) 97 = .ok (.iconst 0, 1) := by decide +kernel
theorem d24_98 : decode (m_code 24) 98 = .ok (.aload_n 0, 1) := by decide +kernel
theorem d24_99 : decode (m_code 24) 99 = .ok (.getfield 27, 3) := by decide +kernel
theorem d24_102 : decode (m_code 24) 102 = .ok (.iconst 0, 1) := by decide +kernel
theorem d24_103 : decode (m_code 24) 103 = .ok (.aload_n 0, 1) := by decide +kernel
theorem d24_104 : decode (m_code 24) 104 = .ok (.getfield 39, 3) := by decide +kernel
theorem d24_107 : decode (m_code 24) 107 = .ok (.invokestatic 43, 3) := by decide +kernel
theorem d24_110 : decode (m_code 24) 110 = .ok (.aload_n 1, 1) := by decide +kernel
theorem d24_111 : decode (m_code 24) 111 = .ok (.getfield 30, 3) := by decide +kernel
theorem d24_114 : decode (m_code 24) 114 = .ok (.iconst 0, 1) := by decide +kernel
theorem d24_115 : decode (m_code 24) 115 = .ok (.aload_n 0, 1) := by decide +kernel
theorem d24_116 : decode (m_code 24) 116 = .ok (.getfield 30, 3) := by decide +kernel
theorem d24_119 : decode (m_code 24) 119 = .ok (.iconst 0, 1) := by decide +kernel
theorem d24_120 : decode (m_code 24) 120 = .ok (.aload_n 0, 1) := by decide +kernel
theorem d24_121 : decode (m_code 24) 121 = .ok (.getfield 39, 3) := by decide +kernel
theorem d24_124 : decode (m_code 24) 124 = .ok (.invokestatic 43, 3) := by decide +kernel
theorem d24_127 : decode (m_code 24) 127 = .ok (.aload_n 1, 1) := by decide +kernel
theorem d24_128 : decode (m_code 24) 128 = .ok (.getfield 33, 3) := by decide +kernel
theorem d24_131 : decode (m_code 24) 131 = .ok (.iconst 0, 1) := by decide +kernel
theorem d24_132 : decode (m_code 24) 132 = .ok (.aload_n 0, 1) := by decide +kernel
theorem d24_133 : decode (m_code 24) 133 = .ok (.getfield 33, 3) := by decide +kernel
theorem d24_136 : decode (m_code 24) 136 = .ok (.iconst 0, 1) := by decide +kernel
theorem d24_137 : decode (m_code 24) 137 = .ok (.aload_n 0, 1) := by decide +kernel
theorem d24_138 : decode (m_code 24) 138 = .ok (.getfield 39, 3) := by decide +kernel
theorem d24_141 : decode (m_code 24) 141 = .ok (.invokestatic 43, 3) := by decide +kernel
theorem d24_144 : decode (m_code 24) 144 = .ok (.aload_n 1, 1) := by decide +kernel
theorem d24_145 : decode (m_code 24) 145 = .ok (.getfield 36, 3) := by decide +kernel
theorem d24_148 : decode (m_code 24) 148 = .ok (.iconst 0, 1) := by decide +kernel
theorem d24_149 : decode (m_code 24) 149 = .ok (.aload_n 0, 1) := by decide +kernel
theorem d24_150 : decode (m_code 24) 150 = .ok (.getfield 36, 3) := by decide +kernel
theorem d24_153 : decode (m_code 24) 153 = .ok (.iconst 0, 1) := by decide +kernel
theorem d24_154 : decode (m_code 24) 154 = .ok (.aload_n 0, 1) := by decide +kernel
theorem d24_155 : decode (m_code 24) 155 = .ok (.getfield 39, 3) := by decide +kernel
theorem d24_158 : decode (m_code 24) 158 = .ok (.bipush 12, 2) := by decide +kernel
theorem d24_160 : decode (m_code 24) 160 = .ok (.imul, 1) := by decide +kernel
theorem d24_161 : decode (m_code 24) 161 = .ok (.invokestatic 43, 3) := by decide +kernel
theorem d24_164 : decode (m_code 24) 164 = .ok (.return_, 1) := by decide +kernel
theorem d25_0 : decode (m_code 25) 0 = .ok (.aload_n 0, 1) := by decide +kernel
theorem d25_1 : decode (m_code 25) 1 = .ok (.aload_n 1, 1) := by decide +kernel
theorem d25_2 : decode (m_code 25) 2 = .ok (.getfield 27, 3) := by decide +kernel
theorem d25_5 : decode (m_code 25) 5 = .ok (.putfield 27, 3) := by decide +kernel
theorem d25_8 : decode (m_code 25) 8 = .ok (.aload_n 1, 1) := by decide +kernel
theorem d25_9 : decode (m_code 25) 9 = .ok (.getfield 9, 3) := by decide +kernel
theorem d25_12 : decode (m_code 25) 12 = .ok (.iconst 0, 1) := by decide +kernel
theorem d25_13 : decode (m_code 25) 13 = .ok (.aload_n 0, 1) := by decide +kernel
theorem d25_14 : decode (m_code 25) 14 = .ok (.getfield 9, 3) := by decide +kernel
theorem d25_17 : decode (m_code 25) 17 = .ok (.iconst 0, 1) := by decide +kernel
theorem d25_18 : decode (m_code 25) 18 = .ok (.aload_n 0, 1) := by decide +kernel
theorem d25_19 : decode (m_code 25) 19 = .ok (.getfield 27, 3) := by decide +kernel
theorem d25_22 : decode (m_code 25) 22 = .ok (.invokestatic 31, 3) := by decide +kernel
theorem d25_25 : decode (m_code 25) 25 = .ok (.aload_n 1, 1) := by decide +kernel
theorem d25_26 : decode (m_code 25) 26 = .ok (.getfield 15, 3) := by decide +kernel
theorem d25_29 : decode (m_code 25) 29 = .ok (.iconst 0, 1) := by decide +kernel
theorem d25_30 : decode (m_code 25) 30 = .ok (.aload_n 0, 1) := by decide +kernel
theorem d25_31 : decode (m_code 25) 31 = .ok (.getfield 15, 3) := by decide +kernel
theorem d25_34 : decode (m_code 25) 34 = .ok (.iconst 0, 1) := by decide +kernel
theorem d25_35 : decode (m_code 25) 35 = .ok (.aload_n 0, 1) := by decide +kernel
theorem d25_36 : decode (m_code 25) 36 = .ok (.getfield 27, 3) := by decide +kernel
theorem d25_39 : decode (m_code 25) 39 = .ok (.invokestatic 31, 3) := by decide +kernel
theorem d25_42 : decode (m_code 25) 42 = .ok (.aload_n 1, 1) := by decide +kernel
theorem d25_43 : decode (m_code 25) 43 = .ok (.getfield 18, 3) := by decide +kernel
theorem d25_46 : decode (m_code 25) 46 = .ok (.iconst 0, 1) := by decide +kernel
theorem d25_47 : decode (m_code 25) 47 = .ok (.aload_n 0, 1) := by decide +kernel
theorem d25_48 : decode (m_code 25) 48 = .ok (.getfield 18, 3) := by decide +kernel
theorem d25_51 : decode (m_code 25) 51 = .ok (.iconst 0, 1) := by decide +kernel
theorem d25_52 : decode (m_code 25) 52 = .ok (.aload_n 0, 1) := by decide +kernel
theorem d25_53 : decode (m_code 25) 53 = .ok (.getfield 27, 3) := by decide +kernel
theorem d25_56 : decode (m_code 25) 56 = .ok (.invokestatic 31, 3) := by decide +kernel
theorem d25_59 : decode (m_code 25) 59 = .ok (.aload_n 1, 1) := by decide +kernel
theorem d25_60 : decode (m_code 25) 60 = .ok (.getfield 21, 3) := by decide +kernel
theorem d25_63 : decode (m_code 25) 63 = .ok (.iconst 0, 1) := by decide +kernel
theorem d25_64 : decode (m_code 25) 64 = .ok (.aload_n 0, 1) := by decide +kernel
theorem d25_65 : decode (m_code 25) 65 = .ok (.getfield 21, 3) := by decide +kernel
theorem d25_68 : decode (m_code 25) 68 = .ok (.iconst 0, 1) := by decide +kernel
theorem d25_69 : decode (m_code 25) 69 = .ok (.aload_n 0, 1) := by decide +kernel
theorem d25_70 : decode (m_code 25) 70 = .ok (.getfield 27, 3) := by decide +kernel
theorem d25_73 : decode (m_code 25) 73 = .ok (.invokestatic 31, 3) := by decide +kernel
theorem d25_76 : decode (m_code 25) 76 = .ok (.aload_n 1, 1) := by decide +kernel
theorem d25_77 : decode (m_code 25) 77 = .ok (.getfield 24, 3) := by decide +kernel
theorem d25_80 : decode (m_code 25) 80 = .ok (.iconst 0, 1) := by decide +kernel
theorem d25_81 : decode (m_code 25) 81 = .ok (.aload_n 0, 1) := by decide +kernel
theorem d25_82 : decode (m_code 25) 82 = .ok (.getfield 24, 3) := by decide +kernel
theorem d25_85 : decode (m_code 25) 85 = .ok (.iconst 0, 1) := by decide +kernel
theorem d25_86 : decode (m_code 25) 86 = .ok (.aload_n 0, 1) := by decide +kernel
theorem d25_87 : decode (m_code 25) 87 = .ok (.getfield 27, 3) := by decide +kernel
theorem d25_90 : decode (m_code 25) 90 = .ok (.invokestatic 31, 3) := by decide +kernel
theorem d25_93 : decode (m_code 25) 93 = .ok (.return_, 1) := by decide +kernel
theorem d26_0 : decode (m_code 26) 0 = .ok (.aload_n 0, 1) := by decide +kernel
theorem d26_1 : decode (m_code 26) 1 = .ok (.aload_n 1, 1) := by decide +kernel
theorem d26_2 : decode (m_code 26) 2 = .ok (.getfield 27, 3) := by decide +kernel
theorem d26_5 : decode (m_code 26) 5 = .ok (.putfield 27, 3) := by decide +kernel
theorem d26_8 : decode (m_code 26) 8 = .ok (.aload_n 0, 1) := by decide +kernel
theorem d26_9 : decode (m_code 26) 9 = .ok (.aload_n 1, 1) := by decide +kernel
theorem d26_10 : decode (m_code 26) 10 = .ok (.getfield 31, 3) := by decide +kernel
theorem d26_13 : decode (m_code 26) 13 = .ok (.putfield 31, 3) := by decide +kernel
theorem d26_16 : decode (m_code 26) 16 = .ok (.aload_n 1, 1) := by decide +kernel
theorem d26_17 : decode (m_code 26) 17 = .ok (.getfield 9, 3) := by decide +kernel
theorem d26_20 : decode (m_code 26) 20 = .ok (.iconst 0, 1) := by decide +kernel
theorem d26_21 : decode (m_code 26) 21 = .ok (.aload_n 0, 1) := by decide +kernel
theorem d26_22 : decode (m_code 26) 22 = .ok (.getfield 9, 3) := by decide +kernel
theorem d26_25 : decode (m_code 26) 25 = .ok (.iconst 0, 1) := by decide +kernel
theorem d26_26 : decode (m_code 26) 26 = .ok (.aload_n 0, 1) := by decide +kernel
theorem d26_27 : decode (m_code 26) 27 = .ok (.getfield 27, 3) := by decide +kernel
theorem d26_30 : decode (m_code 26) 30 = .ok (.invokestatic 34, 3) := by decide +kernel
theorem d26_33 : decode (m_code 26) 33 = .ok (.aload_n 1, 1) := by decide +kernel
theorem d26_34 : decode (m_code 26) 34 = .ok (.getfield 15, 3) := by decide +kernel
theorem d26_37 : decode (m_code 26) 37 = .ok (.iconst 0, 1) := by decide +kernel
theorem d26_38 : decode (m_code 26) 38 = .ok (.aload_n 0, 1) := by decide +kernel
theorem d26_39 : decode (m_code 26) 39 = .ok (.getfield 15, 3) := by decide +kernel
theorem d26_42 : decode (m_code 26) 42 = .ok (.iconst 0, 1) := by decide +kernel
theorem d26_43 : decode (m_code 26) 43 = .ok (.aload_n 0, 1) := by decide +kernel
theorem d26_44 : decode (m_code 26) 44 = .ok (.getfield 27, 3) := by decide +kernel
theorem d26_47 : decode (m_code 26) 47 = .ok (.invokestatic 34, 3) := by decide +kernel
theorem d26_50 : decode (m_code 26) 50 = .ok (.aload_n 1, 1) := by decide +kernel
theorem d26_51 : decode (m_code 26) 51 = .ok (.getfield 18, 3) := by decide +kernel
theorem d26_54 : decode (m_code 26) 54 = .ok (.iconst 0, 1) := by decide +kernel
theorem d26_55 : decode (m_code 26) 55 = .ok (.aload_n 0, 1) := by decide +kernel
theorem d26_56 : decode (m_code 26) 56 = .ok (.getfield 18, 3) := by decide +kernel
theorem d26_59 : decode (m_code 26) 59 = .ok (.iconst 0, 1) := by decide +kernel
theorem d26_60 : decode (m_code 26) 60 = .ok (.aload_n 0, 1) := by decide +kernel
theorem d26_61 : decode (m_code 26) 61 = .ok (.getfield 27, 3) := by decide +kernel
theorem d26_64 : decode (m_code 26) 64 = .ok (.invokestatic 34, 3) := by decide +kernel
theorem d26_67 : decode (m_code 26) 67 = .ok (.aload_n 1, 1) := by decide +kernel
theorem d26_68 : decode (m_code 26) 68 = .ok (.getfield 21, 3) := by decide +kernel
theorem d26_71 : decode (m_code 26) 71 = .ok (.iconst 0, 1) := by decide +kernel
theorem d26_72 : decode (m_code 26) 72 = .ok (.aload_n 0, 1) := by decide +kernel
theorem d26_73 : decode (m_code 26) 73 = .ok (.getfield 21, 3) := by decide +kernel
theorem d26_76 : decode (m_code 26) 76 = .ok (.iconst 0, 1) := by decide +kernel
theorem d26_77 : decode (m_code 26) 77 = .ok (.aload_n 0, 1) := by decide +kernel
theorem d26_78 : decode (m_code 26) 78 = .ok (.getfield 27, 3) := by decide +kernel
theorem d26_81 : decode (m_code 26) 81 = .ok (.invokestatic 34, 3) := by decide +kernel
theorem d26_84 : decode (m_code 26) 84 = .ok (.aload_n 1, 1) := by decide +kernel
theorem d26_85 : decode (m_code 26) 85 = .ok (.getfield 24, 3) := by decide +kernel
theorem d26_88 : decode (m_code 26) 88 = .ok (.iconst 0, 1) := by decide +kernel
theorem d26_89 : decode (m_code 26) 89 = .ok (.aload_n 0, 1) := by decide +kernel
theorem d26_90 : decode (m_code 26) 90 = .ok (.getfield 24, 3) := by decide +kernel
theorem d26_93 : decode (m_code 26) 93 = .ok (.iconst 0, 1) := by decide +kernel
theorem d26_94 : decode (m_code 26) 94 = .ok (.aload_n 0, 1) := by decide +kernel
theorem d26_95 : decode (m_code 26) 95 = .ok (.getfield 27, 3) := by decide +kernel
theorem d26_98 : decode (m_code 26) 98 = .ok (.invokestatic 34, 3) := by decide +kernel
theorem d26_101 : decode (m_code 26) 101 = .ok (.return_, 1) := by decide +kernel
/-- P holds what M2 holds where lv says so, and what M holds elsewhere -/
def Agr (P M M2 : Nat → Nat → Int32) (lv : Nat → Nat → Prop) : Prop := ∀ o i, (lv o i → P o i = M2 o i) ∧ (¬ lv o i → P o i = M o i)
theorem Agr.rf {M M2 : Nat → Nat → Int32} : Agr M M M2 (fun _ _ => False) := fun _ _ => ⟨fun z => z.elim, fun _ => rfl⟩
theorem Agr.arr {P M M2 : Nat → Nat → Int32} {lv : Nat → Nat → Prop} (h : Agr P M M2 lv) (o0 n : Nat) : Agr (stM P o0 (va_cpy (M2 o0) (P o0) 0 0 n)) M M2 (fun o i => lv o i ∨ (o = o0 ∧ i < n)) := by
  intro o i
  by_cases ho : o = o0
  · subst ho
    have e : stM P o (va_cpy (M2 o) (P o) 0 0 n) o i = va_cpy (M2 o) (P o) 0 0 n i := by
      unfold stM
      rw [if_pos rfl]
    rw [e]
    by_cases hi : i < n
    · rw [sb_cpy0 hi]
      exact ⟨fun _ => rfl, fun z => absurd (Or.inr ⟨rfl, hi⟩) z⟩
    · rw [pk_cpy_out (by omega)]
      exact ⟨fun z => (h o i).1 (z.elim id (fun y => absurd y.2 hi)), fun z => (h o i).2 (fun y => z (Or.inl y))⟩
  · have e : stM P o0 (va_cpy (M2 o0) (P o0) 0 0 n) o i = P o i := by
      unfold stM
      rw [if_neg ho]
    rw [e]
    exact ⟨fun z => (h o i).1 (z.elim id (fun y => absurd y.1 ho)), fun z => (h o i).2 (fun y => z (Or.inl y))⟩
theorem Agr.put {P M M2 : Nat → Nat → Int32} {lv : Nat → Nat → Prop} (h : Agr P M M2 lv) {o0 k : Nat} {v : Int32} (e : v = M2 o0 k) : Agr (updM P o0 k v) M M2 (fun o i => lv o i ∨ (o = o0 ∧ i = k)) := by
  intro o i
  by_cases ho : o = o0 ∧ i = k
  · obtain ⟨rfl, rfl⟩ := ho
    rw [updM_same, e]
    exact ⟨fun _ => rfl, fun z => absurd (Or.inr ⟨rfl, rfl⟩) z⟩
  · rw [updM_diff (by omega)]
    exact ⟨fun z => (h o i).1 (z.elim id (fun y => absurd y ho)), fun z => (h o i).2 (fun y => z (Or.inl y))⟩
theorem Agr.cg {P M M2 : Nat → Nat → Int32} {lv lv2 : Nat → Nat → Prop} (h : Agr P M M2 lv) (e : ∀ o i, lv o i ↔ lv2 o i) : Agr P M M2 lv2 := fun o i => ⟨fun z => (h o i).1 ((e o i).mpr z), fun z => (h o i).2 (fun y => z ((e o i).mp y))⟩
theorem Agr.arr2 {P M M2 : Nat → Nat → Int32} {lv ls : Nat → Nat → Prop} (h : Agr P M M2 (fun o i => lv o i ∨ ls o i)) (o0 n : Nat) : Agr (stM P o0 (va_cpy (M2 o0) (P o0) 0 0 n)) M M2 (fun o i => lv o i ∨ (ls o i ∨ (o = o0 ∧ i < n))) := (h.arr o0 n).cg (fun o i => or_assoc)
theorem Agr.put2 {P M M2 : Nat → Nat → Int32} {lv ls : Nat → Nat → Prop} (h : Agr P M M2 (fun o i => lv o i ∨ ls o i)) {o0 k : Nat} {v : Int32} (e : v = M2 o0 k) : Agr (updM P o0 k v) M M2 (fun o i => lv o i ∨ (ls o i ∨ (o = o0 ∧ i = k))) := (h.put e).cg (fun o i => or_assoc)
theorem Agr.st2 {P M M2 : Nat → Nat → Int32} {lv : Nat → Nat → Prop} (h : Agr P M M2 lv) : Agr P M M2 (fun o i => lv o i ∨ (fun o _ => o < 0) o i) := h.cg (fun o i => ⟨Or.inl, fun z => z.elim id (fun y => absurd y (Nat.not_lt_zero _))⟩)
theorem u_cpR {X : mX} {h : mH} {B st B2 st2 : Nat} {P M M2 : Nat → Nat → Int32} {lv : Nat → Nat → Prop} (hM : Mus h B st P) (hW : Mus h B2 st2 M2) (hdis : B2 + 43 ≤ B ∨ B + 43 ≤ B2) (hA : Agr P M M2 lv) {n : Nat} (hn : M2 1 6 = nI n) (hn2 : n ≤ 12) : m_wp X 20 0 (m_entry 20 [.ref (B + 1), .ref (B2 + 1)]) [] h (fun w h1 => w = none ∧ ∃ P1, Mus h1 B st P1 ∧ Frm h h1 B 43 ∧ Agr P1 M M2 (fun o i => lv o i ∨ ((2 ≤ o ∧ o ≤ 7 ∧ i < n) ∨ (o = 1 ∧ i = 6)))) := by
  have hF : Frm h h B 43 := Frm.rf
  replace hA := hA.st2
  refine wp_aload_n d20_0 rfl ?_
  refine wp_aload_n d20_1 rfl ?_
  refine wp_getf (e := 30) (ci := 2) (k := 6) (nest := false) (v := .int (nI n)) d20_2 (by decide +kernel) (um_1 (Reg.frm hW hF hdis)) (congrArg (fun z => some (Value.int z)) hn) ?_
  refine wp_putf (e := 30) (ci := 2) (k := 6) (nest := false) d20_5 (by decide +kernel) (um_1 hM) (Nat.le_of_ble_eq_true rfl) rfl (Or.inl (by decide +kernel)) ?_
  refine u_step (o := 1) (i := 6) (v := nI n) hM hF (by decide) rfl (fun h hM hF => ?_)
  replace hA := hA.put2 (o0 := 1) (k := 6) (v := nI n) hn.symm
  generalize (updM P 1 6 (nI n)) = P at hM hA
  refine wp_aload_n d20_8 rfl ?_
  refine wp_getf (e := 9) (ci := 2) (k := 0) (nest := false) d20_9 (by decide +kernel) (um_1 (Reg.frm hW hF hdis)) rfl ?_
  refine wp_iconst d20_12 (v := nI 0) (by decide) ?_
  refine wp_aload_n d20_13 rfl ?_
  refine wp_getf (e := 9) (ci := 2) (k := 0) (nest := false) d20_14 (by decide +kernel) (um_1 hM) rfl ?_
  refine wp_iconst d20_17 (v := nI 0) (by decide) ?_
  refine wp_aload_n d20_18 rfl ?_
  refine wp_getf (e := 30) (ci := 2) (k := 6) (nest := false) (v := .int (nI n)) d20_19 (by decide +kernel) (um_1 hM) (congrArg (fun z => some (Value.int z)) (((hA 1 6).1 (Or.inr (Or.inr ⟨rfl, rfl⟩))).trans hn)) ?_
  refine wp_copy (e := 34) (j2 := 0) (sn := 0) (dn := 0) (nn := n) d20_22 (by decide +kernel) (um_2 (Reg.frm hW hF hdis)) (um_2 hM) (by decide) (by decide) (Int32.not_lt.mpr (nI_pos' (by omega))) (by decide) (by decide) (nI_nat (by omega)) (by omega) (by omega) (by decide) (by decide) (by decide) ?_
  refine u_stepA (o := 2) (f := va_cpy (M2 2) (P 2) 0 0 (n)) hM hF (by decide) rfl (fun h hM hF => ?_)
  replace hA := hA.arr2 2 (n)
  generalize (stM P 2 (va_cpy (M2 2) (P 2) 0 0 (n))) = P at hM hA
  refine wp_aload_n d20_25 rfl ?_
  refine wp_getf (e := 15) (ci := 2) (k := 1) (nest := false) d20_26 (by decide +kernel) (um_1 (Reg.frm hW hF hdis)) rfl ?_
  refine wp_iconst d20_29 (v := nI 0) (by decide) ?_
  refine wp_aload_n d20_30 rfl ?_
  refine wp_getf (e := 15) (ci := 2) (k := 1) (nest := false) d20_31 (by decide +kernel) (um_1 hM) rfl ?_
  refine wp_iconst d20_34 (v := nI 0) (by decide) ?_
  refine wp_aload_n d20_35 rfl ?_
  refine wp_getf (e := 30) (ci := 2) (k := 6) (nest := false) (v := .int (nI n)) d20_36 (by decide +kernel) (um_1 hM) (congrArg (fun z => some (Value.int z)) (((hA 1 6).1 (Or.inr (Or.inl (Or.inr ⟨rfl, rfl⟩)))).trans hn)) ?_
  refine wp_copy (e := 34) (j2 := 0) (sn := 0) (dn := 0) (nn := n) d20_39 (by decide +kernel) (um_3 (Reg.frm hW hF hdis)) (um_3 hM) (by decide) (by decide) (Int32.not_lt.mpr (nI_pos' (by omega))) (by decide) (by decide) (nI_nat (by omega)) (by omega) (by omega) (by decide) (by decide) (by decide) ?_
  refine u_stepA (o := 3) (f := va_cpy (M2 3) (P 3) 0 0 (n)) hM hF (by decide) rfl (fun h hM hF => ?_)
  replace hA := hA.arr2 3 (n)
  generalize (stM P 3 (va_cpy (M2 3) (P 3) 0 0 (n))) = P at hM hA
  refine wp_aload_n d20_42 rfl ?_
  refine wp_getf (e := 18) (ci := 2) (k := 2) (nest := false) d20_43 (by decide +kernel) (um_1 (Reg.frm hW hF hdis)) rfl ?_
  refine wp_iconst d20_46 (v := nI 0) (by decide) ?_
  refine wp_aload_n d20_47 rfl ?_
  refine wp_getf (e := 18) (ci := 2) (k := 2) (nest := false) d20_48 (by decide +kernel) (um_1 hM) rfl ?_
  refine wp_iconst d20_51 (v := nI 0) (by decide) ?_
  refine wp_aload_n d20_52 rfl ?_
  refine wp_getf (e := 30) (ci := 2) (k := 6) (nest := false) (v := .int (nI n)) d20_53 (by decide +kernel) (um_1 hM) (congrArg (fun z => some (Value.int z)) (((hA 1 6).1 (Or.inr (Or.inl (Or.inl (Or.inr ⟨rfl, rfl⟩))))).trans hn)) ?_
  refine wp_copy (e := 34) (j2 := 0) (sn := 0) (dn := 0) (nn := n) d20_56 (by decide +kernel) (um_4 (Reg.frm hW hF hdis)) (um_4 hM) (by decide) (by decide) (Int32.not_lt.mpr (nI_pos' (by omega))) (by decide) (by decide) (nI_nat (by omega)) (by omega) (by omega) (by decide) (by decide) (by decide) ?_
  refine u_stepA (o := 4) (f := va_cpy (M2 4) (P 4) 0 0 (n)) hM hF (by decide) rfl (fun h hM hF => ?_)
  replace hA := hA.arr2 4 (n)
  generalize (stM P 4 (va_cpy (M2 4) (P 4) 0 0 (n))) = P at hM hA
  refine wp_aload_n d20_59 rfl ?_
  refine wp_getf (e := 21) (ci := 2) (k := 3) (nest := false) d20_60 (by decide +kernel) (um_1 (Reg.frm hW hF hdis)) rfl ?_
  refine wp_iconst d20_63 (v := nI 0) (by decide) ?_
  refine wp_aload_n d20_64 rfl ?_
  refine wp_getf (e := 21) (ci := 2) (k := 3) (nest := false) d20_65 (by decide +kernel) (um_1 hM) rfl ?_
  refine wp_iconst d20_68 (v := nI 0) (by decide) ?_
  refine wp_aload_n d20_69 rfl ?_
  refine wp_getf (e := 30) (ci := 2) (k := 6) (nest := false) (v := .int (nI n)) d20_70 (by decide +kernel) (um_1 hM) (congrArg (fun z => some (Value.int z)) (((hA 1 6).1 (Or.inr (Or.inl (Or.inl (Or.inl (Or.inr ⟨rfl, rfl⟩)))))).trans hn)) ?_
  refine wp_copy (e := 34) (j2 := 0) (sn := 0) (dn := 0) (nn := n) d20_73 (by decide +kernel) (um_5 (Reg.frm hW hF hdis)) (um_5 hM) (by decide) (by decide) (Int32.not_lt.mpr (nI_pos' (by omega))) (by decide) (by decide) (nI_nat (by omega)) (by omega) (by omega) (by decide) (by decide) (by decide) ?_
  refine u_stepA (o := 5) (f := va_cpy (M2 5) (P 5) 0 0 (n)) hM hF (by decide) rfl (fun h hM hF => ?_)
  replace hA := hA.arr2 5 (n)
  generalize (stM P 5 (va_cpy (M2 5) (P 5) 0 0 (n))) = P at hM hA
  refine wp_aload_n d20_76 rfl ?_
  refine wp_getf (e := 24) (ci := 2) (k := 4) (nest := false) d20_77 (by decide +kernel) (um_1 (Reg.frm hW hF hdis)) rfl ?_
  refine wp_iconst d20_80 (v := nI 0) (by decide) ?_
  refine wp_aload_n d20_81 rfl ?_
  refine wp_getf (e := 24) (ci := 2) (k := 4) (nest := false) d20_82 (by decide +kernel) (um_1 hM) rfl ?_
  refine wp_iconst d20_85 (v := nI 0) (by decide) ?_
  refine wp_aload_n d20_86 rfl ?_
  refine wp_getf (e := 30) (ci := 2) (k := 6) (nest := false) (v := .int (nI n)) d20_87 (by decide +kernel) (um_1 hM) (congrArg (fun z => some (Value.int z)) (((hA 1 6).1 (Or.inr (Or.inl (Or.inl (Or.inl (Or.inl (Or.inr ⟨rfl, rfl⟩))))))).trans hn)) ?_
  refine wp_copy (e := 34) (j2 := 0) (sn := 0) (dn := 0) (nn := n) d20_90 (by decide +kernel) (um_6 (Reg.frm hW hF hdis)) (um_6 hM) (by decide) (by decide) (Int32.not_lt.mpr (nI_pos' (by omega))) (by decide) (by decide) (nI_nat (by omega)) (by omega) (by omega) (by decide) (by decide) (by decide) ?_
  refine u_stepA (o := 6) (f := va_cpy (M2 6) (P 6) 0 0 (n)) hM hF (by decide) rfl (fun h hM hF => ?_)
  replace hA := hA.arr2 6 (n)
  generalize (stM P 6 (va_cpy (M2 6) (P 6) 0 0 (n))) = P at hM hA
  refine wp_aload_n d20_93 rfl ?_
  refine wp_getf (e := 27) (ci := 2) (k := 5) (nest := false) d20_94 (by decide +kernel) (um_1 (Reg.frm hW hF hdis)) rfl ?_
  refine wp_iconst d20_97 (v := nI 0) (by decide) ?_
  refine wp_aload_n d20_98 rfl ?_
  refine wp_getf (e := 27) (ci := 2) (k := 5) (nest := false) d20_99 (by decide +kernel) (um_1 hM) rfl ?_
  refine wp_iconst d20_102 (v := nI 0) (by decide) ?_
  refine wp_aload_n d20_103 rfl ?_
  refine wp_getf (e := 30) (ci := 2) (k := 6) (nest := false) (v := .int (nI n)) d20_104 (by decide +kernel) (um_1 hM) (congrArg (fun z => some (Value.int z)) (((hA 1 6).1 (Or.inr (Or.inl (Or.inl (Or.inl (Or.inl (Or.inl (Or.inr ⟨rfl, rfl⟩)))))))).trans hn)) ?_
  refine wp_copy (e := 34) (j2 := 0) (sn := 0) (dn := 0) (nn := n) d20_107 (by decide +kernel) (um_7 (Reg.frm hW hF hdis)) (um_7 hM) (by decide) (by decide) (Int32.not_lt.mpr (nI_pos' (by omega))) (by decide) (by decide) (nI_nat (by omega)) (by omega) (by omega) (by decide) (by decide) (by decide) ?_
  refine u_stepA (o := 7) (f := va_cpy (M2 7) (P 7) 0 0 (n)) hM hF (by decide) rfl (fun h hM hF => ?_)
  replace hA := hA.arr2 7 (n)
  generalize (stM P 7 (va_cpy (M2 7) (P 7) 0 0 (n))) = P at hM hA
  refine wp_vret d20_110 (by decide +kernel) ?_
  refine ⟨rfl, P, hM, hF, hA.cg (fun o i => or_congr Iff.rfl (?_ : ((((((((o < 0) ∨ (o = 1 ∧ i = 6)) ∨ (o = 2 ∧ i < n)) ∨ (o = 3 ∧ i < n)) ∨ (o = 4 ∧ i < n)) ∨ (o = 5 ∧ i < n)) ∨ (o = 6 ∧ i < n)) ∨ (o = 7 ∧ i < n)) ↔ ((2 ≤ o ∧ o ≤ 7 ∧ i < n) ∨ (o = 1 ∧ i = 6))))⟩
  clear hA hM hF hW
  exact ⟨fun z => by omega, fun z => by omega⟩
theorem u_cpD {X : mX} {h : mH} {B st B2 st2 : Nat} {P M M2 : Nat → Nat → Int32} {lv : Nat → Nat → Prop} (hM : Mus h B st P) (hW : Mus h B2 st2 M2) (hdis : B2 + 43 ≤ B ∨ B + 43 ≤ B2) (hA : Agr P M M2 lv) {n : Nat} (hn : M2 8 6 = nI n) (hn2 : n ≤ 20) : m_wp X 21 0 (m_entry 21 [.ref (B + 8), .ref (B2 + 8)]) [] h (fun w h1 => w = none ∧ ∃ P1, Mus h1 B st P1 ∧ Frm h h1 B 43 ∧ Agr P1 M M2 (fun o i => lv o i ∨ ((9 ≤ o ∧ o ≤ 13 ∧ i < n) ∨ (o = 8 ∧ i = 6)))) := by
  have hF : Frm h h B 43 := Frm.rf
  replace hA := hA.st2
  refine wp_aload_n d21_0 rfl ?_
  refine wp_aload_n d21_1 rfl ?_
  refine wp_getf (e := 30) (ci := 3) (k := 6) (nest := false) (v := .int (nI n)) d21_2 (by decide +kernel) (um_8 (Reg.frm hW hF hdis)) (congrArg (fun z => some (Value.int z)) hn) ?_
  refine wp_putf (e := 30) (ci := 3) (k := 6) (nest := false) d21_5 (by decide +kernel) (um_8 hM) (Nat.le_of_ble_eq_true rfl) rfl (Or.inl (by decide +kernel)) ?_
  refine u_step (o := 8) (i := 6) (v := nI n) hM hF (by decide) rfl (fun h hM hF => ?_)
  replace hA := hA.put2 (o0 := 8) (k := 6) (v := nI n) hn.symm
  generalize (updM P 8 6 (nI n)) = P at hM hA
  refine wp_aload_n d21_8 rfl ?_
  refine wp_getf (e := 9) (ci := 3) (k := 0) (nest := false) d21_9 (by decide +kernel) (um_8 (Reg.frm hW hF hdis)) rfl ?_
  refine wp_iconst d21_12 (v := nI 0) (by decide) ?_
  refine wp_aload_n d21_13 rfl ?_
  refine wp_getf (e := 9) (ci := 3) (k := 0) (nest := false) d21_14 (by decide +kernel) (um_8 hM) rfl ?_
  refine wp_iconst d21_17 (v := nI 0) (by decide) ?_
  refine wp_aload_n d21_18 rfl ?_
  refine wp_getf (e := 30) (ci := 3) (k := 6) (nest := false) (v := .int (nI n)) d21_19 (by decide +kernel) (um_8 hM) (congrArg (fun z => some (Value.int z)) (((hA 8 6).1 (Or.inr (Or.inr ⟨rfl, rfl⟩))).trans hn)) ?_
  refine wp_copy (e := 34) (j2 := 0) (sn := 0) (dn := 0) (nn := n) d21_22 (by decide +kernel) (um_9 (Reg.frm hW hF hdis)) (um_9 hM) (by decide) (by decide) (Int32.not_lt.mpr (nI_pos' (by omega))) (by decide) (by decide) (nI_nat (by omega)) (by omega) (by omega) (by decide) (by decide) (by decide) ?_
  refine u_stepA (o := 9) (f := va_cpy (M2 9) (P 9) 0 0 (n)) hM hF (by decide) rfl (fun h hM hF => ?_)
  replace hA := hA.arr2 9 (n)
  generalize (stM P 9 (va_cpy (M2 9) (P 9) 0 0 (n))) = P at hM hA
  refine wp_aload_n d21_25 rfl ?_
  refine wp_getf (e := 15) (ci := 3) (k := 1) (nest := false) d21_26 (by decide +kernel) (um_8 (Reg.frm hW hF hdis)) rfl ?_
  refine wp_iconst d21_29 (v := nI 0) (by decide) ?_
  refine wp_aload_n d21_30 rfl ?_
  refine wp_getf (e := 15) (ci := 3) (k := 1) (nest := false) d21_31 (by decide +kernel) (um_8 hM) rfl ?_
  refine wp_iconst d21_34 (v := nI 0) (by decide) ?_
  refine wp_aload_n d21_35 rfl ?_
  refine wp_getf (e := 30) (ci := 3) (k := 6) (nest := false) (v := .int (nI n)) d21_36 (by decide +kernel) (um_8 hM) (congrArg (fun z => some (Value.int z)) (((hA 8 6).1 (Or.inr (Or.inl (Or.inr ⟨rfl, rfl⟩)))).trans hn)) ?_
  refine wp_copy (e := 34) (j2 := 0) (sn := 0) (dn := 0) (nn := n) d21_39 (by decide +kernel) (um_10 (Reg.frm hW hF hdis)) (um_10 hM) (by decide) (by decide) (Int32.not_lt.mpr (nI_pos' (by omega))) (by decide) (by decide) (nI_nat (by omega)) (by omega) (by omega) (by decide) (by decide) (by decide) ?_
  refine u_stepA (o := 10) (f := va_cpy (M2 10) (P 10) 0 0 (n)) hM hF (by decide) rfl (fun h hM hF => ?_)
  replace hA := hA.arr2 10 (n)
  generalize (stM P 10 (va_cpy (M2 10) (P 10) 0 0 (n))) = P at hM hA
  refine wp_aload_n d21_42 rfl ?_
  refine wp_getf (e := 18) (ci := 3) (k := 2) (nest := false) d21_43 (by decide +kernel) (um_8 (Reg.frm hW hF hdis)) rfl ?_
  refine wp_iconst d21_46 (v := nI 0) (by decide) ?_
  refine wp_aload_n d21_47 rfl ?_
  refine wp_getf (e := 18) (ci := 3) (k := 2) (nest := false) d21_48 (by decide +kernel) (um_8 hM) rfl ?_
  refine wp_iconst d21_51 (v := nI 0) (by decide) ?_
  refine wp_aload_n d21_52 rfl ?_
  refine wp_getf (e := 30) (ci := 3) (k := 6) (nest := false) (v := .int (nI n)) d21_53 (by decide +kernel) (um_8 hM) (congrArg (fun z => some (Value.int z)) (((hA 8 6).1 (Or.inr (Or.inl (Or.inl (Or.inr ⟨rfl, rfl⟩))))).trans hn)) ?_
  refine wp_copy (e := 34) (j2 := 0) (sn := 0) (dn := 0) (nn := n) d21_56 (by decide +kernel) (um_11 (Reg.frm hW hF hdis)) (um_11 hM) (by decide) (by decide) (Int32.not_lt.mpr (nI_pos' (by omega))) (by decide) (by decide) (nI_nat (by omega)) (by omega) (by omega) (by decide) (by decide) (by decide) ?_
  refine u_stepA (o := 11) (f := va_cpy (M2 11) (P 11) 0 0 (n)) hM hF (by decide) rfl (fun h hM hF => ?_)
  replace hA := hA.arr2 11 (n)
  generalize (stM P 11 (va_cpy (M2 11) (P 11) 0 0 (n))) = P at hM hA
  refine wp_aload_n d21_59 rfl ?_
  refine wp_getf (e := 21) (ci := 3) (k := 3) (nest := false) d21_60 (by decide +kernel) (um_8 (Reg.frm hW hF hdis)) rfl ?_
  refine wp_iconst d21_63 (v := nI 0) (by decide) ?_
  refine wp_aload_n d21_64 rfl ?_
  refine wp_getf (e := 21) (ci := 3) (k := 3) (nest := false) d21_65 (by decide +kernel) (um_8 hM) rfl ?_
  refine wp_iconst d21_68 (v := nI 0) (by decide) ?_
  refine wp_aload_n d21_69 rfl ?_
  refine wp_getf (e := 30) (ci := 3) (k := 6) (nest := false) (v := .int (nI n)) d21_70 (by decide +kernel) (um_8 hM) (congrArg (fun z => some (Value.int z)) (((hA 8 6).1 (Or.inr (Or.inl (Or.inl (Or.inl (Or.inr ⟨rfl, rfl⟩)))))).trans hn)) ?_
  refine wp_copy (e := 34) (j2 := 0) (sn := 0) (dn := 0) (nn := n) d21_73 (by decide +kernel) (um_12 (Reg.frm hW hF hdis)) (um_12 hM) (by decide) (by decide) (Int32.not_lt.mpr (nI_pos' (by omega))) (by decide) (by decide) (nI_nat (by omega)) (by omega) (by omega) (by decide) (by decide) (by decide) ?_
  refine u_stepA (o := 12) (f := va_cpy (M2 12) (P 12) 0 0 (n)) hM hF (by decide) rfl (fun h hM hF => ?_)
  replace hA := hA.arr2 12 (n)
  generalize (stM P 12 (va_cpy (M2 12) (P 12) 0 0 (n))) = P at hM hA
  refine wp_aload_n d21_76 rfl ?_
  refine wp_getf (e := 24) (ci := 3) (k := 4) (nest := false) d21_77 (by decide +kernel) (um_8 (Reg.frm hW hF hdis)) rfl ?_
  refine wp_iconst d21_80 (v := nI 0) (by decide) ?_
  refine wp_aload_n d21_81 rfl ?_
  refine wp_getf (e := 24) (ci := 3) (k := 4) (nest := false) d21_82 (by decide +kernel) (um_8 hM) rfl ?_
  refine wp_iconst d21_85 (v := nI 0) (by decide) ?_
  refine wp_aload_n d21_86 rfl ?_
  refine wp_getf (e := 30) (ci := 3) (k := 6) (nest := false) (v := .int (nI n)) d21_87 (by decide +kernel) (um_8 hM) (congrArg (fun z => some (Value.int z)) (((hA 8 6).1 (Or.inr (Or.inl (Or.inl (Or.inl (Or.inl (Or.inr ⟨rfl, rfl⟩))))))).trans hn)) ?_
  refine wp_copy (e := 34) (j2 := 0) (sn := 0) (dn := 0) (nn := n) d21_90 (by decide +kernel) (um_13 (Reg.frm hW hF hdis)) (um_13 hM) (by decide) (by decide) (Int32.not_lt.mpr (nI_pos' (by omega))) (by decide) (by decide) (nI_nat (by omega)) (by omega) (by omega) (by decide) (by decide) (by decide) ?_
  refine u_stepA (o := 13) (f := va_cpy (M2 13) (P 13) 0 0 (n)) hM hF (by decide) rfl (fun h hM hF => ?_)
  replace hA := hA.arr2 13 (n)
  generalize (stM P 13 (va_cpy (M2 13) (P 13) 0 0 (n))) = P at hM hA
  refine wp_vret d21_93 (by decide +kernel) ?_
  refine ⟨rfl, P, hM, hF, hA.cg (fun o i => or_congr Iff.rfl (?_ : (((((((o < 0) ∨ (o = 8 ∧ i = 6)) ∨ (o = 9 ∧ i < n)) ∨ (o = 10 ∧ i < n)) ∨ (o = 11 ∧ i < n)) ∨ (o = 12 ∧ i < n)) ∨ (o = 13 ∧ i < n)) ↔ ((9 ≤ o ∧ o ≤ 13 ∧ i < n) ∨ (o = 8 ∧ i = 6))))⟩
  clear hA hM hF hW
  exact ⟨fun z => by omega, fun z => by omega⟩
theorem u_cpZ {X : mX} {h : mH} {B st B2 st2 : Nat} {P M M2 : Nat → Nat → Int32} {lv : Nat → Nat → Prop} (hM : Mus h B st P) (hW : Mus h B2 st2 M2) (hdis : B2 + 43 ≤ B ∨ B + 43 ≤ B2) (hA : Agr P M M2 lv)  : m_wp X 22 0 (m_entry 22 [.ref (B + 15), .ref (B2 + 15)]) [] h (fun w h1 => w = none ∧ ∃ P1, Mus h1 B st P1 ∧ Frm h h1 B 43 ∧ Agr P1 M M2 (fun o i => lv o i ∨ ((o = 16 ∧ i < 6) ∨ (o = 15 ∧ i = 1)))) := by
  have hF : Frm h h B 43 := Frm.rf
  replace hA := hA.st2
  refine wp_aload_n d22_0 rfl ?_
  refine wp_getf (e := 9) (ci := 4) (k := 0) (nest := false) d22_1 (by decide +kernel) (um_15 (Reg.frm hW hF hdis)) rfl ?_
  refine wp_iconst d22_4 (v := nI 0) (by decide) ?_
  refine wp_aload_n d22_5 rfl ?_
  refine wp_getf (e := 9) (ci := 4) (k := 0) (nest := false) d22_6 (by decide +kernel) (um_15 hM) rfl ?_
  refine wp_iconst d22_9 (v := nI 0) (by decide) ?_
  refine wp_bipush d22_10 (v := nI 6) (by decide) ?_
  refine wp_copy (e := 19) (j2 := 0) (sn := 0) (dn := 0) (nn := 6) d22_12 (by decide +kernel) (um_16 (Reg.frm hW hF hdis)) (um_16 hM) (by decide) (by decide) (Int32.not_lt.mpr (nI_pos' (by omega))) (by decide) (by decide) (nI_nat (by omega)) (by omega) (by omega) (by decide) (by decide) (by decide) ?_
  refine u_stepA (o := 16) (f := va_cpy (M2 16) (P 16) 0 0 (6)) hM hF (by decide) rfl (fun h hM hF => ?_)
  replace hA := hA.arr2 16 (6)
  generalize (stM P 16 (va_cpy (M2 16) (P 16) 0 0 (6))) = P at hM hA
  refine wp_aload_n d22_15 rfl ?_
  refine wp_aload_n d22_16 rfl ?_
  refine wp_getf (e := 15) (ci := 4) (k := 1) (nest := false) d22_17 (by decide +kernel) (um_15 (Reg.frm hW hF hdis)) rfl ?_
  refine wp_putf (e := 15) (ci := 4) (k := 1) (nest := false) d22_20 (by decide +kernel) (um_15 hM) (Nat.le_of_ble_eq_true rfl) rfl (Or.inl (by decide +kernel)) ?_
  refine u_step (o := 15) (i := 1) (v := M2 15 1) hM hF (by decide) rfl (fun h hM hF => ?_)
  replace hA := hA.put2 (o0 := 15) (k := 1) (v := M2 15 1) rfl
  generalize (updM P 15 1 (M2 15 1)) = P at hM hA
  refine wp_vret d22_23 (by decide +kernel) ?_
  refine ⟨rfl, P, hM, hF, hA.cg (fun o i => or_congr Iff.rfl (?_ : (((o < 0) ∨ (o = 16 ∧ i < 6)) ∨ (o = 15 ∧ i = 1)) ↔ ((o = 16 ∧ i < 6) ∨ (o = 15 ∧ i = 1))))⟩
  clear hA hM hF hW
  exact ⟨fun z => by omega, fun z => by omega⟩
theorem u_cpK {X : mX} {h : mH} {B st B2 st2 : Nat} {P M M2 : Nat → Nat → Int32} {lv : Nat → Nat → Prop} (hM : Mus h B st P) (hW : Mus h B2 st2 M2) (hdis : B2 + 43 ≤ B ∨ B + 43 ≤ B2) (hA : Agr P M M2 lv)  : m_wp X 23 0 (m_entry 23 [.ref (B + 17), .ref (B2 + 17)]) [] h (fun w h1 => w = none ∧ ∃ P1, Mus h1 B st P1 ∧ Frm h h1 B 43 ∧ Agr P1 M M2 (fun o i => lv o i ∨ (o = 18 ∧ i < 8))) := by
  have hF : Frm h h B 43 := Frm.rf
  replace hA := hA.st2
  refine wp_aload_n d23_0 rfl ?_
  refine wp_getf (e := 9) (ci := 5) (k := 0) (nest := false) d23_1 (by decide +kernel) (um_17 (Reg.frm hW hF hdis)) rfl ?_
  refine wp_iconst d23_4 (v := nI 0) (by decide) ?_
  refine wp_aload_n d23_5 rfl ?_
  refine wp_getf (e := 9) (ci := 5) (k := 0) (nest := false) d23_6 (by decide +kernel) (um_17 hM) rfl ?_
  refine wp_iconst d23_9 (v := nI 0) (by decide) ?_
  refine wp_bipush d23_10 (v := nI 8) (by decide) ?_
  refine wp_copy (e := 21) (j2 := 0) (sn := 0) (dn := 0) (nn := 8) d23_12 (by decide +kernel) (um_18 (Reg.frm hW hF hdis)) (um_18 hM) (by decide) (by decide) (Int32.not_lt.mpr (nI_pos' (by omega))) (by decide) (by decide) (nI_nat (by omega)) (by omega) (by omega) (by decide) (by decide) (by decide) ?_
  refine u_stepA (o := 18) (f := va_cpy (M2 18) (P 18) 0 0 (8)) hM hF (by decide) rfl (fun h hM hF => ?_)
  replace hA := hA.arr2 18 (8)
  generalize (stM P 18 (va_cpy (M2 18) (P 18) 0 0 (8))) = P at hM hA
  refine wp_vret d23_15 (by decide +kernel) ?_
  refine ⟨rfl, P, hM, hF, hA.cg (fun o i => or_congr Iff.rfl (?_ : ((o < 0) ∨ (o = 18 ∧ i < 8)) ↔ (o = 18 ∧ i < 8)))⟩
  clear hA hM hF hW
  exact ⟨fun z => by omega, fun z => by omega⟩
theorem u_cpG {X : mX} {h : mH} {B st B2 st2 : Nat} {P M M2 : Nat → Nat → Int32} {lv : Nat → Nat → Prop} (hM : Mus h B st P) (hW : Mus h B2 st2 M2) (hdis : B2 + 43 ≤ B ∨ B + 43 ≤ B2) (hA : Agr P M M2 lv) {n : Nat} (hn : M2 19 9 = nI n) (hn2 : n ≤ 4) : m_wp X 24 0 (m_entry 24 [.ref (B + 19), .ref (B2 + 19)]) [] h (fun w h1 => w = none ∧ ∃ P1, Mus h1 B st P1 ∧ Frm h h1 B 43 ∧ Agr P1 M M2 (fun o i => lv o i ∨ ((20 ≤ o ∧ o ≤ 27 ∧ i < n) ∨ (o = 28 ∧ i < n * 12) ∨ (o = 19 ∧ i = 9)))) := by
  have hF : Frm h h B 43 := Frm.rf
  replace hA := hA.st2
  refine wp_aload_n d24_0 rfl ?_
  refine wp_aload_n d24_1 rfl ?_
  refine wp_getf (e := 39) (ci := 6) (k := 9) (nest := false) (v := .int (nI n)) d24_2 (by decide +kernel) (um_19 (Reg.frm hW hF hdis)) (congrArg (fun z => some (Value.int z)) hn) ?_
  refine wp_putf (e := 39) (ci := 6) (k := 9) (nest := false) d24_5 (by decide +kernel) (um_19 hM) (Nat.le_of_ble_eq_true rfl) rfl (Or.inl (by decide +kernel)) ?_
  refine u_step (o := 19) (i := 9) (v := nI n) hM hF (by decide) rfl (fun h hM hF => ?_)
  replace hA := hA.put2 (o0 := 19) (k := 9) (v := nI n) hn.symm
  generalize (updM P 19 9 (nI n)) = P at hM hA
  refine wp_aload_n d24_8 rfl ?_
  refine wp_getf (e := 9) (ci := 6) (k := 0) (nest := false) d24_9 (by decide +kernel) (um_19 (Reg.frm hW hF hdis)) rfl ?_
  refine wp_iconst d24_12 (v := nI 0) (by decide) ?_
  refine wp_aload_n d24_13 rfl ?_
  refine wp_getf (e := 9) (ci := 6) (k := 0) (nest := false) d24_14 (by decide +kernel) (um_19 hM) rfl ?_
  refine wp_iconst d24_17 (v := nI 0) (by decide) ?_
  refine wp_aload_n d24_18 rfl ?_
  refine wp_getf (e := 39) (ci := 6) (k := 9) (nest := false) (v := .int (nI n)) d24_19 (by decide +kernel) (um_19 hM) (congrArg (fun z => some (Value.int z)) (((hA 19 9).1 (Or.inr (Or.inr ⟨rfl, rfl⟩))).trans hn)) ?_
  refine wp_copy (e := 43) (j2 := 0) (sn := 0) (dn := 0) (nn := n) d24_22 (by decide +kernel) (um_20 (Reg.frm hW hF hdis)) (um_20 hM) (by decide) (by decide) (Int32.not_lt.mpr (nI_pos' (by omega))) (by decide) (by decide) (nI_nat (by omega)) (by omega) (by omega) (by decide) (by decide) (by decide) ?_
  refine u_stepA (o := 20) (f := va_cpy (M2 20) (P 20) 0 0 (n)) hM hF (by decide) rfl (fun h hM hF => ?_)
  replace hA := hA.arr2 20 (n)
  generalize (stM P 20 (va_cpy (M2 20) (P 20) 0 0 (n))) = P at hM hA
  refine wp_aload_n d24_25 rfl ?_
  refine wp_getf (e := 15) (ci := 6) (k := 1) (nest := false) d24_26 (by decide +kernel) (um_19 (Reg.frm hW hF hdis)) rfl ?_
  refine wp_iconst d24_29 (v := nI 0) (by decide) ?_
  refine wp_aload_n d24_30 rfl ?_
  refine wp_getf (e := 15) (ci := 6) (k := 1) (nest := false) d24_31 (by decide +kernel) (um_19 hM) rfl ?_
  refine wp_iconst d24_34 (v := nI 0) (by decide) ?_
  refine wp_aload_n d24_35 rfl ?_
  refine wp_getf (e := 39) (ci := 6) (k := 9) (nest := false) (v := .int (nI n)) d24_36 (by decide +kernel) (um_19 hM) (congrArg (fun z => some (Value.int z)) (((hA 19 9).1 (Or.inr (Or.inl (Or.inr ⟨rfl, rfl⟩)))).trans hn)) ?_
  refine wp_copy (e := 43) (j2 := 0) (sn := 0) (dn := 0) (nn := n) d24_39 (by decide +kernel) (um_21 (Reg.frm hW hF hdis)) (um_21 hM) (by decide) (by decide) (Int32.not_lt.mpr (nI_pos' (by omega))) (by decide) (by decide) (nI_nat (by omega)) (by omega) (by omega) (by decide) (by decide) (by decide) ?_
  refine u_stepA (o := 21) (f := va_cpy (M2 21) (P 21) 0 0 (n)) hM hF (by decide) rfl (fun h hM hF => ?_)
  replace hA := hA.arr2 21 (n)
  generalize (stM P 21 (va_cpy (M2 21) (P 21) 0 0 (n))) = P at hM hA
  refine wp_aload_n d24_42 rfl ?_
  refine wp_getf (e := 18) (ci := 6) (k := 2) (nest := false) d24_43 (by decide +kernel) (um_19 (Reg.frm hW hF hdis)) rfl ?_
  refine wp_iconst d24_46 (v := nI 0) (by decide) ?_
  refine wp_aload_n d24_47 rfl ?_
  refine wp_getf (e := 18) (ci := 6) (k := 2) (nest := false) d24_48 (by decide +kernel) (um_19 hM) rfl ?_
  refine wp_iconst d24_51 (v := nI 0) (by decide) ?_
  refine wp_aload_n d24_52 rfl ?_
  refine wp_getf (e := 39) (ci := 6) (k := 9) (nest := false) (v := .int (nI n)) d24_53 (by decide +kernel) (um_19 hM) (congrArg (fun z => some (Value.int z)) (((hA 19 9).1 (Or.inr (Or.inl (Or.inl (Or.inr ⟨rfl, rfl⟩))))).trans hn)) ?_
  refine wp_copy (e := 43) (j2 := 0) (sn := 0) (dn := 0) (nn := n) d24_56 (by decide +kernel) (um_22 (Reg.frm hW hF hdis)) (um_22 hM) (by decide) (by decide) (Int32.not_lt.mpr (nI_pos' (by omega))) (by decide) (by decide) (nI_nat (by omega)) (by omega) (by omega) (by decide) (by decide) (by decide) ?_
  refine u_stepA (o := 22) (f := va_cpy (M2 22) (P 22) 0 0 (n)) hM hF (by decide) rfl (fun h hM hF => ?_)
  replace hA := hA.arr2 22 (n)
  generalize (stM P 22 (va_cpy (M2 22) (P 22) 0 0 (n))) = P at hM hA
  refine wp_aload_n d24_59 rfl ?_
  refine wp_getf (e := 21) (ci := 6) (k := 3) (nest := false) d24_60 (by decide +kernel) (um_19 (Reg.frm hW hF hdis)) rfl ?_
  refine wp_iconst d24_63 (v := nI 0) (by decide) ?_
  refine wp_aload_n d24_64 rfl ?_
  refine wp_getf (e := 21) (ci := 6) (k := 3) (nest := false) d24_65 (by decide +kernel) (um_19 hM) rfl ?_
  refine wp_iconst d24_68 (v := nI 0) (by decide) ?_
  refine wp_aload_n d24_69 rfl ?_
  refine wp_getf (e := 39) (ci := 6) (k := 9) (nest := false) (v := .int (nI n)) d24_70 (by decide +kernel) (um_19 hM) (congrArg (fun z => some (Value.int z)) (((hA 19 9).1 (Or.inr (Or.inl (Or.inl (Or.inl (Or.inr ⟨rfl, rfl⟩)))))).trans hn)) ?_
  refine wp_copy (e := 43) (j2 := 0) (sn := 0) (dn := 0) (nn := n) d24_73 (by decide +kernel) (um_23 (Reg.frm hW hF hdis)) (um_23 hM) (by decide) (by decide) (Int32.not_lt.mpr (nI_pos' (by omega))) (by decide) (by decide) (nI_nat (by omega)) (by omega) (by omega) (by decide) (by decide) (by decide) ?_
  refine u_stepA (o := 23) (f := va_cpy (M2 23) (P 23) 0 0 (n)) hM hF (by decide) rfl (fun h hM hF => ?_)
  replace hA := hA.arr2 23 (n)
  generalize (stM P 23 (va_cpy (M2 23) (P 23) 0 0 (n))) = P at hM hA
  refine wp_aload_n d24_76 rfl ?_
  refine wp_getf (e := 24) (ci := 6) (k := 4) (nest := false) d24_77 (by decide +kernel) (um_19 (Reg.frm hW hF hdis)) rfl ?_
  refine wp_iconst d24_80 (v := nI 0) (by decide) ?_
  refine wp_aload_n d24_81 rfl ?_
  refine wp_getf (e := 24) (ci := 6) (k := 4) (nest := false) d24_82 (by decide +kernel) (um_19 hM) rfl ?_
  refine wp_iconst d24_85 (v := nI 0) (by decide) ?_
  refine wp_aload_n d24_86 rfl ?_
  refine wp_getf (e := 39) (ci := 6) (k := 9) (nest := false) (v := .int (nI n)) d24_87 (by decide +kernel) (um_19 hM) (congrArg (fun z => some (Value.int z)) (((hA 19 9).1 (Or.inr (Or.inl (Or.inl (Or.inl (Or.inl (Or.inr ⟨rfl, rfl⟩))))))).trans hn)) ?_
  refine wp_copy (e := 43) (j2 := 0) (sn := 0) (dn := 0) (nn := n) d24_90 (by decide +kernel) (um_24 (Reg.frm hW hF hdis)) (um_24 hM) (by decide) (by decide) (Int32.not_lt.mpr (nI_pos' (by omega))) (by decide) (by decide) (nI_nat (by omega)) (by omega) (by omega) (by decide) (by decide) (by decide) ?_
  refine u_stepA (o := 24) (f := va_cpy (M2 24) (P 24) 0 0 (n)) hM hF (by decide) rfl (fun h hM hF => ?_)
  replace hA := hA.arr2 24 (n)
  generalize (stM P 24 (va_cpy (M2 24) (P 24) 0 0 (n))) = P at hM hA
  refine wp_aload_n d24_93 rfl ?_
  refine wp_getf (e := 27) (ci := 6) (k := 5) (nest := false) d24_94 (by decide +kernel) (um_19 (Reg.frm hW hF hdis)) rfl ?_
  refine wp_iconst d24_97 (v := nI 0) (by decide) ?_
  refine wp_aload_n d24_98 rfl ?_
  refine wp_getf (e := 27) (ci := 6) (k := 5) (nest := false) d24_99 (by decide +kernel) (um_19 hM) rfl ?_
  refine wp_iconst d24_102 (v := nI 0) (by decide) ?_
  refine wp_aload_n d24_103 rfl ?_
  refine wp_getf (e := 39) (ci := 6) (k := 9) (nest := false) (v := .int (nI n)) d24_104 (by decide +kernel) (um_19 hM) (congrArg (fun z => some (Value.int z)) (((hA 19 9).1 (Or.inr (Or.inl (Or.inl (Or.inl (Or.inl (Or.inl (Or.inr ⟨rfl, rfl⟩)))))))).trans hn)) ?_
  refine wp_copy (e := 43) (j2 := 0) (sn := 0) (dn := 0) (nn := n) d24_107 (by decide +kernel) (um_25 (Reg.frm hW hF hdis)) (um_25 hM) (by decide) (by decide) (Int32.not_lt.mpr (nI_pos' (by omega))) (by decide) (by decide) (nI_nat (by omega)) (by omega) (by omega) (by decide) (by decide) (by decide) ?_
  refine u_stepA (o := 25) (f := va_cpy (M2 25) (P 25) 0 0 (n)) hM hF (by decide) rfl (fun h hM hF => ?_)
  replace hA := hA.arr2 25 (n)
  generalize (stM P 25 (va_cpy (M2 25) (P 25) 0 0 (n))) = P at hM hA
  refine wp_aload_n d24_110 rfl ?_
  refine wp_getf (e := 30) (ci := 6) (k := 6) (nest := false) d24_111 (by decide +kernel) (um_19 (Reg.frm hW hF hdis)) rfl ?_
  refine wp_iconst d24_114 (v := nI 0) (by decide) ?_
  refine wp_aload_n d24_115 rfl ?_
  refine wp_getf (e := 30) (ci := 6) (k := 6) (nest := false) d24_116 (by decide +kernel) (um_19 hM) rfl ?_
  refine wp_iconst d24_119 (v := nI 0) (by decide) ?_
  refine wp_aload_n d24_120 rfl ?_
  refine wp_getf (e := 39) (ci := 6) (k := 9) (nest := false) (v := .int (nI n)) d24_121 (by decide +kernel) (um_19 hM) (congrArg (fun z => some (Value.int z)) (((hA 19 9).1 (Or.inr (Or.inl (Or.inl (Or.inl (Or.inl (Or.inl (Or.inl (Or.inr ⟨rfl, rfl⟩))))))))).trans hn)) ?_
  refine wp_copy (e := 43) (j2 := 0) (sn := 0) (dn := 0) (nn := n) d24_124 (by decide +kernel) (um_26 (Reg.frm hW hF hdis)) (um_26 hM) (by decide) (by decide) (Int32.not_lt.mpr (nI_pos' (by omega))) (by decide) (by decide) (nI_nat (by omega)) (by omega) (by omega) (by decide) (by decide) (by decide) ?_
  refine u_stepA (o := 26) (f := va_cpy (M2 26) (P 26) 0 0 (n)) hM hF (by decide) rfl (fun h hM hF => ?_)
  replace hA := hA.arr2 26 (n)
  generalize (stM P 26 (va_cpy (M2 26) (P 26) 0 0 (n))) = P at hM hA
  refine wp_aload_n d24_127 rfl ?_
  refine wp_getf (e := 33) (ci := 6) (k := 7) (nest := false) d24_128 (by decide +kernel) (um_19 (Reg.frm hW hF hdis)) rfl ?_
  refine wp_iconst d24_131 (v := nI 0) (by decide) ?_
  refine wp_aload_n d24_132 rfl ?_
  refine wp_getf (e := 33) (ci := 6) (k := 7) (nest := false) d24_133 (by decide +kernel) (um_19 hM) rfl ?_
  refine wp_iconst d24_136 (v := nI 0) (by decide) ?_
  refine wp_aload_n d24_137 rfl ?_
  refine wp_getf (e := 39) (ci := 6) (k := 9) (nest := false) (v := .int (nI n)) d24_138 (by decide +kernel) (um_19 hM) (congrArg (fun z => some (Value.int z)) (((hA 19 9).1 (Or.inr (Or.inl (Or.inl (Or.inl (Or.inl (Or.inl (Or.inl (Or.inl (Or.inr ⟨rfl, rfl⟩)))))))))).trans hn)) ?_
  refine wp_copy (e := 43) (j2 := 0) (sn := 0) (dn := 0) (nn := n) d24_141 (by decide +kernel) (um_27 (Reg.frm hW hF hdis)) (um_27 hM) (by decide) (by decide) (Int32.not_lt.mpr (nI_pos' (by omega))) (by decide) (by decide) (nI_nat (by omega)) (by omega) (by omega) (by decide) (by decide) (by decide) ?_
  refine u_stepA (o := 27) (f := va_cpy (M2 27) (P 27) 0 0 (n)) hM hF (by decide) rfl (fun h hM hF => ?_)
  replace hA := hA.arr2 27 (n)
  generalize (stM P 27 (va_cpy (M2 27) (P 27) 0 0 (n))) = P at hM hA
  refine wp_aload_n d24_144 rfl ?_
  refine wp_getf (e := 36) (ci := 6) (k := 8) (nest := false) d24_145 (by decide +kernel) (um_19 (Reg.frm hW hF hdis)) rfl ?_
  refine wp_iconst d24_148 (v := nI 0) (by decide) ?_
  refine wp_aload_n d24_149 rfl ?_
  refine wp_getf (e := 36) (ci := 6) (k := 8) (nest := false) d24_150 (by decide +kernel) (um_19 hM) rfl ?_
  refine wp_iconst d24_153 (v := nI 0) (by decide) ?_
  refine wp_aload_n d24_154 rfl ?_
  refine wp_getf (e := 39) (ci := 6) (k := 9) (nest := false) (v := .int (nI n)) d24_155 (by decide +kernel) (um_19 hM) (congrArg (fun z => some (Value.int z)) (((hA 19 9).1 (Or.inr (Or.inl (Or.inl (Or.inl (Or.inl (Or.inl (Or.inl (Or.inl (Or.inl (Or.inr ⟨rfl, rfl⟩))))))))))).trans hn)) ?_
  refine wp_bipush d24_158 (v := nI 12) (by decide) ?_
  refine wp_imulv d24_160 (v := nI (n * 12)) (nI_mul _ _) ?_
  refine wp_copy (e := 43) (j2 := 0) (sn := 0) (dn := 0) (nn := n * 12) d24_161 (by decide +kernel) (um_28 (Reg.frm hW hF hdis)) (um_28 hM) (by decide) (by decide) (Int32.not_lt.mpr (nI_pos' (by omega))) (by decide) (by decide) (nI_nat (by omega)) (by omega) (by omega) (by decide) (by decide) (by decide) ?_
  refine u_stepA (o := 28) (f := va_cpy (M2 28) (P 28) 0 0 (n * 12)) hM hF (by decide) rfl (fun h hM hF => ?_)
  replace hA := hA.arr2 28 (n * 12)
  generalize (stM P 28 (va_cpy (M2 28) (P 28) 0 0 (n * 12))) = P at hM hA
  refine wp_vret d24_164 (by decide +kernel) ?_
  refine ⟨rfl, P, hM, hF, hA.cg (fun o i => or_congr Iff.rfl (?_ : (((((((((((o < 0) ∨ (o = 19 ∧ i = 9)) ∨ (o = 20 ∧ i < n)) ∨ (o = 21 ∧ i < n)) ∨ (o = 22 ∧ i < n)) ∨ (o = 23 ∧ i < n)) ∨ (o = 24 ∧ i < n)) ∨ (o = 25 ∧ i < n)) ∨ (o = 26 ∧ i < n)) ∨ (o = 27 ∧ i < n)) ∨ (o = 28 ∧ i < n * 12)) ↔ ((20 ≤ o ∧ o ≤ 27 ∧ i < n) ∨ (o = 28 ∧ i < n * 12) ∨ (o = 19 ∧ i = 9))))⟩
  clear hA hM hF hW
  exact ⟨fun z => by omega, fun z => by omega⟩
theorem u_cpW {X : mX} {h : mH} {B st B2 st2 : Nat} {P M M2 : Nat → Nat → Int32} {lv : Nat → Nat → Prop} (hM : Mus h B st P) (hW : Mus h B2 st2 M2) (hdis : B2 + 43 ≤ B ∨ B + 43 ≤ B2) (hA : Agr P M M2 lv) {n : Nat} (hn : M2 29 5 = nI n) (hn2 : n ≤ 10) : m_wp X 25 0 (m_entry 25 [.ref (B + 29), .ref (B2 + 29)]) [] h (fun w h1 => w = none ∧ ∃ P1, Mus h1 B st P1 ∧ Frm h h1 B 43 ∧ Agr P1 M M2 (fun o i => lv o i ∨ ((30 ≤ o ∧ o ≤ 34 ∧ i < n) ∨ (o = 29 ∧ i = 5)))) := by
  have hF : Frm h h B 43 := Frm.rf
  replace hA := hA.st2
  refine wp_aload_n d25_0 rfl ?_
  refine wp_aload_n d25_1 rfl ?_
  refine wp_getf (e := 27) (ci := 7) (k := 5) (nest := false) (v := .int (nI n)) d25_2 (by decide +kernel) (um_29 (Reg.frm hW hF hdis)) (congrArg (fun z => some (Value.int z)) hn) ?_
  refine wp_putf (e := 27) (ci := 7) (k := 5) (nest := false) d25_5 (by decide +kernel) (um_29 hM) (Nat.le_of_ble_eq_true rfl) rfl (Or.inl (by decide +kernel)) ?_
  refine u_step (o := 29) (i := 5) (v := nI n) hM hF (by decide) rfl (fun h hM hF => ?_)
  replace hA := hA.put2 (o0 := 29) (k := 5) (v := nI n) hn.symm
  generalize (updM P 29 5 (nI n)) = P at hM hA
  refine wp_aload_n d25_8 rfl ?_
  refine wp_getf (e := 9) (ci := 7) (k := 0) (nest := false) d25_9 (by decide +kernel) (um_29 (Reg.frm hW hF hdis)) rfl ?_
  refine wp_iconst d25_12 (v := nI 0) (by decide) ?_
  refine wp_aload_n d25_13 rfl ?_
  refine wp_getf (e := 9) (ci := 7) (k := 0) (nest := false) d25_14 (by decide +kernel) (um_29 hM) rfl ?_
  refine wp_iconst d25_17 (v := nI 0) (by decide) ?_
  refine wp_aload_n d25_18 rfl ?_
  refine wp_getf (e := 27) (ci := 7) (k := 5) (nest := false) (v := .int (nI n)) d25_19 (by decide +kernel) (um_29 hM) (congrArg (fun z => some (Value.int z)) (((hA 29 5).1 (Or.inr (Or.inr ⟨rfl, rfl⟩))).trans hn)) ?_
  refine wp_copy (e := 31) (j2 := 0) (sn := 0) (dn := 0) (nn := n) d25_22 (by decide +kernel) (um_30 (Reg.frm hW hF hdis)) (um_30 hM) (by decide) (by decide) (Int32.not_lt.mpr (nI_pos' (by omega))) (by decide) (by decide) (nI_nat (by omega)) (by omega) (by omega) (by decide) (by decide) (by decide) ?_
  refine u_stepA (o := 30) (f := va_cpy (M2 30) (P 30) 0 0 (n)) hM hF (by decide) rfl (fun h hM hF => ?_)
  replace hA := hA.arr2 30 (n)
  generalize (stM P 30 (va_cpy (M2 30) (P 30) 0 0 (n))) = P at hM hA
  refine wp_aload_n d25_25 rfl ?_
  refine wp_getf (e := 15) (ci := 7) (k := 1) (nest := false) d25_26 (by decide +kernel) (um_29 (Reg.frm hW hF hdis)) rfl ?_
  refine wp_iconst d25_29 (v := nI 0) (by decide) ?_
  refine wp_aload_n d25_30 rfl ?_
  refine wp_getf (e := 15) (ci := 7) (k := 1) (nest := false) d25_31 (by decide +kernel) (um_29 hM) rfl ?_
  refine wp_iconst d25_34 (v := nI 0) (by decide) ?_
  refine wp_aload_n d25_35 rfl ?_
  refine wp_getf (e := 27) (ci := 7) (k := 5) (nest := false) (v := .int (nI n)) d25_36 (by decide +kernel) (um_29 hM) (congrArg (fun z => some (Value.int z)) (((hA 29 5).1 (Or.inr (Or.inl (Or.inr ⟨rfl, rfl⟩)))).trans hn)) ?_
  refine wp_copy (e := 31) (j2 := 0) (sn := 0) (dn := 0) (nn := n) d25_39 (by decide +kernel) (um_31 (Reg.frm hW hF hdis)) (um_31 hM) (by decide) (by decide) (Int32.not_lt.mpr (nI_pos' (by omega))) (by decide) (by decide) (nI_nat (by omega)) (by omega) (by omega) (by decide) (by decide) (by decide) ?_
  refine u_stepA (o := 31) (f := va_cpy (M2 31) (P 31) 0 0 (n)) hM hF (by decide) rfl (fun h hM hF => ?_)
  replace hA := hA.arr2 31 (n)
  generalize (stM P 31 (va_cpy (M2 31) (P 31) 0 0 (n))) = P at hM hA
  refine wp_aload_n d25_42 rfl ?_
  refine wp_getf (e := 18) (ci := 7) (k := 2) (nest := false) d25_43 (by decide +kernel) (um_29 (Reg.frm hW hF hdis)) rfl ?_
  refine wp_iconst d25_46 (v := nI 0) (by decide) ?_
  refine wp_aload_n d25_47 rfl ?_
  refine wp_getf (e := 18) (ci := 7) (k := 2) (nest := false) d25_48 (by decide +kernel) (um_29 hM) rfl ?_
  refine wp_iconst d25_51 (v := nI 0) (by decide) ?_
  refine wp_aload_n d25_52 rfl ?_
  refine wp_getf (e := 27) (ci := 7) (k := 5) (nest := false) (v := .int (nI n)) d25_53 (by decide +kernel) (um_29 hM) (congrArg (fun z => some (Value.int z)) (((hA 29 5).1 (Or.inr (Or.inl (Or.inl (Or.inr ⟨rfl, rfl⟩))))).trans hn)) ?_
  refine wp_copy (e := 31) (j2 := 0) (sn := 0) (dn := 0) (nn := n) d25_56 (by decide +kernel) (um_32 (Reg.frm hW hF hdis)) (um_32 hM) (by decide) (by decide) (Int32.not_lt.mpr (nI_pos' (by omega))) (by decide) (by decide) (nI_nat (by omega)) (by omega) (by omega) (by decide) (by decide) (by decide) ?_
  refine u_stepA (o := 32) (f := va_cpy (M2 32) (P 32) 0 0 (n)) hM hF (by decide) rfl (fun h hM hF => ?_)
  replace hA := hA.arr2 32 (n)
  generalize (stM P 32 (va_cpy (M2 32) (P 32) 0 0 (n))) = P at hM hA
  refine wp_aload_n d25_59 rfl ?_
  refine wp_getf (e := 21) (ci := 7) (k := 3) (nest := false) d25_60 (by decide +kernel) (um_29 (Reg.frm hW hF hdis)) rfl ?_
  refine wp_iconst d25_63 (v := nI 0) (by decide) ?_
  refine wp_aload_n d25_64 rfl ?_
  refine wp_getf (e := 21) (ci := 7) (k := 3) (nest := false) d25_65 (by decide +kernel) (um_29 hM) rfl ?_
  refine wp_iconst d25_68 (v := nI 0) (by decide) ?_
  refine wp_aload_n d25_69 rfl ?_
  refine wp_getf (e := 27) (ci := 7) (k := 5) (nest := false) (v := .int (nI n)) d25_70 (by decide +kernel) (um_29 hM) (congrArg (fun z => some (Value.int z)) (((hA 29 5).1 (Or.inr (Or.inl (Or.inl (Or.inl (Or.inr ⟨rfl, rfl⟩)))))).trans hn)) ?_
  refine wp_copy (e := 31) (j2 := 0) (sn := 0) (dn := 0) (nn := n) d25_73 (by decide +kernel) (um_33 (Reg.frm hW hF hdis)) (um_33 hM) (by decide) (by decide) (Int32.not_lt.mpr (nI_pos' (by omega))) (by decide) (by decide) (nI_nat (by omega)) (by omega) (by omega) (by decide) (by decide) (by decide) ?_
  refine u_stepA (o := 33) (f := va_cpy (M2 33) (P 33) 0 0 (n)) hM hF (by decide) rfl (fun h hM hF => ?_)
  replace hA := hA.arr2 33 (n)
  generalize (stM P 33 (va_cpy (M2 33) (P 33) 0 0 (n))) = P at hM hA
  refine wp_aload_n d25_76 rfl ?_
  refine wp_getf (e := 24) (ci := 7) (k := 4) (nest := false) d25_77 (by decide +kernel) (um_29 (Reg.frm hW hF hdis)) rfl ?_
  refine wp_iconst d25_80 (v := nI 0) (by decide) ?_
  refine wp_aload_n d25_81 rfl ?_
  refine wp_getf (e := 24) (ci := 7) (k := 4) (nest := false) d25_82 (by decide +kernel) (um_29 hM) rfl ?_
  refine wp_iconst d25_85 (v := nI 0) (by decide) ?_
  refine wp_aload_n d25_86 rfl ?_
  refine wp_getf (e := 27) (ci := 7) (k := 5) (nest := false) (v := .int (nI n)) d25_87 (by decide +kernel) (um_29 hM) (congrArg (fun z => some (Value.int z)) (((hA 29 5).1 (Or.inr (Or.inl (Or.inl (Or.inl (Or.inl (Or.inr ⟨rfl, rfl⟩))))))).trans hn)) ?_
  refine wp_copy (e := 31) (j2 := 0) (sn := 0) (dn := 0) (nn := n) d25_90 (by decide +kernel) (um_34 (Reg.frm hW hF hdis)) (um_34 hM) (by decide) (by decide) (Int32.not_lt.mpr (nI_pos' (by omega))) (by decide) (by decide) (nI_nat (by omega)) (by omega) (by omega) (by decide) (by decide) (by decide) ?_
  refine u_stepA (o := 34) (f := va_cpy (M2 34) (P 34) 0 0 (n)) hM hF (by decide) rfl (fun h hM hF => ?_)
  replace hA := hA.arr2 34 (n)
  generalize (stM P 34 (va_cpy (M2 34) (P 34) 0 0 (n))) = P at hM hA
  refine wp_vret d25_93 (by decide +kernel) ?_
  refine ⟨rfl, P, hM, hF, hA.cg (fun o i => or_congr Iff.rfl (?_ : (((((((o < 0) ∨ (o = 29 ∧ i = 5)) ∨ (o = 30 ∧ i < n)) ∨ (o = 31 ∧ i < n)) ∨ (o = 32 ∧ i < n)) ∨ (o = 33 ∧ i < n)) ∨ (o = 34 ∧ i < n)) ↔ ((30 ≤ o ∧ o ≤ 34 ∧ i < n) ∨ (o = 29 ∧ i = 5))))⟩
  clear hA hM hF hW
  exact ⟨fun z => by omega, fun z => by omega⟩
theorem u_cpA {X : mX} {h : mH} {B st B2 st2 : Nat} {P M M2 : Nat → Nat → Int32} {lv : Nat → Nat → Prop} (hM : Mus h B st P) (hW : Mus h B2 st2 M2) (hdis : B2 + 43 ≤ B ∨ B + 43 ≤ B2) (hA : Agr P M M2 lv) {n : Nat} (hn : M2 35 5 = nI n) (hn2 : n ≤ 40) : m_wp X 26 0 (m_entry 26 [.ref (B + 35), .ref (B2 + 35)]) [] h (fun w h1 => w = none ∧ ∃ P1, Mus h1 B st P1 ∧ Frm h h1 B 43 ∧ Agr P1 M M2 (fun o i => lv o i ∨ ((36 ≤ o ∧ o ≤ 40 ∧ i < n) ∨ (o = 35 ∧ (i = 5 ∨ i = 6))))) := by
  have hF : Frm h h B 43 := Frm.rf
  replace hA := hA.st2
  refine wp_aload_n d26_0 rfl ?_
  refine wp_aload_n d26_1 rfl ?_
  refine wp_getf (e := 27) (ci := 8) (k := 5) (nest := false) (v := .int (nI n)) d26_2 (by decide +kernel) (um_35 (Reg.frm hW hF hdis)) (congrArg (fun z => some (Value.int z)) hn) ?_
  refine wp_putf (e := 27) (ci := 8) (k := 5) (nest := false) d26_5 (by decide +kernel) (um_35 hM) (Nat.le_of_ble_eq_true rfl) rfl (Or.inl (by decide +kernel)) ?_
  refine u_step (o := 35) (i := 5) (v := nI n) hM hF (by decide) rfl (fun h hM hF => ?_)
  replace hA := hA.put2 (o0 := 35) (k := 5) (v := nI n) hn.symm
  generalize (updM P 35 5 (nI n)) = P at hM hA
  refine wp_aload_n d26_8 rfl ?_
  refine wp_aload_n d26_9 rfl ?_
  refine wp_getf (e := 31) (ci := 8) (k := 6) (nest := false) d26_10 (by decide +kernel) (um_35 (Reg.frm hW hF hdis)) rfl ?_
  refine wp_putf (e := 31) (ci := 8) (k := 6) (nest := false) d26_13 (by decide +kernel) (um_35 hM) (Nat.le_of_ble_eq_true rfl) rfl (Or.inl (by decide +kernel)) ?_
  refine u_step (o := 35) (i := 6) (v := M2 35 6) hM hF (by decide) rfl (fun h hM hF => ?_)
  replace hA := hA.put2 (o0 := 35) (k := 6) (v := M2 35 6) rfl
  generalize (updM P 35 6 (M2 35 6)) = P at hM hA
  refine wp_aload_n d26_16 rfl ?_
  refine wp_getf (e := 9) (ci := 8) (k := 0) (nest := false) d26_17 (by decide +kernel) (um_35 (Reg.frm hW hF hdis)) rfl ?_
  refine wp_iconst d26_20 (v := nI 0) (by decide) ?_
  refine wp_aload_n d26_21 rfl ?_
  refine wp_getf (e := 9) (ci := 8) (k := 0) (nest := false) d26_22 (by decide +kernel) (um_35 hM) rfl ?_
  refine wp_iconst d26_25 (v := nI 0) (by decide) ?_
  refine wp_aload_n d26_26 rfl ?_
  refine wp_getf (e := 27) (ci := 8) (k := 5) (nest := false) (v := .int (nI n)) d26_27 (by decide +kernel) (um_35 hM) (congrArg (fun z => some (Value.int z)) (((hA 35 5).1 (Or.inr (Or.inl (Or.inr ⟨rfl, rfl⟩)))).trans hn)) ?_
  refine wp_copy (e := 34) (j2 := 0) (sn := 0) (dn := 0) (nn := n) d26_30 (by decide +kernel) (um_36 (Reg.frm hW hF hdis)) (um_36 hM) (by decide) (by decide) (Int32.not_lt.mpr (nI_pos' (by omega))) (by decide) (by decide) (nI_nat (by omega)) (by omega) (by omega) (by decide) (by decide) (by decide) ?_
  refine u_stepA (o := 36) (f := va_cpy (M2 36) (P 36) 0 0 (n)) hM hF (by decide) rfl (fun h hM hF => ?_)
  replace hA := hA.arr2 36 (n)
  generalize (stM P 36 (va_cpy (M2 36) (P 36) 0 0 (n))) = P at hM hA
  refine wp_aload_n d26_33 rfl ?_
  refine wp_getf (e := 15) (ci := 8) (k := 1) (nest := false) d26_34 (by decide +kernel) (um_35 (Reg.frm hW hF hdis)) rfl ?_
  refine wp_iconst d26_37 (v := nI 0) (by decide) ?_
  refine wp_aload_n d26_38 rfl ?_
  refine wp_getf (e := 15) (ci := 8) (k := 1) (nest := false) d26_39 (by decide +kernel) (um_35 hM) rfl ?_
  refine wp_iconst d26_42 (v := nI 0) (by decide) ?_
  refine wp_aload_n d26_43 rfl ?_
  refine wp_getf (e := 27) (ci := 8) (k := 5) (nest := false) (v := .int (nI n)) d26_44 (by decide +kernel) (um_35 hM) (congrArg (fun z => some (Value.int z)) (((hA 35 5).1 (Or.inr (Or.inl (Or.inl (Or.inr ⟨rfl, rfl⟩))))).trans hn)) ?_
  refine wp_copy (e := 34) (j2 := 0) (sn := 0) (dn := 0) (nn := n) d26_47 (by decide +kernel) (um_37 (Reg.frm hW hF hdis)) (um_37 hM) (by decide) (by decide) (Int32.not_lt.mpr (nI_pos' (by omega))) (by decide) (by decide) (nI_nat (by omega)) (by omega) (by omega) (by decide) (by decide) (by decide) ?_
  refine u_stepA (o := 37) (f := va_cpy (M2 37) (P 37) 0 0 (n)) hM hF (by decide) rfl (fun h hM hF => ?_)
  replace hA := hA.arr2 37 (n)
  generalize (stM P 37 (va_cpy (M2 37) (P 37) 0 0 (n))) = P at hM hA
  refine wp_aload_n d26_50 rfl ?_
  refine wp_getf (e := 18) (ci := 8) (k := 2) (nest := false) d26_51 (by decide +kernel) (um_35 (Reg.frm hW hF hdis)) rfl ?_
  refine wp_iconst d26_54 (v := nI 0) (by decide) ?_
  refine wp_aload_n d26_55 rfl ?_
  refine wp_getf (e := 18) (ci := 8) (k := 2) (nest := false) d26_56 (by decide +kernel) (um_35 hM) rfl ?_
  refine wp_iconst d26_59 (v := nI 0) (by decide) ?_
  refine wp_aload_n d26_60 rfl ?_
  refine wp_getf (e := 27) (ci := 8) (k := 5) (nest := false) (v := .int (nI n)) d26_61 (by decide +kernel) (um_35 hM) (congrArg (fun z => some (Value.int z)) (((hA 35 5).1 (Or.inr (Or.inl (Or.inl (Or.inl (Or.inr ⟨rfl, rfl⟩)))))).trans hn)) ?_
  refine wp_copy (e := 34) (j2 := 0) (sn := 0) (dn := 0) (nn := n) d26_64 (by decide +kernel) (um_38 (Reg.frm hW hF hdis)) (um_38 hM) (by decide) (by decide) (Int32.not_lt.mpr (nI_pos' (by omega))) (by decide) (by decide) (nI_nat (by omega)) (by omega) (by omega) (by decide) (by decide) (by decide) ?_
  refine u_stepA (o := 38) (f := va_cpy (M2 38) (P 38) 0 0 (n)) hM hF (by decide) rfl (fun h hM hF => ?_)
  replace hA := hA.arr2 38 (n)
  generalize (stM P 38 (va_cpy (M2 38) (P 38) 0 0 (n))) = P at hM hA
  refine wp_aload_n d26_67 rfl ?_
  refine wp_getf (e := 21) (ci := 8) (k := 3) (nest := false) d26_68 (by decide +kernel) (um_35 (Reg.frm hW hF hdis)) rfl ?_
  refine wp_iconst d26_71 (v := nI 0) (by decide) ?_
  refine wp_aload_n d26_72 rfl ?_
  refine wp_getf (e := 21) (ci := 8) (k := 3) (nest := false) d26_73 (by decide +kernel) (um_35 hM) rfl ?_
  refine wp_iconst d26_76 (v := nI 0) (by decide) ?_
  refine wp_aload_n d26_77 rfl ?_
  refine wp_getf (e := 27) (ci := 8) (k := 5) (nest := false) (v := .int (nI n)) d26_78 (by decide +kernel) (um_35 hM) (congrArg (fun z => some (Value.int z)) (((hA 35 5).1 (Or.inr (Or.inl (Or.inl (Or.inl (Or.inl (Or.inr ⟨rfl, rfl⟩))))))).trans hn)) ?_
  refine wp_copy (e := 34) (j2 := 0) (sn := 0) (dn := 0) (nn := n) d26_81 (by decide +kernel) (um_39 (Reg.frm hW hF hdis)) (um_39 hM) (by decide) (by decide) (Int32.not_lt.mpr (nI_pos' (by omega))) (by decide) (by decide) (nI_nat (by omega)) (by omega) (by omega) (by decide) (by decide) (by decide) ?_
  refine u_stepA (o := 39) (f := va_cpy (M2 39) (P 39) 0 0 (n)) hM hF (by decide) rfl (fun h hM hF => ?_)
  replace hA := hA.arr2 39 (n)
  generalize (stM P 39 (va_cpy (M2 39) (P 39) 0 0 (n))) = P at hM hA
  refine wp_aload_n d26_84 rfl ?_
  refine wp_getf (e := 24) (ci := 8) (k := 4) (nest := false) d26_85 (by decide +kernel) (um_35 (Reg.frm hW hF hdis)) rfl ?_
  refine wp_iconst d26_88 (v := nI 0) (by decide) ?_
  refine wp_aload_n d26_89 rfl ?_
  refine wp_getf (e := 24) (ci := 8) (k := 4) (nest := false) d26_90 (by decide +kernel) (um_35 hM) rfl ?_
  refine wp_iconst d26_93 (v := nI 0) (by decide) ?_
  refine wp_aload_n d26_94 rfl ?_
  refine wp_getf (e := 27) (ci := 8) (k := 5) (nest := false) (v := .int (nI n)) d26_95 (by decide +kernel) (um_35 hM) (congrArg (fun z => some (Value.int z)) (((hA 35 5).1 (Or.inr (Or.inl (Or.inl (Or.inl (Or.inl (Or.inl (Or.inr ⟨rfl, rfl⟩)))))))).trans hn)) ?_
  refine wp_copy (e := 34) (j2 := 0) (sn := 0) (dn := 0) (nn := n) d26_98 (by decide +kernel) (um_40 (Reg.frm hW hF hdis)) (um_40 hM) (by decide) (by decide) (Int32.not_lt.mpr (nI_pos' (by omega))) (by decide) (by decide) (nI_nat (by omega)) (by omega) (by omega) (by decide) (by decide) (by decide) ?_
  refine u_stepA (o := 40) (f := va_cpy (M2 40) (P 40) 0 0 (n)) hM hF (by decide) rfl (fun h hM hF => ?_)
  replace hA := hA.arr2 40 (n)
  generalize (stM P 40 (va_cpy (M2 40) (P 40) 0 0 (n))) = P at hM hA
  refine wp_vret d26_101 (by decide +kernel) ?_
  refine ⟨rfl, P, hM, hF, hA.cg (fun o i => or_congr Iff.rfl (?_ : ((((((((o < 0) ∨ (o = 35 ∧ i = 5)) ∨ (o = 35 ∧ i = 6)) ∨ (o = 36 ∧ i < n)) ∨ (o = 37 ∧ i < n)) ∨ (o = 38 ∧ i < n)) ∨ (o = 39 ∧ i < n)) ∨ (o = 40 ∧ i < n)) ↔ ((36 ≤ o ∧ o ≤ 40 ∧ i < n) ∨ (o = 35 ∧ (i = 5 ∨ i = 6)))))⟩
  clear hA hM hF hW
  exact ⟨fun z => by omega, fun z => by omega⟩
