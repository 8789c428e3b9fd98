/-! The reference: rooms are watched, guards walk. -/
theorem d259_0 : decode (m_code 259) 0 = .ok (.iconst 0, 1) := by decide +kernel
theorem d259_1 : decode (m_code 259) 1 = .ok (.istore_n 1, 1) := by decide +kernel
theorem d259_2 : decode (m_code 259) 2 = .ok (.iconst 0, 1) := by decide +kernel
theorem d259_3 : decode (m_code 259) 3 = .ok (.istore_n 2, 1) := by decide +kernel
theorem d259_4 : decode (m_code 259) 4 = .ok (.iload_n 2, 1) := by decide +kernel
theorem d259_5 : decode (m_code 259) 5 = .ok (.aload_n 0, 1) := by decide +kernel
theorem d259_6 : decode (m_code 259) 6 = .ok (.getfield 7, 3) := by decide +kernel
theorem d259_9 : decode (m_code 259) 9 = .ok (.iconst 2, 1) := by decide +kernel
theorem d259_10 : decode (m_code 259) 10 = .ok (.iaload, 1) := by decide +kernel
theorem d259_11 : decode (m_code 259) 11 = .ok (.if_icmp .ge 134, 3) := by decide +kernel
theorem d259_14 : decode (m_code 259) 14 = .ok (.bipush 20, 2) := by decide +kernel
theorem d259_16 : decode (m_code 259) 16 = .ok (.bipush 6, 2) := by decide +kernel
theorem d259_18 : decode (m_code 259) 18 = .ok (.iload_n 2, 1) := by decide +kernel
theorem d259_19 : decode (m_code 259) 19 = .ok (.imul, 1) := by decide +kernel
theorem d259_20 : decode (m_code 259) 20 = .ok (.iadd, 1) := by decide +kernel
theorem d259_21 : decode (m_code 259) 21 = .ok (.istore_n 3, 1) := by decide +kernel
theorem d259_22 : decode (m_code 259) 22 = .ok (.aload_n 0, 1) := by decide +kernel
theorem d259_23 : decode (m_code 259) 23 = .ok (.iload_n 2, 1) := by decide +kernel
theorem d259_24 : decode (m_code 259) 24 = .ok (.invokevirtual 119, 3) := by decide +kernel
theorem d259_27 : decode (m_code 259) 27 = .ok (.ifCond .le 45, 3) := by decide +kernel
theorem d259_30 : decode (m_code 259) 30 = .ok (.iload_n 1, 1) := by decide +kernel
theorem d259_31 : decode (m_code 259) 31 = .ok (.iconst 1, 1) := by decide +kernel
theorem d259_32 : decode (m_code 259) 32 = .ok (.iload_n 2, 1) := by decide +kernel
theorem d259_33 : decode (m_code 259) 33 = .ok (.ishl, 1) := by decide +kernel
theorem d259_34 : decode (m_code 259) 34 = .ok (.ior, 1) := by decide +kernel
theorem d259_35 : decode (m_code 259) 35 = .ok (.istore_n 1, 1) := by decide +kernel
theorem d259_36 : decode (m_code 259) 36 = .ok (.aload_n 0, 1) := by decide +kernel
theorem d259_37 : decode (m_code 259) 37 = .ok (.getfield 7, 3) := by decide +kernel
theorem d259_40 : decode (m_code 259) 40 = .ok (.iload_n 3, 1) := by decide +kernel
theorem d259_41 : decode (m_code 259) 41 = .ok (.iconst 2, 1) := by decide +kernel
theorem d259_42 : decode (m_code 259) 42 = .ok (.iadd, 1) := by decide +kernel
theorem d259_43 : decode (m_code 259) 43 = .ok (.dup2, 1) := by decide +kernel
theorem d259_44 : decode (m_code 259) 44 = .ok (.iaload, 1) := by decide +kernel
theorem d259_45 : decode (m_code 259) 45 = .ok (.iconst 1, 1) := by decide +kernel
theorem d259_46 : decode (m_code 259) 46 = .ok (.iadd, 1) := by decide +kernel
theorem d259_47 : decode (m_code 259) 47 = .ok (.iastore, 1) := by decide +kernel
theorem d259_48 : decode (m_code 259) 48 = .ok (.aload_n 0, 1) := by decide +kernel
theorem d259_49 : decode (m_code 259) 49 = .ok (.getfield 7, 3) := by decide +kernel
theorem d259_52 : decode (m_code 259) 52 = .ok (.iload_n 3, 1) := by decide +kernel
theorem d259_53 : decode (m_code 259) 53 = .ok (.iconst 3, 1) := by decide +kernel
theorem d259_54 : decode (m_code 259) 54 = .ok (.iadd, 1) := by decide +kernel
theorem d259_55 : decode (m_code 259) 55 = .ok (.iconst 0, 1) := by decide +kernel
theorem d259_56 : decode (m_code 259) 56 = .ok (.iastore, 1) := by decide +kernel
theorem d259_57 : decode (m_code 259) 57 = .ok (.aload_n 0, 1) := by decide +kernel
theorem d259_58 : decode (m_code 259) 58 = .ok (.getfield 7, 3) := by decide +kernel
theorem d259_61 : decode (m_code 259) 61 = .ok (.iload_n 3, 1) := by decide +kernel
theorem d259_62 : decode (m_code 259) 62 = .ok (.iconst 5, 1) := by decide +kernel
theorem d259_63 : decode (m_code 259) 63 = .ok (.iadd, 1) := by decide +kernel
theorem d259_64 : decode (m_code 259) 64 = .ok (.dup2, 1) := by decide +kernel
theorem d259_65 : decode (m_code 259) 65 = .ok (.iaload, 1) := by decide +kernel
theorem d259_66 : decode (m_code 259) 66 = .ok (.iconst 1, 1) := by decide +kernel
theorem d259_67 : decode (m_code 259) 67 = .ok (.iadd, 1) := by decide +kernel
theorem d259_68 : decode (m_code 259) 68 = .ok (.iastore, 1) := by decide +kernel
theorem d259_69 : decode (m_code 259) 69 = .ok (.goto 70, 3) := by decide +kernel
theorem d259_72 : decode (m_code 259) 72 = .ok (.aload_n 0, 1) := by decide +kernel
theorem d259_73 : decode (m_code 259) 73 = .ok (.getfield 7, 3) := by decide +kernel
theorem d259_76 : decode (m_code 259) 76 = .ok (.iload_n 3, 1) := by decide +kernel
theorem d259_77 : decode (m_code 259) 77 = .ok (.iconst 2, 1) := by decide +kernel
theorem d259_78 : decode (m_code 259) 78 = .ok (.iadd, 1) := by decide +kernel
theorem d259_79 : decode (m_code 259) 79 = .ok (.iconst 0, 1) := by decide +kernel
theorem d259_80 : decode (m_code 259) 80 = .ok (.iastore, 1) := by decide +kernel
theorem d259_81 : decode (m_code 259) 81 = .ok (.aload_n 0, 1) := by decide +kernel
theorem d259_82 : decode (m_code 259) 82 = .ok (.getfield 7, 3) := by decide +kernel
theorem d259_85 : decode (m_code 259) 85 = .ok (.iload_n 3, 1) := by decide +kernel
theorem d259_86 : decode (m_code 259) 86 = .ok (.iconst 3, 1) := by decide +kernel
theorem d259_87 : decode (m_code 259) 87 = .ok (.iadd, 1) := by decide +kernel
theorem d259_88 : decode (m_code 259) 88 = .ok (.dup2, 1) := by decide +kernel
theorem d259_89 : decode (m_code 259) 89 = .ok (.iaload, 1) := by decide +kernel
theorem d259_90 : decode (m_code 259) 90 = .ok (.iconst 1, 1) := by decide +kernel
theorem d259_91 : decode (m_code 259) 91 = .ok (.iadd, 1) := by decide +kernel
theorem d259_92 : decode (m_code 259) 92 = .ok (.iastore, 1) := by decide +kernel
theorem d259_93 : decode (m_code 259) 93 = .ok (.aload_n 0, 1) := by decide +kernel
theorem d259_94 : decode (m_code 259) 94 = .ok (.getfield 7, 3) := by decide +kernel
theorem d259_97 : decode (m_code 259) 97 = .ok (.iload_n 3, 1) := by decide +kernel
theorem d259_98 : decode (m_code 259) 98 = .ok (.iconst 4, 1) := by decide +kernel
theorem d259_99 : decode (m_code 259) 99 = .ok (.iadd, 1) := by decide +kernel
theorem d259_100 : decode (m_code 259) 100 = .ok (.aload_n 0, 1) := by decide +kernel
theorem d259_101 : decode (m_code 259) 101 = .ok (.getfield 7, 3) := by decide +kernel
theorem d259_104 : decode (m_code 259) 104 = .ok (.iload_n 3, 1) := by decide +kernel
theorem d259_105 : decode (m_code 259) 105 = .ok (.iconst 3, 1) := by decide +kernel
theorem d259_106 : decode (m_code 259) 106 = .ok (.iadd, 1) := by decide +kernel
theorem d259_107 : decode (m_code 259) 107 = .ok (.iaload, 1) := by decide +kernel
theorem d259_108 : decode (m_code 259) 108 = .ok (.aload_n 0, 1) := by decide +kernel
theorem d259_109 : decode (m_code 259) 109 = .ok (.getfield 7, 3) := by decide +kernel
theorem d259_112 : decode (m_code 259) 112 = .ok (.iload_n 3, 1) := by decide +kernel
theorem d259_113 : decode (m_code 259) 113 = .ok (.iconst 4, 1) := by decide +kernel
theorem d259_114 : decode (m_code 259) 114 = .ok (.iadd, 1) := by decide +kernel
theorem d259_115 : decode (m_code 259) 115 = .ok (.iaload, 1) := by decide +kernel
theorem d259_116 : decode (m_code 259) 116 = .ok (.if_icmp .le 14, 3) := by decide +kernel
theorem d259_119 : decode (m_code 259) 119 = .ok (.aload_n 0, 1) := by decide +kernel
theorem d259_120 : decode (m_code 259) 120 = .ok (.getfield 7, 3) := by decide +kernel
theorem d259_123 : decode (m_code 259) 123 = .ok (.iload_n 3, 1) := by decide +kernel
theorem d259_124 : decode (m_code 259) 124 = .ok (.iconst 3, 1) := by decide +kernel
theorem d259_125 : decode (m_code 259) 125 = .ok (.iadd, 1) := by decide +kernel
theorem d259_126 : decode (m_code 259) 126 = .ok (.iaload, 1) := by decide +kernel
theorem d259_127 : decode (m_code 259) 127 = .ok (.goto 11, 3) := by decide +kernel
theorem d259_130 : decode (m_code 259) 130 = .ok (.aload_n 0, 1) := by decide +kernel
theorem d259_131 : decode (m_code 259) 131 = .ok (.getfield 7, 3) := by decide +kernel
theorem d259_134 : decode (m_code 259) 134 = .ok (.iload_n 3, 1) := by decide +kernel
theorem d259_135 : decode (m_code 259) 135 = .ok (.iconst 4, 1) := by decide +kernel
theorem d259_136 : decode (m_code 259) 136 = .ok (.iadd, 1) := by decide +kernel
theorem d259_137 : decode (m_code 259) 137 = .ok (.iaload, 1) := by decide +kernel
theorem d259_138 : decode (m_code 259) 138 = .ok (.iastore, 1) := by decide +kernel
theorem d259_139 : decode (m_code 259) 139 = .ok (.iinc 2 1, 3) := by decide +kernel
theorem d259_142 : decode (m_code 259) 142 = .ok (.goto (-138), 3) := by decide +kernel
theorem d259_145 : decode (m_code 259) 145 = .ok (.aload_n 0, 1) := by decide +kernel
theorem d259_146 : decode (m_code 259) 146 = .ok (.getfield 7, 3) := by decide +kernel
theorem d259_149 : decode (m_code 259) 149 = .ok (.sipush 578, 3) := by decide +kernel
theorem d259_152 : decode (m_code 259) 152 = .ok (.aload_n 0, 1) := by decide +kernel
theorem d259_153 : decode (m_code 259) 153 = .ok (.getfield 7, 3) := by decide +kernel
theorem d259_156 : decode (m_code 259) 156 = .ok (.iconst 0, 1) := by decide +kernel
theorem d259_157 : decode (m_code 259) 157 = .ok (.iaload, 1) := by decide +kernel
theorem d259_158 : decode (m_code 259) 158 = .ok (.iadd, 1) := by decide +kernel
theorem d259_159 : decode (m_code 259) 159 = .ok (.iload_n 1, 1) := by decide +kernel
theorem d259_160 : decode (m_code 259) 160 = .ok (.iastore, 1) := by decide +kernel
theorem d259_161 : decode (m_code 259) 161 = .ok (.return_, 1) := by decide +kernel
theorem d260_0 : decode (m_code 260) 0 = .ok (.iconst 0, 1) := by decide +kernel
theorem d260_1 : decode (m_code 260) 1 = .ok (.istore_n 1, 1) := by decide +kernel
theorem d260_2 : decode (m_code 260) 2 = .ok (.iconst 0, 1) := by decide +kernel
theorem d260_3 : decode (m_code 260) 3 = .ok (.istore_n 2, 1) := by decide +kernel
theorem d260_4 : decode (m_code 260) 4 = .ok (.iload_n 2, 1) := by decide +kernel
theorem d260_5 : decode (m_code 260) 5 = .ok (.aload_n 0, 1) := by decide +kernel
theorem d260_6 : decode (m_code 260) 6 = .ok (.getfield 7, 3) := by decide +kernel
theorem d260_9 : decode (m_code 260) 9 = .ok (.iconst 4, 1) := by decide +kernel
theorem d260_10 : decode (m_code 260) 10 = .ok (.iaload, 1) := by decide +kernel
theorem d260_11 : decode (m_code 260) 11 = .ok (.if_icmp .ge 145, 3) := by decide +kernel
theorem d260_14 : decode (m_code 260) 14 = .ok (.aload_n 0, 1) := by decide +kernel
theorem d260_15 : decode (m_code 260) 15 = .ok (.iload_n 2, 1) := by decide +kernel
theorem d260_16 : decode (m_code 260) 16 = .ok (.iconst 0, 1) := by decide +kernel
theorem d260_17 : decode (m_code 260) 17 = .ok (.invokevirtual 81, 3) := by decide +kernel
theorem d260_20 : decode (m_code 260) 20 = .ok (.ifCond .ge 130, 3) := by decide +kernel
theorem d260_23 : decode (m_code 260) 23 = .ok (.aload_n 0, 1) := by decide +kernel
theorem d260_24 : decode (m_code 260) 24 = .ok (.iload_n 2, 1) := by decide +kernel
theorem d260_25 : decode (m_code 260) 25 = .ok (.iconst 2, 1) := by decide +kernel
theorem d260_26 : decode (m_code 260) 26 = .ok (.aload_n 0, 1) := by decide +kernel
theorem d260_27 : decode (m_code 260) 27 = .ok (.iload_n 2, 1) := by decide +kernel
theorem d260_28 : decode (m_code 260) 28 = .ok (.iconst 2, 1) := by decide +kernel
theorem d260_29 : decode (m_code 260) 29 = .ok (.invokevirtual 81, 3) := by decide +kernel
theorem d260_32 : decode (m_code 260) 32 = .ok (.iconst 1, 1) := by decide +kernel
theorem d260_33 : decode (m_code 260) 33 = .ok (.isub, 1) := by decide +kernel
theorem d260_34 : decode (m_code 260) 34 = .ok (.invokevirtual 87, 3) := by decide +kernel
theorem d260_37 : decode (m_code 260) 37 = .ok (.aload_n 0, 1) := by decide +kernel
theorem d260_38 : decode (m_code 260) 38 = .ok (.iload_n 2, 1) := by decide +kernel
theorem d260_39 : decode (m_code 260) 39 = .ok (.iconst 2, 1) := by decide +kernel
theorem d260_40 : decode (m_code 260) 40 = .ok (.invokevirtual 81, 3) := by decide +kernel
theorem d260_43 : decode (m_code 260) 43 = .ok (.ifCond .ne 107, 3) := by decide +kernel
theorem d260_46 : decode (m_code 260) 46 = .ok (.aload_n 0, 1) := by decide +kernel
theorem d260_47 : decode (m_code 260) 47 = .ok (.iload_n 2, 1) := by decide +kernel
theorem d260_48 : decode (m_code 260) 48 = .ok (.iconst 1, 1) := by decide +kernel
theorem d260_49 : decode (m_code 260) 49 = .ok (.invokevirtual 81, 3) := by decide +kernel
theorem d260_52 : decode (m_code 260) 52 = .ok (.istore_n 3, 1) := by decide +kernel
theorem d260_53 : decode (m_code 260) 53 = .ok (.aload_n 0, 1) := by decide +kernel
theorem d260_54 : decode (m_code 260) 54 = .ok (.iload_n 2, 1) := by decide +kernel
theorem d260_55 : decode (m_code 260) 55 = .ok (.iconst 0, 1) := by decide +kernel
theorem d260_56 : decode (m_code 260) 56 = .ok (.iload_n 3, 1) := by decide +kernel
theorem d260_57 : decode (m_code 260) 57 = .ok (.invokevirtual 87, 3) := by decide +kernel
theorem d260_60 : decode (m_code 260) 60 = .ok (.aload_n 0, 1) := by decide +kernel
theorem d260_61 : decode (m_code 260) 61 = .ok (.iload_n 2, 1) := by decide +kernel
theorem d260_62 : decode (m_code 260) 62 = .ok (.iconst 1, 1) := by decide +kernel
theorem d260_63 : decode (m_code 260) 63 = .ok (.bipush (-5), 2) := by decide +kernel
theorem d260_65 : decode (m_code 260) 65 = .ok (.invokevirtual 87, 3) := by decide +kernel
theorem d260_68 : decode (m_code 260) 68 = .ok (.aload_n 0, 1) := by decide +kernel
theorem d260_69 : decode (m_code 260) 69 = .ok (.iload_n 2, 1) := by decide +kernel
theorem d260_70 : decode (m_code 260) 70 = .ok (.iconst 3, 1) := by decide +kernel
theorem d260_71 : decode (m_code 260) 71 = .ok (.aload_n 0, 1) := by decide +kernel
theorem d260_72 : decode (m_code 260) 72 = .ok (.iload_n 2, 1) := by decide +kernel
theorem d260_73 : decode (m_code 260) 73 = .ok (.iconst 4, 1) := by decide +kernel
theorem d260_74 : decode (m_code 260) 74 = .ok (.invokevirtual 81, 3) := by decide +kernel
theorem d260_77 : decode (m_code 260) 77 = .ok (.invokevirtual 87, 3) := by decide +kernel
theorem d260_80 : decode (m_code 260) 80 = .ok (.aload_n 0, 1) := by decide +kernel
theorem d260_81 : decode (m_code 260) 81 = .ok (.iload_n 2, 1) := by decide +kernel
theorem d260_82 : decode (m_code 260) 82 = .ok (.bipush 9, 2) := by decide +kernel
theorem d260_84 : decode (m_code 260) 84 = .ok (.aload_n 0, 1) := by decide +kernel
theorem d260_85 : decode (m_code 260) 85 = .ok (.getfield 7, 3) := by decide +kernel
theorem d260_88 : decode (m_code 260) 88 = .ok (.iconst 0, 1) := by decide +kernel
theorem d260_89 : decode (m_code 260) 89 = .ok (.iaload, 1) := by decide +kernel
theorem d260_90 : decode (m_code 260) 90 = .ok (.iconst 1, 1) := by decide +kernel
theorem d260_91 : decode (m_code 260) 91 = .ok (.iadd, 1) := by decide +kernel
theorem d260_92 : decode (m_code 260) 92 = .ok (.invokevirtual 87, 3) := by decide +kernel
theorem d260_95 : decode (m_code 260) 95 = .ok (.aload_n 0, 1) := by decide +kernel
theorem d260_96 : decode (m_code 260) 96 = .ok (.iload_n 2, 1) := by decide +kernel
theorem d260_97 : decode (m_code 260) 97 = .ok (.bipush 8, 2) := by decide +kernel
theorem d260_99 : decode (m_code 260) 99 = .ok (.aload_n 0, 1) := by decide +kernel
theorem d260_100 : decode (m_code 260) 100 = .ok (.iload_n 2, 1) := by decide +kernel
theorem d260_101 : decode (m_code 260) 101 = .ok (.bipush 8, 2) := by decide +kernel
theorem d260_103 : decode (m_code 260) 103 = .ok (.invokevirtual 81, 3) := by decide +kernel
theorem d260_106 : decode (m_code 260) 106 = .ok (.iconst 1, 1) := by decide +kernel
theorem d260_107 : decode (m_code 260) 107 = .ok (.iadd, 1) := by decide +kernel
theorem d260_108 : decode (m_code 260) 108 = .ok (.invokevirtual 87, 3) := by decide +kernel
theorem d260_111 : decode (m_code 260) 111 = .ok (.aload_n 0, 1) := by decide +kernel
theorem d260_112 : decode (m_code 260) 112 = .ok (.iload_n 3, 1) := by decide +kernel
theorem d260_113 : decode (m_code 260) 113 = .ok (.iconst 0, 1) := by decide +kernel
theorem d260_114 : decode (m_code 260) 114 = .ok (.invokevirtual 63, 3) := by decide +kernel
theorem d260_117 : decode (m_code 260) 117 = .ok (.istore 4, 2) := by decide +kernel
theorem d260_119 : decode (m_code 260) 119 = .ok (.iload_n 1, 1) := by decide +kernel
theorem d260_120 : decode (m_code 260) 120 = .ok (.iload 4, 2) := by decide +kernel
theorem d260_122 : decode (m_code 260) 122 = .ok (.ifCond .lt 25, 3) := by decide +kernel
theorem d260_125 : decode (m_code 260) 125 = .ok (.aload_n 0, 1) := by decide +kernel
theorem d260_126 : decode (m_code 260) 126 = .ok (.getfield 7, 3) := by decide +kernel
theorem d260_129 : decode (m_code 260) 129 = .ok (.bipush 8, 2) := by decide +kernel
theorem d260_131 : decode (m_code 260) 131 = .ok (.iload 4, 2) := by decide +kernel
theorem d260_133 : decode (m_code 260) 133 = .ok (.iadd, 1) := by decide +kernel
theorem d260_134 : decode (m_code 260) 134 = .ok (.iaload, 1) := by decide +kernel
theorem d260_135 : decode (m_code 260) 135 = .ok (.ifCond .ne 12, 3) := by decide +kernel
theorem d260_138 : decode (m_code 260) 138 = .ok (.aload_n 0, 1) := by decide +kernel
theorem d260_139 : decode (m_code 260) 139 = .ok (.iconst 0, 1) := by decide +kernel
theorem d260_140 : decode (m_code 260) 140 = .ok (.iload_n 3, 1) := by decide +kernel
theorem d260_141 : decode (m_code 260) 141 = .ok (.invokevirtual 135, 3) := by decide +kernel
theorem d260_144 : decode (m_code 260) 144 = .ok (.goto 4, 3) := by decide +kernel
theorem d260_147 : decode (m_code 260) 147 = .ok (.iconst 0, 1) := by decide +kernel
theorem d260_148 : decode (m_code 260) 148 = .ok (.iadd, 1) := by decide +kernel
theorem d260_149 : decode (m_code 260) 149 = .ok (.istore_n 1, 1) := by decide +kernel
theorem d260_150 : decode (m_code 260) 150 = .ok (.iinc 2 1, 3) := by decide +kernel
theorem d260_153 : decode (m_code 260) 153 = .ok (.goto (-149), 3) := by decide +kernel
theorem d260_156 : decode (m_code 260) 156 = .ok (.iload_n 1, 1) := by decide +kernel
theorem d260_157 : decode (m_code 260) 157 = .ok (.ireturn, 1) := by decide +kernel
/-- one room's minute -/
def F_rw1 (s : Nat → Int32) (r nG : Nat) : Nat → Int32 :=
  if 0 < F_gi s (nI r) nG then upd (upd (upd s (20 + 6 * r + 2) (s (20 + 6 * r + 2) + nI 1)) (20 + 6 * r + 3) (nI 0)) (20 + 6 * r + 5) (s (20 + 6 * r + 5) + nI 1)
  else upd (upd (upd s (20 + 6 * r + 2) (nI 0)) (20 + 6 * r + 3) (s (20 + 6 * r + 3) + nI 1)) (20 + 6 * r + 4) (if s (20 + 6 * r + 3) + nI 1 ≤ s (20 + 6 * r + 4) then s (20 + 6 * r + 4) else s (20 + 6 * r + 3) + nI 1)
def F_rw (s : Nat → Int32) (nG : Nat) : Nat → (Nat → Int32)
  | 0 => s
  | r + 1 => F_rw1 (F_rw s nG r) r nG
def F_rwb (s : Nat → Int32) (nG : Nat) : Nat → Int32
  | 0 => nI 0
  | r + 1 => if 0 < F_gi (F_rw s nG r) (nI r) nG then F_rwb s nG r ||| (nI 1 <<< (nI r &&& 31)) else F_rwb s nG r
theorem F_rw1_lo {s : Nat → Int32} {r nG i : Nat} (hr : r < 12) (hi : i < 20 + 6 * r ∨ 26 + 6 * r ≤ i) : F_rw1 s r nG i = s i := by
  unfold F_rw1
  split <;> rw [upd_ne (by omega), upd_ne (by omega), upd_ne (by omega)]
theorem F_rw_lo {s : Nat → Int32} {nG k i : Nat} (hk : k ≤ 12) (hi : i < 20 ∨ 92 ≤ i) : F_rw s nG k i = s i := by
  induction k with
  | zero => rfl
  | succ k ih => rw [F_rw, F_rw1_lo (by omega) (by omega), ih (by omega)]
abbrev F_watch (s : Nat → Int32) (nR nG mi : Nat) : Nat → Int32 := upd (F_rw s nG nR) (578 + mi) (F_rwb s nG nR)
theorem c_watch_l {X : mX}  {h0 : mH} {R : Nat → Nat → Int32} {σ : Nat → Int32} {nR nG mi : Nat} (hr : σ 2 = nI nR) (hr12 : nR ≤ 12) (hg : σ 4 = nI nG) (hG : nG ≤ 4) (hmi : σ 0 = nI mi) (hmi2 : mi < 720) : ∀ (d : Nat) (k : Nat) (h : mH) (a : Int32) (l3 : Option Value), nR - k = d → k ≤ nR → Ms h R (F_rw σ nG k) → Frm h0 h 313 8 → a = F_rwb σ nG k → m_wp X 259 4 [some (.ref 313), some (.int (a)), some (.int (nI k)), l3] [] h (fun w h1 => w = none ∧ Ms h1 R (F_watch σ nR nG mi) ∧ Frm h0 h1 313 8) := by
  intro d
  induction d using Nat.strongRecOn with
  | ind d ih =>
    intro k h a l3 hd hk hR hF ha
    refine wp_iload_n d259_4 rfl ?_
    refine wp_aload_n d259_5 rfl ?_
    refine wp_getf (e := 7) (ci := 12) (k := 0) (nest := false) d259_6 (by decide +kernel) (md_0 hR) rfl ?_
    refine wp_iconst d259_9 (v := nI 2) (by decide) ?_
    refine wp_iald d259_10 (md_1 hR) (nI_in (by omega) (by decide)) (v := nI nR) ((congrArg ((F_rw σ nG k)) (nI_nat (by omega))).trans ((F_rw_lo (by omega) (by omega)).trans hr)) ?_
    refine wp_icmp_ge d259_11 (tgt := 145) (by decide) (fun hc11 => ?_) (fun hc11 => ?_)
    · have hc11 : nR ≤ k := (nI_leI (by omega) (by omega)).mp hc11
      refine wp_aload_n d259_145 rfl ?_
      refine wp_getf (e := 7) (ci := 12) (k := 0) (nest := false) d259_146 (by decide +kernel) (md_0 hR) rfl ?_
      refine wp_sipush d259_149 (v := nI 578) (by decide) ?_
      refine wp_aload_n d259_152 rfl ?_
      refine wp_getf (e := 7) (ci := 12) (k := 0) (nest := false) d259_153 (by decide +kernel) (md_0 hR) rfl ?_
      refine wp_iconst d259_156 (v := nI 0) (by decide) ?_
      refine wp_iald d259_157 (md_1 hR) (nI_in (by omega) (by decide)) (v := nI mi) ((congrArg ((F_rw σ nG k)) (nI_nat (by omega))).trans ((F_rw_lo (by omega) (by omega)).trans hmi)) ?_
      refine wp_iaddv d259_158 (v := nI (578 + mi)) (nI_add _ _) ?_
      refine wp_iload_n d259_159 rfl ?_
      refine wp_stS d259_160 hR hF (k := 578 + mi) (by omega) (fun h hR hF => ?_)
      refine wp_vret d259_161 (by decide +kernel) ?_
      exact ⟨rfl, by show Ms h R (upd (F_rw σ nG nR) (578 + mi) (F_rwb σ nG nR)); rw [show nR = k by omega, ← ha]; exact hR, hF⟩
    · have hc11 : ¬ (nR ≤ k) := fun z => hc11 ((nI_leI (by omega) (by omega)).mpr z)
      refine wp_bipush d259_14 (v := nI 20) (by decide) ?_
      refine wp_bipush d259_16 (v := nI 6) (by decide) ?_
      refine wp_iload_n d259_18 rfl ?_
      refine wp_imulv d259_19 (v := nI (6 * k)) (nI_mul _ _) ?_
      refine wp_iaddv d259_20 (v := nI (20 + 6 * k)) (nI_add _ _) ?_
      refine wp_istore_n d259_21 (Nat.le_of_ble_eq_true rfl) rfl ?_
      refine wp_aload_n d259_22 rfl ?_
      refine wp_iload_n d259_23 rfl ?_
      refine wp_invvT (e := 119) (j2 := 247) (n := 1) d259_24 (by decide +kernel) (by decide +kernel) rfl rfl rfl (md_0 hR) (by decide +kernel) (Nat.le_of_ble_eq_true rfl) rfl rfl (Nat.le_of_ble_eq_true rfl) (by decide +kernel) (show Tells X 247 _ h (nI (F_gi (F_rw σ nG k) (nI k) nG)) from c_guardsIn (σ := F_rw σ nG k) hR ((F_rw_lo (by omega) (by omega)).trans hg) hG (nI k)) ?_
      refine wp_if_le d259_27 (tgt := 72) (by decide) (fun hc27 => ?_) (fun hc27 => ?_)
      · have hc27 : ¬ 0 < F_gi (F_rw σ nG k) (nI k) nG := fun z => nI_nle z (by have := F_gi_le (F_rw σ nG k) (nI k) nG; omega) hc27
        refine wp_aload_n d259_72 rfl ?_
        refine wp_getf (e := 7) (ci := 12) (k := 0) (nest := false) d259_73 (by decide +kernel) (md_0 hR) rfl ?_
        refine wp_iload_n d259_76 rfl ?_
        refine wp_iconst d259_77 (v := nI 2) (by decide) ?_
        refine wp_iaddv d259_78 (v := nI (20 + 6 * k + 2)) (nI_add _ _) ?_
        refine wp_iconst d259_79 (v := nI 0) (by decide) ?_
        refine wp_stS d259_80 hR hF (k := 20 + 6 * k + 2) (by omega) (fun h hR hF => ?_)
        refine wp_aload_n d259_81 rfl ?_
        refine wp_getf (e := 7) (ci := 12) (k := 0) (nest := false) d259_82 (by decide +kernel) (md_0 hR) rfl ?_
        refine wp_iload_n d259_85 rfl ?_
        refine wp_iconst d259_86 (v := nI 3) (by decide) ?_
        refine wp_iaddv d259_87 (v := nI (20 + 6 * k + 3)) (nI_add _ _) ?_
        refine wp_dup2 d259_88 rfl rfl ?_
        refine wp_iald d259_89 (md_1 hR) (nI_in (by omega) (by decide)) (v := ((F_rw σ nG k)) (20 + 6 * k + 3)) ((congrArg ((upd (F_rw σ nG k) (20 + 6 * k + 2) (nI 0))) (nI_nat (by omega))).trans ((upd_ne (by omega)).trans rfl)) ?_
        refine wp_iconst d259_90 (v := nI 1) (by decide) ?_
        refine wp_iadd d259_91 ?_
        refine wp_stS d259_92 hR hF (k := 20 + 6 * k + 3) (by omega) (fun h hR hF => ?_)
        refine wp_aload_n d259_93 rfl ?_
        refine wp_getf (e := 7) (ci := 12) (k := 0) (nest := false) d259_94 (by decide +kernel) (md_0 hR) rfl ?_
        refine wp_iload_n d259_97 rfl ?_
        refine wp_iconst d259_98 (v := nI 4) (by decide) ?_
        refine wp_iaddv d259_99 (v := nI (20 + 6 * k + 4)) (nI_add _ _) ?_
        refine wp_aload_n d259_100 rfl ?_
        refine wp_getf (e := 7) (ci := 12) (k := 0) (nest := false) d259_101 (by decide +kernel) (md_0 hR) rfl ?_
        refine wp_iload_n d259_104 rfl ?_
        refine wp_iconst d259_105 (v := nI 3) (by decide) ?_
        refine wp_iaddv d259_106 (v := nI (20 + 6 * k + 3)) (nI_add _ _) ?_
        refine wp_iald d259_107 (md_1 hR) (nI_in (by omega) (by decide)) (v := (((F_rw σ nG k)) (20 + 6 * k + 3) + (nI 1))) ((congrArg ((upd (upd (F_rw σ nG k) (20 + 6 * k + 2) (nI 0)) (20 + 6 * k + 3) ((((F_rw σ nG k)) (20 + 6 * k + 3) + (nI 1))))) (nI_nat (by omega))).trans upd_eq) ?_
        refine wp_aload_n d259_108 rfl ?_
        refine wp_getf (e := 7) (ci := 12) (k := 0) (nest := false) d259_109 (by decide +kernel) (md_0 hR) rfl ?_
        refine wp_iload_n d259_112 rfl ?_
        refine wp_iconst d259_113 (v := nI 4) (by decide) ?_
        refine wp_iaddv d259_114 (v := nI (20 + 6 * k + 4)) (nI_add _ _) ?_
        refine wp_iald d259_115 (md_1 hR) (nI_in (by omega) (by decide)) (v := ((F_rw σ nG k)) (20 + 6 * k + 4)) ((congrArg ((upd (upd (F_rw σ nG k) (20 + 6 * k + 2) (nI 0)) (20 + 6 * k + 3) ((((F_rw σ nG k)) (20 + 6 * k + 3) + (nI 1))))) (nI_nat (by omega))).trans ((upd_ne (by omega)).trans ((upd_ne (by omega)).trans rfl))) ?_
        refine wp_icmp_le d259_116 (tgt := 130) (by decide) (fun hc116 => ?_) (fun hc116 => ?_)
        · refine wp_aload_n d259_130 rfl ?_
          refine wp_getf (e := 7) (ci := 12) (k := 0) (nest := false) d259_131 (by decide +kernel) (md_0 hR) rfl ?_
          refine wp_iload_n d259_134 rfl ?_
          refine wp_iconst d259_135 (v := nI 4) (by decide) ?_
          refine wp_iaddv d259_136 (v := nI (20 + 6 * k + 4)) (nI_add _ _) ?_
          refine wp_iald d259_137 (md_1 hR) (nI_in (by omega) (by decide)) (v := ((F_rw σ nG k)) (20 + 6 * k + 4)) ((congrArg ((upd (upd (F_rw σ nG k) (20 + 6 * k + 2) (nI 0)) (20 + 6 * k + 3) ((((F_rw σ nG k)) (20 + 6 * k + 3) + (nI 1))))) (nI_nat (by omega))).trans ((upd_ne (by omega)).trans ((upd_ne (by omega)).trans rfl))) ?_
          refine wp_stS d259_138 hR hF (k := 20 + 6 * k + 4) (by omega) (fun h hR hF => ?_)
          refine wp_iinc d259_139 rfl (v := nI (k + 1)) (nI_add _ 1) (Nat.le_of_ble_eq_true rfl) rfl ?_
          refine wp_goto d259_142 (tgt := 4) (by decide) ?_
          exact ih (nR - (k + 1)) (by omega) (k + 1) h _ _ rfl (by omega) (by simp only [F_rw, F_rw1]; rw [if_neg hc27, if_pos hc116]; exact hR) hF (by simp only [F_rwb]; rw [if_neg hc27]; rw [ha])
        · refine wp_aload_n d259_119 rfl ?_
          refine wp_getf (e := 7) (ci := 12) (k := 0) (nest := false) d259_120 (by decide +kernel) (md_0 hR) rfl ?_
          refine wp_iload_n d259_123 rfl ?_
          refine wp_iconst d259_124 (v := nI 3) (by decide) ?_
          refine wp_iaddv d259_125 (v := nI (20 + 6 * k + 3)) (nI_add _ _) ?_
          refine wp_iald d259_126 (md_1 hR) (nI_in (by omega) (by decide)) (v := (((F_rw σ nG k)) (20 + 6 * k + 3) + (nI 1))) ((congrArg ((upd (upd (F_rw σ nG k) (20 + 6 * k + 2) (nI 0)) (20 + 6 * k + 3) ((((F_rw σ nG k)) (20 + 6 * k + 3) + (nI 1))))) (nI_nat (by omega))).trans upd_eq) ?_
          refine wp_goto d259_127 (tgt := 138) (by decide) ?_
          refine wp_stS d259_138 hR hF (k := 20 + 6 * k + 4) (by omega) (fun h hR hF => ?_)
          refine wp_iinc d259_139 rfl (v := nI (k + 1)) (nI_add _ 1) (Nat.le_of_ble_eq_true rfl) rfl ?_
          refine wp_goto d259_142 (tgt := 4) (by decide) ?_
          exact ih (nR - (k + 1)) (by omega) (k + 1) h _ _ rfl (by omega) (by simp only [F_rw, F_rw1]; rw [if_neg hc27, if_neg hc116]; exact hR) hF (by simp only [F_rwb]; rw [if_neg hc27]; rw [ha])
      · have hc27 : 0 < F_gi (F_rw σ nG k) (nI k) nG := by
          rcases Nat.eq_zero_or_pos (F_gi (F_rw σ nG k) (nI k) nG) with z | z
          · rw [z] at hc27; exact absurd (by decide) hc27
          · exact z
        refine wp_iload_n d259_30 rfl ?_
        refine wp_iconst d259_31 (v := nI 1) (by decide) ?_
        refine wp_iload_n d259_32 rfl ?_
        refine wp_ishl d259_33 ?_
        refine wp_ior d259_34 ?_
        refine wp_istore_n d259_35 (Nat.le_of_ble_eq_true rfl) rfl ?_
        refine wp_aload_n d259_36 rfl ?_
        refine wp_getf (e := 7) (ci := 12) (k := 0) (nest := false) d259_37 (by decide +kernel) (md_0 hR) rfl ?_
        refine wp_iload_n d259_40 rfl ?_
        refine wp_iconst d259_41 (v := nI 2) (by decide) ?_
        refine wp_iaddv d259_42 (v := nI (20 + 6 * k + 2)) (nI_add _ _) ?_
        refine wp_dup2 d259_43 rfl rfl ?_
        refine wp_iald d259_44 (md_1 hR) (nI_in (by omega) (by decide)) (v := ((F_rw σ nG k)) (20 + 6 * k + 2)) ((congrArg ((F_rw σ nG k)) (nI_nat (by omega))).trans rfl) ?_
        refine wp_iconst d259_45 (v := nI 1) (by decide) ?_
        refine wp_iadd d259_46 ?_
        refine wp_stS d259_47 hR hF (k := 20 + 6 * k + 2) (by omega) (fun h hR hF => ?_)
        refine wp_aload_n d259_48 rfl ?_
        refine wp_getf (e := 7) (ci := 12) (k := 0) (nest := false) d259_49 (by decide +kernel) (md_0 hR) rfl ?_
        refine wp_iload_n d259_52 rfl ?_
        refine wp_iconst d259_53 (v := nI 3) (by decide) ?_
        refine wp_iaddv d259_54 (v := nI (20 + 6 * k + 3)) (nI_add _ _) ?_
        refine wp_iconst d259_55 (v := nI 0) (by decide) ?_
        refine wp_stS d259_56 hR hF (k := 20 + 6 * k + 3) (by omega) (fun h hR hF => ?_)
        refine wp_aload_n d259_57 rfl ?_
        refine wp_getf (e := 7) (ci := 12) (k := 0) (nest := false) d259_58 (by decide +kernel) (md_0 hR) rfl ?_
        refine wp_iload_n d259_61 rfl ?_
        refine wp_iconst d259_62 (v := nI 5) (by decide) ?_
        refine wp_iaddv d259_63 (v := nI (20 + 6 * k + 5)) (nI_add _ _) ?_
        refine wp_dup2 d259_64 rfl rfl ?_
        refine wp_iald d259_65 (md_1 hR) (nI_in (by omega) (by decide)) (v := ((F_rw σ nG k)) (20 + 6 * k + 5)) ((congrArg ((upd (upd (F_rw σ nG k) (20 + 6 * k + 2) ((((F_rw σ nG k)) (20 + 6 * k + 2) + (nI 1)))) (20 + 6 * k + 3) (nI 0))) (nI_nat (by omega))).trans ((upd_ne (by omega)).trans ((upd_ne (by omega)).trans rfl))) ?_
        refine wp_iconst d259_66 (v := nI 1) (by decide) ?_
        refine wp_iadd d259_67 ?_
        refine wp_stS d259_68 hR hF (k := 20 + 6 * k + 5) (by omega) (fun h hR hF => ?_)
        refine wp_goto d259_69 (tgt := 139) (by decide) ?_
        refine wp_iinc d259_139 rfl (v := nI (k + 1)) (nI_add _ 1) (Nat.le_of_ble_eq_true rfl) rfl ?_
        refine wp_goto d259_142 (tgt := 4) (by decide) ?_
        exact ih (nR - (k + 1)) (by omega) (k + 1) h _ _ rfl (by omega) (by simp only [F_rw, F_rw1]; rw [if_pos hc27]; exact hR) hF (by simp only [F_rwb]; rw [if_pos hc27]; rw [ha])
theorem c_watch {X : mX} {h : mH} {R : Nat → Nat → Int32} {σ : Nat → Int32} (hR : Ms h R σ) {nR nG mi : Nat} (hr : σ 2 = nI nR) (hr12 : nR ≤ 12) (hg : σ 4 = nI nG) (hG : nG ≤ 4) (hmi : σ 0 = nI mi) (hmi2 : mi < 720) : Does X 259 [.ref 313] h (R) (F_watch σ nR nG mi) none := by
  have hF : Frm h h 313 8 := Frm.rf
  refine wp_iconst d259_0 (v := nI 0) (by decide) ?_
  refine wp_istore_n d259_1 (Nat.le_of_ble_eq_true rfl) rfl ?_
  refine wp_iconst d259_2 (v := nI 0) (by decide) ?_
  refine wp_istore_n d259_3 (Nat.le_of_ble_eq_true rfl) rfl ?_
  exact c_watch_l hr hr12 hg hG hmi hmi2 _ 0 h _ _ rfl (by omega) hR hF rfl
abbrev G_arr (s : Nat → Int32) (g t mi : Nat) : Nat → Int32 := G_set (G_set (G_set (G_set (G_set (G_set s g 2 (s (192 + 10 * g + 2) - nI 1)) g 0 (nI t)) g 1 (-5)) g 3 (s (192 + 10 * g + 4))) g 9 (nI (mi + 1))) g 8 (s (192 + 10 * g + 8) + nI 1)
/-- whether the guard g comes this minute to a room of a zone that is closed -/
abbrev F_ring (s : Nat → Int32) (t : Nat) : Prop := 0 ≤ s (20 + 6 * t + 0) ∧ s (8 + (s (20 + 6 * t + 0)).toNatClampNeg) = 0
def F_gw1 (s : Nat → Int32) (g : Nat) : Nat → Int32 :=
  if s (192 + 10 * g + 0) < 0 then
    (if s (192 + 10 * g + 2) - nI 1 = 0 then
      (if F_ring s (s (192 + 10 * g + 1)).toNatClampNeg then F_al (G_arr s g (s (192 + 10 * g + 1)).toNatClampNeg (s 0).toNatClampNeg) (s 6).toNatClampNeg (nI 0) (s (192 + 10 * g + 1))
       else G_arr s g (s (192 + 10 * g + 1)).toNatClampNeg (s 0).toNatClampNeg)
     else G_set s g 2 (s (192 + 10 * g + 2) - nI 1))
  else s
def F_gwc (s : Nat → Int32) (g : Nat) : Nat :=
  if s (192 + 10 * g + 0) < 0 then (if s (192 + 10 * g + 2) - nI 1 = 0 then (if F_ring s (s (192 + 10 * g + 1)).toNatClampNeg then 1 else 0) else 0) else 0
def F_gw (s : Nat → Int32) : Nat → (Nat → Int32)
  | 0 => s
  | g + 1 => F_gw1 (F_gw s g) g
def F_gwn (s : Nat → Int32) : Nat → Nat
  | 0 => 0
  | g + 1 => F_gwn s g + F_gwc (F_gw s g) g
def P_gw (s : Nat → Int32) (g nG : Nat) : Prop :=
  (∃ mi, mi < 720 ∧ s 0 = nI mi) ∧ s 4 = nI nG ∧ (∃ nA, nA ≤ 40 ∧ s 6 = nI nA) ∧ (g < nG → s (192 + 10 * g + 0) < 0 → ∃ t, t < 12 ∧ s (192 + 10 * g + 1) = nI t ∧ (s (20 + 6 * t + 0) < 0 ∨ ∃ z, z < 6 ∧ s (20 + 6 * t + 0) = nI z))
theorem c_guardsWalk_l {X : mX}  {h0 : mH} {R : Nat → Nat → Int32} {σ : Nat → Int32} {nG : Nat} (hG : nG ≤ 4) (hP : ∀ k, k ≤ nG → P_gw (F_gw σ k) k nG) : ∀ (d : Nat) (k : Nat) (h : mH) (a : Nat) (l3 l4 : Option Value), nG - k = d → k ≤ nG → Ms h R (F_gw σ k) → Frm h0 h 313 8 → a = F_gwn σ k → m_wp X 260 4 [some (.ref 313), some (.int (nI a)), some (.int (nI k)), l3, l4] [] h (fun w h1 => w = some (.int (nI (F_gwn σ nG))) ∧ Ms h1 R (F_gw σ nG) ∧ Frm h0 h1 313 8) := by
  intro d
  induction d using Nat.strongRecOn with
  | ind d ih =>
    intro k h a l3 l4 hd hk hR hF ha
    refine wp_iload_n d260_4 rfl ?_
    refine wp_aload_n d260_5 rfl ?_
    refine wp_getf (e := 7) (ci := 12) (k := 0) (nest := false) d260_6 (by decide +kernel) (md_0 hR) rfl ?_
    refine wp_iconst d260_9 (v := nI 4) (by decide) ?_
    refine wp_iald d260_10 (md_1 hR) (nI_in (by omega) (by decide)) (v := nI nG) ((congrArg ((F_gw σ k)) (nI_nat (by omega))).trans (hP k (by omega)).2.1) ?_
    refine wp_icmp_ge d260_11 (tgt := 156) (by decide) (fun hc11 => ?_) (fun hc11 => ?_)
    · have hc11 : nG ≤ k := (nI_leI (by omega) (by omega)).mp hc11
      refine wp_iload_n d260_156 rfl ?_
      refine wp_iret d260_157 (by decide +kernel) ?_
      exact ⟨by rw [show nG = k by omega, ← ha], by rw [show nG = k by omega]; exact hR, hF⟩
    · have hc11 : ¬ (nG ≤ k) := fun z => hc11 ((nI_leI (by omega) (by omega)).mpr z)
      refine wp_aload_n d260_14 rfl ?_
      refine wp_iload_n d260_15 rfl ?_
      refine wp_iconst d260_16 (v := nI 0) (by decide) ?_
      refine wp_invvT (e := 81) (j2 := 227) (n := 2) d260_17 (by decide +kernel) (by decide +kernel) rfl rfl rfl (md_0 hR) (by decide +kernel) (Nat.le_of_ble_eq_true rfl) rfl rfl (Nat.le_of_ble_eq_true rfl) (by decide +kernel) (c_guardPart hR (r := k) (p := 0) (by omega) (by omega)) ?_
      refine wp_if_ge d260_20 (tgt := 150) (by decide) (fun hc20 => ?_) (fun hc20 => ?_)
      · refine wp_iinc d260_150 rfl (v := nI (k + 1)) (nI_add _ 1) (Nat.le_of_ble_eq_true rfl) rfl ?_
        refine wp_goto d260_153 (tgt := 4) (by decide) ?_
        exact ih (nG - (k + 1)) (by omega) (k + 1) h _ _ _ rfl (by omega) (by simp only [F_gw, F_gw1]; rw [if_neg (Int32.not_lt.mpr hc20)]; exact hR) hF (by simp only [F_gwn, F_gwc]; rw [if_neg (Int32.not_lt.mpr hc20)]; omega)
      · have hc20 := Int32.not_le.mp hc20
        obtain ⟨t, ht, ht2, hz⟩ := (hP k (by omega)).2.2.2 (by omega) hc20
        obtain ⟨mi, hmi2, hmi⟩ := (hP k (by omega)).1
        obtain ⟨nA, hA40, hA⟩ := (hP k (by omega)).2.2.1
        refine wp_aload_n d260_23 rfl ?_
        refine wp_iload_n d260_24 rfl ?_
        refine wp_iconst d260_25 (v := nI 2) (by decide) ?_
        refine wp_aload_n d260_26 rfl ?_
        refine wp_iload_n d260_27 rfl ?_
        refine wp_iconst d260_28 (v := nI 2) (by decide) ?_
        refine wp_invvT (e := 81) (j2 := 227) (n := 2) d260_29 (by decide +kernel) (by decide +kernel) rfl rfl rfl (md_0 hR) (by decide +kernel) (Nat.le_of_ble_eq_true rfl) rfl rfl (Nat.le_of_ble_eq_true rfl) (by decide +kernel) (c_guardPart hR (r := k) (p := 2) (by omega) (by omega)) ?_
        refine wp_iconst d260_32 (v := nI 1) (by decide) ?_
        refine wp_isub d260_33 ?_
        refine wp_invvD (e := 87) (j2 := 230) (n := 3) d260_34 (by decide +kernel) (by decide +kernel) rfl rfl rfl (md_0 hR) (by decide +kernel) (Nat.le_of_ble_eq_true rfl) rfl rfl (Nat.le_of_ble_eq_true rfl) (by decide +kernel) (c_setGuard hR (g := k) (p := 2) (by omega) (by omega) (((F_gw σ k) (192 + 10 * k + 2) - (nI 1)))) hF ?_
        intro h hR hF
        refine wp_aload_n d260_37 rfl ?_
        refine wp_iload_n d260_38 rfl ?_
        refine wp_iconst d260_39 (v := nI 2) (by decide) ?_
        refine wp_invvT (e := 81) (j2 := 227) (n := 2) d260_40 (by decide +kernel) (by decide +kernel) rfl rfl rfl (md_0 hR) (by decide +kernel) (Nat.le_of_ble_eq_true rfl) rfl rfl (Nat.le_of_ble_eq_true rfl) (by decide +kernel) (tells_eq (c_guardPart hR (r := k) (p := 2) (by omega) (by omega)) upd_eq) ?_
        refine wp_if_ne d260_43 (tgt := 150) (by decide) (fun hc43 => ?_) (fun hc43 => ?_)
        · refine wp_iinc d260_150 rfl (v := nI (k + 1)) (nI_add _ 1) (Nat.le_of_ble_eq_true rfl) rfl ?_
          refine wp_goto d260_153 (tgt := 4) (by decide) ?_
          exact ih (nG - (k + 1)) (by omega) (k + 1) h _ _ _ rfl (by omega) (by simp only [F_gw, F_gw1]; rw [if_pos hc20, if_neg hc43]; exact hR) hF (by simp only [F_gwn, F_gwc]; rw [if_pos hc20, if_neg hc43]; omega)
        · refine wp_aload_n d260_46 rfl ?_
          refine wp_iload_n d260_47 rfl ?_
          refine wp_iconst d260_48 (v := nI 1) (by decide) ?_
          refine wp_invvT (e := 81) (j2 := 227) (n := 2) d260_49 (by decide +kernel) (by decide +kernel) rfl rfl rfl (md_0 hR) (by decide +kernel) (Nat.le_of_ble_eq_true rfl) rfl rfl (Nat.le_of_ble_eq_true rfl) (by decide +kernel) (tells_eq (c_guardPart hR (r := k) (p := 1) (by omega) (by omega)) ((upd_ne (by omega)).trans ht2)) ?_
          refine wp_istore_n d260_52 (Nat.le_of_ble_eq_true rfl) rfl ?_
          refine wp_aload_n d260_53 rfl ?_
          refine wp_iload_n d260_54 rfl ?_
          refine wp_iconst d260_55 (v := nI 0) (by decide) ?_
          refine wp_iload_n d260_56 rfl ?_
          refine wp_invvD (e := 87) (j2 := 230) (n := 3) d260_57 (by decide +kernel) (by decide +kernel) rfl rfl rfl (md_0 hR) (by decide +kernel) (Nat.le_of_ble_eq_true rfl) rfl rfl (Nat.le_of_ble_eq_true rfl) (by decide +kernel) (c_setGuard hR (g := k) (p := 0) (by omega) (by omega) (nI t)) hF ?_
          intro h hR hF
          refine wp_aload_n d260_60 rfl ?_
          refine wp_iload_n d260_61 rfl ?_
          refine wp_iconst d260_62 (v := nI 1) (by decide) ?_
          refine wp_bipush d260_63 (v := (-5 : Int32)) (by decide) ?_
          refine wp_invvD (e := 87) (j2 := 230) (n := 3) d260_65 (by decide +kernel) (by decide +kernel) rfl rfl rfl (md_0 hR) (by decide +kernel) (Nat.le_of_ble_eq_true rfl) rfl rfl (Nat.le_of_ble_eq_true rfl) (by decide +kernel) (c_setGuard hR (g := k) (p := 1) (by omega) (by omega) ((-5 : Int32))) hF ?_
          intro h hR hF
          refine wp_aload_n d260_68 rfl ?_
          refine wp_iload_n d260_69 rfl ?_
          refine wp_iconst d260_70 (v := nI 3) (by decide) ?_
          refine wp_aload_n d260_71 rfl ?_
          refine wp_iload_n d260_72 rfl ?_
          refine wp_iconst d260_73 (v := nI 4) (by decide) ?_
          refine wp_invvT (e := 81) (j2 := 227) (n := 2) d260_74 (by decide +kernel) (by decide +kernel) rfl rfl rfl (md_0 hR) (by decide +kernel) (Nat.le_of_ble_eq_true rfl) rfl rfl (Nat.le_of_ble_eq_true rfl) (by decide +kernel) (tells_eq (c_guardPart hR (r := k) (p := 4) (by omega) (by omega)) ((upd_ne (by omega)).trans ((upd_ne (by omega)).trans ((upd_ne (by omega)).trans rfl)))) ?_
          refine wp_invvD (e := 87) (j2 := 230) (n := 3) d260_77 (by decide +kernel) (by decide +kernel) rfl rfl rfl (md_0 hR) (by decide +kernel) (Nat.le_of_ble_eq_true rfl) rfl rfl (Nat.le_of_ble_eq_true rfl) (by decide +kernel) (c_setGuard hR (g := k) (p := 3) (by omega) (by omega) (((F_gw σ k)) (192 + 10 * k + 4))) hF ?_
          intro h hR hF
          refine wp_aload_n d260_80 rfl ?_
          refine wp_iload_n d260_81 rfl ?_
          refine wp_bipush d260_82 (v := nI 9) (by decide) ?_
          refine wp_aload_n d260_84 rfl ?_
          refine wp_getf (e := 7) (ci := 12) (k := 0) (nest := false) d260_85 (by decide +kernel) (md_0 hR) rfl ?_
          refine wp_iconst d260_88 (v := nI 0) (by decide) ?_
          refine wp_iald d260_89 (md_1 hR) (nI_in (by omega) (by decide)) (v := nI mi) ((congrArg ((G_set (G_set (G_set (G_set (F_gw σ k) k 2 (((F_gw σ k) (192 + 10 * k + 2) - (nI 1)))) k 0 (nI t)) k 1 ((-5 : Int32))) k 3 (((F_gw σ k)) (192 + 10 * k + 4)))) (nI_nat (by omega))).trans ((upd_ne (by omega)).trans ((upd_ne (by omega)).trans ((upd_ne (by omega)).trans ((upd_ne (by omega)).trans hmi))))) ?_
          refine wp_iconst d260_90 (v := nI 1) (by decide) ?_
          refine wp_iaddv d260_91 (v := nI (mi + 1)) (nI_add _ _) ?_
          refine wp_invvD (e := 87) (j2 := 230) (n := 3) d260_92 (by decide +kernel) (by decide +kernel) rfl rfl rfl (md_0 hR) (by decide +kernel) (Nat.le_of_ble_eq_true rfl) rfl rfl (Nat.le_of_ble_eq_true rfl) (by decide +kernel) (c_setGuard hR (g := k) (p := 9) (by omega) (by omega) (nI (mi + 1))) hF ?_
          intro h hR hF
          refine wp_aload_n d260_95 rfl ?_
          refine wp_iload_n d260_96 rfl ?_
          refine wp_bipush d260_97 (v := nI 8) (by decide) ?_
          refine wp_aload_n d260_99 rfl ?_
          refine wp_iload_n d260_100 rfl ?_
          refine wp_bipush d260_101 (v := nI 8) (by decide) ?_
          refine wp_invvT (e := 81) (j2 := 227) (n := 2) d260_103 (by decide +kernel) (by decide +kernel) rfl rfl rfl (md_0 hR) (by decide +kernel) (Nat.le_of_ble_eq_true rfl) rfl rfl (Nat.le_of_ble_eq_true rfl) (by decide +kernel) (tells_eq (c_guardPart hR (r := k) (p := 8) (by omega) (by omega)) ((upd_ne (by omega)).trans ((upd_ne (by omega)).trans ((upd_ne (by omega)).trans ((upd_ne (by omega)).trans ((upd_ne (by omega)).trans rfl)))))) ?_
          refine wp_iconst d260_106 (v := nI 1) (by decide) ?_
          refine wp_iadd d260_107 ?_
          refine wp_invvD (e := 87) (j2 := 230) (n := 3) d260_108 (by decide +kernel) (by decide +kernel) rfl rfl rfl (md_0 hR) (by decide +kernel) (Nat.le_of_ble_eq_true rfl) rfl rfl (Nat.le_of_ble_eq_true rfl) (by decide +kernel) (c_setGuard hR (g := k) (p := 8) (by omega) (by omega) ((((F_gw σ k)) (192 + 10 * k + 8) + (nI 1)))) hF ?_
          intro h hR hF
          refine wp_aload_n d260_111 rfl ?_
          refine wp_iload_n d260_112 rfl ?_
          refine wp_iconst d260_113 (v := nI 0) (by decide) ?_
          refine wp_invvT (e := 63) (j2 := 219) (n := 2) d260_114 (by decide +kernel) (by decide +kernel) rfl rfl rfl (md_0 hR) (by decide +kernel) (Nat.le_of_ble_eq_true rfl) rfl rfl (Nat.le_of_ble_eq_true rfl) (by decide +kernel) (tells_eq (c_roomPart hR (r := t) (p := 0) (by omega) (by omega)) ((upd_ne (by omega)).trans ((upd_ne (by omega)).trans ((upd_ne (by omega)).trans ((upd_ne (by omega)).trans ((upd_ne (by omega)).trans ((upd_ne (by omega)).trans rfl))))))) ?_
          refine wp_istore d260_117 (Nat.le_of_ble_eq_true rfl) rfl ?_
          refine wp_iload_n d260_119 rfl ?_
          refine wp_iload d260_120 rfl ?_
          refine wp_if_lt d260_122 (tgt := 147) (by decide) (fun hc122 => ?_) (fun hc122 => ?_)
          · refine wp_iconst d260_147 (v := nI 0) (by decide) ?_
            refine wp_iaddv d260_148 (v := nI (a + 0)) (nI_add _ _) ?_
            refine wp_istore_n d260_149 (Nat.le_of_ble_eq_true rfl) rfl ?_
            refine wp_iinc d260_150 rfl (v := nI (k + 1)) (nI_add _ 1) (Nat.le_of_ble_eq_true rfl) rfl ?_
            refine wp_goto d260_153 (tgt := 4) (by decide) ?_
            exact ih (nG - (k + 1)) (by omega) (k + 1) h _ _ _ rfl (by omega) (by simp only [F_gw, F_gw1]; rw [if_pos hc20, if_pos hc43, ht2, nI_nat (by omega), if_neg (fun q => absurd hc122 (Int32.not_lt.mpr q.1))]; rw [hmi, nI_nat (by omega)]; exact hR) hF (by simp only [F_gwn, F_gwc]; rw [if_pos hc20, if_pos hc43, ht2, nI_nat (by omega), if_neg (fun q => absurd hc122 (Int32.not_lt.mpr q.1))]; omega)
          · obtain ⟨z, hz6, hz2⟩ := hz.resolve_left hc122
            rw [hz2] at hc122 ⊢
            refine wp_aload_n d260_125 rfl ?_
            refine wp_getf (e := 7) (ci := 12) (k := 0) (nest := false) d260_126 (by decide +kernel) (md_0 hR) rfl ?_
            refine wp_bipush d260_129 (v := nI 8) (by decide) ?_
            refine wp_iload d260_131 rfl ?_
            refine wp_iaddv d260_133 (v := nI (8 + z)) (nI_add _ _) ?_
            refine wp_iald d260_134 (md_1 hR) (nI_in (by omega) (by decide)) (v := ((F_gw σ k)) (8 + z)) ((congrArg ((G_set (G_set (G_set (G_set (G_set (G_set (F_gw σ k) k 2 (((F_gw σ k) (192 + 10 * k + 2) - (nI 1)))) k 0 (nI t)) k 1 ((-5 : Int32))) k 3 (((F_gw σ k)) (192 + 10 * k + 4))) k 9 (nI (mi + 1))) k 8 ((((F_gw σ k)) (192 + 10 * k + 8) + (nI 1))))) (nI_nat (by omega))).trans ((upd_ne (by omega)).trans ((upd_ne (by omega)).trans ((upd_ne (by omega)).trans ((upd_ne (by omega)).trans ((upd_ne (by omega)).trans ((upd_ne (by omega)).trans rfl))))))) ?_
            refine wp_if_ne d260_135 (tgt := 147) (by decide) (fun hc135 => ?_) (fun hc135 => ?_)
            · refine wp_iconst d260_147 (v := nI 0) (by decide) ?_
              refine wp_iaddv d260_148 (v := nI (a + 0)) (nI_add _ _) ?_
              refine wp_istore_n d260_149 (Nat.le_of_ble_eq_true rfl) rfl ?_
              refine wp_iinc d260_150 rfl (v := nI (k + 1)) (nI_add _ 1) (Nat.le_of_ble_eq_true rfl) rfl ?_
              refine wp_goto d260_153 (tgt := 4) (by decide) ?_
              exact ih (nG - (k + 1)) (by omega) (k + 1) h _ _ _ rfl (by omega) (by simp only [F_gw, F_gw1]; rw [if_pos hc20, if_pos hc43, ht2, nI_nat (by omega), if_neg (fun q => hc135 (by have := q.2; rw [hz2, nI_nat (by omega)] at this; exact this))]; rw [hmi, nI_nat (by omega)]; exact hR) hF (by simp only [F_gwn, F_gwc]; rw [if_pos hc20, if_pos hc43, ht2, nI_nat (by omega), if_neg (fun q => hc135 (by have := q.2; rw [hz2, nI_nat (by omega)] at this; exact this))]; omega)
            · refine wp_aload_n d260_138 rfl ?_
              refine wp_iconst d260_139 (v := nI 0) (by decide) ?_
              refine wp_iload_n d260_140 rfl ?_
              refine wp_invvDI (e := 135) (j2 := 261) (n := 2) d260_141 (by decide +kernel) (by decide +kernel) rfl rfl rfl (md_0 hR) (by decide +kernel) (Nat.le_of_ble_eq_true rfl) rfl rfl (Nat.le_of_ble_eq_true rfl) (by decide +kernel) (c_alarms hR (nA := nA) ((upd_ne (by omega)).trans ((upd_ne (by omega)).trans ((upd_ne (by omega)).trans ((upd_ne (by omega)).trans ((upd_ne (by omega)).trans ((upd_ne (by omega)).trans hA)))))) hA40 (nI 0) (nI t)) hF ?_
              intro h hR hF
              refine wp_goto d260_144 (tgt := 148) (by decide) ?_
              refine wp_iaddv d260_148 (v := nI (a + 1)) (nI_add _ _) ?_
              refine wp_istore_n d260_149 (Nat.le_of_ble_eq_true rfl) rfl ?_
              refine wp_iinc d260_150 rfl (v := nI (k + 1)) (nI_add _ 1) (Nat.le_of_ble_eq_true rfl) rfl ?_
              refine wp_goto d260_153 (tgt := 4) (by decide) ?_
              exact ih (nG - (k + 1)) (by omega) (k + 1) h _ _ _ rfl (by omega) (by simp only [F_gw, F_gw1]; rw [if_pos hc20, if_pos hc43, ht2, nI_nat (by omega), if_pos (by unfold F_ring; rw [hz2, nI_nat (by omega)]; exact ⟨nI_pos' (by omega), hc135⟩)]; rw [hA, hmi, nI_nat (by omega), nI_nat (by omega)]; exact hR) hF (by simp only [F_gwn, F_gwc]; rw [if_pos hc20, if_pos hc43, ht2, nI_nat (by omega), if_pos (by unfold F_ring; rw [hz2, nI_nat (by omega)]; exact ⟨nI_pos' (by omega), hc135⟩)]; omega)
theorem c_guardsWalk {X : mX} {h : mH} {R : Nat → Nat → Int32} {σ : Nat → Int32} (hR : Ms h R σ) {nG : Nat} (hG : nG ≤ 4) (hP : ∀ k, k ≤ nG → P_gw (F_gw σ k) k nG) : Does X 260 [.ref 313] h (R) (F_gw σ nG) (some (.int (nI (F_gwn σ nG)))) := by
  have hF : Frm h h 313 8 := Frm.rf
  refine wp_iconst d260_0 (v := nI 0) (by decide) ?_
  refine wp_istore_n d260_1 (Nat.le_of_ble_eq_true rfl) rfl ?_
  refine wp_iconst d260_2 (v := nI 0) (by decide) ?_
  refine wp_istore_n d260_3 (Nat.le_of_ble_eq_true rfl) rfl ?_
  exact c_guardsWalk_l hG hP _ 0 h 0 _ _ rfl (by omega) hR hF rfl
