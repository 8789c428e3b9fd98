/-! The reference: what is due first, gaps, stays. -/
theorem d285_0 : decode (m_code 285) 0 = .ok (.iload_n 1, 1) := by decide +kernel
theorem d285_1 : decode (m_code 285) 1 = .ok (.ifCond .lt 12, 3) := by decide +kernel
theorem d285_4 : decode (m_code 285) 4 = .ok (.iload_n 2, 1) := by decide +kernel
theorem d285_5 : decode (m_code 285) 5 = .ok (.iconst 0, 1) := by decide +kernel
theorem d285_6 : decode (m_code 285) 6 = .ok (.iconst 3, 1) := by decide +kernel
theorem d285_7 : decode (m_code 285) 7 = .ok (.invokestatic 39, 3) := by decide +kernel
theorem d285_10 : decode (m_code 285) 10 = .ok (.ifCond .ne 6, 3) := by decide +kernel
theorem d285_13 : decode (m_code 285) 13 = .ok (.bipush (-2), 2) := by decide +kernel
theorem d285_15 : decode (m_code 285) 15 = .ok (.ireturn, 1) := by decide +kernel
theorem d285_16 : decode (m_code 285) 16 = .ok (.iload_n 1, 1) := by decide +kernel
theorem d285_17 : decode (m_code 285) 17 = .ok (.istore_n 3, 1) := by decide +kernel
theorem d285_18 : decode (m_code 285) 18 = .ok (.iconst 4, 1) := by decide +kernel
theorem d285_19 : decode (m_code 285) 19 = .ok (.aload_n 0, 1) := by decide +kernel
theorem d285_20 : decode (m_code 285) 20 = .ok (.getfield 7, 3) := by decide +kernel
theorem d285_23 : decode (m_code 285) 23 = .ok (.iconst 0, 1) := by decide +kernel
theorem d285_24 : decode (m_code 285) 24 = .ok (.iaload, 1) := by decide +kernel
theorem d285_25 : decode (m_code 285) 25 = .ok (.imul, 1) := by decide +kernel
theorem d285_26 : decode (m_code 285) 26 = .ok (.iconst 1, 1) := by decide +kernel
theorem d285_27 : decode (m_code 285) 27 = .ok (.isub, 1) := by decide +kernel
theorem d285_28 : decode (m_code 285) 28 = .ok (.istore 4, 2) := by decide +kernel
theorem d285_30 : decode (m_code 285) 30 = .ok (.iload 4, 2) := by decide +kernel
theorem d285_32 : decode (m_code 285) 32 = .ok (.ifCond .lt 92, 3) := by decide +kernel
theorem d285_35 : decode (m_code 285) 35 = .ok (.aload_n 0, 1) := by decide +kernel
theorem d285_36 : decode (m_code 285) 36 = .ok (.getfield 7, 3) := by decide +kernel
theorem d285_39 : decode (m_code 285) 39 = .ok (.sipush 1298, 3) := by decide +kernel
theorem d285_42 : decode (m_code 285) 42 = .ok (.iload 4, 2) := by decide +kernel
theorem d285_44 : decode (m_code 285) 44 = .ok (.iadd, 1) := by decide +kernel
theorem d285_45 : decode (m_code 285) 45 = .ok (.iaload, 1) := by decide +kernel
theorem d285_46 : decode (m_code 285) 46 = .ok (.istore 5, 2) := by decide +kernel
theorem d285_48 : decode (m_code 285) 48 = .ok (.iload 5, 2) := by decide +kernel
theorem d285_50 : decode (m_code 285) 50 = .ok (.ifCond .le 55, 3) := by decide +kernel
theorem d285_53 : decode (m_code 285) 53 = .ok (.iload_n 3, 1) := by decide +kernel
theorem d285_54 : decode (m_code 285) 54 = .ok (.ifCond .ne 51, 3) := by decide +kernel
theorem d285_57 : decode (m_code 285) 57 = .ok (.iload_n 2, 1) := by decide +kernel
theorem d285_58 : decode (m_code 285) 58 = .ok (.ifCond .ne 10, 3) := by decide +kernel
theorem d285_61 : decode (m_code 285) 61 = .ok (.iload 4, 2) := by decide +kernel
theorem d285_63 : decode (m_code 285) 63 = .ok (.iconst 4, 1) := by decide +kernel
theorem d285_64 : decode (m_code 285) 64 = .ok (.irem, 1) := by decide +kernel
theorem d285_65 : decode (m_code 285) 65 = .ok (.goto 39, 3) := by decide +kernel
theorem d285_68 : decode (m_code 285) 68 = .ok (.iload_n 2, 1) := by decide +kernel
theorem d285_69 : decode (m_code 285) 69 = .ok (.iconst 1, 1) := by decide +kernel
theorem d285_70 : decode (m_code 285) 70 = .ok (.if_icmp .ne 14, 3) := by decide +kernel
theorem d285_73 : decode (m_code 285) 73 = .ok (.iload 5, 2) := by decide +kernel
theorem d285_75 : decode (m_code 285) 75 = .ok (.iconst 1, 1) := by decide +kernel
theorem d285_76 : decode (m_code 285) 76 = .ok (.isub, 1) := by decide +kernel
theorem d285_77 : decode (m_code 285) 77 = .ok (.sipush 1000, 3) := by decide +kernel
theorem d285_80 : decode (m_code 285) 80 = .ok (.idiv, 1) := by decide +kernel
theorem d285_81 : decode (m_code 285) 81 = .ok (.goto 23, 3) := by decide +kernel
theorem d285_84 : decode (m_code 285) 84 = .ok (.iload_n 2, 1) := by decide +kernel
theorem d285_85 : decode (m_code 285) 85 = .ok (.iconst 2, 1) := by decide +kernel
theorem d285_86 : decode (m_code 285) 86 = .ok (.if_icmp .ne 14, 3) := by decide +kernel
theorem d285_89 : decode (m_code 285) 89 = .ok (.iload 5, 2) := by decide +kernel
theorem d285_91 : decode (m_code 285) 91 = .ok (.iconst 1, 1) := by decide +kernel
theorem d285_92 : decode (m_code 285) 92 = .ok (.isub, 1) := by decide +kernel
theorem d285_93 : decode (m_code 285) 93 = .ok (.sipush 1000, 3) := by decide +kernel
theorem d285_96 : decode (m_code 285) 96 = .ok (.irem, 1) := by decide +kernel
theorem d285_97 : decode (m_code 285) 97 = .ok (.goto 7, 3) := by decide +kernel
theorem d285_100 : decode (m_code 285) 100 = .ok (.iload 4, 2) := by decide +kernel
theorem d285_102 : decode (m_code 285) 102 = .ok (.iconst 4, 1) := by decide +kernel
theorem d285_103 : decode (m_code 285) 103 = .ok (.idiv, 1) := by decide +kernel
theorem d285_104 : decode (m_code 285) 104 = .ok (.ireturn, 1) := by decide +kernel
theorem d285_105 : decode (m_code 285) 105 = .ok (.iload_n 3, 1) := by decide +kernel
theorem d285_106 : decode (m_code 285) 106 = .ok (.iload 5, 2) := by decide +kernel
theorem d285_108 : decode (m_code 285) 108 = .ok (.ifCond .le 7, 3) := by decide +kernel
theorem d285_111 : decode (m_code 285) 111 = .ok (.iconst 1, 1) := by decide +kernel
theorem d285_112 : decode (m_code 285) 112 = .ok (.goto 4, 3) := by decide +kernel
theorem d285_115 : decode (m_code 285) 115 = .ok (.iconst 0, 1) := by decide +kernel
theorem d285_116 : decode (m_code 285) 116 = .ok (.isub, 1) := by decide +kernel
theorem d285_117 : decode (m_code 285) 117 = .ok (.istore_n 3, 1) := by decide +kernel
theorem d285_118 : decode (m_code 285) 118 = .ok (.iinc 4 (-1), 3) := by decide +kernel
theorem d285_121 : decode (m_code 285) 121 = .ok (.goto (-91), 3) := by decide +kernel
theorem d285_124 : decode (m_code 285) 124 = .ok (.bipush (-5), 2) := by decide +kernel
theorem d285_126 : decode (m_code 285) 126 = .ok (.ireturn, 1) := by decide +kernel
theorem d286_0 : decode (m_code 286) 0 = .ok (.aload_n 0, 1) := by decide +kernel
theorem d286_1 : decode (m_code 286) 1 = .ok (.iload_n 1, 1) := by decide +kernel
theorem d286_2 : decode (m_code 286) 2 = .ok (.invokevirtual 57, 3) := by decide +kernel
theorem d286_5 : decode (m_code 286) 5 = .ok (.ifCond .ne 5, 3) := by decide +kernel
theorem d286_8 : decode (m_code 286) 8 = .ok (.iconst (-1), 1) := by decide +kernel
theorem d286_9 : decode (m_code 286) 9 = .ok (.ireturn, 1) := by decide +kernel
theorem d286_10 : decode (m_code 286) 10 = .ok (.iload_n 2, 1) := by decide +kernel
theorem d286_11 : decode (m_code 286) 11 = .ok (.ifCond .lt 18, 3) := by decide +kernel
theorem d286_14 : decode (m_code 286) 14 = .ok (.iload_n 3, 1) := by decide +kernel
theorem d286_15 : decode (m_code 286) 15 = .ok (.iload_n 2, 1) := by decide +kernel
theorem d286_16 : decode (m_code 286) 16 = .ok (.if_icmp .lt 13, 3) := by decide +kernel
theorem d286_19 : decode (m_code 286) 19 = .ok (.iload_n 3, 1) := by decide +kernel
theorem d286_20 : decode (m_code 286) 20 = .ok (.aload_n 0, 1) := by decide +kernel
theorem d286_21 : decode (m_code 286) 21 = .ok (.getfield 7, 3) := by decide +kernel
theorem d286_24 : decode (m_code 286) 24 = .ok (.iconst 0, 1) := by decide +kernel
theorem d286_25 : decode (m_code 286) 25 = .ok (.iaload, 1) := by decide +kernel
theorem d286_26 : decode (m_code 286) 26 = .ok (.if_icmp .le 6, 3) := by decide +kernel
theorem d286_29 : decode (m_code 286) 29 = .ok (.bipush (-2), 2) := by decide +kernel
theorem d286_31 : decode (m_code 286) 31 = .ok (.ireturn, 1) := by decide +kernel
theorem d286_32 : decode (m_code 286) 32 = .ok (.iconst 0, 1) := by decide +kernel
theorem d286_33 : decode (m_code 286) 33 = .ok (.istore 4, 2) := by decide +kernel
theorem d286_35 : decode (m_code 286) 35 = .ok (.iconst 0, 1) := by decide +kernel
theorem d286_36 : decode (m_code 286) 36 = .ok (.istore 5, 2) := by decide +kernel
theorem d286_38 : decode (m_code 286) 38 = .ok (.iload_n 2, 1) := by decide +kernel
theorem d286_39 : decode (m_code 286) 39 = .ok (.istore 6, 2) := by decide +kernel
theorem d286_41 : decode (m_code 286) 41 = .ok (.iload 6, 2) := by decide +kernel
theorem d286_43 : decode (m_code 286) 43 = .ok (.iload_n 3, 1) := by decide +kernel
theorem d286_44 : decode (m_code 286) 44 = .ok (.if_icmp .ge 54, 3) := by decide +kernel
theorem d286_47 : decode (m_code 286) 47 = .ok (.aload_n 0, 1) := by decide +kernel
theorem d286_48 : decode (m_code 286) 48 = .ok (.getfield 7, 3) := by decide +kernel
theorem d286_51 : decode (m_code 286) 51 = .ok (.sipush 578, 3) := by decide +kernel
theorem d286_54 : decode (m_code 286) 54 = .ok (.iload 6, 2) := by decide +kernel
theorem d286_56 : decode (m_code 286) 56 = .ok (.iadd, 1) := by decide +kernel
theorem d286_57 : decode (m_code 286) 57 = .ok (.iaload, 1) := by decide +kernel
theorem d286_58 : decode (m_code 286) 58 = .ok (.iload_n 1, 1) := by decide +kernel
theorem d286_59 : decode (m_code 286) 59 = .ok (.ishr, 1) := by decide +kernel
theorem d286_60 : decode (m_code 286) 60 = .ok (.iconst 1, 1) := by decide +kernel
theorem d286_61 : decode (m_code 286) 61 = .ok (.iand, 1) := by decide +kernel
theorem d286_62 : decode (m_code 286) 62 = .ok (.iconst 1, 1) := by decide +kernel
theorem d286_63 : decode (m_code 286) 63 = .ok (.if_icmp .ne 7, 3) := by decide +kernel
theorem d286_66 : decode (m_code 286) 66 = .ok (.iconst 0, 1) := by decide +kernel
theorem d286_67 : decode (m_code 286) 67 = .ok (.goto 7, 3) := by decide +kernel
theorem d286_70 : decode (m_code 286) 70 = .ok (.iload 5, 2) := by decide +kernel
theorem d286_72 : decode (m_code 286) 72 = .ok (.iconst 1, 1) := by decide +kernel
theorem d286_73 : decode (m_code 286) 73 = .ok (.iadd, 1) := by decide +kernel
theorem d286_74 : decode (m_code 286) 74 = .ok (.istore 5, 2) := by decide +kernel
theorem d286_76 : decode (m_code 286) 76 = .ok (.iload 5, 2) := by decide +kernel
theorem d286_78 : decode (m_code 286) 78 = .ok (.iload 4, 2) := by decide +kernel
theorem d286_80 : decode (m_code 286) 80 = .ok (.if_icmp .le 8, 3) := by decide +kernel
theorem d286_83 : decode (m_code 286) 83 = .ok (.iload 5, 2) := by decide +kernel
theorem d286_85 : decode (m_code 286) 85 = .ok (.goto 5, 3) := by decide +kernel
theorem d286_88 : decode (m_code 286) 88 = .ok (.iload 4, 2) := by decide +kernel
theorem d286_90 : decode (m_code 286) 90 = .ok (.istore 4, 2) := by decide +kernel
theorem d286_92 : decode (m_code 286) 92 = .ok (.iinc 6 1, 3) := by decide +kernel
theorem d286_95 : decode (m_code 286) 95 = .ok (.goto (-54), 3) := by decide +kernel
theorem d286_98 : decode (m_code 286) 98 = .ok (.iload 4, 2) := by decide +kernel
theorem d286_100 : decode (m_code 286) 100 = .ok (.ireturn, 1) := by decide +kernel
theorem d288_0 : decode (m_code 288) 0 = .ok (.bipush (-5), 2) := by decide +kernel
theorem d288_2 : decode (m_code 288) 2 = .ok (.istore_n 1, 1) := by decide +kernel
theorem d288_3 : decode (m_code 288) 3 = .ok (.sipush 10000, 3) := by decide +kernel
theorem d288_6 : decode (m_code 288) 6 = .ok (.istore_n 2, 1) := by decide +kernel
theorem d288_7 : decode (m_code 288) 7 = .ok (.iconst 0, 1) := by decide +kernel
theorem d288_8 : decode (m_code 288) 8 = .ok (.istore_n 3, 1) := by decide +kernel
theorem d288_9 : decode (m_code 288) 9 = .ok (.iload_n 3, 1) := by decide +kernel
theorem d288_10 : decode (m_code 288) 10 = .ok (.aload_n 0, 1) := by decide +kernel
theorem d288_11 : decode (m_code 288) 11 = .ok (.getfield 7, 3) := by decide +kernel
theorem d288_14 : decode (m_code 288) 14 = .ok (.iconst 2, 1) := by decide +kernel
theorem d288_15 : decode (m_code 288) 15 = .ok (.iaload, 1) := by decide +kernel
theorem d288_16 : decode (m_code 288) 16 = .ok (.if_icmp .ge 76, 3) := by decide +kernel
theorem d288_19 : decode (m_code 288) 19 = .ok (.aload_n 0, 1) := by decide +kernel
theorem d288_20 : decode (m_code 288) 20 = .ok (.iload_n 3, 1) := by decide +kernel
theorem d288_21 : decode (m_code 288) 21 = .ok (.iconst 1, 1) := by decide +kernel
theorem d288_22 : decode (m_code 288) 22 = .ok (.invokevirtual 63, 3) := by decide +kernel
theorem d288_25 : decode (m_code 288) 25 = .ok (.iconst 1, 1) := by decide +kernel
theorem d288_26 : decode (m_code 288) 26 = .ok (.iadd, 1) := by decide +kernel
theorem d288_27 : decode (m_code 288) 27 = .ok (.aload_n 0, 1) := by decide +kernel
theorem d288_28 : decode (m_code 288) 28 = .ok (.iload_n 3, 1) := by decide +kernel
theorem d288_29 : decode (m_code 288) 29 = .ok (.iconst 3, 1) := by decide +kernel
theorem d288_30 : decode (m_code 288) 30 = .ok (.invokevirtual 63, 3) := by decide +kernel
theorem d288_33 : decode (m_code 288) 33 = .ok (.isub, 1) := by decide +kernel
theorem d288_34 : decode (m_code 288) 34 = .ok (.istore 4, 2) := by decide +kernel
theorem d288_36 : decode (m_code 288) 36 = .ok (.aload_n 0, 1) := by decide +kernel
theorem d288_37 : decode (m_code 288) 37 = .ok (.iload_n 3, 1) := by decide +kernel
theorem d288_38 : decode (m_code 288) 38 = .ok (.iconst 1, 1) := by decide +kernel
theorem d288_39 : decode (m_code 288) 39 = .ok (.invokevirtual 63, 3) := by decide +kernel
theorem d288_42 : decode (m_code 288) 42 = .ok (.ifCond .le 18, 3) := by decide +kernel
theorem d288_45 : decode (m_code 288) 45 = .ok (.iload 4, 2) := by decide +kernel
theorem d288_47 : decode (m_code 288) 47 = .ok (.ifCond .le 13, 3) := by decide +kernel
theorem d288_50 : decode (m_code 288) 50 = .ok (.iload 4, 2) := by decide +kernel
theorem d288_52 : decode (m_code 288) 52 = .ok (.iload_n 2, 1) := by decide +kernel
theorem d288_53 : decode (m_code 288) 53 = .ok (.if_icmp .ge 7, 3) := by decide +kernel
theorem d288_56 : decode (m_code 288) 56 = .ok (.iconst 1, 1) := by decide +kernel
theorem d288_57 : decode (m_code 288) 57 = .ok (.goto 4, 3) := by decide +kernel
theorem d288_60 : decode (m_code 288) 60 = .ok (.iconst 0, 1) := by decide +kernel
theorem d288_61 : decode (m_code 288) 61 = .ok (.istore 5, 2) := by decide +kernel
theorem d288_63 : decode (m_code 288) 63 = .ok (.iload 5, 2) := by decide +kernel
theorem d288_65 : decode (m_code 288) 65 = .ok (.ifCond .eq 7, 3) := by decide +kernel
theorem d288_68 : decode (m_code 288) 68 = .ok (.iload_n 3, 1) := by decide +kernel
theorem d288_69 : decode (m_code 288) 69 = .ok (.goto 4, 3) := by decide +kernel
theorem d288_72 : decode (m_code 288) 72 = .ok (.iload_n 1, 1) := by decide +kernel
theorem d288_73 : decode (m_code 288) 73 = .ok (.istore_n 1, 1) := by decide +kernel
theorem d288_74 : decode (m_code 288) 74 = .ok (.iload 5, 2) := by decide +kernel
theorem d288_76 : decode (m_code 288) 76 = .ok (.ifCond .eq 8, 3) := by decide +kernel
theorem d288_79 : decode (m_code 288) 79 = .ok (.iload 4, 2) := by decide +kernel
theorem d288_81 : decode (m_code 288) 81 = .ok (.goto 4, 3) := by decide +kernel
theorem d288_84 : decode (m_code 288) 84 = .ok (.iload_n 2, 1) := by decide +kernel
theorem d288_85 : decode (m_code 288) 85 = .ok (.istore_n 2, 1) := by decide +kernel
theorem d288_86 : decode (m_code 288) 86 = .ok (.iinc 3 1, 3) := by decide +kernel
theorem d288_89 : decode (m_code 288) 89 = .ok (.goto (-80), 3) := by decide +kernel
theorem d288_92 : decode (m_code 288) 92 = .ok (.iload_n 1, 1) := by decide +kernel
theorem d288_93 : decode (m_code 288) 93 = .ok (.ireturn, 1) := by decide +kernel
theorem d289_0 : decode (m_code 289) 0 = .ok (.aload_n 0, 1) := by decide +kernel
theorem d289_1 : decode (m_code 289) 1 = .ok (.iload_n 1, 1) := by decide +kernel
theorem d289_2 : decode (m_code 289) 2 = .ok (.invokevirtual 153, 3) := by decide +kernel
theorem d289_5 : decode (m_code 289) 5 = .ok (.istore_n 2, 1) := by decide +kernel
theorem d289_6 : decode (m_code 289) 6 = .ok (.iload_n 2, 1) := by decide +kernel
theorem d289_7 : decode (m_code 289) 7 = .ok (.ifCond .ge 5, 3) := by decide +kernel
theorem d289_10 : decode (m_code 289) 10 = .ok (.iload_n 2, 1) := by decide +kernel
theorem d289_11 : decode (m_code 289) 11 = .ok (.ireturn, 1) := by decide +kernel
theorem d289_12 : decode (m_code 289) 12 = .ok (.aload_n 0, 1) := by decide +kernel
theorem d289_13 : decode (m_code 289) 13 = .ok (.getfield 7, 3) := by decide +kernel
theorem d289_16 : decode (m_code 289) 16 = .ok (.iconst 0, 1) := by decide +kernel
theorem d289_17 : decode (m_code 289) 17 = .ok (.aload_n 0, 1) := by decide +kernel
theorem d289_18 : decode (m_code 289) 18 = .ok (.getfield 13, 3) := by decide +kernel
theorem d289_21 : decode (m_code 289) 21 = .ok (.iconst 0, 1) := by decide +kernel
theorem d289_22 : decode (m_code 289) 22 = .ok (.invokestatic 35, 3) := by decide +kernel
theorem d289_25 : decode (m_code 289) 25 = .ok (.aload_n 0, 1) := by decide +kernel
theorem d289_26 : decode (m_code 289) 26 = .ok (.iload_n 1, 1) := by decide +kernel
theorem d289_27 : decode (m_code 289) 27 = .ok (.invokevirtual 156, 3) := by decide +kernel
theorem d289_30 : decode (m_code 289) 30 = .ok (.istore_n 3, 1) := by decide +kernel
theorem d289_31 : decode (m_code 289) 31 = .ok (.aload_n 0, 1) := by decide +kernel
theorem d289_32 : decode (m_code 289) 32 = .ok (.getfield 13, 3) := by decide +kernel
theorem d289_35 : decode (m_code 289) 35 = .ok (.iconst 0, 1) := by decide +kernel
theorem d289_36 : decode (m_code 289) 36 = .ok (.aload_n 0, 1) := by decide +kernel
theorem d289_37 : decode (m_code 289) 37 = .ok (.getfield 7, 3) := by decide +kernel
theorem d289_40 : decode (m_code 289) 40 = .ok (.iconst 0, 1) := by decide +kernel
theorem d289_41 : decode (m_code 289) 41 = .ok (.invokestatic 35, 3) := by decide +kernel
theorem d289_44 : decode (m_code 289) 44 = .ok (.iload_n 3, 1) := by decide +kernel
theorem d289_45 : decode (m_code 289) 45 = .ok (.ireturn, 1) := by decide +kernel
theorem nI_int {a : Nat} (h : a < 2 ^ 31) : (nI a).toInt = a := Int32.toInt_ofNat_of_lt h
theorem nI_div {a b : Nat} (ha : a < 2 ^ 31) (hb : b < 2 ^ 31) : nI a / nI b = nI (a / b) := by
  apply Int32.toInt_inj.mp
  have hd : a / b < 2 ^ 31 := Nat.lt_of_le_of_lt (Nat.div_le_self a b) ha
  have h0 : (0 : Int) ≤ (a : Int) / (b : Int) := Int.ediv_nonneg (by omega) (by omega)
  rw [Int32.toInt_div, nI_int ha, nI_int hb, nI_int hd, ← Int.ofNat_tdiv, Int.bmod_eq_of_le (by omega) (by omega)]
theorem nI_rem {a b : Nat} (ha : a < 2 ^ 31) (hb : b < 2 ^ 31) : nI a - nI a / nI b * nI b = nI (a % b) := by
  have e := Nat.div_add_mod a b
  have hm : a / b * b ≤ a := Nat.div_mul_le_self a b
  rw [nI_div ha hb, nI_mul, nI_sub hm ha]
  congr 1
  rw [Nat.mul_comm] at hm ⊢
  omega
/-- the room whose bound is due first among the first k, and the minutes left to it -/
def F_fd (σ : Nat → Int32) : Nat → Int32 × Int32
  | 0 => (-5, nI 10000)
  | k + 1 => if 0 < σ (20 + 6 * k + 1) ∧ 0 < σ (20 + 6 * k + 1) + nI 1 - σ (20 + 6 * k + 3) ∧ σ (20 + 6 * k + 1) + nI 1 - σ (20 + 6 * k + 3) < (F_fd σ k).2 then (nI k, σ (20 + 6 * k + 1) + nI 1 - σ (20 + 6 * k + 3)) else F_fd σ k
abbrev F_f1 (σ : Nat → Int32) (k : Nat) : Int32 := (F_fd σ k).1
abbrev F_f2 (σ : Nat → Int32) (k : Nat) : Int32 := (F_fd σ k).2
/-- the run of unwatched minutes after k from lo on, and the longest one -/
def F_gr (σ : Nat → Int32) (x : Int32) (lo : Nat) : Nat → Int32
  | 0 => nI 0
  | k + 1 => if (σ (578 + (lo + k)) >>> (x &&& 31)) &&& nI 1 = nI 1 then nI 0 else F_gr σ x lo k + nI 1
def F_gm (σ : Nat → Int32) (x : Int32) (lo : Nat) : Nat → Int32
  | 0 => nI 0
  | k + 1 => if F_gm σ x lo k < F_gr σ x lo (k + 1) then F_gr σ x lo (k + 1) else F_gm σ x lo k
theorem r_firstDue_l {X : mX} {h : mH} {R : Nat → Nat → Int32} {σ : Nat → Int32} (hR : Ms h R σ) {nR : Nat} (h2 : σ 2 = nI nR) (hR12 : nR ≤ 12) : ∀ (d : Nat) (k : Nat) (a b2 : Int32) (l4 l5 : Option Value), nR - k = d → k ≤ nR → a = F_f1 σ k → b2 = F_f2 σ k → m_wp X 288 9 [some (.ref 313), some (.int (a)), some (.int (b2)), some (.int (nI k)), l4, l5] [] h (fun w h1 => w = some (.int (F_f1 σ nR)) ∧ h1 = h) := by
  intro d
  induction d using Nat.strongRecOn with
  | ind d ih =>
    intro k a b2 l4 l5 hd hk ha hb
    refine wp_iload_n d288_9 rfl ?_
    refine wp_aload_n d288_10 rfl ?_
    refine wp_getf (e := 7) (ci := 12) (k := 0) (nest := false) d288_11 (by decide +kernel) (md_0 hR) rfl ?_
    refine wp_iconst d288_14 (v := nI 2) (by decide) ?_
    refine wp_iald d288_15 (md_1 hR) (nI_in (by omega) (by decide)) (v := nI nR) ((congrArg σ (nI_nat (by omega))).trans h2) ?_
    refine wp_icmp_ge d288_16 (tgt := 92) (by decide) (fun hc16 => ?_) (fun hc16 => ?_)
    · have hc16 : nR ≤ k := (nI_leI (by omega) (by omega)).mp hc16
      refine wp_iload_n d288_92 rfl ?_
      refine wp_iret d288_93 (by decide +kernel) ?_
      exact ⟨by rw [show nR = k by omega, ha], rfl⟩
    · have hc16 : ¬ (nR ≤ k) := fun z => hc16 ((nI_leI (by omega) (by omega)).mpr z)
      refine wp_aload_n d288_19 rfl ?_
      refine wp_iload_n d288_20 rfl ?_
      refine wp_iconst d288_21 (v := nI 1) (by decide) ?_
      refine wp_invvT (e := 63) (j2 := 219) (n := 2) d288_22 (by decide +kernel) (by decide +kernel) rfl rfl rfl (md_0 hR) (by decide +kernel) (Nat.le_of_ble_eq_true rfl) rfl rfl (Nat.le_of_ble_eq_true rfl) (by decide +kernel) (c_roomPart hR (r := k) (p := 1) (by omega) (by omega)) ?_
      refine wp_iconst d288_25 (v := nI 1) (by decide) ?_
      refine wp_iadd d288_26 ?_
      refine wp_aload_n d288_27 rfl ?_
      refine wp_iload_n d288_28 rfl ?_
      refine wp_iconst d288_29 (v := nI 3) (by decide) ?_
      refine wp_invvT (e := 63) (j2 := 219) (n := 2) d288_30 (by decide +kernel) (by decide +kernel) rfl rfl rfl (md_0 hR) (by decide +kernel) (Nat.le_of_ble_eq_true rfl) rfl rfl (Nat.le_of_ble_eq_true rfl) (by decide +kernel) (c_roomPart hR (r := k) (p := 3) (by omega) (by omega)) ?_
      refine wp_isub d288_33 ?_
      refine wp_istore d288_34 (Nat.le_of_ble_eq_true rfl) rfl ?_
      refine wp_aload_n d288_36 rfl ?_
      refine wp_iload_n d288_37 rfl ?_
      refine wp_iconst d288_38 (v := nI 1) (by decide) ?_
      refine wp_invvT (e := 63) (j2 := 219) (n := 2) d288_39 (by decide +kernel) (by decide +kernel) rfl rfl rfl (md_0 hR) (by decide +kernel) (Nat.le_of_ble_eq_true rfl) rfl rfl (Nat.le_of_ble_eq_true rfl) (by decide +kernel) (c_roomPart hR (r := k) (p := 1) (by omega) (by omega)) ?_
      refine wp_if_le d288_42 (tgt := 60) (by decide) (fun hc42 => ?_) (fun hc42 => ?_)
      · refine wp_iconst d288_60 (v := nI 0) (by decide) ?_
        refine wp_istore d288_61 (Nat.le_of_ble_eq_true rfl) rfl ?_
        refine wp_iload d288_63 rfl ?_
        refine wp_if_eq d288_65 (tgt := 72) (by decide) (fun _ => ?_) (fun hz => absurd hz (by decide))
        refine wp_iload_n d288_72 rfl ?_
        refine wp_istore_n d288_73 (Nat.le_of_ble_eq_true rfl) rfl ?_
        refine wp_iload d288_74 rfl ?_
        refine wp_if_eq d288_76 (tgt := 84) (by decide) (fun _ => ?_) (fun hz => absurd hz (by decide))
        refine wp_iload_n d288_84 rfl ?_
        refine wp_istore_n d288_85 (Nat.le_of_ble_eq_true rfl) rfl ?_
        refine wp_iinc d288_86 rfl (v := nI (k + 1)) (nI_add _ 1) (Nat.le_of_ble_eq_true rfl) rfl ?_
        refine wp_goto d288_89 (tgt := 9) (by decide) ?_
        have hf : F_fd σ (k + 1) = F_fd σ k := by rw [F_fd, if_neg (fun q => absurd q.1 (Int32.not_lt.mpr hc42))]
        exact ih (nR - (k + 1)) (by omega) (k + 1) _ _ _ _ rfl (by omega) (by rw [F_f1, hf]; exact ha) (by rw [F_f2, hf]; exact hb)
      · refine wp_iload d288_45 rfl ?_
        refine wp_if_le d288_47 (tgt := 60) (by decide) (fun hc47 => ?_) (fun hc47 => ?_)
        · refine wp_iconst d288_60 (v := nI 0) (by decide) ?_
          refine wp_istore d288_61 (Nat.le_of_ble_eq_true rfl) rfl ?_
          refine wp_iload d288_63 rfl ?_
          refine wp_if_eq d288_65 (tgt := 72) (by decide) (fun _ => ?_) (fun hz => absurd hz (by decide))
          refine wp_iload_n d288_72 rfl ?_
          refine wp_istore_n d288_73 (Nat.le_of_ble_eq_true rfl) rfl ?_
          refine wp_iload d288_74 rfl ?_
          refine wp_if_eq d288_76 (tgt := 84) (by decide) (fun _ => ?_) (fun hz => absurd hz (by decide))
          refine wp_iload_n d288_84 rfl ?_
          refine wp_istore_n d288_85 (Nat.le_of_ble_eq_true rfl) rfl ?_
          refine wp_iinc d288_86 rfl (v := nI (k + 1)) (nI_add _ 1) (Nat.le_of_ble_eq_true rfl) rfl ?_
          refine wp_goto d288_89 (tgt := 9) (by decide) ?_
          have hf : F_fd σ (k + 1) = F_fd σ k := by rw [F_fd, if_neg (fun q => absurd q.2.1 (Int32.not_lt.mpr hc47))]
          exact ih (nR - (k + 1)) (by omega) (k + 1) _ _ _ _ rfl (by omega) (by rw [F_f1, hf]; exact ha) (by rw [F_f2, hf]; exact hb)
        · refine wp_iload d288_50 rfl ?_
          refine wp_iload_n d288_52 rfl ?_
          refine wp_icmp_ge d288_53 (tgt := 60) (by decide) (fun hc53 => ?_) (fun hc53 => ?_)
          · refine wp_iconst d288_60 (v := nI 0) (by decide) ?_
            refine wp_istore d288_61 (Nat.le_of_ble_eq_true rfl) rfl ?_
            refine wp_iload d288_63 rfl ?_
            refine wp_if_eq d288_65 (tgt := 72) (by decide) (fun _ => ?_) (fun hz => absurd hz (by decide))
            refine wp_iload_n d288_72 rfl ?_
            refine wp_istore_n d288_73 (Nat.le_of_ble_eq_true rfl) rfl ?_
            refine wp_iload d288_74 rfl ?_
            refine wp_if_eq d288_76 (tgt := 84) (by decide) (fun _ => ?_) (fun hz => absurd hz (by decide))
            refine wp_iload_n d288_84 rfl ?_
            refine wp_istore_n d288_85 (Nat.le_of_ble_eq_true rfl) rfl ?_
            refine wp_iinc d288_86 rfl (v := nI (k + 1)) (nI_add _ 1) (Nat.le_of_ble_eq_true rfl) rfl ?_
            refine wp_goto d288_89 (tgt := 9) (by decide) ?_
            have hf : F_fd σ (k + 1) = F_fd σ k := by rw [F_fd, if_neg (fun q => absurd q.2.2 (Int32.not_lt.mpr ((by rw [hb] at hc53; exact hc53))))]
            exact ih (nR - (k + 1)) (by omega) (k + 1) _ _ _ _ rfl (by omega) (by rw [F_f1, hf]; exact ha) (by rw [F_f2, hf]; exact hb)
          · refine wp_iconst d288_56 (v := nI 1) (by decide) ?_
            refine wp_goto d288_57 (tgt := 61) (by decide) ?_
            refine wp_istore d288_61 (Nat.le_of_ble_eq_true rfl) rfl ?_
            refine wp_iload d288_63 rfl ?_
            refine wp_if_eq d288_65 (tgt := 72) (by decide) (fun hz => absurd hz (by decide)) (fun _ => ?_)
            refine wp_iload_n d288_68 rfl ?_
            refine wp_goto d288_69 (tgt := 73) (by decide) ?_
            refine wp_istore_n d288_73 (Nat.le_of_ble_eq_true rfl) rfl ?_
            refine wp_iload d288_74 rfl ?_
            refine wp_if_eq d288_76 (tgt := 84) (by decide) (fun hz => absurd hz (by decide)) (fun _ => ?_)
            refine wp_iload d288_79 rfl ?_
            refine wp_goto d288_81 (tgt := 85) (by decide) ?_
            refine wp_istore_n d288_85 (Nat.le_of_ble_eq_true rfl) rfl ?_
            refine wp_iinc d288_86 rfl (v := nI (k + 1)) (nI_add _ 1) (Nat.le_of_ble_eq_true rfl) rfl ?_
            refine wp_goto d288_89 (tgt := 9) (by decide) ?_
            have hf : F_fd σ (k + 1) = (nI k, σ (20 + 6 * k + 1) + nI 1 - σ (20 + 6 * k + 3)) := by rw [F_fd, if_pos ⟨Int32.not_le.mp hc42, Int32.not_le.mp hc47, Int32.not_le.mp ((by rw [hb] at hc53; exact hc53))⟩]
            exact ih (nR - (k + 1)) (by omega) (k + 1) _ _ _ _ rfl (by omega) (by rw [F_f1, hf]) (by rw [F_f2, hf])
theorem r_gap_l {X : mX} {h : mH} {R : Nat → Nat → Int32} {σ : Nat → Int32} (hR : Ms h R σ) {lo N : Nat} {x f9 : Int32} (hN : lo + N ≤ 720) : ∀ (d : Nat) (k : Nat) (a b2 : Int32), N - k = d → k ≤ N → a = F_gm σ x lo k → b2 = F_gr σ x lo k → m_wp X 286 41 [some (.ref 313), some (.int (x)), some (.int (f9)), some (.int (nI (lo + N))), some (.int (a)), some (.int (b2)), some (.int (nI (lo + k)))] [] h (fun w h1 => w = some (.int (F_gm σ x lo N)) ∧ h1 = h) := by
  intro d
  induction d using Nat.strongRecOn with
  | ind d ih =>
    intro k a b2 hd hk ha hb
    refine wp_iload d286_41 rfl ?_
    refine wp_iload_n d286_43 rfl ?_
    refine wp_icmp_ge d286_44 (tgt := 98) (by decide) (fun hc44 => ?_) (fun hc44 => ?_)
    · have hc44 : lo + N ≤ lo + k := (nI_leI (by omega) (by omega)).mp hc44
      refine wp_iload d286_98 rfl ?_
      refine wp_iret d286_100 (by decide +kernel) ?_
      exact ⟨by rw [show N = k by omega, ha], rfl⟩
    · have hc44 : ¬ (lo + N ≤ lo + k) := fun z => hc44 ((nI_leI (by omega) (by omega)).mpr z)
      refine wp_aload_n d286_47 rfl ?_
      refine wp_getf (e := 7) (ci := 12) (k := 0) (nest := false) d286_48 (by decide +kernel) (md_0 hR) rfl ?_
      refine wp_sipush d286_51 (v := nI 578) (by decide) ?_
      refine wp_iload d286_54 rfl ?_
      refine wp_iaddv d286_56 (v := nI (578 + (lo + k))) (nI_add _ _) ?_
      refine wp_iald d286_57 (md_1 hR) (nI_in (by omega) (by decide)) (v := σ (578 + (lo + k))) ((congrArg σ (nI_nat (by omega))).trans rfl) ?_
      refine wp_iload_n d286_58 rfl ?_
      refine wp_ishr d286_59 ?_
      refine wp_iconst d286_60 (v := nI 1) (by decide) ?_
      refine wp_iand d286_61 ?_
      refine wp_iconst d286_62 (v := nI 1) (by decide) ?_
      refine wp_icmp_ne d286_63 (tgt := 70) (by decide) (fun hc63 => ?_) (fun hc63 => ?_)
      · refine wp_iload d286_70 rfl ?_
        refine wp_iconst d286_72 (v := nI 1) (by decide) ?_
        refine wp_iadd d286_73 ?_
        refine wp_istore d286_74 (Nat.le_of_ble_eq_true rfl) rfl ?_
        refine wp_iload d286_76 rfl ?_
        refine wp_iload d286_78 rfl ?_
        refine wp_icmp_le d286_80 (tgt := 88) (by decide) (fun hc80 => ?_) (fun hc80 => ?_)
        · refine wp_iload d286_88 rfl ?_
          refine wp_istore d286_90 (Nat.le_of_ble_eq_true rfl) rfl ?_
          refine wp_iinc d286_92 rfl (v := nI (lo + k + 1)) (nI_add _ 1) (Nat.le_of_ble_eq_true rfl) rfl ?_
          refine wp_goto d286_95 (tgt := 41) (by decide) ?_
          have hf : F_gr σ x lo (k + 1) = F_gr σ x lo k + nI 1 := by rw [F_gr, if_neg hc63]
          have hg : F_gm σ x lo (k + 1) = F_gm σ x lo k := by rw [F_gm, hf, if_neg ((by rw [← ha, ← hb] at *; exact Int32.not_lt.mpr hc80))]
          exact ih (N - (k + 1)) (by omega) (k + 1) _ _ rfl (by omega) (by rw [hg]; exact ha) (by rw [hf]; rw [hb])
        · refine wp_iload d286_83 rfl ?_
          refine wp_goto d286_85 (tgt := 90) (by decide) ?_
          refine wp_istore d286_90 (Nat.le_of_ble_eq_true rfl) rfl ?_
          refine wp_iinc d286_92 rfl (v := nI (lo + k + 1)) (nI_add _ 1) (Nat.le_of_ble_eq_true rfl) rfl ?_
          refine wp_goto d286_95 (tgt := 41) (by decide) ?_
          have hf : F_gr σ x lo (k + 1) = F_gr σ x lo k + nI 1 := by rw [F_gr, if_neg hc63]
          have hg : F_gm σ x lo (k + 1) = F_gr σ x lo k + nI 1 := by rw [F_gm, hf, if_pos ((by rw [← ha, ← hb] at *; exact Int32.not_le.mp hc80))]
          exact ih (N - (k + 1)) (by omega) (k + 1) _ _ rfl (by omega) (by rw [hg]; rw [hb]) (by rw [hf]; rw [hb])
      · refine wp_iconst d286_66 (v := nI 0) (by decide) ?_
        refine wp_goto d286_67 (tgt := 74) (by decide) ?_
        refine wp_istore d286_74 (Nat.le_of_ble_eq_true rfl) rfl ?_
        refine wp_iload d286_76 rfl ?_
        refine wp_iload d286_78 rfl ?_
        refine wp_icmp_le d286_80 (tgt := 88) (by decide) (fun hc80 => ?_) (fun hc80 => ?_)
        · refine wp_iload d286_88 rfl ?_
          refine wp_istore d286_90 (Nat.le_of_ble_eq_true rfl) rfl ?_
          refine wp_iinc d286_92 rfl (v := nI (lo + k + 1)) (nI_add _ 1) (Nat.le_of_ble_eq_true rfl) rfl ?_
          refine wp_goto d286_95 (tgt := 41) (by decide) ?_
          have hf : F_gr σ x lo (k + 1) = nI 0 := by rw [F_gr, if_pos hc63]
          have hg : F_gm σ x lo (k + 1) = F_gm σ x lo k := by rw [F_gm, hf, if_neg ((by rw [← ha, ← hb] at *; exact Int32.not_lt.mpr hc80))]
          exact ih (N - (k + 1)) (by omega) (k + 1) _ _ rfl (by omega) (by rw [hg]; exact ha) (by rw [hf])
        · refine wp_iload d286_83 rfl ?_
          refine wp_goto d286_85 (tgt := 90) (by decide) ?_
          refine wp_istore d286_90 (Nat.le_of_ble_eq_true rfl) rfl ?_
          refine wp_iinc d286_92 rfl (v := nI (lo + k + 1)) (nI_add _ 1) (Nat.le_of_ble_eq_true rfl) rfl ?_
          refine wp_goto d286_95 (tgt := 41) (by decide) ?_
          have hf : F_gr σ x lo (k + 1) = nI 0 := by rw [F_gr, if_pos hc63]
          have hg : F_gm σ x lo (k + 1) = nI 0 := by rw [F_gm, hf, if_pos ((by rw [← ha, ← hb] at *; exact Int32.not_le.mp hc80))]
          exact ih (N - (k + 1)) (by omega) (k + 1) _ _ rfl (by omega) (by rw [hg]) (by rw [hf])
theorem r_gap_1 {X : mX} {h : mH} {R : Nat → Nat → Int32} {σ : Nat → Int32} (hR : Ms h R σ) {mi nR nD nG nW nA n : Nat} (hC : Cn σ mi nR nD nG nW nA) (hn : R 0 5 = nI n) (hn4 : n ≤ 4) {x f u : Int32} (hx : ¬ (nI 0 ≤ x ∧ x < nI nR)) : Tells X 286 [.ref 313, .int (x), .int (f), .int (u)] h (-1) := by
  obtain ⟨⟨h0, hmi⟩, ⟨h2, hR1, hR12⟩, ⟨h3, hD⟩, ⟨h4, hG⟩, ⟨h5, hW⟩, ⟨h6, hA⟩⟩ := hC
  refine wp_aload_n d286_0 rfl ?_
  refine wp_iload_n d286_1 rfl ?_
  refine wp_invvT (e := 57) (j2 := 215) (n := 1) d286_2 (by decide +kernel) (by decide +kernel) rfl rfl rfl (md_0 hR) (by decide +kernel) (Nat.le_of_ble_eq_true rfl) rfl rfl (Nat.le_of_ble_eq_true rfl) (by decide +kernel) (c_isRoom hR (n := nR) h2 (by omega) (x)) ?_
  refine wp_ifb_ne d286_5 (tgt := 10) (by decide) (fun hq9 => absurd hq9 hx) (fun _ => ?_)
  refine wp_iconst d286_8 (v := (-1 : Int32)) (by decide) ?_
  refine wp_iret d286_9 (by decide +kernel) ?_
  exact ⟨rfl, rfl⟩
theorem r_gap_2 {X : mX} {h : mH} {R : Nat → Nat → Int32} {σ : Nat → Int32} (hR : Ms h R σ) {mi nR nD nG nW nA n : Nat} (hC : Cn σ mi nR nD nG nW nA) (hn : R 0 5 = nI n) (hn4 : n ≤ 4) {x f u : Int32} (hx : nI 0 ≤ x ∧ x < nI nR) (hf : f < 0) : Tells X 286 [.ref 313, .int (x), .int (f), .int (u)] h (-2) := by
  obtain ⟨⟨h0, hmi⟩, ⟨h2, hR1, hR12⟩, ⟨h3, hD⟩, ⟨h4, hG⟩, ⟨h5, hW⟩, ⟨h6, hA⟩⟩ := hC
  refine wp_aload_n d286_0 rfl ?_
  refine wp_iload_n d286_1 rfl ?_
  refine wp_invvT (e := 57) (j2 := 215) (n := 1) d286_2 (by decide +kernel) (by decide +kernel) rfl rfl rfl (md_0 hR) (by decide +kernel) (Nat.le_of_ble_eq_true rfl) rfl rfl (Nat.le_of_ble_eq_true rfl) (by decide +kernel) (c_isRoom hR (n := nR) h2 (by omega) (x)) ?_
  refine wp_ifb_ne d286_5 (tgt := 10) (by decide) (fun _ => ?_) (fun hq9 => absurd hx hq9)
  refine wp_iload_n d286_10 rfl ?_
  refine wp_if_lt d286_11 (tgt := 29) (by decide) (fun _ => ?_) (fun hq9 => absurd hf hq9)
  refine wp_bipush d286_29 (v := (-2 : Int32)) (by decide) ?_
  refine wp_iret d286_31 (by decide +kernel) ?_
  exact ⟨rfl, rfl⟩
theorem r_gap_3 {X : mX} {h : mH} {R : Nat → Nat → Int32} {σ : Nat → Int32} (hR : Ms h R σ) {mi nR nD nG nW nA n : Nat} (hC : Cn σ mi nR nD nG nW nA) (hn : R 0 5 = nI n) (hn4 : n ≤ 4) {x f u : Int32} (hx : nI 0 ≤ x ∧ x < nI nR) (hf : ¬ f < 0) (hu : u < f) : Tells X 286 [.ref 313, .int (x), .int (f), .int (u)] h (-2) := by
  obtain ⟨⟨h0, hmi⟩, ⟨h2, hR1, hR12⟩, ⟨h3, hD⟩, ⟨h4, hG⟩, ⟨h5, hW⟩, ⟨h6, hA⟩⟩ := hC
  refine wp_aload_n d286_0 rfl ?_
  refine wp_iload_n d286_1 rfl ?_
  refine wp_invvT (e := 57) (j2 := 215) (n := 1) d286_2 (by decide +kernel) (by decide +kernel) rfl rfl rfl (md_0 hR) (by decide +kernel) (Nat.le_of_ble_eq_true rfl) rfl rfl (Nat.le_of_ble_eq_true rfl) (by decide +kernel) (c_isRoom hR (n := nR) h2 (by omega) (x)) ?_
  refine wp_ifb_ne d286_5 (tgt := 10) (by decide) (fun _ => ?_) (fun hq9 => absurd hx hq9)
  refine wp_iload_n d286_10 rfl ?_
  refine wp_if_lt d286_11 (tgt := 29) (by decide) (fun hq9 => absurd hq9 hf) (fun _ => ?_)
  refine wp_iload_n d286_14 rfl ?_
  refine wp_iload_n d286_15 rfl ?_
  refine wp_icmp_lt d286_16 (tgt := 29) (by decide) (fun _ => ?_) (fun hq9 => absurd hu hq9)
  refine wp_bipush d286_29 (v := (-2 : Int32)) (by decide) ?_
  refine wp_iret d286_31 (by decide +kernel) ?_
  exact ⟨rfl, rfl⟩
theorem r_gap_4 {X : mX} {h : mH} {R : Nat → Nat → Int32} {σ : Nat → Int32} (hR : Ms h R σ) {mi nR nD nG nW nA n : Nat} (hC : Cn σ mi nR nD nG nW nA) (hn : R 0 5 = nI n) (hn4 : n ≤ 4) {x f u : Int32} (hx : nI 0 ≤ x ∧ x < nI nR) (hf : ¬ f < 0) (hu : ¬ u < f) (hm : ¬ u ≤ nI mi) : Tells X 286 [.ref 313, .int (x), .int (f), .int (u)] h (-2) := by
  obtain ⟨⟨h0, hmi⟩, ⟨h2, hR1, hR12⟩, ⟨h3, hD⟩, ⟨h4, hG⟩, ⟨h5, hW⟩, ⟨h6, hA⟩⟩ := hC
  refine wp_aload_n d286_0 rfl ?_
  refine wp_iload_n d286_1 rfl ?_
  refine wp_invvT (e := 57) (j2 := 215) (n := 1) d286_2 (by decide +kernel) (by decide +kernel) rfl rfl rfl (md_0 hR) (by decide +kernel) (Nat.le_of_ble_eq_true rfl) rfl rfl (Nat.le_of_ble_eq_true rfl) (by decide +kernel) (c_isRoom hR (n := nR) h2 (by omega) (x)) ?_
  refine wp_ifb_ne d286_5 (tgt := 10) (by decide) (fun _ => ?_) (fun hq9 => absurd hx hq9)
  refine wp_iload_n d286_10 rfl ?_
  refine wp_if_lt d286_11 (tgt := 29) (by decide) (fun hq9 => absurd hq9 hf) (fun _ => ?_)
  refine wp_iload_n d286_14 rfl ?_
  refine wp_iload_n d286_15 rfl ?_
  refine wp_icmp_lt d286_16 (tgt := 29) (by decide) (fun hq9 => absurd hq9 hu) (fun _ => ?_)
  refine wp_iload_n d286_19 rfl ?_
  refine wp_aload_n d286_20 rfl ?_
  refine wp_getf (e := 7) (ci := 12) (k := 0) (nest := false) d286_21 (by decide +kernel) (md_0 hR) rfl ?_
  refine wp_iconst d286_24 (v := nI 0) (by decide) ?_
  refine wp_iald d286_25 (md_1 hR) (nI_in (by omega) (by decide)) (v := nI mi) ((congrArg σ (nI_nat (by omega))).trans h0) ?_
  refine wp_icmp_le d286_26 (tgt := 32) (by decide) (fun hq9 => absurd hq9 hm) (fun _ => ?_)
  refine wp_bipush d286_29 (v := (-2 : Int32)) (by decide) ?_
  refine wp_iret d286_31 (by decide +kernel) ?_
  exact ⟨rfl, rfl⟩
theorem nI_dec {k : Nat} (h : k < 2 ^ 31) : (nI k - nI 1 < 0) ↔ k = 0 := by
  constructor
  · intro z
    cases k with
    | zero => rfl
    | succ k =>
      rw [nI_sub (by omega) h] at z
      exact absurd z (Int32.not_lt.mpr (nI_pos' (by omega)))
  · rintro rfl
    decide
theorem nI_dec1 {k : Nat} (h : k + 1 < 2 ^ 31) : nI (k + 1) - nI 1 = nI k := nI_sub (by omega) h
theorem nI_m1 (k : Nat) : nI k + Int32.ofInt (-1) = nI k - nI 1 := by
  rw [Int32.sub_eq_add_neg]
  rfl
theorem i_sub0 (l : Int32) : l - nI 0 = l := Int32.sub_zero l
/-- what f tells of the stay that l others follow, among the first k places -/
def F_s (σ : Nat → Int32) (f : Nat → Int32) : Nat → Int32 → Int32
  | 0, _ => -5
  | k + 1, l => if 0 < σ (1298 + k) then (if l = 0 then f k else F_s σ f k (l - nI 1)) else F_s σ f k l
theorem r_stay_l0 {X : mX} {h : mH} {R : Nat → Nat → Int32} {σ : Nat → Int32} (hR : Ms h R σ) {mi : Nat} {y : Int32} (hmi : mi ≤ 720) : ∀ (d : Nat) (k : Nat) (l : Int32) (l5 : Option Value), k = d → k ≤ 4 * mi → F_s σ (fun k => nI (k % 4)) (4 * mi) y = F_s σ (fun k => nI (k % 4)) k l → m_wp X 285 30 [some (.ref 313), some (.int (y)), some (.int (nI 0)), some (.int (l)), some (.int ((nI k - nI 1))), l5] [] h (fun w h1 => w = some (.int (F_s σ (fun k => nI (k % 4)) (4 * mi) y)) ∧ h1 = h) := by
  intro d
  induction d using Nat.strongRecOn with
  | ind d ih =>
    intro k l l5 hd hk hl
    refine wp_iload d285_30 rfl ?_
    refine wp_if_lt d285_32 (tgt := 124) (by decide) (fun hc32 => ?_) (fun hc32 => ?_)
    · have hk0 : k = 0 := (nI_dec (by omega)).mp hc32
      refine wp_bipush d285_124 (v := (-5 : Int32)) (by decide) ?_
      refine wp_iret d285_126 (by decide +kernel) ?_
      exact ⟨by rw [hl, hk0]; rfl, rfl⟩
    · have hk0 : ¬ k = 0 := fun z => hc32 ((nI_dec (by omega)).mpr z)
      obtain ⟨k, rfl⟩ : ∃ m, k = m + 1 := ⟨k - 1, by omega⟩
      rw [nI_dec1 (by omega)]
      refine wp_aload_n d285_35 rfl ?_
      refine wp_getf (e := 7) (ci := 12) (k := 0) (nest := false) d285_36 (by decide +kernel) (md_0 hR) rfl ?_
      refine wp_sipush d285_39 (v := nI 1298) (by decide) ?_
      refine wp_iload d285_42 rfl ?_
      refine wp_iaddv d285_44 (v := nI (1298 + k)) (nI_add _ _) ?_
      refine wp_iald d285_45 (md_1 hR) (nI_in (by omega) (by decide)) (v := σ (1298 + k)) ((congrArg σ (nI_nat (by omega))).trans rfl) ?_
      refine wp_istore d285_46 (Nat.le_of_ble_eq_true rfl) rfl ?_
      refine wp_iload d285_48 rfl ?_
      refine wp_if_le d285_50 (tgt := 105) (by decide) (fun hc50 => ?_) (fun hc50 => ?_)
      · refine wp_iload_n d285_105 rfl ?_
        refine wp_iload d285_106 rfl ?_
        refine wp_if_le d285_108 (tgt := 115) (by decide) (fun hc108 => ?_) (fun hc108 => ?_)
        · refine wp_iconst d285_115 (v := nI 0) (by decide) ?_
          refine wp_isub d285_116 ?_
          refine wp_istore_n d285_117 (Nat.le_of_ble_eq_true rfl) rfl ?_
          refine wp_iinc d285_118 rfl (v := (nI k - nI 1)) (nI_m1 k) (Nat.le_of_ble_eq_true rfl) rfl ?_
          refine wp_goto d285_121 (tgt := 30) (by decide) ?_
          exact ih k (by omega) k _ _ rfl (by omega) (by rw [hl, F_s, if_neg (Int32.not_lt.mpr hc50), i_sub0])
        · refine wp_iconst d285_111 (v := nI 1) (by decide) ?_
          refine wp_goto d285_112 (tgt := 116) (by decide) ?_
          refine wp_isub d285_116 ?_
          refine wp_istore_n d285_117 (Nat.le_of_ble_eq_true rfl) rfl ?_
          refine wp_iinc d285_118 rfl (v := (nI k - nI 1)) (nI_m1 k) (Nat.le_of_ble_eq_true rfl) rfl ?_
          refine wp_goto d285_121 (tgt := 30) (by decide) ?_
          exact absurd hc50 hc108
      · refine wp_iload_n d285_53 rfl ?_
        refine wp_if_ne d285_54 (tgt := 105) (by decide) (fun hc54 => ?_) (fun hc54 => ?_)
        · refine wp_iload_n d285_105 rfl ?_
          refine wp_iload d285_106 rfl ?_
          refine wp_if_le d285_108 (tgt := 115) (by decide) (fun hc108 => ?_) (fun hc108 => ?_)
          · refine wp_iconst d285_115 (v := nI 0) (by decide) ?_
            refine wp_isub d285_116 ?_
            refine wp_istore_n d285_117 (Nat.le_of_ble_eq_true rfl) rfl ?_
            refine wp_iinc d285_118 rfl (v := (nI k - nI 1)) (nI_m1 k) (Nat.le_of_ble_eq_true rfl) rfl ?_
            refine wp_goto d285_121 (tgt := 30) (by decide) ?_
            exact absurd hc108 hc50
          · refine wp_iconst d285_111 (v := nI 1) (by decide) ?_
            refine wp_goto d285_112 (tgt := 116) (by decide) ?_
            refine wp_isub d285_116 ?_
            refine wp_istore_n d285_117 (Nat.le_of_ble_eq_true rfl) rfl ?_
            refine wp_iinc d285_118 rfl (v := (nI k - nI 1)) (nI_m1 k) (Nat.le_of_ble_eq_true rfl) rfl ?_
            refine wp_goto d285_121 (tgt := 30) (by decide) ?_
            exact ih k (by omega) k _ _ rfl (by omega) (by rw [hl, F_s, if_pos (Int32.not_le.mp hc50), if_neg hc54])
        · refine wp_iload_n d285_57 rfl ?_
          refine wp_if_ne d285_58 (tgt := 68) (by decide) (fun hz => absurd hz (by decide)) (fun _ => ?_)
          refine wp_iload d285_61 rfl ?_
          refine wp_iconst d285_63 (v := nI 4) (by decide) ?_
          refine wp_iremv d285_64 (v := nI (k % 4)) (by decide) (nI_rem (by omega) (by decide)) ?_
          refine wp_goto d285_65 (tgt := 104) (by decide) ?_
          refine wp_iret d285_104 (by decide +kernel) ?_
          exact ⟨by rw [hl, F_s, if_pos (Int32.not_le.mp hc50), if_pos hc54], rfl⟩
theorem r_stay_l1 {X : mX} {h : mH} {R : Nat → Nat → Int32} {σ : Nat → Int32} (hR : Ms h R σ) {mi : Nat} {y : Int32} (hmi : mi ≤ 720) : ∀ (d : Nat) (k : Nat) (l : Int32) (l5 : Option Value), k = d → k ≤ 4 * mi → F_s σ (fun k => (σ (1298 + k) - nI 1) / nI 1000) (4 * mi) y = F_s σ (fun k => (σ (1298 + k) - nI 1) / nI 1000) k l → m_wp X 285 30 [some (.ref 313), some (.int (y)), some (.int (nI 1)), some (.int (l)), some (.int ((nI k - nI 1))), l5] [] h (fun w h1 => w = some (.int (F_s σ (fun k => (σ (1298 + k) - nI 1) / nI 1000) (4 * mi) y)) ∧ h1 = h) := by
  intro d
  induction d using Nat.strongRecOn with
  | ind d ih =>
    intro k l l5 hd hk hl
    refine wp_iload d285_30 rfl ?_
    refine wp_if_lt d285_32 (tgt := 124) (by decide) (fun hc32 => ?_) (fun hc32 => ?_)
    · have hk0 : k = 0 := (nI_dec (by omega)).mp hc32
      refine wp_bipush d285_124 (v := (-5 : Int32)) (by decide) ?_
      refine wp_iret d285_126 (by decide +kernel) ?_
      exact ⟨by rw [hl, hk0]; rfl, rfl⟩
    · have hk0 : ¬ k = 0 := fun z => hc32 ((nI_dec (by omega)).mpr z)
      obtain ⟨k, rfl⟩ : ∃ m, k = m + 1 := ⟨k - 1, by omega⟩
      rw [nI_dec1 (by omega)]
      refine wp_aload_n d285_35 rfl ?_
      refine wp_getf (e := 7) (ci := 12) (k := 0) (nest := false) d285_36 (by decide +kernel) (md_0 hR) rfl ?_
      refine wp_sipush d285_39 (v := nI 1298) (by decide) ?_
      refine wp_iload d285_42 rfl ?_
      refine wp_iaddv d285_44 (v := nI (1298 + k)) (nI_add _ _) ?_
      refine wp_iald d285_45 (md_1 hR) (nI_in (by omega) (by decide)) (v := σ (1298 + k)) ((congrArg σ (nI_nat (by omega))).trans rfl) ?_
      refine wp_istore d285_46 (Nat.le_of_ble_eq_true rfl) rfl ?_
      refine wp_iload d285_48 rfl ?_
      refine wp_if_le d285_50 (tgt := 105) (by decide) (fun hc50 => ?_) (fun hc50 => ?_)
      · refine wp_iload_n d285_105 rfl ?_
        refine wp_iload d285_106 rfl ?_
        refine wp_if_le d285_108 (tgt := 115) (by decide) (fun hc108 => ?_) (fun hc108 => ?_)
        · refine wp_iconst d285_115 (v := nI 0) (by decide) ?_
          refine wp_isub d285_116 ?_
          refine wp_istore_n d285_117 (Nat.le_of_ble_eq_true rfl) rfl ?_
          refine wp_iinc d285_118 rfl (v := (nI k - nI 1)) (nI_m1 k) (Nat.le_of_ble_eq_true rfl) rfl ?_
          refine wp_goto d285_121 (tgt := 30) (by decide) ?_
          exact ih k (by omega) k _ _ rfl (by omega) (by rw [hl, F_s, if_neg (Int32.not_lt.mpr hc50), i_sub0])
        · refine wp_iconst d285_111 (v := nI 1) (by decide) ?_
          refine wp_goto d285_112 (tgt := 116) (by decide) ?_
          refine wp_isub d285_116 ?_
          refine wp_istore_n d285_117 (Nat.le_of_ble_eq_true rfl) rfl ?_
          refine wp_iinc d285_118 rfl (v := (nI k - nI 1)) (nI_m1 k) (Nat.le_of_ble_eq_true rfl) rfl ?_
          refine wp_goto d285_121 (tgt := 30) (by decide) ?_
          exact absurd hc50 hc108
      · refine wp_iload_n d285_53 rfl ?_
        refine wp_if_ne d285_54 (tgt := 105) (by decide) (fun hc54 => ?_) (fun hc54 => ?_)
        · refine wp_iload_n d285_105 rfl ?_
          refine wp_iload d285_106 rfl ?_
          refine wp_if_le d285_108 (tgt := 115) (by decide) (fun hc108 => ?_) (fun hc108 => ?_)
          · refine wp_iconst d285_115 (v := nI 0) (by decide) ?_
            refine wp_isub d285_116 ?_
            refine wp_istore_n d285_117 (Nat.le_of_ble_eq_true rfl) rfl ?_
            refine wp_iinc d285_118 rfl (v := (nI k - nI 1)) (nI_m1 k) (Nat.le_of_ble_eq_true rfl) rfl ?_
            refine wp_goto d285_121 (tgt := 30) (by decide) ?_
            exact absurd hc108 hc50
          · refine wp_iconst d285_111 (v := nI 1) (by decide) ?_
            refine wp_goto d285_112 (tgt := 116) (by decide) ?_
            refine wp_isub d285_116 ?_
            refine wp_istore_n d285_117 (Nat.le_of_ble_eq_true rfl) rfl ?_
            refine wp_iinc d285_118 rfl (v := (nI k - nI 1)) (nI_m1 k) (Nat.le_of_ble_eq_true rfl) rfl ?_
            refine wp_goto d285_121 (tgt := 30) (by decide) ?_
            exact ih k (by omega) k _ _ rfl (by omega) (by rw [hl, F_s, if_pos (Int32.not_le.mp hc50), if_neg hc54])
        · refine wp_iload_n d285_57 rfl ?_
          refine wp_if_ne d285_58 (tgt := 68) (by decide) (fun _ => ?_) (fun hz => absurd hz (by decide))
          refine wp_iload_n d285_68 rfl ?_
          refine wp_iconst d285_69 (v := nI 1) (by decide) ?_
          refine wp_icmp_ne d285_70 (tgt := 84) (by decide) (fun hz => absurd hz (by decide)) (fun _ => ?_)
          refine wp_iload d285_73 rfl ?_
          refine wp_iconst d285_75 (v := nI 1) (by decide) ?_
          refine wp_isub d285_76 ?_
          refine wp_sipush d285_77 (v := nI 1000) (by decide) ?_
          refine wp_idivv d285_80 (v := (((σ (1298 + k)) - (nI 1)) / nI 1000)) (by decide) rfl ?_
          refine wp_goto d285_81 (tgt := 104) (by decide) ?_
          refine wp_iret d285_104 (by decide +kernel) ?_
          exact ⟨by rw [hl, F_s, if_pos (Int32.not_le.mp hc50), if_pos hc54], rfl⟩
theorem r_stay_l2 {X : mX} {h : mH} {R : Nat → Nat → Int32} {σ : Nat → Int32} (hR : Ms h R σ) {mi : Nat} {y : Int32} (hmi : mi ≤ 720) : ∀ (d : Nat) (k : Nat) (l : Int32) (l5 : Option Value), k = d → k ≤ 4 * mi → F_s σ (fun k => (σ (1298 + k) - nI 1) - (σ (1298 + k) - nI 1) / nI 1000 * nI 1000) (4 * mi) y = F_s σ (fun k => (σ (1298 + k) - nI 1) - (σ (1298 + k) - nI 1) / nI 1000 * nI 1000) k l → m_wp X 285 30 [some (.ref 313), some (.int (y)), some (.int (nI 2)), some (.int (l)), some (.int ((nI k - nI 1))), l5] [] h (fun w h1 => w = some (.int (F_s σ (fun k => (σ (1298 + k) - nI 1) - (σ (1298 + k) - nI 1) / nI 1000 * nI 1000) (4 * mi) y)) ∧ h1 = h) := by
  intro d
  induction d using Nat.strongRecOn with
  | ind d ih =>
    intro k l l5 hd hk hl
    refine wp_iload d285_30 rfl ?_
    refine wp_if_lt d285_32 (tgt := 124) (by decide) (fun hc32 => ?_) (fun hc32 => ?_)
    · have hk0 : k = 0 := (nI_dec (by omega)).mp hc32
      refine wp_bipush d285_124 (v := (-5 : Int32)) (by decide) ?_
      refine wp_iret d285_126 (by decide +kernel) ?_
      exact ⟨by rw [hl, hk0]; rfl, rfl⟩
    · have hk0 : ¬ k = 0 := fun z => hc32 ((nI_dec (by omega)).mpr z)
      obtain ⟨k, rfl⟩ : ∃ m, k = m + 1 := ⟨k - 1, by omega⟩
      rw [nI_dec1 (by omega)]
      refine wp_aload_n d285_35 rfl ?_
      refine wp_getf (e := 7) (ci := 12) (k := 0) (nest := false) d285_36 (by decide +kernel) (md_0 hR) rfl ?_
      refine wp_sipush d285_39 (v := nI 1298) (by decide) ?_
      refine wp_iload d285_42 rfl ?_
      refine wp_iaddv d285_44 (v := nI (1298 + k)) (nI_add _ _) ?_
      refine wp_iald d285_45 (md_1 hR) (nI_in (by omega) (by decide)) (v := σ (1298 + k)) ((congrArg σ (nI_nat (by omega))).trans rfl) ?_
      refine wp_istore d285_46 (Nat.le_of_ble_eq_true rfl) rfl ?_
      refine wp_iload d285_48 rfl ?_
      refine wp_if_le d285_50 (tgt := 105) (by decide) (fun hc50 => ?_) (fun hc50 => ?_)
      · refine wp_iload_n d285_105 rfl ?_
        refine wp_iload d285_106 rfl ?_
        refine wp_if_le d285_108 (tgt := 115) (by decide) (fun hc108 => ?_) (fun hc108 => ?_)
        · refine wp_iconst d285_115 (v := nI 0) (by decide) ?_
          refine wp_isub d285_116 ?_
          refine wp_istore_n d285_117 (Nat.le_of_ble_eq_true rfl) rfl ?_
          refine wp_iinc d285_118 rfl (v := (nI k - nI 1)) (nI_m1 k) (Nat.le_of_ble_eq_true rfl) rfl ?_
          refine wp_goto d285_121 (tgt := 30) (by decide) ?_
          exact ih k (by omega) k _ _ rfl (by omega) (by rw [hl, F_s, if_neg (Int32.not_lt.mpr hc50), i_sub0])
        · refine wp_iconst d285_111 (v := nI 1) (by decide) ?_
          refine wp_goto d285_112 (tgt := 116) (by decide) ?_
          refine wp_isub d285_116 ?_
          refine wp_istore_n d285_117 (Nat.le_of_ble_eq_true rfl) rfl ?_
          refine wp_iinc d285_118 rfl (v := (nI k - nI 1)) (nI_m1 k) (Nat.le_of_ble_eq_true rfl) rfl ?_
          refine wp_goto d285_121 (tgt := 30) (by decide) ?_
          exact absurd hc50 hc108
      · refine wp_iload_n d285_53 rfl ?_
        refine wp_if_ne d285_54 (tgt := 105) (by decide) (fun hc54 => ?_) (fun hc54 => ?_)
        · refine wp_iload_n d285_105 rfl ?_
          refine wp_iload d285_106 rfl ?_
          refine wp_if_le d285_108 (tgt := 115) (by decide) (fun hc108 => ?_) (fun hc108 => ?_)
          · refine wp_iconst d285_115 (v := nI 0) (by decide) ?_
            refine wp_isub d285_116 ?_
            refine wp_istore_n d285_117 (Nat.le_of_ble_eq_true rfl) rfl ?_
            refine wp_iinc d285_118 rfl (v := (nI k - nI 1)) (nI_m1 k) (Nat.le_of_ble_eq_true rfl) rfl ?_
            refine wp_goto d285_121 (tgt := 30) (by decide) ?_
            exact absurd hc108 hc50
          · refine wp_iconst d285_111 (v := nI 1) (by decide) ?_
            refine wp_goto d285_112 (tgt := 116) (by decide) ?_
            refine wp_isub d285_116 ?_
            refine wp_istore_n d285_117 (Nat.le_of_ble_eq_true rfl) rfl ?_
            refine wp_iinc d285_118 rfl (v := (nI k - nI 1)) (nI_m1 k) (Nat.le_of_ble_eq_true rfl) rfl ?_
            refine wp_goto d285_121 (tgt := 30) (by decide) ?_
            exact ih k (by omega) k _ _ rfl (by omega) (by rw [hl, F_s, if_pos (Int32.not_le.mp hc50), if_neg hc54])
        · refine wp_iload_n d285_57 rfl ?_
          refine wp_if_ne d285_58 (tgt := 68) (by decide) (fun _ => ?_) (fun hz => absurd hz (by decide))
          refine wp_iload_n d285_68 rfl ?_
          refine wp_iconst d285_69 (v := nI 1) (by decide) ?_
          refine wp_icmp_ne d285_70 (tgt := 84) (by decide) (fun _ => ?_) (fun hz => absurd hz (by decide))
          refine wp_iload_n d285_84 rfl ?_
          refine wp_iconst d285_85 (v := nI 2) (by decide) ?_
          refine wp_icmp_ne d285_86 (tgt := 100) (by decide) (fun hz => absurd hz (by decide)) (fun _ => ?_)
          refine wp_iload d285_89 rfl ?_
          refine wp_iconst d285_91 (v := nI 1) (by decide) ?_
          refine wp_isub d285_92 ?_
          refine wp_sipush d285_93 (v := nI 1000) (by decide) ?_
          refine wp_iremv d285_96 (v := (((σ (1298 + k)) - (nI 1)) - ((σ (1298 + k)) - (nI 1)) / nI 1000 * nI 1000)) (by decide) rfl ?_
          refine wp_goto d285_97 (tgt := 104) (by decide) ?_
          refine wp_iret d285_104 (by decide +kernel) ?_
          exact ⟨by rw [hl, F_s, if_pos (Int32.not_le.mp hc50), if_pos hc54], rfl⟩
theorem r_stay_l3 {X : mX} {h : mH} {R : Nat → Nat → Int32} {σ : Nat → Int32} (hR : Ms h R σ) {mi : Nat} {y : Int32} (hmi : mi ≤ 720) : ∀ (d : Nat) (k : Nat) (l : Int32) (l5 : Option Value), k = d → k ≤ 4 * mi → F_s σ (fun k => nI (k / 4)) (4 * mi) y = F_s σ (fun k => nI (k / 4)) k l → m_wp X 285 30 [some (.ref 313), some (.int (y)), some (.int (nI 3)), some (.int (l)), some (.int ((nI k - nI 1))), l5] [] h (fun w h1 => w = some (.int (F_s σ (fun k => nI (k / 4)) (4 * mi) y)) ∧ h1 = h) := by
  intro d
  induction d using Nat.strongRecOn with
  | ind d ih =>
    intro k l l5 hd hk hl
    refine wp_iload d285_30 rfl ?_
    refine wp_if_lt d285_32 (tgt := 124) (by decide) (fun hc32 => ?_) (fun hc32 => ?_)
    · have hk0 : k = 0 := (nI_dec (by omega)).mp hc32
      refine wp_bipush d285_124 (v := (-5 : Int32)) (by decide) ?_
      refine wp_iret d285_126 (by decide +kernel) ?_
      exact ⟨by rw [hl, hk0]; rfl, rfl⟩
    · have hk0 : ¬ k = 0 := fun z => hc32 ((nI_dec (by omega)).mpr z)
      obtain ⟨k, rfl⟩ : ∃ m, k = m + 1 := ⟨k - 1, by omega⟩
      rw [nI_dec1 (by omega)]
      refine wp_aload_n d285_35 rfl ?_
      refine wp_getf (e := 7) (ci := 12) (k := 0) (nest := false) d285_36 (by decide +kernel) (md_0 hR) rfl ?_
      refine wp_sipush d285_39 (v := nI 1298) (by decide) ?_
      refine wp_iload d285_42 rfl ?_
      refine wp_iaddv d285_44 (v := nI (1298 + k)) (nI_add _ _) ?_
      refine wp_iald d285_45 (md_1 hR) (nI_in (by omega) (by decide)) (v := σ (1298 + k)) ((congrArg σ (nI_nat (by omega))).trans rfl) ?_
      refine wp_istore d285_46 (Nat.le_of_ble_eq_true rfl) rfl ?_
      refine wp_iload d285_48 rfl ?_
      refine wp_if_le d285_50 (tgt := 105) (by decide) (fun hc50 => ?_) (fun hc50 => ?_)
      · refine wp_iload_n d285_105 rfl ?_
        refine wp_iload d285_106 rfl ?_
        refine wp_if_le d285_108 (tgt := 115) (by decide) (fun hc108 => ?_) (fun hc108 => ?_)
        · refine wp_iconst d285_115 (v := nI 0) (by decide) ?_
          refine wp_isub d285_116 ?_
          refine wp_istore_n d285_117 (Nat.le_of_ble_eq_true rfl) rfl ?_
          refine wp_iinc d285_118 rfl (v := (nI k - nI 1)) (nI_m1 k) (Nat.le_of_ble_eq_true rfl) rfl ?_
          refine wp_goto d285_121 (tgt := 30) (by decide) ?_
          exact ih k (by omega) k _ _ rfl (by omega) (by rw [hl, F_s, if_neg (Int32.not_lt.mpr hc50), i_sub0])
        · refine wp_iconst d285_111 (v := nI 1) (by decide) ?_
          refine wp_goto d285_112 (tgt := 116) (by decide) ?_
          refine wp_isub d285_116 ?_
          refine wp_istore_n d285_117 (Nat.le_of_ble_eq_true rfl) rfl ?_
          refine wp_iinc d285_118 rfl (v := (nI k - nI 1)) (nI_m1 k) (Nat.le_of_ble_eq_true rfl) rfl ?_
          refine wp_goto d285_121 (tgt := 30) (by decide) ?_
          exact absurd hc50 hc108
      · refine wp_iload_n d285_53 rfl ?_
        refine wp_if_ne d285_54 (tgt := 105) (by decide) (fun hc54 => ?_) (fun hc54 => ?_)
        · refine wp_iload_n d285_105 rfl ?_
          refine wp_iload d285_106 rfl ?_
          refine wp_if_le d285_108 (tgt := 115) (by decide) (fun hc108 => ?_) (fun hc108 => ?_)
          · refine wp_iconst d285_115 (v := nI 0) (by decide) ?_
            refine wp_isub d285_116 ?_
            refine wp_istore_n d285_117 (Nat.le_of_ble_eq_true rfl) rfl ?_
            refine wp_iinc d285_118 rfl (v := (nI k - nI 1)) (nI_m1 k) (Nat.le_of_ble_eq_true rfl) rfl ?_
            refine wp_goto d285_121 (tgt := 30) (by decide) ?_
            exact absurd hc108 hc50
          · refine wp_iconst d285_111 (v := nI 1) (by decide) ?_
            refine wp_goto d285_112 (tgt := 116) (by decide) ?_
            refine wp_isub d285_116 ?_
            refine wp_istore_n d285_117 (Nat.le_of_ble_eq_true rfl) rfl ?_
            refine wp_iinc d285_118 rfl (v := (nI k - nI 1)) (nI_m1 k) (Nat.le_of_ble_eq_true rfl) rfl ?_
            refine wp_goto d285_121 (tgt := 30) (by decide) ?_
            exact ih k (by omega) k _ _ rfl (by omega) (by rw [hl, F_s, if_pos (Int32.not_le.mp hc50), if_neg hc54])
        · refine wp_iload_n d285_57 rfl ?_
          refine wp_if_ne d285_58 (tgt := 68) (by decide) (fun _ => ?_) (fun hz => absurd hz (by decide))
          refine wp_iload_n d285_68 rfl ?_
          refine wp_iconst d285_69 (v := nI 1) (by decide) ?_
          refine wp_icmp_ne d285_70 (tgt := 84) (by decide) (fun _ => ?_) (fun hz => absurd hz (by decide))
          refine wp_iload_n d285_84 rfl ?_
          refine wp_iconst d285_85 (v := nI 2) (by decide) ?_
          refine wp_icmp_ne d285_86 (tgt := 100) (by decide) (fun _ => ?_) (fun hz => absurd hz (by decide))
          refine wp_iload d285_100 rfl ?_
          refine wp_iconst d285_102 (v := nI 4) (by decide) ?_
          refine wp_idivv d285_103 (v := nI (k / 4)) (by decide) (nI_div (by omega) (by decide)) ?_
          refine wp_iret d285_104 (by decide +kernel) ?_
          exact ⟨by rw [hl, F_s, if_pos (Int32.not_le.mp hc50), if_pos hc54], rfl⟩
theorem r_stay_1 {X : mX} {h : mH} {R : Nat → Nat → Int32} {σ : Nat → Int32} (hR : Ms h R σ) {mi nR nD nG nW nA n : Nat} (hC : Cn σ mi nR nD nG nW nA) (hn : R 0 5 = nI n) (hn4 : n ≤ 4) {y v : Int32} (hy : y < 0) : Tells X 285 [.ref 313, .int (y), .int (v)] h (-2) := by
  obtain ⟨⟨h0, hmi⟩, ⟨h2, hR1, hR12⟩, ⟨h3, hD⟩, ⟨h4, hG⟩, ⟨h5, hW⟩, ⟨h6, hA⟩⟩ := hC
  refine wp_iload_n d285_0 rfl ?_
  refine wp_if_lt d285_1 (tgt := 13) (by decide) (fun _ => ?_) (fun hq9 => absurd hy hq9)
  refine wp_bipush d285_13 (v := (-2 : Int32)) (by decide) ?_
  refine wp_iret d285_15 (by decide +kernel) ?_
  exact ⟨rfl, rfl⟩
theorem r_stay_2 {X : mX} {h : mH} {R : Nat → Nat → Int32} {σ : Nat → Int32} (hR : Ms h R σ) {mi nR nD nG nW nA n : Nat} (hC : Cn σ mi nR nD nG nW nA) (hn : R 0 5 = nI n) (hn4 : n ≤ 4) {y v : Int32} (hy : ¬ y < 0) (hv : ¬ (nI 0 ≤ v ∧ v ≤ nI 3)) : Tells X 285 [.ref 313, .int (y), .int (v)] h (-2) := by
  obtain ⟨⟨h0, hmi⟩, ⟨h2, hR1, hR12⟩, ⟨h3, hD⟩, ⟨h4, hG⟩, ⟨h5, hW⟩, ⟨h6, hA⟩⟩ := hC
  refine wp_iload_n d285_0 rfl ?_
  refine wp_if_lt d285_1 (tgt := 13) (by decide) (fun hq9 => absurd hq9 hy) (fun _ => ?_)
  refine wp_iload_n d285_4 rfl ?_
  refine wp_iconst d285_5 (v := nI 0) (by decide) ?_
  refine wp_iconst d285_6 (v := nI 3) (by decide) ?_
  refine wp_invsT (e := 39) (j2 := 210) (n := 3) d285_7 (by decide +kernel) (by decide +kernel) rfl rfl rfl (Nat.le_of_ble_eq_true rfl) (Nat.le_of_ble_eq_true rfl) rfl rfl (Nat.le_of_ble_eq_true rfl) (by decide +kernel) (c_within (v) (nI 0) (nI 3)) ?_
  refine wp_ifb_ne d285_10 (tgt := 16) (by decide) (fun hq9 => absurd hq9 hv) (fun _ => ?_)
  refine wp_bipush d285_13 (v := (-2 : Int32)) (by decide) ?_
  refine wp_iret d285_15 (by decide +kernel) ?_
  exact ⟨rfl, rfl⟩
theorem r_alarmsIn_1 {X : mX} {h : mH} {R : Nat → Nat → Int32} {σ : Nat → Int32} (hR : Ms h R σ) {mi nR nD nG nW nA n : Nat} (hC : Cn σ mi nR nD nG nW nA) (hn : R 0 5 = nI n) (hn4 : n ≤ 4) {x : Int32} (hx : ¬ (nI 1 ≤ x ∧ x ≤ nI 60)) : Tells X 289 [.ref 313, .int (x)] h (-2) := by
  obtain ⟨⟨h0, hmi⟩, ⟨h2, hR1, hR12⟩, ⟨h3, hD⟩, ⟨h4, hG⟩, ⟨h5, hW⟩, ⟨h6, hA⟩⟩ := hC
  refine wp_aload_n d289_0 rfl ?_
  refine wp_iload_n d289_1 rfl ?_
  refine wp_invvT (e := 153) (j2 := 253) (n := 1) d289_2 (by decide +kernel) (by decide +kernel) rfl rfl rfl (md_0 hR) (by decide +kernel) (Nat.le_of_ble_eq_true rfl) rfl rfl (Nat.le_of_ble_eq_true rfl) (by decide +kernel) (r_why_1 hR ⟨⟨h0, hmi⟩, ⟨h2, hR1, hR12⟩, ⟨h3, hD⟩, ⟨h4, hG⟩, ⟨h5, hW⟩, ⟨h6, hA⟩⟩ hn hn4 hx) ?_
  refine wp_istore_n d289_5 (Nat.le_of_ble_eq_true rfl) rfl ?_
  refine wp_iload_n d289_6 rfl ?_
  refine wp_if_ge d289_7 (tgt := 12) (by decide) (fun hz => absurd hz (by decide)) (fun _ => ?_)
  refine wp_iload_n d289_10 rfl ?_
  refine wp_iret d289_11 (by decide +kernel) ?_
  exact ⟨rfl, rfl⟩
theorem r_alarmsIn_2 {X : mX} {h : mH} {R : Nat → Nat → Int32} {σ : Nat → Int32} (hR : Ms h R σ) {mi nR nD nG nW nA n : Nat} (hC : Cn σ mi nR nD nG nW nA) (hn : R 0 5 = nI n) (hn4 : n ≤ 4) {m : Nat} (hm1 : 1 ≤ m) (hm60 : m ≤ 60) (hl : ¬ mi + m ≤ 720) : Tells X 289 [.ref 313, .int (nI m)] h (-4) := by
  obtain ⟨⟨h0, hmi⟩, ⟨h2, hR1, hR12⟩, ⟨h3, hD⟩, ⟨h4, hG⟩, ⟨h5, hW⟩, ⟨h6, hA⟩⟩ := hC
  refine wp_aload_n d289_0 rfl ?_
  refine wp_iload_n d289_1 rfl ?_
  refine wp_invvT (e := 153) (j2 := 253) (n := 1) d289_2 (by decide +kernel) (by decide +kernel) rfl rfl rfl (md_0 hR) (by decide +kernel) (Nat.le_of_ble_eq_true rfl) rfl rfl (Nat.le_of_ble_eq_true rfl) (by decide +kernel) (r_why_2 hR ⟨⟨h0, hmi⟩, ⟨h2, hR1, hR12⟩, ⟨h3, hD⟩, ⟨h4, hG⟩, ⟨h5, hW⟩, ⟨h6, hA⟩⟩ hn hn4 hm1 hm60 hl) ?_
  refine wp_istore_n d289_5 (Nat.le_of_ble_eq_true rfl) rfl ?_
  refine wp_iload_n d289_6 rfl ?_
  refine wp_if_ge d289_7 (tgt := 12) (by decide) (fun hz => absurd hz (by decide)) (fun _ => ?_)
  refine wp_iload_n d289_10 rfl ?_
  refine wp_iret d289_11 (by decide +kernel) ?_
  exact ⟨rfl, rfl⟩
