/-! The class: small changes. -/
theorem d32_0 : decode (m_code 32) 0 = .ok (.aload_n 0, 1) := by decide +kernel
theorem d32_1 : decode (m_code 32) 1 = .ok (.getfield 30, 3) := by decide +kernel
theorem d32_4 : decode (m_code 32) 4 = .ok (.bipush 12, 2) := by decide +kernel
theorem d32_6 : decode (m_code 32) 6 = .ok (.if_icmp .lt 6, 3) := by decide +kernel
theorem d32_12 : decode (m_code 32) 12 = .ok (.aload_n 0, 1) := by decide +kernel
theorem d32_13 : decode (m_code 32) 13 = .ok (.getfield 9, 3) := by decide +kernel
theorem d32_16 : decode (m_code 32) 16 = .ok (.aload_n 0, 1) := by decide +kernel
theorem d32_17 : decode (m_code 32) 17 = .ok (.getfield 30, 3) := by decide +kernel
theorem d32_20 : decode (m_code 32) 20 = .ok (.iload_n 1, 1) := by decide +kernel
theorem d32_21 : decode (m_code 32) 21 = .ok (.iastore, 1) := by decide +kernel
theorem d32_22 : decode (m_code 32) 22 = .ok (.aload_n 0, 1) := by decide +kernel
theorem d32_23 : decode (m_code 32) 23 = .ok (.getfield 15, 3) := by decide +kernel
theorem d32_26 : decode (m_code 32) 26 = .ok (.aload_n 0, 1) := by decide +kernel
theorem d32_27 : decode (m_code 32) 27 = .ok (.getfield 30, 3) := by decide +kernel
theorem d32_30 : decode (m_code 32) 30 = .ok (.iload_n 2, 1) := by decide +kernel
theorem d32_31 : decode (m_code 32) 31 = .ok (.iastore, 1) := by decide +kernel
theorem d32_32 : decode (m_code 32) 32 = .ok (.aload_n 0, 1) := by decide +kernel
theorem d32_33 : decode (m_code 32) 33 = .ok (.aload_n 0, 1) := by decide +kernel
theorem d32_34 : decode (m_code 32) 34 = .ok (.getfield 30, 3) := by decide +kernel
theorem d32_37 : decode (m_code 32) 37 = .ok (.invokevirtual 40, 3) := by decide +kernel
theorem d32_40 : decode (m_code 32) 40 = .ok (.aload_n 0, 1) := by decide +kernel
theorem d32_41 : decode (m_code 32) 41 = .ok (.dup, 1) := by decide +kernel
theorem d32_42 : decode (m_code 32) 42 = .ok (.getfield 30, 3) := by decide +kernel
theorem d32_45 : decode (m_code 32) 45 = .ok (.iconst 1, 1) := by decide +kernel
theorem d32_46 : decode (m_code 32) 46 = .ok (.iadd, 1) := by decide +kernel
theorem d32_47 : decode (m_code 32) 47 = .ok (.putfield 30, 3) := by decide +kernel
theorem d32_50 : decode (m_code 32) 50 = .ok (.aload_n 0, 1) := by decide +kernel
theorem d32_51 : decode (m_code 32) 51 = .ok (.getfield 30, 3) := by decide +kernel
theorem d32_54 : decode (m_code 32) 54 = .ok (.iconst 1, 1) := by decide +kernel
theorem d32_55 : decode (m_code 32) 55 = .ok (.isub, 1) := by decide +kernel
theorem d32_56 : decode (m_code 32) 56 = .ok (.ireturn, 1) := by decide +kernel
theorem d33_0 : decode (m_code 33) 0 = .ok (.aload_n 0, 1) := by decide +kernel
theorem d33_1 : decode (m_code 33) 1 = .ok (.getfield 18, 3) := by decide +kernel
theorem d33_4 : decode (m_code 33) 4 = .ok (.iload_n 1, 1) := by decide +kernel
theorem d33_5 : decode (m_code 33) 5 = .ok (.iconst 0, 1) := by decide +kernel
theorem d33_6 : decode (m_code 33) 6 = .ok (.iastore, 1) := by decide +kernel
theorem d33_7 : decode (m_code 33) 7 = .ok (.aload_n 0, 1) := by decide +kernel
theorem d33_8 : decode (m_code 33) 8 = .ok (.getfield 21, 3) := by decide +kernel
theorem d33_11 : decode (m_code 33) 11 = .ok (.iload_n 1, 1) := by decide +kernel
theorem d33_12 : decode (m_code 33) 12 = .ok (.iconst 0, 1) := by decide +kernel
theorem d33_13 : decode (m_code 33) 13 = .ok (.iastore, 1) := by decide +kernel
theorem d33_14 : decode (m_code 33) 14 = .ok (.aload_n 0, 1) := by decide +kernel
theorem d33_15 : decode (m_code 33) 15 = .ok (.getfield 24, 3) := by decide +kernel
theorem d33_18 : decode (m_code 33) 18 = .ok (.iload_n 1, 1) := by decide +kernel
theorem d33_19 : decode (m_code 33) 19 = .ok (.iconst 0, 1) := by decide +kernel
theorem d33_20 : decode (m_code 33) 20 = .ok (.iastore, 1) := by decide +kernel
theorem d33_21 : decode (m_code 33) 21 = .ok (.aload_n 0, 1) := by decide +kernel
theorem d33_22 : decode (m_code 33) 22 = .ok (.getfield 27, 3) := by decide +kernel
theorem d33_25 : decode (m_code 33) 25 = .ok (.iload_n 1, 1) := by decide +kernel
theorem d33_26 : decode (m_code 33) 26 = .ok (.iconst 0, 1) := by decide +kernel
theorem d33_27 : decode (m_code 33) 27 = .ok (.iastore, 1) := by decide +kernel
theorem d33_28 : decode (m_code 33) 28 = .ok (.return_, 1) := by decide +kernel
theorem d40_0 : decode (m_code 40) 0 = .ok (.aload_n 0, 1) := by decide +kernel
theorem d40_1 : decode (m_code 40) 1 = .ok (.getfield 30, 3) := by decide +kernel
theorem d40_4 : decode (m_code 40) 4 = .ok (.bipush 20, 2) := by decide +kernel
theorem d40_6 : decode (m_code 40) 6 = .ok (.if_icmp .lt 6, 3) := by decide +kernel
theorem d40_12 : decode (m_code 40) 12 = .ok (.aload_n 0, 1) := by decide +kernel
theorem d40_13 : decode (m_code 40) 13 = .ok (.getfield 9, 3) := by decide +kernel
theorem d40_16 : decode (m_code 40) 16 = .ok (.aload_n 0, 1) := by decide +kernel
theorem d40_17 : decode (m_code 40) 17 = .ok (.getfield 30, 3) := by decide +kernel
theorem d40_20 : decode (m_code 40) 20 = .ok (.iload_n 1, 1) := by decide +kernel
theorem d40_21 : decode (m_code 40) 21 = .ok (.iastore, 1) := by decide +kernel
theorem d40_22 : decode (m_code 40) 22 = .ok (.aload_n 0, 1) := by decide +kernel
theorem d40_23 : decode (m_code 40) 23 = .ok (.getfield 15, 3) := by decide +kernel
theorem d40_26 : decode (m_code 40) 26 = .ok (.aload_n 0, 1) := by decide +kernel
theorem d40_27 : decode (m_code 40) 27 = .ok (.getfield 30, 3) := by decide +kernel
theorem d40_30 : decode (m_code 40) 30 = .ok (.iload_n 2, 1) := by decide +kernel
theorem d40_31 : decode (m_code 40) 31 = .ok (.iastore, 1) := by decide +kernel
theorem d40_32 : decode (m_code 40) 32 = .ok (.aload_n 0, 1) := by decide +kernel
theorem d40_33 : decode (m_code 40) 33 = .ok (.getfield 18, 3) := by decide +kernel
theorem d40_36 : decode (m_code 40) 36 = .ok (.aload_n 0, 1) := by decide +kernel
theorem d40_37 : decode (m_code 40) 37 = .ok (.getfield 30, 3) := by decide +kernel
theorem d40_40 : decode (m_code 40) 40 = .ok (.iload_n 3, 1) := by decide +kernel
theorem d40_41 : decode (m_code 40) 41 = .ok (.iastore, 1) := by decide +kernel
theorem d40_42 : decode (m_code 40) 42 = .ok (.aload_n 0, 1) := by decide +kernel
theorem d40_43 : decode (m_code 40) 43 = .ok (.getfield 21, 3) := by decide +kernel
theorem d40_46 : decode (m_code 40) 46 = .ok (.aload_n 0, 1) := by decide +kernel
theorem d40_47 : decode (m_code 40) 47 = .ok (.getfield 30, 3) := by decide +kernel
theorem d40_50 : decode (m_code 40) 50 = .ok (.iload 4, 2) := by decide +kernel
theorem d40_52 : decode (m_code 40) 52 = .ok (.iastore, 1) := by decide +kernel
theorem d40_53 : decode (m_code 40) 53 = .ok (.aload_n 0, 1) := by decide +kernel
theorem d40_54 : decode (m_code 40) 54 = .ok (.getfield 24, 3) := by decide +kernel
theorem d40_57 : decode (m_code 40) 57 = .ok (.aload_n 0, 1) := by decide +kernel
theorem d40_58 : decode (m_code 40) 58 = .ok (.getfield 30, 3) := by decide +kernel
theorem d40_61 : decode (m_code 40) 61 = .ok (.iconst 0, 1) := by decide +kernel
theorem d40_62 : decode (m_code 40) 62 = .ok (.iastore, 1) := by decide +kernel
theorem d40_63 : decode (m_code 40) 63 = .ok (.aload_n 0, 1) := by decide +kernel
theorem d40_64 : decode (m_code 40) 64 = .ok (.dup, 1) := by decide +kernel
theorem d40_65 : decode (m_code 40) 65 = .ok (.getfield 30, 3) := by decide +kernel
theorem d40_68 : decode (m_code 40) 68 = .ok (.iconst 1, 1) := by decide +kernel
theorem d40_69 : decode (m_code 40) 69 = .ok (.iadd, 1) := by decide +kernel
theorem d40_70 : decode (m_code 40) 70 = .ok (.putfield 30, 3) := by decide +kernel
theorem d40_73 : decode (m_code 40) 73 = .ok (.aload_n 0, 1) := by decide +kernel
theorem d40_74 : decode (m_code 40) 74 = .ok (.getfield 30, 3) := by decide +kernel
theorem d40_77 : decode (m_code 40) 77 = .ok (.iconst 1, 1) := by decide +kernel
theorem d40_78 : decode (m_code 40) 78 = .ok (.isub, 1) := by decide +kernel
theorem d40_79 : decode (m_code 40) 79 = .ok (.ireturn, 1) := by decide +kernel
theorem d63_0 : decode (m_code 63) 0 = .ok (.aload_n 0, 1) := by decide +kernel
theorem d63_1 : decode (m_code 63) 1 = .ok (.getfield 39, 3) := by decide +kernel
theorem d63_4 : decode (m_code 63) 4 = .ok (.iconst 4, 1) := by decide +kernel
theorem d63_5 : decode (m_code 63) 5 = .ok (.if_icmp .lt 6, 3) := by decide +kernel
theorem d63_11 : decode (m_code 63) 11 = .ok (.aload_n 0, 1) := by decide +kernel
theorem d63_12 : decode (m_code 63) 12 = .ok (.aload_n 0, 1) := by decide +kernel
theorem d63_13 : decode (m_code 63) 13 = .ok (.getfield 39, 3) := by decide +kernel
theorem d63_16 : decode (m_code 63) 16 = .ok (.iload_n 1, 1) := by decide +kernel
theorem d63_17 : decode (m_code 63) 17 = .ok (.invokevirtual 49, 3) := by decide +kernel
theorem d63_20 : decode (m_code 63) 20 = .ok (.aload_n 0, 1) := by decide +kernel
theorem d63_21 : decode (m_code 63) 21 = .ok (.dup, 1) := by decide +kernel
theorem d63_22 : decode (m_code 63) 22 = .ok (.getfield 39, 3) := by decide +kernel
theorem d63_25 : decode (m_code 63) 25 = .ok (.iconst 1, 1) := by decide +kernel
theorem d63_26 : decode (m_code 63) 26 = .ok (.iadd, 1) := by decide +kernel
theorem d63_27 : decode (m_code 63) 27 = .ok (.putfield 39, 3) := by decide +kernel
theorem d63_30 : decode (m_code 63) 30 = .ok (.aload_n 0, 1) := by decide +kernel
theorem d63_31 : decode (m_code 63) 31 = .ok (.getfield 39, 3) := by decide +kernel
theorem d63_34 : decode (m_code 63) 34 = .ok (.iconst 1, 1) := by decide +kernel
theorem d63_35 : decode (m_code 63) 35 = .ok (.isub, 1) := by decide +kernel
theorem d63_36 : decode (m_code 63) 36 = .ok (.ireturn, 1) := by decide +kernel
theorem d64_0 : decode (m_code 64) 0 = .ok (.aload_n 0, 1) := by decide +kernel
theorem d64_1 : decode (m_code 64) 1 = .ok (.getfield 9, 3) := by decide +kernel
theorem d64_4 : decode (m_code 64) 4 = .ok (.iload_n 1, 1) := by decide +kernel
theorem d64_5 : decode (m_code 64) 5 = .ok (.iconst 0, 1) := by decide +kernel
theorem d64_6 : decode (m_code 64) 6 = .ok (.iastore, 1) := by decide +kernel
theorem d64_7 : decode (m_code 64) 7 = .ok (.aload_n 0, 1) := by decide +kernel
theorem d64_8 : decode (m_code 64) 8 = .ok (.getfield 15, 3) := by decide +kernel
theorem d64_11 : decode (m_code 64) 11 = .ok (.iload_n 1, 1) := by decide +kernel
theorem d64_12 : decode (m_code 64) 12 = .ok (.bipush (-5), 2) := by decide +kernel
theorem d64_14 : decode (m_code 64) 14 = .ok (.iastore, 1) := by decide +kernel
theorem d64_15 : decode (m_code 64) 15 = .ok (.aload_n 0, 1) := by decide +kernel
theorem d64_16 : decode (m_code 64) 16 = .ok (.getfield 18, 3) := by decide +kernel
theorem d64_19 : decode (m_code 64) 19 = .ok (.iload_n 1, 1) := by decide +kernel
theorem d64_20 : decode (m_code 64) 20 = .ok (.bipush (-5), 2) := by decide +kernel
theorem d64_22 : decode (m_code 64) 22 = .ok (.iastore, 1) := by decide +kernel
theorem d64_23 : decode (m_code 64) 23 = .ok (.aload_n 0, 1) := by decide +kernel
theorem d64_24 : decode (m_code 64) 24 = .ok (.getfield 21, 3) := by decide +kernel
theorem d64_27 : decode (m_code 64) 27 = .ok (.iload_n 1, 1) := by decide +kernel
theorem d64_28 : decode (m_code 64) 28 = .ok (.iconst 0, 1) := by decide +kernel
theorem d64_29 : decode (m_code 64) 29 = .ok (.iastore, 1) := by decide +kernel
theorem d64_30 : decode (m_code 64) 30 = .ok (.aload_n 0, 1) := by decide +kernel
theorem d64_31 : decode (m_code 64) 31 = .ok (.getfield 24, 3) := by decide +kernel
theorem d64_34 : decode (m_code 64) 34 = .ok (.iload_n 1, 1) := by decide +kernel
theorem d64_35 : decode (m_code 64) 35 = .ok (.iload_n 2, 1) := by decide +kernel
theorem d64_36 : decode (m_code 64) 36 = .ok (.iastore, 1) := by decide +kernel
theorem d64_37 : decode (m_code 64) 37 = .ok (.aload_n 0, 1) := by decide +kernel
theorem d64_38 : decode (m_code 64) 38 = .ok (.getfield 27, 3) := by decide +kernel
theorem d64_41 : decode (m_code 64) 41 = .ok (.iload_n 1, 1) := by decide +kernel
theorem d64_42 : decode (m_code 64) 42 = .ok (.iconst 0, 1) := by decide +kernel
theorem d64_43 : decode (m_code 64) 43 = .ok (.iastore, 1) := by decide +kernel
theorem d64_44 : decode (m_code 64) 44 = .ok (.aload_n 0, 1) := by decide +kernel
theorem d64_45 : decode (m_code 64) 45 = .ok (.getfield 30, 3) := by decide +kernel
theorem d64_48 : decode (m_code 64) 48 = .ok (.iload_n 1, 1) := by decide +kernel
theorem d64_49 : decode (m_code 64) 49 = .ok (.iconst 0, 1) := by decide +kernel
theorem d64_50 : decode (m_code 64) 50 = .ok (.iastore, 1) := by decide +kernel
theorem d64_51 : decode (m_code 64) 51 = .ok (.aload_n 0, 1) := by decide +kernel
theorem d64_52 : decode (m_code 64) 52 = .ok (.getfield 33, 3) := by decide +kernel
theorem d64_55 : decode (m_code 64) 55 = .ok (.iload_n 1, 1) := by decide +kernel
theorem d64_56 : decode (m_code 64) 56 = .ok (.iconst 0, 1) := by decide +kernel
theorem d64_57 : decode (m_code 64) 57 = .ok (.iastore, 1) := by decide +kernel
theorem d64_58 : decode (m_code 64) 58 = .ok (.return_, 1) := by decide +kernel
theorem d77_0 : decode (m_code 77) 0 = .ok (.aload_n 0, 1) := by decide +kernel
theorem d77_1 : decode (m_code 77) 1 = .ok (.iload_n 1, 1) := by decide +kernel
theorem d77_2 : decode (m_code 77) 2 = .ok (.invokevirtual 53, 3) := by decide +kernel
theorem d77_5 : decode (m_code 77) 5 = .ok (.ifCond .eq 41, 3) := by decide +kernel
theorem d77_8 : decode (m_code 77) 8 = .ok (.aload_n 0, 1) := by decide +kernel
theorem d77_9 : decode (m_code 77) 9 = .ok (.getfield 33, 3) := by decide +kernel
theorem d77_12 : decode (m_code 77) 12 = .ok (.iload_n 1, 1) := by decide +kernel
theorem d77_13 : decode (m_code 77) 13 = .ok (.iaload, 1) := by decide +kernel
theorem d77_14 : decode (m_code 77) 14 = .ok (.bipush 12, 2) := by decide +kernel
theorem d77_16 : decode (m_code 77) 16 = .ok (.if_icmp .ge 30, 3) := by decide +kernel
theorem d77_19 : decode (m_code 77) 19 = .ok (.aload_n 0, 1) := by decide +kernel
theorem d77_20 : decode (m_code 77) 20 = .ok (.getfield 36, 3) := by decide +kernel
theorem d77_23 : decode (m_code 77) 23 = .ok (.iload_n 1, 1) := by decide +kernel
theorem d77_24 : decode (m_code 77) 24 = .ok (.bipush 12, 2) := by decide +kernel
theorem d77_26 : decode (m_code 77) 26 = .ok (.imul, 1) := by decide +kernel
theorem d77_27 : decode (m_code 77) 27 = .ok (.aload_n 0, 1) := by decide +kernel
theorem d77_28 : decode (m_code 77) 28 = .ok (.getfield 33, 3) := by decide +kernel
theorem d77_31 : decode (m_code 77) 31 = .ok (.iload_n 1, 1) := by decide +kernel
theorem d77_32 : decode (m_code 77) 32 = .ok (.iaload, 1) := by decide +kernel
theorem d77_33 : decode (m_code 77) 33 = .ok (.iadd, 1) := by decide +kernel
theorem d77_34 : decode (m_code 77) 34 = .ok (.iload_n 2, 1) := by decide +kernel
theorem d77_35 : decode (m_code 77) 35 = .ok (.iastore, 1) := by decide +kernel
theorem d77_36 : decode (m_code 77) 36 = .ok (.aload_n 0, 1) := by decide +kernel
theorem d77_37 : decode (m_code 77) 37 = .ok (.getfield 33, 3) := by decide +kernel
theorem d77_40 : decode (m_code 77) 40 = .ok (.iload_n 1, 1) := by decide +kernel
theorem d77_41 : decode (m_code 77) 41 = .ok (.dup2, 1) := by decide +kernel
theorem d77_42 : decode (m_code 77) 42 = .ok (.iaload, 1) := by decide +kernel
theorem d77_43 : decode (m_code 77) 43 = .ok (.iconst 1, 1) := by decide +kernel
theorem d77_44 : decode (m_code 77) 44 = .ok (.iadd, 1) := by decide +kernel
theorem d77_45 : decode (m_code 77) 45 = .ok (.iastore, 1) := by decide +kernel
theorem d77_46 : decode (m_code 77) 46 = .ok (.return_, 1) := by decide +kernel
theorem d80_0 : decode (m_code 80) 0 = .ok (.aload_n 0, 1) := by decide +kernel
theorem d80_1 : decode (m_code 80) 1 = .ok (.iload_n 1, 1) := by decide +kernel
theorem d80_2 : decode (m_code 80) 2 = .ok (.invokevirtual 53, 3) := by decide +kernel
theorem d80_5 : decode (m_code 80) 5 = .ok (.ifCond .eq 10, 3) := by decide +kernel
theorem d80_8 : decode (m_code 80) 8 = .ok (.aload_n 0, 1) := by decide +kernel
theorem d80_9 : decode (m_code 80) 9 = .ok (.getfield 33, 3) := by decide +kernel
theorem d80_12 : decode (m_code 80) 12 = .ok (.iload_n 1, 1) := by decide +kernel
theorem d80_13 : decode (m_code 80) 13 = .ok (.iconst 0, 1) := by decide +kernel
theorem d80_14 : decode (m_code 80) 14 = .ok (.iastore, 1) := by decide +kernel
theorem d80_15 : decode (m_code 80) 15 = .ok (.return_, 1) := by decide +kernel
theorem d81_0 : decode (m_code 81) 0 = .ok (.aload_n 0, 1) := by decide +kernel
theorem d81_1 : decode (m_code 81) 1 = .ok (.iload_n 1, 1) := by decide +kernel
theorem d81_2 : decode (m_code 81) 2 = .ok (.invokevirtual 53, 3) := by decide +kernel
theorem d81_5 : decode (m_code 81) 5 = .ok (.ifCond .eq 18, 3) := by decide +kernel
theorem d81_8 : decode (m_code 81) 8 = .ok (.aload_n 0, 1) := by decide +kernel
theorem d81_9 : decode (m_code 81) 9 = .ok (.iload_n 1, 1) := by decide +kernel
theorem d81_10 : decode (m_code 81) 10 = .ok (.invokevirtual 57, 3) := by decide +kernel
theorem d81_13 : decode (m_code 81) 13 = .ok (.ifCond .ne 10, 3) := by decide +kernel
theorem d81_16 : decode (m_code 81) 16 = .ok (.aload_n 0, 1) := by decide +kernel
theorem d81_17 : decode (m_code 81) 17 = .ok (.getfield 21, 3) := by decide +kernel
theorem d81_20 : decode (m_code 81) 20 = .ok (.iload_n 1, 1) := by decide +kernel
theorem d81_21 : decode (m_code 81) 21 = .ok (.iconst 0, 1) := by decide +kernel
theorem d81_22 : decode (m_code 81) 22 = .ok (.iastore, 1) := by decide +kernel
theorem d81_23 : decode (m_code 81) 23 = .ok (.return_, 1) := by decide +kernel
theorem d85_0 : decode (m_code 85) 0 = .ok (.aload_n 0, 1) := by decide +kernel
theorem d85_1 : decode (m_code 85) 1 = .ok (.getfield 27, 3) := by decide +kernel
theorem d85_4 : decode (m_code 85) 4 = .ok (.bipush 10, 2) := by decide +kernel
theorem d85_6 : decode (m_code 85) 6 = .ok (.if_icmp .lt 6, 3) := by decide +kernel
theorem d85_12 : decode (m_code 85) 12 = .ok (.aload_n 0, 1) := by decide +kernel
theorem d85_13 : decode (m_code 85) 13 = .ok (.getfield 9, 3) := by decide +kernel
theorem d85_16 : decode (m_code 85) 16 = .ok (.aload_n 0, 1) := by decide +kernel
theorem d85_17 : decode (m_code 85) 17 = .ok (.getfield 27, 3) := by decide +kernel
theorem d85_20 : decode (m_code 85) 20 = .ok (.iload_n 1, 1) := by decide +kernel
theorem d85_21 : decode (m_code 85) 21 = .ok (.iastore, 1) := by decide +kernel
theorem d85_22 : decode (m_code 85) 22 = .ok (.aload_n 0, 1) := by decide +kernel
theorem d85_23 : decode (m_code 85) 23 = .ok (.getfield 15, 3) := by decide +kernel
theorem d85_26 : decode (m_code 85) 26 = .ok (.aload_n 0, 1) := by decide +kernel
theorem d85_27 : decode (m_code 85) 27 = .ok (.getfield 27, 3) := by decide +kernel
theorem d85_30 : decode (m_code 85) 30 = .ok (.iload_n 2, 1) := by decide +kernel
theorem d85_31 : decode (m_code 85) 31 = .ok (.iastore, 1) := by decide +kernel
theorem d85_32 : decode (m_code 85) 32 = .ok (.aload_n 0, 1) := by decide +kernel
theorem d85_33 : decode (m_code 85) 33 = .ok (.getfield 18, 3) := by decide +kernel
theorem d85_36 : decode (m_code 85) 36 = .ok (.aload_n 0, 1) := by decide +kernel
theorem d85_37 : decode (m_code 85) 37 = .ok (.getfield 27, 3) := by decide +kernel
theorem d85_40 : decode (m_code 85) 40 = .ok (.iload_n 3, 1) := by decide +kernel
theorem d85_41 : decode (m_code 85) 41 = .ok (.iastore, 1) := by decide +kernel
theorem d85_42 : decode (m_code 85) 42 = .ok (.aload_n 0, 1) := by decide +kernel
theorem d85_43 : decode (m_code 85) 43 = .ok (.getfield 21, 3) := by decide +kernel
theorem d85_46 : decode (m_code 85) 46 = .ok (.aload_n 0, 1) := by decide +kernel
theorem d85_47 : decode (m_code 85) 47 = .ok (.getfield 27, 3) := by decide +kernel
theorem d85_50 : decode (m_code 85) 50 = .ok (.iconst 0, 1) := by decide +kernel
theorem d85_51 : decode (m_code 85) 51 = .ok (.iastore, 1) := by decide +kernel
theorem d85_52 : decode (m_code 85) 52 = .ok (.aload_n 0, 1) := by decide +kernel
theorem d85_53 : decode (m_code 85) 53 = .ok (.getfield 24, 3) := by decide +kernel
theorem d85_56 : decode (m_code 85) 56 = .ok (.aload_n 0, 1) := by decide +kernel
theorem d85_57 : decode (m_code 85) 57 = .ok (.getfield 27, 3) := by decide +kernel
theorem d85_60 : decode (m_code 85) 60 = .ok (.iconst 0, 1) := by decide +kernel
theorem d85_61 : decode (m_code 85) 61 = .ok (.iastore, 1) := by decide +kernel
theorem d85_62 : decode (m_code 85) 62 = .ok (.aload_n 0, 1) := by decide +kernel
theorem d85_63 : decode (m_code 85) 63 = .ok (.dup, 1) := by decide +kernel
theorem d85_64 : decode (m_code 85) 64 = .ok (.getfield 27, 3) := by decide +kernel
theorem d85_67 : decode (m_code 85) 67 = .ok (.iconst 1, 1) := by decide +kernel
theorem d85_68 : decode (m_code 85) 68 = .ok (.iadd, 1) := by decide +kernel
theorem d85_69 : decode (m_code 85) 69 = .ok (.putfield 27, 3) := by decide +kernel
theorem d85_72 : decode (m_code 85) 72 = .ok (.aload_n 0, 1) := by decide +kernel
theorem d85_73 : decode (m_code 85) 73 = .ok (.getfield 27, 3) := by decide +kernel
theorem d85_76 : decode (m_code 85) 76 = .ok (.iconst 1, 1) := by decide +kernel
theorem d85_77 : decode (m_code 85) 77 = .ok (.isub, 1) := by decide +kernel
theorem d85_78 : decode (m_code 85) 78 = .ok (.ireturn, 1) := by decide +kernel
theorem d92_0 : decode (m_code 92) 0 = .ok (.aload_n 0, 1) := by decide +kernel
theorem d92_1 : decode (m_code 92) 1 = .ok (.iload_n 1, 1) := by decide +kernel
theorem d92_2 : decode (m_code 92) 2 = .ok (.invokevirtual 37, 3) := by decide +kernel
theorem d92_5 : decode (m_code 92) 5 = .ok (.ifCond .eq 10, 3) := by decide +kernel
theorem d92_8 : decode (m_code 92) 8 = .ok (.aload_n 0, 1) := by decide +kernel
theorem d92_9 : decode (m_code 92) 9 = .ok (.getfield 15, 3) := by decide +kernel
theorem d92_12 : decode (m_code 92) 12 = .ok (.iload_n 1, 1) := by decide +kernel
theorem d92_13 : decode (m_code 92) 13 = .ok (.iload_n 2, 1) := by decide +kernel
theorem d92_14 : decode (m_code 92) 14 = .ok (.iastore, 1) := by decide +kernel
theorem d92_15 : decode (m_code 92) 15 = .ok (.return_, 1) := by decide +kernel
theorem d97_0 : decode (m_code 97) 0 = .ok (.aload_n 0, 1) := by decide +kernel
theorem d97_1 : decode (m_code 97) 1 = .ok (.iload_n 1, 1) := by decide +kernel
theorem d97_2 : decode (m_code 97) 2 = .ok (.invokevirtual 37, 3) := by decide +kernel
theorem d97_5 : decode (m_code 97) 5 = .ok (.ifCond .eq 10, 3) := by decide +kernel
theorem d97_8 : decode (m_code 97) 8 = .ok (.aload_n 0, 1) := by decide +kernel
theorem d97_9 : decode (m_code 97) 9 = .ok (.getfield 21, 3) := by decide +kernel
theorem d97_12 : decode (m_code 97) 12 = .ok (.iload_n 1, 1) := by decide +kernel
theorem d97_13 : decode (m_code 97) 13 = .ok (.iload_n 2, 1) := by decide +kernel
theorem d97_14 : decode (m_code 97) 14 = .ok (.iastore, 1) := by decide +kernel
theorem d97_15 : decode (m_code 97) 15 = .ok (.return_, 1) := by decide +kernel
theorem d109_0 : decode (m_code 109) 0 = .ok (.aload_n 0, 1) := by decide +kernel
theorem d109_1 : decode (m_code 109) 1 = .ok (.iload_n 1, 1) := by decide +kernel
theorem d109_2 : decode (m_code 109) 2 = .ok (.invokevirtual 68, 3) := by decide +kernel
theorem d109_5 : decode (m_code 109) 5 = .ok (.ifCond .le 13, 3) := by decide +kernel
theorem d109_8 : decode (m_code 109) 8 = .ok (.aload_n 0, 1) := by decide +kernel
theorem d109_9 : decode (m_code 109) 9 = .ok (.getfield 21, 3) := by decide +kernel
theorem d109_12 : decode (m_code 109) 12 = .ok (.iload_n 1, 1) := by decide +kernel
theorem d109_13 : decode (m_code 109) 13 = .ok (.dup2, 1) := by decide +kernel
theorem d109_14 : decode (m_code 109) 14 = .ok (.iaload, 1) := by decide +kernel
theorem d109_15 : decode (m_code 109) 15 = .ok (.iconst 1, 1) := by decide +kernel
theorem d109_16 : decode (m_code 109) 16 = .ok (.isub, 1) := by decide +kernel
theorem d109_17 : decode (m_code 109) 17 = .ok (.iastore, 1) := by decide +kernel
theorem d109_18 : decode (m_code 109) 18 = .ok (.return_, 1) := by decide +kernel
theorem d114_0 : decode (m_code 114) 0 = .ok (.aload_n 0, 1) := by decide +kernel
theorem d114_1 : decode (m_code 114) 1 = .ok (.iload_n 1, 1) := by decide +kernel
theorem d114_2 : decode (m_code 114) 2 = .ok (.invokevirtual 53, 3) := by decide +kernel
theorem d114_5 : decode (m_code 114) 5 = .ok (.ifCond .eq 20, 3) := by decide +kernel
theorem d114_8 : decode (m_code 114) 8 = .ok (.aload_n 0, 1) := by decide +kernel
theorem d114_9 : decode (m_code 114) 9 = .ok (.getfield 27, 3) := by decide +kernel
theorem d114_12 : decode (m_code 114) 12 = .ok (.iload_n 1, 1) := by decide +kernel
theorem d114_13 : decode (m_code 114) 13 = .ok (.dup2, 1) := by decide +kernel
theorem d114_14 : decode (m_code 114) 14 = .ok (.iaload, 1) := by decide +kernel
theorem d114_15 : decode (m_code 114) 15 = .ok (.iconst 1, 1) := by decide +kernel
theorem d114_16 : decode (m_code 114) 16 = .ok (.iadd, 1) := by decide +kernel
theorem d114_17 : decode (m_code 114) 17 = .ok (.iastore, 1) := by decide +kernel
theorem d114_18 : decode (m_code 114) 18 = .ok (.aload_n 0, 1) := by decide +kernel
theorem d114_19 : decode (m_code 114) 19 = .ok (.getfield 33, 3) := by decide +kernel
theorem d114_22 : decode (m_code 114) 22 = .ok (.iload_n 1, 1) := by decide +kernel
theorem d114_23 : decode (m_code 114) 23 = .ok (.iconst 0, 1) := by decide +kernel
theorem d114_24 : decode (m_code 114) 24 = .ok (.iastore, 1) := by decide +kernel
theorem d114_25 : decode (m_code 114) 25 = .ok (.return_, 1) := by decide +kernel
theorem d117_0 : decode (m_code 117) 0 = .ok (.aload_n 0, 1) := by decide +kernel
theorem d117_1 : decode (m_code 117) 1 = .ok (.iload_n 1, 1) := by decide +kernel
theorem d117_2 : decode (m_code 117) 2 = .ok (.invokevirtual 40, 3) := by decide +kernel
theorem d117_5 : decode (m_code 117) 5 = .ok (.ifCond .eq 13, 3) := by decide +kernel
theorem d117_8 : decode (m_code 117) 8 = .ok (.aload_n 0, 1) := by decide +kernel
theorem d117_9 : decode (m_code 117) 9 = .ok (.getfield 24, 3) := by decide +kernel
theorem d117_12 : decode (m_code 117) 12 = .ok (.iload_n 1, 1) := by decide +kernel
theorem d117_13 : decode (m_code 117) 13 = .ok (.dup2, 1) := by decide +kernel
theorem d117_14 : decode (m_code 117) 14 = .ok (.iaload, 1) := by decide +kernel
theorem d117_15 : decode (m_code 117) 15 = .ok (.iconst 1, 1) := by decide +kernel
theorem d117_16 : decode (m_code 117) 16 = .ok (.iadd, 1) := by decide +kernel
theorem d117_17 : decode (m_code 117) 17 = .ok (.iastore, 1) := by decide +kernel
theorem d117_18 : decode (m_code 117) 18 = .ok (.return_, 1) := by decide +kernel
theorem d118_0 : decode (m_code 118) 0 = .ok (.aload_n 0, 1) := by decide +kernel
theorem d118_1 : decode (m_code 118) 1 = .ok (.iload_n 1, 1) := by decide +kernel
theorem d118_2 : decode (m_code 118) 2 = .ok (.invokevirtual 53, 3) := by decide +kernel
theorem d118_5 : decode (m_code 118) 5 = .ok (.ifCond .eq 33, 3) := by decide +kernel
theorem d118_8 : decode (m_code 118) 8 = .ok (.aload_n 0, 1) := by decide +kernel
theorem d118_9 : decode (m_code 118) 9 = .ok (.getfield 9, 3) := by decide +kernel
theorem d118_12 : decode (m_code 118) 12 = .ok (.iload_n 1, 1) := by decide +kernel
theorem d118_13 : decode (m_code 118) 13 = .ok (.bipush (-5), 2) := by decide +kernel
theorem d118_15 : decode (m_code 118) 15 = .ok (.iastore, 1) := by decide +kernel
theorem d118_16 : decode (m_code 118) 16 = .ok (.aload_n 0, 1) := by decide +kernel
theorem d118_17 : decode (m_code 118) 17 = .ok (.getfield 15, 3) := by decide +kernel
theorem d118_20 : decode (m_code 118) 20 = .ok (.iload_n 1, 1) := by decide +kernel
theorem d118_21 : decode (m_code 118) 21 = .ok (.iload_n 2, 1) := by decide +kernel
theorem d118_22 : decode (m_code 118) 22 = .ok (.iastore, 1) := by decide +kernel
theorem d118_23 : decode (m_code 118) 23 = .ok (.aload_n 0, 1) := by decide +kernel
theorem d118_24 : decode (m_code 118) 24 = .ok (.getfield 18, 3) := by decide +kernel
theorem d118_27 : decode (m_code 118) 27 = .ok (.iload_n 1, 1) := by decide +kernel
theorem d118_28 : decode (m_code 118) 28 = .ok (.iload_n 3, 1) := by decide +kernel
theorem d118_29 : decode (m_code 118) 29 = .ok (.iastore, 1) := by decide +kernel
theorem d118_30 : decode (m_code 118) 30 = .ok (.aload_n 0, 1) := by decide +kernel
theorem d118_31 : decode (m_code 118) 31 = .ok (.getfield 21, 3) := by decide +kernel
theorem d118_34 : decode (m_code 118) 34 = .ok (.iload_n 1, 1) := by decide +kernel
theorem d118_35 : decode (m_code 118) 35 = .ok (.iload 4, 2) := by decide +kernel
theorem d118_37 : decode (m_code 118) 37 = .ok (.iastore, 1) := by decide +kernel
theorem d118_38 : decode (m_code 118) 38 = .ok (.return_, 1) := by decide +kernel
theorem d122_0 : decode (m_code 122) 0 = .ok (.iload_n 1, 1) := by decide +kernel
theorem d122_1 : decode (m_code 122) 1 = .ok (.ifCond .lt 17, 3) := by decide +kernel
theorem d122_4 : decode (m_code 122) 4 = .ok (.iload_n 1, 1) := by decide +kernel
theorem d122_5 : decode (m_code 122) 5 = .ok (.sipush 720, 3) := by decide +kernel
theorem d122_8 : decode (m_code 122) 8 = .ok (.if_icmp .ge 10, 3) := by decide +kernel
theorem d122_11 : decode (m_code 122) 11 = .ok (.aload_n 0, 1) := by decide +kernel
theorem d122_12 : decode (m_code 122) 12 = .ok (.getfield 11, 3) := by decide +kernel
theorem d122_15 : decode (m_code 122) 15 = .ok (.iload_n 1, 1) := by decide +kernel
theorem d122_16 : decode (m_code 122) 16 = .ok (.iload_n 2, 1) := by decide +kernel
theorem d122_17 : decode (m_code 122) 17 = .ok (.iastore, 1) := by decide +kernel
theorem d122_18 : decode (m_code 122) 18 = .ok (.return_, 1) := by decide +kernel
theorem d124_0 : decode (m_code 124) 0 = .ok (.aload_n 0, 1) := by decide +kernel
theorem d124_1 : decode (m_code 124) 1 = .ok (.iload_n 1, 1) := by decide +kernel
theorem d124_2 : decode (m_code 124) 2 = .ok (.invokevirtual 57, 3) := by decide +kernel
theorem d124_5 : decode (m_code 124) 5 = .ok (.ifCond .eq 13, 3) := by decide +kernel
theorem d124_8 : decode (m_code 124) 8 = .ok (.aload_n 0, 1) := by decide +kernel
theorem d124_9 : decode (m_code 124) 9 = .ok (.getfield 18, 3) := by decide +kernel
theorem d124_12 : decode (m_code 124) 12 = .ok (.iload_n 1, 1) := by decide +kernel
theorem d124_13 : decode (m_code 124) 13 = .ok (.dup2, 1) := by decide +kernel
theorem d124_14 : decode (m_code 124) 14 = .ok (.iaload, 1) := by decide +kernel
theorem d124_15 : decode (m_code 124) 15 = .ok (.iconst 1, 1) := by decide +kernel
theorem d124_16 : decode (m_code 124) 16 = .ok (.isub, 1) := by decide +kernel
theorem d124_17 : decode (m_code 124) 17 = .ok (.iastore, 1) := by decide +kernel
theorem d124_18 : decode (m_code 124) 18 = .ok (.return_, 1) := by decide +kernel
theorem d126_0 : decode (m_code 126) 0 = .ok (.aload_n 0, 1) := by decide +kernel
theorem d126_1 : decode (m_code 126) 1 = .ok (.iload_n 1, 1) := by decide +kernel
theorem d126_2 : decode (m_code 126) 2 = .ok (.invokevirtual 57, 3) := by decide +kernel
theorem d126_5 : decode (m_code 126) 5 = .ok (.ifCond .eq 48, 3) := by decide +kernel
theorem d126_8 : decode (m_code 126) 8 = .ok (.aload_n 0, 1) := by decide +kernel
theorem d126_9 : decode (m_code 126) 9 = .ok (.getfield 9, 3) := by decide +kernel
theorem d126_12 : decode (m_code 126) 12 = .ok (.iload_n 1, 1) := by decide +kernel
theorem d126_13 : decode (m_code 126) 13 = .ok (.aload_n 0, 1) := by decide +kernel
theorem d126_14 : decode (m_code 126) 14 = .ok (.getfield 15, 3) := by decide +kernel
theorem d126_17 : decode (m_code 126) 17 = .ok (.iload_n 1, 1) := by decide +kernel
theorem d126_18 : decode (m_code 126) 18 = .ok (.iaload, 1) := by decide +kernel
theorem d126_19 : decode (m_code 126) 19 = .ok (.iastore, 1) := by decide +kernel
theorem d126_20 : decode (m_code 126) 20 = .ok (.aload_n 0, 1) := by decide +kernel
theorem d126_21 : decode (m_code 126) 21 = .ok (.getfield 15, 3) := by decide +kernel
theorem d126_24 : decode (m_code 126) 24 = .ok (.iload_n 1, 1) := by decide +kernel
theorem d126_25 : decode (m_code 126) 25 = .ok (.bipush (-5), 2) := by decide +kernel
theorem d126_27 : decode (m_code 126) 27 = .ok (.iastore, 1) := by decide +kernel
theorem d126_28 : decode (m_code 126) 28 = .ok (.aload_n 0, 1) := by decide +kernel
theorem d126_29 : decode (m_code 126) 29 = .ok (.getfield 18, 3) := by decide +kernel
theorem d126_32 : decode (m_code 126) 32 = .ok (.iload_n 1, 1) := by decide +kernel
theorem d126_33 : decode (m_code 126) 33 = .ok (.bipush (-5), 2) := by decide +kernel
theorem d126_35 : decode (m_code 126) 35 = .ok (.iastore, 1) := by decide +kernel
theorem d126_36 : decode (m_code 126) 36 = .ok (.aload_n 0, 1) := by decide +kernel
theorem d126_37 : decode (m_code 126) 37 = .ok (.getfield 24, 3) := by decide +kernel
theorem d126_40 : decode (m_code 126) 40 = .ok (.iload_n 1, 1) := by decide +kernel
theorem d126_41 : decode (m_code 126) 41 = .ok (.iload_n 2, 1) := by decide +kernel
theorem d126_42 : decode (m_code 126) 42 = .ok (.iastore, 1) := by decide +kernel
theorem d126_43 : decode (m_code 126) 43 = .ok (.aload_n 0, 1) := by decide +kernel
theorem d126_44 : decode (m_code 126) 44 = .ok (.getfield 30, 3) := by decide +kernel
theorem d126_47 : decode (m_code 126) 47 = .ok (.iload_n 1, 1) := by decide +kernel
theorem d126_48 : decode (m_code 126) 48 = .ok (.dup2, 1) := by decide +kernel
theorem d126_49 : decode (m_code 126) 49 = .ok (.iaload, 1) := by decide +kernel
theorem d126_50 : decode (m_code 126) 50 = .ok (.iconst 1, 1) := by decide +kernel
theorem d126_51 : decode (m_code 126) 51 = .ok (.iadd, 1) := by decide +kernel
theorem d126_52 : decode (m_code 126) 52 = .ok (.iastore, 1) := by decide +kernel
theorem d126_53 : decode (m_code 126) 53 = .ok (.return_, 1) := by decide +kernel
theorem d128_0 : decode (m_code 128) 0 = .ok (.aload_n 0, 1) := by decide +kernel
theorem d128_1 : decode (m_code 128) 1 = .ok (.getfield 27, 3) := by decide +kernel
theorem d128_4 : decode (m_code 128) 4 = .ok (.bipush 40, 2) := by decide +kernel
theorem d128_6 : decode (m_code 128) 6 = .ok (.if_icmp .lt 14, 3) := by decide +kernel
theorem d128_9 : decode (m_code 128) 9 = .ok (.aload_n 0, 1) := by decide +kernel
theorem d128_10 : decode (m_code 128) 10 = .ok (.dup, 1) := by decide +kernel
theorem d128_11 : decode (m_code 128) 11 = .ok (.getfield 31, 3) := by decide +kernel
theorem d128_14 : decode (m_code 128) 14 = .ok (.iconst 1, 1) := by decide +kernel
theorem d128_15 : decode (m_code 128) 15 = .ok (.iadd, 1) := by decide +kernel
theorem d128_16 : decode (m_code 128) 16 = .ok (.putfield 31, 3) := by decide +kernel
theorem d128_19 : decode (m_code 128) 19 = .ok (.return_, 1) := by decide +kernel
theorem d128_20 : decode (m_code 128) 20 = .ok (.aload_n 0, 1) := by decide +kernel
theorem d128_21 : decode (m_code 128) 21 = .ok (.getfield 9, 3) := by decide +kernel
theorem d128_24 : decode (m_code 128) 24 = .ok (.aload_n 0, 1) := by decide +kernel
theorem d128_25 : decode (m_code 128) 25 = .ok (.getfield 27, 3) := by decide +kernel
theorem d128_28 : decode (m_code 128) 28 = .ok (.iload_n 1, 1) := by decide +kernel
theorem d128_29 : decode (m_code 128) 29 = .ok (.iastore, 1) := by decide +kernel
theorem d128_30 : decode (m_code 128) 30 = .ok (.aload_n 0, 1) := by decide +kernel
theorem d128_31 : decode (m_code 128) 31 = .ok (.getfield 15, 3) := by decide +kernel
theorem d128_34 : decode (m_code 128) 34 = .ok (.aload_n 0, 1) := by decide +kernel
theorem d128_35 : decode (m_code 128) 35 = .ok (.getfield 27, 3) := by decide +kernel
theorem d128_38 : decode (m_code 128) 38 = .ok (.iload_n 2, 1) := by decide +kernel
theorem d128_39 : decode (m_code 128) 39 = .ok (.iastore, 1) := by decide +kernel
theorem d128_40 : decode (m_code 128) 40 = .ok (.aload_n 0, 1) := by decide +kernel
theorem d128_41 : decode (m_code 128) 41 = .ok (.getfield 18, 3) := by decide +kernel
theorem d128_44 : decode (m_code 128) 44 = .ok (.aload_n 0, 1) := by decide +kernel
theorem d128_45 : decode (m_code 128) 45 = .ok (.getfield 27, 3) := by decide +kernel
theorem d128_48 : decode (m_code 128) 48 = .ok (.iload_n 3, 1) := by decide +kernel
theorem d128_49 : decode (m_code 128) 49 = .ok (.iastore, 1) := by decide +kernel
theorem d128_50 : decode (m_code 128) 50 = .ok (.aload_n 0, 1) := by decide +kernel
theorem d128_51 : decode (m_code 128) 51 = .ok (.getfield 21, 3) := by decide +kernel
theorem d128_54 : decode (m_code 128) 54 = .ok (.aload_n 0, 1) := by decide +kernel
theorem d128_55 : decode (m_code 128) 55 = .ok (.getfield 27, 3) := by decide +kernel
theorem d128_58 : decode (m_code 128) 58 = .ok (.bipush (-5), 2) := by decide +kernel
theorem d128_60 : decode (m_code 128) 60 = .ok (.iastore, 1) := by decide +kernel
theorem d128_61 : decode (m_code 128) 61 = .ok (.aload_n 0, 1) := by decide +kernel
theorem d128_62 : decode (m_code 128) 62 = .ok (.getfield 24, 3) := by decide +kernel
theorem d128_65 : decode (m_code 128) 65 = .ok (.aload_n 0, 1) := by decide +kernel
theorem d128_66 : decode (m_code 128) 66 = .ok (.getfield 27, 3) := by decide +kernel
theorem d128_69 : decode (m_code 128) 69 = .ok (.bipush (-5), 2) := by decide +kernel
theorem d128_71 : decode (m_code 128) 71 = .ok (.iastore, 1) := by decide +kernel
theorem d128_72 : decode (m_code 128) 72 = .ok (.aload_n 0, 1) := by decide +kernel
theorem d128_73 : decode (m_code 128) 73 = .ok (.dup, 1) := by decide +kernel
theorem d128_74 : decode (m_code 128) 74 = .ok (.getfield 27, 3) := by decide +kernel
theorem d128_77 : decode (m_code 128) 77 = .ok (.iconst 1, 1) := by decide +kernel
theorem d128_78 : decode (m_code 128) 78 = .ok (.iadd, 1) := by decide +kernel
theorem d128_79 : decode (m_code 128) 79 = .ok (.putfield 27, 3) := by decide +kernel
theorem d128_82 : decode (m_code 128) 82 = .ok (.return_, 1) := by decide +kernel
theorem d136_0 : decode (m_code 136) 0 = .ok (.aload_n 0, 1) := by decide +kernel
theorem d136_1 : decode (m_code 136) 1 = .ok (.iload_n 1, 1) := by decide +kernel
theorem d136_2 : decode (m_code 136) 2 = .ok (.invokevirtual 37, 3) := by decide +kernel
theorem d136_5 : decode (m_code 136) 5 = .ok (.ifCond .eq 13, 3) := by decide +kernel
theorem d136_8 : decode (m_code 136) 8 = .ok (.aload_n 0, 1) := by decide +kernel
theorem d136_9 : decode (m_code 136) 9 = .ok (.getfield 24, 3) := by decide +kernel
theorem d136_12 : decode (m_code 136) 12 = .ok (.iload_n 1, 1) := by decide +kernel
theorem d136_13 : decode (m_code 136) 13 = .ok (.dup2, 1) := by decide +kernel
theorem d136_14 : decode (m_code 136) 14 = .ok (.iaload, 1) := by decide +kernel
theorem d136_15 : decode (m_code 136) 15 = .ok (.iconst 1, 1) := by decide +kernel
theorem d136_16 : decode (m_code 136) 16 = .ok (.iadd, 1) := by decide +kernel
theorem d136_17 : decode (m_code 136) 17 = .ok (.iastore, 1) := by decide +kernel
theorem d136_18 : decode (m_code 136) 18 = .ok (.return_, 1) := by decide +kernel
theorem u_noteUse {X : mX} {h : mH} {B st : Nat} {M : Nat → Nat → Int32} (hM : Mus h B st M) {n : Nat} (hn : M 8 6 = nI n) (hn2 : n ≤ 20) {g : Nat} (hg : g < n) : DoesU X 117 [.ref (B + 8), .int (nI g)] h B st ((updM M 13 (g) (((M 13 g) + (nI 1))))) (none) := by
  have hF : Frm h h B 43 := Frm.rf
  refine wp_aload_n d117_0 rfl ?_
  refine wp_iload_n d117_1 rfl ?_
  refine wp_invvT (e := 40) (j2 := 94) (n := 1) d117_2 (by decide +kernel) (by decide +kernel) rfl rfl rfl (um_8 hM) (by decide +kernel) (Nat.le_of_ble_eq_true rfl) rfl rfl (Nat.le_of_ble_eq_true rfl) (by decide +kernel) (u_has8 hM hn (by omega) (nI g)) ?_
  refine wp_ifb_eq d117_5 (tgt := 18) (by decide) (fun hq9 => absurd (⟨nI_le (by omega) (by omega), nI_lt (by omega) (by omega)⟩ : nI 0 ≤ nI g ∧ nI g < nI n) hq9) (fun _ => ?_)
  refine wp_aload_n d117_8 rfl ?_
  refine wp_getf (e := 24) (ci := 3) (k := 4) (nest := false) d117_9 (by decide +kernel) (um_8 hM) rfl ?_
  refine wp_iload_n d117_12 rfl ?_
  refine wp_dup2 d117_13 rfl rfl ?_
  refine wp_iald d117_14 (um_13 hM) (nI_in (by omega) (by decide)) (v := M 13 g) ((congrArg (M 13) (nI_nat (by omega))).trans rfl) ?_
  refine wp_iconst d117_15 (v := nI 1) (by decide) ?_
  refine wp_iadd d117_16 ?_
  refine wp_iast d117_17 (um_13 hM) (nI_in (by omega) (by decide)) ?_
  refine u_step (o := 13) (i := g) (v := ((M 13 g) + (nI 1))) hM hF (by decide) (by rw [nI_nat (by omega)]; rfl) (fun h hM hF => ?_)
  refine wp_vret d117_18 (by decide +kernel) ?_
  exact ⟨rfl, hM, hF⟩
theorem u_changeRoom {X : mX} {h : mH} {B st : Nat} {M : Nat → Nat → Int32} (hM : Mus h B st M) {n : Nat} (hn : M 29 5 = nI n) (hn2 : n ≤ 10) {g : Nat} (hg : g < n) (v : Int32) : DoesU X 92 [.ref (B + 29), .int (nI g), .int (v)] h B st ((updM M 31 (g) (v))) (none) := by
  have hF : Frm h h B 43 := Frm.rf
  refine wp_aload_n d92_0 rfl ?_
  refine wp_iload_n d92_1 rfl ?_
  refine wp_invvT (e := 37) (j2 := 87) (n := 1) d92_2 (by decide +kernel) (by decide +kernel) rfl rfl rfl (um_29 hM) (by decide +kernel) (Nat.le_of_ble_eq_true rfl) rfl rfl (Nat.le_of_ble_eq_true rfl) (by decide +kernel) (u_has29 hM hn (by omega) (nI g)) ?_
  refine wp_ifb_eq d92_5 (tgt := 15) (by decide) (fun hq9 => absurd (⟨nI_le (by omega) (by omega), nI_lt (by omega) (by omega)⟩ : nI 0 ≤ nI g ∧ nI g < nI n) hq9) (fun _ => ?_)
  refine wp_aload_n d92_8 rfl ?_
  refine wp_getf (e := 15) (ci := 7) (k := 1) (nest := false) d92_9 (by decide +kernel) (um_29 hM) rfl ?_
  refine wp_iload_n d92_12 rfl ?_
  refine wp_iload_n d92_13 rfl ?_
  refine wp_iast d92_14 (um_31 hM) (nI_in (by omega) (by decide)) ?_
  refine u_step (o := 31) (i := g) (v := v) hM hF (by decide) (by rw [nI_nat (by omega)]; rfl) (fun h hM hF => ?_)
  refine wp_vret d92_15 (by decide +kernel) ?_
  exact ⟨rfl, hM, hF⟩
theorem u_changeState {X : mX} {h : mH} {B st : Nat} {M : Nat → Nat → Int32} (hM : Mus h B st M) {n : Nat} (hn : M 29 5 = nI n) (hn2 : n ≤ 10) {g : Nat} (hg : g < n) (v : Int32) : DoesU X 97 [.ref (B + 29), .int (nI g), .int (v)] h B st ((updM M 33 (g) (v))) (none) := by
  have hF : Frm h h B 43 := Frm.rf
  refine wp_aload_n d97_0 rfl ?_
  refine wp_iload_n d97_1 rfl ?_
  refine wp_invvT (e := 37) (j2 := 87) (n := 1) d97_2 (by decide +kernel) (by decide +kernel) rfl rfl rfl (um_29 hM) (by decide +kernel) (Nat.le_of_ble_eq_true rfl) rfl rfl (Nat.le_of_ble_eq_true rfl) (by decide +kernel) (u_has29 hM hn (by omega) (nI g)) ?_
  refine wp_ifb_eq d97_5 (tgt := 15) (by decide) (fun hq9 => absurd (⟨nI_le (by omega) (by omega), nI_lt (by omega) (by omega)⟩ : nI 0 ≤ nI g ∧ nI g < nI n) hq9) (fun _ => ?_)
  refine wp_aload_n d97_8 rfl ?_
  refine wp_getf (e := 21) (ci := 7) (k := 3) (nest := false) d97_9 (by decide +kernel) (um_29 hM) rfl ?_
  refine wp_iload_n d97_12 rfl ?_
  refine wp_iload_n d97_13 rfl ?_
  refine wp_iast d97_14 (um_33 hM) (nI_in (by omega) (by decide)) ?_
  refine u_step (o := 33) (i := g) (v := v) hM hF (by decide) (by rw [nI_nat (by omega)]; rfl) (fun h hM hF => ?_)
  refine wp_vret d97_15 (by decide +kernel) ?_
  exact ⟨rfl, hM, hF⟩
theorem u_noteAlarm {X : mX} {h : mH} {B st : Nat} {M : Nat → Nat → Int32} (hM : Mus h B st M) {n : Nat} (hn : M 29 5 = nI n) (hn2 : n ≤ 10) {g : Nat} (hg : g < n) : DoesU X 136 [.ref (B + 29), .int (nI g)] h B st ((updM M 34 (g) (((M 34 g) + (nI 1))))) (none) := by
  have hF : Frm h h B 43 := Frm.rf
  refine wp_aload_n d136_0 rfl ?_
  refine wp_iload_n d136_1 rfl ?_
  refine wp_invvT (e := 37) (j2 := 87) (n := 1) d136_2 (by decide +kernel) (by decide +kernel) rfl rfl rfl (um_29 hM) (by decide +kernel) (Nat.le_of_ble_eq_true rfl) rfl rfl (Nat.le_of_ble_eq_true rfl) (by decide +kernel) (u_has29 hM hn (by omega) (nI g)) ?_
  refine wp_ifb_eq d136_5 (tgt := 18) (by decide) (fun hq9 => absurd (⟨nI_le (by omega) (by omega), nI_lt (by omega) (by omega)⟩ : nI 0 ≤ nI g ∧ nI g < nI n) hq9) (fun _ => ?_)
  refine wp_aload_n d136_8 rfl ?_
  refine wp_getf (e := 24) (ci := 7) (k := 4) (nest := false) d136_9 (by decide +kernel) (um_29 hM) rfl ?_
  refine wp_iload_n d136_12 rfl ?_
  refine wp_dup2 d136_13 rfl rfl ?_
  refine wp_iald d136_14 (um_34 hM) (nI_in (by omega) (by decide)) (v := M 34 g) ((congrArg (M 34) (nI_nat (by omega))).trans rfl) ?_
  refine wp_iconst d136_15 (v := nI 1) (by decide) ?_
  refine wp_iadd d136_16 ?_
  refine wp_iast d136_17 (um_34 hM) (nI_in (by omega) (by decide)) ?_
  refine u_step (o := 34) (i := g) (v := ((M 34 g) + (nI 1))) hM hF (by decide) (by rw [nI_nat (by omega)]; rfl) (fun h hM hF => ?_)
  refine wp_vret d136_18 (by decide +kernel) ?_
  exact ⟨rfl, hM, hF⟩
theorem u_dropOrders {X : mX} {h : mH} {B st : Nat} {M : Nat → Nat → Int32} (hM : Mus h B st M) {n : Nat} (hn : M 19 9 = nI n) (hn2 : n ≤ 4) {g : Nat} (hg : g < n) : DoesU X 80 [.ref (B + 19), .int (nI g)] h B st ((updM M 27 (g) (nI 0))) (none) := by
  have hF : Frm h h B 43 := Frm.rf
  refine wp_aload_n d80_0 rfl ?_
  refine wp_iload_n d80_1 rfl ?_
  refine wp_invvT (e := 53) (j2 := 59) (n := 1) d80_2 (by decide +kernel) (by decide +kernel) rfl rfl rfl (um_19 hM) (by decide +kernel) (Nat.le_of_ble_eq_true rfl) rfl rfl (Nat.le_of_ble_eq_true rfl) (by decide +kernel) (u_has19 hM hn (by omega) (nI g)) ?_
  refine wp_ifb_eq d80_5 (tgt := 15) (by decide) (fun hq9 => absurd (⟨nI_le (by omega) (by omega), nI_lt (by omega) (by omega)⟩ : nI 0 ≤ nI g ∧ nI g < nI n) hq9) (fun _ => ?_)
  refine wp_aload_n d80_8 rfl ?_
  refine wp_getf (e := 33) (ci := 6) (k := 7) (nest := false) d80_9 (by decide +kernel) (um_19 hM) rfl ?_
  refine wp_iload_n d80_12 rfl ?_
  refine wp_iconst d80_13 (v := nI 0) (by decide) ?_
  refine wp_iast d80_14 (um_27 hM) (nI_in (by omega) (by decide)) ?_
  refine u_step (o := 27) (i := g) (v := nI 0) hM hF (by decide) (by rw [nI_nat (by omega)]; rfl) (fun h hM hF => ?_)
  refine wp_vret d80_15 (by decide +kernel) ?_
  exact ⟨rfl, hM, hF⟩
theorem u_halt {X : mX} {h : mH} {B st : Nat} {M : Nat → Nat → Int32} (hM : Mus h B st M) {n : Nat} (hn : M 19 9 = nI n) (hn2 : n ≤ 4) {g : Nat} (hg : g < n) : DoesU X 114 [.ref (B + 19), .int (nI g)] h B st ((updM (updM M 25 (g) (((M 25 g) + (nI 1)))) 27 (g) (nI 0))) (none) := by
  have hF : Frm h h B 43 := Frm.rf
  refine wp_aload_n d114_0 rfl ?_
  refine wp_iload_n d114_1 rfl ?_
  refine wp_invvT (e := 53) (j2 := 59) (n := 1) d114_2 (by decide +kernel) (by decide +kernel) rfl rfl rfl (um_19 hM) (by decide +kernel) (Nat.le_of_ble_eq_true rfl) rfl rfl (Nat.le_of_ble_eq_true rfl) (by decide +kernel) (u_has19 hM hn (by omega) (nI g)) ?_
  refine wp_ifb_eq d114_5 (tgt := 25) (by decide) (fun hq9 => absurd (⟨nI_le (by omega) (by omega), nI_lt (by omega) (by omega)⟩ : nI 0 ≤ nI g ∧ nI g < nI n) hq9) (fun _ => ?_)
  refine wp_aload_n d114_8 rfl ?_
  refine wp_getf (e := 27) (ci := 6) (k := 5) (nest := false) d114_9 (by decide +kernel) (um_19 hM) rfl ?_
  refine wp_iload_n d114_12 rfl ?_
  refine wp_dup2 d114_13 rfl rfl ?_
  refine wp_iald d114_14 (um_25 hM) (nI_in (by omega) (by decide)) (v := M 25 g) ((congrArg (M 25) (nI_nat (by omega))).trans rfl) ?_
  refine wp_iconst d114_15 (v := nI 1) (by decide) ?_
  refine wp_iadd d114_16 ?_
  refine wp_iast d114_17 (um_25 hM) (nI_in (by omega) (by decide)) ?_
  refine u_step (o := 25) (i := g) (v := ((M 25 g) + (nI 1))) hM hF (by decide) (by rw [nI_nat (by omega)]; rfl) (fun h hM hF => ?_)
  refine wp_aload_n d114_18 rfl ?_
  refine wp_getf (e := 33) (ci := 6) (k := 7) (nest := false) d114_19 (by decide +kernel) (um_19 hM) rfl ?_
  refine wp_iload_n d114_22 rfl ?_
  refine wp_iconst d114_23 (v := nI 0) (by decide) ?_
  refine wp_iast d114_24 (um_27 hM) (nI_in (by omega) (by decide)) ?_
  refine u_step (o := 27) (i := g) (v := nI 0) hM hF (by decide) (by rw [nI_nat (by omega)]; rfl) (fun h hM hF => ?_)
  refine wp_vret d114_25 (by decide +kernel) ?_
  exact ⟨rfl, hM, hF⟩
theorem u_startWalk {X : mX} {h : mH} {B st : Nat} {M : Nat → Nat → Int32} (hM : Mus h B st M) {n : Nat} (hn : M 19 9 = nI n) (hn2 : n ≤ 4) {g : Nat} (hg : g < n) (x y z : Int32) : DoesU X 118 [.ref (B + 19), .int (nI g), .int (x), .int (y), .int (z)] h B st ((updM (updM (updM (updM M 20 (g) ((-5 : Int32))) 21 (g) (x)) 22 (g) (y)) 23 (g) (z))) (none) := by
  have hF : Frm h h B 43 := Frm.rf
  refine wp_aload_n d118_0 rfl ?_
  refine wp_iload_n d118_1 rfl ?_
  refine wp_invvT (e := 53) (j2 := 59) (n := 1) d118_2 (by decide +kernel) (by decide +kernel) rfl rfl rfl (um_19 hM) (by decide +kernel) (Nat.le_of_ble_eq_true rfl) rfl rfl (Nat.le_of_ble_eq_true rfl) (by decide +kernel) (u_has19 hM hn (by omega) (nI g)) ?_
  refine wp_ifb_eq d118_5 (tgt := 38) (by decide) (fun hq9 => absurd (⟨nI_le (by omega) (by omega), nI_lt (by omega) (by omega)⟩ : nI 0 ≤ nI g ∧ nI g < nI n) hq9) (fun _ => ?_)
  refine wp_aload_n d118_8 rfl ?_
  refine wp_getf (e := 9) (ci := 6) (k := 0) (nest := false) d118_9 (by decide +kernel) (um_19 hM) rfl ?_
  refine wp_iload_n d118_12 rfl ?_
  refine wp_bipush d118_13 (v := (-5 : Int32)) (by decide) ?_
  refine wp_iast d118_15 (um_20 hM) (nI_in (by omega) (by decide)) ?_
  refine u_step (o := 20) (i := g) (v := (-5 : Int32)) hM hF (by decide) (by rw [nI_nat (by omega)]; rfl) (fun h hM hF => ?_)
  refine wp_aload_n d118_16 rfl ?_
  refine wp_getf (e := 15) (ci := 6) (k := 1) (nest := false) d118_17 (by decide +kernel) (um_19 hM) rfl ?_
  refine wp_iload_n d118_20 rfl ?_
  refine wp_iload_n d118_21 rfl ?_
  refine wp_iast d118_22 (um_21 hM) (nI_in (by omega) (by decide)) ?_
  refine u_step (o := 21) (i := g) (v := x) hM hF (by decide) (by rw [nI_nat (by omega)]; rfl) (fun h hM hF => ?_)
  refine wp_aload_n d118_23 rfl ?_
  refine wp_getf (e := 18) (ci := 6) (k := 2) (nest := false) d118_24 (by decide +kernel) (um_19 hM) rfl ?_
  refine wp_iload_n d118_27 rfl ?_
  refine wp_iload_n d118_28 rfl ?_
  refine wp_iast d118_29 (um_22 hM) (nI_in (by omega) (by decide)) ?_
  refine u_step (o := 22) (i := g) (v := y) hM hF (by decide) (by rw [nI_nat (by omega)]; rfl) (fun h hM hF => ?_)
  refine wp_aload_n d118_30 rfl ?_
  refine wp_getf (e := 21) (ci := 6) (k := 3) (nest := false) d118_31 (by decide +kernel) (um_19 hM) rfl ?_
  refine wp_iload_n d118_34 rfl ?_
  refine wp_iload d118_35 rfl ?_
  refine wp_iast d118_37 (um_23 hM) (nI_in (by omega) (by decide)) ?_
  refine u_step (o := 23) (i := g) (v := z) hM hF (by decide) (by rw [nI_nat (by omega)]; rfl) (fun h hM hF => ?_)
  refine wp_vret d118_38 (by decide +kernel) ?_
  exact ⟨rfl, hM, hF⟩
theorem u_shortenWalk {X : mX} {h : mH} {B st : Nat} {M : Nat → Nat → Int32} (hM : Mus h B st M) {n : Nat} (hn : M 19 9 = nI n) (hn2 : n ≤ 4) {g : Nat} (hg : g < n) (hw : M 20 g = (-5 : Int32)) : DoesU X 124 [.ref (B + 19), .int (nI g)] h B st ((updM M 22 (g) (((M 22 g) - (nI 1))))) (none) := by
  have hF : Frm h h B 43 := Frm.rf
  refine wp_aload_n d124_0 rfl ?_
  refine wp_iload_n d124_1 rfl ?_
  refine wp_invvT (e := 57) (j2 := 74) (n := 1) d124_2 (by decide +kernel) (by decide +kernel) rfl rfl rfl (um_19 hM) (by decide +kernel) (Nat.le_of_ble_eq_true rfl) rfl rfl (Nat.le_of_ble_eq_true rfl) (by decide +kernel) (u_isWalking hM hn (by omega) (by omega)) ?_
  refine wp_ifb_eq d124_5 (tgt := 18) (by decide) (fun hq9 => absurd hw hq9) (fun _ => ?_)
  refine wp_aload_n d124_8 rfl ?_
  refine wp_getf (e := 18) (ci := 6) (k := 2) (nest := false) d124_9 (by decide +kernel) (um_19 hM) rfl ?_
  refine wp_iload_n d124_12 rfl ?_
  refine wp_dup2 d124_13 rfl rfl ?_
  refine wp_iald d124_14 (um_22 hM) (nI_in (by omega) (by decide)) (v := M 22 g) ((congrArg (M 22) (nI_nat (by omega))).trans rfl) ?_
  refine wp_iconst d124_15 (v := nI 1) (by decide) ?_
  refine wp_isub d124_16 ?_
  refine wp_iast d124_17 (um_22 hM) (nI_in (by omega) (by decide)) ?_
  refine u_step (o := 22) (i := g) (v := ((M 22 g) - (nI 1))) hM hF (by decide) (by rw [nI_nat (by omega)]; rfl) (fun h hM hF => ?_)
  refine wp_vret d124_18 (by decide +kernel) ?_
  exact ⟨rfl, hM, hF⟩
theorem u_arrive {X : mX} {h : mH} {B st : Nat} {M : Nat → Nat → Int32} (hM : Mus h B st M) {n : Nat} (hn : M 19 9 = nI n) (hn2 : n ≤ 4) {g : Nat} (hg : g < n) (hw : M 20 g = (-5 : Int32)) (x : Int32) : DoesU X 126 [.ref (B + 19), .int (nI g), .int (x)] h B st ((updM (updM (updM (updM (updM M 20 (g) (M 21 g)) 21 (g) ((-5 : Int32))) 22 (g) ((-5 : Int32))) 24 (g) (x)) 26 (g) (((M 26 g) + (nI 1))))) (none) := by
  have hF : Frm h h B 43 := Frm.rf
  refine wp_aload_n d126_0 rfl ?_
  refine wp_iload_n d126_1 rfl ?_
  refine wp_invvT (e := 57) (j2 := 74) (n := 1) d126_2 (by decide +kernel) (by decide +kernel) rfl rfl rfl (um_19 hM) (by decide +kernel) (Nat.le_of_ble_eq_true rfl) rfl rfl (Nat.le_of_ble_eq_true rfl) (by decide +kernel) (u_isWalking hM hn (by omega) (by omega)) ?_
  refine wp_ifb_eq d126_5 (tgt := 53) (by decide) (fun hq9 => absurd hw hq9) (fun _ => ?_)
  refine wp_aload_n d126_8 rfl ?_
  refine wp_getf (e := 9) (ci := 6) (k := 0) (nest := false) d126_9 (by decide +kernel) (um_19 hM) rfl ?_
  refine wp_iload_n d126_12 rfl ?_
  refine wp_aload_n d126_13 rfl ?_
  refine wp_getf (e := 15) (ci := 6) (k := 1) (nest := false) d126_14 (by decide +kernel) (um_19 hM) rfl ?_
  refine wp_iload_n d126_17 rfl ?_
  refine wp_iald d126_18 (um_21 hM) (nI_in (by omega) (by decide)) (v := M 21 g) ((congrArg (M 21) (nI_nat (by omega))).trans rfl) ?_
  refine wp_iast d126_19 (um_20 hM) (nI_in (by omega) (by decide)) ?_
  refine u_step (o := 20) (i := g) (v := M 21 g) hM hF (by decide) (by rw [nI_nat (by omega)]; rfl) (fun h hM hF => ?_)
  refine wp_aload_n d126_20 rfl ?_
  refine wp_getf (e := 15) (ci := 6) (k := 1) (nest := false) d126_21 (by decide +kernel) (um_19 hM) rfl ?_
  refine wp_iload_n d126_24 rfl ?_
  refine wp_bipush d126_25 (v := (-5 : Int32)) (by decide) ?_
  refine wp_iast d126_27 (um_21 hM) (nI_in (by omega) (by decide)) ?_
  refine u_step (o := 21) (i := g) (v := (-5 : Int32)) hM hF (by decide) (by rw [nI_nat (by omega)]; rfl) (fun h hM hF => ?_)
  refine wp_aload_n d126_28 rfl ?_
  refine wp_getf (e := 18) (ci := 6) (k := 2) (nest := false) d126_29 (by decide +kernel) (um_19 hM) rfl ?_
  refine wp_iload_n d126_32 rfl ?_
  refine wp_bipush d126_33 (v := (-5 : Int32)) (by decide) ?_
  refine wp_iast d126_35 (um_22 hM) (nI_in (by omega) (by decide)) ?_
  refine u_step (o := 22) (i := g) (v := (-5 : Int32)) hM hF (by decide) (by rw [nI_nat (by omega)]; rfl) (fun h hM hF => ?_)
  refine wp_aload_n d126_36 rfl ?_
  refine wp_getf (e := 24) (ci := 6) (k := 4) (nest := false) d126_37 (by decide +kernel) (um_19 hM) rfl ?_
  refine wp_iload_n d126_40 rfl ?_
  refine wp_iload_n d126_41 rfl ?_
  refine wp_iast d126_42 (um_24 hM) (nI_in (by omega) (by decide)) ?_
  refine u_step (o := 24) (i := g) (v := x) hM hF (by decide) (by rw [nI_nat (by omega)]; rfl) (fun h hM hF => ?_)
  refine wp_aload_n d126_43 rfl ?_
  refine wp_getf (e := 30) (ci := 6) (k := 6) (nest := false) d126_44 (by decide +kernel) (um_19 hM) rfl ?_
  refine wp_iload_n d126_47 rfl ?_
  refine wp_dup2 d126_48 rfl rfl ?_
  refine wp_iald d126_49 (um_26 hM) (nI_in (by omega) (by decide)) (v := M 26 g) ((congrArg ((updM (updM (updM (updM M 20 (g) (M 21 g)) 21 (g) ((-5 : Int32))) 22 (g) ((-5 : Int32))) 24 (g) (x)) 26) (nI_nat (by omega))).trans ((updM_diff (by omega)).trans ((updM_diff (by omega)).trans ((updM_diff (by omega)).trans ((updM_diff (by omega)).trans rfl))))) ?_
  refine wp_iconst d126_50 (v := nI 1) (by decide) ?_
  refine wp_iadd d126_51 ?_
  refine wp_iast d126_52 (um_26 hM) (nI_in (by omega) (by decide)) ?_
  refine u_step (o := 26) (i := g) (v := ((M 26 g) + (nI 1))) hM hF (by decide) (by rw [nI_nat (by omega)]; rfl) (fun h hM hF => ?_)
  refine wp_vret d126_53 (by decide +kernel) ?_
  exact ⟨rfl, hM, hF⟩
theorem u_shortenStay {X : mX} {h : mH} {B st : Nat} {M : Nat → Nat → Int32} (hM : Mus h B st M) {n : Nat} (hn : M 19 9 = nI n) (hn2 : n ≤ 4) {g : Nat} (hg : g < n) (hw : ¬ M 20 g = (-5 : Int32)) (hs : ¬ M 23 g ≤ 0) : DoesU X 109 [.ref (B + 19), .int (nI g)] h B st ((updM M 23 (g) (((M 23 g) - (nI 1))))) (none) := by
  have hF : Frm h h B 43 := Frm.rf
  refine wp_aload_n d109_0 rfl ?_
  refine wp_iload_n d109_1 rfl ?_
  refine wp_invvT (e := 68) (j2 := 79) (n := 1) d109_2 (by decide +kernel) (by decide +kernel) rfl rfl rfl (um_19 hM) (by decide +kernel) (Nat.le_of_ble_eq_true rfl) rfl rfl (Nat.le_of_ble_eq_true rfl) (by decide +kernel) (tells_to (if_neg hw) (u_stayLeft hM hn (by omega) (by omega))) ?_
  refine wp_if_le d109_5 (tgt := 18) (by decide) (fun hq9 => absurd hq9 hs) (fun _ => ?_)
  refine wp_aload_n d109_8 rfl ?_
  refine wp_getf (e := 21) (ci := 6) (k := 3) (nest := false) d109_9 (by decide +kernel) (um_19 hM) rfl ?_
  refine wp_iload_n d109_12 rfl ?_
  refine wp_dup2 d109_13 rfl rfl ?_
  refine wp_iald d109_14 (um_23 hM) (nI_in (by omega) (by decide)) (v := M 23 g) ((congrArg (M 23) (nI_nat (by omega))).trans rfl) ?_
  refine wp_iconst d109_15 (v := nI 1) (by decide) ?_
  refine wp_isub d109_16 ?_
  refine wp_iast d109_17 (um_23 hM) (nI_in (by omega) (by decide)) ?_
  refine u_step (o := 23) (i := g) (v := ((M 23 g) - (nI 1))) hM hF (by decide) (by rw [nI_nat (by omega)]; rfl) (fun h hM hF => ?_)
  refine wp_vret d109_18 (by decide +kernel) ?_
  exact ⟨rfl, hM, hF⟩
theorem u_endStay {X : mX} {h : mH} {B st : Nat} {M : Nat → Nat → Int32} (hM : Mus h B st M) {n : Nat} (hn : M 19 9 = nI n) (hn2 : n ≤ 4) {g : Nat} (hg : g < n) (hw : ¬ M 20 g = (-5 : Int32)) : DoesU X 81 [.ref (B + 19), .int (nI g)] h B st ((updM M 23 (g) (nI 0))) (none) := by
  have hF : Frm h h B 43 := Frm.rf
  refine wp_aload_n d81_0 rfl ?_
  refine wp_iload_n d81_1 rfl ?_
  refine wp_invvT (e := 53) (j2 := 59) (n := 1) d81_2 (by decide +kernel) (by decide +kernel) rfl rfl rfl (um_19 hM) (by decide +kernel) (Nat.le_of_ble_eq_true rfl) rfl rfl (Nat.le_of_ble_eq_true rfl) (by decide +kernel) (u_has19 hM hn (by omega) (nI g)) ?_
  refine wp_ifb_eq d81_5 (tgt := 23) (by decide) (fun hq9 => absurd (⟨nI_le (by omega) (by omega), nI_lt (by omega) (by omega)⟩ : nI 0 ≤ nI g ∧ nI g < nI n) hq9) (fun _ => ?_)
  refine wp_aload_n d81_8 rfl ?_
  refine wp_iload_n d81_9 rfl ?_
  refine wp_invvT (e := 57) (j2 := 74) (n := 1) d81_10 (by decide +kernel) (by decide +kernel) rfl rfl rfl (um_19 hM) (by decide +kernel) (Nat.le_of_ble_eq_true rfl) rfl rfl (Nat.le_of_ble_eq_true rfl) (by decide +kernel) (u_isWalking hM hn (by omega) (by omega)) ?_
  refine wp_ifb_ne d81_13 (tgt := 23) (by decide) (fun hq9 => absurd hq9 hw) (fun _ => ?_)
  refine wp_aload_n d81_16 rfl ?_
  refine wp_getf (e := 21) (ci := 6) (k := 3) (nest := false) d81_17 (by decide +kernel) (um_19 hM) rfl ?_
  refine wp_iload_n d81_20 rfl ?_
  refine wp_iconst d81_21 (v := nI 0) (by decide) ?_
  refine wp_iast d81_22 (um_23 hM) (nI_in (by omega) (by decide)) ?_
  refine u_step (o := 23) (i := g) (v := nI 0) hM hF (by decide) (by rw [nI_nat (by omega)]; rfl) (fun h hM hF => ?_)
  refine wp_vret d81_23 (by decide +kernel) ?_
  exact ⟨rfl, hM, hF⟩
theorem u_endStay_w {X : mX} {h : mH} {B st : Nat} {M : Nat → Nat → Int32} (hM : Mus h B st M) {n : Nat} (hn : M 19 9 = nI n) (hn2 : n ≤ 4) {g : Nat} (hg : g < n) (hw : M 20 g = (-5 : Int32)) : DoesU X 81 [.ref (B + 19), .int (nI g)] h B st (M) none := by
  have hF : Frm h h B 43 := Frm.rf
  refine wp_aload_n d81_0 rfl ?_
  refine wp_iload_n d81_1 rfl ?_
  refine wp_invvT (e := 53) (j2 := 59) (n := 1) d81_2 (by decide +kernel) (by decide +kernel) rfl rfl rfl (um_19 hM) (by decide +kernel) (Nat.le_of_ble_eq_true rfl) rfl rfl (Nat.le_of_ble_eq_true rfl) (by decide +kernel) (u_has19 hM hn (by omega) (nI g)) ?_
  refine wp_ifb_eq d81_5 (tgt := 23) (by decide) (fun hq9 => absurd (⟨nI_le (by omega) (by omega), nI_lt (by omega) (by omega)⟩ : nI 0 ≤ nI g ∧ nI g < nI n) hq9) (fun _ => ?_)
  refine wp_aload_n d81_8 rfl ?_
  refine wp_iload_n d81_9 rfl ?_
  refine wp_invvT (e := 57) (j2 := 74) (n := 1) d81_10 (by decide +kernel) (by decide +kernel) rfl rfl rfl (um_19 hM) (by decide +kernel) (Nat.le_of_ble_eq_true rfl) rfl rfl (Nat.le_of_ble_eq_true rfl) (by decide +kernel) (u_isWalking hM hn (by omega) (by omega)) ?_
  refine wp_ifb_ne d81_13 (tgt := 23) (by decide) (fun _ => ?_) (fun hq9 => absurd hw hq9)
  refine wp_vret d81_23 (by decide +kernel) ?_
  exact ⟨rfl, hM, hF⟩
theorem u_addOrder {X : mX} {h : mH} {B st : Nat} {M : Nat → Nat → Int32} (hM : Mus h B st M) {n : Nat} (hn : M 19 9 = nI n) (hn2 : n ≤ 4) {g : Nat} (hg : g < n) {m : Nat} (hm : M 27 g = nI m) (hm2 : m < 12) (x : Int32) : DoesU X 77 [.ref (B + 19), .int (nI g), .int (x)] h B st ((updM (updM M 28 (g * 12 + m) (x)) 27 (g) (nI (m + 1)))) (none) := by
  have hF : Frm h h B 43 := Frm.rf
  refine wp_aload_n d77_0 rfl ?_
  refine wp_iload_n d77_1 rfl ?_
  refine wp_invvT (e := 53) (j2 := 59) (n := 1) d77_2 (by decide +kernel) (by decide +kernel) rfl rfl rfl (um_19 hM) (by decide +kernel) (Nat.le_of_ble_eq_true rfl) rfl rfl (Nat.le_of_ble_eq_true rfl) (by decide +kernel) (u_has19 hM hn (by omega) (nI g)) ?_
  refine wp_ifb_eq d77_5 (tgt := 46) (by decide) (fun hq9 => absurd (⟨nI_le (by omega) (by omega), nI_lt (by omega) (by omega)⟩ : nI 0 ≤ nI g ∧ nI g < nI n) hq9) (fun _ => ?_)
  refine wp_aload_n d77_8 rfl ?_
  refine wp_getf (e := 33) (ci := 6) (k := 7) (nest := false) d77_9 (by decide +kernel) (um_19 hM) rfl ?_
  refine wp_iload_n d77_12 rfl ?_
  refine wp_iald d77_13 (um_27 hM) (nI_in (by omega) (by decide)) (v := nI m) ((congrArg (M 27) (nI_nat (by omega))).trans hm) ?_
  refine wp_bipush d77_14 (v := nI 12) (by decide) ?_
  refine wp_icmp_ge d77_16 (tgt := 46) (by decide) (fun hq9 => absurd hq9 (fun z => by have := (nI_leI (by omega) (by omega)).mp z; omega)) (fun _ => ?_)
  refine wp_aload_n d77_19 rfl ?_
  refine wp_getf (e := 36) (ci := 6) (k := 8) (nest := false) d77_20 (by decide +kernel) (um_19 hM) rfl ?_
  refine wp_iload_n d77_23 rfl ?_
  refine wp_bipush d77_24 (v := nI 12) (by decide) ?_
  refine wp_imulv d77_26 (v := nI (g * 12)) (nI_mul _ _) ?_
  refine wp_aload_n d77_27 rfl ?_
  refine wp_getf (e := 33) (ci := 6) (k := 7) (nest := false) d77_28 (by decide +kernel) (um_19 hM) rfl ?_
  refine wp_iload_n d77_31 rfl ?_
  refine wp_iald d77_32 (um_27 hM) (nI_in (by omega) (by decide)) (v := nI m) ((congrArg (M 27) (nI_nat (by omega))).trans hm) ?_
  refine wp_iaddv d77_33 (v := nI (g * 12 + m)) (nI_add _ _) ?_
  refine wp_iload_n d77_34 rfl ?_
  refine wp_iast d77_35 (um_28 hM) (nI_in (by omega) (by decide)) ?_
  refine u_step (o := 28) (i := g * 12 + m) (v := x) hM hF (by decide) (by rw [nI_nat (by omega)]; rfl) (fun h hM hF => ?_)
  refine wp_aload_n d77_36 rfl ?_
  refine wp_getf (e := 33) (ci := 6) (k := 7) (nest := false) d77_37 (by decide +kernel) (um_19 hM) rfl ?_
  refine wp_iload_n d77_40 rfl ?_
  refine wp_dup2 d77_41 rfl rfl ?_
  refine wp_iald d77_42 (um_27 hM) (nI_in (by omega) (by decide)) (v := nI m) ((congrArg ((updM M 28 (g * 12 + m) (x)) 27) (nI_nat (by omega))).trans ((updM_diff (by omega)).trans hm)) ?_
  refine wp_iconst d77_43 (v := nI 1) (by decide) ?_
  refine wp_iaddv d77_44 (v := nI (m + 1)) (nI_add _ _) ?_
  refine wp_iast d77_45 (um_27 hM) (nI_in (by omega) (by decide)) ?_
  refine u_step (o := 27) (i := g) (v := nI (m + 1)) hM hF (by decide) (by rw [nI_nat (by omega)]; rfl) (fun h hM hF => ?_)
  refine wp_vret d77_46 (by decide +kernel) ?_
  exact ⟨rfl, hM, hF⟩
theorem u_raise {X : mX} {h : mH} {B st : Nat} {M : Nat → Nat → Int32} (hM : Mus h B st M) {n : Nat} (hn : M 35 5 = nI n) (hn2 : n < 40) (x y z : Int32) : DoesU X 128 [.ref (B + 35), .int (x), .int (y), .int (z)] h B st ((updM (updM (updM (updM (updM (updM M 36 (n) (x)) 37 (n) (y)) 38 (n) (z)) 39 (n) ((-5 : Int32))) 40 (n) ((-5 : Int32))) 35 (5) (nI (n + 1)))) (none) := by
  have hF : Frm h h B 43 := Frm.rf
  refine wp_aload_n d128_0 rfl ?_
  refine wp_getf (e := 27) (ci := 8) (k := 5) (nest := false) (v := .int (nI n)) d128_1 (by decide +kernel) (um_35 hM) (congrArg (fun z => some (Value.int z)) hn) ?_
  refine wp_bipush d128_4 (v := nI 40) (by decide) ?_
  refine wp_icmp_lt d128_6 (tgt := 20) (by decide) (fun _ => ?_) (fun hq9 => absurd (nI_lt (by omega) (by omega)) hq9)
  refine wp_aload_n d128_20 rfl ?_
  refine wp_getf (e := 9) (ci := 8) (k := 0) (nest := false) d128_21 (by decide +kernel) (um_35 hM) rfl ?_
  refine wp_aload_n d128_24 rfl ?_
  refine wp_getf (e := 27) (ci := 8) (k := 5) (nest := false) (v := .int (nI n)) d128_25 (by decide +kernel) (um_35 hM) (congrArg (fun z => some (Value.int z)) hn) ?_
  refine wp_iload_n d128_28 rfl ?_
  refine wp_iast d128_29 (um_36 hM) (nI_in (by omega) (by decide)) ?_
  refine u_step (o := 36) (i := n) (v := x) hM hF (by decide) (by rw [nI_nat (by omega)]; rfl) (fun h hM hF => ?_)
  refine wp_aload_n d128_30 rfl ?_
  refine wp_getf (e := 15) (ci := 8) (k := 1) (nest := false) d128_31 (by decide +kernel) (um_35 hM) rfl ?_
  refine wp_aload_n d128_34 rfl ?_
  refine wp_getf (e := 27) (ci := 8) (k := 5) (nest := false) (v := .int (nI n)) d128_35 (by decide +kernel) (um_35 hM) (congrArg (fun z => some (Value.int z)) ((updM_diff (by omega)).trans hn)) ?_
  refine wp_iload_n d128_38 rfl ?_
  refine wp_iast d128_39 (um_37 hM) (nI_in (by omega) (by decide)) ?_
  refine u_step (o := 37) (i := n) (v := y) hM hF (by decide) (by rw [nI_nat (by omega)]; rfl) (fun h hM hF => ?_)
  refine wp_aload_n d128_40 rfl ?_
  refine wp_getf (e := 18) (ci := 8) (k := 2) (nest := false) d128_41 (by decide +kernel) (um_35 hM) rfl ?_
  refine wp_aload_n d128_44 rfl ?_
  refine wp_getf (e := 27) (ci := 8) (k := 5) (nest := false) (v := .int (nI n)) d128_45 (by decide +kernel) (um_35 hM) (congrArg (fun z => some (Value.int z)) ((updM_diff (by omega)).trans ((updM_diff (by omega)).trans hn))) ?_
  refine wp_iload_n d128_48 rfl ?_
  refine wp_iast d128_49 (um_38 hM) (nI_in (by omega) (by decide)) ?_
  refine u_step (o := 38) (i := n) (v := z) hM hF (by decide) (by rw [nI_nat (by omega)]; rfl) (fun h hM hF => ?_)
  refine wp_aload_n d128_50 rfl ?_
  refine wp_getf (e := 21) (ci := 8) (k := 3) (nest := false) d128_51 (by decide +kernel) (um_35 hM) rfl ?_
  refine wp_aload_n d128_54 rfl ?_
  refine wp_getf (e := 27) (ci := 8) (k := 5) (nest := false) (v := .int (nI n)) d128_55 (by decide +kernel) (um_35 hM) (congrArg (fun z => some (Value.int z)) ((updM_diff (by omega)).trans ((updM_diff (by omega)).trans ((updM_diff (by omega)).trans hn)))) ?_
  refine wp_bipush d128_58 (v := (-5 : Int32)) (by decide) ?_
  refine wp_iast d128_60 (um_39 hM) (nI_in (by omega) (by decide)) ?_
  refine u_step (o := 39) (i := n) (v := (-5 : Int32)) hM hF (by decide) (by rw [nI_nat (by omega)]; rfl) (fun h hM hF => ?_)
  refine wp_aload_n d128_61 rfl ?_
  refine wp_getf (e := 24) (ci := 8) (k := 4) (nest := false) d128_62 (by decide +kernel) (um_35 hM) rfl ?_
  refine wp_aload_n d128_65 rfl ?_
  refine wp_getf (e := 27) (ci := 8) (k := 5) (nest := false) (v := .int (nI n)) d128_66 (by decide +kernel) (um_35 hM) (congrArg (fun z => some (Value.int z)) ((updM_diff (by omega)).trans ((updM_diff (by omega)).trans ((updM_diff (by omega)).trans ((updM_diff (by omega)).trans hn))))) ?_
  refine wp_bipush d128_69 (v := (-5 : Int32)) (by decide) ?_
  refine wp_iast d128_71 (um_40 hM) (nI_in (by omega) (by decide)) ?_
  refine u_step (o := 40) (i := n) (v := (-5 : Int32)) hM hF (by decide) (by rw [nI_nat (by omega)]; rfl) (fun h hM hF => ?_)
  refine wp_aload_n d128_72 rfl ?_
  refine wp_dup d128_73 rfl ?_
  refine wp_getf (e := 27) (ci := 8) (k := 5) (nest := false) (v := .int (nI n)) d128_74 (by decide +kernel) (um_35 hM) (congrArg (fun z => some (Value.int z)) ((updM_diff (by omega)).trans ((updM_diff (by omega)).trans ((updM_diff (by omega)).trans ((updM_diff (by omega)).trans ((updM_diff (by omega)).trans hn)))))) ?_
  refine wp_iconst d128_77 (v := nI 1) (by decide) ?_
  refine wp_iaddv d128_78 (v := nI (n + 1)) (nI_add _ _) ?_
  refine wp_putf (e := 27) (ci := 8) (k := 5) (nest := false) d128_79 (by decide +kernel) (um_35 hM) (Nat.le_of_ble_eq_true rfl) rfl (Or.inl (by decide +kernel)) ?_
  refine u_step (o := 35) (i := 5) (v := nI (n + 1)) hM hF (by decide) rfl (fun h hM hF => ?_)
  refine wp_vret d128_82 (by decide +kernel) ?_
  exact ⟨rfl, hM, hF⟩
theorem u_raise_f {X : mX} {h : mH} {B st : Nat} {M : Nat → Nat → Int32} (hM : Mus h B st M) (hn : M 35 5 = nI 40) (x y z : Int32) : DoesU X 128 [.ref (B + 35), .int (x), .int (y), .int (z)] h B st ((updM M 35 (6) (((M 35 6) + (nI 1))))) (none) := by
  have hF : Frm h h B 43 := Frm.rf
  refine wp_aload_n d128_0 rfl ?_
  refine wp_getf (e := 27) (ci := 8) (k := 5) (nest := false) (v := .int (nI 40)) d128_1 (by decide +kernel) (um_35 hM) (congrArg (fun z => some (Value.int z)) hn) ?_
  refine wp_bipush d128_4 (v := nI 40) (by decide) ?_
  refine wp_icmp_lt d128_6 (tgt := 20) (by decide) (fun hz => absurd hz (by decide)) (fun _ => ?_)
  refine wp_aload_n d128_9 rfl ?_
  refine wp_dup d128_10 rfl ?_
  refine wp_getf (e := 31) (ci := 8) (k := 6) (nest := false) d128_11 (by decide +kernel) (um_35 hM) rfl ?_
  refine wp_iconst d128_14 (v := nI 1) (by decide) ?_
  refine wp_iadd d128_15 ?_
  refine wp_putf (e := 31) (ci := 8) (k := 6) (nest := false) d128_16 (by decide +kernel) (um_35 hM) (Nat.le_of_ble_eq_true rfl) rfl (Or.inl (by decide +kernel)) ?_
  refine u_step (o := 35) (i := 6) (v := ((M 35 6) + (nI 1))) hM hF (by decide) rfl (fun h hM hF => ?_)
  refine wp_vret d128_19 (by decide +kernel) ?_
  exact ⟨rfl, hM, hF⟩
theorem u_forgetOf {X : mX} {h : mH} {B st : Nat} {M : Nat → Nat → Int32} (hM : Mus h B st M) {g : Nat} (hg : g < 12) : DoesU X 33 [.ref (B + 1), .int (nI g)] h B st ((updM (updM (updM (updM M 4 (g) (nI 0)) 5 (g) (nI 0)) 6 (g) (nI 0)) 7 (g) (nI 0))) (none) := by
  have hF : Frm h h B 43 := Frm.rf
  refine wp_aload_n d33_0 rfl ?_
  refine wp_getf (e := 18) (ci := 2) (k := 2) (nest := false) d33_1 (by decide +kernel) (um_1 hM) rfl ?_
  refine wp_iload_n d33_4 rfl ?_
  refine wp_iconst d33_5 (v := nI 0) (by decide) ?_
  refine wp_iast d33_6 (um_4 hM) (nI_in (by omega) (by decide)) ?_
  refine u_step (o := 4) (i := g) (v := nI 0) hM hF (by decide) (by rw [nI_nat (by omega)]; rfl) (fun h hM hF => ?_)
  refine wp_aload_n d33_7 rfl ?_
  refine wp_getf (e := 21) (ci := 2) (k := 3) (nest := false) d33_8 (by decide +kernel) (um_1 hM) rfl ?_
  refine wp_iload_n d33_11 rfl ?_
  refine wp_iconst d33_12 (v := nI 0) (by decide) ?_
  refine wp_iast d33_13 (um_5 hM) (nI_in (by omega) (by decide)) ?_
  refine u_step (o := 5) (i := g) (v := nI 0) hM hF (by decide) (by rw [nI_nat (by omega)]; rfl) (fun h hM hF => ?_)
  refine wp_aload_n d33_14 rfl ?_
  refine wp_getf (e := 24) (ci := 2) (k := 4) (nest := false) d33_15 (by decide +kernel) (um_1 hM) rfl ?_
  refine wp_iload_n d33_18 rfl ?_
  refine wp_iconst d33_19 (v := nI 0) (by decide) ?_
  refine wp_iast d33_20 (um_6 hM) (nI_in (by omega) (by decide)) ?_
  refine u_step (o := 6) (i := g) (v := nI 0) hM hF (by decide) (by rw [nI_nat (by omega)]; rfl) (fun h hM hF => ?_)
  refine wp_aload_n d33_21 rfl ?_
  refine wp_getf (e := 27) (ci := 2) (k := 5) (nest := false) d33_22 (by decide +kernel) (um_1 hM) rfl ?_
  refine wp_iload_n d33_25 rfl ?_
  refine wp_iconst d33_26 (v := nI 0) (by decide) ?_
  refine wp_iast d33_27 (um_7 hM) (nI_in (by omega) (by decide)) ?_
  refine u_step (o := 7) (i := g) (v := nI 0) hM hF (by decide) (by rw [nI_nat (by omega)]; rfl) (fun h hM hF => ?_)
  refine wp_vret d33_28 (by decide +kernel) ?_
  exact ⟨rfl, hM, hF⟩
theorem u_place {X : mX} {h : mH} {B st : Nat} {M : Nat → Nat → Int32} (hM : Mus h B st M) {g : Nat} (hg : g < 4) (x : Int32) : DoesU X 64 [.ref (B + 19), .int (nI g), .int (x)] h B st ((updM (updM (updM (updM (updM (updM (updM (updM M 20 (g) (nI 0)) 21 (g) ((-5 : Int32))) 22 (g) ((-5 : Int32))) 23 (g) (nI 0)) 24 (g) (x)) 25 (g) (nI 0)) 26 (g) (nI 0)) 27 (g) (nI 0))) (none) := by
  have hF : Frm h h B 43 := Frm.rf
  refine wp_aload_n d64_0 rfl ?_
  refine wp_getf (e := 9) (ci := 6) (k := 0) (nest := false) d64_1 (by decide +kernel) (um_19 hM) rfl ?_
  refine wp_iload_n d64_4 rfl ?_
  refine wp_iconst d64_5 (v := nI 0) (by decide) ?_
  refine wp_iast d64_6 (um_20 hM) (nI_in (by omega) (by decide)) ?_
  refine u_step (o := 20) (i := g) (v := nI 0) hM hF (by decide) (by rw [nI_nat (by omega)]; rfl) (fun h hM hF => ?_)
  refine wp_aload_n d64_7 rfl ?_
  refine wp_getf (e := 15) (ci := 6) (k := 1) (nest := false) d64_8 (by decide +kernel) (um_19 hM) rfl ?_
  refine wp_iload_n d64_11 rfl ?_
  refine wp_bipush d64_12 (v := (-5 : Int32)) (by decide) ?_
  refine wp_iast d64_14 (um_21 hM) (nI_in (by omega) (by decide)) ?_
  refine u_step (o := 21) (i := g) (v := (-5 : Int32)) hM hF (by decide) (by rw [nI_nat (by omega)]; rfl) (fun h hM hF => ?_)
  refine wp_aload_n d64_15 rfl ?_
  refine wp_getf (e := 18) (ci := 6) (k := 2) (nest := false) d64_16 (by decide +kernel) (um_19 hM) rfl ?_
  refine wp_iload_n d64_19 rfl ?_
  refine wp_bipush d64_20 (v := (-5 : Int32)) (by decide) ?_
  refine wp_iast d64_22 (um_22 hM) (nI_in (by omega) (by decide)) ?_
  refine u_step (o := 22) (i := g) (v := (-5 : Int32)) hM hF (by decide) (by rw [nI_nat (by omega)]; rfl) (fun h hM hF => ?_)
  refine wp_aload_n d64_23 rfl ?_
  refine wp_getf (e := 21) (ci := 6) (k := 3) (nest := false) d64_24 (by decide +kernel) (um_19 hM) rfl ?_
  refine wp_iload_n d64_27 rfl ?_
  refine wp_iconst d64_28 (v := nI 0) (by decide) ?_
  refine wp_iast d64_29 (um_23 hM) (nI_in (by omega) (by decide)) ?_
  refine u_step (o := 23) (i := g) (v := nI 0) hM hF (by decide) (by rw [nI_nat (by omega)]; rfl) (fun h hM hF => ?_)
  refine wp_aload_n d64_30 rfl ?_
  refine wp_getf (e := 24) (ci := 6) (k := 4) (nest := false) d64_31 (by decide +kernel) (um_19 hM) rfl ?_
  refine wp_iload_n d64_34 rfl ?_
  refine wp_iload_n d64_35 rfl ?_
  refine wp_iast d64_36 (um_24 hM) (nI_in (by omega) (by decide)) ?_
  refine u_step (o := 24) (i := g) (v := x) hM hF (by decide) (by rw [nI_nat (by omega)]; rfl) (fun h hM hF => ?_)
  refine wp_aload_n d64_37 rfl ?_
  refine wp_getf (e := 27) (ci := 6) (k := 5) (nest := false) d64_38 (by decide +kernel) (um_19 hM) rfl ?_
  refine wp_iload_n d64_41 rfl ?_
  refine wp_iconst d64_42 (v := nI 0) (by decide) ?_
  refine wp_iast d64_43 (um_25 hM) (nI_in (by omega) (by decide)) ?_
  refine u_step (o := 25) (i := g) (v := nI 0) hM hF (by decide) (by rw [nI_nat (by omega)]; rfl) (fun h hM hF => ?_)
  refine wp_aload_n d64_44 rfl ?_
  refine wp_getf (e := 30) (ci := 6) (k := 6) (nest := false) d64_45 (by decide +kernel) (um_19 hM) rfl ?_
  refine wp_iload_n d64_48 rfl ?_
  refine wp_iconst d64_49 (v := nI 0) (by decide) ?_
  refine wp_iast d64_50 (um_26 hM) (nI_in (by omega) (by decide)) ?_
  refine u_step (o := 26) (i := g) (v := nI 0) hM hF (by decide) (by rw [nI_nat (by omega)]; rfl) (fun h hM hF => ?_)
  refine wp_aload_n d64_51 rfl ?_
  refine wp_getf (e := 33) (ci := 6) (k := 7) (nest := false) d64_52 (by decide +kernel) (um_19 hM) rfl ?_
  refine wp_iload_n d64_55 rfl ?_
  refine wp_iconst d64_56 (v := nI 0) (by decide) ?_
  refine wp_iast d64_57 (um_27 hM) (nI_in (by omega) (by decide)) ?_
  refine u_step (o := 27) (i := g) (v := nI 0) hM hF (by decide) (by rw [nI_nat (by omega)]; rfl) (fun h hM hF => ?_)
  refine wp_vret d64_58 (by decide +kernel) ?_
  exact ⟨rfl, hM, hF⟩
theorem u_noteWatched {X : mX} {h : mH} {B st : Nat} {M : Nat → Nat → Int32} (hM : Mus h B st M) {k : Nat} (hk : k < 720) (v : Int32) : DoesU X 122 [.ref (B + 41), .int (nI k), .int (v)] h B st ((updM M 42 (k) (v))) (none) := by
  have hF : Frm h h B 43 := Frm.rf
  refine wp_iload_n d122_0 rfl ?_
  refine wp_if_lt d122_1 (tgt := 18) (by decide) (fun hq9 => absurd hq9 (Int32.not_lt.mpr (nI_pos' (by omega)))) (fun _ => ?_)
  refine wp_iload_n d122_4 rfl ?_
  refine wp_sipush d122_5 (v := nI 720) (by decide) ?_
  refine wp_icmp_ge d122_8 (tgt := 18) (by decide) (fun hq9 => absurd hq9 (fun z => by have := (nI_leI (by omega) (by omega)).mp z; omega)) (fun _ => ?_)
  refine wp_aload_n d122_11 rfl ?_
  refine wp_getf (e := 11) (ci := 9) (k := 0) (nest := false) d122_12 (by decide +kernel) (um_41 hM) rfl ?_
  refine wp_iload_n d122_15 rfl ?_
  refine wp_iload_n d122_16 rfl ?_
  refine wp_iast d122_17 (um_42 hM) (nI_in (by omega) (by decide)) ?_
  refine u_step (o := 42) (i := k) (v := v) hM hF (by decide) (by rw [nI_nat (by omega)]; rfl) (fun h hM hF => ?_)
  refine wp_vret d122_18 (by decide +kernel) ?_
  exact ⟨rfl, hM, hF⟩
theorem u_addRoom {X : mX} {h : mH} {B st : Nat} {M : Nat → Nat → Int32} (hM : Mus h B st M) {n : Nat} (hn : M 1 6 = nI n) (hn2 : n < 12) (x y : Int32) : DoesU X 32 [.ref (B + 1), .int (x), .int (y)] h B st ((updM (updM (updM (updM (updM (updM (updM M 2 (n) (x)) 3 (n) (y)) 4 (n) (nI 0)) 5 (n) (nI 0)) 6 (n) (nI 0)) 7 (n) (nI 0)) 1 (6) (nI (n + 1)))) (some (.int (nI n))) := by
  have hF : Frm h h B 43 := Frm.rf
  refine wp_aload_n d32_0 rfl ?_
  refine wp_getf (e := 30) (ci := 2) (k := 6) (nest := false) (v := .int (nI n)) d32_1 (by decide +kernel) (um_1 hM) (congrArg (fun z => some (Value.int z)) hn) ?_
  refine wp_bipush d32_4 (v := nI 12) (by decide) ?_
  refine wp_icmp_lt d32_6 (tgt := 12) (by decide) (fun _ => ?_) (fun hq9 => absurd (nI_lt (by omega) (by omega)) hq9)
  refine wp_aload_n d32_12 rfl ?_
  refine wp_getf (e := 9) (ci := 2) (k := 0) (nest := false) d32_13 (by decide +kernel) (um_1 hM) rfl ?_
  refine wp_aload_n d32_16 rfl ?_
  refine wp_getf (e := 30) (ci := 2) (k := 6) (nest := false) (v := .int (nI n)) d32_17 (by decide +kernel) (um_1 hM) (congrArg (fun z => some (Value.int z)) hn) ?_
  refine wp_iload_n d32_20 rfl ?_
  refine wp_iast d32_21 (um_2 hM) (nI_in (by omega) (by decide)) ?_
  refine u_step (o := 2) (i := n) (v := x) hM hF (by decide) (by rw [nI_nat (by omega)]; rfl) (fun h hM hF => ?_)
  refine wp_aload_n d32_22 rfl ?_
  refine wp_getf (e := 15) (ci := 2) (k := 1) (nest := false) d32_23 (by decide +kernel) (um_1 hM) rfl ?_
  refine wp_aload_n d32_26 rfl ?_
  refine wp_getf (e := 30) (ci := 2) (k := 6) (nest := false) (v := .int (nI n)) d32_27 (by decide +kernel) (um_1 hM) (congrArg (fun z => some (Value.int z)) ((updM_diff (by omega)).trans hn)) ?_
  refine wp_iload_n d32_30 rfl ?_
  refine wp_iast d32_31 (um_3 hM) (nI_in (by omega) (by decide)) ?_
  refine u_step (o := 3) (i := n) (v := y) hM hF (by decide) (by rw [nI_nat (by omega)]; rfl) (fun h hM hF => ?_)
  refine wp_aload_n d32_32 rfl ?_
  refine wp_aload_n d32_33 rfl ?_
  refine wp_getf (e := 30) (ci := 2) (k := 6) (nest := false) (v := .int (nI n)) d32_34 (by decide +kernel) (um_1 hM) (congrArg (fun z => some (Value.int z)) ((updM_diff (by omega)).trans ((updM_diff (by omega)).trans hn))) ?_
  refine wp_invvU (e := 40) (j2 := 33) (n := 1) d32_37 (by decide +kernel) (by decide +kernel) rfl rfl rfl (um_1 hM) (by decide +kernel) (Nat.le_of_ble_eq_true rfl) rfl rfl (Nat.le_of_ble_eq_true rfl) (by decide +kernel) (u_forgetOf hM (g := n) (by omega)) hF ?_
  intro h hM hF
  refine wp_aload_n d32_40 rfl ?_
  refine wp_dup d32_41 rfl ?_
  refine wp_getf (e := 30) (ci := 2) (k := 6) (nest := false) (v := .int (nI n)) d32_42 (by decide +kernel) (um_1 hM) (congrArg (fun z => some (Value.int z)) ((updM_diff (by omega)).trans ((updM_diff (by omega)).trans ((updM_diff (by omega)).trans ((updM_diff (by omega)).trans ((updM_diff (by omega)).trans ((updM_diff (by omega)).trans hn))))))) ?_
  refine wp_iconst d32_45 (v := nI 1) (by decide) ?_
  refine wp_iaddv d32_46 (v := nI (n + 1)) (nI_add _ _) ?_
  refine wp_putf (e := 30) (ci := 2) (k := 6) (nest := false) d32_47 (by decide +kernel) (um_1 hM) (Nat.le_of_ble_eq_true rfl) rfl (Or.inl (by decide +kernel)) ?_
  refine u_step (o := 1) (i := 6) (v := nI (n + 1)) hM hF (by decide) rfl (fun h hM hF => ?_)
  refine wp_aload_n d32_50 rfl ?_
  refine wp_getf (e := 30) (ci := 2) (k := 6) (nest := false) (v := .int (nI (n + 1))) d32_51 (by decide +kernel) (um_1 hM) (congrArg (fun z => some (Value.int z)) updM_same) ?_
  refine wp_iconst d32_54 (v := nI 1) (by decide) ?_
  refine wp_isubv d32_55 (v := nI n) (nI_sub (b := 1) (by omega) (by omega)) ?_
  refine wp_iret d32_56 (by decide +kernel) ?_
  exact ⟨rfl, hM, hF⟩
theorem u_addDoor {X : mX} {h : mH} {B st : Nat} {M : Nat → Nat → Int32} (hM : Mus h B st M) {n : Nat} (hn : M 8 6 = nI n) (hn2 : n < 20) (x y z w : Int32) : DoesU X 40 [.ref (B + 8), .int (x), .int (y), .int (z), .int (w)] h B st ((updM (updM (updM (updM (updM (updM M 9 (n) (x)) 10 (n) (y)) 11 (n) (z)) 12 (n) (w)) 13 (n) (nI 0)) 8 (6) (nI (n + 1)))) (some (.int (nI n))) := by
  have hF : Frm h h B 43 := Frm.rf
  refine wp_aload_n d40_0 rfl ?_
  refine wp_getf (e := 30) (ci := 3) (k := 6) (nest := false) (v := .int (nI n)) d40_1 (by decide +kernel) (um_8 hM) (congrArg (fun z => some (Value.int z)) hn) ?_
  refine wp_bipush d40_4 (v := nI 20) (by decide) ?_
  refine wp_icmp_lt d40_6 (tgt := 12) (by decide) (fun _ => ?_) (fun hq9 => absurd (nI_lt (by omega) (by omega)) hq9)
  refine wp_aload_n d40_12 rfl ?_
  refine wp_getf (e := 9) (ci := 3) (k := 0) (nest := false) d40_13 (by decide +kernel) (um_8 hM) rfl ?_
  refine wp_aload_n d40_16 rfl ?_
  refine wp_getf (e := 30) (ci := 3) (k := 6) (nest := false) (v := .int (nI n)) d40_17 (by decide +kernel) (um_8 hM) (congrArg (fun z => some (Value.int z)) hn) ?_
  refine wp_iload_n d40_20 rfl ?_
  refine wp_iast d40_21 (um_9 hM) (nI_in (by omega) (by decide)) ?_
  refine u_step (o := 9) (i := n) (v := x) hM hF (by decide) (by rw [nI_nat (by omega)]; rfl) (fun h hM hF => ?_)
  refine wp_aload_n d40_22 rfl ?_
  refine wp_getf (e := 15) (ci := 3) (k := 1) (nest := false) d40_23 (by decide +kernel) (um_8 hM) rfl ?_
  refine wp_aload_n d40_26 rfl ?_
  refine wp_getf (e := 30) (ci := 3) (k := 6) (nest := false) (v := .int (nI n)) d40_27 (by decide +kernel) (um_8 hM) (congrArg (fun z => some (Value.int z)) ((updM_diff (by omega)).trans hn)) ?_
  refine wp_iload_n d40_30 rfl ?_
  refine wp_iast d40_31 (um_10 hM) (nI_in (by omega) (by decide)) ?_
  refine u_step (o := 10) (i := n) (v := y) hM hF (by decide) (by rw [nI_nat (by omega)]; rfl) (fun h hM hF => ?_)
  refine wp_aload_n d40_32 rfl ?_
  refine wp_getf (e := 18) (ci := 3) (k := 2) (nest := false) d40_33 (by decide +kernel) (um_8 hM) rfl ?_
  refine wp_aload_n d40_36 rfl ?_
  refine wp_getf (e := 30) (ci := 3) (k := 6) (nest := false) (v := .int (nI n)) d40_37 (by decide +kernel) (um_8 hM) (congrArg (fun z => some (Value.int z)) ((updM_diff (by omega)).trans ((updM_diff (by omega)).trans hn))) ?_
  refine wp_iload_n d40_40 rfl ?_
  refine wp_iast d40_41 (um_11 hM) (nI_in (by omega) (by decide)) ?_
  refine u_step (o := 11) (i := n) (v := z) hM hF (by decide) (by rw [nI_nat (by omega)]; rfl) (fun h hM hF => ?_)
  refine wp_aload_n d40_42 rfl ?_
  refine wp_getf (e := 21) (ci := 3) (k := 3) (nest := false) d40_43 (by decide +kernel) (um_8 hM) rfl ?_
  refine wp_aload_n d40_46 rfl ?_
  refine wp_getf (e := 30) (ci := 3) (k := 6) (nest := false) (v := .int (nI n)) d40_47 (by decide +kernel) (um_8 hM) (congrArg (fun z => some (Value.int z)) ((updM_diff (by omega)).trans ((updM_diff (by omega)).trans ((updM_diff (by omega)).trans hn)))) ?_
  refine wp_iload d40_50 rfl ?_
  refine wp_iast d40_52 (um_12 hM) (nI_in (by omega) (by decide)) ?_
  refine u_step (o := 12) (i := n) (v := w) hM hF (by decide) (by rw [nI_nat (by omega)]; rfl) (fun h hM hF => ?_)
  refine wp_aload_n d40_53 rfl ?_
  refine wp_getf (e := 24) (ci := 3) (k := 4) (nest := false) d40_54 (by decide +kernel) (um_8 hM) rfl ?_
  refine wp_aload_n d40_57 rfl ?_
  refine wp_getf (e := 30) (ci := 3) (k := 6) (nest := false) (v := .int (nI n)) d40_58 (by decide +kernel) (um_8 hM) (congrArg (fun z => some (Value.int z)) ((updM_diff (by omega)).trans ((updM_diff (by omega)).trans ((updM_diff (by omega)).trans ((updM_diff (by omega)).trans hn))))) ?_
  refine wp_iconst d40_61 (v := nI 0) (by decide) ?_
  refine wp_iast d40_62 (um_13 hM) (nI_in (by omega) (by decide)) ?_
  refine u_step (o := 13) (i := n) (v := nI 0) hM hF (by decide) (by rw [nI_nat (by omega)]; rfl) (fun h hM hF => ?_)
  refine wp_aload_n d40_63 rfl ?_
  refine wp_dup d40_64 rfl ?_
  refine wp_getf (e := 30) (ci := 3) (k := 6) (nest := false) (v := .int (nI n)) d40_65 (by decide +kernel) (um_8 hM) (congrArg (fun z => some (Value.int z)) ((updM_diff (by omega)).trans ((updM_diff (by omega)).trans ((updM_diff (by omega)).trans ((updM_diff (by omega)).trans ((updM_diff (by omega)).trans hn)))))) ?_
  refine wp_iconst d40_68 (v := nI 1) (by decide) ?_
  refine wp_iaddv d40_69 (v := nI (n + 1)) (nI_add _ _) ?_
  refine wp_putf (e := 30) (ci := 3) (k := 6) (nest := false) d40_70 (by decide +kernel) (um_8 hM) (Nat.le_of_ble_eq_true rfl) rfl (Or.inl (by decide +kernel)) ?_
  refine u_step (o := 8) (i := 6) (v := nI (n + 1)) hM hF (by decide) rfl (fun h hM hF => ?_)
  refine wp_aload_n d40_73 rfl ?_
  refine wp_getf (e := 30) (ci := 3) (k := 6) (nest := false) (v := .int (nI (n + 1))) d40_74 (by decide +kernel) (um_8 hM) (congrArg (fun z => some (Value.int z)) updM_same) ?_
  refine wp_iconst d40_77 (v := nI 1) (by decide) ?_
  refine wp_isubv d40_78 (v := nI n) (nI_sub (b := 1) (by omega) (by omega)) ?_
  refine wp_iret d40_79 (by decide +kernel) ?_
  exact ⟨rfl, hM, hF⟩
theorem u_addGuard {X : mX} {h : mH} {B st : Nat} {M : Nat → Nat → Int32} (hM : Mus h B st M) {n : Nat} (hn : M 19 9 = nI n) (hn2 : n < 4) (x : Int32) : DoesU X 63 [.ref (B + 19), .int (x)] h B st ((updM (updM (updM (updM (updM (updM (updM (updM (updM M 20 (n) (nI 0)) 21 (n) ((-5 : Int32))) 22 (n) ((-5 : Int32))) 23 (n) (nI 0)) 24 (n) (x)) 25 (n) (nI 0)) 26 (n) (nI 0)) 27 (n) (nI 0)) 19 (9) (nI (n + 1)))) (some (.int (nI n))) := by
  have hF : Frm h h B 43 := Frm.rf
  refine wp_aload_n d63_0 rfl ?_
  refine wp_getf (e := 39) (ci := 6) (k := 9) (nest := false) (v := .int (nI n)) d63_1 (by decide +kernel) (um_19 hM) (congrArg (fun z => some (Value.int z)) hn) ?_
  refine wp_iconst d63_4 (v := nI 4) (by decide) ?_
  refine wp_icmp_lt d63_5 (tgt := 11) (by decide) (fun _ => ?_) (fun hq9 => absurd (nI_lt (by omega) (by omega)) hq9)
  refine wp_aload_n d63_11 rfl ?_
  refine wp_aload_n d63_12 rfl ?_
  refine wp_getf (e := 39) (ci := 6) (k := 9) (nest := false) (v := .int (nI n)) d63_13 (by decide +kernel) (um_19 hM) (congrArg (fun z => some (Value.int z)) hn) ?_
  refine wp_iload_n d63_16 rfl ?_
  refine wp_invvU (e := 49) (j2 := 64) (n := 2) d63_17 (by decide +kernel) (by decide +kernel) rfl rfl rfl (um_19 hM) (by decide +kernel) (Nat.le_of_ble_eq_true rfl) rfl rfl (Nat.le_of_ble_eq_true rfl) (by decide +kernel) (u_place hM (g := n) (by omega) x) hF ?_
  intro h hM hF
  refine wp_aload_n d63_20 rfl ?_
  refine wp_dup d63_21 rfl ?_
  refine wp_getf (e := 39) (ci := 6) (k := 9) (nest := false) (v := .int (nI n)) d63_22 (by decide +kernel) (um_19 hM) (congrArg (fun z => some (Value.int z)) ((updM_diff (by omega)).trans ((updM_diff (by omega)).trans ((updM_diff (by omega)).trans ((updM_diff (by omega)).trans ((updM_diff (by omega)).trans ((updM_diff (by omega)).trans ((updM_diff (by omega)).trans ((updM_diff (by omega)).trans hn))))))))) ?_
  refine wp_iconst d63_25 (v := nI 1) (by decide) ?_
  refine wp_iaddv d63_26 (v := nI (n + 1)) (nI_add _ _) ?_
  refine wp_putf (e := 39) (ci := 6) (k := 9) (nest := false) d63_27 (by decide +kernel) (um_19 hM) (Nat.le_of_ble_eq_true rfl) rfl (Or.inl (by decide +kernel)) ?_
  refine u_step (o := 19) (i := 9) (v := nI (n + 1)) hM hF (by decide) rfl (fun h hM hF => ?_)
  refine wp_aload_n d63_30 rfl ?_
  refine wp_getf (e := 39) (ci := 6) (k := 9) (nest := false) (v := .int (nI (n + 1))) d63_31 (by decide +kernel) (um_19 hM) (congrArg (fun z => some (Value.int z)) updM_same) ?_
  refine wp_iconst d63_34 (v := nI 1) (by decide) ?_
  refine wp_isubv d63_35 (v := nI n) (nI_sub (b := 1) (by omega) (by omega)) ?_
  refine wp_iret d63_36 (by decide +kernel) ?_
  exact ⟨rfl, hM, hF⟩
theorem u_addWork {X : mX} {h : mH} {B st : Nat} {M : Nat → Nat → Int32} (hM : Mus h B st M) {n : Nat} (hn : M 29 5 = nI n) (hn2 : n < 10) (x y z : Int32) : DoesU X 85 [.ref (B + 29), .int (x), .int (y), .int (z)] h B st ((updM (updM (updM (updM (updM (updM M 30 (n) (x)) 31 (n) (y)) 32 (n) (z)) 33 (n) (nI 0)) 34 (n) (nI 0)) 29 (5) (nI (n + 1)))) (some (.int (nI n))) := by
  have hF : Frm h h B 43 := Frm.rf
  refine wp_aload_n d85_0 rfl ?_
  refine wp_getf (e := 27) (ci := 7) (k := 5) (nest := false) (v := .int (nI n)) d85_1 (by decide +kernel) (um_29 hM) (congrArg (fun z => some (Value.int z)) hn) ?_
  refine wp_bipush d85_4 (v := nI 10) (by decide) ?_
  refine wp_icmp_lt d85_6 (tgt := 12) (by decide) (fun _ => ?_) (fun hq9 => absurd (nI_lt (by omega) (by omega)) hq9)
  refine wp_aload_n d85_12 rfl ?_
  refine wp_getf (e := 9) (ci := 7) (k := 0) (nest := false) d85_13 (by decide +kernel) (um_29 hM) rfl ?_
  refine wp_aload_n d85_16 rfl ?_
  refine wp_getf (e := 27) (ci := 7) (k := 5) (nest := false) (v := .int (nI n)) d85_17 (by decide +kernel) (um_29 hM) (congrArg (fun z => some (Value.int z)) hn) ?_
  refine wp_iload_n d85_20 rfl ?_
  refine wp_iast d85_21 (um_30 hM) (nI_in (by omega) (by decide)) ?_
  refine u_step (o := 30) (i := n) (v := x) hM hF (by decide) (by rw [nI_nat (by omega)]; rfl) (fun h hM hF => ?_)
  refine wp_aload_n d85_22 rfl ?_
  refine wp_getf (e := 15) (ci := 7) (k := 1) (nest := false) d85_23 (by decide +kernel) (um_29 hM) rfl ?_
  refine wp_aload_n d85_26 rfl ?_
  refine wp_getf (e := 27) (ci := 7) (k := 5) (nest := false) (v := .int (nI n)) d85_27 (by decide +kernel) (um_29 hM) (congrArg (fun z => some (Value.int z)) ((updM_diff (by omega)).trans hn)) ?_
  refine wp_iload_n d85_30 rfl ?_
  refine wp_iast d85_31 (um_31 hM) (nI_in (by omega) (by decide)) ?_
  refine u_step (o := 31) (i := n) (v := y) hM hF (by decide) (by rw [nI_nat (by omega)]; rfl) (fun h hM hF => ?_)
  refine wp_aload_n d85_32 rfl ?_
  refine wp_getf (e := 18) (ci := 7) (k := 2) (nest := false) d85_33 (by decide +kernel) (um_29 hM) rfl ?_
  refine wp_aload_n d85_36 rfl ?_
  refine wp_getf (e := 27) (ci := 7) (k := 5) (nest := false) (v := .int (nI n)) d85_37 (by decide +kernel) (um_29 hM) (congrArg (fun z => some (Value.int z)) ((updM_diff (by omega)).trans ((updM_diff (by omega)).trans hn))) ?_
  refine wp_iload_n d85_40 rfl ?_
  refine wp_iast d85_41 (um_32 hM) (nI_in (by omega) (by decide)) ?_
  refine u_step (o := 32) (i := n) (v := z) hM hF (by decide) (by rw [nI_nat (by omega)]; rfl) (fun h hM hF => ?_)
  refine wp_aload_n d85_42 rfl ?_
  refine wp_getf (e := 21) (ci := 7) (k := 3) (nest := false) d85_43 (by decide +kernel) (um_29 hM) rfl ?_
  refine wp_aload_n d85_46 rfl ?_
  refine wp_getf (e := 27) (ci := 7) (k := 5) (nest := false) (v := .int (nI n)) d85_47 (by decide +kernel) (um_29 hM) (congrArg (fun z => some (Value.int z)) ((updM_diff (by omega)).trans ((updM_diff (by omega)).trans ((updM_diff (by omega)).trans hn)))) ?_
  refine wp_iconst d85_50 (v := nI 0) (by decide) ?_
  refine wp_iast d85_51 (um_33 hM) (nI_in (by omega) (by decide)) ?_
  refine u_step (o := 33) (i := n) (v := nI 0) hM hF (by decide) (by rw [nI_nat (by omega)]; rfl) (fun h hM hF => ?_)
  refine wp_aload_n d85_52 rfl ?_
  refine wp_getf (e := 24) (ci := 7) (k := 4) (nest := false) d85_53 (by decide +kernel) (um_29 hM) rfl ?_
  refine wp_aload_n d85_56 rfl ?_
  refine wp_getf (e := 27) (ci := 7) (k := 5) (nest := false) (v := .int (nI n)) d85_57 (by decide +kernel) (um_29 hM) (congrArg (fun z => some (Value.int z)) ((updM_diff (by omega)).trans ((updM_diff (by omega)).trans ((updM_diff (by omega)).trans ((updM_diff (by omega)).trans hn))))) ?_
  refine wp_iconst d85_60 (v := nI 0) (by decide) ?_
  refine wp_iast d85_61 (um_34 hM) (nI_in (by omega) (by decide)) ?_
  refine u_step (o := 34) (i := n) (v := nI 0) hM hF (by decide) (by rw [nI_nat (by omega)]; rfl) (fun h hM hF => ?_)
  refine wp_aload_n d85_62 rfl ?_
  refine wp_dup d85_63 rfl ?_
  refine wp_getf (e := 27) (ci := 7) (k := 5) (nest := false) (v := .int (nI n)) d85_64 (by decide +kernel) (um_29 hM) (congrArg (fun z => some (Value.int z)) ((updM_diff (by omega)).trans ((updM_diff (by omega)).trans ((updM_diff (by omega)).trans ((updM_diff (by omega)).trans ((updM_diff (by omega)).trans hn)))))) ?_
  refine wp_iconst d85_67 (v := nI 1) (by decide) ?_
  refine wp_iaddv d85_68 (v := nI (n + 1)) (nI_add _ _) ?_
  refine wp_putf (e := 27) (ci := 7) (k := 5) (nest := false) d85_69 (by decide +kernel) (um_29 hM) (Nat.le_of_ble_eq_true rfl) rfl (Or.inl (by decide +kernel)) ?_
  refine u_step (o := 29) (i := 5) (v := nI (n + 1)) hM hF (by decide) rfl (fun h hM hF => ?_)
  refine wp_aload_n d85_72 rfl ?_
  refine wp_getf (e := 27) (ci := 7) (k := 5) (nest := false) (v := .int (nI (n + 1))) d85_73 (by decide +kernel) (um_29 hM) (congrArg (fun z => some (Value.int z)) updM_same) ?_
  refine wp_iconst d85_76 (v := nI 1) (by decide) ?_
  refine wp_isubv d85_77 (v := nI n) (nI_sub (b := 1) (by omega) (by omega)) ?_
  refine wp_iret d85_78 (by decide +kernel) ?_
  exact ⟨rfl, hM, hF⟩
