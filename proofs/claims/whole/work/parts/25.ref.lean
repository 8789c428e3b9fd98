/-! The reference's acts: zones, guards, keys. -/
theorem d220_0 : decode (m_code 220) 0 = .ok (.iload_n 1, 1) := by decide +kernel
theorem d220_1 : decode (m_code 220) 1 = .ok (.invokestatic 43, 3) := by decide +kernel
theorem d220_4 : decode (m_code 220) 4 = .ok (.ifCond .eq 10, 3) := by decide +kernel
theorem d220_7 : decode (m_code 220) 7 = .ok (.iload_n 2, 1) := by decide +kernel
theorem d220_8 : decode (m_code 220) 8 = .ok (.invokestatic 43, 3) := by decide +kernel
theorem d220_11 : decode (m_code 220) 11 = .ok (.ifCond .ne 5, 3) := by decide +kernel
theorem d220_14 : decode (m_code 220) 14 = .ok (.iconst (-1), 1) := by decide +kernel
theorem d220_15 : decode (m_code 220) 15 = .ok (.ireturn, 1) := by decide +kernel
theorem d220_16 : decode (m_code 220) 16 = .ok (.iload_n 1, 1) := by decide +kernel
theorem d220_17 : decode (m_code 220) 17 = .ok (.iload_n 2, 1) := by decide +kernel
theorem d220_18 : decode (m_code 220) 18 = .ok (.if_icmp .ne 6, 3) := by decide +kernel
theorem d220_21 : decode (m_code 220) 21 = .ok (.bipush (-2), 2) := by decide +kernel
theorem d220_23 : decode (m_code 220) 23 = .ok (.ireturn, 1) := by decide +kernel
theorem d220_24 : decode (m_code 220) 24 = .ok (.iload_n 3, 1) := by decide +kernel
theorem d220_25 : decode (m_code 220) 25 = .ok (.ifCond .eq 32, 3) := by decide +kernel
theorem d220_28 : decode (m_code 220) 28 = .ok (.aload_n 0, 1) := by decide +kernel
theorem d220_29 : decode (m_code 220) 29 = .ok (.getfield 7, 3) := by decide +kernel
theorem d220_32 : decode (m_code 220) 32 = .ok (.bipush 8, 2) := by decide +kernel
theorem d220_34 : decode (m_code 220) 34 = .ok (.iload_n 1, 1) := by decide +kernel
theorem d220_35 : decode (m_code 220) 35 = .ok (.iadd, 1) := by decide +kernel
theorem d220_36 : decode (m_code 220) 36 = .ok (.iaload, 1) := by decide +kernel
theorem d220_37 : decode (m_code 220) 37 = .ok (.iconst 1, 1) := by decide +kernel
theorem d220_38 : decode (m_code 220) 38 = .ok (.if_icmp .ne 19, 3) := by decide +kernel
theorem d220_41 : decode (m_code 220) 41 = .ok (.aload_n 0, 1) := by decide +kernel
theorem d220_42 : decode (m_code 220) 42 = .ok (.getfield 7, 3) := by decide +kernel
theorem d220_45 : decode (m_code 220) 45 = .ok (.bipush 8, 2) := by decide +kernel
theorem d220_47 : decode (m_code 220) 47 = .ok (.iload_n 2, 1) := by decide +kernel
theorem d220_48 : decode (m_code 220) 48 = .ok (.iadd, 1) := by decide +kernel
theorem d220_49 : decode (m_code 220) 49 = .ok (.iaload, 1) := by decide +kernel
theorem d220_50 : decode (m_code 220) 50 = .ok (.iconst 1, 1) := by decide +kernel
theorem d220_51 : decode (m_code 220) 51 = .ok (.if_icmp .ne 6, 3) := by decide +kernel
theorem d220_54 : decode (m_code 220) 54 = .ok (.bipush (-4), 2) := by decide +kernel
theorem d220_56 : decode (m_code 220) 56 = .ok (.ireturn, 1) := by decide +kernel
theorem d220_57 : decode (m_code 220) 57 = .ok (.aload_n 0, 1) := by decide +kernel
theorem d220_58 : decode (m_code 220) 58 = .ok (.iload_n 1, 1) := by decide +kernel
theorem d220_59 : decode (m_code 220) 59 = .ok (.iload_n 2, 1) := by decide +kernel
theorem d220_60 : decode (m_code 220) 60 = .ok (.invokevirtual 66, 3) := by decide +kernel
theorem d220_63 : decode (m_code 220) 63 = .ok (.iload_n 3, 1) := by decide +kernel
theorem d220_64 : decode (m_code 220) 64 = .ok (.if_icmp .ne 6, 3) := by decide +kernel
theorem d220_67 : decode (m_code 220) 67 = .ok (.bipush (-5), 2) := by decide +kernel
theorem d220_69 : decode (m_code 220) 69 = .ok (.ireturn, 1) := by decide +kernel
theorem d220_70 : decode (m_code 220) 70 = .ok (.aload_n 0, 1) := by decide +kernel
theorem d220_71 : decode (m_code 220) 71 = .ok (.invokevirtual 50, 3) := by decide +kernel
theorem d220_74 : decode (m_code 220) 74 = .ok (.aload_n 0, 1) := by decide +kernel
theorem d220_75 : decode (m_code 220) 75 = .ok (.getfield 7, 3) := by decide +kernel
theorem d220_78 : decode (m_code 220) 78 = .ok (.bipush 14, 2) := by decide +kernel
theorem d220_80 : decode (m_code 220) 80 = .ok (.iload_n 1, 1) := by decide +kernel
theorem d220_81 : decode (m_code 220) 81 = .ok (.iadd, 1) := by decide +kernel
theorem d220_82 : decode (m_code 220) 82 = .ok (.dup2, 1) := by decide +kernel
theorem d220_83 : decode (m_code 220) 83 = .ok (.iaload, 1) := by decide +kernel
theorem d220_84 : decode (m_code 220) 84 = .ok (.iconst 1, 1) := by decide +kernel
theorem d220_85 : decode (m_code 220) 85 = .ok (.iload_n 2, 1) := by decide +kernel
theorem d220_86 : decode (m_code 220) 86 = .ok (.ishl, 1) := by decide +kernel
theorem d220_87 : decode (m_code 220) 87 = .ok (.ixor, 1) := by decide +kernel
theorem d220_88 : decode (m_code 220) 88 = .ok (.iastore, 1) := by decide +kernel
theorem d220_89 : decode (m_code 220) 89 = .ok (.aload_n 0, 1) := by decide +kernel
theorem d220_90 : decode (m_code 220) 90 = .ok (.getfield 7, 3) := by decide +kernel
theorem d220_93 : decode (m_code 220) 93 = .ok (.bipush 14, 2) := by decide +kernel
theorem d220_95 : decode (m_code 220) 95 = .ok (.iload_n 2, 1) := by decide +kernel
theorem d220_96 : decode (m_code 220) 96 = .ok (.iadd, 1) := by decide +kernel
theorem d220_97 : decode (m_code 220) 97 = .ok (.dup2, 1) := by decide +kernel
theorem d220_98 : decode (m_code 220) 98 = .ok (.iaload, 1) := by decide +kernel
theorem d220_99 : decode (m_code 220) 99 = .ok (.iconst 1, 1) := by decide +kernel
theorem d220_100 : decode (m_code 220) 100 = .ok (.iload_n 1, 1) := by decide +kernel
theorem d220_101 : decode (m_code 220) 101 = .ok (.ishl, 1) := by decide +kernel
theorem d220_102 : decode (m_code 220) 102 = .ok (.ixor, 1) := by decide +kernel
theorem d220_103 : decode (m_code 220) 103 = .ok (.iastore, 1) := by decide +kernel
theorem d220_104 : decode (m_code 220) 104 = .ok (.aload_n 0, 1) := by decide +kernel
theorem d220_105 : decode (m_code 220) 105 = .ok (.getfield 7, 3) := by decide +kernel
theorem d220_108 : decode (m_code 220) 108 = .ok (.bipush 14, 2) := by decide +kernel
theorem d220_110 : decode (m_code 220) 110 = .ok (.iload_n 1, 1) := by decide +kernel
theorem d220_111 : decode (m_code 220) 111 = .ok (.iadd, 1) := by decide +kernel
theorem d220_112 : decode (m_code 220) 112 = .ok (.iaload, 1) := by decide +kernel
theorem d220_113 : decode (m_code 220) 113 = .ok (.invokestatic 70, 3) := by decide +kernel
theorem d220_116 : decode (m_code 220) 116 = .ok (.ireturn, 1) := by decide +kernel
theorem d223_0 : decode (m_code 223) 0 = .ok (.iload_n 1, 1) := by decide +kernel
theorem d223_1 : decode (m_code 223) 1 = .ok (.invokestatic 43, 3) := by decide +kernel
theorem d223_4 : decode (m_code 223) 4 = .ok (.ifCond .ne 7, 3) := by decide +kernel
theorem d223_7 : decode (m_code 223) 7 = .ok (.iconst (-1), 1) := by decide +kernel
theorem d223_8 : decode (m_code 223) 8 = .ok (.goto 35, 3) := by decide +kernel
theorem d223_11 : decode (m_code 223) 11 = .ok (.aload_n 0, 1) := by decide +kernel
theorem d223_12 : decode (m_code 223) 12 = .ok (.iload_n 1, 1) := by decide +kernel
theorem d223_13 : decode (m_code 223) 13 = .ok (.invokevirtual 74, 3) := by decide +kernel
theorem d223_16 : decode (m_code 223) 16 = .ok (.ifCond .eq 8, 3) := by decide +kernel
theorem d223_19 : decode (m_code 223) 19 = .ok (.bipush (-4), 2) := by decide +kernel
theorem d223_21 : decode (m_code 223) 21 = .ok (.goto 22, 3) := by decide +kernel
theorem d223_24 : decode (m_code 223) 24 = .ok (.aload_n 0, 1) := by decide +kernel
theorem d223_25 : decode (m_code 223) 25 = .ok (.getfield 7, 3) := by decide +kernel
theorem d223_28 : decode (m_code 223) 28 = .ok (.bipush 8, 2) := by decide +kernel
theorem d223_30 : decode (m_code 223) 30 = .ok (.iload_n 1, 1) := by decide +kernel
theorem d223_31 : decode (m_code 223) 31 = .ok (.iadd, 1) := by decide +kernel
theorem d223_32 : decode (m_code 223) 32 = .ok (.iaload, 1) := by decide +kernel
theorem d223_33 : decode (m_code 223) 33 = .ok (.iconst 1, 1) := by decide +kernel
theorem d223_34 : decode (m_code 223) 34 = .ok (.if_icmp .ne 8, 3) := by decide +kernel
theorem d223_37 : decode (m_code 223) 37 = .ok (.bipush (-5), 2) := by decide +kernel
theorem d223_39 : decode (m_code 223) 39 = .ok (.goto 4, 3) := by decide +kernel
theorem d223_42 : decode (m_code 223) 42 = .ok (.iconst 0, 1) := by decide +kernel
theorem d223_43 : decode (m_code 223) 43 = .ok (.istore_n 2, 1) := by decide +kernel
theorem d223_44 : decode (m_code 223) 44 = .ok (.iload_n 2, 1) := by decide +kernel
theorem d223_45 : decode (m_code 223) 45 = .ok (.ifCond .ge 5, 3) := by decide +kernel
theorem d223_48 : decode (m_code 223) 48 = .ok (.iload_n 2, 1) := by decide +kernel
theorem d223_49 : decode (m_code 223) 49 = .ok (.ireturn, 1) := by decide +kernel
theorem d223_50 : decode (m_code 223) 50 = .ok (.aload_n 0, 1) := by decide +kernel
theorem d223_51 : decode (m_code 223) 51 = .ok (.invokevirtual 50, 3) := by decide +kernel
theorem d223_54 : decode (m_code 223) 54 = .ok (.aload_n 0, 1) := by decide +kernel
theorem d223_55 : decode (m_code 223) 55 = .ok (.getfield 7, 3) := by decide +kernel
theorem d223_58 : decode (m_code 223) 58 = .ok (.bipush 8, 2) := by decide +kernel
theorem d223_60 : decode (m_code 223) 60 = .ok (.iload_n 1, 1) := by decide +kernel
theorem d223_61 : decode (m_code 223) 61 = .ok (.iadd, 1) := by decide +kernel
theorem d223_62 : decode (m_code 223) 62 = .ok (.iconst 1, 1) := by decide +kernel
theorem d223_63 : decode (m_code 223) 63 = .ok (.iastore, 1) := by decide +kernel
theorem d223_64 : decode (m_code 223) 64 = .ok (.aload_n 0, 1) := by decide +kernel
theorem d223_65 : decode (m_code 223) 65 = .ok (.invokevirtual 77, 3) := by decide +kernel
theorem d223_68 : decode (m_code 223) 68 = .ok (.ireturn, 1) := by decide +kernel
theorem d229_0 : decode (m_code 229) 0 = .ok (.aload_n 0, 1) := by decide +kernel
theorem d229_1 : decode (m_code 229) 1 = .ok (.getfield 7, 3) := by decide +kernel
theorem d229_4 : decode (m_code 229) 4 = .ok (.iconst 4, 1) := by decide +kernel
theorem d229_5 : decode (m_code 229) 5 = .ok (.iaload, 1) := by decide +kernel
theorem d229_6 : decode (m_code 229) 6 = .ok (.iconst 4, 1) := by decide +kernel
theorem d229_7 : decode (m_code 229) 7 = .ok (.if_icmp .ne 6, 3) := by decide +kernel
theorem d229_10 : decode (m_code 229) 10 = .ok (.bipush (-3), 2) := by decide +kernel
theorem d229_12 : decode (m_code 229) 12 = .ok (.ireturn, 1) := by decide +kernel
theorem d229_13 : decode (m_code 229) 13 = .ok (.aload_n 0, 1) := by decide +kernel
theorem d229_14 : decode (m_code 229) 14 = .ok (.invokevirtual 50, 3) := by decide +kernel
theorem d229_17 : decode (m_code 229) 17 = .ok (.aload_n 0, 1) := by decide +kernel
theorem d229_18 : decode (m_code 229) 18 = .ok (.getfield 7, 3) := by decide +kernel
theorem d229_21 : decode (m_code 229) 21 = .ok (.iconst 4, 1) := by decide +kernel
theorem d229_22 : decode (m_code 229) 22 = .ok (.iaload, 1) := by decide +kernel
theorem d229_23 : decode (m_code 229) 23 = .ok (.istore_n 1, 1) := by decide +kernel
theorem d229_24 : decode (m_code 229) 24 = .ok (.iconst 0, 1) := by decide +kernel
theorem d229_25 : decode (m_code 229) 25 = .ok (.istore_n 2, 1) := by decide +kernel
theorem d229_26 : decode (m_code 229) 26 = .ok (.iload_n 2, 1) := by decide +kernel
theorem d229_27 : decode (m_code 229) 27 = .ok (.bipush 10, 2) := by decide +kernel
theorem d229_29 : decode (m_code 229) 29 = .ok (.if_icmp .ge 16, 3) := by decide +kernel
theorem d229_32 : decode (m_code 229) 32 = .ok (.aload_n 0, 1) := by decide +kernel
theorem d229_33 : decode (m_code 229) 33 = .ok (.iload_n 1, 1) := by decide +kernel
theorem d229_34 : decode (m_code 229) 34 = .ok (.iload_n 2, 1) := by decide +kernel
theorem d229_35 : decode (m_code 229) 35 = .ok (.iconst 0, 1) := by decide +kernel
theorem d229_36 : decode (m_code 229) 36 = .ok (.invokevirtual 87, 3) := by decide +kernel
theorem d229_39 : decode (m_code 229) 39 = .ok (.iinc 2 1, 3) := by decide +kernel
theorem d229_42 : decode (m_code 229) 42 = .ok (.goto (-16), 3) := by decide +kernel
theorem d229_45 : decode (m_code 229) 45 = .ok (.aload_n 0, 1) := by decide +kernel
theorem d229_46 : decode (m_code 229) 46 = .ok (.iload_n 1, 1) := by decide +kernel
theorem d229_47 : decode (m_code 229) 47 = .ok (.iconst 1, 1) := by decide +kernel
theorem d229_48 : decode (m_code 229) 48 = .ok (.bipush (-5), 2) := by decide +kernel
theorem d229_50 : decode (m_code 229) 50 = .ok (.invokevirtual 87, 3) := by decide +kernel
theorem d229_53 : decode (m_code 229) 53 = .ok (.aload_n 0, 1) := by decide +kernel
theorem d229_54 : decode (m_code 229) 54 = .ok (.iload_n 1, 1) := by decide +kernel
theorem d229_55 : decode (m_code 229) 55 = .ok (.bipush 9, 2) := by decide +kernel
theorem d229_57 : decode (m_code 229) 57 = .ok (.aload_n 0, 1) := by decide +kernel
theorem d229_58 : decode (m_code 229) 58 = .ok (.getfield 7, 3) := by decide +kernel
theorem d229_61 : decode (m_code 229) 61 = .ok (.iconst 0, 1) := by decide +kernel
theorem d229_62 : decode (m_code 229) 62 = .ok (.iaload, 1) := by decide +kernel
theorem d229_63 : decode (m_code 229) 63 = .ok (.invokevirtual 87, 3) := by decide +kernel
theorem d229_66 : decode (m_code 229) 66 = .ok (.aload_n 0, 1) := by decide +kernel
theorem d229_67 : decode (m_code 229) 67 = .ok (.getfield 7, 3) := by decide +kernel
theorem d229_70 : decode (m_code 229) 70 = .ok (.iconst 4, 1) := by decide +kernel
theorem d229_71 : decode (m_code 229) 71 = .ok (.dup2, 1) := by decide +kernel
theorem d229_72 : decode (m_code 229) 72 = .ok (.iaload, 1) := by decide +kernel
theorem d229_73 : decode (m_code 229) 73 = .ok (.iconst 1, 1) := by decide +kernel
theorem d229_74 : decode (m_code 229) 74 = .ok (.iadd, 1) := by decide +kernel
theorem d229_75 : decode (m_code 229) 75 = .ok (.iastore, 1) := by decide +kernel
theorem d229_76 : decode (m_code 229) 76 = .ok (.iload_n 1, 1) := by decide +kernel
theorem d229_77 : decode (m_code 229) 77 = .ok (.ireturn, 1) := by decide +kernel
theorem d231_0 : decode (m_code 231) 0 = .ok (.aload_n 0, 1) := by decide +kernel
theorem d231_1 : decode (m_code 231) 1 = .ok (.iload_n 1, 1) := by decide +kernel
theorem d231_2 : decode (m_code 231) 2 = .ok (.invokevirtual 94, 3) := by decide +kernel
theorem d231_5 : decode (m_code 231) 5 = .ok (.ifCond .eq 10, 3) := by decide +kernel
theorem d231_8 : decode (m_code 231) 8 = .ok (.iload_n 2, 1) := by decide +kernel
theorem d231_9 : decode (m_code 231) 9 = .ok (.invokestatic 97, 3) := by decide +kernel
theorem d231_12 : decode (m_code 231) 12 = .ok (.ifCond .ne 5, 3) := by decide +kernel
theorem d231_15 : decode (m_code 231) 15 = .ok (.iconst (-1), 1) := by decide +kernel
theorem d231_16 : decode (m_code 231) 16 = .ok (.ireturn, 1) := by decide +kernel
theorem d231_17 : decode (m_code 231) 17 = .ok (.aload_n 0, 1) := by decide +kernel
theorem d231_18 : decode (m_code 231) 18 = .ok (.iload_n 1, 1) := by decide +kernel
theorem d231_19 : decode (m_code 231) 19 = .ok (.iconst 0, 1) := by decide +kernel
theorem d231_20 : decode (m_code 231) 20 = .ok (.invokevirtual 81, 3) := by decide +kernel
theorem d231_23 : decode (m_code 231) 23 = .ok (.ifCond .ne 13, 3) := by decide +kernel
theorem d231_26 : decode (m_code 231) 26 = .ok (.aload_n 0, 1) := by decide +kernel
theorem d231_27 : decode (m_code 231) 27 = .ok (.iload_n 2, 1) := by decide +kernel
theorem d231_28 : decode (m_code 231) 28 = .ok (.invokevirtual 100, 3) := by decide +kernel
theorem d231_31 : decode (m_code 231) 31 = .ok (.bipush (-5), 2) := by decide +kernel
theorem d231_33 : decode (m_code 231) 33 = .ok (.if_icmp .eq 6, 3) := by decide +kernel
theorem d231_36 : decode (m_code 231) 36 = .ok (.bipush (-4), 2) := by decide +kernel
theorem d231_38 : decode (m_code 231) 38 = .ok (.ireturn, 1) := by decide +kernel
theorem d231_39 : decode (m_code 231) 39 = .ok (.aload_n 0, 1) := by decide +kernel
theorem d231_40 : decode (m_code 231) 40 = .ok (.iload_n 1, 1) := by decide +kernel
theorem d231_41 : decode (m_code 231) 41 = .ok (.invokevirtual 103, 3) := by decide +kernel
theorem d231_44 : decode (m_code 231) 44 = .ok (.iconst 3, 1) := by decide +kernel
theorem d231_45 : decode (m_code 231) 45 = .ok (.if_icmp .ne 6, 3) := by decide +kernel
theorem d231_48 : decode (m_code 231) 48 = .ok (.bipush (-3), 2) := by decide +kernel
theorem d231_50 : decode (m_code 231) 50 = .ok (.ireturn, 1) := by decide +kernel
theorem d231_51 : decode (m_code 231) 51 = .ok (.aload_n 0, 1) := by decide +kernel
theorem d231_52 : decode (m_code 231) 52 = .ok (.invokevirtual 50, 3) := by decide +kernel
theorem d231_55 : decode (m_code 231) 55 = .ok (.aload_n 0, 1) := by decide +kernel
theorem d231_56 : decode (m_code 231) 56 = .ok (.iload_n 1, 1) := by decide +kernel
theorem d231_57 : decode (m_code 231) 57 = .ok (.iload_n 2, 1) := by decide +kernel
theorem d231_58 : decode (m_code 231) 58 = .ok (.invokevirtual 106, 3) := by decide +kernel
theorem d231_61 : decode (m_code 231) 61 = .ok (.aload_n 0, 1) := by decide +kernel
theorem d231_62 : decode (m_code 231) 62 = .ok (.iload_n 1, 1) := by decide +kernel
theorem d231_63 : decode (m_code 231) 63 = .ok (.invokevirtual 103, 3) := by decide +kernel
theorem d231_66 : decode (m_code 231) 66 = .ok (.ireturn, 1) := by decide +kernel
theorem d238_0 : decode (m_code 238) 0 = .ok (.aload_n 0, 1) := by decide +kernel
theorem d238_1 : decode (m_code 238) 1 = .ok (.iload_n 1, 1) := by decide +kernel
theorem d238_2 : decode (m_code 238) 2 = .ok (.invokevirtual 94, 3) := by decide +kernel
theorem d238_5 : decode (m_code 238) 5 = .ok (.ifCond .eq 10, 3) := by decide +kernel
theorem d238_8 : decode (m_code 238) 8 = .ok (.iload_n 2, 1) := by decide +kernel
theorem d238_9 : decode (m_code 238) 9 = .ok (.invokestatic 97, 3) := by decide +kernel
theorem d238_12 : decode (m_code 238) 12 = .ok (.ifCond .ne 5, 3) := by decide +kernel
theorem d238_15 : decode (m_code 238) 15 = .ok (.iconst (-1), 1) := by decide +kernel
theorem d238_16 : decode (m_code 238) 16 = .ok (.ireturn, 1) := by decide +kernel
theorem d238_17 : decode (m_code 238) 17 = .ok (.aload_n 0, 1) := by decide +kernel
theorem d238_18 : decode (m_code 238) 18 = .ok (.iload_n 1, 1) := by decide +kernel
theorem d238_19 : decode (m_code 238) 19 = .ok (.iconst 0, 1) := by decide +kernel
theorem d238_20 : decode (m_code 238) 20 = .ok (.invokevirtual 81, 3) := by decide +kernel
theorem d238_23 : decode (m_code 238) 23 = .ok (.ifCond .ne 12, 3) := by decide +kernel
theorem d238_26 : decode (m_code 238) 26 = .ok (.aload_n 0, 1) := by decide +kernel
theorem d238_27 : decode (m_code 238) 27 = .ok (.iload_n 1, 1) := by decide +kernel
theorem d238_28 : decode (m_code 238) 28 = .ok (.iload_n 2, 1) := by decide +kernel
theorem d238_29 : decode (m_code 238) 29 = .ok (.invokevirtual 91, 3) := by decide +kernel
theorem d238_32 : decode (m_code 238) 32 = .ok (.ifCond .ne 6, 3) := by decide +kernel
theorem d238_35 : decode (m_code 238) 35 = .ok (.bipush (-4), 2) := by decide +kernel
theorem d238_37 : decode (m_code 238) 37 = .ok (.ireturn, 1) := by decide +kernel
theorem d238_38 : decode (m_code 238) 38 = .ok (.aload_n 0, 1) := by decide +kernel
theorem d238_39 : decode (m_code 238) 39 = .ok (.invokevirtual 50, 3) := by decide +kernel
theorem d238_42 : decode (m_code 238) 42 = .ok (.aload_n 0, 1) := by decide +kernel
theorem d238_43 : decode (m_code 238) 43 = .ok (.iload_n 1, 1) := by decide +kernel
theorem d238_44 : decode (m_code 238) 44 = .ok (.iload_n 2, 1) := by decide +kernel
theorem d238_45 : decode (m_code 238) 45 = .ok (.invokevirtual 106, 3) := by decide +kernel
theorem d238_48 : decode (m_code 238) 48 = .ok (.aload_n 0, 1) := by decide +kernel
theorem d238_49 : decode (m_code 238) 49 = .ok (.iload_n 1, 1) := by decide +kernel
theorem d238_50 : decode (m_code 238) 50 = .ok (.invokevirtual 103, 3) := by decide +kernel
theorem d238_53 : decode (m_code 238) 53 = .ok (.ireturn, 1) := by decide +kernel
theorem r_exclude_1a {X : mX} {h : mH} {R : Nat → Nat → Int32} {σ : Nat → Int32} (hR : Ms h R σ) {mi nR nD nG nW nA n : Nat} (hC : Cn σ mi nR nD nG nW nA) (hn : R 0 5 = nI n) (hn4 : n ≤ 4) {x y : Int32} {is : Bool} (hx : ¬ (nI 0 ≤ x ∧ x ≤ nI 5)) : Tells X 220 [.ref 313, .int (x), .int (y), .int (m_b (is = true))] h (-1) := by
  obtain ⟨⟨h0, hmi⟩, ⟨h2, hR1, hR12⟩, ⟨h3, hD⟩, ⟨h4, hG⟩, ⟨h5, hW⟩, ⟨h6, hA⟩⟩ := hC
  refine wp_iload_n d220_0 rfl ?_
  refine wp_invsT (e := 43) (j2 := 209) (n := 1) d220_1 (by decide +kernel) (by decide +kernel) rfl rfl rfl (Nat.le_of_ble_eq_true rfl) (Nat.le_of_ble_eq_true rfl) rfl rfl (Nat.le_of_ble_eq_true rfl) (by decide +kernel) (c_isZone (x)) ?_
  refine wp_ifb_eq d220_4 (tgt := 14) (by decide) (fun _ => ?_) (fun hq9 => absurd hq9 hx)
  refine wp_iconst d220_14 (v := (-1 : Int32)) (by decide) ?_
  refine wp_iret d220_15 (by decide +kernel) ?_
  exact ⟨rfl, rfl⟩
theorem r_exclude_1b {X : mX} {h : mH} {R : Nat → Nat → Int32} {σ : Nat → Int32} (hR : Ms h R σ) {mi nR nD nG nW nA n : Nat} (hC : Cn σ mi nR nD nG nW nA) (hn : R 0 5 = nI n) (hn4 : n ≤ 4) {x y : Int32} {is : Bool} (hx : nI 0 ≤ x ∧ x ≤ nI 5) (hy : ¬ (nI 0 ≤ y ∧ y ≤ nI 5)) : Tells X 220 [.ref 313, .int (x), .int (y), .int (m_b (is = true))] h (-1) := by
  obtain ⟨⟨h0, hmi⟩, ⟨h2, hR1, hR12⟩, ⟨h3, hD⟩, ⟨h4, hG⟩, ⟨h5, hW⟩, ⟨h6, hA⟩⟩ := hC
  refine wp_iload_n d220_0 rfl ?_
  refine wp_invsT (e := 43) (j2 := 209) (n := 1) d220_1 (by decide +kernel) (by decide +kernel) rfl rfl rfl (Nat.le_of_ble_eq_true rfl) (Nat.le_of_ble_eq_true rfl) rfl rfl (Nat.le_of_ble_eq_true rfl) (by decide +kernel) (c_isZone (x)) ?_
  refine wp_ifb_eq d220_4 (tgt := 14) (by decide) (fun hq9 => absurd hx hq9) (fun _ => ?_)
  refine wp_iload_n d220_7 rfl ?_
  refine wp_invsT (e := 43) (j2 := 209) (n := 1) d220_8 (by decide +kernel) (by decide +kernel) rfl rfl rfl (Nat.le_of_ble_eq_true rfl) (Nat.le_of_ble_eq_true rfl) rfl rfl (Nat.le_of_ble_eq_true rfl) (by decide +kernel) (c_isZone (y)) ?_
  refine wp_ifb_ne d220_11 (tgt := 16) (by decide) (fun hq9 => absurd hq9 hy) (fun _ => ?_)
  refine wp_iconst d220_14 (v := (-1 : Int32)) (by decide) ?_
  refine wp_iret d220_15 (by decide +kernel) ?_
  exact ⟨rfl, rfl⟩
theorem r_exclude_2 {X : mX} {h : mH} {R : Nat → Nat → Int32} {σ : Nat → Int32} (hR : Ms h R σ) {mi nR nD nG nW nA n : Nat} (hC : Cn σ mi nR nD nG nW nA) (hn : R 0 5 = nI n) (hn4 : n ≤ 4) {z o : Nat} {is : Bool} (hz : z < 6) (ho : o < 6) (he : z = o) : Tells X 220 [.ref 313, .int (nI z), .int (nI o), .int (m_b (is = true))] h (-2) := by
  obtain ⟨⟨h0, hmi⟩, ⟨h2, hR1, hR12⟩, ⟨h3, hD⟩, ⟨h4, hG⟩, ⟨h5, hW⟩, ⟨h6, hA⟩⟩ := hC
  refine wp_iload_n d220_0 rfl ?_
  refine wp_invsT (e := 43) (j2 := 209) (n := 1) d220_1 (by decide +kernel) (by decide +kernel) rfl rfl rfl (Nat.le_of_ble_eq_true rfl) (Nat.le_of_ble_eq_true rfl) rfl rfl (Nat.le_of_ble_eq_true rfl) (by decide +kernel) (c_isZone (nI z)) ?_
  refine wp_ifb_eq d220_4 (tgt := 14) (by decide) (fun hq9 => absurd (⟨nI_le (by omega) (by omega), nI_le (by omega) (by omega)⟩ : nI 0 ≤ nI z ∧ nI z ≤ nI 5) hq9) (fun _ => ?_)
  refine wp_iload_n d220_7 rfl ?_
  refine wp_invsT (e := 43) (j2 := 209) (n := 1) d220_8 (by decide +kernel) (by decide +kernel) rfl rfl rfl (Nat.le_of_ble_eq_true rfl) (Nat.le_of_ble_eq_true rfl) rfl rfl (Nat.le_of_ble_eq_true rfl) (by decide +kernel) (c_isZone (nI o)) ?_
  refine wp_ifb_ne d220_11 (tgt := 16) (by decide) (fun _ => ?_) (fun hq9 => absurd (⟨nI_le (by omega) (by omega), nI_le (by omega) (by omega)⟩ : nI 0 ≤ nI o ∧ nI o ≤ nI 5) hq9)
  refine wp_iload_n d220_16 rfl ?_
  refine wp_iload_n d220_17 rfl ?_
  refine wp_icmp_ne d220_18 (tgt := 24) (by decide) (fun hq9 => absurd (by rw [he] : nI z = nI o) hq9) (fun _ => ?_)
  refine wp_bipush d220_21 (v := (-2 : Int32)) (by decide) ?_
  refine wp_iret d220_23 (by decide +kernel) ?_
  exact ⟨rfl, rfl⟩
theorem r_exclude_3 {X : mX} {h : mH} {R : Nat → Nat → Int32} {σ : Nat → Int32} (hR : Ms h R σ) {mi nR nD nG nW nA n : Nat} (hC : Cn σ mi nR nD nG nW nA) (hn : R 0 5 = nI n) (hn4 : n ≤ 4) {z o : Nat} {is : Bool} (hz : z < 6) (ho : o < 6) (he : ¬ z = o) (hi : is = true) (h8 : σ (8 + z) = nI 1) (h9 : σ (8 + o) = nI 1) : Tells X 220 [.ref 313, .int (nI z), .int (nI o), .int (m_b (is = true))] h (-4) := by
  obtain ⟨⟨h0, hmi⟩, ⟨h2, hR1, hR12⟩, ⟨h3, hD⟩, ⟨h4, hG⟩, ⟨h5, hW⟩, ⟨h6, hA⟩⟩ := hC
  refine wp_iload_n d220_0 rfl ?_
  refine wp_invsT (e := 43) (j2 := 209) (n := 1) d220_1 (by decide +kernel) (by decide +kernel) rfl rfl rfl (Nat.le_of_ble_eq_true rfl) (Nat.le_of_ble_eq_true rfl) rfl rfl (Nat.le_of_ble_eq_true rfl) (by decide +kernel) (c_isZone (nI z)) ?_
  refine wp_ifb_eq d220_4 (tgt := 14) (by decide) (fun hq9 => absurd (⟨nI_le (by omega) (by omega), nI_le (by omega) (by omega)⟩ : nI 0 ≤ nI z ∧ nI z ≤ nI 5) hq9) (fun _ => ?_)
  refine wp_iload_n d220_7 rfl ?_
  refine wp_invsT (e := 43) (j2 := 209) (n := 1) d220_8 (by decide +kernel) (by decide +kernel) rfl rfl rfl (Nat.le_of_ble_eq_true rfl) (Nat.le_of_ble_eq_true rfl) rfl rfl (Nat.le_of_ble_eq_true rfl) (by decide +kernel) (c_isZone (nI o)) ?_
  refine wp_ifb_ne d220_11 (tgt := 16) (by decide) (fun _ => ?_) (fun hq9 => absurd (⟨nI_le (by omega) (by omega), nI_le (by omega) (by omega)⟩ : nI 0 ≤ nI o ∧ nI o ≤ nI 5) hq9)
  refine wp_iload_n d220_16 rfl ?_
  refine wp_iload_n d220_17 rfl ?_
  refine wp_icmp_ne d220_18 (tgt := 24) (by decide) (fun _ => ?_) (fun hq9 => absurd hq9 (fun q => he ((nI_eq (by omega) (by omega)).mp q)))
  refine wp_iload_n d220_24 rfl ?_
  refine wp_ifb_eq d220_25 (tgt := 57) (by decide) (fun hq9 => absurd hi hq9) (fun _ => ?_)
  refine wp_aload_n d220_28 rfl ?_
  refine wp_getf (e := 7) (ci := 12) (k := 0) (nest := false) d220_29 (by decide +kernel) (md_0 hR) rfl ?_
  refine wp_bipush d220_32 (v := nI 8) (by decide) ?_
  refine wp_iload_n d220_34 rfl ?_
  refine wp_iaddv d220_35 (v := nI (8 + z)) (nI_add _ _) ?_
  refine wp_iald d220_36 (md_1 hR) (nI_in (by omega) (by decide)) (v := σ (8 + z)) ((congrArg σ (nI_nat (by omega))).trans rfl) ?_
  refine wp_iconst d220_37 (v := nI 1) (by decide) ?_
  refine wp_icmp_ne d220_38 (tgt := 57) (by decide) (fun hq9 => absurd h8 hq9) (fun _ => ?_)
  refine wp_aload_n d220_41 rfl ?_
  refine wp_getf (e := 7) (ci := 12) (k := 0) (nest := false) d220_42 (by decide +kernel) (md_0 hR) rfl ?_
  refine wp_bipush d220_45 (v := nI 8) (by decide) ?_
  refine wp_iload_n d220_47 rfl ?_
  refine wp_iaddv d220_48 (v := nI (8 + o)) (nI_add _ _) ?_
  refine wp_iald d220_49 (md_1 hR) (nI_in (by omega) (by decide)) (v := σ (8 + o)) ((congrArg σ (nI_nat (by omega))).trans rfl) ?_
  refine wp_iconst d220_50 (v := nI 1) (by decide) ?_
  refine wp_icmp_ne d220_51 (tgt := 57) (by decide) (fun hq9 => absurd h9 hq9) (fun _ => ?_)
  refine wp_bipush d220_54 (v := (-4 : Int32)) (by decide) ?_
  refine wp_iret d220_56 (by decide +kernel) ?_
  exact ⟨rfl, rfl⟩
def R_excl (σ : Nat → Int32) (z o : Nat) : Nat → Int32 := upd (upd σ (14 + z) (σ (14 + z) ^^^ (nI 1 <<< (nI o &&& 31)))) (14 + o) (σ (14 + o) ^^^ (nI 1 <<< (nI z &&& 31)))
theorem r_exclude_5a {X : mX} {h : mH} {R : Nat → Nat → Int32} {σ : Nat → Int32} (hR : Ms h R σ) {mi nR nD nG nW nA n : Nat} (hC : Cn σ mi nR nD nG nW nA) (hn : R 0 5 = nI n) (hn4 : n ≤ 4) {z o : Nat} {is : Bool} (hz : z < 6) (ho : o < 6) (he : ¬ z = o) (hi : ¬ is = true) (hb : m_b (F_bit (σ (14 + z)) (nI o)) = m_b (is = true)) : Tells X 220 [.ref 313, .int (nI z), .int (nI o), .int (m_b (is = true))] h (-5) := by
  obtain ⟨⟨h0, hmi⟩, ⟨h2, hR1, hR12⟩, ⟨h3, hD⟩, ⟨h4, hG⟩, ⟨h5, hW⟩, ⟨h6, hA⟩⟩ := hC
  refine wp_iload_n d220_0 rfl ?_
  refine wp_invsT (e := 43) (j2 := 209) (n := 1) d220_1 (by decide +kernel) (by decide +kernel) rfl rfl rfl (Nat.le_of_ble_eq_true rfl) (Nat.le_of_ble_eq_true rfl) rfl rfl (Nat.le_of_ble_eq_true rfl) (by decide +kernel) (c_isZone (nI z)) ?_
  refine wp_ifb_eq d220_4 (tgt := 14) (by decide) (fun hq9 => absurd (⟨nI_le (by omega) (by omega), nI_le (by omega) (by omega)⟩ : nI 0 ≤ nI z ∧ nI z ≤ nI 5) hq9) (fun _ => ?_)
  refine wp_iload_n d220_7 rfl ?_
  refine wp_invsT (e := 43) (j2 := 209) (n := 1) d220_8 (by decide +kernel) (by decide +kernel) rfl rfl rfl (Nat.le_of_ble_eq_true rfl) (Nat.le_of_ble_eq_true rfl) rfl rfl (Nat.le_of_ble_eq_true rfl) (by decide +kernel) (c_isZone (nI o)) ?_
  refine wp_ifb_ne d220_11 (tgt := 16) (by decide) (fun _ => ?_) (fun hq9 => absurd (⟨nI_le (by omega) (by omega), nI_le (by omega) (by omega)⟩ : nI 0 ≤ nI o ∧ nI o ≤ nI 5) hq9)
  refine wp_iload_n d220_16 rfl ?_
  refine wp_iload_n d220_17 rfl ?_
  refine wp_icmp_ne d220_18 (tgt := 24) (by decide) (fun _ => ?_) (fun hq9 => absurd hq9 (fun q => he ((nI_eq (by omega) (by omega)).mp q)))
  refine wp_iload_n d220_24 rfl ?_
  refine wp_ifb_eq d220_25 (tgt := 57) (by decide) (fun _ => ?_) (fun hq9 => absurd hq9 hi)
  refine wp_aload_n d220_57 rfl ?_
  refine wp_iload_n d220_58 rfl ?_
  refine wp_iload_n d220_59 rfl ?_
  refine wp_invvT (e := 66) (j2 := 221) (n := 2) d220_60 (by decide +kernel) (by decide +kernel) rfl rfl rfl (md_0 hR) (by decide +kernel) (Nat.le_of_ble_eq_true rfl) rfl rfl (Nat.le_of_ble_eq_true rfl) (by decide +kernel) (c_excludes hR (z := z) (o := o) (by omega)) ?_
  refine wp_iload_n d220_63 rfl ?_
  refine wp_icmp_ne d220_64 (tgt := 70) (by decide) (fun hq9 => absurd hb hq9) (fun _ => ?_)
  refine wp_bipush d220_67 (v := (-5 : Int32)) (by decide) ?_
  refine wp_iret d220_69 (by decide +kernel) ?_
  exact ⟨rfl, rfl⟩
theorem r_excludea {X : mX} {h : mH} {R : Nat → Nat → Int32} {σ : Nat → Int32} (hR : Ms h R σ) {mi nR nD nG nW nA n : Nat} (hC : Cn σ mi nR nD nG nW nA) (hn : R 0 5 = nI n) (hn4 : n ≤ 4) {z o : Nat} {is : Bool} (hz : z < 6) (ho : o < 6) (he : ¬ z = o) (hi : ¬ is = true) (hb : ¬ m_b (F_bit (σ (14 + z)) (nI o)) = m_b (is = true)) : Does X 220 [.ref 313, .int (nI z), .int (nI o), .int (m_b (is = true))] h (F_rec R σ n) (R_excl σ z o) (some (.int (F_bits (σ (14 + z) ^^^ (nI 1 <<< (nI o &&& 31))) 16))) := by
  obtain ⟨⟨h0, hmi⟩, ⟨h2, hR1, hR12⟩, ⟨h3, hD⟩, ⟨h4, hG⟩, ⟨h5, hW⟩, ⟨h6, hA⟩⟩ := hC
  have hF : Frm h h 313 8 := Frm.rf
  refine wp_iload_n d220_0 rfl ?_
  refine wp_invsT (e := 43) (j2 := 209) (n := 1) d220_1 (by decide +kernel) (by decide +kernel) rfl rfl rfl (Nat.le_of_ble_eq_true rfl) (Nat.le_of_ble_eq_true rfl) rfl rfl (Nat.le_of_ble_eq_true rfl) (by decide +kernel) (c_isZone (nI z)) ?_
  refine wp_ifb_eq d220_4 (tgt := 14) (by decide) (fun hq9 => absurd (⟨nI_le (by omega) (by omega), nI_le (by omega) (by omega)⟩ : nI 0 ≤ nI z ∧ nI z ≤ nI 5) hq9) (fun _ => ?_)
  refine wp_iload_n d220_7 rfl ?_
  refine wp_invsT (e := 43) (j2 := 209) (n := 1) d220_8 (by decide +kernel) (by decide +kernel) rfl rfl rfl (Nat.le_of_ble_eq_true rfl) (Nat.le_of_ble_eq_true rfl) rfl rfl (Nat.le_of_ble_eq_true rfl) (by decide +kernel) (c_isZone (nI o)) ?_
  refine wp_ifb_ne d220_11 (tgt := 16) (by decide) (fun _ => ?_) (fun hq9 => absurd (⟨nI_le (by omega) (by omega), nI_le (by omega) (by omega)⟩ : nI 0 ≤ nI o ∧ nI o ≤ nI 5) hq9)
  refine wp_iload_n d220_16 rfl ?_
  refine wp_iload_n d220_17 rfl ?_
  refine wp_icmp_ne d220_18 (tgt := 24) (by decide) (fun _ => ?_) (fun hq9 => absurd hq9 (fun q => he ((nI_eq (by omega) (by omega)).mp q)))
  refine wp_iload_n d220_24 rfl ?_
  refine wp_ifb_eq d220_25 (tgt := 57) (by decide) (fun _ => ?_) (fun hq9 => absurd hq9 hi)
  refine wp_aload_n d220_57 rfl ?_
  refine wp_iload_n d220_58 rfl ?_
  refine wp_iload_n d220_59 rfl ?_
  refine wp_invvT (e := 66) (j2 := 221) (n := 2) d220_60 (by decide +kernel) (by decide +kernel) rfl rfl rfl (md_0 hR) (by decide +kernel) (Nat.le_of_ble_eq_true rfl) rfl rfl (Nat.le_of_ble_eq_true rfl) (by decide +kernel) (c_excludes hR (z := z) (o := o) (by omega)) ?_
  refine wp_iload_n d220_63 rfl ?_
  refine wp_icmp_ne d220_64 (tgt := 70) (by decide) (fun _ => ?_) (fun hq9 => absurd hq9 hb)
  refine wp_aload_n d220_70 rfl ?_
  refine wp_invvD (e := 50) (j2 := 212) (n := 0) d220_71 (by decide +kernel) (by decide +kernel) rfl rfl rfl (md_0 hR) (by decide +kernel) (Nat.le_of_ble_eq_true rfl) rfl rfl (Nat.le_of_ble_eq_true rfl) (by decide +kernel) (c_record hR hn hn4) hF ?_
  intro h hR hF
  refine wp_aload_n d220_74 rfl ?_
  refine wp_getf (e := 7) (ci := 12) (k := 0) (nest := false) d220_75 (by decide +kernel) (md_0 hR) rfl ?_
  refine wp_bipush d220_78 (v := nI 14) (by decide) ?_
  refine wp_iload_n d220_80 rfl ?_
  refine wp_iaddv d220_81 (v := nI (14 + z)) (nI_add _ _) ?_
  refine wp_dup2 d220_82 rfl rfl ?_
  refine wp_iald d220_83 (md_1 hR) (nI_in (by omega) (by decide)) (v := σ (14 + z)) ((congrArg σ (nI_nat (by omega))).trans rfl) ?_
  refine wp_iconst d220_84 (v := nI 1) (by decide) ?_
  refine wp_iload_n d220_85 rfl ?_
  refine wp_ishl d220_86 ?_
  refine wp_ixor d220_87 ?_
  refine wp_stS d220_88 hR hF (k := 14 + z) (by omega) (fun h hR hF => ?_)
  refine wp_aload_n d220_89 rfl ?_
  refine wp_getf (e := 7) (ci := 12) (k := 0) (nest := false) d220_90 (by decide +kernel) (md_0 hR) rfl ?_
  refine wp_bipush d220_93 (v := nI 14) (by decide) ?_
  refine wp_iload_n d220_95 rfl ?_
  refine wp_iaddv d220_96 (v := nI (14 + o)) (nI_add _ _) ?_
  refine wp_dup2 d220_97 rfl rfl ?_
  refine wp_iald d220_98 (md_1 hR) (nI_in (by omega) (by decide)) (v := σ (14 + o)) ((congrArg ((upd σ (14 + z) (((σ (14 + z)) ^^^ ((nI 1) <<< ((nI o) &&& 31)))))) (nI_nat (by omega))).trans ((upd_ne (by omega)).trans rfl)) ?_
  refine wp_iconst d220_99 (v := nI 1) (by decide) ?_
  refine wp_iload_n d220_100 rfl ?_
  refine wp_ishl d220_101 ?_
  refine wp_ixor d220_102 ?_
  refine wp_stS d220_103 hR hF (k := 14 + o) (by omega) (fun h hR hF => ?_)
  refine wp_aload_n d220_104 rfl ?_
  refine wp_getf (e := 7) (ci := 12) (k := 0) (nest := false) d220_105 (by decide +kernel) (md_0 hR) rfl ?_
  refine wp_bipush d220_108 (v := nI 14) (by decide) ?_
  refine wp_iload_n d220_110 rfl ?_
  refine wp_iaddv d220_111 (v := nI (14 + z)) (nI_add _ _) ?_
  refine wp_iald d220_112 (md_1 hR) (nI_in (by omega) (by decide)) (v := ((σ (14 + z)) ^^^ ((nI 1) <<< ((nI o) &&& 31)))) ((congrArg ((upd (upd σ (14 + z) (((σ (14 + z)) ^^^ ((nI 1) <<< ((nI o) &&& 31))))) (14 + o) (((σ (14 + o)) ^^^ ((nI 1) <<< ((nI z) &&& 31)))))) (nI_nat (by omega))).trans ((upd_ne (by omega)).trans upd_eq)) ?_
  refine wp_invsT (e := 70) (j2 := 222) (n := 1) d220_113 (by decide +kernel) (by decide +kernel) rfl rfl rfl (Nat.le_of_ble_eq_true rfl) (Nat.le_of_ble_eq_true rfl) rfl rfl (Nat.le_of_ble_eq_true rfl) (by decide +kernel) (c_bitsIn (((σ (14 + z)) ^^^ ((nI 1) <<< ((nI o) &&& 31))))) ?_
  refine wp_iret d220_116 (by decide +kernel) ?_
  exact ⟨rfl, hR, hF⟩
theorem r_exclude_5b {X : mX} {h : mH} {R : Nat → Nat → Int32} {σ : Nat → Int32} (hR : Ms h R σ) {mi nR nD nG nW nA n : Nat} (hC : Cn σ mi nR nD nG nW nA) (hn : R 0 5 = nI n) (hn4 : n ≤ 4) {z o : Nat} {is : Bool} (hz : z < 6) (ho : o < 6) (he : ¬ z = o) (hi : is = true) (h8 : ¬ σ (8 + z) = nI 1) (hb : m_b (F_bit (σ (14 + z)) (nI o)) = m_b (is = true)) : Tells X 220 [.ref 313, .int (nI z), .int (nI o), .int (m_b (is = true))] h (-5) := by
  obtain ⟨⟨h0, hmi⟩, ⟨h2, hR1, hR12⟩, ⟨h3, hD⟩, ⟨h4, hG⟩, ⟨h5, hW⟩, ⟨h6, hA⟩⟩ := hC
  refine wp_iload_n d220_0 rfl ?_
  refine wp_invsT (e := 43) (j2 := 209) (n := 1) d220_1 (by decide +kernel) (by decide +kernel) rfl rfl rfl (Nat.le_of_ble_eq_true rfl) (Nat.le_of_ble_eq_true rfl) rfl rfl (Nat.le_of_ble_eq_true rfl) (by decide +kernel) (c_isZone (nI z)) ?_
  refine wp_ifb_eq d220_4 (tgt := 14) (by decide) (fun hq9 => absurd (⟨nI_le (by omega) (by omega), nI_le (by omega) (by omega)⟩ : nI 0 ≤ nI z ∧ nI z ≤ nI 5) hq9) (fun _ => ?_)
  refine wp_iload_n d220_7 rfl ?_
  refine wp_invsT (e := 43) (j2 := 209) (n := 1) d220_8 (by decide +kernel) (by decide +kernel) rfl rfl rfl (Nat.le_of_ble_eq_true rfl) (Nat.le_of_ble_eq_true rfl) rfl rfl (Nat.le_of_ble_eq_true rfl) (by decide +kernel) (c_isZone (nI o)) ?_
  refine wp_ifb_ne d220_11 (tgt := 16) (by decide) (fun _ => ?_) (fun hq9 => absurd (⟨nI_le (by omega) (by omega), nI_le (by omega) (by omega)⟩ : nI 0 ≤ nI o ∧ nI o ≤ nI 5) hq9)
  refine wp_iload_n d220_16 rfl ?_
  refine wp_iload_n d220_17 rfl ?_
  refine wp_icmp_ne d220_18 (tgt := 24) (by decide) (fun _ => ?_) (fun hq9 => absurd hq9 (fun q => he ((nI_eq (by omega) (by omega)).mp q)))
  refine wp_iload_n d220_24 rfl ?_
  refine wp_ifb_eq d220_25 (tgt := 57) (by decide) (fun hq9 => absurd hi hq9) (fun _ => ?_)
  refine wp_aload_n d220_28 rfl ?_
  refine wp_getf (e := 7) (ci := 12) (k := 0) (nest := false) d220_29 (by decide +kernel) (md_0 hR) rfl ?_
  refine wp_bipush d220_32 (v := nI 8) (by decide) ?_
  refine wp_iload_n d220_34 rfl ?_
  refine wp_iaddv d220_35 (v := nI (8 + z)) (nI_add _ _) ?_
  refine wp_iald d220_36 (md_1 hR) (nI_in (by omega) (by decide)) (v := σ (8 + z)) ((congrArg σ (nI_nat (by omega))).trans rfl) ?_
  refine wp_iconst d220_37 (v := nI 1) (by decide) ?_
  refine wp_icmp_ne d220_38 (tgt := 57) (by decide) (fun _ => ?_) (fun hq9 => absurd hq9 h8)
  refine wp_aload_n d220_57 rfl ?_
  refine wp_iload_n d220_58 rfl ?_
  refine wp_iload_n d220_59 rfl ?_
  refine wp_invvT (e := 66) (j2 := 221) (n := 2) d220_60 (by decide +kernel) (by decide +kernel) rfl rfl rfl (md_0 hR) (by decide +kernel) (Nat.le_of_ble_eq_true rfl) rfl rfl (Nat.le_of_ble_eq_true rfl) (by decide +kernel) (c_excludes hR (z := z) (o := o) (by omega)) ?_
  refine wp_iload_n d220_63 rfl ?_
  refine wp_icmp_ne d220_64 (tgt := 70) (by decide) (fun hq9 => absurd hb hq9) (fun _ => ?_)
  refine wp_bipush d220_67 (v := (-5 : Int32)) (by decide) ?_
  refine wp_iret d220_69 (by decide +kernel) ?_
  exact ⟨rfl, rfl⟩
theorem r_excludeb {X : mX} {h : mH} {R : Nat → Nat → Int32} {σ : Nat → Int32} (hR : Ms h R σ) {mi nR nD nG nW nA n : Nat} (hC : Cn σ mi nR nD nG nW nA) (hn : R 0 5 = nI n) (hn4 : n ≤ 4) {z o : Nat} {is : Bool} (hz : z < 6) (ho : o < 6) (he : ¬ z = o) (hi : is = true) (h8 : ¬ σ (8 + z) = nI 1) (hb : ¬ m_b (F_bit (σ (14 + z)) (nI o)) = m_b (is = true)) : Does X 220 [.ref 313, .int (nI z), .int (nI o), .int (m_b (is = true))] h (F_rec R σ n) (R_excl σ z o) (some (.int (F_bits (σ (14 + z) ^^^ (nI 1 <<< (nI o &&& 31))) 16))) := by
  obtain ⟨⟨h0, hmi⟩, ⟨h2, hR1, hR12⟩, ⟨h3, hD⟩, ⟨h4, hG⟩, ⟨h5, hW⟩, ⟨h6, hA⟩⟩ := hC
  have hF : Frm h h 313 8 := Frm.rf
  refine wp_iload_n d220_0 rfl ?_
  refine wp_invsT (e := 43) (j2 := 209) (n := 1) d220_1 (by decide +kernel) (by decide +kernel) rfl rfl rfl (Nat.le_of_ble_eq_true rfl) (Nat.le_of_ble_eq_true rfl) rfl rfl (Nat.le_of_ble_eq_true rfl) (by decide +kernel) (c_isZone (nI z)) ?_
  refine wp_ifb_eq d220_4 (tgt := 14) (by decide) (fun hq9 => absurd (⟨nI_le (by omega) (by omega), nI_le (by omega) (by omega)⟩ : nI 0 ≤ nI z ∧ nI z ≤ nI 5) hq9) (fun _ => ?_)
  refine wp_iload_n d220_7 rfl ?_
  refine wp_invsT (e := 43) (j2 := 209) (n := 1) d220_8 (by decide +kernel) (by decide +kernel) rfl rfl rfl (Nat.le_of_ble_eq_true rfl) (Nat.le_of_ble_eq_true rfl) rfl rfl (Nat.le_of_ble_eq_true rfl) (by decide +kernel) (c_isZone (nI o)) ?_
  refine wp_ifb_ne d220_11 (tgt := 16) (by decide) (fun _ => ?_) (fun hq9 => absurd (⟨nI_le (by omega) (by omega), nI_le (by omega) (by omega)⟩ : nI 0 ≤ nI o ∧ nI o ≤ nI 5) hq9)
  refine wp_iload_n d220_16 rfl ?_
  refine wp_iload_n d220_17 rfl ?_
  refine wp_icmp_ne d220_18 (tgt := 24) (by decide) (fun _ => ?_) (fun hq9 => absurd hq9 (fun q => he ((nI_eq (by omega) (by omega)).mp q)))
  refine wp_iload_n d220_24 rfl ?_
  refine wp_ifb_eq d220_25 (tgt := 57) (by decide) (fun hq9 => absurd hi hq9) (fun _ => ?_)
  refine wp_aload_n d220_28 rfl ?_
  refine wp_getf (e := 7) (ci := 12) (k := 0) (nest := false) d220_29 (by decide +kernel) (md_0 hR) rfl ?_
  refine wp_bipush d220_32 (v := nI 8) (by decide) ?_
  refine wp_iload_n d220_34 rfl ?_
  refine wp_iaddv d220_35 (v := nI (8 + z)) (nI_add _ _) ?_
  refine wp_iald d220_36 (md_1 hR) (nI_in (by omega) (by decide)) (v := σ (8 + z)) ((congrArg σ (nI_nat (by omega))).trans rfl) ?_
  refine wp_iconst d220_37 (v := nI 1) (by decide) ?_
  refine wp_icmp_ne d220_38 (tgt := 57) (by decide) (fun _ => ?_) (fun hq9 => absurd hq9 h8)
  refine wp_aload_n d220_57 rfl ?_
  refine wp_iload_n d220_58 rfl ?_
  refine wp_iload_n d220_59 rfl ?_
  refine wp_invvT (e := 66) (j2 := 221) (n := 2) d220_60 (by decide +kernel) (by decide +kernel) rfl rfl rfl (md_0 hR) (by decide +kernel) (Nat.le_of_ble_eq_true rfl) rfl rfl (Nat.le_of_ble_eq_true rfl) (by decide +kernel) (c_excludes hR (z := z) (o := o) (by omega)) ?_
  refine wp_iload_n d220_63 rfl ?_
  refine wp_icmp_ne d220_64 (tgt := 70) (by decide) (fun _ => ?_) (fun hq9 => absurd hq9 hb)
  refine wp_aload_n d220_70 rfl ?_
  refine wp_invvD (e := 50) (j2 := 212) (n := 0) d220_71 (by decide +kernel) (by decide +kernel) rfl rfl rfl (md_0 hR) (by decide +kernel) (Nat.le_of_ble_eq_true rfl) rfl rfl (Nat.le_of_ble_eq_true rfl) (by decide +kernel) (c_record hR hn hn4) hF ?_
  intro h hR hF
  refine wp_aload_n d220_74 rfl ?_
  refine wp_getf (e := 7) (ci := 12) (k := 0) (nest := false) d220_75 (by decide +kernel) (md_0 hR) rfl ?_
  refine wp_bipush d220_78 (v := nI 14) (by decide) ?_
  refine wp_iload_n d220_80 rfl ?_
  refine wp_iaddv d220_81 (v := nI (14 + z)) (nI_add _ _) ?_
  refine wp_dup2 d220_82 rfl rfl ?_
  refine wp_iald d220_83 (md_1 hR) (nI_in (by omega) (by decide)) (v := σ (14 + z)) ((congrArg σ (nI_nat (by omega))).trans rfl) ?_
  refine wp_iconst d220_84 (v := nI 1) (by decide) ?_
  refine wp_iload_n d220_85 rfl ?_
  refine wp_ishl d220_86 ?_
  refine wp_ixor d220_87 ?_
  refine wp_stS d220_88 hR hF (k := 14 + z) (by omega) (fun h hR hF => ?_)
  refine wp_aload_n d220_89 rfl ?_
  refine wp_getf (e := 7) (ci := 12) (k := 0) (nest := false) d220_90 (by decide +kernel) (md_0 hR) rfl ?_
  refine wp_bipush d220_93 (v := nI 14) (by decide) ?_
  refine wp_iload_n d220_95 rfl ?_
  refine wp_iaddv d220_96 (v := nI (14 + o)) (nI_add _ _) ?_
  refine wp_dup2 d220_97 rfl rfl ?_
  refine wp_iald d220_98 (md_1 hR) (nI_in (by omega) (by decide)) (v := σ (14 + o)) ((congrArg ((upd σ (14 + z) (((σ (14 + z)) ^^^ ((nI 1) <<< ((nI o) &&& 31)))))) (nI_nat (by omega))).trans ((upd_ne (by omega)).trans rfl)) ?_
  refine wp_iconst d220_99 (v := nI 1) (by decide) ?_
  refine wp_iload_n d220_100 rfl ?_
  refine wp_ishl d220_101 ?_
  refine wp_ixor d220_102 ?_
  refine wp_stS d220_103 hR hF (k := 14 + o) (by omega) (fun h hR hF => ?_)
  refine wp_aload_n d220_104 rfl ?_
  refine wp_getf (e := 7) (ci := 12) (k := 0) (nest := false) d220_105 (by decide +kernel) (md_0 hR) rfl ?_
  refine wp_bipush d220_108 (v := nI 14) (by decide) ?_
  refine wp_iload_n d220_110 rfl ?_
  refine wp_iaddv d220_111 (v := nI (14 + z)) (nI_add _ _) ?_
  refine wp_iald d220_112 (md_1 hR) (nI_in (by omega) (by decide)) (v := ((σ (14 + z)) ^^^ ((nI 1) <<< ((nI o) &&& 31)))) ((congrArg ((upd (upd σ (14 + z) (((σ (14 + z)) ^^^ ((nI 1) <<< ((nI o) &&& 31))))) (14 + o) (((σ (14 + o)) ^^^ ((nI 1) <<< ((nI z) &&& 31)))))) (nI_nat (by omega))).trans ((upd_ne (by omega)).trans upd_eq)) ?_
  refine wp_invsT (e := 70) (j2 := 222) (n := 1) d220_113 (by decide +kernel) (by decide +kernel) rfl rfl rfl (Nat.le_of_ble_eq_true rfl) (Nat.le_of_ble_eq_true rfl) rfl rfl (Nat.le_of_ble_eq_true rfl) (by decide +kernel) (c_bitsIn (((σ (14 + z)) ^^^ ((nI 1) <<< ((nI o) &&& 31))))) ?_
  refine wp_iret d220_116 (by decide +kernel) ?_
  exact ⟨rfl, hR, hF⟩
theorem r_exclude_5c {X : mX} {h : mH} {R : Nat → Nat → Int32} {σ : Nat → Int32} (hR : Ms h R σ) {mi nR nD nG nW nA n : Nat} (hC : Cn σ mi nR nD nG nW nA) (hn : R 0 5 = nI n) (hn4 : n ≤ 4) {z o : Nat} {is : Bool} (hz : z < 6) (ho : o < 6) (he : ¬ z = o) (hi : is = true) (h8 : σ (8 + z) = nI 1) (h9 : ¬ σ (8 + o) = nI 1) (hb : m_b (F_bit (σ (14 + z)) (nI o)) = m_b (is = true)) : Tells X 220 [.ref 313, .int (nI z), .int (nI o), .int (m_b (is = true))] h (-5) := by
  obtain ⟨⟨h0, hmi⟩, ⟨h2, hR1, hR12⟩, ⟨h3, hD⟩, ⟨h4, hG⟩, ⟨h5, hW⟩, ⟨h6, hA⟩⟩ := hC
  refine wp_iload_n d220_0 rfl ?_
  refine wp_invsT (e := 43) (j2 := 209) (n := 1) d220_1 (by decide +kernel) (by decide +kernel) rfl rfl rfl (Nat.le_of_ble_eq_true rfl) (Nat.le_of_ble_eq_true rfl) rfl rfl (Nat.le_of_ble_eq_true rfl) (by decide +kernel) (c_isZone (nI z)) ?_
  refine wp_ifb_eq d220_4 (tgt := 14) (by decide) (fun hq9 => absurd (⟨nI_le (by omega) (by omega), nI_le (by omega) (by omega)⟩ : nI 0 ≤ nI z ∧ nI z ≤ nI 5) hq9) (fun _ => ?_)
  refine wp_iload_n d220_7 rfl ?_
  refine wp_invsT (e := 43) (j2 := 209) (n := 1) d220_8 (by decide +kernel) (by decide +kernel) rfl rfl rfl (Nat.le_of_ble_eq_true rfl) (Nat.le_of_ble_eq_true rfl) rfl rfl (Nat.le_of_ble_eq_true rfl) (by decide +kernel) (c_isZone (nI o)) ?_
  refine wp_ifb_ne d220_11 (tgt := 16) (by decide) (fun _ => ?_) (fun hq9 => absurd (⟨nI_le (by omega) (by omega), nI_le (by omega) (by omega)⟩ : nI 0 ≤ nI o ∧ nI o ≤ nI 5) hq9)
  refine wp_iload_n d220_16 rfl ?_
  refine wp_iload_n d220_17 rfl ?_
  refine wp_icmp_ne d220_18 (tgt := 24) (by decide) (fun _ => ?_) (fun hq9 => absurd hq9 (fun q => he ((nI_eq (by omega) (by omega)).mp q)))
  refine wp_iload_n d220_24 rfl ?_
  refine wp_ifb_eq d220_25 (tgt := 57) (by decide) (fun hq9 => absurd hi hq9) (fun _ => ?_)
  refine wp_aload_n d220_28 rfl ?_
  refine wp_getf (e := 7) (ci := 12) (k := 0) (nest := false) d220_29 (by decide +kernel) (md_0 hR) rfl ?_
  refine wp_bipush d220_32 (v := nI 8) (by decide) ?_
  refine wp_iload_n d220_34 rfl ?_
  refine wp_iaddv d220_35 (v := nI (8 + z)) (nI_add _ _) ?_
  refine wp_iald d220_36 (md_1 hR) (nI_in (by omega) (by decide)) (v := σ (8 + z)) ((congrArg σ (nI_nat (by omega))).trans rfl) ?_
  refine wp_iconst d220_37 (v := nI 1) (by decide) ?_
  refine wp_icmp_ne d220_38 (tgt := 57) (by decide) (fun hq9 => absurd h8 hq9) (fun _ => ?_)
  refine wp_aload_n d220_41 rfl ?_
  refine wp_getf (e := 7) (ci := 12) (k := 0) (nest := false) d220_42 (by decide +kernel) (md_0 hR) rfl ?_
  refine wp_bipush d220_45 (v := nI 8) (by decide) ?_
  refine wp_iload_n d220_47 rfl ?_
  refine wp_iaddv d220_48 (v := nI (8 + o)) (nI_add _ _) ?_
  refine wp_iald d220_49 (md_1 hR) (nI_in (by omega) (by decide)) (v := σ (8 + o)) ((congrArg σ (nI_nat (by omega))).trans rfl) ?_
  refine wp_iconst d220_50 (v := nI 1) (by decide) ?_
  refine wp_icmp_ne d220_51 (tgt := 57) (by decide) (fun _ => ?_) (fun hq9 => absurd hq9 h9)
  refine wp_aload_n d220_57 rfl ?_
  refine wp_iload_n d220_58 rfl ?_
  refine wp_iload_n d220_59 rfl ?_
  refine wp_invvT (e := 66) (j2 := 221) (n := 2) d220_60 (by decide +kernel) (by decide +kernel) rfl rfl rfl (md_0 hR) (by decide +kernel) (Nat.le_of_ble_eq_true rfl) rfl rfl (Nat.le_of_ble_eq_true rfl) (by decide +kernel) (c_excludes hR (z := z) (o := o) (by omega)) ?_
  refine wp_iload_n d220_63 rfl ?_
  refine wp_icmp_ne d220_64 (tgt := 70) (by decide) (fun hq9 => absurd hb hq9) (fun _ => ?_)
  refine wp_bipush d220_67 (v := (-5 : Int32)) (by decide) ?_
  refine wp_iret d220_69 (by decide +kernel) ?_
  exact ⟨rfl, rfl⟩
theorem r_excludec {X : mX} {h : mH} {R : Nat → Nat → Int32} {σ : Nat → Int32} (hR : Ms h R σ) {mi nR nD nG nW nA n : Nat} (hC : Cn σ mi nR nD nG nW nA) (hn : R 0 5 = nI n) (hn4 : n ≤ 4) {z o : Nat} {is : Bool} (hz : z < 6) (ho : o < 6) (he : ¬ z = o) (hi : is = true) (h8 : σ (8 + z) = nI 1) (h9 : ¬ σ (8 + o) = nI 1) (hb : ¬ m_b (F_bit (σ (14 + z)) (nI o)) = m_b (is = true)) : Does X 220 [.ref 313, .int (nI z), .int (nI o), .int (m_b (is = true))] h (F_rec R σ n) (R_excl σ z o) (some (.int (F_bits (σ (14 + z) ^^^ (nI 1 <<< (nI o &&& 31))) 16))) := by
  obtain ⟨⟨h0, hmi⟩, ⟨h2, hR1, hR12⟩, ⟨h3, hD⟩, ⟨h4, hG⟩, ⟨h5, hW⟩, ⟨h6, hA⟩⟩ := hC
  have hF : Frm h h 313 8 := Frm.rf
  refine wp_iload_n d220_0 rfl ?_
  refine wp_invsT (e := 43) (j2 := 209) (n := 1) d220_1 (by decide +kernel) (by decide +kernel) rfl rfl rfl (Nat.le_of_ble_eq_true rfl) (Nat.le_of_ble_eq_true rfl) rfl rfl (Nat.le_of_ble_eq_true rfl) (by decide +kernel) (c_isZone (nI z)) ?_
  refine wp_ifb_eq d220_4 (tgt := 14) (by decide) (fun hq9 => absurd (⟨nI_le (by omega) (by omega), nI_le (by omega) (by omega)⟩ : nI 0 ≤ nI z ∧ nI z ≤ nI 5) hq9) (fun _ => ?_)
  refine wp_iload_n d220_7 rfl ?_
  refine wp_invsT (e := 43) (j2 := 209) (n := 1) d220_8 (by decide +kernel) (by decide +kernel) rfl rfl rfl (Nat.le_of_ble_eq_true rfl) (Nat.le_of_ble_eq_true rfl) rfl rfl (Nat.le_of_ble_eq_true rfl) (by decide +kernel) (c_isZone (nI o)) ?_
  refine wp_ifb_ne d220_11 (tgt := 16) (by decide) (fun _ => ?_) (fun hq9 => absurd (⟨nI_le (by omega) (by omega), nI_le (by omega) (by omega)⟩ : nI 0 ≤ nI o ∧ nI o ≤ nI 5) hq9)
  refine wp_iload_n d220_16 rfl ?_
  refine wp_iload_n d220_17 rfl ?_
  refine wp_icmp_ne d220_18 (tgt := 24) (by decide) (fun _ => ?_) (fun hq9 => absurd hq9 (fun q => he ((nI_eq (by omega) (by omega)).mp q)))
  refine wp_iload_n d220_24 rfl ?_
  refine wp_ifb_eq d220_25 (tgt := 57) (by decide) (fun hq9 => absurd hi hq9) (fun _ => ?_)
  refine wp_aload_n d220_28 rfl ?_
  refine wp_getf (e := 7) (ci := 12) (k := 0) (nest := false) d220_29 (by decide +kernel) (md_0 hR) rfl ?_
  refine wp_bipush d220_32 (v := nI 8) (by decide) ?_
  refine wp_iload_n d220_34 rfl ?_
  refine wp_iaddv d220_35 (v := nI (8 + z)) (nI_add _ _) ?_
  refine wp_iald d220_36 (md_1 hR) (nI_in (by omega) (by decide)) (v := σ (8 + z)) ((congrArg σ (nI_nat (by omega))).trans rfl) ?_
  refine wp_iconst d220_37 (v := nI 1) (by decide) ?_
  refine wp_icmp_ne d220_38 (tgt := 57) (by decide) (fun hq9 => absurd h8 hq9) (fun _ => ?_)
  refine wp_aload_n d220_41 rfl ?_
  refine wp_getf (e := 7) (ci := 12) (k := 0) (nest := false) d220_42 (by decide +kernel) (md_0 hR) rfl ?_
  refine wp_bipush d220_45 (v := nI 8) (by decide) ?_
  refine wp_iload_n d220_47 rfl ?_
  refine wp_iaddv d220_48 (v := nI (8 + o)) (nI_add _ _) ?_
  refine wp_iald d220_49 (md_1 hR) (nI_in (by omega) (by decide)) (v := σ (8 + o)) ((congrArg σ (nI_nat (by omega))).trans rfl) ?_
  refine wp_iconst d220_50 (v := nI 1) (by decide) ?_
  refine wp_icmp_ne d220_51 (tgt := 57) (by decide) (fun _ => ?_) (fun hq9 => absurd hq9 h9)
  refine wp_aload_n d220_57 rfl ?_
  refine wp_iload_n d220_58 rfl ?_
  refine wp_iload_n d220_59 rfl ?_
  refine wp_invvT (e := 66) (j2 := 221) (n := 2) d220_60 (by decide +kernel) (by decide +kernel) rfl rfl rfl (md_0 hR) (by decide +kernel) (Nat.le_of_ble_eq_true rfl) rfl rfl (Nat.le_of_ble_eq_true rfl) (by decide +kernel) (c_excludes hR (z := z) (o := o) (by omega)) ?_
  refine wp_iload_n d220_63 rfl ?_
  refine wp_icmp_ne d220_64 (tgt := 70) (by decide) (fun _ => ?_) (fun hq9 => absurd hq9 hb)
  refine wp_aload_n d220_70 rfl ?_
  refine wp_invvD (e := 50) (j2 := 212) (n := 0) d220_71 (by decide +kernel) (by decide +kernel) rfl rfl rfl (md_0 hR) (by decide +kernel) (Nat.le_of_ble_eq_true rfl) rfl rfl (Nat.le_of_ble_eq_true rfl) (by decide +kernel) (c_record hR hn hn4) hF ?_
  intro h hR hF
  refine wp_aload_n d220_74 rfl ?_
  refine wp_getf (e := 7) (ci := 12) (k := 0) (nest := false) d220_75 (by decide +kernel) (md_0 hR) rfl ?_
  refine wp_bipush d220_78 (v := nI 14) (by decide) ?_
  refine wp_iload_n d220_80 rfl ?_
  refine wp_iaddv d220_81 (v := nI (14 + z)) (nI_add _ _) ?_
  refine wp_dup2 d220_82 rfl rfl ?_
  refine wp_iald d220_83 (md_1 hR) (nI_in (by omega) (by decide)) (v := σ (14 + z)) ((congrArg σ (nI_nat (by omega))).trans rfl) ?_
  refine wp_iconst d220_84 (v := nI 1) (by decide) ?_
  refine wp_iload_n d220_85 rfl ?_
  refine wp_ishl d220_86 ?_
  refine wp_ixor d220_87 ?_
  refine wp_stS d220_88 hR hF (k := 14 + z) (by omega) (fun h hR hF => ?_)
  refine wp_aload_n d220_89 rfl ?_
  refine wp_getf (e := 7) (ci := 12) (k := 0) (nest := false) d220_90 (by decide +kernel) (md_0 hR) rfl ?_
  refine wp_bipush d220_93 (v := nI 14) (by decide) ?_
  refine wp_iload_n d220_95 rfl ?_
  refine wp_iaddv d220_96 (v := nI (14 + o)) (nI_add _ _) ?_
  refine wp_dup2 d220_97 rfl rfl ?_
  refine wp_iald d220_98 (md_1 hR) (nI_in (by omega) (by decide)) (v := σ (14 + o)) ((congrArg ((upd σ (14 + z) (((σ (14 + z)) ^^^ ((nI 1) <<< ((nI o) &&& 31)))))) (nI_nat (by omega))).trans ((upd_ne (by omega)).trans rfl)) ?_
  refine wp_iconst d220_99 (v := nI 1) (by decide) ?_
  refine wp_iload_n d220_100 rfl ?_
  refine wp_ishl d220_101 ?_
  refine wp_ixor d220_102 ?_
  refine wp_stS d220_103 hR hF (k := 14 + o) (by omega) (fun h hR hF => ?_)
  refine wp_aload_n d220_104 rfl ?_
  refine wp_getf (e := 7) (ci := 12) (k := 0) (nest := false) d220_105 (by decide +kernel) (md_0 hR) rfl ?_
  refine wp_bipush d220_108 (v := nI 14) (by decide) ?_
  refine wp_iload_n d220_110 rfl ?_
  refine wp_iaddv d220_111 (v := nI (14 + z)) (nI_add _ _) ?_
  refine wp_iald d220_112 (md_1 hR) (nI_in (by omega) (by decide)) (v := ((σ (14 + z)) ^^^ ((nI 1) <<< ((nI o) &&& 31)))) ((congrArg ((upd (upd σ (14 + z) (((σ (14 + z)) ^^^ ((nI 1) <<< ((nI o) &&& 31))))) (14 + o) (((σ (14 + o)) ^^^ ((nI 1) <<< ((nI z) &&& 31)))))) (nI_nat (by omega))).trans ((upd_ne (by omega)).trans upd_eq)) ?_
  refine wp_invsT (e := 70) (j2 := 222) (n := 1) d220_113 (by decide +kernel) (by decide +kernel) rfl rfl rfl (Nat.le_of_ble_eq_true rfl) (Nat.le_of_ble_eq_true rfl) rfl rfl (Nat.le_of_ble_eq_true rfl) (by decide +kernel) (c_bitsIn (((σ (14 + z)) ^^^ ((nI 1) <<< ((nI o) &&& 31))))) ?_
  refine wp_iret d220_116 (by decide +kernel) ?_
  exact ⟨rfl, hR, hF⟩
theorem r_openZone_1 {X : mX} {h : mH} {R : Nat → Nat → Int32} {σ : Nat → Int32} (hR : Ms h R σ) {mi nR nD nG nW nA n : Nat} (hC : Cn σ mi nR nD nG nW nA) (hn : R 0 5 = nI n) (hn4 : n ≤ 4) {x : Int32} (hx : ¬ (nI 0 ≤ x ∧ x ≤ nI 5)) : Tells X 223 [.ref 313, .int (x)] h (-1) := by
  obtain ⟨⟨h0, hmi⟩, ⟨h2, hR1, hR12⟩, ⟨h3, hD⟩, ⟨h4, hG⟩, ⟨h5, hW⟩, ⟨h6, hA⟩⟩ := hC
  refine wp_iload_n d223_0 rfl ?_
  refine wp_invsT (e := 43) (j2 := 209) (n := 1) d223_1 (by decide +kernel) (by decide +kernel) rfl rfl rfl (Nat.le_of_ble_eq_true rfl) (Nat.le_of_ble_eq_true rfl) rfl rfl (Nat.le_of_ble_eq_true rfl) (by decide +kernel) (c_isZone (x)) ?_
  refine wp_ifb_ne d223_4 (tgt := 11) (by decide) (fun hq9 => absurd hq9 hx) (fun _ => ?_)
  refine wp_iconst d223_7 (v := (-1 : Int32)) (by decide) ?_
  refine wp_goto d223_8 (tgt := 43) (by decide) ?_
  refine wp_istore_n d223_43 (Nat.le_of_ble_eq_true rfl) rfl ?_
  refine wp_iload_n d223_44 rfl ?_
  refine wp_if_ge d223_45 (tgt := 50) (by decide) (fun hz => absurd hz (by decide)) (fun _ => ?_)
  refine wp_iload_n d223_48 rfl ?_
  refine wp_iret d223_49 (by decide +kernel) ?_
  exact ⟨rfl, rfl⟩
theorem r_openZone_2 {X : mX} {h : mH} {R : Nat → Nat → Int32} {σ : Nat → Int32} (hR : Ms h R σ) {mi nR nD nG nW nA n : Nat} (hC : Cn σ mi nR nD nG nW nA) (hn : R 0 5 = nI n) (hn4 : n ≤ 4) {z : Nat} (hz : z < 6) (hb : F_bar σ z 6 = true) : Tells X 223 [.ref 313, .int (nI z)] h (-4) := by
  obtain ⟨⟨h0, hmi⟩, ⟨h2, hR1, hR12⟩, ⟨h3, hD⟩, ⟨h4, hG⟩, ⟨h5, hW⟩, ⟨h6, hA⟩⟩ := hC
  refine wp_iload_n d223_0 rfl ?_
  refine wp_invsT (e := 43) (j2 := 209) (n := 1) d223_1 (by decide +kernel) (by decide +kernel) rfl rfl rfl (Nat.le_of_ble_eq_true rfl) (Nat.le_of_ble_eq_true rfl) rfl rfl (Nat.le_of_ble_eq_true rfl) (by decide +kernel) (c_isZone (nI z)) ?_
  refine wp_ifb_ne d223_4 (tgt := 11) (by decide) (fun _ => ?_) (fun hq9 => absurd (⟨nI_le (by omega) (by omega), nI_le (by omega) (by omega)⟩ : nI 0 ≤ nI z ∧ nI z ≤ nI 5) hq9)
  refine wp_aload_n d223_11 rfl ?_
  refine wp_iload_n d223_12 rfl ?_
  refine wp_invvT (e := 74) (j2 := 224) (n := 1) d223_13 (by decide +kernel) (by decide +kernel) rfl rfl rfl (md_0 hR) (by decide +kernel) (Nat.le_of_ble_eq_true rfl) rfl rfl (Nat.le_of_ble_eq_true rfl) (by decide +kernel) (c_isBarred hR (z := z) (by omega)) ?_
  refine wp_ifb_eq d223_16 (tgt := 24) (by decide) (fun hq9 => absurd hb hq9) (fun _ => ?_)
  refine wp_bipush d223_19 (v := (-4 : Int32)) (by decide) ?_
  refine wp_goto d223_21 (tgt := 43) (by decide) ?_
  refine wp_istore_n d223_43 (Nat.le_of_ble_eq_true rfl) rfl ?_
  refine wp_iload_n d223_44 rfl ?_
  refine wp_if_ge d223_45 (tgt := 50) (by decide) (fun hz => absurd hz (by decide)) (fun _ => ?_)
  refine wp_iload_n d223_48 rfl ?_
  refine wp_iret d223_49 (by decide +kernel) ?_
  exact ⟨rfl, rfl⟩
theorem r_openZone_3 {X : mX} {h : mH} {R : Nat → Nat → Int32} {σ : Nat → Int32} (hR : Ms h R σ) {mi nR nD nG nW nA n : Nat} (hC : Cn σ mi nR nD nG nW nA) (hn : R 0 5 = nI n) (hn4 : n ≤ 4) {z : Nat} (hz : z < 6) (hb : ¬ F_bar σ z 6 = true) (h8 : σ (8 + z) = nI 1) : Tells X 223 [.ref 313, .int (nI z)] h (-5) := by
  obtain ⟨⟨h0, hmi⟩, ⟨h2, hR1, hR12⟩, ⟨h3, hD⟩, ⟨h4, hG⟩, ⟨h5, hW⟩, ⟨h6, hA⟩⟩ := hC
  refine wp_iload_n d223_0 rfl ?_
  refine wp_invsT (e := 43) (j2 := 209) (n := 1) d223_1 (by decide +kernel) (by decide +kernel) rfl rfl rfl (Nat.le_of_ble_eq_true rfl) (Nat.le_of_ble_eq_true rfl) rfl rfl (Nat.le_of_ble_eq_true rfl) (by decide +kernel) (c_isZone (nI z)) ?_
  refine wp_ifb_ne d223_4 (tgt := 11) (by decide) (fun _ => ?_) (fun hq9 => absurd (⟨nI_le (by omega) (by omega), nI_le (by omega) (by omega)⟩ : nI 0 ≤ nI z ∧ nI z ≤ nI 5) hq9)
  refine wp_aload_n d223_11 rfl ?_
  refine wp_iload_n d223_12 rfl ?_
  refine wp_invvT (e := 74) (j2 := 224) (n := 1) d223_13 (by decide +kernel) (by decide +kernel) rfl rfl rfl (md_0 hR) (by decide +kernel) (Nat.le_of_ble_eq_true rfl) rfl rfl (Nat.le_of_ble_eq_true rfl) (by decide +kernel) (c_isBarred hR (z := z) (by omega)) ?_
  refine wp_ifb_eq d223_16 (tgt := 24) (by decide) (fun _ => ?_) (fun hq9 => absurd hq9 hb)
  refine wp_aload_n d223_24 rfl ?_
  refine wp_getf (e := 7) (ci := 12) (k := 0) (nest := false) d223_25 (by decide +kernel) (md_0 hR) rfl ?_
  refine wp_bipush d223_28 (v := nI 8) (by decide) ?_
  refine wp_iload_n d223_30 rfl ?_
  refine wp_iaddv d223_31 (v := nI (8 + z)) (nI_add _ _) ?_
  refine wp_iald d223_32 (md_1 hR) (nI_in (by omega) (by decide)) (v := σ (8 + z)) ((congrArg σ (nI_nat (by omega))).trans rfl) ?_
  refine wp_iconst d223_33 (v := nI 1) (by decide) ?_
  refine wp_icmp_ne d223_34 (tgt := 42) (by decide) (fun hq9 => absurd h8 hq9) (fun _ => ?_)
  refine wp_bipush d223_37 (v := (-5 : Int32)) (by decide) ?_
  refine wp_goto d223_39 (tgt := 43) (by decide) ?_
  refine wp_istore_n d223_43 (Nat.le_of_ble_eq_true rfl) rfl ?_
  refine wp_iload_n d223_44 rfl ?_
  refine wp_if_ge d223_45 (tgt := 50) (by decide) (fun hz => absurd hz (by decide)) (fun _ => ?_)
  refine wp_iload_n d223_48 rfl ?_
  refine wp_iret d223_49 (by decide +kernel) ?_
  exact ⟨rfl, rfl⟩
theorem r_openZone {X : mX} {h : mH} {R : Nat → Nat → Int32} {σ : Nat → Int32} (hR : Ms h R σ) {mi nR nD nG nW nA n : Nat} (hC : Cn σ mi nR nD nG nW nA) (hn : R 0 5 = nI n) (hn4 : n ≤ 4) {z : Nat} (hz : z < 6) (hb : ¬ F_bar σ z 6 = true) (h8 : ¬ σ (8 + z) = nI 1) : Does X 223 [.ref 313, .int (nI z)] h (F_rec R σ n) (upd σ (8 + z) (nI 1)) (some (.int (F_oz (upd σ (8 + z) (nI 1)) 6))) := by
  obtain ⟨⟨h0, hmi⟩, ⟨h2, hR1, hR12⟩, ⟨h3, hD⟩, ⟨h4, hG⟩, ⟨h5, hW⟩, ⟨h6, hA⟩⟩ := hC
  have hF : Frm h h 313 8 := Frm.rf
  refine wp_iload_n d223_0 rfl ?_
  refine wp_invsT (e := 43) (j2 := 209) (n := 1) d223_1 (by decide +kernel) (by decide +kernel) rfl rfl rfl (Nat.le_of_ble_eq_true rfl) (Nat.le_of_ble_eq_true rfl) rfl rfl (Nat.le_of_ble_eq_true rfl) (by decide +kernel) (c_isZone (nI z)) ?_
  refine wp_ifb_ne d223_4 (tgt := 11) (by decide) (fun _ => ?_) (fun hq9 => absurd (⟨nI_le (by omega) (by omega), nI_le (by omega) (by omega)⟩ : nI 0 ≤ nI z ∧ nI z ≤ nI 5) hq9)
  refine wp_aload_n d223_11 rfl ?_
  refine wp_iload_n d223_12 rfl ?_
  refine wp_invvT (e := 74) (j2 := 224) (n := 1) d223_13 (by decide +kernel) (by decide +kernel) rfl rfl rfl (md_0 hR) (by decide +kernel) (Nat.le_of_ble_eq_true rfl) rfl rfl (Nat.le_of_ble_eq_true rfl) (by decide +kernel) (c_isBarred hR (z := z) (by omega)) ?_
  refine wp_ifb_eq d223_16 (tgt := 24) (by decide) (fun _ => ?_) (fun hq9 => absurd hq9 hb)
  refine wp_aload_n d223_24 rfl ?_
  refine wp_getf (e := 7) (ci := 12) (k := 0) (nest := false) d223_25 (by decide +kernel) (md_0 hR) rfl ?_
  refine wp_bipush d223_28 (v := nI 8) (by decide) ?_
  refine wp_iload_n d223_30 rfl ?_
  refine wp_iaddv d223_31 (v := nI (8 + z)) (nI_add _ _) ?_
  refine wp_iald d223_32 (md_1 hR) (nI_in (by omega) (by decide)) (v := σ (8 + z)) ((congrArg σ (nI_nat (by omega))).trans rfl) ?_
  refine wp_iconst d223_33 (v := nI 1) (by decide) ?_
  refine wp_icmp_ne d223_34 (tgt := 42) (by decide) (fun _ => ?_) (fun hq9 => absurd hq9 h8)
  refine wp_iconst d223_42 (v := nI 0) (by decide) ?_
  refine wp_istore_n d223_43 (Nat.le_of_ble_eq_true rfl) rfl ?_
  refine wp_iload_n d223_44 rfl ?_
  refine wp_if_ge d223_45 (tgt := 50) (by decide) (fun _ => ?_) (fun hz => absurd hz (by decide))
  refine wp_aload_n d223_50 rfl ?_
  refine wp_invvD (e := 50) (j2 := 212) (n := 0) d223_51 (by decide +kernel) (by decide +kernel) rfl rfl rfl (md_0 hR) (by decide +kernel) (Nat.le_of_ble_eq_true rfl) rfl rfl (Nat.le_of_ble_eq_true rfl) (by decide +kernel) (c_record hR hn hn4) hF ?_
  intro h hR hF
  refine wp_aload_n d223_54 rfl ?_
  refine wp_getf (e := 7) (ci := 12) (k := 0) (nest := false) d223_55 (by decide +kernel) (md_0 hR) rfl ?_
  refine wp_bipush d223_58 (v := nI 8) (by decide) ?_
  refine wp_iload_n d223_60 rfl ?_
  refine wp_iaddv d223_61 (v := nI (8 + z)) (nI_add _ _) ?_
  refine wp_iconst d223_62 (v := nI 1) (by decide) ?_
  refine wp_stS d223_63 hR hF (k := 8 + z) (by omega) (fun h hR hF => ?_)
  refine wp_aload_n d223_64 rfl ?_
  refine wp_invvT (e := 77) (j2 := 225) (n := 0) d223_65 (by decide +kernel) (by decide +kernel) rfl rfl rfl (md_0 hR) (by decide +kernel) (Nat.le_of_ble_eq_true rfl) rfl rfl (Nat.le_of_ble_eq_true rfl) (by decide +kernel) (c_openZones hR) ?_
  refine wp_iret d223_68 (by decide +kernel) ?_
  exact ⟨rfl, hR, hF⟩
theorem r_addGuard_1 {X : mX} {h : mH} {R : Nat → Nat → Int32} {σ : Nat → Int32} (hR : Ms h R σ) {mi nR nD nG nW nA n : Nat} (hC : Cn σ mi nR nD nG nW nA) (hn : R 0 5 = nI n) (hn4 : n ≤ 4) (hf : nG = 4) : Tells X 229 [.ref 313] h (-3) := by
  obtain ⟨⟨h0, hmi⟩, ⟨h2, hR1, hR12⟩, ⟨h3, hD⟩, ⟨h4, hG⟩, ⟨h5, hW⟩, ⟨h6, hA⟩⟩ := hC
  refine wp_aload_n d229_0 rfl ?_
  refine wp_getf (e := 7) (ci := 12) (k := 0) (nest := false) d229_1 (by decide +kernel) (md_0 hR) rfl ?_
  refine wp_iconst d229_4 (v := nI 4) (by decide) ?_
  refine wp_iald d229_5 (md_1 hR) (nI_in (by omega) (by decide)) (v := nI nG) ((congrArg σ (nI_nat (by omega))).trans h4) ?_
  refine wp_iconst d229_6 (v := nI 4) (by decide) ?_
  refine wp_icmp_ne d229_7 (tgt := 13) (by decide) (fun hq9 => absurd (by rw [hf] : nI nG = nI 4) hq9) (fun _ => ?_)
  refine wp_bipush d229_10 (v := (-3 : Int32)) (by decide) ?_
  refine wp_iret d229_12 (by decide +kernel) ?_
  exact ⟨rfl, rfl⟩
def R_addGuard (σ : Nat → Int32) (nG mi : Nat) : Nat → Int32 := upd (G_set (G_set (G_clr σ (192 + 10 * nG) 10) nG 1 (-5)) nG 9 (nI mi)) 4 (nI (nG + 1))
theorem r_addGuard_l {X : mX}  {h0 : mH} {R : Nat → Nat → Int32} {σ : Nat → Int32} {nG : Nat} (hg : nG < 4) {Q : Option Value → mH → Prop} : ∀ (d : Nat) (k : Nat) (h : mH), 10 - k = d → k ≤ 10 → Ms h R (G_clr σ (192 + 10 * nG) k) → Frm h0 h 313 8 → (∀ h1, Ms h1 R (G_clr σ (192 + 10 * nG) 10) → Frm h0 h1 313 8 → ∀ v, m_wp X 229 45 [some (.ref 313), some (.int (nI nG)), some (.int v)] [] h1 Q) → m_wp X 229 26 [some (.ref 313), some (.int (nI nG)), some (.int (nI k))] [] h Q := by
  intro d
  induction d using Nat.strongRecOn with
  | ind d ih =>
    intro k h hd hk hR hF K
    refine wp_iload_n d229_26 rfl ?_
    refine wp_bipush d229_27 (v := nI 10) (by decide) ?_
    refine wp_icmp_ge d229_29 (tgt := 45) (by decide) (fun hc29 => ?_) (fun hc29 => ?_)
    · have hc29 : 10 ≤ k := (nI_leI (by omega) (by omega)).mp hc29
      rw [show k = 10 by omega] at hR
      exact K h hR hF _
    · have hc29 : ¬ (10 ≤ k) := fun z => hc29 ((nI_leI (by omega) (by omega)).mpr z)
      refine wp_aload_n d229_32 rfl ?_
      refine wp_iload_n d229_33 rfl ?_
      refine wp_iload_n d229_34 rfl ?_
      refine wp_iconst d229_35 (v := nI 0) (by decide) ?_
      refine wp_invvD (e := 87) (j2 := 230) (n := 3) d229_36 (by decide +kernel) (by decide +kernel) rfl rfl rfl (md_0 hR) (by decide +kernel) (Nat.le_of_ble_eq_true rfl) rfl rfl (Nat.le_of_ble_eq_true rfl) (by decide +kernel) (c_setGuard hR (g := nG) (p := k) (by omega) (by omega) (nI 0)) hF ?_
      intro h hR hF
      refine wp_iinc d229_39 rfl (v := nI (k + 1)) (nI_add _ 1) (Nat.le_of_ble_eq_true rfl) rfl ?_
      refine wp_goto d229_42 (tgt := 26) (by decide) ?_
      exact ih (10 - (k + 1)) (by omega) (k + 1) h rfl (by omega) hR hF K
theorem r_addGuard {X : mX} {h : mH} {R : Nat → Nat → Int32} {σ : Nat → Int32} (hR : Ms h R σ) {mi nR nD nG nW nA n : Nat} (hC : Cn σ mi nR nD nG nW nA) (hn : R 0 5 = nI n) (hn4 : n ≤ 4) (hf : ¬ nG = 4) : Does X 229 [.ref 313] h (F_rec R σ n) (R_addGuard σ nG mi) (some (.int (nI nG))) := by
  obtain ⟨⟨h0, hmi⟩, ⟨h2, hR1, hR12⟩, ⟨h3, hD⟩, ⟨h4, hG⟩, ⟨h5, hW⟩, ⟨h6, hA⟩⟩ := hC
  have hF : Frm h h 313 8 := Frm.rf
  refine wp_aload_n d229_0 rfl ?_
  refine wp_getf (e := 7) (ci := 12) (k := 0) (nest := false) d229_1 (by decide +kernel) (md_0 hR) rfl ?_
  refine wp_iconst d229_4 (v := nI 4) (by decide) ?_
  refine wp_iald d229_5 (md_1 hR) (nI_in (by omega) (by decide)) (v := nI nG) ((congrArg σ (nI_nat (by omega))).trans h4) ?_
  refine wp_iconst d229_6 (v := nI 4) (by decide) ?_
  refine wp_icmp_ne d229_7 (tgt := 13) (by decide) (fun _ => ?_) (fun hq9 => absurd hq9 (fun q => hf ((nI_eq (by omega) (by omega)).mp q)))
  refine wp_aload_n d229_13 rfl ?_
  refine wp_invvD (e := 50) (j2 := 212) (n := 0) d229_14 (by decide +kernel) (by decide +kernel) rfl rfl rfl (md_0 hR) (by decide +kernel) (Nat.le_of_ble_eq_true rfl) rfl rfl (Nat.le_of_ble_eq_true rfl) (by decide +kernel) (c_record hR hn hn4) hF ?_
  intro h hR hF
  refine wp_aload_n d229_17 rfl ?_
  refine wp_getf (e := 7) (ci := 12) (k := 0) (nest := false) d229_18 (by decide +kernel) (md_0 hR) rfl ?_
  refine wp_iconst d229_21 (v := nI 4) (by decide) ?_
  refine wp_iald d229_22 (md_1 hR) (nI_in (by omega) (by decide)) (v := nI nG) ((congrArg σ (nI_nat (by omega))).trans h4) ?_
  refine wp_istore_n d229_23 (Nat.le_of_ble_eq_true rfl) rfl ?_
  refine wp_iconst d229_24 (v := nI 0) (by decide) ?_
  refine wp_istore_n d229_25 (Nat.le_of_ble_eq_true rfl) rfl ?_
  refine r_addGuard_l (σ := σ) (nG := nG) (by omega) _ 0 h rfl (by omega) hR hF ?_
  intro h hR hF v2
  refine wp_aload_n d229_45 rfl ?_
  refine wp_iload_n d229_46 rfl ?_
  refine wp_iconst d229_47 (v := nI 1) (by decide) ?_
  refine wp_bipush d229_48 (v := (-5 : Int32)) (by decide) ?_
  refine wp_invvD (e := 87) (j2 := 230) (n := 3) d229_50 (by decide +kernel) (by decide +kernel) rfl rfl rfl (md_0 hR) (by decide +kernel) (Nat.le_of_ble_eq_true rfl) rfl rfl (Nat.le_of_ble_eq_true rfl) (by decide +kernel) (c_setGuard hR (g := nG) (p := 1) (by omega) (by omega) ((-5 : Int32))) hF ?_
  intro h hR hF
  refine wp_aload_n d229_53 rfl ?_
  refine wp_iload_n d229_54 rfl ?_
  refine wp_bipush d229_55 (v := nI 9) (by decide) ?_
  refine wp_aload_n d229_57 rfl ?_
  refine wp_getf (e := 7) (ci := 12) (k := 0) (nest := false) d229_58 (by decide +kernel) (md_0 hR) rfl ?_
  refine wp_iconst d229_61 (v := nI 0) (by decide) ?_
  refine wp_iald d229_62 (md_1 hR) (nI_in (by omega) (by decide)) (v := nI mi) ((congrArg ((G_set (G_clr σ (192 + 10 * nG) 10) nG 1 ((-5 : Int32)))) (nI_nat (by omega))).trans ((upd_ne (by omega)).trans ((G_clr_ne (by omega)).trans h0))) ?_
  refine wp_invvD (e := 87) (j2 := 230) (n := 3) d229_63 (by decide +kernel) (by decide +kernel) rfl rfl rfl (md_0 hR) (by decide +kernel) (Nat.le_of_ble_eq_true rfl) rfl rfl (Nat.le_of_ble_eq_true rfl) (by decide +kernel) (c_setGuard hR (g := nG) (p := 9) (by omega) (by omega) (nI mi)) hF ?_
  intro h hR hF
  refine wp_aload_n d229_66 rfl ?_
  refine wp_getf (e := 7) (ci := 12) (k := 0) (nest := false) d229_67 (by decide +kernel) (md_0 hR) rfl ?_
  refine wp_iconst d229_70 (v := nI 4) (by decide) ?_
  refine wp_dup2 d229_71 rfl rfl ?_
  refine wp_iald d229_72 (md_1 hR) (nI_in (by omega) (by decide)) (v := nI nG) ((congrArg ((G_set (G_set (G_clr σ (192 + 10 * nG) 10) nG 1 ((-5 : Int32))) nG 9 (nI mi))) (nI_nat (by omega))).trans ((upd_ne (by omega)).trans ((upd_ne (by omega)).trans ((G_clr_ne (by omega)).trans h4)))) ?_
  refine wp_iconst d229_73 (v := nI 1) (by decide) ?_
  refine wp_iaddv d229_74 (v := nI (nG + 1)) (nI_add _ _) ?_
  refine wp_stS d229_75 hR hF (k := 4) (by omega) (fun h hR hF => ?_)
  refine wp_iload_n d229_76 rfl ?_
  refine wp_iret d229_77 (by decide +kernel) ?_
  exact ⟨rfl, hR, hF⟩
theorem r_takeKey_1a {X : mX} {h : mH} {R : Nat → Nat → Int32} {σ : Nat → Int32} (hR : Ms h R σ) {mi nR nD nG nW nA n : Nat} (hC : Cn σ mi nR nD nG nW nA) (hn : R 0 5 = nI n) (hn4 : n ≤ 4) {x y : Int32} (hx : ¬ (nI 0 ≤ x ∧ x < nI nG)) : Tells X 231 [.ref 313, .int (x), .int (y)] h (-1) := by
  obtain ⟨⟨h0, hmi⟩, ⟨h2, hR1, hR12⟩, ⟨h3, hD⟩, ⟨h4, hG⟩, ⟨h5, hW⟩, ⟨h6, hA⟩⟩ := hC
  refine wp_aload_n d231_0 rfl ?_
  refine wp_iload_n d231_1 rfl ?_
  refine wp_invvT (e := 94) (j2 := 232) (n := 1) d231_2 (by decide +kernel) (by decide +kernel) rfl rfl rfl (md_0 hR) (by decide +kernel) (Nat.le_of_ble_eq_true rfl) rfl rfl (Nat.le_of_ble_eq_true rfl) (by decide +kernel) (c_isGuard hR (n := nG) h4 (by omega) (x)) ?_
  refine wp_ifb_eq d231_5 (tgt := 15) (by decide) (fun _ => ?_) (fun hq9 => absurd hq9 hx)
  refine wp_iconst d231_15 (v := (-1 : Int32)) (by decide) ?_
  refine wp_iret d231_16 (by decide +kernel) ?_
  exact ⟨rfl, rfl⟩
theorem r_takeKey_1b {X : mX} {h : mH} {R : Nat → Nat → Int32} {σ : Nat → Int32} (hR : Ms h R σ) {mi nR nD nG nW nA n : Nat} (hC : Cn σ mi nR nD nG nW nA) (hn : R 0 5 = nI n) (hn4 : n ≤ 4) {x y : Int32} (hx : nI 0 ≤ x ∧ x < nI nG) (hy : ¬ (nI 0 ≤ y ∧ y ≤ nI 7)) : Tells X 231 [.ref 313, .int (x), .int (y)] h (-1) := by
  obtain ⟨⟨h0, hmi⟩, ⟨h2, hR1, hR12⟩, ⟨h3, hD⟩, ⟨h4, hG⟩, ⟨h5, hW⟩, ⟨h6, hA⟩⟩ := hC
  refine wp_aload_n d231_0 rfl ?_
  refine wp_iload_n d231_1 rfl ?_
  refine wp_invvT (e := 94) (j2 := 232) (n := 1) d231_2 (by decide +kernel) (by decide +kernel) rfl rfl rfl (md_0 hR) (by decide +kernel) (Nat.le_of_ble_eq_true rfl) rfl rfl (Nat.le_of_ble_eq_true rfl) (by decide +kernel) (c_isGuard hR (n := nG) h4 (by omega) (x)) ?_
  refine wp_ifb_eq d231_5 (tgt := 15) (by decide) (fun hq9 => absurd hx hq9) (fun _ => ?_)
  refine wp_iload_n d231_8 rfl ?_
  refine wp_invsT (e := 97) (j2 := 233) (n := 1) d231_9 (by decide +kernel) (by decide +kernel) rfl rfl rfl (Nat.le_of_ble_eq_true rfl) (Nat.le_of_ble_eq_true rfl) rfl rfl (Nat.le_of_ble_eq_true rfl) (by decide +kernel) (c_isKey (y)) ?_
  refine wp_ifb_ne d231_12 (tgt := 17) (by decide) (fun hq9 => absurd hq9 hy) (fun _ => ?_)
  refine wp_iconst d231_15 (v := (-1 : Int32)) (by decide) ?_
  refine wp_iret d231_16 (by decide +kernel) ?_
  exact ⟨rfl, rfl⟩
theorem r_bringKey_1a {X : mX} {h : mH} {R : Nat → Nat → Int32} {σ : Nat → Int32} (hR : Ms h R σ) {mi nR nD nG nW nA n : Nat} (hC : Cn σ mi nR nD nG nW nA) (hn : R 0 5 = nI n) (hn4 : n ≤ 4) {x y : Int32} (hx : ¬ (nI 0 ≤ x ∧ x < nI nG)) : Tells X 238 [.ref 313, .int (x), .int (y)] h (-1) := by
  obtain ⟨⟨h0, hmi⟩, ⟨h2, hR1, hR12⟩, ⟨h3, hD⟩, ⟨h4, hG⟩, ⟨h5, hW⟩, ⟨h6, hA⟩⟩ := hC
  refine wp_aload_n d238_0 rfl ?_
  refine wp_iload_n d238_1 rfl ?_
  refine wp_invvT (e := 94) (j2 := 232) (n := 1) d238_2 (by decide +kernel) (by decide +kernel) rfl rfl rfl (md_0 hR) (by decide +kernel) (Nat.le_of_ble_eq_true rfl) rfl rfl (Nat.le_of_ble_eq_true rfl) (by decide +kernel) (c_isGuard hR (n := nG) h4 (by omega) (x)) ?_
  refine wp_ifb_eq d238_5 (tgt := 15) (by decide) (fun _ => ?_) (fun hq9 => absurd hq9 hx)
  refine wp_iconst d238_15 (v := (-1 : Int32)) (by decide) ?_
  refine wp_iret d238_16 (by decide +kernel) ?_
  exact ⟨rfl, rfl⟩
theorem r_bringKey_1b {X : mX} {h : mH} {R : Nat → Nat → Int32} {σ : Nat → Int32} (hR : Ms h R σ) {mi nR nD nG nW nA n : Nat} (hC : Cn σ mi nR nD nG nW nA) (hn : R 0 5 = nI n) (hn4 : n ≤ 4) {x y : Int32} (hx : nI 0 ≤ x ∧ x < nI nG) (hy : ¬ (nI 0 ≤ y ∧ y ≤ nI 7)) : Tells X 238 [.ref 313, .int (x), .int (y)] h (-1) := by
  obtain ⟨⟨h0, hmi⟩, ⟨h2, hR1, hR12⟩, ⟨h3, hD⟩, ⟨h4, hG⟩, ⟨h5, hW⟩, ⟨h6, hA⟩⟩ := hC
  refine wp_aload_n d238_0 rfl ?_
  refine wp_iload_n d238_1 rfl ?_
  refine wp_invvT (e := 94) (j2 := 232) (n := 1) d238_2 (by decide +kernel) (by decide +kernel) rfl rfl rfl (md_0 hR) (by decide +kernel) (Nat.le_of_ble_eq_true rfl) rfl rfl (Nat.le_of_ble_eq_true rfl) (by decide +kernel) (c_isGuard hR (n := nG) h4 (by omega) (x)) ?_
  refine wp_ifb_eq d238_5 (tgt := 15) (by decide) (fun hq9 => absurd hx hq9) (fun _ => ?_)
  refine wp_iload_n d238_8 rfl ?_
  refine wp_invsT (e := 97) (j2 := 233) (n := 1) d238_9 (by decide +kernel) (by decide +kernel) rfl rfl rfl (Nat.le_of_ble_eq_true rfl) (Nat.le_of_ble_eq_true rfl) rfl rfl (Nat.le_of_ble_eq_true rfl) (by decide +kernel) (c_isKey (y)) ?_
  refine wp_ifb_ne d238_12 (tgt := 17) (by decide) (fun hq9 => absurd hq9 hy) (fun _ => ?_)
  refine wp_iconst d238_15 (v := (-1 : Int32)) (by decide) ?_
  refine wp_iret d238_16 (by decide +kernel) ?_
  exact ⟨rfl, rfl⟩
theorem r_takeKey_2a {X : mX} {h : mH} {R : Nat → Nat → Int32} {σ : Nat → Int32} (hR : Ms h R σ) {mi nR nD nG nW nA n : Nat} (hC : Cn σ mi nR nD nG nW nA) (hn : R 0 5 = nI n) (hn4 : n ≤ 4) {g k : Nat} (hg : g < nG) (hk : k < 8) (ha : ¬ σ (192 + 10 * g + 0) = 0) : Tells X 231 [.ref 313, .int (nI g), .int (nI k)] h (-4) := by
  obtain ⟨⟨h0, hmi⟩, ⟨h2, hR1, hR12⟩, ⟨h3, hD⟩, ⟨h4, hG⟩, ⟨h5, hW⟩, ⟨h6, hA⟩⟩ := hC
  refine wp_aload_n d231_0 rfl ?_
  refine wp_iload_n d231_1 rfl ?_
  refine wp_invvT (e := 94) (j2 := 232) (n := 1) d231_2 (by decide +kernel) (by decide +kernel) rfl rfl rfl (md_0 hR) (by decide +kernel) (Nat.le_of_ble_eq_true rfl) rfl rfl (Nat.le_of_ble_eq_true rfl) (by decide +kernel) (c_isGuard hR (n := nG) h4 (by omega) (nI g)) ?_
  refine wp_ifb_eq d231_5 (tgt := 15) (by decide) (fun hq9 => absurd (⟨nI_le (by omega) (by omega), nI_lt (by omega) (by omega)⟩ : nI 0 ≤ nI g ∧ nI g < nI nG) hq9) (fun _ => ?_)
  refine wp_iload_n d231_8 rfl ?_
  refine wp_invsT (e := 97) (j2 := 233) (n := 1) d231_9 (by decide +kernel) (by decide +kernel) rfl rfl rfl (Nat.le_of_ble_eq_true rfl) (Nat.le_of_ble_eq_true rfl) rfl rfl (Nat.le_of_ble_eq_true rfl) (by decide +kernel) (c_isKey (nI k)) ?_
  refine wp_ifb_ne d231_12 (tgt := 17) (by decide) (fun _ => ?_) (fun hq9 => absurd (⟨nI_le (by omega) (by omega), nI_le (by omega) (by omega)⟩ : nI 0 ≤ nI k ∧ nI k ≤ nI 7) hq9)
  refine wp_aload_n d231_17 rfl ?_
  refine wp_iload_n d231_18 rfl ?_
  refine wp_iconst d231_19 (v := nI 0) (by decide) ?_
  refine wp_invvT (e := 81) (j2 := 227) (n := 2) d231_20 (by decide +kernel) (by decide +kernel) rfl rfl rfl (md_0 hR) (by decide +kernel) (Nat.le_of_ble_eq_true rfl) rfl rfl (Nat.le_of_ble_eq_true rfl) (by decide +kernel) (c_guardPart hR (r := g) (p := 0) (by omega) (by omega)) ?_
  refine wp_if_ne d231_23 (tgt := 36) (by decide) (fun _ => ?_) (fun hq9 => absurd hq9 ha)
  refine wp_bipush d231_36 (v := (-4 : Int32)) (by decide) ?_
  refine wp_iret d231_38 (by decide +kernel) ?_
  exact ⟨rfl, rfl⟩
theorem r_takeKey_2b {X : mX} {h : mH} {R : Nat → Nat → Int32} {σ : Nat → Int32} (hR : Ms h R σ) {mi nR nD nG nW nA n : Nat} (hC : Cn σ mi nR nD nG nW nA) (hn : R 0 5 = nI n) (hn4 : n ≤ 4) {g k : Nat} (hg : g < nG) (hk : k < 8) (ha : σ (192 + 10 * g + 0) = 0) (hh : ¬ F_ho σ (nI k) nG = -5) : Tells X 231 [.ref 313, .int (nI g), .int (nI k)] h (-4) := by
  obtain ⟨⟨h0, hmi⟩, ⟨h2, hR1, hR12⟩, ⟨h3, hD⟩, ⟨h4, hG⟩, ⟨h5, hW⟩, ⟨h6, hA⟩⟩ := hC
  refine wp_aload_n d231_0 rfl ?_
  refine wp_iload_n d231_1 rfl ?_
  refine wp_invvT (e := 94) (j2 := 232) (n := 1) d231_2 (by decide +kernel) (by decide +kernel) rfl rfl rfl (md_0 hR) (by decide +kernel) (Nat.le_of_ble_eq_true rfl) rfl rfl (Nat.le_of_ble_eq_true rfl) (by decide +kernel) (c_isGuard hR (n := nG) h4 (by omega) (nI g)) ?_
  refine wp_ifb_eq d231_5 (tgt := 15) (by decide) (fun hq9 => absurd (⟨nI_le (by omega) (by omega), nI_lt (by omega) (by omega)⟩ : nI 0 ≤ nI g ∧ nI g < nI nG) hq9) (fun _ => ?_)
  refine wp_iload_n d231_8 rfl ?_
  refine wp_invsT (e := 97) (j2 := 233) (n := 1) d231_9 (by decide +kernel) (by decide +kernel) rfl rfl rfl (Nat.le_of_ble_eq_true rfl) (Nat.le_of_ble_eq_true rfl) rfl rfl (Nat.le_of_ble_eq_true rfl) (by decide +kernel) (c_isKey (nI k)) ?_
  refine wp_ifb_ne d231_12 (tgt := 17) (by decide) (fun _ => ?_) (fun hq9 => absurd (⟨nI_le (by omega) (by omega), nI_le (by omega) (by omega)⟩ : nI 0 ≤ nI k ∧ nI k ≤ nI 7) hq9)
  refine wp_aload_n d231_17 rfl ?_
  refine wp_iload_n d231_18 rfl ?_
  refine wp_iconst d231_19 (v := nI 0) (by decide) ?_
  refine wp_invvT (e := 81) (j2 := 227) (n := 2) d231_20 (by decide +kernel) (by decide +kernel) rfl rfl rfl (md_0 hR) (by decide +kernel) (Nat.le_of_ble_eq_true rfl) rfl rfl (Nat.le_of_ble_eq_true rfl) (by decide +kernel) (c_guardPart hR (r := g) (p := 0) (by omega) (by omega)) ?_
  refine wp_if_ne d231_23 (tgt := 36) (by decide) (fun hq9 => absurd ha hq9) (fun _ => ?_)
  refine wp_aload_n d231_26 rfl ?_
  refine wp_iload_n d231_27 rfl ?_
  refine wp_invvT (e := 100) (j2 := 234) (n := 1) d231_28 (by decide +kernel) (by decide +kernel) rfl rfl rfl (md_0 hR) (by decide +kernel) (Nat.le_of_ble_eq_true rfl) rfl rfl (Nat.le_of_ble_eq_true rfl) (by decide +kernel) (c_holderOf hR h4 hG (nI k)) ?_
  refine wp_bipush d231_31 (v := (-5 : Int32)) (by decide) ?_
  refine wp_icmp_eq d231_33 (tgt := 39) (by decide) (fun hq9 => absurd hq9 hh) (fun _ => ?_)
  refine wp_bipush d231_36 (v := (-4 : Int32)) (by decide) ?_
  refine wp_iret d231_38 (by decide +kernel) ?_
  exact ⟨rfl, rfl⟩
theorem r_takeKey_3 {X : mX} {h : mH} {R : Nat → Nat → Int32} {σ : Nat → Int32} (hR : Ms h R σ) {mi nR nD nG nW nA n : Nat} (hC : Cn σ mi nR nD nG nW nA) (hn : R 0 5 = nI n) (hn4 : n ≤ 4) {g k : Nat} (hg : g < nG) (hk : k < 8) (ha : σ (192 + 10 * g + 0) = 0) (hh : F_ho σ (nI k) nG = -5) (hb : F_bits (σ (192 + 10 * g + 6)) 16 = nI 3) : Tells X 231 [.ref 313, .int (nI g), .int (nI k)] h (-3) := by
  obtain ⟨⟨h0, hmi⟩, ⟨h2, hR1, hR12⟩, ⟨h3, hD⟩, ⟨h4, hG⟩, ⟨h5, hW⟩, ⟨h6, hA⟩⟩ := hC
  refine wp_aload_n d231_0 rfl ?_
  refine wp_iload_n d231_1 rfl ?_
  refine wp_invvT (e := 94) (j2 := 232) (n := 1) d231_2 (by decide +kernel) (by decide +kernel) rfl rfl rfl (md_0 hR) (by decide +kernel) (Nat.le_of_ble_eq_true rfl) rfl rfl (Nat.le_of_ble_eq_true rfl) (by decide +kernel) (c_isGuard hR (n := nG) h4 (by omega) (nI g)) ?_
  refine wp_ifb_eq d231_5 (tgt := 15) (by decide) (fun hq9 => absurd (⟨nI_le (by omega) (by omega), nI_lt (by omega) (by omega)⟩ : nI 0 ≤ nI g ∧ nI g < nI nG) hq9) (fun _ => ?_)
  refine wp_iload_n d231_8 rfl ?_
  refine wp_invsT (e := 97) (j2 := 233) (n := 1) d231_9 (by decide +kernel) (by decide +kernel) rfl rfl rfl (Nat.le_of_ble_eq_true rfl) (Nat.le_of_ble_eq_true rfl) rfl rfl (Nat.le_of_ble_eq_true rfl) (by decide +kernel) (c_isKey (nI k)) ?_
  refine wp_ifb_ne d231_12 (tgt := 17) (by decide) (fun _ => ?_) (fun hq9 => absurd (⟨nI_le (by omega) (by omega), nI_le (by omega) (by omega)⟩ : nI 0 ≤ nI k ∧ nI k ≤ nI 7) hq9)
  refine wp_aload_n d231_17 rfl ?_
  refine wp_iload_n d231_18 rfl ?_
  refine wp_iconst d231_19 (v := nI 0) (by decide) ?_
  refine wp_invvT (e := 81) (j2 := 227) (n := 2) d231_20 (by decide +kernel) (by decide +kernel) rfl rfl rfl (md_0 hR) (by decide +kernel) (Nat.le_of_ble_eq_true rfl) rfl rfl (Nat.le_of_ble_eq_true rfl) (by decide +kernel) (c_guardPart hR (r := g) (p := 0) (by omega) (by omega)) ?_
  refine wp_if_ne d231_23 (tgt := 36) (by decide) (fun hq9 => absurd ha hq9) (fun _ => ?_)
  refine wp_aload_n d231_26 rfl ?_
  refine wp_iload_n d231_27 rfl ?_
  refine wp_invvT (e := 100) (j2 := 234) (n := 1) d231_28 (by decide +kernel) (by decide +kernel) rfl rfl rfl (md_0 hR) (by decide +kernel) (Nat.le_of_ble_eq_true rfl) rfl rfl (Nat.le_of_ble_eq_true rfl) (by decide +kernel) (c_holderOf hR h4 hG (nI k)) ?_
  refine wp_bipush d231_31 (v := (-5 : Int32)) (by decide) ?_
  refine wp_icmp_eq d231_33 (tgt := 39) (by decide) (fun _ => ?_) (fun hq9 => absurd hh hq9)
  refine wp_aload_n d231_39 rfl ?_
  refine wp_iload_n d231_40 rfl ?_
  refine wp_invvT (e := 103) (j2 := 236) (n := 1) d231_41 (by decide +kernel) (by decide +kernel) rfl rfl rfl (md_0 hR) (by decide +kernel) (Nat.le_of_ble_eq_true rfl) rfl rfl (Nat.le_of_ble_eq_true rfl) (by decide +kernel) (tells_eq (c_keysOf hR (g := g) (by omega)) (congrArg (fun z => F_bits z 16) rfl)) ?_
  refine wp_iconst d231_44 (v := nI 3) (by decide) ?_
  refine wp_icmp_ne d231_45 (tgt := 51) (by decide) (fun hq9 => absurd hb hq9) (fun _ => ?_)
  refine wp_bipush d231_48 (v := (-3 : Int32)) (by decide) ?_
  refine wp_iret d231_50 (by decide +kernel) ?_
  exact ⟨rfl, rfl⟩

theorem r_takeKey {X : mX} {h : mH} {R : Nat → Nat → Int32} {σ : Nat → Int32} (hR : Ms h R σ) {mi nR nD nG nW nA n : Nat} (hC : Cn σ mi nR nD nG nW nA) (hn : R 0 5 = nI n) (hn4 : n ≤ 4) {g k : Nat} (hg : g < nG) (hk : k < 8) (ha : σ (192 + 10 * g + 0) = 0) (hh : F_ho σ (nI k) nG = -5) (hb : ¬ F_bits (σ (192 + 10 * g + 6)) 16 = nI 3) : Does X 231 [.ref 313, .int (nI g), .int (nI k)] h (F_rec R σ n) (G_turn σ g (nI k)) (some (.int (F_bits (σ (192 + 10 * g + 6) ^^^ (nI 1 <<< (nI k &&& 31))) 16))) := by
  obtain ⟨⟨h0, hmi⟩, ⟨h2, hR1, hR12⟩, ⟨h3, hD⟩, ⟨h4, hG⟩, ⟨h5, hW⟩, ⟨h6, hA⟩⟩ := hC
  have hF : Frm h h 313 8 := Frm.rf
  refine wp_aload_n d231_0 rfl ?_
  refine wp_iload_n d231_1 rfl ?_
  refine wp_invvT (e := 94) (j2 := 232) (n := 1) d231_2 (by decide +kernel) (by decide +kernel) rfl rfl rfl (md_0 hR) (by decide +kernel) (Nat.le_of_ble_eq_true rfl) rfl rfl (Nat.le_of_ble_eq_true rfl) (by decide +kernel) (c_isGuard hR (n := nG) h4 (by omega) (nI g)) ?_
  refine wp_ifb_eq d231_5 (tgt := 15) (by decide) (fun hq9 => absurd (⟨nI_le (by omega) (by omega), nI_lt (by omega) (by omega)⟩ : nI 0 ≤ nI g ∧ nI g < nI nG) hq9) (fun _ => ?_)
  refine wp_iload_n d231_8 rfl ?_
  refine wp_invsT (e := 97) (j2 := 233) (n := 1) d231_9 (by decide +kernel) (by decide +kernel) rfl rfl rfl (Nat.le_of_ble_eq_true rfl) (Nat.le_of_ble_eq_true rfl) rfl rfl (Nat.le_of_ble_eq_true rfl) (by decide +kernel) (c_isKey (nI k)) ?_
  refine wp_ifb_ne d231_12 (tgt := 17) (by decide) (fun _ => ?_) (fun hq9 => absurd (⟨nI_le (by omega) (by omega), nI_le (by omega) (by omega)⟩ : nI 0 ≤ nI k ∧ nI k ≤ nI 7) hq9)
  refine wp_aload_n d231_17 rfl ?_
  refine wp_iload_n d231_18 rfl ?_
  refine wp_iconst d231_19 (v := nI 0) (by decide) ?_
  refine wp_invvT (e := 81) (j2 := 227) (n := 2) d231_20 (by decide +kernel) (by decide +kernel) rfl rfl rfl (md_0 hR) (by decide +kernel) (Nat.le_of_ble_eq_true rfl) rfl rfl (Nat.le_of_ble_eq_true rfl) (by decide +kernel) (c_guardPart hR (r := g) (p := 0) (by omega) (by omega)) ?_
  refine wp_if_ne d231_23 (tgt := 36) (by decide) (fun hq9 => absurd ha hq9) (fun _ => ?_)
  refine wp_aload_n d231_26 rfl ?_
  refine wp_iload_n d231_27 rfl ?_
  refine wp_invvT (e := 100) (j2 := 234) (n := 1) d231_28 (by decide +kernel) (by decide +kernel) rfl rfl rfl (md_0 hR) (by decide +kernel) (Nat.le_of_ble_eq_true rfl) rfl rfl (Nat.le_of_ble_eq_true rfl) (by decide +kernel) (c_holderOf hR h4 hG (nI k)) ?_
  refine wp_bipush d231_31 (v := (-5 : Int32)) (by decide) ?_
  refine wp_icmp_eq d231_33 (tgt := 39) (by decide) (fun _ => ?_) (fun hq9 => absurd hh hq9)
  refine wp_aload_n d231_39 rfl ?_
  refine wp_iload_n d231_40 rfl ?_
  refine wp_invvT (e := 103) (j2 := 236) (n := 1) d231_41 (by decide +kernel) (by decide +kernel) rfl rfl rfl (md_0 hR) (by decide +kernel) (Nat.le_of_ble_eq_true rfl) rfl rfl (Nat.le_of_ble_eq_true rfl) (by decide +kernel) (tells_eq (c_keysOf hR (g := g) (by omega)) (congrArg (fun z => F_bits z 16) rfl)) ?_
  refine wp_iconst d231_44 (v := nI 3) (by decide) ?_
  refine wp_icmp_ne d231_45 (tgt := 51) (by decide) (fun _ => ?_) (fun hq9 => absurd hq9 hb)
  refine wp_aload_n d231_51 rfl ?_
  refine wp_invvD (e := 50) (j2 := 212) (n := 0) d231_52 (by decide +kernel) (by decide +kernel) rfl rfl rfl (md_0 hR) (by decide +kernel) (Nat.le_of_ble_eq_true rfl) rfl rfl (Nat.le_of_ble_eq_true rfl) (by decide +kernel) (c_record hR hn hn4) hF ?_
  intro h hR hF
  refine wp_aload_n d231_55 rfl ?_
  refine wp_iload_n d231_56 rfl ?_
  refine wp_iload_n d231_57 rfl ?_
  refine wp_invvD (e := 106) (j2 := 237) (n := 2) d231_58 (by decide +kernel) (by decide +kernel) rfl rfl rfl (md_0 hR) (by decide +kernel) (Nat.le_of_ble_eq_true rfl) rfl rfl (Nat.le_of_ble_eq_true rfl) (by decide +kernel) (c_turnKey hR (g := g) (by omega) (nI k)) hF ?_
  intro h hR hF
  refine wp_aload_n d231_61 rfl ?_
  refine wp_iload_n d231_62 rfl ?_
  refine wp_invvT (e := 103) (j2 := 236) (n := 1) d231_63 (by decide +kernel) (by decide +kernel) rfl rfl rfl (md_0 hR) (by decide +kernel) (Nat.le_of_ble_eq_true rfl) rfl rfl (Nat.le_of_ble_eq_true rfl) (by decide +kernel) (tells_eq (c_keysOf hR (g := g) (by omega)) (congrArg (fun z => F_bits z 16) upd_eq)) ?_
  refine wp_iret d231_66 (by decide +kernel) ?_
  exact ⟨rfl, hR, hF⟩
theorem r_bringKey_2a {X : mX} {h : mH} {R : Nat → Nat → Int32} {σ : Nat → Int32} (hR : Ms h R σ) {mi nR nD nG nW nA n : Nat} (hC : Cn σ mi nR nD nG nW nA) (hn : R 0 5 = nI n) (hn4 : n ≤ 4) {g k : Nat} (hg : g < nG) (hk : k < 8) (ha : ¬ σ (192 + 10 * g + 0) = 0) : Tells X 238 [.ref 313, .int (nI g), .int (nI k)] h (-4) := by
  obtain ⟨⟨h0, hmi⟩, ⟨h2, hR1, hR12⟩, ⟨h3, hD⟩, ⟨h4, hG⟩, ⟨h5, hW⟩, ⟨h6, hA⟩⟩ := hC
  refine wp_aload_n d238_0 rfl ?_
  refine wp_iload_n d238_1 rfl ?_
  refine wp_invvT (e := 94) (j2 := 232) (n := 1) d238_2 (by decide +kernel) (by decide +kernel) rfl rfl rfl (md_0 hR) (by decide +kernel) (Nat.le_of_ble_eq_true rfl) rfl rfl (Nat.le_of_ble_eq_true rfl) (by decide +kernel) (c_isGuard hR (n := nG) h4 (by omega) (nI g)) ?_
  refine wp_ifb_eq d238_5 (tgt := 15) (by decide) (fun hq9 => absurd (⟨nI_le (by omega) (by omega), nI_lt (by omega) (by omega)⟩ : nI 0 ≤ nI g ∧ nI g < nI nG) hq9) (fun _ => ?_)
  refine wp_iload_n d238_8 rfl ?_
  refine wp_invsT (e := 97) (j2 := 233) (n := 1) d238_9 (by decide +kernel) (by decide +kernel) rfl rfl rfl (Nat.le_of_ble_eq_true rfl) (Nat.le_of_ble_eq_true rfl) rfl rfl (Nat.le_of_ble_eq_true rfl) (by decide +kernel) (c_isKey (nI k)) ?_
  refine wp_ifb_ne d238_12 (tgt := 17) (by decide) (fun _ => ?_) (fun hq9 => absurd (⟨nI_le (by omega) (by omega), nI_le (by omega) (by omega)⟩ : nI 0 ≤ nI k ∧ nI k ≤ nI 7) hq9)
  refine wp_aload_n d238_17 rfl ?_
  refine wp_iload_n d238_18 rfl ?_
  refine wp_iconst d238_19 (v := nI 0) (by decide) ?_
  refine wp_invvT (e := 81) (j2 := 227) (n := 2) d238_20 (by decide +kernel) (by decide +kernel) rfl rfl rfl (md_0 hR) (by decide +kernel) (Nat.le_of_ble_eq_true rfl) rfl rfl (Nat.le_of_ble_eq_true rfl) (by decide +kernel) (c_guardPart hR (r := g) (p := 0) (by omega) (by omega)) ?_
  refine wp_if_ne d238_23 (tgt := 35) (by decide) (fun _ => ?_) (fun hq9 => absurd hq9 ha)
  refine wp_bipush d238_35 (v := (-4 : Int32)) (by decide) ?_
  refine wp_iret d238_37 (by decide +kernel) ?_
  exact ⟨rfl, rfl⟩
theorem r_bringKey_2b {X : mX} {h : mH} {R : Nat → Nat → Int32} {σ : Nat → Int32} (hR : Ms h R σ) {mi nR nD nG nW nA n : Nat} (hC : Cn σ mi nR nD nG nW nA) (hn : R 0 5 = nI n) (hn4 : n ≤ 4) {g k : Nat} (hg : g < nG) (hk : k < 8) (ha : σ (192 + 10 * g + 0) = 0) (hh : ¬ F_bit (σ (192 + 10 * g + 6)) (nI k)) : Tells X 238 [.ref 313, .int (nI g), .int (nI k)] h (-4) := by
  obtain ⟨⟨h0, hmi⟩, ⟨h2, hR1, hR12⟩, ⟨h3, hD⟩, ⟨h4, hG⟩, ⟨h5, hW⟩, ⟨h6, hA⟩⟩ := hC
  refine wp_aload_n d238_0 rfl ?_
  refine wp_iload_n d238_1 rfl ?_
  refine wp_invvT (e := 94) (j2 := 232) (n := 1) d238_2 (by decide +kernel) (by decide +kernel) rfl rfl rfl (md_0 hR) (by decide +kernel) (Nat.le_of_ble_eq_true rfl) rfl rfl (Nat.le_of_ble_eq_true rfl) (by decide +kernel) (c_isGuard hR (n := nG) h4 (by omega) (nI g)) ?_
  refine wp_ifb_eq d238_5 (tgt := 15) (by decide) (fun hq9 => absurd (⟨nI_le (by omega) (by omega), nI_lt (by omega) (by omega)⟩ : nI 0 ≤ nI g ∧ nI g < nI nG) hq9) (fun _ => ?_)
  refine wp_iload_n d238_8 rfl ?_
  refine wp_invsT (e := 97) (j2 := 233) (n := 1) d238_9 (by decide +kernel) (by decide +kernel) rfl rfl rfl (Nat.le_of_ble_eq_true rfl) (Nat.le_of_ble_eq_true rfl) rfl rfl (Nat.le_of_ble_eq_true rfl) (by decide +kernel) (c_isKey (nI k)) ?_
  refine wp_ifb_ne d238_12 (tgt := 17) (by decide) (fun _ => ?_) (fun hq9 => absurd (⟨nI_le (by omega) (by omega), nI_le (by omega) (by omega)⟩ : nI 0 ≤ nI k ∧ nI k ≤ nI 7) hq9)
  refine wp_aload_n d238_17 rfl ?_
  refine wp_iload_n d238_18 rfl ?_
  refine wp_iconst d238_19 (v := nI 0) (by decide) ?_
  refine wp_invvT (e := 81) (j2 := 227) (n := 2) d238_20 (by decide +kernel) (by decide +kernel) rfl rfl rfl (md_0 hR) (by decide +kernel) (Nat.le_of_ble_eq_true rfl) rfl rfl (Nat.le_of_ble_eq_true rfl) (by decide +kernel) (c_guardPart hR (r := g) (p := 0) (by omega) (by omega)) ?_
  refine wp_if_ne d238_23 (tgt := 35) (by decide) (fun hq9 => absurd ha hq9) (fun _ => ?_)
  refine wp_aload_n d238_26 rfl ?_
  refine wp_iload_n d238_27 rfl ?_
  refine wp_iload_n d238_28 rfl ?_
  refine wp_invvT (e := 91) (j2 := 235) (n := 2) d238_29 (by decide +kernel) (by decide +kernel) rfl rfl rfl (md_0 hR) (by decide +kernel) (Nat.le_of_ble_eq_true rfl) rfl rfl (Nat.le_of_ble_eq_true rfl) (by decide +kernel) (c_hasKey hR (g := g) (by omega) (nI k)) ?_
  refine wp_ifb_ne d238_32 (tgt := 38) (by decide) (fun hq9 => absurd hq9 hh) (fun _ => ?_)
  refine wp_bipush d238_35 (v := (-4 : Int32)) (by decide) ?_
  refine wp_iret d238_37 (by decide +kernel) ?_
  exact ⟨rfl, rfl⟩
theorem r_bringKey {X : mX} {h : mH} {R : Nat → Nat → Int32} {σ : Nat → Int32} (hR : Ms h R σ) {mi nR nD nG nW nA n : Nat} (hC : Cn σ mi nR nD nG nW nA) (hn : R 0 5 = nI n) (hn4 : n ≤ 4) {g k : Nat} (hg : g < nG) (hk : k < 8) (ha : σ (192 + 10 * g + 0) = 0) (hh : F_bit (σ (192 + 10 * g + 6)) (nI k)) : Does X 238 [.ref 313, .int (nI g), .int (nI k)] h (F_rec R σ n) (G_turn σ g (nI k)) (some (.int (F_bits (σ (192 + 10 * g + 6) ^^^ (nI 1 <<< (nI k &&& 31))) 16))) := by
  obtain ⟨⟨h0, hmi⟩, ⟨h2, hR1, hR12⟩, ⟨h3, hD⟩, ⟨h4, hG⟩, ⟨h5, hW⟩, ⟨h6, hA⟩⟩ := hC
  have hF : Frm h h 313 8 := Frm.rf
  refine wp_aload_n d238_0 rfl ?_
  refine wp_iload_n d238_1 rfl ?_
  refine wp_invvT (e := 94) (j2 := 232) (n := 1) d238_2 (by decide +kernel) (by decide +kernel) rfl rfl rfl (md_0 hR) (by decide +kernel) (Nat.le_of_ble_eq_true rfl) rfl rfl (Nat.le_of_ble_eq_true rfl) (by decide +kernel) (c_isGuard hR (n := nG) h4 (by omega) (nI g)) ?_
  refine wp_ifb_eq d238_5 (tgt := 15) (by decide) (fun hq9 => absurd (⟨nI_le (by omega) (by omega), nI_lt (by omega) (by omega)⟩ : nI 0 ≤ nI g ∧ nI g < nI nG) hq9) (fun _ => ?_)
  refine wp_iload_n d238_8 rfl ?_
  refine wp_invsT (e := 97) (j2 := 233) (n := 1) d238_9 (by decide +kernel) (by decide +kernel) rfl rfl rfl (Nat.le_of_ble_eq_true rfl) (Nat.le_of_ble_eq_true rfl) rfl rfl (Nat.le_of_ble_eq_true rfl) (by decide +kernel) (c_isKey (nI k)) ?_
  refine wp_ifb_ne d238_12 (tgt := 17) (by decide) (fun _ => ?_) (fun hq9 => absurd (⟨nI_le (by omega) (by omega), nI_le (by omega) (by omega)⟩ : nI 0 ≤ nI k ∧ nI k ≤ nI 7) hq9)
  refine wp_aload_n d238_17 rfl ?_
  refine wp_iload_n d238_18 rfl ?_
  refine wp_iconst d238_19 (v := nI 0) (by decide) ?_
  refine wp_invvT (e := 81) (j2 := 227) (n := 2) d238_20 (by decide +kernel) (by decide +kernel) rfl rfl rfl (md_0 hR) (by decide +kernel) (Nat.le_of_ble_eq_true rfl) rfl rfl (Nat.le_of_ble_eq_true rfl) (by decide +kernel) (c_guardPart hR (r := g) (p := 0) (by omega) (by omega)) ?_
  refine wp_if_ne d238_23 (tgt := 35) (by decide) (fun hq9 => absurd ha hq9) (fun _ => ?_)
  refine wp_aload_n d238_26 rfl ?_
  refine wp_iload_n d238_27 rfl ?_
  refine wp_iload_n d238_28 rfl ?_
  refine wp_invvT (e := 91) (j2 := 235) (n := 2) d238_29 (by decide +kernel) (by decide +kernel) rfl rfl rfl (md_0 hR) (by decide +kernel) (Nat.le_of_ble_eq_true rfl) rfl rfl (Nat.le_of_ble_eq_true rfl) (by decide +kernel) (c_hasKey hR (g := g) (by omega) (nI k)) ?_
  refine wp_ifb_ne d238_32 (tgt := 38) (by decide) (fun _ => ?_) (fun hq9 => absurd hh hq9)
  refine wp_aload_n d238_38 rfl ?_
  refine wp_invvD (e := 50) (j2 := 212) (n := 0) d238_39 (by decide +kernel) (by decide +kernel) rfl rfl rfl (md_0 hR) (by decide +kernel) (Nat.le_of_ble_eq_true rfl) rfl rfl (Nat.le_of_ble_eq_true rfl) (by decide +kernel) (c_record hR hn hn4) hF ?_
  intro h hR hF
  refine wp_aload_n d238_42 rfl ?_
  refine wp_iload_n d238_43 rfl ?_
  refine wp_iload_n d238_44 rfl ?_
  refine wp_invvD (e := 106) (j2 := 237) (n := 2) d238_45 (by decide +kernel) (by decide +kernel) rfl rfl rfl (md_0 hR) (by decide +kernel) (Nat.le_of_ble_eq_true rfl) rfl rfl (Nat.le_of_ble_eq_true rfl) (by decide +kernel) (c_turnKey hR (g := g) (by omega) (nI k)) hF ?_
  intro h hR hF
  refine wp_aload_n d238_48 rfl ?_
  refine wp_iload_n d238_49 rfl ?_
  refine wp_invvT (e := 103) (j2 := 236) (n := 1) d238_50 (by decide +kernel) (by decide +kernel) rfl rfl rfl (md_0 hR) (by decide +kernel) (Nat.le_of_ble_eq_true rfl) rfl rfl (Nat.le_of_ble_eq_true rfl) (by decide +kernel) (tells_eq (c_keysOf hR (g := g) (by omega)) (congrArg (fun z => F_bits z 16) upd_eq)) ?_
  refine wp_iret d238_53 (by decide +kernel) ?_
  exact ⟨rfl, hR, hF⟩
