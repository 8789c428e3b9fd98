/-! The class: what is told of guards, orders, zones, keys. -/
theorem d45_0 : decode (m_code 45) 0 = .ok (.iload_n 1, 1) := by decide +kernel
theorem d45_1 : decode (m_code 45) 1 = .ok (.invokestatic 25, 3) := by decide +kernel
theorem d45_4 : decode (m_code 45) 4 = .ok (.ifCond .eq 18, 3) := by decide +kernel
theorem d45_7 : decode (m_code 45) 7 = .ok (.aload_n 0, 1) := by decide +kernel
theorem d45_8 : decode (m_code 45) 8 = .ok (.getfield 15, 3) := by decide +kernel
theorem d45_11 : decode (m_code 45) 11 = .ok (.iload_n 1, 1) := by decide +kernel
theorem d45_12 : decode (m_code 45) 12 = .ok (.ishr, 1) := by decide +kernel
theorem d45_13 : decode (m_code 45) 13 = .ok (.iconst 1, 1) := by decide +kernel
theorem d45_14 : decode (m_code 45) 14 = .ok (.iand, 1) := by decide +kernel
theorem d45_15 : decode (m_code 45) 15 = .ok (.ifCond .eq 7, 3) := by decide +kernel
theorem d45_18 : decode (m_code 45) 18 = .ok (.iconst 1, 1) := by decide +kernel
theorem d45_19 : decode (m_code 45) 19 = .ok (.goto 4, 3) := by decide +kernel
theorem d45_22 : decode (m_code 45) 22 = .ok (.iconst 0, 1) := by decide +kernel
theorem d45_23 : decode (m_code 45) 23 = .ok (.ireturn, 1) := by decide +kernel
theorem d47_0 : decode (m_code 47) 0 = .ok (.iload_n 1, 1) := by decide +kernel
theorem d47_1 : decode (m_code 47) 1 = .ok (.invokestatic 25, 3) := by decide +kernel
theorem d47_4 : decode (m_code 47) 4 = .ok (.ifCond .eq 12, 3) := by decide +kernel
theorem d47_7 : decode (m_code 47) 7 = .ok (.aload_n 0, 1) := by decide +kernel
theorem d47_8 : decode (m_code 47) 8 = .ok (.getfield 9, 3) := by decide +kernel
theorem d47_11 : decode (m_code 47) 11 = .ok (.iload_n 1, 1) := by decide +kernel
theorem d47_12 : decode (m_code 47) 12 = .ok (.iaload, 1) := by decide +kernel
theorem d47_13 : decode (m_code 47) 13 = .ok (.goto 4, 3) := by decide +kernel
theorem d47_17 : decode (m_code 47) 17 = .ok (.ireturn, 1) := by decide +kernel
theorem d49_0 : decode (m_code 49) 0 = .ok (.iload_n 2, 1) := by decide +kernel
theorem d49_1 : decode (m_code 49) 1 = .ok (.ifCond .eq 11, 3) := by decide +kernel
theorem d49_4 : decode (m_code 49) 4 = .ok (.iload_n 0, 1) := by decide +kernel
theorem d49_5 : decode (m_code 49) 5 = .ok (.iconst 1, 1) := by decide +kernel
theorem d49_6 : decode (m_code 49) 6 = .ok (.iload_n 1, 1) := by decide +kernel
theorem d49_7 : decode (m_code 49) 7 = .ok (.ishl, 1) := by decide +kernel
theorem d49_8 : decode (m_code 49) 8 = .ok (.ior, 1) := by decide +kernel
theorem d49_9 : decode (m_code 49) 9 = .ok (.goto 10, 3) := by decide +kernel
theorem d49_12 : decode (m_code 49) 12 = .ok (.iload_n 0, 1) := by decide +kernel
theorem d49_13 : decode (m_code 49) 13 = .ok (.iconst 1, 1) := by decide +kernel
theorem d49_14 : decode (m_code 49) 14 = .ok (.iload_n 1, 1) := by decide +kernel
theorem d49_15 : decode (m_code 49) 15 = .ok (.ishl, 1) := by decide +kernel
theorem d49_16 : decode (m_code 49) 16 = .ok (.iconst (-1), 1) := by decide +kernel
theorem d49_17 : decode (m_code 49) 17 = .ok (.ixor, 1) := by decide +kernel
theorem d49_18 : decode (m_code 49) 18 = .ok (.iand, 1) := by decide +kernel
theorem d49_19 : decode (m_code 49) 19 = .ok (.ireturn, 1) := by decide +kernel
theorem d50_0 : decode (m_code 50) 0 = .ok (.iload_n 0, 1) := by decide +kernel
theorem d50_1 : decode (m_code 50) 1 = .ok (.iload_n 0, 1) := by decide +kernel
theorem d50_2 : decode (m_code 50) 2 = .ok (.iconst 1, 1) := by decide +kernel
theorem d50_3 : decode (m_code 50) 3 = .ok (.iushr, 1) := by decide +kernel
theorem d50_4 : decode (m_code 50) 4 = .ok (.ldc_w 265, 3) := by decide +kernel
theorem d50_7 : decode (m_code 50) 7 = .ok (.iand, 1) := by decide +kernel
theorem d50_8 : decode (m_code 50) 8 = .ok (.isub, 1) := by decide +kernel
theorem d50_9 : decode (m_code 50) 9 = .ok (.istore_n 0, 1) := by decide +kernel
theorem d50_10 : decode (m_code 50) 10 = .ok (.iload_n 0, 1) := by decide +kernel
theorem d50_11 : decode (m_code 50) 11 = .ok (.ldc_w 266, 3) := by decide +kernel
theorem d50_14 : decode (m_code 50) 14 = .ok (.iand, 1) := by decide +kernel
theorem d50_15 : decode (m_code 50) 15 = .ok (.iload_n 0, 1) := by decide +kernel
theorem d50_16 : decode (m_code 50) 16 = .ok (.iconst 2, 1) := by decide +kernel
theorem d50_17 : decode (m_code 50) 17 = .ok (.iushr, 1) := by decide +kernel
theorem d50_18 : decode (m_code 50) 18 = .ok (.ldc_w 266, 3) := by decide +kernel
theorem d50_21 : decode (m_code 50) 21 = .ok (.iand, 1) := by decide +kernel
theorem d50_22 : decode (m_code 50) 22 = .ok (.iadd, 1) := by decide +kernel
theorem d50_23 : decode (m_code 50) 23 = .ok (.istore_n 0, 1) := by decide +kernel
theorem d50_24 : decode (m_code 50) 24 = .ok (.iload_n 0, 1) := by decide +kernel
theorem d50_25 : decode (m_code 50) 25 = .ok (.iload_n 0, 1) := by decide +kernel
theorem d50_26 : decode (m_code 50) 26 = .ok (.iconst 4, 1) := by decide +kernel
theorem d50_27 : decode (m_code 50) 27 = .ok (.iushr, 1) := by decide +kernel
theorem d50_28 : decode (m_code 50) 28 = .ok (.iadd, 1) := by decide +kernel
theorem d50_29 : decode (m_code 50) 29 = .ok (.ldc_w 267, 3) := by decide +kernel
theorem d50_32 : decode (m_code 50) 32 = .ok (.iand, 1) := by decide +kernel
theorem d50_33 : decode (m_code 50) 33 = .ok (.istore_n 0, 1) := by decide +kernel
theorem d50_34 : decode (m_code 50) 34 = .ok (.iload_n 0, 1) := by decide +kernel
theorem d50_35 : decode (m_code 50) 35 = .ok (.iload_n 0, 1) := by decide +kernel
theorem d50_36 : decode (m_code 50) 36 = .ok (.bipush 8, 2) := by decide +kernel
theorem d50_38 : decode (m_code 50) 38 = .ok (.iushr, 1) := by decide +kernel
theorem d50_39 : decode (m_code 50) 39 = .ok (.iadd, 1) := by decide +kernel
theorem d50_40 : decode (m_code 50) 40 = .ok (.istore_n 0, 1) := by decide +kernel
theorem d50_41 : decode (m_code 50) 41 = .ok (.iload_n 0, 1) := by decide +kernel
theorem d50_42 : decode (m_code 50) 42 = .ok (.iload_n 0, 1) := by decide +kernel
theorem d50_43 : decode (m_code 50) 43 = .ok (.bipush 16, 2) := by decide +kernel
theorem d50_45 : decode (m_code 50) 45 = .ok (.iushr, 1) := by decide +kernel
theorem d50_46 : decode (m_code 50) 46 = .ok (.iadd, 1) := by decide +kernel
theorem d50_47 : decode (m_code 50) 47 = .ok (.istore_n 0, 1) := by decide +kernel
theorem d50_48 : decode (m_code 50) 48 = .ok (.iload_n 0, 1) := by decide +kernel
theorem d50_49 : decode (m_code 50) 49 = .ok (.bipush 63, 2) := by decide +kernel
theorem d50_51 : decode (m_code 50) 51 = .ok (.iand, 1) := by decide +kernel
theorem d50_52 : decode (m_code 50) 52 = .ok (.ireturn, 1) := by decide +kernel
theorem d52_0 : decode (m_code 52) 0 = .ok (.aload_n 0, 1) := by decide +kernel
theorem d52_1 : decode (m_code 52) 1 = .ok (.iload_n 1, 1) := by decide +kernel
theorem d52_2 : decode (m_code 52) 2 = .ok (.invokevirtual 39, 3) := by decide +kernel
theorem d52_5 : decode (m_code 52) 5 = .ok (.aload_n 0, 1) := by decide +kernel
theorem d52_6 : decode (m_code 52) 6 = .ok (.getfield 15, 3) := by decide +kernel
theorem d52_9 : decode (m_code 52) 9 = .ok (.iand, 1) := by decide +kernel
theorem d52_10 : decode (m_code 52) 10 = .ok (.ifCond .eq 7, 3) := by decide +kernel
theorem d52_13 : decode (m_code 52) 13 = .ok (.iconst 1, 1) := by decide +kernel
theorem d52_14 : decode (m_code 52) 14 = .ok (.goto 4, 3) := by decide +kernel
theorem d52_17 : decode (m_code 52) 17 = .ok (.iconst 0, 1) := by decide +kernel
theorem d52_18 : decode (m_code 52) 18 = .ok (.ireturn, 1) := by decide +kernel
theorem d53_0 : decode (m_code 53) 0 = .ok (.iload_n 1, 1) := by decide +kernel
theorem d53_1 : decode (m_code 53) 1 = .ok (.invokestatic 25, 3) := by decide +kernel
theorem d53_4 : decode (m_code 53) 4 = .ok (.ifCond .eq 16, 3) := by decide +kernel
theorem d53_7 : decode (m_code 53) 7 = .ok (.aload_n 0, 1) := by decide +kernel
theorem d53_8 : decode (m_code 53) 8 = .ok (.aload_n 0, 1) := by decide +kernel
theorem d53_9 : decode (m_code 53) 9 = .ok (.getfield 15, 3) := by decide +kernel
theorem d53_12 : decode (m_code 53) 12 = .ok (.iload_n 1, 1) := by decide +kernel
theorem d53_13 : decode (m_code 53) 13 = .ok (.iload_n 2, 1) := by decide +kernel
theorem d53_14 : decode (m_code 53) 14 = .ok (.invokestatic 35, 3) := by decide +kernel
theorem d53_17 : decode (m_code 53) 17 = .ok (.putfield 15, 3) := by decide +kernel
theorem d53_20 : decode (m_code 53) 20 = .ok (.return_, 1) := by decide +kernel
theorem d54_0 : decode (m_code 54) 0 = .ok (.aload_n 0, 1) := by decide +kernel
theorem d54_1 : decode (m_code 54) 1 = .ok (.getfield 15, 3) := by decide +kernel
theorem d54_4 : decode (m_code 54) 4 = .ok (.invokestatic 29, 3) := by decide +kernel
theorem d54_7 : decode (m_code 54) 7 = .ok (.ireturn, 1) := by decide +kernel
theorem d66_0 : decode (m_code 66) 0 = .ok (.aload_n 0, 1) := by decide +kernel
theorem d66_1 : decode (m_code 66) 1 = .ok (.iload_n 1, 1) := by decide +kernel
theorem d66_2 : decode (m_code 66) 2 = .ok (.invokevirtual 53, 3) := by decide +kernel
theorem d66_5 : decode (m_code 66) 5 = .ok (.ifCond .eq 17, 3) := by decide +kernel
theorem d66_8 : decode (m_code 66) 8 = .ok (.aload_n 0, 1) := by decide +kernel
theorem d66_9 : decode (m_code 66) 9 = .ok (.getfield 9, 3) := by decide +kernel
theorem d66_12 : decode (m_code 66) 12 = .ok (.iload_n 1, 1) := by decide +kernel
theorem d66_13 : decode (m_code 66) 13 = .ok (.iaload, 1) := by decide +kernel
theorem d66_14 : decode (m_code 66) 14 = .ok (.iload_n 2, 1) := by decide +kernel
theorem d66_15 : decode (m_code 66) 15 = .ok (.if_icmp .ne 7, 3) := by decide +kernel
theorem d66_18 : decode (m_code 66) 18 = .ok (.iconst 1, 1) := by decide +kernel
theorem d66_19 : decode (m_code 66) 19 = .ok (.goto 4, 3) := by decide +kernel
theorem d66_22 : decode (m_code 66) 22 = .ok (.iconst 0, 1) := by decide +kernel
theorem d66_23 : decode (m_code 66) 23 = .ok (.ireturn, 1) := by decide +kernel
theorem d67_0 : decode (m_code 67) 0 = .ok (.iload_n 1, 1) := by decide +kernel
theorem d67_1 : decode (m_code 67) 1 = .ok (.invokestatic 27, 3) := by decide +kernel
theorem d67_4 : decode (m_code 67) 4 = .ok (.ifCond .eq 12, 3) := by decide +kernel
theorem d67_7 : decode (m_code 67) 7 = .ok (.aload_n 0, 1) := by decide +kernel
theorem d67_8 : decode (m_code 67) 8 = .ok (.getfield 9, 3) := by decide +kernel
theorem d67_11 : decode (m_code 67) 11 = .ok (.iload_n 1, 1) := by decide +kernel
theorem d67_12 : decode (m_code 67) 12 = .ok (.iaload, 1) := by decide +kernel
theorem d67_13 : decode (m_code 67) 13 = .ok (.goto 5, 3) := by decide +kernel
theorem d67_18 : decode (m_code 67) 18 = .ok (.ireturn, 1) := by decide +kernel
theorem d70_0 : decode (m_code 70) 0 = .ok (.iload_n 1, 1) := by decide +kernel
theorem d70_1 : decode (m_code 70) 1 = .ok (.invokestatic 27, 3) := by decide +kernel
theorem d70_4 : decode (m_code 70) 4 = .ok (.ifCond .eq 10, 3) := by decide +kernel
theorem d70_7 : decode (m_code 70) 7 = .ok (.aload_n 0, 1) := by decide +kernel
theorem d70_8 : decode (m_code 70) 8 = .ok (.getfield 9, 3) := by decide +kernel
theorem d70_11 : decode (m_code 70) 11 = .ok (.iload_n 1, 1) := by decide +kernel
theorem d70_12 : decode (m_code 70) 12 = .ok (.iload_n 2, 1) := by decide +kernel
theorem d70_13 : decode (m_code 70) 13 = .ok (.iastore, 1) := by decide +kernel
theorem d70_14 : decode (m_code 70) 14 = .ok (.return_, 1) := by decide +kernel
theorem d73_0 : decode (m_code 73) 0 = .ok (.aload_n 0, 1) := by decide +kernel
theorem d73_1 : decode (m_code 73) 1 = .ok (.iload_n 1, 1) := by decide +kernel
theorem d73_2 : decode (m_code 73) 2 = .ok (.invokevirtual 57, 3) := by decide +kernel
theorem d73_5 : decode (m_code 73) 5 = .ok (.ifCond .ne 20, 3) := by decide +kernel
theorem d73_8 : decode (m_code 73) 8 = .ok (.aload_n 0, 1) := by decide +kernel
theorem d73_9 : decode (m_code 73) 9 = .ok (.iload_n 2, 1) := by decide +kernel
theorem d73_10 : decode (m_code 73) 10 = .ok (.aload_n 0, 1) := by decide +kernel
theorem d73_11 : decode (m_code 73) 11 = .ok (.iload_n 1, 1) := by decide +kernel
theorem d73_12 : decode (m_code 73) 12 = .ok (.invokevirtual 60, 3) := by decide +kernel
theorem d73_15 : decode (m_code 73) 15 = .ok (.invokevirtual 64, 3) := by decide +kernel
theorem d73_18 : decode (m_code 73) 18 = .ok (.ifCond .eq 7, 3) := by decide +kernel
theorem d73_21 : decode (m_code 73) 21 = .ok (.iconst 1, 1) := by decide +kernel
theorem d73_22 : decode (m_code 73) 22 = .ok (.goto 4, 3) := by decide +kernel
theorem d73_25 : decode (m_code 73) 25 = .ok (.iconst 0, 1) := by decide +kernel
theorem d73_26 : decode (m_code 73) 26 = .ok (.ireturn, 1) := by decide +kernel
theorem d74_0 : decode (m_code 74) 0 = .ok (.aload_n 0, 1) := by decide +kernel
theorem d74_1 : decode (m_code 74) 1 = .ok (.iload_n 1, 1) := by decide +kernel
theorem d74_2 : decode (m_code 74) 2 = .ok (.invokevirtual 53, 3) := by decide +kernel
theorem d74_5 : decode (m_code 74) 5 = .ok (.ifCond .eq 18, 3) := by decide +kernel
theorem d74_8 : decode (m_code 74) 8 = .ok (.aload_n 0, 1) := by decide +kernel
theorem d74_9 : decode (m_code 74) 9 = .ok (.getfield 9, 3) := by decide +kernel
theorem d74_12 : decode (m_code 74) 12 = .ok (.iload_n 1, 1) := by decide +kernel
theorem d74_13 : decode (m_code 74) 13 = .ok (.iaload, 1) := by decide +kernel
theorem d74_14 : decode (m_code 74) 14 = .ok (.bipush (-5), 2) := by decide +kernel
theorem d74_16 : decode (m_code 74) 16 = .ok (.if_icmp .ne 7, 3) := by decide +kernel
theorem d74_19 : decode (m_code 74) 19 = .ok (.iconst 1, 1) := by decide +kernel
theorem d74_20 : decode (m_code 74) 20 = .ok (.goto 4, 3) := by decide +kernel
theorem d74_23 : decode (m_code 74) 23 = .ok (.iconst 0, 1) := by decide +kernel
theorem d74_24 : decode (m_code 74) 24 = .ok (.ireturn, 1) := by decide +kernel
theorem d79_0 : decode (m_code 79) 0 = .ok (.aload_n 0, 1) := by decide +kernel
theorem d79_1 : decode (m_code 79) 1 = .ok (.iload_n 1, 1) := by decide +kernel
theorem d79_2 : decode (m_code 79) 2 = .ok (.invokevirtual 53, 3) := by decide +kernel
theorem d79_5 : decode (m_code 79) 5 = .ok (.ifCond .eq 20, 3) := by decide +kernel
theorem d79_8 : decode (m_code 79) 8 = .ok (.aload_n 0, 1) := by decide +kernel
theorem d79_9 : decode (m_code 79) 9 = .ok (.iload_n 1, 1) := by decide +kernel
theorem d79_10 : decode (m_code 79) 10 = .ok (.invokevirtual 57, 3) := by decide +kernel
theorem d79_13 : decode (m_code 79) 13 = .ok (.ifCond .ne 12, 3) := by decide +kernel
theorem d79_16 : decode (m_code 79) 16 = .ok (.aload_n 0, 1) := by decide +kernel
theorem d79_17 : decode (m_code 79) 17 = .ok (.getfield 21, 3) := by decide +kernel
theorem d79_20 : decode (m_code 79) 20 = .ok (.iload_n 1, 1) := by decide +kernel
theorem d79_21 : decode (m_code 79) 21 = .ok (.iaload, 1) := by decide +kernel
theorem d79_22 : decode (m_code 79) 22 = .ok (.goto 4, 3) := by decide +kernel
theorem d79_25 : decode (m_code 79) 25 = .ok (.iconst 0, 1) := by decide +kernel
theorem d79_26 : decode (m_code 79) 26 = .ok (.ireturn, 1) := by decide +kernel
theorem d89_0 : decode (m_code 89) 0 = .ok (.aload_n 0, 1) := by decide +kernel
theorem d89_1 : decode (m_code 89) 1 = .ok (.iload_n 1, 1) := by decide +kernel
theorem d89_2 : decode (m_code 89) 2 = .ok (.invokevirtual 41, 3) := by decide +kernel
theorem d89_5 : decode (m_code 89) 5 = .ok (.iconst 2, 1) := by decide +kernel
theorem d89_6 : decode (m_code 89) 6 = .ok (.if_icmp .ne 7, 3) := by decide +kernel
theorem d89_9 : decode (m_code 89) 9 = .ok (.iconst 1, 1) := by decide +kernel
theorem d89_10 : decode (m_code 89) 10 = .ok (.goto 4, 3) := by decide +kernel
theorem d89_13 : decode (m_code 89) 13 = .ok (.iconst 0, 1) := by decide +kernel
theorem d89_14 : decode (m_code 89) 14 = .ok (.ireturn, 1) := by decide +kernel
theorem d96_0 : decode (m_code 96) 0 = .ok (.aload_n 0, 1) := by decide +kernel
theorem d96_1 : decode (m_code 96) 1 = .ok (.iload_n 1, 1) := by decide +kernel
theorem d96_2 : decode (m_code 96) 2 = .ok (.invokevirtual 41, 3) := by decide +kernel
theorem d96_5 : decode (m_code 96) 5 = .ok (.iconst 1, 1) := by decide +kernel
theorem d96_6 : decode (m_code 96) 6 = .ok (.if_icmp .ne 7, 3) := by decide +kernel
theorem d96_9 : decode (m_code 96) 9 = .ok (.iconst 1, 1) := by decide +kernel
theorem d96_10 : decode (m_code 96) 10 = .ok (.goto 4, 3) := by decide +kernel
theorem d96_13 : decode (m_code 96) 13 = .ok (.iconst 0, 1) := by decide +kernel
theorem d96_14 : decode (m_code 96) 14 = .ok (.ireturn, 1) := by decide +kernel
theorem d112_0 : decode (m_code 112) 0 = .ok (.aload_n 0, 1) := by decide +kernel
theorem d112_1 : decode (m_code 112) 1 = .ok (.iload_n 1, 1) := by decide +kernel
theorem d112_2 : decode (m_code 112) 2 = .ok (.invokevirtual 53, 3) := by decide +kernel
theorem d112_5 : decode (m_code 112) 5 = .ok (.ifCond .eq 17, 3) := by decide +kernel
theorem d112_8 : decode (m_code 112) 8 = .ok (.iload_n 2, 1) := by decide +kernel
theorem d112_9 : decode (m_code 112) 9 = .ok (.ifCond .lt 13, 3) := by decide +kernel
theorem d112_12 : decode (m_code 112) 12 = .ok (.iload_n 2, 1) := by decide +kernel
theorem d112_13 : decode (m_code 112) 13 = .ok (.aload_n 0, 1) := by decide +kernel
theorem d112_14 : decode (m_code 112) 14 = .ok (.getfield 33, 3) := by decide +kernel
theorem d112_17 : decode (m_code 112) 17 = .ok (.iload_n 1, 1) := by decide +kernel
theorem d112_18 : decode (m_code 112) 18 = .ok (.iaload, 1) := by decide +kernel
theorem d112_19 : decode (m_code 112) 19 = .ok (.if_icmp .lt 6, 3) := by decide +kernel
theorem d112_22 : decode (m_code 112) 22 = .ok (.bipush (-5), 2) := by decide +kernel
theorem d112_24 : decode (m_code 112) 24 = .ok (.ireturn, 1) := by decide +kernel
theorem d112_25 : decode (m_code 112) 25 = .ok (.aload_n 0, 1) := by decide +kernel
theorem d112_26 : decode (m_code 112) 26 = .ok (.getfield 36, 3) := by decide +kernel
theorem d112_29 : decode (m_code 112) 29 = .ok (.iload_n 1, 1) := by decide +kernel
theorem d112_30 : decode (m_code 112) 30 = .ok (.bipush 12, 2) := by decide +kernel
theorem d112_32 : decode (m_code 112) 32 = .ok (.imul, 1) := by decide +kernel
theorem d112_33 : decode (m_code 112) 33 = .ok (.iload_n 2, 1) := by decide +kernel
theorem d112_34 : decode (m_code 112) 34 = .ok (.iadd, 1) := by decide +kernel
theorem d112_35 : decode (m_code 112) 35 = .ok (.iaload, 1) := by decide +kernel
theorem d112_36 : decode (m_code 112) 36 = .ok (.ireturn, 1) := by decide +kernel
theorem u_isWalking {X : mX} {h : mH} {B st : Nat} {M : Nat → Nat → Int32} (hM : Mus h B st M) {n : Nat} (hn : M 19 9 = nI n) (hn2 : n ≤ 4) {g : Nat} (hg : g < n) : Tells X 74 [.ref (B + 19), .int (nI g)] h (m_b (M 20 g = (-5 : Int32))) := by
  refine wp_aload_n d74_0 rfl ?_
  refine wp_iload_n d74_1 rfl ?_
  refine wp_invvT (e := 53) (j2 := 59) (n := 1) d74_2 (by decide +kernel) (by decide +kernel) rfl rfl rfl (um_19 hM) (by decide +kernel) (Nat.le_of_ble_eq_true rfl) rfl rfl (Nat.le_of_ble_eq_true rfl) (by decide +kernel) (u_has19 hM hn (by omega) (nI g)) ?_
  refine wp_ifb_eq d74_5 (tgt := 23) (by decide) (fun hq9 => absurd (⟨nI_le (by omega) (by omega), nI_lt (by omega) (by omega)⟩ : nI 0 ≤ nI g ∧ nI g < nI n) hq9) (fun _ => ?_)
  refine wp_aload_n d74_8 rfl ?_
  refine wp_getf (e := 9) (ci := 6) (k := 0) (nest := false) d74_9 (by decide +kernel) (um_19 hM) rfl ?_
  refine wp_iload_n d74_12 rfl ?_
  refine wp_iald d74_13 (um_20 hM) (nI_in (by omega) (by decide)) (v := M 20 g) ((congrArg (M 20) (nI_nat (by omega))).trans rfl) ?_
  refine wp_bipush d74_14 (v := (-5 : Int32)) (by decide) ?_
  refine wp_icmp_ne d74_16 (tgt := 23) (by decide) (fun hc16 => ?_) (fun hc16 => ?_)
  · refine wp_iconst d74_23 (v := nI 0) (by decide) ?_
    refine wp_zret d74_24 (by decide +kernel) (by decide) ?_
    exact ⟨congrArg (fun z => some (Value.int z)) (m_b_f hc16).symm, rfl⟩
  · refine wp_iconst d74_19 (v := nI 1) (by decide) ?_
    refine wp_goto d74_20 (tgt := 24) (by decide) ?_
    refine wp_zret d74_24 (by decide +kernel) (by decide) ?_
    exact ⟨congrArg (fun z => some (Value.int z)) (m_b_t hc16).symm, rfl⟩
theorem u_isIn {X : mX} {h : mH} {B st : Nat} {M : Nat → Nat → Int32} (hM : Mus h B st M) {n : Nat} (hn : M 19 9 = nI n) (hn2 : n ≤ 4) {g : Nat} (hg : g < n) (x : Int32) : Tells X 66 [.ref (B + 19), .int (nI g), .int (x)] h (m_b (M 20 g = x)) := by
  refine wp_aload_n d66_0 rfl ?_
  refine wp_iload_n d66_1 rfl ?_
  refine wp_invvT (e := 53) (j2 := 59) (n := 1) d66_2 (by decide +kernel) (by decide +kernel) rfl rfl rfl (um_19 hM) (by decide +kernel) (Nat.le_of_ble_eq_true rfl) rfl rfl (Nat.le_of_ble_eq_true rfl) (by decide +kernel) (u_has19 hM hn (by omega) (nI g)) ?_
  refine wp_ifb_eq d66_5 (tgt := 22) (by decide) (fun hq9 => absurd (⟨nI_le (by omega) (by omega), nI_lt (by omega) (by omega)⟩ : nI 0 ≤ nI g ∧ nI g < nI n) hq9) (fun _ => ?_)
  refine wp_aload_n d66_8 rfl ?_
  refine wp_getf (e := 9) (ci := 6) (k := 0) (nest := false) d66_9 (by decide +kernel) (um_19 hM) rfl ?_
  refine wp_iload_n d66_12 rfl ?_
  refine wp_iald d66_13 (um_20 hM) (nI_in (by omega) (by decide)) (v := M 20 g) ((congrArg (M 20) (nI_nat (by omega))).trans rfl) ?_
  refine wp_iload_n d66_14 rfl ?_
  refine wp_icmp_ne d66_15 (tgt := 22) (by decide) (fun hc15 => ?_) (fun hc15 => ?_)
  · refine wp_iconst d66_22 (v := nI 0) (by decide) ?_
    refine wp_zret d66_23 (by decide +kernel) (by decide) ?_
    exact ⟨congrArg (fun z => some (Value.int z)) (m_b_f hc15).symm, rfl⟩
  · refine wp_iconst d66_18 (v := nI 1) (by decide) ?_
    refine wp_goto d66_19 (tgt := 23) (by decide) ?_
    refine wp_zret d66_23 (by decide +kernel) (by decide) ?_
    exact ⟨congrArg (fun z => some (Value.int z)) (m_b_t hc15).symm, rfl⟩
theorem u_together {X : mX} {h : mH} {B st : Nat} {M : Nat → Nat → Int32} (hM : Mus h B st M) {n : Nat} (hn : M 19 9 = nI n) (hn2 : n ≤ 4) {g : Nat} (hg : g < n) {g2 : Nat} (hg2 : g2 < n) : Tells X 73 [.ref (B + 19), .int (nI g), .int (nI g2)] h (m_b (¬ M 20 g = (-5 : Int32) ∧ M 20 g2 = M 20 g)) := by
  refine wp_aload_n d73_0 rfl ?_
  refine wp_iload_n d73_1 rfl ?_
  refine wp_invvT (e := 57) (j2 := 74) (n := 1) d73_2 (by decide +kernel) (by decide +kernel) rfl rfl rfl (um_19 hM) (by decide +kernel) (Nat.le_of_ble_eq_true rfl) rfl rfl (Nat.le_of_ble_eq_true rfl) (by decide +kernel) (u_isWalking hM hn (by omega) (by omega)) ?_
  refine wp_ifb_ne d73_5 (tgt := 25) (by decide) (fun hc5 => ?_) (fun hc5 => ?_)
  · refine wp_iconst d73_25 (v := nI 0) (by decide) ?_
    refine wp_zret d73_26 (by decide +kernel) (by decide) ?_
    exact ⟨congrArg (fun z => some (Value.int z)) (m_b_f (fun q => q.1 hc5)).symm, rfl⟩
  · refine wp_aload_n d73_8 rfl ?_
    refine wp_iload_n d73_9 rfl ?_
    refine wp_aload_n d73_10 rfl ?_
    refine wp_iload_n d73_11 rfl ?_
    refine wp_invvT (e := 60) (j2 := 58) (n := 1) d73_12 (by decide +kernel) (by decide +kernel) rfl rfl rfl (um_19 hM) (by decide +kernel) (Nat.le_of_ble_eq_true rfl) rfl rfl (Nat.le_of_ble_eq_true rfl) (by decide +kernel) (u_a58 hM hn (by omega) (r := g) (by omega)) ?_
    refine wp_invvT (e := 64) (j2 := 66) (n := 2) d73_15 (by decide +kernel) (by decide +kernel) rfl rfl rfl (um_19 hM) (by decide +kernel) (Nat.le_of_ble_eq_true rfl) rfl rfl (Nat.le_of_ble_eq_true rfl) (by decide +kernel) (u_isIn hM hn (by omega) (by omega) (M 20 g)) ?_
    refine wp_ifb_eq d73_18 (tgt := 25) (by decide) (fun hc18 => ?_) (fun hc18 => ?_)
    · refine wp_iconst d73_25 (v := nI 0) (by decide) ?_
      refine wp_zret d73_26 (by decide +kernel) (by decide) ?_
      exact ⟨congrArg (fun z => some (Value.int z)) (m_b_f (fun q => hc18 q.2)).symm, rfl⟩
    · refine wp_iconst d73_21 (v := nI 1) (by decide) ?_
      refine wp_goto d73_22 (tgt := 26) (by decide) ?_
      refine wp_zret d73_26 (by decide +kernel) (by decide) ?_
      exact ⟨congrArg (fun z => some (Value.int z)) (m_b_t ⟨hc5, hc18⟩).symm, rfl⟩
theorem u_stayLeft {X : mX} {h : mH} {B st : Nat} {M : Nat → Nat → Int32} (hM : Mus h B st M) {n : Nat} (hn : M 19 9 = nI n) (hn2 : n ≤ 4) {g : Nat} (hg : g < n) : Tells X 79 [.ref (B + 19), .int (nI g)] h ((if M 20 g = (-5 : Int32) then nI 0 else M 23 g)) := by
  refine wp_aload_n d79_0 rfl ?_
  refine wp_iload_n d79_1 rfl ?_
  refine wp_invvT (e := 53) (j2 := 59) (n := 1) d79_2 (by decide +kernel) (by decide +kernel) rfl rfl rfl (um_19 hM) (by decide +kernel) (Nat.le_of_ble_eq_true rfl) rfl rfl (Nat.le_of_ble_eq_true rfl) (by decide +kernel) (u_has19 hM hn (by omega) (nI g)) ?_
  refine wp_ifb_eq d79_5 (tgt := 25) (by decide) (fun hq9 => absurd (⟨nI_le (by omega) (by omega), nI_lt (by omega) (by omega)⟩ : nI 0 ≤ nI g ∧ nI g < nI n) hq9) (fun _ => ?_)
  refine wp_aload_n d79_8 rfl ?_
  refine wp_iload_n d79_9 rfl ?_
  refine wp_invvT (e := 57) (j2 := 74) (n := 1) d79_10 (by decide +kernel) (by decide +kernel) rfl rfl rfl (um_19 hM) (by decide +kernel) (Nat.le_of_ble_eq_true rfl) rfl rfl (Nat.le_of_ble_eq_true rfl) (by decide +kernel) (u_isWalking hM hn (by omega) (by omega)) ?_
  refine wp_ifb_ne d79_13 (tgt := 25) (by decide) (fun hc13 => ?_) (fun hc13 => ?_)
  · refine wp_iconst d79_25 (v := nI 0) (by decide) ?_
    refine wp_iret d79_26 (by decide +kernel) ?_
    exact ⟨by rw [if_pos hc13], rfl⟩
  · refine wp_aload_n d79_16 rfl ?_
    refine wp_getf (e := 21) (ci := 6) (k := 3) (nest := false) d79_17 (by decide +kernel) (um_19 hM) rfl ?_
    refine wp_iload_n d79_20 rfl ?_
    refine wp_iald d79_21 (um_23 hM) (nI_in (by omega) (by decide)) (v := M 23 g) ((congrArg (M 23) (nI_nat (by omega))).trans rfl) ?_
    refine wp_goto d79_22 (tgt := 26) (by decide) ?_
    refine wp_iret d79_26 (by decide +kernel) ?_
    exact ⟨by rw [if_neg hc13], rfl⟩
theorem u_orderOf_1 {X : mX} {h : mH} {B st : Nat} {M : Nat → Nat → Int32} (hM : Mus h B st M) {n : Nat} (hn : M 19 9 = nI n) (hn2 : n ≤ 4) {g : Nat} (hg : g < n) {m : Nat} (hm : M 27 g = nI m) (hm2 : m ≤ 12) {x : Int32} (hx : x < 0) : Tells X 112 [.ref (B + 19), .int (nI g), .int (x)] h (-5) := by
  refine wp_aload_n d112_0 rfl ?_
  refine wp_iload_n d112_1 rfl ?_
  refine wp_invvT (e := 53) (j2 := 59) (n := 1) d112_2 (by decide +kernel) (by decide +kernel) rfl rfl rfl (um_19 hM) (by decide +kernel) (Nat.le_of_ble_eq_true rfl) rfl rfl (Nat.le_of_ble_eq_true rfl) (by decide +kernel) (u_has19 hM hn (by omega) (nI g)) ?_
  refine wp_ifb_eq d112_5 (tgt := 22) (by decide) (fun hq9 => absurd (⟨nI_le (by omega) (by omega), nI_lt (by omega) (by omega)⟩ : nI 0 ≤ nI g ∧ nI g < nI n) hq9) (fun _ => ?_)
  refine wp_iload_n d112_8 rfl ?_
  refine wp_if_lt d112_9 (tgt := 22) (by decide) (fun _ => ?_) (fun hq9 => absurd hx hq9)
  refine wp_bipush d112_22 (v := (-5 : Int32)) (by decide) ?_
  refine wp_iret d112_24 (by decide +kernel) ?_
  exact ⟨rfl, rfl⟩
theorem u_orderOf_2 {X : mX} {h : mH} {B st : Nat} {M : Nat → Nat → Int32} (hM : Mus h B st M) {n : Nat} (hn : M 19 9 = nI n) (hn2 : n ≤ 4) {g : Nat} (hg : g < n) {m : Nat} (hm : M 27 g = nI m) (hm2 : m ≤ 12) {x : Int32} (hx : ¬ x < 0) (hl : ¬ x < nI m) : Tells X 112 [.ref (B + 19), .int (nI g), .int (x)] h (-5) := by
  refine wp_aload_n d112_0 rfl ?_
  refine wp_iload_n d112_1 rfl ?_
  refine wp_invvT (e := 53) (j2 := 59) (n := 1) d112_2 (by decide +kernel) (by decide +kernel) rfl rfl rfl (um_19 hM) (by decide +kernel) (Nat.le_of_ble_eq_true rfl) rfl rfl (Nat.le_of_ble_eq_true rfl) (by decide +kernel) (u_has19 hM hn (by omega) (nI g)) ?_
  refine wp_ifb_eq d112_5 (tgt := 22) (by decide) (fun hq9 => absurd (⟨nI_le (by omega) (by omega), nI_lt (by omega) (by omega)⟩ : nI 0 ≤ nI g ∧ nI g < nI n) hq9) (fun _ => ?_)
  refine wp_iload_n d112_8 rfl ?_
  refine wp_if_lt d112_9 (tgt := 22) (by decide) (fun hq9 => absurd hq9 hx) (fun _ => ?_)
  refine wp_iload_n d112_12 rfl ?_
  refine wp_aload_n d112_13 rfl ?_
  refine wp_getf (e := 33) (ci := 6) (k := 7) (nest := false) d112_14 (by decide +kernel) (um_19 hM) rfl ?_
  refine wp_iload_n d112_17 rfl ?_
  refine wp_iald d112_18 (um_27 hM) (nI_in (by omega) (by decide)) (v := nI m) ((congrArg (M 27) (nI_nat (by omega))).trans hm) ?_
  refine wp_icmp_lt d112_19 (tgt := 25) (by decide) (fun hq9 => absurd hq9 hl) (fun _ => ?_)
  refine wp_bipush d112_22 (v := (-5 : Int32)) (by decide) ?_
  refine wp_iret d112_24 (by decide +kernel) ?_
  exact ⟨rfl, rfl⟩
theorem u_orderOf {X : mX} {h : mH} {B st : Nat} {M : Nat → Nat → Int32} (hM : Mus h B st M) {n : Nat} (hn : M 19 9 = nI n) (hn2 : n ≤ 4) {g : Nat} (hg : g < n) {m : Nat} (hm : M 27 g = nI m) (hm2 : m ≤ 12) {k : Nat} (hk : k < m) : Tells X 112 [.ref (B + 19), .int (nI g), .int (nI k)] h (M 28 (g * 12 + k)) := by
  refine wp_aload_n d112_0 rfl ?_
  refine wp_iload_n d112_1 rfl ?_
  refine wp_invvT (e := 53) (j2 := 59) (n := 1) d112_2 (by decide +kernel) (by decide +kernel) rfl rfl rfl (um_19 hM) (by decide +kernel) (Nat.le_of_ble_eq_true rfl) rfl rfl (Nat.le_of_ble_eq_true rfl) (by decide +kernel) (u_has19 hM hn (by omega) (nI g)) ?_
  refine wp_ifb_eq d112_5 (tgt := 22) (by decide) (fun hq9 => absurd (⟨nI_le (by omega) (by omega), nI_lt (by omega) (by omega)⟩ : nI 0 ≤ nI g ∧ nI g < nI n) hq9) (fun _ => ?_)
  refine wp_iload_n d112_8 rfl ?_
  refine wp_if_lt d112_9 (tgt := 22) (by decide) (fun hq9 => absurd hq9 (Int32.not_lt.mpr (nI_pos' (by omega)))) (fun _ => ?_)
  refine wp_iload_n d112_12 rfl ?_
  refine wp_aload_n d112_13 rfl ?_
  refine wp_getf (e := 33) (ci := 6) (k := 7) (nest := false) d112_14 (by decide +kernel) (um_19 hM) rfl ?_
  refine wp_iload_n d112_17 rfl ?_
  refine wp_iald d112_18 (um_27 hM) (nI_in (by omega) (by decide)) (v := nI m) ((congrArg (M 27) (nI_nat (by omega))).trans hm) ?_
  refine wp_icmp_lt d112_19 (tgt := 25) (by decide) (fun _ => ?_) (fun hq9 => absurd (nI_lt (by omega) (by omega)) hq9)
  refine wp_aload_n d112_25 rfl ?_
  refine wp_getf (e := 36) (ci := 6) (k := 8) (nest := false) d112_26 (by decide +kernel) (um_19 hM) rfl ?_
  refine wp_iload_n d112_29 rfl ?_
  refine wp_bipush d112_30 (v := nI 12) (by decide) ?_
  refine wp_imulv d112_32 (v := nI (g * 12)) (nI_mul _ _) ?_
  refine wp_iload_n d112_33 rfl ?_
  refine wp_iaddv d112_34 (v := nI (g * 12 + k)) (nI_add _ _) ?_
  refine wp_iald d112_35 (um_28 hM) (nI_in (by omega) (by decide)) (v := M 28 (g * 12 + k)) ((congrArg (M 28) (nI_nat (by omega))).trans rfl) ?_
  refine wp_iret d112_36 (by decide +kernel) ?_
  exact ⟨rfl, rfl⟩
theorem u_isTaken {X : mX} {h : mH} {B st : Nat} {M : Nat → Nat → Int32} (hM : Mus h B st M) {n : Nat} (hn : M 29 5 = nI n) (hn2 : n ≤ 10) {g : Nat} (hg : g < n) : Tells X 89 [.ref (B + 29), .int (nI g)] h (m_b (M 33 g = nI 2)) := by
  refine wp_aload_n d89_0 rfl ?_
  refine wp_iload_n d89_1 rfl ?_
  refine wp_invvT (e := 41) (j2 := 90) (n := 1) d89_2 (by decide +kernel) (by decide +kernel) rfl rfl rfl (um_29 hM) (by decide +kernel) (Nat.le_of_ble_eq_true rfl) rfl rfl (Nat.le_of_ble_eq_true rfl) (by decide +kernel) (u_a90 hM hn (by omega) (r := g) (by omega)) ?_
  refine wp_iconst d89_5 (v := nI 2) (by decide) ?_
  refine wp_icmp_ne d89_6 (tgt := 13) (by decide) (fun hc6 => ?_) (fun hc6 => ?_)
  · refine wp_iconst d89_13 (v := nI 0) (by decide) ?_
    refine wp_zret d89_14 (by decide +kernel) (by decide) ?_
    exact ⟨congrArg (fun z => some (Value.int z)) (m_b_f hc6).symm, rfl⟩
  · refine wp_iconst d89_9 (v := nI 1) (by decide) ?_
    refine wp_goto d89_10 (tgt := 14) (by decide) ?_
    refine wp_zret d89_14 (by decide +kernel) (by decide) ?_
    exact ⟨congrArg (fun z => some (Value.int z)) (m_b_t hc6).symm, rfl⟩
theorem u_isTroubledW {X : mX} {h : mH} {B st : Nat} {M : Nat → Nat → Int32} (hM : Mus h B st M) {n : Nat} (hn : M 29 5 = nI n) (hn2 : n ≤ 10) {g : Nat} (hg : g < n) : Tells X 96 [.ref (B + 29), .int (nI g)] h (m_b (M 33 g = nI 1)) := by
  refine wp_aload_n d96_0 rfl ?_
  refine wp_iload_n d96_1 rfl ?_
  refine wp_invvT (e := 41) (j2 := 90) (n := 1) d96_2 (by decide +kernel) (by decide +kernel) rfl rfl rfl (um_29 hM) (by decide +kernel) (Nat.le_of_ble_eq_true rfl) rfl rfl (Nat.le_of_ble_eq_true rfl) (by decide +kernel) (u_a90 hM hn (by omega) (r := g) (by omega)) ?_
  refine wp_iconst d96_5 (v := nI 1) (by decide) ?_
  refine wp_icmp_ne d96_6 (tgt := 13) (by decide) (fun hc6 => ?_) (fun hc6 => ?_)
  · refine wp_iconst d96_13 (v := nI 0) (by decide) ?_
    refine wp_zret d96_14 (by decide +kernel) (by decide) ?_
    exact ⟨congrArg (fun z => some (Value.int z)) (m_b_f hc6).symm, rfl⟩
  · refine wp_iconst d96_9 (v := nI 1) (by decide) ?_
    refine wp_goto d96_10 (tgt := 14) (by decide) ?_
    refine wp_zret d96_14 (by decide +kernel) (by decide) ?_
    exact ⟨congrArg (fun z => some (Value.int z)) (m_b_t hc6).symm, rfl⟩
abbrev F_nb (a k : Int32) : Prop := ¬ ((a >>> (k &&& 31)) &&& nI 1) = 0
theorem u_isOpen {X : mX} {h : mH} {B st : Nat} {M : Nat → Nat → Int32} (hM : Mus h B st M) {z : Nat} (hz : z < 6) : Tells X 45 [.ref (B + 15), .int (nI z)] h (m_b (F_nb (M 15 1) (nI z))) := by
  refine wp_iload_n d45_0 rfl ?_
  refine wp_invsT (e := 25) (j2 := 15) (n := 1) d45_1 (by decide +kernel) (by decide +kernel) rfl rfl rfl (Nat.le_of_ble_eq_true rfl) (Nat.le_of_ble_eq_true rfl) rfl rfl (Nat.le_of_ble_eq_true rfl) (by decide +kernel) (s_isZone (nI z)) ?_
  refine wp_ifb_eq d45_4 (tgt := 22) (by decide) (fun hq9 => absurd (⟨nI_le (by omega) (by omega), nI_lt (by omega) (by omega)⟩ : nI 0 ≤ nI z ∧ nI z < nI 6) hq9) (fun _ => ?_)
  refine wp_aload_n d45_7 rfl ?_
  refine wp_getf (e := 15) (ci := 4) (k := 1) (nest := false) d45_8 (by decide +kernel) (um_15 hM) rfl ?_
  refine wp_iload_n d45_11 rfl ?_
  refine wp_ishr d45_12 ?_
  refine wp_iconst d45_13 (v := nI 1) (by decide) ?_
  refine wp_iand d45_14 ?_
  refine wp_if_eq d45_15 (tgt := 22) (by decide) (fun hc15 => ?_) (fun hc15 => ?_)
  · refine wp_iconst d45_22 (v := nI 0) (by decide) ?_
    refine wp_zret d45_23 (by decide +kernel) (by decide) ?_
    exact ⟨congrArg (fun z => some (Value.int z)) (m_b_f (fun q => q hc15)).symm, rfl⟩
  · refine wp_iconst d45_18 (v := nI 1) (by decide) ?_
    refine wp_goto d45_19 (tgt := 23) (by decide) ?_
    refine wp_zret d45_23 (by decide +kernel) (by decide) ?_
    exact ⟨congrArg (fun z => some (Value.int z)) (m_b_t hc15).symm, rfl⟩
theorem u_excludedBy {X : mX} {h : mH} {B st : Nat} {M : Nat → Nat → Int32} (hM : Mus h B st M) {z : Nat} (hz : z < 6) : Tells X 47 [.ref (B + 15), .int (nI z)] h (M 16 z) := by
  refine wp_iload_n d47_0 rfl ?_
  refine wp_invsT (e := 25) (j2 := 15) (n := 1) d47_1 (by decide +kernel) (by decide +kernel) rfl rfl rfl (Nat.le_of_ble_eq_true rfl) (Nat.le_of_ble_eq_true rfl) rfl rfl (Nat.le_of_ble_eq_true rfl) (by decide +kernel) (s_isZone (nI z)) ?_
  refine wp_ifb_eq d47_4 (tgt := 16) (by decide) (fun hq9 => absurd (⟨nI_le (by omega) (by omega), nI_lt (by omega) (by omega)⟩ : nI 0 ≤ nI z ∧ nI z < nI 6) hq9) (fun _ => ?_)
  refine wp_aload_n d47_7 rfl ?_
  refine wp_getf (e := 9) (ci := 4) (k := 0) (nest := false) d47_8 (by decide +kernel) (um_15 hM) rfl ?_
  refine wp_iload_n d47_11 rfl ?_
  refine wp_iald d47_12 (um_16 hM) (nI_in (by omega) (by decide)) (v := M 16 z) ((congrArg (M 16) (nI_nat (by omega))).trans rfl) ?_
  refine wp_goto d47_13 (tgt := 17) (by decide) ?_
  refine wp_iret d47_17 (by decide +kernel) ?_
  exact ⟨rfl, rfl⟩
theorem u_isBarred {X : mX} {h : mH} {B st : Nat} {M : Nat → Nat → Int32} (hM : Mus h B st M) {z : Nat} (hz : z < 6) : Tells X 52 [.ref (B + 15), .int (nI z)] h (m_b (¬ (M 16 z &&& M 15 1) = 0)) := by
  refine wp_aload_n d52_0 rfl ?_
  refine wp_iload_n d52_1 rfl ?_
  refine wp_invvT (e := 39) (j2 := 47) (n := 1) d52_2 (by decide +kernel) (by decide +kernel) rfl rfl rfl (um_15 hM) (by decide +kernel) (Nat.le_of_ble_eq_true rfl) rfl rfl (Nat.le_of_ble_eq_true rfl) (by decide +kernel) (u_excludedBy hM (z := z) (by omega)) ?_
  refine wp_aload_n d52_5 rfl ?_
  refine wp_getf (e := 15) (ci := 4) (k := 1) (nest := false) d52_6 (by decide +kernel) (um_15 hM) rfl ?_
  refine wp_iand d52_9 ?_
  refine wp_if_eq d52_10 (tgt := 17) (by decide) (fun hc10 => ?_) (fun hc10 => ?_)
  · refine wp_iconst d52_17 (v := nI 0) (by decide) ?_
    refine wp_zret d52_18 (by decide +kernel) (by decide) ?_
    exact ⟨congrArg (fun z => some (Value.int z)) (m_b_f (fun q => q hc10)).symm, rfl⟩
  · refine wp_iconst d52_13 (v := nI 1) (by decide) ?_
    refine wp_goto d52_14 (tgt := 18) (by decide) ?_
    refine wp_zret d52_18 (by decide +kernel) (by decide) ?_
    exact ⟨congrArg (fun z => some (Value.int z)) (m_b_t hc10).symm, rfl⟩
theorem s_withBit1 {X : mX} {h : mH}  (x y : Int32) : Tells X 49 [.int (x), .int (y), .int (nI 1)] h ((x ||| ((nI 1) <<< (y &&& 31)))) := by
  refine wp_iload_n d49_0 rfl ?_
  refine wp_if_eq d49_1 (tgt := 12) (by decide) (fun hz => absurd hz (by decide)) (fun _ => ?_)
  refine wp_iload_n d49_4 rfl ?_
  refine wp_iconst d49_5 (v := nI 1) (by decide) ?_
  refine wp_iload_n d49_6 rfl ?_
  refine wp_ishl d49_7 ?_
  refine wp_ior d49_8 ?_
  refine wp_goto d49_9 (tgt := 19) (by decide) ?_
  refine wp_iret d49_19 (by decide +kernel) ?_
  exact ⟨rfl, rfl⟩
theorem s_withBit0 {X : mX} {h : mH}  (x y : Int32) : Tells X 49 [.int (x), .int (y), .int (nI 0)] h ((x &&& (((nI 1) <<< (y &&& 31)) ^^^ (-1 : Int32)))) := by
  refine wp_iload_n d49_0 rfl ?_
  refine wp_if_eq d49_1 (tgt := 12) (by decide) (fun _ => ?_) (fun hz => absurd hz (by decide))
  refine wp_iload_n d49_12 rfl ?_
  refine wp_iconst d49_13 (v := nI 1) (by decide) ?_
  refine wp_iload_n d49_14 rfl ?_
  refine wp_ishl d49_15 ?_
  refine wp_iconst d49_16 (v := (-1 : Int32)) (by decide) ?_
  refine wp_ixor d49_17 ?_
  refine wp_iand d49_18 ?_
  refine wp_iret d49_19 (by decide +kernel) ?_
  exact ⟨rfl, rfl⟩
theorem u_changeOpen0 {X : mX} {h : mH} {B st : Nat} {M : Nat → Nat → Int32} (hM : Mus h B st M) {z : Nat} (hz : z < 6) : DoesU X 53 [.ref (B + 15), .int (nI z), .int (nI 0)] h B st ((updM M 15 (1) (((M 15 1) &&& ((nI 1 <<< ((nI z) &&& 31)) ^^^ (-1 : Int32)))))) (none) := by
  have hF : Frm h h B 43 := Frm.rf
  refine wp_iload_n d53_0 rfl ?_
  refine wp_invsT (e := 25) (j2 := 15) (n := 1) d53_1 (by decide +kernel) (by decide +kernel) rfl rfl rfl (Nat.le_of_ble_eq_true rfl) (Nat.le_of_ble_eq_true rfl) rfl rfl (Nat.le_of_ble_eq_true rfl) (by decide +kernel) (s_isZone (nI z)) ?_
  refine wp_ifb_eq d53_4 (tgt := 20) (by decide) (fun hq9 => absurd (⟨nI_le (by omega) (by omega), nI_lt (by omega) (by omega)⟩ : nI 0 ≤ nI z ∧ nI z < nI 6) hq9) (fun _ => ?_)
  refine wp_aload_n d53_7 rfl ?_
  refine wp_aload_n d53_8 rfl ?_
  refine wp_getf (e := 15) (ci := 4) (k := 1) (nest := false) d53_9 (by decide +kernel) (um_15 hM) rfl ?_
  refine wp_iload_n d53_12 rfl ?_
  refine wp_iload_n d53_13 rfl ?_
  refine wp_invsT (e := 35) (j2 := 49) (n := 3) d53_14 (by decide +kernel) (by decide +kernel) rfl rfl rfl (Nat.le_of_ble_eq_true rfl) (Nat.le_of_ble_eq_true rfl) rfl rfl (Nat.le_of_ble_eq_true rfl) (by decide +kernel) (s_withBit0 (M 15 1) (nI z)) ?_
  refine wp_putf (e := 15) (ci := 4) (k := 1) (nest := false) d53_17 (by decide +kernel) (um_15 hM) (Nat.le_of_ble_eq_true rfl) rfl (Or.inl (by decide +kernel)) ?_
  refine u_step (o := 15) (i := 1) (v := ((M 15 1) &&& ((nI 1 <<< ((nI z) &&& 31)) ^^^ (-1 : Int32)))) hM hF (by decide) rfl (fun h hM hF => ?_)
  refine wp_vret d53_20 (by decide +kernel) ?_
  exact ⟨rfl, hM, hF⟩
theorem u_changeOpen1 {X : mX} {h : mH} {B st : Nat} {M : Nat → Nat → Int32} (hM : Mus h B st M) {z : Nat} (hz : z < 6) : DoesU X 53 [.ref (B + 15), .int (nI z), .int (nI 1)] h B st ((updM M 15 (1) (((M 15 1) ||| (nI 1 <<< ((nI z) &&& 31)))))) (none) := by
  have hF : Frm h h B 43 := Frm.rf
  refine wp_iload_n d53_0 rfl ?_
  refine wp_invsT (e := 25) (j2 := 15) (n := 1) d53_1 (by decide +kernel) (by decide +kernel) rfl rfl rfl (Nat.le_of_ble_eq_true rfl) (Nat.le_of_ble_eq_true rfl) rfl rfl (Nat.le_of_ble_eq_true rfl) (by decide +kernel) (s_isZone (nI z)) ?_
  refine wp_ifb_eq d53_4 (tgt := 20) (by decide) (fun hq9 => absurd (⟨nI_le (by omega) (by omega), nI_lt (by omega) (by omega)⟩ : nI 0 ≤ nI z ∧ nI z < nI 6) hq9) (fun _ => ?_)
  refine wp_aload_n d53_7 rfl ?_
  refine wp_aload_n d53_8 rfl ?_
  refine wp_getf (e := 15) (ci := 4) (k := 1) (nest := false) d53_9 (by decide +kernel) (um_15 hM) rfl ?_
  refine wp_iload_n d53_12 rfl ?_
  refine wp_iload_n d53_13 rfl ?_
  refine wp_invsT (e := 35) (j2 := 49) (n := 3) d53_14 (by decide +kernel) (by decide +kernel) rfl rfl rfl (Nat.le_of_ble_eq_true rfl) (Nat.le_of_ble_eq_true rfl) rfl rfl (Nat.le_of_ble_eq_true rfl) (by decide +kernel) (s_withBit1 (M 15 1) (nI z)) ?_
  refine wp_putf (e := 15) (ci := 4) (k := 1) (nest := false) d53_17 (by decide +kernel) (um_15 hM) (Nat.le_of_ble_eq_true rfl) rfl (Or.inl (by decide +kernel)) ?_
  refine u_step (o := 15) (i := 1) (v := ((M 15 1) ||| (nI 1 <<< ((nI z) &&& 31)))) hM hF (by decide) rfl (fun h hM hF => ?_)
  refine wp_vret d53_20 (by decide +kernel) ?_
  exact ⟨rfl, hM, hF⟩
def F_bc (x : Int32) : Int32 := ((((((((x - (((x.toUInt32 >>> ((nI 1).toUInt32 &&& Int32.toUInt32 31)).toInt32) &&& (1431655765 : Int32))) &&& (858993459 : Int32)) + ((((x - (((x.toUInt32 >>> ((nI 1).toUInt32 &&& Int32.toUInt32 31)).toInt32) &&& (1431655765 : Int32))).toUInt32 >>> ((nI 2).toUInt32 &&& Int32.toUInt32 31)).toInt32) &&& (858993459 : Int32))) + (((((x - (((x.toUInt32 >>> ((nI 1).toUInt32 &&& Int32.toUInt32 31)).toInt32) &&& (1431655765 : Int32))) &&& (858993459 : Int32)) + ((((x - (((x.toUInt32 >>> ((nI 1).toUInt32 &&& Int32.toUInt32 31)).toInt32) &&& (1431655765 : Int32))).toUInt32 >>> ((nI 2).toUInt32 &&& Int32.toUInt32 31)).toInt32) &&& (858993459 : Int32))).toUInt32 >>> ((nI 4).toUInt32 &&& Int32.toUInt32 31)).toInt32)) &&& (252645135 : Int32)) + (((((((x - (((x.toUInt32 >>> ((nI 1).toUInt32 &&& Int32.toUInt32 31)).toInt32) &&& (1431655765 : Int32))) &&& (858993459 : Int32)) + ((((x - (((x.toUInt32 >>> ((nI 1).toUInt32 &&& Int32.toUInt32 31)).toInt32) &&& (1431655765 : Int32))).toUInt32 >>> ((nI 2).toUInt32 &&& Int32.toUInt32 31)).toInt32) &&& (858993459 : Int32))) + (((((x - (((x.toUInt32 >>> ((nI 1).toUInt32 &&& Int32.toUInt32 31)).toInt32) &&& (1431655765 : Int32))) &&& (858993459 : Int32)) + ((((x - (((x.toUInt32 >>> ((nI 1).toUInt32 &&& Int32.toUInt32 31)).toInt32) &&& (1431655765 : Int32))).toUInt32 >>> ((nI 2).toUInt32 &&& Int32.toUInt32 31)).toInt32) &&& (858993459 : Int32))).toUInt32 >>> ((nI 4).toUInt32 &&& Int32.toUInt32 31)).toInt32)) &&& (252645135 : Int32)).toUInt32 >>> ((nI 8).toUInt32 &&& Int32.toUInt32 31)).toInt32)) + ((((((((x - (((x.toUInt32 >>> ((nI 1).toUInt32 &&& Int32.toUInt32 31)).toInt32) &&& (1431655765 : Int32))) &&& (858993459 : Int32)) + ((((x - (((x.toUInt32 >>> ((nI 1).toUInt32 &&& Int32.toUInt32 31)).toInt32) &&& (1431655765 : Int32))).toUInt32 >>> ((nI 2).toUInt32 &&& Int32.toUInt32 31)).toInt32) &&& (858993459 : Int32))) + (((((x - (((x.toUInt32 >>> ((nI 1).toUInt32 &&& Int32.toUInt32 31)).toInt32) &&& (1431655765 : Int32))) &&& (858993459 : Int32)) + ((((x - (((x.toUInt32 >>> ((nI 1).toUInt32 &&& Int32.toUInt32 31)).toInt32) &&& (1431655765 : Int32))).toUInt32 >>> ((nI 2).toUInt32 &&& Int32.toUInt32 31)).toInt32) &&& (858993459 : Int32))).toUInt32 >>> ((nI 4).toUInt32 &&& Int32.toUInt32 31)).toInt32)) &&& (252645135 : Int32)) + (((((((x - (((x.toUInt32 >>> ((nI 1).toUInt32 &&& Int32.toUInt32 31)).toInt32) &&& (1431655765 : Int32))) &&& (858993459 : Int32)) + ((((x - (((x.toUInt32 >>> ((nI 1).toUInt32 &&& Int32.toUInt32 31)).toInt32) &&& (1431655765 : Int32))).toUInt32 >>> ((nI 2).toUInt32 &&& Int32.toUInt32 31)).toInt32) &&& (858993459 : Int32))) + (((((x - (((x.toUInt32 >>> ((nI 1).toUInt32 &&& Int32.toUInt32 31)).toInt32) &&& (1431655765 : Int32))) &&& (858993459 : Int32)) + ((((x - (((x.toUInt32 >>> ((nI 1).toUInt32 &&& Int32.toUInt32 31)).toInt32) &&& (1431655765 : Int32))).toUInt32 >>> ((nI 2).toUInt32 &&& Int32.toUInt32 31)).toInt32) &&& (858993459 : Int32))).toUInt32 >>> ((nI 4).toUInt32 &&& Int32.toUInt32 31)).toInt32)) &&& (252645135 : Int32)).toUInt32 >>> ((nI 8).toUInt32 &&& Int32.toUInt32 31)).toInt32)).toUInt32 >>> ((nI 16).toUInt32 &&& Int32.toUInt32 31)).toInt32)) &&& (nI 63))
theorem s_bitCount {X : mX} {h : mH} (x : Int32) : Tells X 50 [.int (x)] h (F_bc x) := by
  refine wp_iload_n d50_0 rfl ?_
  refine wp_iload_n d50_1 rfl ?_
  refine wp_iconst d50_2 (v := nI 1) (by decide) ?_
  refine wp_iushr d50_3 ?_
  refine wp_ldcw (e := 265) (v := (1431655765 : Int32)) d50_4 (by decide +kernel) ?_
  refine wp_iand d50_7 ?_
  refine wp_isub d50_8 ?_
  refine wp_istore_n d50_9 (Nat.le_of_ble_eq_true rfl) rfl ?_
  refine wp_iload_n d50_10 rfl ?_
  refine wp_ldcw (e := 266) (v := (858993459 : Int32)) d50_11 (by decide +kernel) ?_
  refine wp_iand d50_14 ?_
  refine wp_iload_n d50_15 rfl ?_
  refine wp_iconst d50_16 (v := nI 2) (by decide) ?_
  refine wp_iushr d50_17 ?_
  refine wp_ldcw (e := 266) (v := (858993459 : Int32)) d50_18 (by decide +kernel) ?_
  refine wp_iand d50_21 ?_
  refine wp_iadd d50_22 ?_
  refine wp_istore_n d50_23 (Nat.le_of_ble_eq_true rfl) rfl ?_
  refine wp_iload_n d50_24 rfl ?_
  refine wp_iload_n d50_25 rfl ?_
  refine wp_iconst d50_26 (v := nI 4) (by decide) ?_
  refine wp_iushr d50_27 ?_
  refine wp_iadd d50_28 ?_
  refine wp_ldcw (e := 267) (v := (252645135 : Int32)) d50_29 (by decide +kernel) ?_
  refine wp_iand d50_32 ?_
  refine wp_istore_n d50_33 (Nat.le_of_ble_eq_true rfl) rfl ?_
  refine wp_iload_n d50_34 rfl ?_
  refine wp_iload_n d50_35 rfl ?_
  refine wp_bipush d50_36 (v := nI 8) (by decide) ?_
  refine wp_iushr d50_38 ?_
  refine wp_iadd d50_39 ?_
  refine wp_istore_n d50_40 (Nat.le_of_ble_eq_true rfl) rfl ?_
  refine wp_iload_n d50_41 rfl ?_
  refine wp_iload_n d50_42 rfl ?_
  refine wp_bipush d50_43 (v := nI 16) (by decide) ?_
  refine wp_iushr d50_45 ?_
  refine wp_iadd d50_46 ?_
  refine wp_istore_n d50_47 (Nat.le_of_ble_eq_true rfl) rfl ?_
  refine wp_iload_n d50_48 rfl ?_
  refine wp_bipush d50_49 (v := nI 63) (by decide) ?_
  refine wp_iand d50_51 ?_
  refine wp_iret d50_52 (by decide +kernel) ?_
  exact ⟨rfl, rfl⟩
theorem u_openCount {X : mX} {h : mH} {B st : Nat} {M : Nat → Nat → Int32} (hM : Mus h B st M)  : Tells X 54 [.ref (B + 15)] h ((F_bc (M 15 1))) := by
  refine wp_aload_n d54_0 rfl ?_
  refine wp_getf (e := 15) (ci := 4) (k := 1) (nest := false) d54_1 (by decide +kernel) (um_15 hM) rfl ?_
  refine wp_invsT (e := 29) (j2 := 50) (n := 1) d54_4 (by decide +kernel) (by decide +kernel) rfl rfl rfl (Nat.le_of_ble_eq_true rfl) (Nat.le_of_ble_eq_true rfl) rfl rfl (Nat.le_of_ble_eq_true rfl) (by decide +kernel) (s_bitCount (M 15 1)) ?_
  refine wp_iret d54_7 (by decide +kernel) ?_
  exact ⟨rfl, rfl⟩
theorem u_holderOf {X : mX} {h : mH} {B st : Nat} {M : Nat → Nat → Int32} (hM : Mus h B st M) {z : Nat} (hz : z < 8) : Tells X 67 [.ref (B + 17), .int (nI z)] h (M 18 z) := by
  refine wp_iload_n d67_0 rfl ?_
  refine wp_invsT (e := 27) (j2 := 37) (n := 1) d67_1 (by decide +kernel) (by decide +kernel) rfl rfl rfl (Nat.le_of_ble_eq_true rfl) (Nat.le_of_ble_eq_true rfl) rfl rfl (Nat.le_of_ble_eq_true rfl) (by decide +kernel) (s_isKey (nI z)) ?_
  refine wp_ifb_eq d67_4 (tgt := 16) (by decide) (fun hq9 => absurd (⟨nI_le (by omega) (by omega), nI_lt (by omega) (by omega)⟩ : nI 0 ≤ nI z ∧ nI z < nI 8) hq9) (fun _ => ?_)
  refine wp_aload_n d67_7 rfl ?_
  refine wp_getf (e := 9) (ci := 5) (k := 0) (nest := false) d67_8 (by decide +kernel) (um_17 hM) rfl ?_
  refine wp_iload_n d67_11 rfl ?_
  refine wp_iald d67_12 (um_18 hM) (nI_in (by omega) (by decide)) (v := M 18 z) ((congrArg (M 18) (nI_nat (by omega))).trans rfl) ?_
  refine wp_goto d67_13 (tgt := 18) (by decide) ?_
  refine wp_iret d67_18 (by decide +kernel) ?_
  exact ⟨rfl, rfl⟩
theorem u_give {X : mX} {h : mH} {B st : Nat} {M : Nat → Nat → Int32} (hM : Mus h B st M) {z : Nat} (hz : z < 8) (v : Int32) : DoesU X 70 [.ref (B + 17), .int (nI z), .int (v)] h B st ((updM M 18 (z) (v))) (none) := by
  have hF : Frm h h B 43 := Frm.rf
  refine wp_iload_n d70_0 rfl ?_
  refine wp_invsT (e := 27) (j2 := 37) (n := 1) d70_1 (by decide +kernel) (by decide +kernel) rfl rfl rfl (Nat.le_of_ble_eq_true rfl) (Nat.le_of_ble_eq_true rfl) rfl rfl (Nat.le_of_ble_eq_true rfl) (by decide +kernel) (s_isKey (nI z)) ?_
  refine wp_ifb_eq d70_4 (tgt := 14) (by decide) (fun hq9 => absurd (⟨nI_le (by omega) (by omega), nI_lt (by omega) (by omega)⟩ : nI 0 ≤ nI z ∧ nI z < nI 8) hq9) (fun _ => ?_)
  refine wp_aload_n d70_7 rfl ?_
  refine wp_getf (e := 9) (ci := 5) (k := 0) (nest := false) d70_8 (by decide +kernel) (um_17 hM) rfl ?_
  refine wp_iload_n d70_11 rfl ?_
  refine wp_iload_n d70_12 rfl ?_
  refine wp_iast d70_13 (um_18 hM) (nI_in (by omega) (by decide)) ?_
  refine u_step (o := 18) (i := z) (v := v) hM hF (by decide) (by rw [nI_nat (by omega)]; rfl) (fun h hM hF => ?_)
  refine wp_vret d70_14 (by decide +kernel) ?_
  exact ⟨rfl, hM, hF⟩
