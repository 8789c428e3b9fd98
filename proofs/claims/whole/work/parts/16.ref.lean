/-! The reference's methods that tell. -/
theorem d216_0 : decode (m_code 216) 0 = .ok (.bipush (-5), 2) := by decide +kernel
theorem d216_2 : decode (m_code 216) 2 = .ok (.istore_n 3, 1) := by decide +kernel
theorem d216_3 : decode (m_code 216) 3 = .ok (.iconst 0, 1) := by decide +kernel
theorem d216_4 : decode (m_code 216) 4 = .ok (.istore 4, 2) := by decide +kernel
theorem d216_6 : decode (m_code 216) 6 = .ok (.iload 4, 2) := by decide +kernel
theorem d216_8 : decode (m_code 216) 8 = .ok (.aload_n 0, 1) := by decide +kernel
theorem d216_9 : decode (m_code 216) 9 = .ok (.getfield 7, 3) := by decide +kernel
theorem d216_12 : decode (m_code 216) 12 = .ok (.iconst 3, 1) := by decide +kernel
theorem d216_13 : decode (m_code 216) 13 = .ok (.iaload, 1) := by decide +kernel
theorem d216_14 : decode (m_code 216) 14 = .ok (.if_icmp .ge 72, 3) := by decide +kernel
theorem d216_17 : decode (m_code 216) 17 = .ok (.aload_n 0, 1) := by decide +kernel
theorem d216_18 : decode (m_code 216) 18 = .ok (.iload 4, 2) := by decide +kernel
theorem d216_20 : decode (m_code 216) 20 = .ok (.iconst 0, 1) := by decide +kernel
theorem d216_21 : decode (m_code 216) 21 = .ok (.invokevirtual 53, 3) := by decide +kernel
theorem d216_24 : decode (m_code 216) 24 = .ok (.iload_n 1, 1) := by decide +kernel
theorem d216_25 : decode (m_code 216) 25 = .ok (.if_icmp .ne 14, 3) := by decide +kernel
theorem d216_28 : decode (m_code 216) 28 = .ok (.aload_n 0, 1) := by decide +kernel
theorem d216_29 : decode (m_code 216) 29 = .ok (.iload 4, 2) := by decide +kernel
theorem d216_31 : decode (m_code 216) 31 = .ok (.iconst 1, 1) := by decide +kernel
theorem d216_32 : decode (m_code 216) 32 = .ok (.invokevirtual 53, 3) := by decide +kernel
theorem d216_35 : decode (m_code 216) 35 = .ok (.iload_n 2, 1) := by decide +kernel
theorem d216_36 : decode (m_code 216) 36 = .ok (.if_icmp .eq 25, 3) := by decide +kernel
theorem d216_39 : decode (m_code 216) 39 = .ok (.aload_n 0, 1) := by decide +kernel
theorem d216_40 : decode (m_code 216) 40 = .ok (.iload 4, 2) := by decide +kernel
theorem d216_42 : decode (m_code 216) 42 = .ok (.iconst 0, 1) := by decide +kernel
theorem d216_43 : decode (m_code 216) 43 = .ok (.invokevirtual 53, 3) := by decide +kernel
theorem d216_46 : decode (m_code 216) 46 = .ok (.iload_n 2, 1) := by decide +kernel
theorem d216_47 : decode (m_code 216) 47 = .ok (.if_icmp .ne 18, 3) := by decide +kernel
theorem d216_50 : decode (m_code 216) 50 = .ok (.aload_n 0, 1) := by decide +kernel
theorem d216_51 : decode (m_code 216) 51 = .ok (.iload 4, 2) := by decide +kernel
theorem d216_53 : decode (m_code 216) 53 = .ok (.iconst 1, 1) := by decide +kernel
theorem d216_54 : decode (m_code 216) 54 = .ok (.invokevirtual 53, 3) := by decide +kernel
theorem d216_57 : decode (m_code 216) 57 = .ok (.iload_n 1, 1) := by decide +kernel
theorem d216_58 : decode (m_code 216) 58 = .ok (.if_icmp .ne 7, 3) := by decide +kernel
theorem d216_61 : decode (m_code 216) 61 = .ok (.iconst 1, 1) := by decide +kernel
theorem d216_62 : decode (m_code 216) 62 = .ok (.goto 4, 3) := by decide +kernel
theorem d216_65 : decode (m_code 216) 65 = .ok (.iconst 0, 1) := by decide +kernel
theorem d216_66 : decode (m_code 216) 66 = .ok (.istore 5, 2) := by decide +kernel
theorem d216_68 : decode (m_code 216) 68 = .ok (.iload 5, 2) := by decide +kernel
theorem d216_70 : decode (m_code 216) 70 = .ok (.ifCond .eq 8, 3) := by decide +kernel
theorem d216_73 : decode (m_code 216) 73 = .ok (.iload 4, 2) := by decide +kernel
theorem d216_75 : decode (m_code 216) 75 = .ok (.goto 4, 3) := by decide +kernel
theorem d216_78 : decode (m_code 216) 78 = .ok (.iload_n 3, 1) := by decide +kernel
theorem d216_79 : decode (m_code 216) 79 = .ok (.istore_n 3, 1) := by decide +kernel
theorem d216_80 : decode (m_code 216) 80 = .ok (.iinc 4 1, 3) := by decide +kernel
theorem d216_83 : decode (m_code 216) 83 = .ok (.goto (-77), 3) := by decide +kernel
theorem d216_86 : decode (m_code 216) 86 = .ok (.iload_n 3, 1) := by decide +kernel
theorem d216_87 : decode (m_code 216) 87 = .ok (.ireturn, 1) := by decide +kernel
theorem d221_0 : decode (m_code 221) 0 = .ok (.aload_n 0, 1) := by decide +kernel
theorem d221_1 : decode (m_code 221) 1 = .ok (.getfield 7, 3) := by decide +kernel
theorem d221_4 : decode (m_code 221) 4 = .ok (.bipush 14, 2) := by decide +kernel
theorem d221_6 : decode (m_code 221) 6 = .ok (.iload_n 1, 1) := by decide +kernel
theorem d221_7 : decode (m_code 221) 7 = .ok (.iadd, 1) := by decide +kernel
theorem d221_8 : decode (m_code 221) 8 = .ok (.iaload, 1) := by decide +kernel
theorem d221_9 : decode (m_code 221) 9 = .ok (.iload_n 2, 1) := by decide +kernel
theorem d221_10 : decode (m_code 221) 10 = .ok (.ishr, 1) := by decide +kernel
theorem d221_11 : decode (m_code 221) 11 = .ok (.iconst 1, 1) := by decide +kernel
theorem d221_12 : decode (m_code 221) 12 = .ok (.iand, 1) := by decide +kernel
theorem d221_13 : decode (m_code 221) 13 = .ok (.iconst 1, 1) := by decide +kernel
theorem d221_14 : decode (m_code 221) 14 = .ok (.if_icmp .ne 7, 3) := by decide +kernel
theorem d221_17 : decode (m_code 221) 17 = .ok (.iconst 1, 1) := by decide +kernel
theorem d221_18 : decode (m_code 221) 18 = .ok (.goto 4, 3) := by decide +kernel
theorem d221_21 : decode (m_code 221) 21 = .ok (.iconst 0, 1) := by decide +kernel
theorem d221_22 : decode (m_code 221) 22 = .ok (.ireturn, 1) := by decide +kernel
theorem d222_0 : decode (m_code 222) 0 = .ok (.iconst 0, 1) := by decide +kernel
theorem d222_1 : decode (m_code 222) 1 = .ok (.istore_n 1, 1) := by decide +kernel
theorem d222_2 : decode (m_code 222) 2 = .ok (.iconst 0, 1) := by decide +kernel
theorem d222_3 : decode (m_code 222) 3 = .ok (.istore_n 2, 1) := by decide +kernel
theorem d222_4 : decode (m_code 222) 4 = .ok (.iload_n 2, 1) := by decide +kernel
theorem d222_5 : decode (m_code 222) 5 = .ok (.bipush 16, 2) := by decide +kernel
theorem d222_7 : decode (m_code 222) 7 = .ok (.if_icmp .ge 17, 3) := by decide +kernel
theorem d222_10 : decode (m_code 222) 10 = .ok (.iload_n 1, 1) := by decide +kernel
theorem d222_11 : decode (m_code 222) 11 = .ok (.iload_n 0, 1) := by decide +kernel
theorem d222_12 : decode (m_code 222) 12 = .ok (.iload_n 2, 1) := by decide +kernel
theorem d222_13 : decode (m_code 222) 13 = .ok (.ishr, 1) := by decide +kernel
theorem d222_14 : decode (m_code 222) 14 = .ok (.iconst 1, 1) := by decide +kernel
theorem d222_15 : decode (m_code 222) 15 = .ok (.iand, 1) := by decide +kernel
theorem d222_16 : decode (m_code 222) 16 = .ok (.iadd, 1) := by decide +kernel
theorem d222_17 : decode (m_code 222) 17 = .ok (.istore_n 1, 1) := by decide +kernel
theorem d222_18 : decode (m_code 222) 18 = .ok (.iinc 2 1, 3) := by decide +kernel
theorem d222_21 : decode (m_code 222) 21 = .ok (.goto (-17), 3) := by decide +kernel
theorem d222_24 : decode (m_code 222) 24 = .ok (.iload_n 1, 1) := by decide +kernel
theorem d222_25 : decode (m_code 222) 25 = .ok (.ireturn, 1) := by decide +kernel
theorem d224_0 : decode (m_code 224) 0 = .ok (.iconst 0, 1) := by decide +kernel
theorem d224_1 : decode (m_code 224) 1 = .ok (.istore_n 2, 1) := by decide +kernel
theorem d224_2 : decode (m_code 224) 2 = .ok (.iconst 0, 1) := by decide +kernel
theorem d224_3 : decode (m_code 224) 3 = .ok (.istore_n 3, 1) := by decide +kernel
theorem d224_4 : decode (m_code 224) 4 = .ok (.iload_n 3, 1) := by decide +kernel
theorem d224_5 : decode (m_code 224) 5 = .ok (.bipush 6, 2) := by decide +kernel
theorem d224_7 : decode (m_code 224) 7 = .ok (.if_icmp .ge 41, 3) := by decide +kernel
theorem d224_10 : decode (m_code 224) 10 = .ok (.iload_n 2, 1) := by decide +kernel
theorem d224_11 : decode (m_code 224) 11 = .ok (.ifCond .ne 25, 3) := by decide +kernel
theorem d224_14 : decode (m_code 224) 14 = .ok (.aload_n 0, 1) := by decide +kernel
theorem d224_15 : decode (m_code 224) 15 = .ok (.iload_n 1, 1) := by decide +kernel
theorem d224_16 : decode (m_code 224) 16 = .ok (.iload_n 3, 1) := by decide +kernel
theorem d224_17 : decode (m_code 224) 17 = .ok (.invokevirtual 66, 3) := by decide +kernel
theorem d224_20 : decode (m_code 224) 20 = .ok (.ifCond .eq 20, 3) := by decide +kernel
theorem d224_23 : decode (m_code 224) 23 = .ok (.aload_n 0, 1) := by decide +kernel
theorem d224_24 : decode (m_code 224) 24 = .ok (.getfield 7, 3) := by decide +kernel
theorem d224_27 : decode (m_code 224) 27 = .ok (.bipush 8, 2) := by decide +kernel
theorem d224_29 : decode (m_code 224) 29 = .ok (.iload_n 3, 1) := by decide +kernel
theorem d224_30 : decode (m_code 224) 30 = .ok (.iadd, 1) := by decide +kernel
theorem d224_31 : decode (m_code 224) 31 = .ok (.iaload, 1) := by decide +kernel
theorem d224_32 : decode (m_code 224) 32 = .ok (.iconst 1, 1) := by decide +kernel
theorem d224_33 : decode (m_code 224) 33 = .ok (.if_icmp .ne 7, 3) := by decide +kernel
theorem d224_36 : decode (m_code 224) 36 = .ok (.iconst 1, 1) := by decide +kernel
theorem d224_37 : decode (m_code 224) 37 = .ok (.goto 4, 3) := by decide +kernel
theorem d224_40 : decode (m_code 224) 40 = .ok (.iconst 0, 1) := by decide +kernel
theorem d224_41 : decode (m_code 224) 41 = .ok (.istore_n 2, 1) := by decide +kernel
theorem d224_42 : decode (m_code 224) 42 = .ok (.iinc 3 1, 3) := by decide +kernel
theorem d224_45 : decode (m_code 224) 45 = .ok (.goto (-41), 3) := by decide +kernel
theorem d224_48 : decode (m_code 224) 48 = .ok (.iload_n 2, 1) := by decide +kernel
theorem d224_49 : decode (m_code 224) 49 = .ok (.ireturn, 1) := by decide +kernel
theorem d225_0 : decode (m_code 225) 0 = .ok (.iconst 0, 1) := by decide +kernel
theorem d225_1 : decode (m_code 225) 1 = .ok (.istore_n 1, 1) := by decide +kernel
theorem d225_2 : decode (m_code 225) 2 = .ok (.iconst 0, 1) := by decide +kernel
theorem d225_3 : decode (m_code 225) 3 = .ok (.istore_n 2, 1) := by decide +kernel
theorem d225_4 : decode (m_code 225) 4 = .ok (.iload_n 2, 1) := by decide +kernel
theorem d225_5 : decode (m_code 225) 5 = .ok (.bipush 6, 2) := by decide +kernel
theorem d225_7 : decode (m_code 225) 7 = .ok (.if_icmp .ge 21, 3) := by decide +kernel
theorem d225_10 : decode (m_code 225) 10 = .ok (.iload_n 1, 1) := by decide +kernel
theorem d225_11 : decode (m_code 225) 11 = .ok (.aload_n 0, 1) := by decide +kernel
theorem d225_12 : decode (m_code 225) 12 = .ok (.getfield 7, 3) := by decide +kernel
theorem d225_15 : decode (m_code 225) 15 = .ok (.bipush 8, 2) := by decide +kernel
theorem d225_17 : decode (m_code 225) 17 = .ok (.iload_n 2, 1) := by decide +kernel
theorem d225_18 : decode (m_code 225) 18 = .ok (.iadd, 1) := by decide +kernel
theorem d225_19 : decode (m_code 225) 19 = .ok (.iaload, 1) := by decide +kernel
theorem d225_20 : decode (m_code 225) 20 = .ok (.iadd, 1) := by decide +kernel
theorem d225_21 : decode (m_code 225) 21 = .ok (.istore_n 1, 1) := by decide +kernel
theorem d225_22 : decode (m_code 225) 22 = .ok (.iinc 2 1, 3) := by decide +kernel
theorem d225_25 : decode (m_code 225) 25 = .ok (.goto (-21), 3) := by decide +kernel
theorem d225_28 : decode (m_code 225) 28 = .ok (.iload_n 1, 1) := by decide +kernel
theorem d225_29 : decode (m_code 225) 29 = .ok (.ireturn, 1) := by decide +kernel
theorem d234_0 : decode (m_code 234) 0 = .ok (.bipush (-5), 2) := by decide +kernel
theorem d234_2 : decode (m_code 234) 2 = .ok (.istore_n 2, 1) := by decide +kernel
theorem d234_3 : decode (m_code 234) 3 = .ok (.iconst 0, 1) := by decide +kernel
theorem d234_4 : decode (m_code 234) 4 = .ok (.istore_n 3, 1) := by decide +kernel
theorem d234_5 : decode (m_code 234) 5 = .ok (.iload_n 3, 1) := by decide +kernel
theorem d234_6 : decode (m_code 234) 6 = .ok (.aload_n 0, 1) := by decide +kernel
theorem d234_7 : decode (m_code 234) 7 = .ok (.getfield 7, 3) := by decide +kernel
theorem d234_10 : decode (m_code 234) 10 = .ok (.iconst 4, 1) := by decide +kernel
theorem d234_11 : decode (m_code 234) 11 = .ok (.iaload, 1) := by decide +kernel
theorem d234_12 : decode (m_code 234) 12 = .ok (.if_icmp .ge 24, 3) := by decide +kernel
theorem d234_15 : decode (m_code 234) 15 = .ok (.aload_n 0, 1) := by decide +kernel
theorem d234_16 : decode (m_code 234) 16 = .ok (.iload_n 3, 1) := by decide +kernel
theorem d234_17 : decode (m_code 234) 17 = .ok (.iload_n 1, 1) := by decide +kernel
theorem d234_18 : decode (m_code 234) 18 = .ok (.invokevirtual 91, 3) := by decide +kernel
theorem d234_21 : decode (m_code 234) 21 = .ok (.ifCond .eq 7, 3) := by decide +kernel
theorem d234_24 : decode (m_code 234) 24 = .ok (.iload_n 3, 1) := by decide +kernel
theorem d234_25 : decode (m_code 234) 25 = .ok (.goto 4, 3) := by decide +kernel
theorem d234_28 : decode (m_code 234) 28 = .ok (.iload_n 2, 1) := by decide +kernel
theorem d234_29 : decode (m_code 234) 29 = .ok (.istore_n 2, 1) := by decide +kernel
theorem d234_30 : decode (m_code 234) 30 = .ok (.iinc 3 1, 3) := by decide +kernel
theorem d234_33 : decode (m_code 234) 33 = .ok (.goto (-28), 3) := by decide +kernel
theorem d234_36 : decode (m_code 234) 36 = .ok (.iload_n 2, 1) := by decide +kernel
theorem d234_37 : decode (m_code 234) 37 = .ok (.ireturn, 1) := by decide +kernel
theorem d235_0 : decode (m_code 235) 0 = .ok (.aload_n 0, 1) := by decide +kernel
theorem d235_1 : decode (m_code 235) 1 = .ok (.iload_n 1, 1) := by decide +kernel
theorem d235_2 : decode (m_code 235) 2 = .ok (.bipush 6, 2) := by decide +kernel
theorem d235_4 : decode (m_code 235) 4 = .ok (.invokevirtual 81, 3) := by decide +kernel
theorem d235_7 : decode (m_code 235) 7 = .ok (.iload_n 2, 1) := by decide +kernel
theorem d235_8 : decode (m_code 235) 8 = .ok (.ishr, 1) := by decide +kernel
theorem d235_9 : decode (m_code 235) 9 = .ok (.iconst 1, 1) := by decide +kernel
theorem d235_10 : decode (m_code 235) 10 = .ok (.iand, 1) := by decide +kernel
theorem d235_11 : decode (m_code 235) 11 = .ok (.iconst 1, 1) := by decide +kernel
theorem d235_12 : decode (m_code 235) 12 = .ok (.if_icmp .ne 7, 3) := by decide +kernel
theorem d235_15 : decode (m_code 235) 15 = .ok (.iconst 1, 1) := by decide +kernel
theorem d235_16 : decode (m_code 235) 16 = .ok (.goto 4, 3) := by decide +kernel
theorem d235_19 : decode (m_code 235) 19 = .ok (.iconst 0, 1) := by decide +kernel
theorem d235_20 : decode (m_code 235) 20 = .ok (.ireturn, 1) := by decide +kernel
theorem d236_0 : decode (m_code 236) 0 = .ok (.aload_n 0, 1) := by decide +kernel
theorem d236_1 : decode (m_code 236) 1 = .ok (.iload_n 1, 1) := by decide +kernel
theorem d236_2 : decode (m_code 236) 2 = .ok (.bipush 6, 2) := by decide +kernel
theorem d236_4 : decode (m_code 236) 4 = .ok (.invokevirtual 81, 3) := by decide +kernel
theorem d236_7 : decode (m_code 236) 7 = .ok (.invokestatic 70, 3) := by decide +kernel
theorem d236_10 : decode (m_code 236) 10 = .ok (.ireturn, 1) := by decide +kernel
theorem d247_0 : decode (m_code 247) 0 = .ok (.iconst 0, 1) := by decide +kernel
theorem d247_1 : decode (m_code 247) 1 = .ok (.istore_n 2, 1) := by decide +kernel
theorem d247_2 : decode (m_code 247) 2 = .ok (.iconst 0, 1) := by decide +kernel
theorem d247_3 : decode (m_code 247) 3 = .ok (.istore_n 3, 1) := by decide +kernel
theorem d247_4 : decode (m_code 247) 4 = .ok (.iload_n 3, 1) := by decide +kernel
theorem d247_5 : decode (m_code 247) 5 = .ok (.aload_n 0, 1) := by decide +kernel
theorem d247_6 : decode (m_code 247) 6 = .ok (.getfield 7, 3) := by decide +kernel
theorem d247_9 : decode (m_code 247) 9 = .ok (.iconst 4, 1) := by decide +kernel
theorem d247_10 : decode (m_code 247) 10 = .ok (.iaload, 1) := by decide +kernel
theorem d247_11 : decode (m_code 247) 11 = .ok (.if_icmp .ge 27, 3) := by decide +kernel
theorem d247_14 : decode (m_code 247) 14 = .ok (.iload_n 2, 1) := by decide +kernel
theorem d247_15 : decode (m_code 247) 15 = .ok (.aload_n 0, 1) := by decide +kernel
theorem d247_16 : decode (m_code 247) 16 = .ok (.iload_n 3, 1) := by decide +kernel
theorem d247_17 : decode (m_code 247) 17 = .ok (.iconst 0, 1) := by decide +kernel
theorem d247_18 : decode (m_code 247) 18 = .ok (.invokevirtual 81, 3) := by decide +kernel
theorem d247_21 : decode (m_code 247) 21 = .ok (.iload_n 1, 1) := by decide +kernel
theorem d247_22 : decode (m_code 247) 22 = .ok (.if_icmp .ne 7, 3) := by decide +kernel
theorem d247_25 : decode (m_code 247) 25 = .ok (.iconst 1, 1) := by decide +kernel
theorem d247_26 : decode (m_code 247) 26 = .ok (.goto 4, 3) := by decide +kernel
theorem d247_29 : decode (m_code 247) 29 = .ok (.iconst 0, 1) := by decide +kernel
theorem d247_30 : decode (m_code 247) 30 = .ok (.iadd, 1) := by decide +kernel
theorem d247_31 : decode (m_code 247) 31 = .ok (.istore_n 2, 1) := by decide +kernel
theorem d247_32 : decode (m_code 247) 32 = .ok (.iinc 3 1, 3) := by decide +kernel
theorem d247_35 : decode (m_code 247) 35 = .ok (.goto (-31), 3) := by decide +kernel
theorem d247_38 : decode (m_code 247) 38 = .ok (.iload_n 2, 1) := by decide +kernel
theorem d247_39 : decode (m_code 247) 39 = .ok (.ireturn, 1) := by decide +kernel
theorem d258_0 : decode (m_code 258) 0 = .ok (.aload_n 0, 1) := by decide +kernel
theorem d258_1 : decode (m_code 258) 1 = .ok (.iload_n 2, 1) := by decide +kernel
theorem d258_2 : decode (m_code 258) 2 = .ok (.iconst 3, 1) := by decide +kernel
theorem d258_3 : decode (m_code 258) 3 = .ok (.invokevirtual 53, 3) := by decide +kernel
theorem d258_6 : decode (m_code 258) 6 = .ok (.istore_n 3, 1) := by decide +kernel
theorem d258_7 : decode (m_code 258) 7 = .ok (.iload_n 3, 1) := by decide +kernel
theorem d258_8 : decode (m_code 258) 8 = .ok (.ifCond .lt 12, 3) := by decide +kernel
theorem d258_11 : decode (m_code 258) 11 = .ok (.aload_n 0, 1) := by decide +kernel
theorem d258_12 : decode (m_code 258) 12 = .ok (.iload_n 1, 1) := by decide +kernel
theorem d258_13 : decode (m_code 258) 13 = .ok (.iload_n 3, 1) := by decide +kernel
theorem d258_14 : decode (m_code 258) 14 = .ok (.invokevirtual 91, 3) := by decide +kernel
theorem d258_17 : decode (m_code 258) 17 = .ok (.ifCond .eq 7, 3) := by decide +kernel
theorem d258_20 : decode (m_code 258) 20 = .ok (.iconst 1, 1) := by decide +kernel
theorem d258_21 : decode (m_code 258) 21 = .ok (.goto 4, 3) := by decide +kernel
theorem d258_24 : decode (m_code 258) 24 = .ok (.iconst 0, 1) := by decide +kernel
theorem d258_25 : decode (m_code 258) 25 = .ok (.ireturn, 1) := by decide +kernel
theorem d264_0 : decode (m_code 264) 0 = .ok (.iconst 0, 1) := by decide +kernel
theorem d264_1 : decode (m_code 264) 1 = .ok (.istore_n 1, 1) := by decide +kernel
theorem d264_2 : decode (m_code 264) 2 = .ok (.iconst 0, 1) := by decide +kernel
theorem d264_3 : decode (m_code 264) 3 = .ok (.istore_n 2, 1) := by decide +kernel
theorem d264_4 : decode (m_code 264) 4 = .ok (.iload_n 2, 1) := by decide +kernel
theorem d264_5 : decode (m_code 264) 5 = .ok (.aload_n 0, 1) := by decide +kernel
theorem d264_6 : decode (m_code 264) 6 = .ok (.getfield 7, 3) := by decide +kernel
theorem d264_9 : decode (m_code 264) 9 = .ok (.iconst 4, 1) := by decide +kernel
theorem d264_10 : decode (m_code 264) 10 = .ok (.iaload, 1) := by decide +kernel
theorem d264_11 : decode (m_code 264) 11 = .ok (.if_icmp .ge 17, 3) := by decide +kernel
theorem d264_14 : decode (m_code 264) 14 = .ok (.iload_n 1, 1) := by decide +kernel
theorem d264_15 : decode (m_code 264) 15 = .ok (.aload_n 0, 1) := by decide +kernel
theorem d264_16 : decode (m_code 264) 16 = .ok (.iload_n 2, 1) := by decide +kernel
theorem d264_17 : decode (m_code 264) 17 = .ok (.invokevirtual 103, 3) := by decide +kernel
theorem d264_20 : decode (m_code 264) 20 = .ok (.iadd, 1) := by decide +kernel
theorem d264_21 : decode (m_code 264) 21 = .ok (.istore_n 1, 1) := by decide +kernel
theorem d264_22 : decode (m_code 264) 22 = .ok (.iinc 2 1, 3) := by decide +kernel
theorem d264_25 : decode (m_code 264) 25 = .ok (.goto (-21), 3) := by decide +kernel
theorem d264_28 : decode (m_code 264) 28 = .ok (.iload_n 1, 1) := by decide +kernel
theorem d264_29 : decode (m_code 264) 29 = .ok (.ireturn, 1) := by decide +kernel
/-- the latest door among the first n of those between two rooms -/
def F_db (f : Nat → Int32) (x y : Int32) : Nat → Int32
  | 0 => -5
  | n + 1 => if (f (92 + 5 * n + 0) = x ∧ f (92 + 5 * n + 1) = y) ∨ (f (92 + 5 * n + 0) = y ∧ f (92 + 5 * n + 1) = x) then nI n else F_db f x y n
theorem c_doorBetween_l {X : mX} {h : mH} {R : Nat → Nat → Int32} {σ : Nat → Int32} (hR : Ms h R σ) {nD : Nat} (hn : σ 3 = nI nD) (hD : nD ≤ 20) (x y : Int32) : ∀ (d : Nat) (k : Nat) (a : Int32) (g : Option Value), nD - k = d → k ≤ nD → a = F_db σ x y k → m_wp X 216 6 [some (.ref 313), some (.int (x)), some (.int (y)), some (.int (a)), some (.int (nI k)), g] [] h (fun v h1 => v = some (.int (F_db σ x y nD)) ∧ h1 = h) := by
  intro d
  induction d using Nat.strongRecOn with
  | ind d ih =>
    intro k a g hd hk ha
    refine wp_iload d216_6 rfl ?_
    refine wp_aload_n d216_8 rfl ?_
    refine wp_getf (e := 7) (ci := 12) (k := 0) (nest := false) d216_9 (by decide +kernel) (md_0 hR) rfl ?_
    refine wp_iconst d216_12 (v := nI 3) (by decide) ?_
    refine wp_iald d216_13 (md_1 hR) (nI_in (by omega) (by decide)) (v := nI nD) ((congrArg σ (nI_nat (by omega))).trans hn) ?_
    refine wp_icmp_ge d216_14 (tgt := 86) (by decide) (fun hc14 => ?_) (fun hc14 => ?_)
    · have hc14 : nD ≤ k := (nI_leI (by omega) (by omega)).mp hc14
      refine wp_iload_n d216_86 rfl ?_
      refine wp_iret d216_87 (by decide +kernel) ?_
      exact ⟨by rw [ha, show k = nD by omega], rfl⟩
    · have hc14 : ¬ (nD ≤ k) := fun z => hc14 ((nI_leI (by omega) (by omega)).mpr z)
      refine wp_aload_n d216_17 rfl ?_
      refine wp_iload d216_18 rfl ?_
      refine wp_iconst d216_20 (v := nI 0) (by decide) ?_
      refine wp_invvT (e := 53) (j2 := 217) (n := 2) d216_21 (by decide +kernel) (by decide +kernel) rfl rfl rfl (md_0 hR) (by decide +kernel) (Nat.le_of_ble_eq_true rfl) rfl rfl (Nat.le_of_ble_eq_true rfl) (by decide +kernel) (c_doorPart hR (r := k) (p := 0) (by omega) (by omega)) ?_
      refine wp_iload_n d216_24 rfl ?_
      refine wp_icmp_ne d216_25 (tgt := 39) (by decide) (fun hc25 => ?_) (fun hc25 => ?_)
      · refine wp_aload_n d216_39 rfl ?_
        refine wp_iload d216_40 rfl ?_
        refine wp_iconst d216_42 (v := nI 0) (by decide) ?_
        refine wp_invvT (e := 53) (j2 := 217) (n := 2) d216_43 (by decide +kernel) (by decide +kernel) rfl rfl rfl (md_0 hR) (by decide +kernel) (Nat.le_of_ble_eq_true rfl) rfl rfl (Nat.le_of_ble_eq_true rfl) (by decide +kernel) (c_doorPart hR (r := k) (p := 0) (by omega) (by omega)) ?_
        refine wp_iload_n d216_46 rfl ?_
        refine wp_icmp_ne d216_47 (tgt := 65) (by decide) (fun hc47 => ?_) (fun hc47 => ?_)
        · refine wp_iconst d216_65 (v := nI 0) (by decide) ?_
          refine wp_istore d216_66 (Nat.le_of_ble_eq_true rfl) rfl ?_
          refine wp_iload d216_68 rfl ?_
          refine wp_if_eq d216_70 (tgt := 78) (by decide) (fun _ => ?_) (fun hz => absurd hz (by decide))
          refine wp_iload_n d216_78 rfl ?_
          refine wp_istore_n d216_79 (Nat.le_of_ble_eq_true rfl) rfl ?_
          refine wp_iinc d216_80 rfl (v := nI (k + 1)) (nI_add _ 1) (Nat.le_of_ble_eq_true rfl) rfl ?_
          refine wp_goto d216_83 (tgt := 6) (by decide) ?_
          exact ih (nD - (k + 1)) (by omega) (k + 1) _ _ rfl (by omega) (by simp only [F_db]; rw [if_neg (by grind), ← ha])
        · refine wp_aload_n d216_50 rfl ?_
          refine wp_iload d216_51 rfl ?_
          refine wp_iconst d216_53 (v := nI 1) (by decide) ?_
          refine wp_invvT (e := 53) (j2 := 217) (n := 2) d216_54 (by decide +kernel) (by decide +kernel) rfl rfl rfl (md_0 hR) (by decide +kernel) (Nat.le_of_ble_eq_true rfl) rfl rfl (Nat.le_of_ble_eq_true rfl) (by decide +kernel) (c_doorPart hR (r := k) (p := 1) (by omega) (by omega)) ?_
          refine wp_iload_n d216_57 rfl ?_
          refine wp_icmp_ne d216_58 (tgt := 65) (by decide) (fun hc58 => ?_) (fun hc58 => ?_)
          · refine wp_iconst d216_65 (v := nI 0) (by decide) ?_
            refine wp_istore d216_66 (Nat.le_of_ble_eq_true rfl) rfl ?_
            refine wp_iload d216_68 rfl ?_
            refine wp_if_eq d216_70 (tgt := 78) (by decide) (fun _ => ?_) (fun hz => absurd hz (by decide))
            refine wp_iload_n d216_78 rfl ?_
            refine wp_istore_n d216_79 (Nat.le_of_ble_eq_true rfl) rfl ?_
            refine wp_iinc d216_80 rfl (v := nI (k + 1)) (nI_add _ 1) (Nat.le_of_ble_eq_true rfl) rfl ?_
            refine wp_goto d216_83 (tgt := 6) (by decide) ?_
            exact ih (nD - (k + 1)) (by omega) (k + 1) _ _ rfl (by omega) (by simp only [F_db]; rw [if_neg (by grind), ← ha])
          · refine wp_iconst d216_61 (v := nI 1) (by decide) ?_
            refine wp_goto d216_62 (tgt := 66) (by decide) ?_
            refine wp_istore d216_66 (Nat.le_of_ble_eq_true rfl) rfl ?_
            refine wp_iload d216_68 rfl ?_
            refine wp_if_eq d216_70 (tgt := 78) (by decide) (fun hz => absurd hz (by decide)) (fun _ => ?_)
            refine wp_iload d216_73 rfl ?_
            refine wp_goto d216_75 (tgt := 79) (by decide) ?_
            refine wp_istore_n d216_79 (Nat.le_of_ble_eq_true rfl) rfl ?_
            refine wp_iinc d216_80 rfl (v := nI (k + 1)) (nI_add _ 1) (Nat.le_of_ble_eq_true rfl) rfl ?_
            refine wp_goto d216_83 (tgt := 6) (by decide) ?_
            exact ih (nD - (k + 1)) (by omega) (k + 1) _ _ rfl (by omega) (by simp only [F_db]; rw [if_pos (by grind)])
      · refine wp_aload_n d216_28 rfl ?_
        refine wp_iload d216_29 rfl ?_
        refine wp_iconst d216_31 (v := nI 1) (by decide) ?_
        refine wp_invvT (e := 53) (j2 := 217) (n := 2) d216_32 (by decide +kernel) (by decide +kernel) rfl rfl rfl (md_0 hR) (by decide +kernel) (Nat.le_of_ble_eq_true rfl) rfl rfl (Nat.le_of_ble_eq_true rfl) (by decide +kernel) (c_doorPart hR (r := k) (p := 1) (by omega) (by omega)) ?_
        refine wp_iload_n d216_35 rfl ?_
        refine wp_icmp_eq d216_36 (tgt := 61) (by decide) (fun hc36 => ?_) (fun hc36 => ?_)
        · refine wp_iconst d216_61 (v := nI 1) (by decide) ?_
          refine wp_goto d216_62 (tgt := 66) (by decide) ?_
          refine wp_istore d216_66 (Nat.le_of_ble_eq_true rfl) rfl ?_
          refine wp_iload d216_68 rfl ?_
          refine wp_if_eq d216_70 (tgt := 78) (by decide) (fun hz => absurd hz (by decide)) (fun _ => ?_)
          refine wp_iload d216_73 rfl ?_
          refine wp_goto d216_75 (tgt := 79) (by decide) ?_
          refine wp_istore_n d216_79 (Nat.le_of_ble_eq_true rfl) rfl ?_
          refine wp_iinc d216_80 rfl (v := nI (k + 1)) (nI_add _ 1) (Nat.le_of_ble_eq_true rfl) rfl ?_
          refine wp_goto d216_83 (tgt := 6) (by decide) ?_
          exact ih (nD - (k + 1)) (by omega) (k + 1) _ _ rfl (by omega) (by simp only [F_db]; rw [if_pos (by grind)])
        · refine wp_aload_n d216_39 rfl ?_
          refine wp_iload d216_40 rfl ?_
          refine wp_iconst d216_42 (v := nI 0) (by decide) ?_
          refine wp_invvT (e := 53) (j2 := 217) (n := 2) d216_43 (by decide +kernel) (by decide +kernel) rfl rfl rfl (md_0 hR) (by decide +kernel) (Nat.le_of_ble_eq_true rfl) rfl rfl (Nat.le_of_ble_eq_true rfl) (by decide +kernel) (c_doorPart hR (r := k) (p := 0) (by omega) (by omega)) ?_
          refine wp_iload_n d216_46 rfl ?_
          refine wp_icmp_ne d216_47 (tgt := 65) (by decide) (fun hc47 => ?_) (fun hc47 => ?_)
          · refine wp_iconst d216_65 (v := nI 0) (by decide) ?_
            refine wp_istore d216_66 (Nat.le_of_ble_eq_true rfl) rfl ?_
            refine wp_iload d216_68 rfl ?_
            refine wp_if_eq d216_70 (tgt := 78) (by decide) (fun _ => ?_) (fun hz => absurd hz (by decide))
            refine wp_iload_n d216_78 rfl ?_
            refine wp_istore_n d216_79 (Nat.le_of_ble_eq_true rfl) rfl ?_
            refine wp_iinc d216_80 rfl (v := nI (k + 1)) (nI_add _ 1) (Nat.le_of_ble_eq_true rfl) rfl ?_
            refine wp_goto d216_83 (tgt := 6) (by decide) ?_
            exact ih (nD - (k + 1)) (by omega) (k + 1) _ _ rfl (by omega) (by simp only [F_db]; rw [if_neg (by grind), ← ha])
          · refine wp_aload_n d216_50 rfl ?_
            refine wp_iload d216_51 rfl ?_
            refine wp_iconst d216_53 (v := nI 1) (by decide) ?_
            refine wp_invvT (e := 53) (j2 := 217) (n := 2) d216_54 (by decide +kernel) (by decide +kernel) rfl rfl rfl (md_0 hR) (by decide +kernel) (Nat.le_of_ble_eq_true rfl) rfl rfl (Nat.le_of_ble_eq_true rfl) (by decide +kernel) (c_doorPart hR (r := k) (p := 1) (by omega) (by omega)) ?_
            refine wp_iload_n d216_57 rfl ?_
            refine wp_icmp_ne d216_58 (tgt := 65) (by decide) (fun hc58 => ?_) (fun hc58 => ?_)
            · refine wp_iconst d216_65 (v := nI 0) (by decide) ?_
              refine wp_istore d216_66 (Nat.le_of_ble_eq_true rfl) rfl ?_
              refine wp_iload d216_68 rfl ?_
              refine wp_if_eq d216_70 (tgt := 78) (by decide) (fun _ => ?_) (fun hz => absurd hz (by decide))
              refine wp_iload_n d216_78 rfl ?_
              refine wp_istore_n d216_79 (Nat.le_of_ble_eq_true rfl) rfl ?_
              refine wp_iinc d216_80 rfl (v := nI (k + 1)) (nI_add _ 1) (Nat.le_of_ble_eq_true rfl) rfl ?_
              refine wp_goto d216_83 (tgt := 6) (by decide) ?_
              exact ih (nD - (k + 1)) (by omega) (k + 1) _ _ rfl (by omega) (by simp only [F_db]; rw [if_neg (by grind), ← ha])
            · refine wp_iconst d216_61 (v := nI 1) (by decide) ?_
              refine wp_goto d216_62 (tgt := 66) (by decide) ?_
              refine wp_istore d216_66 (Nat.le_of_ble_eq_true rfl) rfl ?_
              refine wp_iload d216_68 rfl ?_
              refine wp_if_eq d216_70 (tgt := 78) (by decide) (fun hz => absurd hz (by decide)) (fun _ => ?_)
              refine wp_iload d216_73 rfl ?_
              refine wp_goto d216_75 (tgt := 79) (by decide) ?_
              refine wp_istore_n d216_79 (Nat.le_of_ble_eq_true rfl) rfl ?_
              refine wp_iinc d216_80 rfl (v := nI (k + 1)) (nI_add _ 1) (Nat.le_of_ble_eq_true rfl) rfl ?_
              refine wp_goto d216_83 (tgt := 6) (by decide) ?_
              exact ih (nD - (k + 1)) (by omega) (k + 1) _ _ rfl (by omega) (by simp only [F_db]; rw [if_pos (by grind)])
theorem c_doorBetween {X : mX} {h : mH} {R : Nat → Nat → Int32} {σ : Nat → Int32} (hR : Ms h R σ) {nD : Nat} (hn : σ 3 = nI nD) (hD : nD ≤ 20) (x y : Int32) : Tells X 216 [.ref 313, .int (x), .int (y)] h (F_db σ x y nD) := by
  refine wp_bipush d216_0 (v := (-5 : Int32)) (by decide) ?_
  refine wp_istore_n d216_2 (Nat.le_of_ble_eq_true rfl) rfl ?_
  refine wp_iconst d216_3 (v := nI 0) (by decide) ?_
  refine wp_istore d216_4 (Nat.le_of_ble_eq_true rfl) rfl ?_
  exact c_doorBetween_l hR hn hD x y _ 0 _ _ rfl (by omega) rfl
theorem tells_eq {X : mX} {j : Nat} {as : List Value} {h : mH} {r r' : Int32} (hT : Tells X j as h r) (e : r = r') : Tells X j as h r' := e ▸ hT
abbrev F_bit (a k : Int32) : Prop := (a >>> (k &&& 31)) &&& nI 1 = nI 1
def F_bits (v : Int32) : Nat → Int32
  | 0 => nI 0
  | k + 1 => F_bits v k + ((v >>> (nI k &&& 31)) &&& nI 1)
def F_oz (f : Nat → Int32) : Nat → Int32
  | 0 => nI 0
  | k + 1 => F_oz f k + f (8 + k)
def F_bar (f : Nat → Int32) (z : Nat) : Nat → Bool
  | 0 => false
  | k + 1 => F_bar f z k || (decide (F_bit (f (14 + z)) (nI k)) && decide (f (8 + k) = nI 1))
def F_ho (f : Nat → Int32) (key : Int32) : Nat → Int32
  | 0 => -5
  | g + 1 => if F_bit (f (192 + 10 * g + 6)) key then nI g else F_ho f key g
def F_gi (f : Nat → Int32) (v : Int32) : Nat → Nat
  | 0 => 0
  | g + 1 => F_gi f v g + (if f (192 + 10 * g + 0) = v then 1 else 0)
def F_ko (f : Nat → Int32) : Nat → Int32
  | 0 => nI 0
  | g + 1 => F_ko f g + F_bits (f (192 + 10 * g + 6)) 16
theorem F_gi_le (f : Nat → Int32) (v : Int32) (n : Nat) : F_gi f v n ≤ n := by
  induction n with
  | zero => exact Nat.le_refl _
  | succ n ih => unfold F_gi; split <;> omega
theorem c_excludes {X : mX} {h : mH} {R : Nat → Nat → Int32} {σ : Nat → Int32} (hR : Ms h R σ) {z o : Nat} (hz : z < 6) : Tells X 221 [.ref 313, .int (nI z), .int (nI o)] h (m_b (F_bit (σ (14 + z)) (nI o))) := by
  refine wp_aload_n d221_0 rfl ?_
  refine wp_getf (e := 7) (ci := 12) (k := 0) (nest := false) d221_1 (by decide +kernel) (md_0 hR) rfl ?_
  refine wp_bipush d221_4 (v := nI 14) (by decide) ?_
  refine wp_iload_n d221_6 rfl ?_
  refine wp_iaddv d221_7 (v := nI (14 + z)) (nI_add _ _) ?_
  refine wp_iald d221_8 (md_1 hR) (nI_in (by omega) (by decide)) (v := σ (14 + z)) ((congrArg σ (nI_nat (by omega))).trans rfl) ?_
  refine wp_iload_n d221_9 rfl ?_
  refine wp_ishr d221_10 ?_
  refine wp_iconst d221_11 (v := nI 1) (by decide) ?_
  refine wp_iand d221_12 ?_
  refine wp_iconst d221_13 (v := nI 1) (by decide) ?_
  refine wp_icmp_ne d221_14 (tgt := 21) (by decide) (fun hc14 => ?_) (fun hc14 => ?_)
  · refine wp_iconst d221_21 (v := nI 0) (by decide) ?_
    refine wp_zret d221_22 (by decide +kernel) (by decide) ?_
    exact ⟨by congr 2; exact (m_b_f (by assumption)).symm, rfl⟩
  · refine wp_iconst d221_17 (v := nI 1) (by decide) ?_
    refine wp_goto d221_18 (tgt := 22) (by decide) ?_
    refine wp_zret d221_22 (by decide +kernel) (by decide) ?_
    exact ⟨by congr 2; exact (m_b_t (by assumption)).symm, rfl⟩
theorem c_bitsIn_l {X : mX} {h : mH}  (v : Int32) : ∀ (d : Nat) (k : Nat) (a : Int32), 16 - k = d → k ≤ 16 → a = F_bits v k → m_wp X 222 4 [some (.int (v)), some (.int (a)), some (.int (nI k))] [] h (fun w h1 => w = some (.int (F_bits v 16)) ∧ h1 = h) := by
  intro d
  induction d using Nat.strongRecOn with
  | ind d ih =>
    intro k a hd hk ha
    refine wp_iload_n d222_4 rfl ?_
    refine wp_bipush d222_5 (v := nI 16) (by decide) ?_
    refine wp_icmp_ge d222_7 (tgt := 24) (by decide) (fun hc7 => ?_) (fun hc7 => ?_)
    · have hc7 : 16 ≤ k := (nI_leI (by omega) (by omega)).mp hc7
      refine wp_iload_n d222_24 rfl ?_
      refine wp_iret d222_25 (by decide +kernel) ?_
      exact ⟨by rw [ha, show k = 16 by omega], rfl⟩
    · have hc7 : ¬ (16 ≤ k) := fun z => hc7 ((nI_leI (by omega) (by omega)).mpr z)
      refine wp_iload_n d222_10 rfl ?_
      refine wp_iload_n d222_11 rfl ?_
      refine wp_iload_n d222_12 rfl ?_
      refine wp_ishr d222_13 ?_
      refine wp_iconst d222_14 (v := nI 1) (by decide) ?_
      refine wp_iand d222_15 ?_
      refine wp_iadd d222_16 ?_
      refine wp_istore_n d222_17 (Nat.le_of_ble_eq_true rfl) rfl ?_
      refine wp_iinc d222_18 rfl (v := nI (k + 1)) (nI_add _ 1) (Nat.le_of_ble_eq_true rfl) rfl ?_
      refine wp_goto d222_21 (tgt := 4) (by decide) ?_
      exact ih (16 - (k + 1)) (by omega) (k + 1) _ rfl (by omega) (by rw [ha]; rfl)
theorem c_bitsIn {X : mX} {h : mH}  (v : Int32) : Tells X 222 [.int (v)] h (F_bits v 16) := by
  refine wp_iconst d222_0 (v := nI 0) (by decide) ?_
  refine wp_istore_n d222_1 (Nat.le_of_ble_eq_true rfl) rfl ?_
  refine wp_iconst d222_2 (v := nI 0) (by decide) ?_
  refine wp_istore_n d222_3 (Nat.le_of_ble_eq_true rfl) rfl ?_
  exact c_bitsIn_l v _ 0 _ rfl (by omega) rfl
theorem c_openZones_l {X : mX} {h : mH} {R : Nat → Nat → Int32} {σ : Nat → Int32} (hR : Ms h R σ)  : ∀ (d : Nat) (k : Nat) (a : Int32), 6 - k = d → k ≤ 6 → a = F_oz σ k → m_wp X 225 4 [some (.ref 313), some (.int (a)), some (.int (nI k))] [] h (fun w h1 => w = some (.int (F_oz σ 6)) ∧ h1 = h) := by
  intro d
  induction d using Nat.strongRecOn with
  | ind d ih =>
    intro k a hd hk ha
    refine wp_iload_n d225_4 rfl ?_
    refine wp_bipush d225_5 (v := nI 6) (by decide) ?_
    refine wp_icmp_ge d225_7 (tgt := 28) (by decide) (fun hc7 => ?_) (fun hc7 => ?_)
    · have hc7 : 6 ≤ k := (nI_leI (by omega) (by omega)).mp hc7
      refine wp_iload_n d225_28 rfl ?_
      refine wp_iret d225_29 (by decide +kernel) ?_
      exact ⟨by rw [ha, show k = 6 by omega], rfl⟩
    · have hc7 : ¬ (6 ≤ k) := fun z => hc7 ((nI_leI (by omega) (by omega)).mpr z)
      refine wp_iload_n d225_10 rfl ?_
      refine wp_aload_n d225_11 rfl ?_
      refine wp_getf (e := 7) (ci := 12) (k := 0) (nest := false) d225_12 (by decide +kernel) (md_0 hR) rfl ?_
      refine wp_bipush d225_15 (v := nI 8) (by decide) ?_
      refine wp_iload_n d225_17 rfl ?_
      refine wp_iaddv d225_18 (v := nI (8 + k)) (nI_add _ _) ?_
      refine wp_iald d225_19 (md_1 hR) (nI_in (by omega) (by decide)) (v := σ (8 + k)) ((congrArg σ (nI_nat (by omega))).trans rfl) ?_
      refine wp_iadd d225_20 ?_
      refine wp_istore_n d225_21 (Nat.le_of_ble_eq_true rfl) rfl ?_
      refine wp_iinc d225_22 rfl (v := nI (k + 1)) (nI_add _ 1) (Nat.le_of_ble_eq_true rfl) rfl ?_
      refine wp_goto d225_25 (tgt := 4) (by decide) ?_
      exact ih (6 - (k + 1)) (by omega) (k + 1) _ rfl (by omega) (by rw [ha]; rfl)
theorem c_openZones {X : mX} {h : mH} {R : Nat → Nat → Int32} {σ : Nat → Int32} (hR : Ms h R σ)  : Tells X 225 [.ref 313] h (F_oz σ 6) := by
  refine wp_iconst d225_0 (v := nI 0) (by decide) ?_
  refine wp_istore_n d225_1 (Nat.le_of_ble_eq_true rfl) rfl ?_
  refine wp_iconst d225_2 (v := nI 0) (by decide) ?_
  refine wp_istore_n d225_3 (Nat.le_of_ble_eq_true rfl) rfl ?_
  exact c_openZones_l hR _ 0 _ rfl (by omega) rfl
theorem c_isBarred_l {X : mX} {h : mH} {R : Nat → Nat → Int32} {σ : Nat → Int32} (hR : Ms h R σ) {z : Nat} (hz : z < 6) : ∀ (d : Nat) (k : Nat) (a : Bool), 6 - k = d → k ≤ 6 → a = F_bar σ z k → m_wp X 224 4 [some (.ref 313), some (.int (nI z)), some (.int (m_b (a = true))), some (.int (nI k))] [] h (fun w h1 => w = some (.int (m_b (F_bar σ z 6 = true))) ∧ h1 = h) := by
  intro d
  induction d using Nat.strongRecOn with
  | ind d ih =>
    intro k a hd hk ha
    refine wp_iload_n d224_4 rfl ?_
    refine wp_bipush d224_5 (v := nI 6) (by decide) ?_
    refine wp_icmp_ge d224_7 (tgt := 48) (by decide) (fun hc7 => ?_) (fun hc7 => ?_)
    · have hc7 : 6 ≤ k := (nI_leI (by omega) (by omega)).mp hc7
      refine wp_iload_n d224_48 rfl ?_
      refine wp_zret d224_49 (by decide +kernel) (m_b_01 _) ?_
      exact ⟨by rw [ha, show k = 6 by omega], rfl⟩
    · have hc7 : ¬ (6 ≤ k) := fun z => hc7 ((nI_leI (by omega) (by omega)).mpr z)
      refine wp_iload_n d224_10 rfl ?_
      refine wp_ifb_ne d224_11 (tgt := 36) (by decide) (fun hc11 => ?_) (fun hc11 => ?_)
      · refine wp_iconst d224_36 (v := nI 1) (by decide) ?_
        refine wp_goto d224_37 (tgt := 41) (by decide) ?_
        refine wp_istore_n d224_41 (Nat.le_of_ble_eq_true rfl) rfl ?_
        refine wp_iinc d224_42 rfl (v := nI (k + 1)) (nI_add _ 1) (Nat.le_of_ble_eq_true rfl) rfl ?_
        refine wp_goto d224_45 (tgt := 4) (by decide) ?_
        exact ih (6 - (k + 1)) (by omega) (k + 1) true rfl (by omega) (by simp only [F_bar]; grind)
      · refine wp_aload_n d224_14 rfl ?_
        refine wp_iload_n d224_15 rfl ?_
        refine wp_iload_n d224_16 rfl ?_
        refine wp_invvT (e := 66) (j2 := 221) (n := 2) d224_17 (by decide +kernel) (by decide +kernel) rfl rfl rfl (md_0 hR) (by decide +kernel) (Nat.le_of_ble_eq_true rfl) rfl rfl (Nat.le_of_ble_eq_true rfl) (by decide +kernel) (c_excludes hR (z := z) (o := k) (by omega)) ?_
        refine wp_ifb_eq d224_20 (tgt := 40) (by decide) (fun hc20 => ?_) (fun hc20 => ?_)
        · refine wp_iconst d224_40 (v := nI 0) (by decide) ?_
          refine wp_istore_n d224_41 (Nat.le_of_ble_eq_true rfl) rfl ?_
          refine wp_iinc d224_42 rfl (v := nI (k + 1)) (nI_add _ 1) (Nat.le_of_ble_eq_true rfl) rfl ?_
          refine wp_goto d224_45 (tgt := 4) (by decide) ?_
          exact ih (6 - (k + 1)) (by omega) (k + 1) false rfl (by omega) (by simp only [F_bar]; grind)
        · refine wp_aload_n d224_23 rfl ?_
          refine wp_getf (e := 7) (ci := 12) (k := 0) (nest := false) d224_24 (by decide +kernel) (md_0 hR) rfl ?_
          refine wp_bipush d224_27 (v := nI 8) (by decide) ?_
          refine wp_iload_n d224_29 rfl ?_
          refine wp_iaddv d224_30 (v := nI (8 + k)) (nI_add _ _) ?_
          refine wp_iald d224_31 (md_1 hR) (nI_in (by omega) (by decide)) (v := σ (8 + k)) ((congrArg σ (nI_nat (by omega))).trans rfl) ?_
          refine wp_iconst d224_32 (v := nI 1) (by decide) ?_
          refine wp_icmp_ne d224_33 (tgt := 40) (by decide) (fun hc33 => ?_) (fun hc33 => ?_)
          · refine wp_iconst d224_40 (v := nI 0) (by decide) ?_
            refine wp_istore_n d224_41 (Nat.le_of_ble_eq_true rfl) rfl ?_
            refine wp_iinc d224_42 rfl (v := nI (k + 1)) (nI_add _ 1) (Nat.le_of_ble_eq_true rfl) rfl ?_
            refine wp_goto d224_45 (tgt := 4) (by decide) ?_
            exact ih (6 - (k + 1)) (by omega) (k + 1) false rfl (by omega) (by simp only [F_bar]; grind)
          · refine wp_iconst d224_36 (v := nI 1) (by decide) ?_
            refine wp_goto d224_37 (tgt := 41) (by decide) ?_
            refine wp_istore_n d224_41 (Nat.le_of_ble_eq_true rfl) rfl ?_
            refine wp_iinc d224_42 rfl (v := nI (k + 1)) (nI_add _ 1) (Nat.le_of_ble_eq_true rfl) rfl ?_
            refine wp_goto d224_45 (tgt := 4) (by decide) ?_
            exact ih (6 - (k + 1)) (by omega) (k + 1) true rfl (by omega) (by simp only [F_bar]; grind)
theorem c_isBarred {X : mX} {h : mH} {R : Nat → Nat → Int32} {σ : Nat → Int32} (hR : Ms h R σ) {z : Nat} (hz : z < 6) : Tells X 224 [.ref 313, .int (nI z)] h (m_b (F_bar σ z 6 = true)) := by
  refine wp_iconst d224_0 (v := nI 0) (by decide) ?_
  refine wp_istore_n d224_1 (Nat.le_of_ble_eq_true rfl) rfl ?_
  refine wp_iconst d224_2 (v := nI 0) (by decide) ?_
  refine wp_istore_n d224_3 (Nat.le_of_ble_eq_true rfl) rfl ?_
  exact c_isBarred_l hR hz _ 0 false rfl (by omega) rfl
theorem c_hasKey {X : mX} {h : mH} {R : Nat → Nat → Int32} {σ : Nat → Int32} (hR : Ms h R σ) {g : Nat} (hg : g < 4) (k : Int32) : Tells X 235 [.ref 313, .int (nI g), .int (k)] h (m_b (F_bit (σ (192 + 10 * g + 6)) k)) := by
  refine wp_aload_n d235_0 rfl ?_
  refine wp_iload_n d235_1 rfl ?_
  refine wp_bipush d235_2 (v := nI 6) (by decide) ?_
  refine wp_invvT (e := 81) (j2 := 227) (n := 2) d235_4 (by decide +kernel) (by decide +kernel) rfl rfl rfl (md_0 hR) (by decide +kernel) (Nat.le_of_ble_eq_true rfl) rfl rfl (Nat.le_of_ble_eq_true rfl) (by decide +kernel) (c_guardPart hR (r := g) (p := 6) (by omega) (by omega)) ?_
  refine wp_iload_n d235_7 rfl ?_
  refine wp_ishr d235_8 ?_
  refine wp_iconst d235_9 (v := nI 1) (by decide) ?_
  refine wp_iand d235_10 ?_
  refine wp_iconst d235_11 (v := nI 1) (by decide) ?_
  refine wp_icmp_ne d235_12 (tgt := 19) (by decide) (fun hc12 => ?_) (fun hc12 => ?_)
  · refine wp_iconst d235_19 (v := nI 0) (by decide) ?_
    refine wp_zret d235_20 (by decide +kernel) (by decide) ?_
    exact ⟨by congr 2; exact (m_b_f (by assumption)).symm, rfl⟩
  · refine wp_iconst d235_15 (v := nI 1) (by decide) ?_
    refine wp_goto d235_16 (tgt := 20) (by decide) ?_
    refine wp_zret d235_20 (by decide +kernel) (by decide) ?_
    exact ⟨by congr 2; exact (m_b_t (by assumption)).symm, rfl⟩
theorem c_holderOf_l {X : mX} {h : mH} {R : Nat → Nat → Int32} {σ : Nat → Int32} (hR : Ms h R σ) {nG : Nat} (hn : σ 4 = nI nG) (hG : nG ≤ 4) (y : Int32) : ∀ (d : Nat) (k : Nat) (a : Int32), nG - k = d → k ≤ nG → a = F_ho σ y k → m_wp X 234 5 [some (.ref 313), some (.int (y)), some (.int (a)), some (.int (nI k))] [] h (fun w h1 => w = some (.int (F_ho σ y nG)) ∧ h1 = h) := by
  intro d
  induction d using Nat.strongRecOn with
  | ind d ih =>
    intro k a hd hk ha
    refine wp_iload_n d234_5 rfl ?_
    refine wp_aload_n d234_6 rfl ?_
    refine wp_getf (e := 7) (ci := 12) (k := 0) (nest := false) d234_7 (by decide +kernel) (md_0 hR) rfl ?_
    refine wp_iconst d234_10 (v := nI 4) (by decide) ?_
    refine wp_iald d234_11 (md_1 hR) (nI_in (by omega) (by decide)) (v := nI nG) ((congrArg σ (nI_nat (by omega))).trans hn) ?_
    refine wp_icmp_ge d234_12 (tgt := 36) (by decide) (fun hc12 => ?_) (fun hc12 => ?_)
    · have hc12 : nG ≤ k := (nI_leI (by omega) (by omega)).mp hc12
      refine wp_iload_n d234_36 rfl ?_
      refine wp_iret d234_37 (by decide +kernel) ?_
      exact ⟨by rw [ha, show k = nG by omega], rfl⟩
    · have hc12 : ¬ (nG ≤ k) := fun z => hc12 ((nI_leI (by omega) (by omega)).mpr z)
      refine wp_aload_n d234_15 rfl ?_
      refine wp_iload_n d234_16 rfl ?_
      refine wp_iload_n d234_17 rfl ?_
      refine wp_invvT (e := 91) (j2 := 235) (n := 2) d234_18 (by decide +kernel) (by decide +kernel) rfl rfl rfl (md_0 hR) (by decide +kernel) (Nat.le_of_ble_eq_true rfl) rfl rfl (Nat.le_of_ble_eq_true rfl) (by decide +kernel) (c_hasKey hR (g := k) (by omega) (y)) ?_
      refine wp_ifb_eq d234_21 (tgt := 28) (by decide) (fun hc21 => ?_) (fun hc21 => ?_)
      · refine wp_iload_n d234_28 rfl ?_
        refine wp_istore_n d234_29 (Nat.le_of_ble_eq_true rfl) rfl ?_
        refine wp_iinc d234_30 rfl (v := nI (k + 1)) (nI_add _ 1) (Nat.le_of_ble_eq_true rfl) rfl ?_
        refine wp_goto d234_33 (tgt := 5) (by decide) ?_
        exact ih (nG - (k + 1)) (by omega) (k + 1) _ rfl (by omega) (by simp only [F_ho]; rw [if_neg (by assumption), ← ha])
      · refine wp_iload_n d234_24 rfl ?_
        refine wp_goto d234_25 (tgt := 29) (by decide) ?_
        refine wp_istore_n d234_29 (Nat.le_of_ble_eq_true rfl) rfl ?_
        refine wp_iinc d234_30 rfl (v := nI (k + 1)) (nI_add _ 1) (Nat.le_of_ble_eq_true rfl) rfl ?_
        refine wp_goto d234_33 (tgt := 5) (by decide) ?_
        exact ih (nG - (k + 1)) (by omega) (k + 1) _ rfl (by omega) (by simp only [F_ho]; rw [if_pos (by assumption)])
theorem c_holderOf {X : mX} {h : mH} {R : Nat → Nat → Int32} {σ : Nat → Int32} (hR : Ms h R σ) {nG : Nat} (hn : σ 4 = nI nG) (hG : nG ≤ 4) (y : Int32) : Tells X 234 [.ref 313, .int (y)] h (F_ho σ y nG) := by
  refine wp_bipush d234_0 (v := (-5 : Int32)) (by decide) ?_
  refine wp_istore_n d234_2 (Nat.le_of_ble_eq_true rfl) rfl ?_
  refine wp_iconst d234_3 (v := nI 0) (by decide) ?_
  refine wp_istore_n d234_4 (Nat.le_of_ble_eq_true rfl) rfl ?_
  exact c_holderOf_l hR hn hG y _ 0 _ rfl (by omega) rfl
theorem c_keysOf {X : mX} {h : mH} {R : Nat → Nat → Int32} {σ : Nat → Int32} (hR : Ms h R σ) {g : Nat} (hg : g < 4) : Tells X 236 [.ref 313, .int (nI g)] h (F_bits (σ (192 + 10 * g + 6)) 16) := by
  refine wp_aload_n d236_0 rfl ?_
  refine wp_iload_n d236_1 rfl ?_
  refine wp_bipush d236_2 (v := nI 6) (by decide) ?_
  refine wp_invvT (e := 81) (j2 := 227) (n := 2) d236_4 (by decide +kernel) (by decide +kernel) rfl rfl rfl (md_0 hR) (by decide +kernel) (Nat.le_of_ble_eq_true rfl) rfl rfl (Nat.le_of_ble_eq_true rfl) (by decide +kernel) (c_guardPart hR (r := g) (p := 6) (by omega) (by omega)) ?_
  refine wp_invsT (e := 70) (j2 := 222) (n := 1) d236_7 (by decide +kernel) (by decide +kernel) rfl rfl rfl (Nat.le_of_ble_eq_true rfl) (Nat.le_of_ble_eq_true rfl) rfl rfl (Nat.le_of_ble_eq_true rfl) (by decide +kernel) (c_bitsIn (σ (192 + 10 * g + 6))) ?_
  refine wp_iret d236_10 (by decide +kernel) ?_
  exact ⟨rfl, rfl⟩
theorem c_guardsIn_l {X : mX} {h : mH} {R : Nat → Nat → Int32} {σ : Nat → Int32} (hR : Ms h R σ) {nG : Nat} (hn : σ 4 = nI nG) (hG : nG ≤ 4) (y : Int32) : ∀ (d : Nat) (k a : Nat), nG - k = d → k ≤ nG → a = F_gi σ y k → m_wp X 247 4 [some (.ref 313), some (.int (y)), some (.int (nI a)), some (.int (nI k))] [] h (fun w h1 => w = some (.int (nI (F_gi σ y nG))) ∧ h1 = h) := by
  intro d
  induction d using Nat.strongRecOn with
  | ind d ih =>
    intro k a hd hk ha
    refine wp_iload_n d247_4 rfl ?_
    refine wp_aload_n d247_5 rfl ?_
    refine wp_getf (e := 7) (ci := 12) (k := 0) (nest := false) d247_6 (by decide +kernel) (md_0 hR) rfl ?_
    refine wp_iconst d247_9 (v := nI 4) (by decide) ?_
    refine wp_iald d247_10 (md_1 hR) (nI_in (by omega) (by decide)) (v := nI nG) ((congrArg σ (nI_nat (by omega))).trans hn) ?_
    refine wp_icmp_ge d247_11 (tgt := 38) (by decide) (fun hc11 => ?_) (fun hc11 => ?_)
    · have hc11 : nG ≤ k := (nI_leI (by omega) (by omega)).mp hc11
      refine wp_iload_n d247_38 rfl ?_
      refine wp_iret d247_39 (by decide +kernel) ?_
      exact ⟨by rw [ha, show k = nG by omega], rfl⟩
    · have hc11 : ¬ (nG ≤ k) := fun z => hc11 ((nI_leI (by omega) (by omega)).mpr z)
      refine wp_iload_n d247_14 rfl ?_
      refine wp_aload_n d247_15 rfl ?_
      refine wp_iload_n d247_16 rfl ?_
      refine wp_iconst d247_17 (v := nI 0) (by decide) ?_
      refine wp_invvT (e := 81) (j2 := 227) (n := 2) d247_18 (by decide +kernel) (by decide +kernel) rfl rfl rfl (md_0 hR) (by decide +kernel) (Nat.le_of_ble_eq_true rfl) rfl rfl (Nat.le_of_ble_eq_true rfl) (by decide +kernel) (c_guardPart hR (r := k) (p := 0) (by omega) (by omega)) ?_
      refine wp_iload_n d247_21 rfl ?_
      refine wp_icmp_ne d247_22 (tgt := 29) (by decide) (fun hc22 => ?_) (fun hc22 => ?_)
      · refine wp_iconst d247_29 (v := nI 0) (by decide) ?_
        refine wp_iaddv d247_30 (v := nI (a + 0)) (nI_add _ _) ?_
        refine wp_istore_n d247_31 (Nat.le_of_ble_eq_true rfl) rfl ?_
        refine wp_iinc d247_32 rfl (v := nI (k + 1)) (nI_add _ 1) (Nat.le_of_ble_eq_true rfl) rfl ?_
        refine wp_goto d247_35 (tgt := 4) (by decide) ?_
        exact ih (nG - (k + 1)) (by omega) (k + 1) _ rfl (by omega) (by simp only [F_gi]; rw [if_neg (by assumption), ha])
      · refine wp_iconst d247_25 (v := nI 1) (by decide) ?_
        refine wp_goto d247_26 (tgt := 30) (by decide) ?_
        refine wp_iaddv d247_30 (v := nI (a + 1)) (nI_add _ _) ?_
        refine wp_istore_n d247_31 (Nat.le_of_ble_eq_true rfl) rfl ?_
        refine wp_iinc d247_32 rfl (v := nI (k + 1)) (nI_add _ 1) (Nat.le_of_ble_eq_true rfl) rfl ?_
        refine wp_goto d247_35 (tgt := 4) (by decide) ?_
        exact ih (nG - (k + 1)) (by omega) (k + 1) _ rfl (by omega) (by simp only [F_gi]; rw [if_pos (by assumption), ha])
theorem c_guardsIn {X : mX} {h : mH} {R : Nat → Nat → Int32} {σ : Nat → Int32} (hR : Ms h R σ) {nG : Nat} (hn : σ 4 = nI nG) (hG : nG ≤ 4) (y : Int32) : Tells X 247 [.ref 313, .int (y)] h (nI (F_gi σ y nG)) := by
  refine wp_iconst d247_0 (v := nI 0) (by decide) ?_
  refine wp_istore_n d247_1 (Nat.le_of_ble_eq_true rfl) rfl ?_
  refine wp_iconst d247_2 (v := nI 0) (by decide) ?_
  refine wp_istore_n d247_3 (Nat.le_of_ble_eq_true rfl) rfl ?_
  exact c_guardsIn_l hR hn hG y _ 0 0 rfl (by omega) rfl
theorem c_keysOut_l {X : mX} {h : mH} {R : Nat → Nat → Int32} {σ : Nat → Int32} (hR : Ms h R σ) {nG : Nat} (hn : σ 4 = nI nG) (hG : nG ≤ 4) : ∀ (d : Nat) (k : Nat) (a : Int32), nG - k = d → k ≤ nG → a = F_ko σ k → m_wp X 264 4 [some (.ref 313), some (.int (a)), some (.int (nI k))] [] h (fun w h1 => w = some (.int (F_ko σ nG)) ∧ h1 = h) := by
  intro d
  induction d using Nat.strongRecOn with
  | ind d ih =>
    intro k a hd hk ha
    refine wp_iload_n d264_4 rfl ?_
    refine wp_aload_n d264_5 rfl ?_
    refine wp_getf (e := 7) (ci := 12) (k := 0) (nest := false) d264_6 (by decide +kernel) (md_0 hR) rfl ?_
    refine wp_iconst d264_9 (v := nI 4) (by decide) ?_
    refine wp_iald d264_10 (md_1 hR) (nI_in (by omega) (by decide)) (v := nI nG) ((congrArg σ (nI_nat (by omega))).trans hn) ?_
    refine wp_icmp_ge d264_11 (tgt := 28) (by decide) (fun hc11 => ?_) (fun hc11 => ?_)
    · have hc11 : nG ≤ k := (nI_leI (by omega) (by omega)).mp hc11
      refine wp_iload_n d264_28 rfl ?_
      refine wp_iret d264_29 (by decide +kernel) ?_
      exact ⟨by rw [ha, show k = nG by omega], rfl⟩
    · have hc11 : ¬ (nG ≤ k) := fun z => hc11 ((nI_leI (by omega) (by omega)).mpr z)
      refine wp_iload_n d264_14 rfl ?_
      refine wp_aload_n d264_15 rfl ?_
      refine wp_iload_n d264_16 rfl ?_
      refine wp_invvT (e := 103) (j2 := 236) (n := 1) d264_17 (by decide +kernel) (by decide +kernel) rfl rfl rfl (md_0 hR) (by decide +kernel) (Nat.le_of_ble_eq_true rfl) rfl rfl (Nat.le_of_ble_eq_true rfl) (by decide +kernel) (c_keysOf hR (g := k) (by omega)) ?_
      refine wp_iadd d264_20 ?_
      refine wp_istore_n d264_21 (Nat.le_of_ble_eq_true rfl) rfl ?_
      refine wp_iinc d264_22 rfl (v := nI (k + 1)) (nI_add _ 1) (Nat.le_of_ble_eq_true rfl) rfl ?_
      refine wp_goto d264_25 (tgt := 4) (by decide) ?_
      exact ih (nG - (k + 1)) (by omega) (k + 1) _ rfl (by omega) (by rw [ha]; rfl)
theorem c_keysOut {X : mX} {h : mH} {R : Nat → Nat → Int32} {σ : Nat → Int32} (hR : Ms h R σ) {nG : Nat} (hn : σ 4 = nI nG) (hG : nG ≤ 4) : Tells X 264 [.ref 313] h (F_ko σ nG) := by
  refine wp_iconst d264_0 (v := nI 0) (by decide) ?_
  refine wp_istore_n d264_1 (Nat.le_of_ble_eq_true rfl) rfl ?_
  refine wp_iconst d264_2 (v := nI 0) (by decide) ?_
  refine wp_istore_n d264_3 (Nat.le_of_ble_eq_true rfl) rfl ?_
  exact c_keysOut_l hR hn hG _ 0 _ rfl (by omega) rfl
theorem c_mayPass {X : mX} {h : mH} {R : Nat → Nat → Int32} {σ : Nat → Int32} (hR : Ms h R σ) {g d : Nat} (hg : g < 4) (hd : d < 20) : Tells X 258 [.ref 313, .int (nI g), .int (nI d)] h (m_b (σ (92 + 5 * d + 3) < 0 ∨ F_bit (σ (192 + 10 * g + 6)) (σ (92 + 5 * d + 3)))) := by
  refine wp_aload_n d258_0 rfl ?_
  refine wp_iload_n d258_1 rfl ?_
  refine wp_iconst d258_2 (v := nI 3) (by decide) ?_
  refine wp_invvT (e := 53) (j2 := 217) (n := 2) d258_3 (by decide +kernel) (by decide +kernel) rfl rfl rfl (md_0 hR) (by decide +kernel) (Nat.le_of_ble_eq_true rfl) rfl rfl (Nat.le_of_ble_eq_true rfl) (by decide +kernel) (c_doorPart hR (r := d) (p := 3) (by omega) (by omega)) ?_
  refine wp_istore_n d258_6 (Nat.le_of_ble_eq_true rfl) rfl ?_
  refine wp_iload_n d258_7 rfl ?_
  refine wp_if_lt d258_8 (tgt := 20) (by decide) (fun hc8 => ?_) (fun hc8 => ?_)
  · refine wp_iconst d258_20 (v := nI 1) (by decide) ?_
    refine wp_goto d258_21 (tgt := 25) (by decide) ?_
    refine wp_zret d258_25 (by decide +kernel) (by decide) ?_
    exact ⟨by congr 2; exact (m_b_t (by grind)).symm, rfl⟩
  · refine wp_aload_n d258_11 rfl ?_
    refine wp_iload_n d258_12 rfl ?_
    refine wp_iload_n d258_13 rfl ?_
    refine wp_invvT (e := 91) (j2 := 235) (n := 2) d258_14 (by decide +kernel) (by decide +kernel) rfl rfl rfl (md_0 hR) (by decide +kernel) (Nat.le_of_ble_eq_true rfl) rfl rfl (Nat.le_of_ble_eq_true rfl) (by decide +kernel) (c_hasKey hR (g := g) (by omega) (σ (92 + 5 * d + 3))) ?_
    refine wp_ifb_eq d258_17 (tgt := 24) (by decide) (fun hc17 => ?_) (fun hc17 => ?_)
    · refine wp_iconst d258_24 (v := nI 0) (by decide) ?_
      refine wp_zret d258_25 (by decide +kernel) (by decide) ?_
      exact ⟨by congr 2; exact (m_b_f (by grind)).symm, rfl⟩
    · refine wp_iconst d258_20 (v := nI 1) (by decide) ?_
      refine wp_goto d258_21 (tgt := 25) (by decide) ?_
      refine wp_zret d258_25 (by decide +kernel) (by decide) ?_
      exact ⟨by congr 2; exact (m_b_t (by grind)).symm, rfl⟩
