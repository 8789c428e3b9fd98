/-! The class: counts. -/
theorem d38_0 : decode (m_code 38) 0 = .ok (.iconst 0, 1) := by decide +kernel
theorem d38_1 : decode (m_code 38) 1 = .ok (.istore_n 3, 1) := by decide +kernel
theorem d38_2 : decode (m_code 38) 2 = .ok (.iload_n 3, 1) := by decide +kernel
theorem d38_3 : decode (m_code 38) 3 = .ok (.aload_n 0, 1) := by decide +kernel
theorem d38_4 : decode (m_code 38) 4 = .ok (.getfield 30, 3) := by decide +kernel
theorem d38_7 : decode (m_code 38) 7 = .ok (.if_icmp .ge 51, 3) := by decide +kernel
theorem d38_10 : decode (m_code 38) 10 = .ok (.aload_n 0, 1) := by decide +kernel
theorem d38_11 : decode (m_code 38) 11 = .ok (.getfield 9, 3) := by decide +kernel
theorem d38_14 : decode (m_code 38) 14 = .ok (.iload_n 3, 1) := by decide +kernel
theorem d38_15 : decode (m_code 38) 15 = .ok (.iaload, 1) := by decide +kernel
theorem d38_16 : decode (m_code 38) 16 = .ok (.iload_n 1, 1) := by decide +kernel
theorem d38_17 : decode (m_code 38) 17 = .ok (.if_icmp .ne 13, 3) := by decide +kernel
theorem d38_20 : decode (m_code 38) 20 = .ok (.aload_n 0, 1) := by decide +kernel
theorem d38_21 : decode (m_code 38) 21 = .ok (.getfield 15, 3) := by decide +kernel
theorem d38_24 : decode (m_code 38) 24 = .ok (.iload_n 3, 1) := by decide +kernel
theorem d38_25 : decode (m_code 38) 25 = .ok (.iaload, 1) := by decide +kernel
theorem d38_26 : decode (m_code 38) 26 = .ok (.iload_n 2, 1) := by decide +kernel
theorem d38_27 : decode (m_code 38) 27 = .ok (.if_icmp .eq 23, 3) := by decide +kernel
theorem d38_30 : decode (m_code 38) 30 = .ok (.aload_n 0, 1) := by decide +kernel
theorem d38_31 : decode (m_code 38) 31 = .ok (.getfield 9, 3) := by decide +kernel
theorem d38_34 : decode (m_code 38) 34 = .ok (.iload_n 3, 1) := by decide +kernel
theorem d38_35 : decode (m_code 38) 35 = .ok (.iaload, 1) := by decide +kernel
theorem d38_36 : decode (m_code 38) 36 = .ok (.iload_n 2, 1) := by decide +kernel
theorem d38_37 : decode (m_code 38) 37 = .ok (.if_icmp .ne 15, 3) := by decide +kernel
theorem d38_40 : decode (m_code 38) 40 = .ok (.aload_n 0, 1) := by decide +kernel
theorem d38_41 : decode (m_code 38) 41 = .ok (.getfield 15, 3) := by decide +kernel
theorem d38_44 : decode (m_code 38) 44 = .ok (.iload_n 3, 1) := by decide +kernel
theorem d38_45 : decode (m_code 38) 45 = .ok (.iaload, 1) := by decide +kernel
theorem d38_46 : decode (m_code 38) 46 = .ok (.iload_n 1, 1) := by decide +kernel
theorem d38_47 : decode (m_code 38) 47 = .ok (.if_icmp .ne 5, 3) := by decide +kernel
theorem d38_50 : decode (m_code 38) 50 = .ok (.iload_n 3, 1) := by decide +kernel
theorem d38_51 : decode (m_code 38) 51 = .ok (.ireturn, 1) := by decide +kernel
theorem d38_52 : decode (m_code 38) 52 = .ok (.iinc 3 1, 3) := by decide +kernel
theorem d38_55 : decode (m_code 38) 55 = .ok (.goto (-53), 3) := by decide +kernel
theorem d38_58 : decode (m_code 38) 58 = .ok (.bipush (-5), 2) := by decide +kernel
theorem d38_60 : decode (m_code 38) 60 = .ok (.ireturn, 1) := by decide +kernel
theorem d68_0 : decode (m_code 68) 0 = .ok (.aload_n 0, 1) := by decide +kernel
theorem d68_1 : decode (m_code 68) 1 = .ok (.iload_n 1, 1) := by decide +kernel
theorem d68_2 : decode (m_code 68) 2 = .ok (.invokevirtual 31, 3) := by decide +kernel
theorem d68_5 : decode (m_code 68) 5 = .ok (.invokestatic 35, 3) := by decide +kernel
theorem d68_8 : decode (m_code 68) 8 = .ok (.ireturn, 1) := by decide +kernel
theorem d69_0 : decode (m_code 69) 0 = .ok (.iconst 0, 1) := by decide +kernel
theorem d69_1 : decode (m_code 69) 1 = .ok (.istore_n 2, 1) := by decide +kernel
theorem d69_2 : decode (m_code 69) 2 = .ok (.iconst 0, 1) := by decide +kernel
theorem d69_3 : decode (m_code 69) 3 = .ok (.istore_n 3, 1) := by decide +kernel
theorem d69_4 : decode (m_code 69) 4 = .ok (.iload_n 3, 1) := by decide +kernel
theorem d69_5 : decode (m_code 69) 5 = .ok (.bipush 8, 2) := by decide +kernel
theorem d69_7 : decode (m_code 69) 7 = .ok (.if_icmp .ge 25, 3) := by decide +kernel
theorem d69_10 : decode (m_code 69) 10 = .ok (.aload_n 0, 1) := by decide +kernel
theorem d69_11 : decode (m_code 69) 11 = .ok (.getfield 9, 3) := by decide +kernel
theorem d69_14 : decode (m_code 69) 14 = .ok (.iload_n 3, 1) := by decide +kernel
theorem d69_15 : decode (m_code 69) 15 = .ok (.iaload, 1) := by decide +kernel
theorem d69_16 : decode (m_code 69) 16 = .ok (.iload_n 1, 1) := by decide +kernel
theorem d69_17 : decode (m_code 69) 17 = .ok (.if_icmp .ne 9, 3) := by decide +kernel
theorem d69_20 : decode (m_code 69) 20 = .ok (.iload_n 2, 1) := by decide +kernel
theorem d69_21 : decode (m_code 69) 21 = .ok (.iconst 1, 1) := by decide +kernel
theorem d69_22 : decode (m_code 69) 22 = .ok (.iload_n 3, 1) := by decide +kernel
theorem d69_23 : decode (m_code 69) 23 = .ok (.ishl, 1) := by decide +kernel
theorem d69_24 : decode (m_code 69) 24 = .ok (.ior, 1) := by decide +kernel
theorem d69_25 : decode (m_code 69) 25 = .ok (.istore_n 2, 1) := by decide +kernel
theorem d69_26 : decode (m_code 69) 26 = .ok (.iinc 3 1, 3) := by decide +kernel
theorem d69_29 : decode (m_code 69) 29 = .ok (.goto (-25), 3) := by decide +kernel
theorem d69_32 : decode (m_code 69) 32 = .ok (.iload_n 2, 1) := by decide +kernel
theorem d69_33 : decode (m_code 69) 33 = .ok (.ireturn, 1) := by decide +kernel
theorem d91_0 : decode (m_code 91) 0 = .ok (.iconst 0, 1) := by decide +kernel
theorem d91_1 : decode (m_code 91) 1 = .ok (.istore_n 2, 1) := by decide +kernel
theorem d91_2 : decode (m_code 91) 2 = .ok (.iconst 0, 1) := by decide +kernel
theorem d91_3 : decode (m_code 91) 3 = .ok (.istore_n 3, 1) := by decide +kernel
theorem d91_4 : decode (m_code 91) 4 = .ok (.iload_n 3, 1) := by decide +kernel
theorem d91_5 : decode (m_code 91) 5 = .ok (.aload_n 0, 1) := by decide +kernel
theorem d91_6 : decode (m_code 91) 6 = .ok (.getfield 39, 3) := by decide +kernel
theorem d91_9 : decode (m_code 91) 9 = .ok (.if_icmp .ge 22, 3) := by decide +kernel
theorem d91_12 : decode (m_code 91) 12 = .ok (.aload_n 0, 1) := by decide +kernel
theorem d91_13 : decode (m_code 91) 13 = .ok (.getfield 9, 3) := by decide +kernel
theorem d91_16 : decode (m_code 91) 16 = .ok (.iload_n 3, 1) := by decide +kernel
theorem d91_17 : decode (m_code 91) 17 = .ok (.iaload, 1) := by decide +kernel
theorem d91_18 : decode (m_code 91) 18 = .ok (.iload_n 1, 1) := by decide +kernel
theorem d91_19 : decode (m_code 91) 19 = .ok (.if_icmp .ne 6, 3) := by decide +kernel
theorem d91_22 : decode (m_code 91) 22 = .ok (.iinc 2 1, 3) := by decide +kernel
theorem d91_25 : decode (m_code 91) 25 = .ok (.iinc 3 1, 3) := by decide +kernel
theorem d91_28 : decode (m_code 91) 28 = .ok (.goto (-24), 3) := by decide +kernel
theorem d91_31 : decode (m_code 91) 31 = .ok (.iload_n 2, 1) := by decide +kernel
theorem d91_32 : decode (m_code 91) 32 = .ok (.ireturn, 1) := by decide +kernel
theorem d107_0 : decode (m_code 107) 0 = .ok (.aload_n 0, 1) := by decide +kernel
theorem d107_1 : decode (m_code 107) 1 = .ok (.getfield 27, 3) := by decide +kernel
theorem d107_4 : decode (m_code 107) 4 = .ok (.aload_n 0, 1) := by decide +kernel
theorem d107_5 : decode (m_code 107) 5 = .ok (.getfield 31, 3) := by decide +kernel
theorem d107_8 : decode (m_code 107) 8 = .ok (.iadd, 1) := by decide +kernel
theorem d107_9 : decode (m_code 107) 9 = .ok (.ireturn, 1) := by decide +kernel
theorem d120_0 : decode (m_code 120) 0 = .ok (.iconst 0, 1) := by decide +kernel
theorem d120_1 : decode (m_code 120) 1 = .ok (.istore_n 1, 1) := by decide +kernel
theorem d120_2 : decode (m_code 120) 2 = .ok (.iconst 0, 1) := by decide +kernel
theorem d120_3 : decode (m_code 120) 3 = .ok (.istore_n 2, 1) := by decide +kernel
theorem d120_4 : decode (m_code 120) 4 = .ok (.iload_n 2, 1) := by decide +kernel
theorem d120_5 : decode (m_code 120) 5 = .ok (.aload_n 0, 1) := by decide +kernel
theorem d120_6 : decode (m_code 120) 6 = .ok (.getfield 39, 3) := by decide +kernel
theorem d120_9 : decode (m_code 120) 9 = .ok (.if_icmp .ge 29, 3) := by decide +kernel
theorem d120_12 : decode (m_code 120) 12 = .ok (.aload_n 0, 1) := by decide +kernel
theorem d120_13 : decode (m_code 120) 13 = .ok (.getfield 9, 3) := by decide +kernel
theorem d120_16 : decode (m_code 120) 16 = .ok (.iload_n 2, 1) := by decide +kernel
theorem d120_17 : decode (m_code 120) 17 = .ok (.iaload, 1) := by decide +kernel
theorem d120_18 : decode (m_code 120) 18 = .ok (.ifCond .lt 14, 3) := by decide +kernel
theorem d120_21 : decode (m_code 120) 21 = .ok (.iload_n 1, 1) := by decide +kernel
theorem d120_22 : decode (m_code 120) 22 = .ok (.iconst 1, 1) := by decide +kernel
theorem d120_23 : decode (m_code 120) 23 = .ok (.aload_n 0, 1) := by decide +kernel
theorem d120_24 : decode (m_code 120) 24 = .ok (.getfield 9, 3) := by decide +kernel
theorem d120_27 : decode (m_code 120) 27 = .ok (.iload_n 2, 1) := by decide +kernel
theorem d120_28 : decode (m_code 120) 28 = .ok (.iaload, 1) := by decide +kernel
theorem d120_29 : decode (m_code 120) 29 = .ok (.ishl, 1) := by decide +kernel
theorem d120_30 : decode (m_code 120) 30 = .ok (.ior, 1) := by decide +kernel
theorem d120_31 : decode (m_code 120) 31 = .ok (.istore_n 1, 1) := by decide +kernel
theorem d120_32 : decode (m_code 120) 32 = .ok (.iinc 2 1, 3) := by decide +kernel
theorem d120_35 : decode (m_code 120) 35 = .ok (.goto (-31), 3) := by decide +kernel
theorem d120_38 : decode (m_code 120) 38 = .ok (.iload_n 1, 1) := by decide +kernel
theorem d120_39 : decode (m_code 120) 39 = .ok (.ireturn, 1) := by decide +kernel
theorem d138_0 : decode (m_code 138) 0 = .ok (.bipush 8, 2) := by decide +kernel
theorem d138_2 : decode (m_code 138) 2 = .ok (.aload_n 0, 1) := by decide +kernel
theorem d138_3 : decode (m_code 138) 3 = .ok (.bipush (-5), 2) := by decide +kernel
theorem d138_5 : decode (m_code 138) 5 = .ok (.invokevirtual 31, 3) := by decide +kernel
theorem d138_8 : decode (m_code 138) 8 = .ok (.invokestatic 35, 3) := by decide +kernel
theorem d138_11 : decode (m_code 138) 11 = .ok (.isub, 1) := by decide +kernel
theorem d138_12 : decode (m_code 138) 12 = .ok (.ireturn, 1) := by decide +kernel
theorem d168_0 : decode (m_code 168) 0 = .ok (.iconst 0, 1) := by decide +kernel
theorem d168_1 : decode (m_code 168) 1 = .ok (.istore_n 2, 1) := by decide +kernel
theorem d168_2 : decode (m_code 168) 2 = .ok (.iconst 0, 1) := by decide +kernel
theorem d168_3 : decode (m_code 168) 3 = .ok (.istore_n 3, 1) := by decide +kernel
theorem d168_4 : decode (m_code 168) 4 = .ok (.iload_n 3, 1) := by decide +kernel
theorem d168_5 : decode (m_code 168) 5 = .ok (.aload_n 0, 1) := by decide +kernel
theorem d168_6 : decode (m_code 168) 6 = .ok (.getfield 27, 3) := by decide +kernel
theorem d168_9 : decode (m_code 168) 9 = .ok (.if_icmp .ge 32, 3) := by decide +kernel
theorem d168_12 : decode (m_code 168) 12 = .ok (.aload_n 0, 1) := by decide +kernel
theorem d168_13 : decode (m_code 168) 13 = .ok (.getfield 15, 3) := by decide +kernel
theorem d168_16 : decode (m_code 168) 16 = .ok (.iload_n 3, 1) := by decide +kernel
theorem d168_17 : decode (m_code 168) 17 = .ok (.iaload, 1) := by decide +kernel
theorem d168_18 : decode (m_code 168) 18 = .ok (.iload_n 1, 1) := by decide +kernel
theorem d168_19 : decode (m_code 168) 19 = .ok (.if_icmp .ne 16, 3) := by decide +kernel
theorem d168_22 : decode (m_code 168) 22 = .ok (.aload_n 0, 1) := by decide +kernel
theorem d168_23 : decode (m_code 168) 23 = .ok (.getfield 21, 3) := by decide +kernel
theorem d168_26 : decode (m_code 168) 26 = .ok (.iload_n 3, 1) := by decide +kernel
theorem d168_27 : decode (m_code 168) 27 = .ok (.iaload, 1) := by decide +kernel
theorem d168_28 : decode (m_code 168) 28 = .ok (.iconst 2, 1) := by decide +kernel
theorem d168_29 : decode (m_code 168) 29 = .ok (.if_icmp .eq 6, 3) := by decide +kernel
theorem d168_32 : decode (m_code 168) 32 = .ok (.iinc 2 1, 3) := by decide +kernel
theorem d168_35 : decode (m_code 168) 35 = .ok (.iinc 3 1, 3) := by decide +kernel
theorem d168_38 : decode (m_code 168) 38 = .ok (.goto (-34), 3) := by decide +kernel
theorem d168_41 : decode (m_code 168) 41 = .ok (.iload_n 2, 1) := by decide +kernel
theorem d168_42 : decode (m_code 168) 42 = .ok (.ireturn, 1) := by decide +kernel
theorem d169_0 : decode (m_code 169) 0 = .ok (.iconst 0, 1) := by decide +kernel
theorem d169_1 : decode (m_code 169) 1 = .ok (.istore_n 2, 1) := by decide +kernel
theorem d169_2 : decode (m_code 169) 2 = .ok (.iconst 0, 1) := by decide +kernel
theorem d169_3 : decode (m_code 169) 3 = .ok (.istore_n 3, 1) := by decide +kernel
theorem d169_4 : decode (m_code 169) 4 = .ok (.iload_n 3, 1) := by decide +kernel
theorem d169_5 : decode (m_code 169) 5 = .ok (.aload_n 0, 1) := by decide +kernel
theorem d169_6 : decode (m_code 169) 6 = .ok (.getfield 27, 3) := by decide +kernel
theorem d169_9 : decode (m_code 169) 9 = .ok (.if_icmp .ge 33, 3) := by decide +kernel
theorem d169_12 : decode (m_code 169) 12 = .ok (.aload_n 0, 1) := by decide +kernel
theorem d169_13 : decode (m_code 169) 13 = .ok (.getfield 15, 3) := by decide +kernel
theorem d169_16 : decode (m_code 169) 16 = .ok (.iload_n 3, 1) := by decide +kernel
theorem d169_17 : decode (m_code 169) 17 = .ok (.iaload, 1) := by decide +kernel
theorem d169_18 : decode (m_code 169) 18 = .ok (.iload_n 1, 1) := by decide +kernel
theorem d169_19 : decode (m_code 169) 19 = .ok (.if_icmp .ne 17, 3) := by decide +kernel
theorem d169_22 : decode (m_code 169) 22 = .ok (.aload_n 0, 1) := by decide +kernel
theorem d169_23 : decode (m_code 169) 23 = .ok (.getfield 21, 3) := by decide +kernel
theorem d169_26 : decode (m_code 169) 26 = .ok (.iload_n 3, 1) := by decide +kernel
theorem d169_27 : decode (m_code 169) 27 = .ok (.iaload, 1) := by decide +kernel
theorem d169_28 : decode (m_code 169) 28 = .ok (.bipush (-5), 2) := by decide +kernel
theorem d169_30 : decode (m_code 169) 30 = .ok (.if_icmp .ne 6, 3) := by decide +kernel
theorem d169_33 : decode (m_code 169) 33 = .ok (.iinc 2 1, 3) := by decide +kernel
theorem d169_36 : decode (m_code 169) 36 = .ok (.iinc 3 1, 3) := by decide +kernel
theorem d169_39 : decode (m_code 169) 39 = .ok (.goto (-35), 3) := by decide +kernel
theorem d169_42 : decode (m_code 169) 42 = .ok (.iload_n 2, 1) := by decide +kernel
theorem d169_43 : decode (m_code 169) 43 = .ok (.ireturn, 1) := by decide +kernel
theorem d201_0 : decode (m_code 201) 0 = .ok (.iconst 0, 1) := by decide +kernel
theorem d201_1 : decode (m_code 201) 1 = .ok (.istore_n 1, 1) := by decide +kernel
theorem d201_2 : decode (m_code 201) 2 = .ok (.iconst 0, 1) := by decide +kernel
theorem d201_3 : decode (m_code 201) 3 = .ok (.istore_n 2, 1) := by decide +kernel
theorem d201_4 : decode (m_code 201) 4 = .ok (.iload_n 2, 1) := by decide +kernel
theorem d201_5 : decode (m_code 201) 5 = .ok (.aload_n 0, 1) := by decide +kernel
theorem d201_6 : decode (m_code 201) 6 = .ok (.getfield 27, 3) := by decide +kernel
theorem d201_9 : decode (m_code 201) 9 = .ok (.if_icmp .ge 22, 3) := by decide +kernel
theorem d201_12 : decode (m_code 201) 12 = .ok (.aload_n 0, 1) := by decide +kernel
theorem d201_13 : decode (m_code 201) 13 = .ok (.getfield 21, 3) := by decide +kernel
theorem d201_16 : decode (m_code 201) 16 = .ok (.iload_n 2, 1) := by decide +kernel
theorem d201_17 : decode (m_code 201) 17 = .ok (.iaload, 1) := by decide +kernel
theorem d201_18 : decode (m_code 201) 18 = .ok (.iconst 1, 1) := by decide +kernel
theorem d201_19 : decode (m_code 201) 19 = .ok (.if_icmp .ne 6, 3) := by decide +kernel
theorem d201_22 : decode (m_code 201) 22 = .ok (.iinc 1 1, 3) := by decide +kernel
theorem d201_25 : decode (m_code 201) 25 = .ok (.iinc 2 1, 3) := by decide +kernel
theorem d201_28 : decode (m_code 201) 28 = .ok (.goto (-24), 3) := by decide +kernel
theorem d201_31 : decode (m_code 201) 31 = .ok (.iload_n 1, 1) := by decide +kernel
theorem d201_32 : decode (m_code 201) 32 = .ok (.ireturn, 1) := by decide +kernel
theorem d203_0 : decode (m_code 203) 0 = .ok (.iconst 0, 1) := by decide +kernel
theorem d203_1 : decode (m_code 203) 1 = .ok (.istore_n 1, 1) := by decide +kernel
theorem d203_2 : decode (m_code 203) 2 = .ok (.iconst 0, 1) := by decide +kernel
theorem d203_3 : decode (m_code 203) 3 = .ok (.istore_n 2, 1) := by decide +kernel
theorem d203_4 : decode (m_code 203) 4 = .ok (.iload_n 2, 1) := by decide +kernel
theorem d203_5 : decode (m_code 203) 5 = .ok (.aload_n 0, 1) := by decide +kernel
theorem d203_6 : decode (m_code 203) 6 = .ok (.getfield 27, 3) := by decide +kernel
theorem d203_9 : decode (m_code 203) 9 = .ok (.if_icmp .ge 23, 3) := by decide +kernel
theorem d203_12 : decode (m_code 203) 12 = .ok (.aload_n 0, 1) := by decide +kernel
theorem d203_13 : decode (m_code 203) 13 = .ok (.getfield 21, 3) := by decide +kernel
theorem d203_16 : decode (m_code 203) 16 = .ok (.iload_n 2, 1) := by decide +kernel
theorem d203_17 : decode (m_code 203) 17 = .ok (.iaload, 1) := by decide +kernel
theorem d203_18 : decode (m_code 203) 18 = .ok (.bipush (-5), 2) := by decide +kernel
theorem d203_20 : decode (m_code 203) 20 = .ok (.if_icmp .ne 6, 3) := by decide +kernel
theorem d203_23 : decode (m_code 203) 23 = .ok (.iinc 1 1, 3) := by decide +kernel
theorem d203_26 : decode (m_code 203) 26 = .ok (.iinc 2 1, 3) := by decide +kernel
theorem d203_29 : decode (m_code 203) 29 = .ok (.goto (-25), 3) := by decide +kernel
theorem d203_32 : decode (m_code 203) 32 = .ok (.iload_n 1, 1) := by decide +kernel
theorem d203_33 : decode (m_code 203) 33 = .ok (.ireturn, 1) := by decide +kernel
theorem d206_0 : decode (m_code 206) 0 = .ok (.iconst 0, 1) := by decide +kernel
theorem d206_1 : decode (m_code 206) 1 = .ok (.istore_n 1, 1) := by decide +kernel
theorem d206_2 : decode (m_code 206) 2 = .ok (.iconst 0, 1) := by decide +kernel
theorem d206_3 : decode (m_code 206) 3 = .ok (.istore_n 2, 1) := by decide +kernel
theorem d206_4 : decode (m_code 206) 4 = .ok (.iload_n 2, 1) := by decide +kernel
theorem d206_5 : decode (m_code 206) 5 = .ok (.aload_n 0, 1) := by decide +kernel
theorem d206_6 : decode (m_code 206) 6 = .ok (.getfield 39, 3) := by decide +kernel
theorem d206_9 : decode (m_code 206) 9 = .ok (.if_icmp .ge 18, 3) := by decide +kernel
theorem d206_12 : decode (m_code 206) 12 = .ok (.iload_n 1, 1) := by decide +kernel
theorem d206_13 : decode (m_code 206) 13 = .ok (.aload_n 0, 1) := by decide +kernel
theorem d206_14 : decode (m_code 206) 14 = .ok (.getfield 27, 3) := by decide +kernel
theorem d206_17 : decode (m_code 206) 17 = .ok (.iload_n 2, 1) := by decide +kernel
theorem d206_18 : decode (m_code 206) 18 = .ok (.iaload, 1) := by decide +kernel
theorem d206_19 : decode (m_code 206) 19 = .ok (.iadd, 1) := by decide +kernel
theorem d206_20 : decode (m_code 206) 20 = .ok (.istore_n 1, 1) := by decide +kernel
theorem d206_21 : decode (m_code 206) 21 = .ok (.iinc 2 1, 3) := by decide +kernel
theorem d206_24 : decode (m_code 206) 24 = .ok (.goto (-20), 3) := by decide +kernel
theorem d206_27 : decode (m_code 206) 27 = .ok (.iload_n 1, 1) := by decide +kernel
theorem d206_28 : decode (m_code 206) 28 = .ok (.ireturn, 1) := by decide +kernel
/-- how many of the first k numbers have a property -/
def cnt (p : Nat → Bool) : Nat → Nat
  | 0 => 0
  | k + 1 => cnt p k + (if p k = true then 1 else 0)
theorem cnt_t {p : Nat → Bool} {k : Nat} (h : p k = true) : cnt p (k + 1) = cnt p k + 1 := by rw [cnt, if_pos h]
theorem cnt_f {p : Nat → Bool} {k : Nat} (h : ¬ p k = true) : cnt p (k + 1) = cnt p k := by rw [cnt, if_neg h]; rfl
theorem cnt_le (p : Nat → Bool) (k : Nat) : cnt p k ≤ k := by
  induction k with
  | zero => exact Nat.le_refl 0
  | succ k ih =>
    rw [cnt]
    split <;> omega
def F_kb (M : Nat → Nat → Int32) (v : Int32) : Nat → Int32
  | 0 => nI 0
  | k + 1 => if M 18 k = v then F_kb M v k ||| (nI 1 <<< (nI k &&& 31)) else F_kb M v k
def F_rb (M : Nat → Nat → Int32) : Nat → Int32
  | 0 => nI 0
  | k + 1 => if M 20 k < 0 then F_rb M k else F_rb M k ||| (nI 1 <<< (M 20 k &&& 31))
def F_hu (M : Nat → Nat → Int32) : Nat → Int32
  | 0 => nI 0
  | k + 1 => F_hu M k + M 25 k
theorem u_countIn_l {X : mX} {h : mH} {B st : Nat} {M : Nat → Nat → Int32} (hM : Mus h B st M) {n : Nat} (hn : M 19 9 = nI n) (hn2 : n ≤ 4) {x : Int32} : ∀ (d : Nat) (k : Nat) (a : Nat), n - k = d → k ≤ n → a = cnt (fun k => decide (M 20 k = x)) k → m_wp X 91 4 [some (.ref (B + 19)), some (.int (x)), some (.int (nI a)), some (.int (nI k))] [] h (fun w h1 => w = some (.int (nI (cnt (fun k => decide (M 20 k = x)) n))) ∧ h1 = h) := by
  intro d
  induction d using Nat.strongRecOn with
  | ind d ih =>
    intro k a hd hk ha
    refine wp_iload_n d91_4 rfl ?_
    refine wp_aload_n d91_5 rfl ?_
    refine wp_getf (e := 39) (ci := 6) (k := 9) (nest := false) (v := .int (nI n)) d91_6 (by decide +kernel) (um_19 hM) (congrArg (fun z => some (Value.int z)) hn) ?_
    refine wp_icmp_ge d91_9 (tgt := 31) (by decide) (fun hc9 => ?_) (fun hc9 => ?_)
    · have hc9 : n ≤ k := (nI_leI (by omega) (by omega)).mp hc9
      refine wp_iload_n d91_31 rfl ?_
      refine wp_iret d91_32 (by decide +kernel) ?_
      exact ⟨by rw [show n = k by omega, ha], rfl⟩
    · have hc9 : ¬ (n ≤ k) := fun z => hc9 ((nI_leI (by omega) (by omega)).mpr z)
      refine wp_aload_n d91_12 rfl ?_
      refine wp_getf (e := 9) (ci := 6) (k := 0) (nest := false) d91_13 (by decide +kernel) (um_19 hM) rfl ?_
      refine wp_iload_n d91_16 rfl ?_
      refine wp_iald d91_17 (um_20 hM) (nI_in (by omega) (by decide)) (v := M 20 k) ((congrArg (M 20) (nI_nat (by omega))).trans rfl) ?_
      refine wp_iload_n d91_18 rfl ?_
      refine wp_icmp_ne d91_19 (tgt := 25) (by decide) (fun hc19 => ?_) (fun hc19 => ?_)
      · refine wp_iinc d91_25 rfl (v := nI (k + 1)) (nI_add _ 1) (Nat.le_of_ble_eq_true rfl) rfl ?_
        refine wp_goto d91_28 (tgt := 4) (by decide) ?_
        exact ih (n - (k + 1)) (by omega) (k + 1) _ rfl (by omega) (by rw [ha, cnt_f (p := fun k => decide (M 20 k = x)) (k := k) (fun q => hc19 (of_decide_eq_true q))])
      · refine wp_iinc d91_22 rfl (v := nI (a + 1)) (nI_add _ 1) (Nat.le_of_ble_eq_true rfl) rfl ?_
        refine wp_iinc d91_25 rfl (v := nI (k + 1)) (nI_add _ 1) (Nat.le_of_ble_eq_true rfl) rfl ?_
        refine wp_goto d91_28 (tgt := 4) (by decide) ?_
        exact ih (n - (k + 1)) (by omega) (k + 1) _ rfl (by omega) (by rw [ha, cnt_t (p := fun k => decide (M 20 k = x)) (k := k) (decide_eq_true hc19)])
theorem u_countIn {X : mX} {h : mH} {B st : Nat} {M : Nat → Nat → Int32} (hM : Mus h B st M) {n : Nat} (hn : M 19 9 = nI n) (hn2 : n ≤ 4) {x : Int32} : Tells X 91 [.ref (B + 19), .int (x)] h (nI (cnt (fun k => decide (M 20 k = x)) n)) := by
  refine wp_iconst d91_0 (v := nI 0) (by decide) ?_
  refine wp_istore_n d91_1 (Nat.le_of_ble_eq_true rfl) rfl ?_
  refine wp_iconst d91_2 (v := nI 0) (by decide) ?_
  refine wp_istore_n d91_3 (Nat.le_of_ble_eq_true rfl) rfl ?_
  exact u_countIn_l hM hn hn2 _ 0 _ rfl (by omega) rfl
theorem u_troubledCount_l {X : mX} {h : mH} {B st : Nat} {M : Nat → Nat → Int32} (hM : Mus h B st M) {n : Nat} (hn : M 29 5 = nI n) (hn2 : n ≤ 10) : ∀ (d : Nat) (k : Nat) (a : Nat), n - k = d → k ≤ n → a = cnt (fun k => decide (M 33 k = nI 1)) k → m_wp X 201 4 [some (.ref (B + 29)), some (.int (nI a)), some (.int (nI k))] [] h (fun w h1 => w = some (.int (nI (cnt (fun k => decide (M 33 k = nI 1)) n))) ∧ h1 = h) := by
  intro d
  induction d using Nat.strongRecOn with
  | ind d ih =>
    intro k a hd hk ha
    refine wp_iload_n d201_4 rfl ?_
    refine wp_aload_n d201_5 rfl ?_
    refine wp_getf (e := 27) (ci := 7) (k := 5) (nest := false) (v := .int (nI n)) d201_6 (by decide +kernel) (um_29 hM) (congrArg (fun z => some (Value.int z)) hn) ?_
    refine wp_icmp_ge d201_9 (tgt := 31) (by decide) (fun hc9 => ?_) (fun hc9 => ?_)
    · have hc9 : n ≤ k := (nI_leI (by omega) (by omega)).mp hc9
      refine wp_iload_n d201_31 rfl ?_
      refine wp_iret d201_32 (by decide +kernel) ?_
      exact ⟨by rw [show n = k by omega, ha], rfl⟩
    · have hc9 : ¬ (n ≤ k) := fun z => hc9 ((nI_leI (by omega) (by omega)).mpr z)
      refine wp_aload_n d201_12 rfl ?_
      refine wp_getf (e := 21) (ci := 7) (k := 3) (nest := false) d201_13 (by decide +kernel) (um_29 hM) rfl ?_
      refine wp_iload_n d201_16 rfl ?_
      refine wp_iald d201_17 (um_33 hM) (nI_in (by omega) (by decide)) (v := M 33 k) ((congrArg (M 33) (nI_nat (by omega))).trans rfl) ?_
      refine wp_iconst d201_18 (v := nI 1) (by decide) ?_
      refine wp_icmp_ne d201_19 (tgt := 25) (by decide) (fun hc19 => ?_) (fun hc19 => ?_)
      · refine wp_iinc d201_25 rfl (v := nI (k + 1)) (nI_add _ 1) (Nat.le_of_ble_eq_true rfl) rfl ?_
        refine wp_goto d201_28 (tgt := 4) (by decide) ?_
        exact ih (n - (k + 1)) (by omega) (k + 1) _ rfl (by omega) (by rw [ha, cnt_f (p := fun k => decide (M 33 k = nI 1)) (k := k) (fun q => hc19 (of_decide_eq_true q))])
      · refine wp_iinc d201_22 rfl (v := nI (a + 1)) (nI_add _ 1) (Nat.le_of_ble_eq_true rfl) rfl ?_
        refine wp_iinc d201_25 rfl (v := nI (k + 1)) (nI_add _ 1) (Nat.le_of_ble_eq_true rfl) rfl ?_
        refine wp_goto d201_28 (tgt := 4) (by decide) ?_
        exact ih (n - (k + 1)) (by omega) (k + 1) _ rfl (by omega) (by rw [ha, cnt_t (p := fun k => decide (M 33 k = nI 1)) (k := k) (decide_eq_true hc19)])
theorem u_troubledCount {X : mX} {h : mH} {B st : Nat} {M : Nat → Nat → Int32} (hM : Mus h B st M) {n : Nat} (hn : M 29 5 = nI n) (hn2 : n ≤ 10) : Tells X 201 [.ref (B + 29)] h (nI (cnt (fun k => decide (M 33 k = nI 1)) n)) := by
  refine wp_iconst d201_0 (v := nI 0) (by decide) ?_
  refine wp_istore_n d201_1 (Nat.le_of_ble_eq_true rfl) rfl ?_
  refine wp_iconst d201_2 (v := nI 0) (by decide) ?_
  refine wp_istore_n d201_3 (Nat.le_of_ble_eq_true rfl) rfl ?_
  exact u_troubledCount_l hM hn hn2 _ 0 _ rfl (by omega) rfl
theorem u_openCountA_l {X : mX} {h : mH} {B st : Nat} {M : Nat → Nat → Int32} (hM : Mus h B st M) {n : Nat} (hn : M 35 5 = nI n) (hn2 : n ≤ 40) : ∀ (d : Nat) (k : Nat) (a : Nat), n - k = d → k ≤ n → a = cnt (fun k => decide (M 39 k = (-5 : Int32))) k → m_wp X 203 4 [some (.ref (B + 35)), some (.int (nI a)), some (.int (nI k))] [] h (fun w h1 => w = some (.int (nI (cnt (fun k => decide (M 39 k = (-5 : Int32))) n))) ∧ h1 = h) := by
  intro d
  induction d using Nat.strongRecOn with
  | ind d ih =>
    intro k a hd hk ha
    refine wp_iload_n d203_4 rfl ?_
    refine wp_aload_n d203_5 rfl ?_
    refine wp_getf (e := 27) (ci := 8) (k := 5) (nest := false) (v := .int (nI n)) d203_6 (by decide +kernel) (um_35 hM) (congrArg (fun z => some (Value.int z)) hn) ?_
    refine wp_icmp_ge d203_9 (tgt := 32) (by decide) (fun hc9 => ?_) (fun hc9 => ?_)
    · have hc9 : n ≤ k := (nI_leI (by omega) (by omega)).mp hc9
      refine wp_iload_n d203_32 rfl ?_
      refine wp_iret d203_33 (by decide +kernel) ?_
      exact ⟨by rw [show n = k by omega, ha], rfl⟩
    · have hc9 : ¬ (n ≤ k) := fun z => hc9 ((nI_leI (by omega) (by omega)).mpr z)
      refine wp_aload_n d203_12 rfl ?_
      refine wp_getf (e := 21) (ci := 8) (k := 3) (nest := false) d203_13 (by decide +kernel) (um_35 hM) rfl ?_
      refine wp_iload_n d203_16 rfl ?_
      refine wp_iald d203_17 (um_39 hM) (nI_in (by omega) (by decide)) (v := M 39 k) ((congrArg (M 39) (nI_nat (by omega))).trans rfl) ?_
      refine wp_bipush d203_18 (v := (-5 : Int32)) (by decide) ?_
      refine wp_icmp_ne d203_20 (tgt := 26) (by decide) (fun hc20 => ?_) (fun hc20 => ?_)
      · refine wp_iinc d203_26 rfl (v := nI (k + 1)) (nI_add _ 1) (Nat.le_of_ble_eq_true rfl) rfl ?_
        refine wp_goto d203_29 (tgt := 4) (by decide) ?_
        exact ih (n - (k + 1)) (by omega) (k + 1) _ rfl (by omega) (by rw [ha, cnt_f (p := fun k => decide (M 39 k = (-5 : Int32))) (k := k) (fun q => hc20 (of_decide_eq_true q))])
      · refine wp_iinc d203_23 rfl (v := nI (a + 1)) (nI_add _ 1) (Nat.le_of_ble_eq_true rfl) rfl ?_
        refine wp_iinc d203_26 rfl (v := nI (k + 1)) (nI_add _ 1) (Nat.le_of_ble_eq_true rfl) rfl ?_
        refine wp_goto d203_29 (tgt := 4) (by decide) ?_
        exact ih (n - (k + 1)) (by omega) (k + 1) _ rfl (by omega) (by rw [ha, cnt_t (p := fun k => decide (M 39 k = (-5 : Int32))) (k := k) (decide_eq_true hc20)])
theorem u_openCountA {X : mX} {h : mH} {B st : Nat} {M : Nat → Nat → Int32} (hM : Mus h B st M) {n : Nat} (hn : M 35 5 = nI n) (hn2 : n ≤ 40) : Tells X 203 [.ref (B + 35)] h (nI (cnt (fun k => decide (M 39 k = (-5 : Int32))) n)) := by
  refine wp_iconst d203_0 (v := nI 0) (by decide) ?_
  refine wp_istore_n d203_1 (Nat.le_of_ble_eq_true rfl) rfl ?_
  refine wp_iconst d203_2 (v := nI 0) (by decide) ?_
  refine wp_istore_n d203_3 (Nat.le_of_ble_eq_true rfl) rfl ?_
  exact u_openCountA_l hM hn hn2 _ 0 _ rfl (by omega) rfl
theorem u_countInW_l {X : mX} {h : mH} {B st : Nat} {M : Nat → Nat → Int32} (hM : Mus h B st M) {n : Nat} (hn : M 29 5 = nI n) (hn2 : n ≤ 10) {x : Int32} : ∀ (d : Nat) (k : Nat) (a : Nat), n - k = d → k ≤ n → a = cnt (fun k => decide (M 31 k = x ∧ ¬ M 33 k = nI 2)) k → m_wp X 168 4 [some (.ref (B + 29)), some (.int (x)), some (.int (nI a)), some (.int (nI k))] [] h (fun w h1 => w = some (.int (nI (cnt (fun k => decide (M 31 k = x ∧ ¬ M 33 k = nI 2)) n))) ∧ h1 = h) := by
  intro d
  induction d using Nat.strongRecOn with
  | ind d ih =>
    intro k a hd hk ha
    refine wp_iload_n d168_4 rfl ?_
    refine wp_aload_n d168_5 rfl ?_
    refine wp_getf (e := 27) (ci := 7) (k := 5) (nest := false) (v := .int (nI n)) d168_6 (by decide +kernel) (um_29 hM) (congrArg (fun z => some (Value.int z)) hn) ?_
    refine wp_icmp_ge d168_9 (tgt := 41) (by decide) (fun hc9 => ?_) (fun hc9 => ?_)
    · have hc9 : n ≤ k := (nI_leI (by omega) (by omega)).mp hc9
      refine wp_iload_n d168_41 rfl ?_
      refine wp_iret d168_42 (by decide +kernel) ?_
      exact ⟨by rw [show n = k by omega, ha], rfl⟩
    · have hc9 : ¬ (n ≤ k) := fun z => hc9 ((nI_leI (by omega) (by omega)).mpr z)
      refine wp_aload_n d168_12 rfl ?_
      refine wp_getf (e := 15) (ci := 7) (k := 1) (nest := false) d168_13 (by decide +kernel) (um_29 hM) rfl ?_
      refine wp_iload_n d168_16 rfl ?_
      refine wp_iald d168_17 (um_31 hM) (nI_in (by omega) (by decide)) (v := M 31 k) ((congrArg (M 31) (nI_nat (by omega))).trans rfl) ?_
      refine wp_iload_n d168_18 rfl ?_
      refine wp_icmp_ne d168_19 (tgt := 35) (by decide) (fun hc19 => ?_) (fun hc19 => ?_)
      · refine wp_iinc d168_35 rfl (v := nI (k + 1)) (nI_add _ 1) (Nat.le_of_ble_eq_true rfl) rfl ?_
        refine wp_goto d168_38 (tgt := 4) (by decide) ?_
        exact ih (n - (k + 1)) (by omega) (k + 1) _ rfl (by omega) (by rw [ha, cnt_f (p := fun k => decide (M 31 k = x ∧ ¬ M 33 k = nI 2)) (k := k) (fun q => hc19 (of_decide_eq_true q).1)])
      · refine wp_aload_n d168_22 rfl ?_
        refine wp_getf (e := 21) (ci := 7) (k := 3) (nest := false) d168_23 (by decide +kernel) (um_29 hM) rfl ?_
        refine wp_iload_n d168_26 rfl ?_
        refine wp_iald d168_27 (um_33 hM) (nI_in (by omega) (by decide)) (v := M 33 k) ((congrArg (M 33) (nI_nat (by omega))).trans rfl) ?_
        refine wp_iconst d168_28 (v := nI 2) (by decide) ?_
        refine wp_icmp_eq d168_29 (tgt := 35) (by decide) (fun hc29 => ?_) (fun hc29 => ?_)
        · refine wp_iinc d168_35 rfl (v := nI (k + 1)) (nI_add _ 1) (Nat.le_of_ble_eq_true rfl) rfl ?_
          refine wp_goto d168_38 (tgt := 4) (by decide) ?_
          exact ih (n - (k + 1)) (by omega) (k + 1) _ rfl (by omega) (by rw [ha, cnt_f (p := fun k => decide (M 31 k = x ∧ ¬ M 33 k = nI 2)) (k := k) (fun q => (of_decide_eq_true q).2 hc29)])
        · refine wp_iinc d168_32 rfl (v := nI (a + 1)) (nI_add _ 1) (Nat.le_of_ble_eq_true rfl) rfl ?_
          refine wp_iinc d168_35 rfl (v := nI (k + 1)) (nI_add _ 1) (Nat.le_of_ble_eq_true rfl) rfl ?_
          refine wp_goto d168_38 (tgt := 4) (by decide) ?_
          exact ih (n - (k + 1)) (by omega) (k + 1) _ rfl (by omega) (by rw [ha, cnt_t (p := fun k => decide (M 31 k = x ∧ ¬ M 33 k = nI 2)) (k := k) (decide_eq_true ⟨hc19, hc29⟩)])
theorem u_countInW {X : mX} {h : mH} {B st : Nat} {M : Nat → Nat → Int32} (hM : Mus h B st M) {n : Nat} (hn : M 29 5 = nI n) (hn2 : n ≤ 10) {x : Int32} : Tells X 168 [.ref (B + 29), .int (x)] h (nI (cnt (fun k => decide (M 31 k = x ∧ ¬ M 33 k = nI 2)) n)) := by
  refine wp_iconst d168_0 (v := nI 0) (by decide) ?_
  refine wp_istore_n d168_1 (Nat.le_of_ble_eq_true rfl) rfl ?_
  refine wp_iconst d168_2 (v := nI 0) (by decide) ?_
  refine wp_istore_n d168_3 (Nat.le_of_ble_eq_true rfl) rfl ?_
  exact u_countInW_l hM hn hn2 _ 0 _ rfl (by omega) rfl
theorem u_openIn_l {X : mX} {h : mH} {B st : Nat} {M : Nat → Nat → Int32} (hM : Mus h B st M) {n : Nat} (hn : M 35 5 = nI n) (hn2 : n ≤ 40) {x : Int32} : ∀ (d : Nat) (k : Nat) (a : Nat), n - k = d → k ≤ n → a = cnt (fun k => decide (M 37 k = x ∧ M 39 k = (-5 : Int32))) k → m_wp X 169 4 [some (.ref (B + 35)), some (.int (x)), some (.int (nI a)), some (.int (nI k))] [] h (fun w h1 => w = some (.int (nI (cnt (fun k => decide (M 37 k = x ∧ M 39 k = (-5 : Int32))) n))) ∧ h1 = h) := by
  intro d
  induction d using Nat.strongRecOn with
  | ind d ih =>
    intro k a hd hk ha
    refine wp_iload_n d169_4 rfl ?_
    refine wp_aload_n d169_5 rfl ?_
    refine wp_getf (e := 27) (ci := 8) (k := 5) (nest := false) (v := .int (nI n)) d169_6 (by decide +kernel) (um_35 hM) (congrArg (fun z => some (Value.int z)) hn) ?_
    refine wp_icmp_ge d169_9 (tgt := 42) (by decide) (fun hc9 => ?_) (fun hc9 => ?_)
    · have hc9 : n ≤ k := (nI_leI (by omega) (by omega)).mp hc9
      refine wp_iload_n d169_42 rfl ?_
      refine wp_iret d169_43 (by decide +kernel) ?_
      exact ⟨by rw [show n = k by omega, ha], rfl⟩
    · have hc9 : ¬ (n ≤ k) := fun z => hc9 ((nI_leI (by omega) (by omega)).mpr z)
      refine wp_aload_n d169_12 rfl ?_
      refine wp_getf (e := 15) (ci := 8) (k := 1) (nest := false) d169_13 (by decide +kernel) (um_35 hM) rfl ?_
      refine wp_iload_n d169_16 rfl ?_
      refine wp_iald d169_17 (um_37 hM) (nI_in (by omega) (by decide)) (v := M 37 k) ((congrArg (M 37) (nI_nat (by omega))).trans rfl) ?_
      refine wp_iload_n d169_18 rfl ?_
      refine wp_icmp_ne d169_19 (tgt := 36) (by decide) (fun hc19 => ?_) (fun hc19 => ?_)
      · refine wp_iinc d169_36 rfl (v := nI (k + 1)) (nI_add _ 1) (Nat.le_of_ble_eq_true rfl) rfl ?_
        refine wp_goto d169_39 (tgt := 4) (by decide) ?_
        exact ih (n - (k + 1)) (by omega) (k + 1) _ rfl (by omega) (by rw [ha, cnt_f (p := fun k => decide (M 37 k = x ∧ M 39 k = (-5 : Int32))) (k := k) (fun q => hc19 (of_decide_eq_true q).1)])
      · refine wp_aload_n d169_22 rfl ?_
        refine wp_getf (e := 21) (ci := 8) (k := 3) (nest := false) d169_23 (by decide +kernel) (um_35 hM) rfl ?_
        refine wp_iload_n d169_26 rfl ?_
        refine wp_iald d169_27 (um_39 hM) (nI_in (by omega) (by decide)) (v := M 39 k) ((congrArg (M 39) (nI_nat (by omega))).trans rfl) ?_
        refine wp_bipush d169_28 (v := (-5 : Int32)) (by decide) ?_
        refine wp_icmp_ne d169_30 (tgt := 36) (by decide) (fun hc30 => ?_) (fun hc30 => ?_)
        · refine wp_iinc d169_36 rfl (v := nI (k + 1)) (nI_add _ 1) (Nat.le_of_ble_eq_true rfl) rfl ?_
          refine wp_goto d169_39 (tgt := 4) (by decide) ?_
          exact ih (n - (k + 1)) (by omega) (k + 1) _ rfl (by omega) (by rw [ha, cnt_f (p := fun k => decide (M 37 k = x ∧ M 39 k = (-5 : Int32))) (k := k) (fun q => hc30 (of_decide_eq_true q).2)])
        · refine wp_iinc d169_33 rfl (v := nI (a + 1)) (nI_add _ 1) (Nat.le_of_ble_eq_true rfl) rfl ?_
          refine wp_iinc d169_36 rfl (v := nI (k + 1)) (nI_add _ 1) (Nat.le_of_ble_eq_true rfl) rfl ?_
          refine wp_goto d169_39 (tgt := 4) (by decide) ?_
          exact ih (n - (k + 1)) (by omega) (k + 1) _ rfl (by omega) (by rw [ha, cnt_t (p := fun k => decide (M 37 k = x ∧ M 39 k = (-5 : Int32))) (k := k) (decide_eq_true ⟨hc19, hc30⟩)])
theorem u_openIn {X : mX} {h : mH} {B st : Nat} {M : Nat → Nat → Int32} (hM : Mus h B st M) {n : Nat} (hn : M 35 5 = nI n) (hn2 : n ≤ 40) {x : Int32} : Tells X 169 [.ref (B + 35), .int (x)] h (nI (cnt (fun k => decide (M 37 k = x ∧ M 39 k = (-5 : Int32))) n)) := by
  refine wp_iconst d169_0 (v := nI 0) (by decide) ?_
  refine wp_istore_n d169_1 (Nat.le_of_ble_eq_true rfl) rfl ?_
  refine wp_iconst d169_2 (v := nI 0) (by decide) ?_
  refine wp_istore_n d169_3 (Nat.le_of_ble_eq_true rfl) rfl ?_
  exact u_openIn_l hM hn hn2 _ 0 _ rfl (by omega) rfl
theorem u_bitsOf_l {X : mX} {h : mH} {B st : Nat} {M : Nat → Nat → Int32} (hM : Mus h B st M) {x : Int32} : ∀ (d : Nat) (k : Nat) (a : Int32), 8 - k = d → k ≤ 8 → a = F_kb M x k → m_wp X 69 4 [some (.ref (B + 17)), some (.int (x)), some (.int (a)), some (.int (nI k))] [] h (fun w h1 => w = some (.int (F_kb M x 8)) ∧ h1 = h) := by
  intro d
  induction d using Nat.strongRecOn with
  | ind d ih =>
    intro k a hd hk ha
    refine wp_iload_n d69_4 rfl ?_
    refine wp_bipush d69_5 (v := nI 8) (by decide) ?_
    refine wp_icmp_ge d69_7 (tgt := 32) (by decide) (fun hc7 => ?_) (fun hc7 => ?_)
    · have hc7 : 8 ≤ k := (nI_leI (by omega) (by omega)).mp hc7
      refine wp_iload_n d69_32 rfl ?_
      refine wp_iret d69_33 (by decide +kernel) ?_
      exact ⟨by rw [show 8 = k by omega, ha], rfl⟩
    · have hc7 : ¬ (8 ≤ k) := fun z => hc7 ((nI_leI (by omega) (by omega)).mpr z)
      refine wp_aload_n d69_10 rfl ?_
      refine wp_getf (e := 9) (ci := 5) (k := 0) (nest := false) d69_11 (by decide +kernel) (um_17 hM) rfl ?_
      refine wp_iload_n d69_14 rfl ?_
      refine wp_iald d69_15 (um_18 hM) (nI_in (by omega) (by decide)) (v := M 18 k) ((congrArg (M 18) (nI_nat (by omega))).trans rfl) ?_
      refine wp_iload_n d69_16 rfl ?_
      refine wp_icmp_ne d69_17 (tgt := 26) (by decide) (fun hc17 => ?_) (fun hc17 => ?_)
      · refine wp_iinc d69_26 rfl (v := nI (k + 1)) (nI_add _ 1) (Nat.le_of_ble_eq_true rfl) rfl ?_
        refine wp_goto d69_29 (tgt := 4) (by decide) ?_
        exact ih (8 - (k + 1)) (by omega) (k + 1) _ rfl (by omega) (by rw [ha, F_kb, if_neg hc17])
      · refine wp_iload_n d69_20 rfl ?_
        refine wp_iconst d69_21 (v := nI 1) (by decide) ?_
        refine wp_iload_n d69_22 rfl ?_
        refine wp_ishl d69_23 ?_
        refine wp_ior d69_24 ?_
        refine wp_istore_n d69_25 (Nat.le_of_ble_eq_true rfl) rfl ?_
        refine wp_iinc d69_26 rfl (v := nI (k + 1)) (nI_add _ 1) (Nat.le_of_ble_eq_true rfl) rfl ?_
        refine wp_goto d69_29 (tgt := 4) (by decide) ?_
        exact ih (8 - (k + 1)) (by omega) (k + 1) _ rfl (by omega) (by rw [ha, F_kb, if_pos hc17])
theorem u_bitsOf {X : mX} {h : mH} {B st : Nat} {M : Nat → Nat → Int32} (hM : Mus h B st M) {x : Int32} : Tells X 69 [.ref (B + 17), .int (x)] h (F_kb M x 8) := by
  refine wp_iconst d69_0 (v := nI 0) (by decide) ?_
  refine wp_istore_n d69_1 (Nat.le_of_ble_eq_true rfl) rfl ?_
  refine wp_iconst d69_2 (v := nI 0) (by decide) ?_
  refine wp_istore_n d69_3 (Nat.le_of_ble_eq_true rfl) rfl ?_
  exact u_bitsOf_l hM _ 0 _ rfl (by omega) rfl
theorem u_roomBits_l {X : mX} {h : mH} {B st : Nat} {M : Nat → Nat → Int32} (hM : Mus h B st M) {n : Nat} (hn : M 19 9 = nI n) (hn2 : n ≤ 4) : ∀ (d : Nat) (k : Nat) (a : Int32), n - k = d → k ≤ n → a = F_rb M k → m_wp X 120 4 [some (.ref (B + 19)), some (.int (a)), some (.int (nI k))] [] h (fun w h1 => w = some (.int (F_rb M n)) ∧ h1 = h) := by
  intro d
  induction d using Nat.strongRecOn with
  | ind d ih =>
    intro k a hd hk ha
    refine wp_iload_n d120_4 rfl ?_
    refine wp_aload_n d120_5 rfl ?_
    refine wp_getf (e := 39) (ci := 6) (k := 9) (nest := false) (v := .int (nI n)) d120_6 (by decide +kernel) (um_19 hM) (congrArg (fun z => some (Value.int z)) hn) ?_
    refine wp_icmp_ge d120_9 (tgt := 38) (by decide) (fun hc9 => ?_) (fun hc9 => ?_)
    · have hc9 : n ≤ k := (nI_leI (by omega) (by omega)).mp hc9
      refine wp_iload_n d120_38 rfl ?_
      refine wp_iret d120_39 (by decide +kernel) ?_
      exact ⟨by rw [show n = k by omega, ha], rfl⟩
    · have hc9 : ¬ (n ≤ k) := fun z => hc9 ((nI_leI (by omega) (by omega)).mpr z)
      refine wp_aload_n d120_12 rfl ?_
      refine wp_getf (e := 9) (ci := 6) (k := 0) (nest := false) d120_13 (by decide +kernel) (um_19 hM) rfl ?_
      refine wp_iload_n d120_16 rfl ?_
      refine wp_iald d120_17 (um_20 hM) (nI_in (by omega) (by decide)) (v := M 20 k) ((congrArg (M 20) (nI_nat (by omega))).trans rfl) ?_
      refine wp_if_lt d120_18 (tgt := 32) (by decide) (fun hc18 => ?_) (fun hc18 => ?_)
      · refine wp_iinc d120_32 rfl (v := nI (k + 1)) (nI_add _ 1) (Nat.le_of_ble_eq_true rfl) rfl ?_
        refine wp_goto d120_35 (tgt := 4) (by decide) ?_
        exact ih (n - (k + 1)) (by omega) (k + 1) _ rfl (by omega) (by rw [ha, F_rb, if_pos hc18])
      · refine wp_iload_n d120_21 rfl ?_
        refine wp_iconst d120_22 (v := nI 1) (by decide) ?_
        refine wp_aload_n d120_23 rfl ?_
        refine wp_getf (e := 9) (ci := 6) (k := 0) (nest := false) d120_24 (by decide +kernel) (um_19 hM) rfl ?_
        refine wp_iload_n d120_27 rfl ?_
        refine wp_iald d120_28 (um_20 hM) (nI_in (by omega) (by decide)) (v := M 20 k) ((congrArg (M 20) (nI_nat (by omega))).trans rfl) ?_
        refine wp_ishl d120_29 ?_
        refine wp_ior d120_30 ?_
        refine wp_istore_n d120_31 (Nat.le_of_ble_eq_true rfl) rfl ?_
        refine wp_iinc d120_32 rfl (v := nI (k + 1)) (nI_add _ 1) (Nat.le_of_ble_eq_true rfl) rfl ?_
        refine wp_goto d120_35 (tgt := 4) (by decide) ?_
        exact ih (n - (k + 1)) (by omega) (k + 1) _ rfl (by omega) (by rw [ha, F_rb, if_neg hc18])
theorem u_roomBits {X : mX} {h : mH} {B st : Nat} {M : Nat → Nat → Int32} (hM : Mus h B st M) {n : Nat} (hn : M 19 9 = nI n) (hn2 : n ≤ 4) : Tells X 120 [.ref (B + 19)] h (F_rb M n) := by
  refine wp_iconst d120_0 (v := nI 0) (by decide) ?_
  refine wp_istore_n d120_1 (Nat.le_of_ble_eq_true rfl) rfl ?_
  refine wp_iconst d120_2 (v := nI 0) (by decide) ?_
  refine wp_istore_n d120_3 (Nat.le_of_ble_eq_true rfl) rfl ?_
  exact u_roomBits_l hM hn hn2 _ 0 _ rfl (by omega) rfl
theorem u_haltCount_l {X : mX} {h : mH} {B st : Nat} {M : Nat → Nat → Int32} (hM : Mus h B st M) {n : Nat} (hn : M 19 9 = nI n) (hn2 : n ≤ 4) : ∀ (d : Nat) (k : Nat) (a : Int32), n - k = d → k ≤ n → a = F_hu M k → m_wp X 206 4 [some (.ref (B + 19)), some (.int (a)), some (.int (nI k))] [] h (fun w h1 => w = some (.int (F_hu M n)) ∧ h1 = h) := by
  intro d
  induction d using Nat.strongRecOn with
  | ind d ih =>
    intro k a hd hk ha
    refine wp_iload_n d206_4 rfl ?_
    refine wp_aload_n d206_5 rfl ?_
    refine wp_getf (e := 39) (ci := 6) (k := 9) (nest := false) (v := .int (nI n)) d206_6 (by decide +kernel) (um_19 hM) (congrArg (fun z => some (Value.int z)) hn) ?_
    refine wp_icmp_ge d206_9 (tgt := 27) (by decide) (fun hc9 => ?_) (fun hc9 => ?_)
    · have hc9 : n ≤ k := (nI_leI (by omega) (by omega)).mp hc9
      refine wp_iload_n d206_27 rfl ?_
      refine wp_iret d206_28 (by decide +kernel) ?_
      exact ⟨by rw [show n = k by omega, ha], rfl⟩
    · have hc9 : ¬ (n ≤ k) := fun z => hc9 ((nI_leI (by omega) (by omega)).mpr z)
      refine wp_iload_n d206_12 rfl ?_
      refine wp_aload_n d206_13 rfl ?_
      refine wp_getf (e := 27) (ci := 6) (k := 5) (nest := false) d206_14 (by decide +kernel) (um_19 hM) rfl ?_
      refine wp_iload_n d206_17 rfl ?_
      refine wp_iald d206_18 (um_25 hM) (nI_in (by omega) (by decide)) (v := M 25 k) ((congrArg (M 25) (nI_nat (by omega))).trans rfl) ?_
      refine wp_iadd d206_19 ?_
      refine wp_istore_n d206_20 (Nat.le_of_ble_eq_true rfl) rfl ?_
      refine wp_iinc d206_21 rfl (v := nI (k + 1)) (nI_add _ 1) (Nat.le_of_ble_eq_true rfl) rfl ?_
      refine wp_goto d206_24 (tgt := 4) (by decide) ?_
      exact ih (n - (k + 1)) (by omega) (k + 1) _ rfl (by omega) (by rw [ha, F_hu])
theorem u_haltCount {X : mX} {h : mH} {B st : Nat} {M : Nat → Nat → Int32} (hM : Mus h B st M) {n : Nat} (hn : M 19 9 = nI n) (hn2 : n ≤ 4) : Tells X 206 [.ref (B + 19)] h (F_hu M n) := by
  refine wp_iconst d206_0 (v := nI 0) (by decide) ?_
  refine wp_istore_n d206_1 (Nat.le_of_ble_eq_true rfl) rfl ?_
  refine wp_iconst d206_2 (v := nI 0) (by decide) ?_
  refine wp_istore_n d206_3 (Nat.le_of_ble_eq_true rfl) rfl ?_
  exact u_haltCount_l hM hn hn2 _ 0 _ rfl (by omega) rfl
theorem u_countOfK {X : mX} {h : mH} {B st : Nat} {M : Nat → Nat → Int32} (hM : Mus h B st M) (x : Int32) : Tells X 68 [.ref (B + 17), .int (x)] h ((F_bc (F_kb M x 8))) := by
  refine wp_aload_n d68_0 rfl ?_
  refine wp_iload_n d68_1 rfl ?_
  refine wp_invvT (e := 31) (j2 := 69) (n := 1) d68_2 (by decide +kernel) (by decide +kernel) rfl rfl rfl (um_17 hM) (by decide +kernel) (Nat.le_of_ble_eq_true rfl) rfl rfl (Nat.le_of_ble_eq_true rfl) (by decide +kernel) (u_bitsOf hM (x := x)) ?_
  refine wp_invsT (e := 35) (j2 := 50) (n := 1) d68_5 (by decide +kernel) (by decide +kernel) rfl rfl rfl (Nat.le_of_ble_eq_true rfl) (Nat.le_of_ble_eq_true rfl) rfl rfl (Nat.le_of_ble_eq_true rfl) (by decide +kernel) (s_bitCount ((F_kb M x 8))) ?_
  refine wp_iret d68_8 (by decide +kernel) ?_
  exact ⟨rfl, rfl⟩
theorem u_outCount {X : mX} {h : mH} {B st : Nat} {M : Nat → Nat → Int32} (hM : Mus h B st M)  : Tells X 138 [.ref (B + 17)] h (((nI 8) - (F_bc (F_kb M (-5 : Int32) 8)))) := by
  refine wp_bipush d138_0 (v := nI 8) (by decide) ?_
  refine wp_aload_n d138_2 rfl ?_
  refine wp_bipush d138_3 (v := (-5 : Int32)) (by decide) ?_
  refine wp_invvT (e := 31) (j2 := 69) (n := 1) d138_5 (by decide +kernel) (by decide +kernel) rfl rfl rfl (um_17 hM) (by decide +kernel) (Nat.le_of_ble_eq_true rfl) rfl rfl (Nat.le_of_ble_eq_true rfl) (by decide +kernel) (u_bitsOf hM (x := (-5 : Int32))) ?_
  refine wp_invsT (e := 35) (j2 := 50) (n := 1) d138_8 (by decide +kernel) (by decide +kernel) rfl rfl rfl (Nat.le_of_ble_eq_true rfl) (Nat.le_of_ble_eq_true rfl) rfl rfl (Nat.le_of_ble_eq_true rfl) (by decide +kernel) (s_bitCount ((F_kb M (-5 : Int32) 8))) ?_
  refine wp_isub d138_11 ?_
  refine wp_iret d138_12 (by decide +kernel) ?_
  exact ⟨rfl, rfl⟩
theorem u_raisedCount {X : mX} {h : mH} {B st : Nat} {M : Nat → Nat → Int32} (hM : Mus h B st M)  : Tells X 107 [.ref (B + 35)] h (((M 35 5) + (M 35 6))) := by
  refine wp_aload_n d107_0 rfl ?_
  refine wp_getf (e := 27) (ci := 8) (k := 5) (nest := false) d107_1 (by decide +kernel) (um_35 hM) rfl ?_
  refine wp_aload_n d107_4 rfl ?_
  refine wp_getf (e := 31) (ci := 8) (k := 6) (nest := false) d107_5 (by decide +kernel) (um_35 hM) rfl ?_
  refine wp_iadd d107_8 ?_
  refine wp_iret d107_9 (by decide +kernel) ?_
  exact ⟨rfl, rfl⟩
theorem u_between_no_l {X : mX} {h : mH} {B st : Nat} {M : Nat → Nat → Int32} (hM : Mus h B st M) {n : Nat} (hn : M 8 6 = nI n) (hn2 : n ≤ 20) {x y : Int32} (hno : ∀ k, k < n → ¬ ((M 9 k = x ∧ M 10 k = y) ∨ (M 9 k = y ∧ M 10 k = x))) : ∀ (d : Nat) (k : Nat), n - k = d → k ≤ n → m_wp X 38 2 [some (.ref (B + 8)), some (.int (x)), some (.int (y)), some (.int (nI k))] [] h (fun w h1 => w = some (.int (-5 : Int32)) ∧ h1 = h) := by
  intro d
  induction d using Nat.strongRecOn with
  | ind d ih =>
    intro k hd hk
    refine wp_iload_n d38_2 rfl ?_
    refine wp_aload_n d38_3 rfl ?_
    refine wp_getf (e := 30) (ci := 3) (k := 6) (nest := false) (v := .int (nI n)) d38_4 (by decide +kernel) (um_8 hM) (congrArg (fun z => some (Value.int z)) hn) ?_
    refine wp_icmp_ge d38_7 (tgt := 58) (by decide) (fun hc7 => ?_) (fun hc7 => ?_)
    · have hc7 : n ≤ k := (nI_leI (by omega) (by omega)).mp hc7
      refine wp_bipush d38_58 (v := (-5 : Int32)) (by decide) ?_
      refine wp_iret d38_60 (by decide +kernel) ?_
      exact ⟨rfl, rfl⟩
    · have hc7 : ¬ (n ≤ k) := fun z => hc7 ((nI_leI (by omega) (by omega)).mpr z)
      refine wp_aload_n d38_10 rfl ?_
      refine wp_getf (e := 9) (ci := 3) (k := 0) (nest := false) d38_11 (by decide +kernel) (um_8 hM) rfl ?_
      refine wp_iload_n d38_14 rfl ?_
      refine wp_iald d38_15 (um_9 hM) (nI_in (by omega) (by decide)) (v := M 9 k) ((congrArg (M 9) (nI_nat (by omega))).trans rfl) ?_
      refine wp_iload_n d38_16 rfl ?_
      refine wp_icmp_ne d38_17 (tgt := 30) (by decide) (fun hc17 => ?_) (fun hc17 => ?_)
      · refine wp_aload_n d38_30 rfl ?_
        refine wp_getf (e := 9) (ci := 3) (k := 0) (nest := false) d38_31 (by decide +kernel) (um_8 hM) rfl ?_
        refine wp_iload_n d38_34 rfl ?_
        refine wp_iald d38_35 (um_9 hM) (nI_in (by omega) (by decide)) (v := M 9 k) ((congrArg (M 9) (nI_nat (by omega))).trans rfl) ?_
        refine wp_iload_n d38_36 rfl ?_
        refine wp_icmp_ne d38_37 (tgt := 52) (by decide) (fun hc37 => ?_) (fun hc37 => ?_)
        · refine wp_iinc d38_52 rfl (v := nI (k + 1)) (nI_add _ 1) (Nat.le_of_ble_eq_true rfl) rfl ?_
          refine wp_goto d38_55 (tgt := 2) (by decide) ?_
          exact ih (n - (k + 1)) (by omega) (k + 1) rfl (by omega)
        · refine wp_aload_n d38_40 rfl ?_
          refine wp_getf (e := 15) (ci := 3) (k := 1) (nest := false) d38_41 (by decide +kernel) (um_8 hM) rfl ?_
          refine wp_iload_n d38_44 rfl ?_
          refine wp_iald d38_45 (um_10 hM) (nI_in (by omega) (by decide)) (v := M 10 k) ((congrArg (M 10) (nI_nat (by omega))).trans rfl) ?_
          refine wp_iload_n d38_46 rfl ?_
          refine wp_icmp_ne d38_47 (tgt := 52) (by decide) (fun hc47 => ?_) (fun hc47 => ?_)
          · refine wp_iinc d38_52 rfl (v := nI (k + 1)) (nI_add _ 1) (Nat.le_of_ble_eq_true rfl) rfl ?_
            refine wp_goto d38_55 (tgt := 2) (by decide) ?_
            exact ih (n - (k + 1)) (by omega) (k + 1) rfl (by omega)
          · refine wp_iload_n d38_50 rfl ?_
            refine wp_iret d38_51 (by decide +kernel) ?_
            exact absurd (Or.inr ⟨hc37, hc47⟩) (hno k (by omega))
      · refine wp_aload_n d38_20 rfl ?_
        refine wp_getf (e := 15) (ci := 3) (k := 1) (nest := false) d38_21 (by decide +kernel) (um_8 hM) rfl ?_
        refine wp_iload_n d38_24 rfl ?_
        refine wp_iald d38_25 (um_10 hM) (nI_in (by omega) (by decide)) (v := M 10 k) ((congrArg (M 10) (nI_nat (by omega))).trans rfl) ?_
        refine wp_iload_n d38_26 rfl ?_
        refine wp_icmp_eq d38_27 (tgt := 50) (by decide) (fun hc27 => ?_) (fun hc27 => ?_)
        · refine wp_iload_n d38_50 rfl ?_
          refine wp_iret d38_51 (by decide +kernel) ?_
          exact absurd (Or.inl ⟨hc17, hc27⟩) (hno k (by omega))
        · refine wp_aload_n d38_30 rfl ?_
          refine wp_getf (e := 9) (ci := 3) (k := 0) (nest := false) d38_31 (by decide +kernel) (um_8 hM) rfl ?_
          refine wp_iload_n d38_34 rfl ?_
          refine wp_iald d38_35 (um_9 hM) (nI_in (by omega) (by decide)) (v := M 9 k) ((congrArg (M 9) (nI_nat (by omega))).trans rfl) ?_
          refine wp_iload_n d38_36 rfl ?_
          refine wp_icmp_ne d38_37 (tgt := 52) (by decide) (fun hc37 => ?_) (fun hc37 => ?_)
          · refine wp_iinc d38_52 rfl (v := nI (k + 1)) (nI_add _ 1) (Nat.le_of_ble_eq_true rfl) rfl ?_
            refine wp_goto d38_55 (tgt := 2) (by decide) ?_
            exact ih (n - (k + 1)) (by omega) (k + 1) rfl (by omega)
          · refine wp_aload_n d38_40 rfl ?_
            refine wp_getf (e := 15) (ci := 3) (k := 1) (nest := false) d38_41 (by decide +kernel) (um_8 hM) rfl ?_
            refine wp_iload_n d38_44 rfl ?_
            refine wp_iald d38_45 (um_10 hM) (nI_in (by omega) (by decide)) (v := M 10 k) ((congrArg (M 10) (nI_nat (by omega))).trans rfl) ?_
            refine wp_iload_n d38_46 rfl ?_
            refine wp_icmp_ne d38_47 (tgt := 52) (by decide) (fun hc47 => ?_) (fun hc47 => ?_)
            · refine wp_iinc d38_52 rfl (v := nI (k + 1)) (nI_add _ 1) (Nat.le_of_ble_eq_true rfl) rfl ?_
              refine wp_goto d38_55 (tgt := 2) (by decide) ?_
              exact ih (n - (k + 1)) (by omega) (k + 1) rfl (by omega)
            · refine wp_iload_n d38_50 rfl ?_
              refine wp_iret d38_51 (by decide +kernel) ?_
              exact absurd (Or.inr ⟨hc37, hc47⟩) (hno k (by omega))
theorem u_between_no {X : mX} {h : mH} {B st : Nat} {M : Nat → Nat → Int32} (hM : Mus h B st M) {n : Nat} (hn : M 8 6 = nI n) (hn2 : n ≤ 20) {x y : Int32} (hno : ∀ k, k < n → ¬ ((M 9 k = x ∧ M 10 k = y) ∨ (M 9 k = y ∧ M 10 k = x))) : Tells X 38 [.ref (B + 8), .int (x), .int (y)] h ((-5 : Int32)) := by
  refine wp_iconst d38_0 (v := nI 0) (by decide) ?_
  refine wp_istore_n d38_1 (Nat.le_of_ble_eq_true rfl) rfl ?_
  exact u_between_no_l hM hn hn2 hno _ 0 rfl (by omega)
