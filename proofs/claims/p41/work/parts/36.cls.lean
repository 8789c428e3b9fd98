/-! The class: a museum's cells, and what its methods tell. -/
theorem d15_0 : decode (m_code 15) 0 = .ok (.iload_n 0, 1) := by decide +kernel
theorem d15_1 : decode (m_code 15) 1 = .ok (.ifCond .lt 13, 3) := by decide +kernel
theorem d15_4 : decode (m_code 15) 4 = .ok (.iload_n 0, 1) := by decide +kernel
theorem d15_5 : decode (m_code 15) 5 = .ok (.bipush 6, 2) := by decide +kernel
theorem d15_7 : decode (m_code 15) 7 = .ok (.if_icmp .ge 7, 3) := by decide +kernel
theorem d15_10 : decode (m_code 15) 10 = .ok (.iconst 1, 1) := by decide +kernel
theorem d15_11 : decode (m_code 15) 11 = .ok (.goto 4, 3) := by decide +kernel
theorem d15_14 : decode (m_code 15) 14 = .ok (.iconst 0, 1) := by decide +kernel
theorem d15_15 : decode (m_code 15) 15 = .ok (.ireturn, 1) := by decide +kernel
theorem d16_0 : decode (m_code 16) 0 = .ok (.iload_n 0, 1) := by decide +kernel
theorem d16_1 : decode (m_code 16) 1 = .ok (.iload_n 1, 1) := by decide +kernel
theorem d16_2 : decode (m_code 16) 2 = .ok (.if_icmp .lt 12, 3) := by decide +kernel
theorem d16_5 : decode (m_code 16) 5 = .ok (.iload_n 0, 1) := by decide +kernel
theorem d16_6 : decode (m_code 16) 6 = .ok (.iload_n 2, 1) := by decide +kernel
theorem d16_7 : decode (m_code 16) 7 = .ok (.if_icmp .gt 7, 3) := by decide +kernel
theorem d16_10 : decode (m_code 16) 10 = .ok (.iconst 1, 1) := by decide +kernel
theorem d16_11 : decode (m_code 16) 11 = .ok (.goto 4, 3) := by decide +kernel
theorem d16_14 : decode (m_code 16) 14 = .ok (.iconst 0, 1) := by decide +kernel
theorem d16_15 : decode (m_code 16) 15 = .ok (.ireturn, 1) := by decide +kernel
theorem d17_0 : decode (m_code 17) 0 = .ok (.aload_n 0, 1) := by decide +kernel
theorem d17_1 : decode (m_code 17) 1 = .ok (.getfield 30, 3) := by decide +kernel
theorem d17_4 : decode (m_code 17) 4 = .ok (.ireturn, 1) := by decide +kernel
theorem d35_0 : decode (m_code 35) 0 = .ok (.iload_n 1, 1) := by decide +kernel
theorem d35_1 : decode (m_code 35) 1 = .ok (.ifCond .lt 15, 3) := by decide +kernel
theorem d35_4 : decode (m_code 35) 4 = .ok (.iload_n 1, 1) := by decide +kernel
theorem d35_5 : decode (m_code 35) 5 = .ok (.aload_n 0, 1) := by decide +kernel
theorem d35_6 : decode (m_code 35) 6 = .ok (.getfield 30, 3) := by decide +kernel
theorem d35_9 : decode (m_code 35) 9 = .ok (.if_icmp .ge 7, 3) := by decide +kernel
theorem d35_12 : decode (m_code 35) 12 = .ok (.iconst 1, 1) := by decide +kernel
theorem d35_13 : decode (m_code 35) 13 = .ok (.goto 4, 3) := by decide +kernel
theorem d35_16 : decode (m_code 35) 16 = .ok (.iconst 0, 1) := by decide +kernel
theorem d35_17 : decode (m_code 35) 17 = .ok (.ireturn, 1) := by decide +kernel
theorem d37_0 : decode (m_code 37) 0 = .ok (.iload_n 0, 1) := by decide +kernel
theorem d37_1 : decode (m_code 37) 1 = .ok (.ifCond .lt 13, 3) := by decide +kernel
theorem d37_4 : decode (m_code 37) 4 = .ok (.iload_n 0, 1) := by decide +kernel
theorem d37_5 : decode (m_code 37) 5 = .ok (.bipush 8, 2) := by decide +kernel
theorem d37_7 : decode (m_code 37) 7 = .ok (.if_icmp .ge 7, 3) := by decide +kernel
theorem d37_10 : decode (m_code 37) 10 = .ok (.iconst 1, 1) := by decide +kernel
theorem d37_11 : decode (m_code 37) 11 = .ok (.goto 4, 3) := by decide +kernel
theorem d37_14 : decode (m_code 37) 14 = .ok (.iconst 0, 1) := by decide +kernel
theorem d37_15 : decode (m_code 37) 15 = .ok (.ireturn, 1) := by decide +kernel
theorem d39_0 : decode (m_code 39) 0 = .ok (.aload_n 0, 1) := by decide +kernel
theorem d39_1 : decode (m_code 39) 1 = .ok (.getfield 30, 3) := by decide +kernel
theorem d39_4 : decode (m_code 39) 4 = .ok (.ireturn, 1) := by decide +kernel
theorem d42_0 : decode (m_code 42) 0 = .ok (.aload_n 0, 1) := by decide +kernel
theorem d42_1 : decode (m_code 42) 1 = .ok (.iload_n 1, 1) := by decide +kernel
theorem d42_2 : decode (m_code 42) 2 = .ok (.invokevirtual 50, 3) := by decide +kernel
theorem d42_5 : decode (m_code 42) 5 = .ok (.ifCond .eq 12, 3) := by decide +kernel
theorem d42_8 : decode (m_code 42) 8 = .ok (.aload_n 0, 1) := by decide +kernel
theorem d42_9 : decode (m_code 42) 9 = .ok (.getfield 15, 3) := by decide +kernel
theorem d42_12 : decode (m_code 42) 12 = .ok (.iload_n 1, 1) := by decide +kernel
theorem d42_13 : decode (m_code 42) 13 = .ok (.iaload, 1) := by decide +kernel
theorem d42_14 : decode (m_code 42) 14 = .ok (.goto 4, 3) := by decide +kernel
theorem d42_17 : decode (m_code 42) 17 = .ok (.iconst 0, 1) := by decide +kernel
theorem d42_18 : decode (m_code 42) 18 = .ok (.ireturn, 1) := by decide +kernel
theorem d57_0 : decode (m_code 57) 0 = .ok (.aload_n 0, 1) := by decide +kernel
theorem d57_1 : decode (m_code 57) 1 = .ok (.getfield 39, 3) := by decide +kernel
theorem d57_4 : decode (m_code 57) 4 = .ok (.ireturn, 1) := by decide +kernel
theorem d58_0 : decode (m_code 58) 0 = .ok (.aload_n 0, 1) := by decide +kernel
theorem d58_1 : decode (m_code 58) 1 = .ok (.iload_n 1, 1) := by decide +kernel
theorem d58_2 : decode (m_code 58) 2 = .ok (.invokevirtual 53, 3) := by decide +kernel
theorem d58_5 : decode (m_code 58) 5 = .ok (.ifCond .eq 12, 3) := by decide +kernel
theorem d58_8 : decode (m_code 58) 8 = .ok (.aload_n 0, 1) := by decide +kernel
theorem d58_9 : decode (m_code 58) 9 = .ok (.getfield 9, 3) := by decide +kernel
theorem d58_12 : decode (m_code 58) 12 = .ok (.iload_n 1, 1) := by decide +kernel
theorem d58_13 : decode (m_code 58) 13 = .ok (.iaload, 1) := by decide +kernel
theorem d58_14 : decode (m_code 58) 14 = .ok (.goto 5, 3) := by decide +kernel
theorem d58_17 : decode (m_code 58) 17 = .ok (.bipush (-5), 2) := by decide +kernel
theorem d58_19 : decode (m_code 58) 19 = .ok (.ireturn, 1) := by decide +kernel
theorem d59_0 : decode (m_code 59) 0 = .ok (.iload_n 1, 1) := by decide +kernel
theorem d59_1 : decode (m_code 59) 1 = .ok (.ifCond .lt 15, 3) := by decide +kernel
theorem d59_4 : decode (m_code 59) 4 = .ok (.iload_n 1, 1) := by decide +kernel
theorem d59_5 : decode (m_code 59) 5 = .ok (.aload_n 0, 1) := by decide +kernel
theorem d59_6 : decode (m_code 59) 6 = .ok (.getfield 39, 3) := by decide +kernel
theorem d59_9 : decode (m_code 59) 9 = .ok (.if_icmp .ge 7, 3) := by decide +kernel
theorem d59_12 : decode (m_code 59) 12 = .ok (.iconst 1, 1) := by decide +kernel
theorem d59_13 : decode (m_code 59) 13 = .ok (.goto 4, 3) := by decide +kernel
theorem d59_16 : decode (m_code 59) 16 = .ok (.iconst 0, 1) := by decide +kernel
theorem d59_17 : decode (m_code 59) 17 = .ok (.ireturn, 1) := by decide +kernel
theorem d60_0 : decode (m_code 60) 0 = .ok (.aload_n 0, 1) := by decide +kernel
theorem d60_1 : decode (m_code 60) 1 = .ok (.iload_n 1, 1) := by decide +kernel
theorem d60_2 : decode (m_code 60) 2 = .ok (.invokevirtual 50, 3) := by decide +kernel
theorem d60_5 : decode (m_code 60) 5 = .ok (.ifCond .eq 12, 3) := by decide +kernel
theorem d60_8 : decode (m_code 60) 8 = .ok (.aload_n 0, 1) := by decide +kernel
theorem d60_9 : decode (m_code 60) 9 = .ok (.getfield 9, 3) := by decide +kernel
theorem d60_12 : decode (m_code 60) 12 = .ok (.iload_n 1, 1) := by decide +kernel
theorem d60_13 : decode (m_code 60) 13 = .ok (.iaload, 1) := by decide +kernel
theorem d60_14 : decode (m_code 60) 14 = .ok (.goto 5, 3) := by decide +kernel
theorem d60_17 : decode (m_code 60) 17 = .ok (.bipush (-5), 2) := by decide +kernel
theorem d60_19 : decode (m_code 60) 19 = .ok (.ireturn, 1) := by decide +kernel
theorem d61_0 : decode (m_code 61) 0 = .ok (.aload_n 0, 1) := by decide +kernel
theorem d61_1 : decode (m_code 61) 1 = .ok (.iload_n 1, 1) := by decide +kernel
theorem d61_2 : decode (m_code 61) 2 = .ok (.invokevirtual 53, 3) := by decide +kernel
theorem d61_5 : decode (m_code 61) 5 = .ok (.ifCond .eq 12, 3) := by decide +kernel
theorem d61_8 : decode (m_code 61) 8 = .ok (.aload_n 0, 1) := by decide +kernel
theorem d61_9 : decode (m_code 61) 9 = .ok (.getfield 15, 3) := by decide +kernel
theorem d61_12 : decode (m_code 61) 12 = .ok (.iload_n 1, 1) := by decide +kernel
theorem d61_13 : decode (m_code 61) 13 = .ok (.iaload, 1) := by decide +kernel
theorem d61_14 : decode (m_code 61) 14 = .ok (.goto 5, 3) := by decide +kernel
theorem d61_17 : decode (m_code 61) 17 = .ok (.bipush (-5), 2) := by decide +kernel
theorem d61_19 : decode (m_code 61) 19 = .ok (.ireturn, 1) := by decide +kernel
theorem d76_0 : decode (m_code 76) 0 = .ok (.aload_n 0, 1) := by decide +kernel
theorem d76_1 : decode (m_code 76) 1 = .ok (.iload_n 1, 1) := by decide +kernel
theorem d76_2 : decode (m_code 76) 2 = .ok (.invokevirtual 53, 3) := by decide +kernel
theorem d76_5 : decode (m_code 76) 5 = .ok (.ifCond .eq 12, 3) := by decide +kernel
theorem d76_8 : decode (m_code 76) 8 = .ok (.aload_n 0, 1) := by decide +kernel
theorem d76_9 : decode (m_code 76) 9 = .ok (.getfield 33, 3) := by decide +kernel
theorem d76_12 : decode (m_code 76) 12 = .ok (.iload_n 1, 1) := by decide +kernel
theorem d76_13 : decode (m_code 76) 13 = .ok (.iaload, 1) := by decide +kernel
theorem d76_14 : decode (m_code 76) 14 = .ok (.goto 4, 3) := by decide +kernel
theorem d76_17 : decode (m_code 76) 17 = .ok (.iconst 0, 1) := by decide +kernel
theorem d76_18 : decode (m_code 76) 18 = .ok (.ireturn, 1) := by decide +kernel
theorem d84_0 : decode (m_code 84) 0 = .ok (.aload_n 0, 1) := by decide +kernel
theorem d84_1 : decode (m_code 84) 1 = .ok (.getfield 27, 3) := by decide +kernel
theorem d84_4 : decode (m_code 84) 4 = .ok (.ireturn, 1) := by decide +kernel
theorem d87_0 : decode (m_code 87) 0 = .ok (.iload_n 1, 1) := by decide +kernel
theorem d87_1 : decode (m_code 87) 1 = .ok (.ifCond .lt 15, 3) := by decide +kernel
theorem d87_4 : decode (m_code 87) 4 = .ok (.iload_n 1, 1) := by decide +kernel
theorem d87_5 : decode (m_code 87) 5 = .ok (.aload_n 0, 1) := by decide +kernel
theorem d87_6 : decode (m_code 87) 6 = .ok (.getfield 27, 3) := by decide +kernel
theorem d87_9 : decode (m_code 87) 9 = .ok (.if_icmp .ge 7, 3) := by decide +kernel
theorem d87_12 : decode (m_code 87) 12 = .ok (.iconst 1, 1) := by decide +kernel
theorem d87_13 : decode (m_code 87) 13 = .ok (.goto 4, 3) := by decide +kernel
theorem d87_16 : decode (m_code 87) 16 = .ok (.iconst 0, 1) := by decide +kernel
theorem d87_17 : decode (m_code 87) 17 = .ok (.ireturn, 1) := by decide +kernel
theorem d88_0 : decode (m_code 88) 0 = .ok (.aload_n 0, 1) := by decide +kernel
theorem d88_1 : decode (m_code 88) 1 = .ok (.iload_n 1, 1) := by decide +kernel
theorem d88_2 : decode (m_code 88) 2 = .ok (.invokevirtual 37, 3) := by decide +kernel
theorem d88_5 : decode (m_code 88) 5 = .ok (.ifCond .eq 12, 3) := by decide +kernel
theorem d88_8 : decode (m_code 88) 8 = .ok (.aload_n 0, 1) := by decide +kernel
theorem d88_9 : decode (m_code 88) 9 = .ok (.getfield 15, 3) := by decide +kernel
theorem d88_12 : decode (m_code 88) 12 = .ok (.iload_n 1, 1) := by decide +kernel
theorem d88_13 : decode (m_code 88) 13 = .ok (.iaload, 1) := by decide +kernel
theorem d88_14 : decode (m_code 88) 14 = .ok (.goto 5, 3) := by decide +kernel
theorem d88_17 : decode (m_code 88) 17 = .ok (.bipush (-5), 2) := by decide +kernel
theorem d88_19 : decode (m_code 88) 19 = .ok (.ireturn, 1) := by decide +kernel
theorem d90_0 : decode (m_code 90) 0 = .ok (.aload_n 0, 1) := by decide +kernel
theorem d90_1 : decode (m_code 90) 1 = .ok (.iload_n 1, 1) := by decide +kernel
theorem d90_2 : decode (m_code 90) 2 = .ok (.invokevirtual 37, 3) := by decide +kernel
theorem d90_5 : decode (m_code 90) 5 = .ok (.ifCond .eq 12, 3) := by decide +kernel
theorem d90_8 : decode (m_code 90) 8 = .ok (.aload_n 0, 1) := by decide +kernel
theorem d90_9 : decode (m_code 90) 9 = .ok (.getfield 21, 3) := by decide +kernel
theorem d90_12 : decode (m_code 90) 12 = .ok (.iload_n 1, 1) := by decide +kernel
theorem d90_13 : decode (m_code 90) 13 = .ok (.iaload, 1) := by decide +kernel
theorem d90_14 : decode (m_code 90) 14 = .ok (.goto 5, 3) := by decide +kernel
theorem d90_17 : decode (m_code 90) 17 = .ok (.bipush (-5), 2) := by decide +kernel
theorem d90_19 : decode (m_code 90) 19 = .ok (.ireturn, 1) := by decide +kernel
theorem d93_0 : decode (m_code 93) 0 = .ok (.aload_n 0, 1) := by decide +kernel
theorem d93_1 : decode (m_code 93) 1 = .ok (.iload_n 1, 1) := by decide +kernel
theorem d93_2 : decode (m_code 93) 2 = .ok (.invokevirtual 40, 3) := by decide +kernel
theorem d93_5 : decode (m_code 93) 5 = .ok (.ifCond .eq 12, 3) := by decide +kernel
theorem d93_8 : decode (m_code 93) 8 = .ok (.aload_n 0, 1) := by decide +kernel
theorem d93_9 : decode (m_code 93) 9 = .ok (.getfield 18, 3) := by decide +kernel
theorem d93_12 : decode (m_code 93) 12 = .ok (.iload_n 1, 1) := by decide +kernel
theorem d93_13 : decode (m_code 93) 13 = .ok (.iaload, 1) := by decide +kernel
theorem d93_14 : decode (m_code 93) 14 = .ok (.goto 5, 3) := by decide +kernel
theorem d93_17 : decode (m_code 93) 17 = .ok (.bipush (-5), 2) := by decide +kernel
theorem d93_19 : decode (m_code 93) 19 = .ok (.ireturn, 1) := by decide +kernel
theorem d94_0 : decode (m_code 94) 0 = .ok (.iload_n 1, 1) := by decide +kernel
theorem d94_1 : decode (m_code 94) 1 = .ok (.ifCond .lt 15, 3) := by decide +kernel
theorem d94_4 : decode (m_code 94) 4 = .ok (.iload_n 1, 1) := by decide +kernel
theorem d94_5 : decode (m_code 94) 5 = .ok (.aload_n 0, 1) := by decide +kernel
theorem d94_6 : decode (m_code 94) 6 = .ok (.getfield 30, 3) := by decide +kernel
theorem d94_9 : decode (m_code 94) 9 = .ok (.if_icmp .ge 7, 3) := by decide +kernel
theorem d94_12 : decode (m_code 94) 12 = .ok (.iconst 1, 1) := by decide +kernel
theorem d94_13 : decode (m_code 94) 13 = .ok (.goto 4, 3) := by decide +kernel
theorem d94_16 : decode (m_code 94) 16 = .ok (.iconst 0, 1) := by decide +kernel
theorem d94_17 : decode (m_code 94) 17 = .ok (.ireturn, 1) := by decide +kernel
theorem d99_0 : decode (m_code 99) 0 = .ok (.iload_n 1, 1) := by decide +kernel
theorem d99_1 : decode (m_code 99) 1 = .ok (.ifCond .lt 15, 3) := by decide +kernel
theorem d99_4 : decode (m_code 99) 4 = .ok (.iload_n 1, 1) := by decide +kernel
theorem d99_5 : decode (m_code 99) 5 = .ok (.aload_n 0, 1) := by decide +kernel
theorem d99_6 : decode (m_code 99) 6 = .ok (.getfield 27, 3) := by decide +kernel
theorem d99_9 : decode (m_code 99) 9 = .ok (.if_icmp .ge 7, 3) := by decide +kernel
theorem d99_12 : decode (m_code 99) 12 = .ok (.iconst 1, 1) := by decide +kernel
theorem d99_13 : decode (m_code 99) 13 = .ok (.goto 4, 3) := by decide +kernel
theorem d99_16 : decode (m_code 99) 16 = .ok (.iconst 0, 1) := by decide +kernel
theorem d99_17 : decode (m_code 99) 17 = .ok (.ireturn, 1) := by decide +kernel
theorem d100_0 : decode (m_code 100) 0 = .ok (.aload_n 0, 1) := by decide +kernel
theorem d100_1 : decode (m_code 100) 1 = .ok (.iload_n 1, 1) := by decide +kernel
theorem d100_2 : decode (m_code 100) 2 = .ok (.invokevirtual 40, 3) := by decide +kernel
theorem d100_5 : decode (m_code 100) 5 = .ok (.ifCond .eq 12, 3) := by decide +kernel
theorem d100_8 : decode (m_code 100) 8 = .ok (.aload_n 0, 1) := by decide +kernel
theorem d100_9 : decode (m_code 100) 9 = .ok (.getfield 15, 3) := by decide +kernel
theorem d100_12 : decode (m_code 100) 12 = .ok (.iload_n 1, 1) := by decide +kernel
theorem d100_13 : decode (m_code 100) 13 = .ok (.iaload, 1) := by decide +kernel
theorem d100_14 : decode (m_code 100) 14 = .ok (.goto 5, 3) := by decide +kernel
theorem d100_17 : decode (m_code 100) 17 = .ok (.bipush (-5), 2) := by decide +kernel
theorem d100_19 : decode (m_code 100) 19 = .ok (.ireturn, 1) := by decide +kernel
theorem d102_0 : decode (m_code 102) 0 = .ok (.aload_n 0, 1) := by decide +kernel
theorem d102_1 : decode (m_code 102) 1 = .ok (.iload_n 1, 1) := by decide +kernel
theorem d102_2 : decode (m_code 102) 2 = .ok (.invokevirtual 40, 3) := by decide +kernel
theorem d102_5 : decode (m_code 102) 5 = .ok (.ifCond .eq 12, 3) := by decide +kernel
theorem d102_8 : decode (m_code 102) 8 = .ok (.aload_n 0, 1) := by decide +kernel
theorem d102_9 : decode (m_code 102) 9 = .ok (.getfield 21, 3) := by decide +kernel
theorem d102_12 : decode (m_code 102) 12 = .ok (.iload_n 1, 1) := by decide +kernel
theorem d102_13 : decode (m_code 102) 13 = .ok (.iaload, 1) := by decide +kernel
theorem d102_14 : decode (m_code 102) 14 = .ok (.goto 5, 3) := by decide +kernel
theorem d102_17 : decode (m_code 102) 17 = .ok (.bipush (-5), 2) := by decide +kernel
theorem d102_19 : decode (m_code 102) 19 = .ok (.ireturn, 1) := by decide +kernel
theorem d104_0 : decode (m_code 104) 0 = .ok (.aload_n 0, 1) := by decide +kernel
theorem d104_1 : decode (m_code 104) 1 = .ok (.iload_n 1, 1) := by decide +kernel
theorem d104_2 : decode (m_code 104) 2 = .ok (.invokevirtual 40, 3) := by decide +kernel
theorem d104_5 : decode (m_code 104) 5 = .ok (.ifCond .eq 12, 3) := by decide +kernel
theorem d104_8 : decode (m_code 104) 8 = .ok (.aload_n 0, 1) := by decide +kernel
theorem d104_9 : decode (m_code 104) 9 = .ok (.getfield 18, 3) := by decide +kernel
theorem d104_12 : decode (m_code 104) 12 = .ok (.iload_n 1, 1) := by decide +kernel
theorem d104_13 : decode (m_code 104) 13 = .ok (.iaload, 1) := by decide +kernel
theorem d104_14 : decode (m_code 104) 14 = .ok (.goto 5, 3) := by decide +kernel
theorem d104_17 : decode (m_code 104) 17 = .ok (.bipush (-5), 2) := by decide +kernel
theorem d104_19 : decode (m_code 104) 19 = .ok (.ireturn, 1) := by decide +kernel
theorem d115_0 : decode (m_code 115) 0 = .ok (.aload_n 0, 1) := by decide +kernel
theorem d115_1 : decode (m_code 115) 1 = .ok (.iload_n 1, 1) := by decide +kernel
theorem d115_2 : decode (m_code 115) 2 = .ok (.invokevirtual 53, 3) := by decide +kernel
theorem d115_5 : decode (m_code 115) 5 = .ok (.ifCond .eq 12, 3) := by decide +kernel
theorem d115_8 : decode (m_code 115) 8 = .ok (.aload_n 0, 1) := by decide +kernel
theorem d115_9 : decode (m_code 115) 9 = .ok (.getfield 24, 3) := by decide +kernel
theorem d115_12 : decode (m_code 115) 12 = .ok (.iload_n 1, 1) := by decide +kernel
theorem d115_13 : decode (m_code 115) 13 = .ok (.iaload, 1) := by decide +kernel
theorem d115_14 : decode (m_code 115) 14 = .ok (.goto 4, 3) := by decide +kernel
theorem d115_17 : decode (m_code 115) 17 = .ok (.iconst 0, 1) := by decide +kernel
theorem d115_18 : decode (m_code 115) 18 = .ok (.ireturn, 1) := by decide +kernel
theorem d125_0 : decode (m_code 125) 0 = .ok (.aload_n 0, 1) := by decide +kernel
theorem d125_1 : decode (m_code 125) 1 = .ok (.iload_n 1, 1) := by decide +kernel
theorem d125_2 : decode (m_code 125) 2 = .ok (.invokevirtual 53, 3) := by decide +kernel
theorem d125_5 : decode (m_code 125) 5 = .ok (.ifCond .eq 12, 3) := by decide +kernel
theorem d125_8 : decode (m_code 125) 8 = .ok (.aload_n 0, 1) := by decide +kernel
theorem d125_9 : decode (m_code 125) 9 = .ok (.getfield 18, 3) := by decide +kernel
theorem d125_12 : decode (m_code 125) 12 = .ok (.iload_n 1, 1) := by decide +kernel
theorem d125_13 : decode (m_code 125) 13 = .ok (.iaload, 1) := by decide +kernel
theorem d125_14 : decode (m_code 125) 14 = .ok (.goto 5, 3) := by decide +kernel
theorem d125_17 : decode (m_code 125) 17 = .ok (.bipush (-5), 2) := by decide +kernel
theorem d125_19 : decode (m_code 125) 19 = .ok (.ireturn, 1) := by decide +kernel
theorem d130_0 : decode (m_code 130) 0 = .ok (.aload_n 0, 1) := by decide +kernel
theorem d130_1 : decode (m_code 130) 1 = .ok (.iload_n 1, 1) := by decide +kernel
theorem d130_2 : decode (m_code 130) 2 = .ok (.invokevirtual 50, 3) := by decide +kernel
theorem d130_5 : decode (m_code 130) 5 = .ok (.ifCond .eq 12, 3) := by decide +kernel
theorem d130_8 : decode (m_code 130) 8 = .ok (.aload_n 0, 1) := by decide +kernel
theorem d130_9 : decode (m_code 130) 9 = .ok (.getfield 21, 3) := by decide +kernel
theorem d130_12 : decode (m_code 130) 12 = .ok (.iload_n 1, 1) := by decide +kernel
theorem d130_13 : decode (m_code 130) 13 = .ok (.iaload, 1) := by decide +kernel
theorem d130_14 : decode (m_code 130) 14 = .ok (.goto 4, 3) := by decide +kernel
theorem d130_17 : decode (m_code 130) 17 = .ok (.iconst 0, 1) := by decide +kernel
theorem d130_18 : decode (m_code 130) 18 = .ok (.ireturn, 1) := by decide +kernel
theorem d133_0 : decode (m_code 133) 0 = .ok (.aload_n 0, 1) := by decide +kernel
theorem d133_1 : decode (m_code 133) 1 = .ok (.iload_n 1, 1) := by decide +kernel
theorem d133_2 : decode (m_code 133) 2 = .ok (.invokevirtual 37, 3) := by decide +kernel
theorem d133_5 : decode (m_code 133) 5 = .ok (.ifCond .eq 12, 3) := by decide +kernel
theorem d133_8 : decode (m_code 133) 8 = .ok (.aload_n 0, 1) := by decide +kernel
theorem d133_9 : decode (m_code 133) 9 = .ok (.getfield 18, 3) := by decide +kernel
theorem d133_12 : decode (m_code 133) 12 = .ok (.iload_n 1, 1) := by decide +kernel
theorem d133_13 : decode (m_code 133) 13 = .ok (.iaload, 1) := by decide +kernel
theorem d133_14 : decode (m_code 133) 14 = .ok (.goto 4, 3) := by decide +kernel
theorem d133_17 : decode (m_code 133) 17 = .ok (.iconst 0, 1) := by decide +kernel
theorem d133_18 : decode (m_code 133) 18 = .ok (.ireturn, 1) := by decide +kernel
theorem d134_0 : decode (m_code 134) 0 = .ok (.aload_n 0, 1) := by decide +kernel
theorem d134_1 : decode (m_code 134) 1 = .ok (.iload_n 1, 1) := by decide +kernel
theorem d134_2 : decode (m_code 134) 2 = .ok (.invokevirtual 37, 3) := by decide +kernel
theorem d134_5 : decode (m_code 134) 5 = .ok (.ifCond .eq 12, 3) := by decide +kernel
theorem d134_8 : decode (m_code 134) 8 = .ok (.aload_n 0, 1) := by decide +kernel
theorem d134_9 : decode (m_code 134) 9 = .ok (.getfield 9, 3) := by decide +kernel
theorem d134_12 : decode (m_code 134) 12 = .ok (.iload_n 1, 1) := by decide +kernel
theorem d134_13 : decode (m_code 134) 13 = .ok (.iaload, 1) := by decide +kernel
theorem d134_14 : decode (m_code 134) 14 = .ok (.goto 5, 3) := by decide +kernel
theorem d134_17 : decode (m_code 134) 17 = .ok (.bipush (-5), 2) := by decide +kernel
theorem d134_19 : decode (m_code 134) 19 = .ok (.ireturn, 1) := by decide +kernel
theorem d135_0 : decode (m_code 135) 0 = .ok (.aload_n 0, 1) := by decide +kernel
theorem d135_1 : decode (m_code 135) 1 = .ok (.iload_n 1, 1) := by decide +kernel
theorem d135_2 : decode (m_code 135) 2 = .ok (.invokevirtual 50, 3) := by decide +kernel
theorem d135_5 : decode (m_code 135) 5 = .ok (.ifCond .eq 12, 3) := by decide +kernel
theorem d135_8 : decode (m_code 135) 8 = .ok (.aload_n 0, 1) := by decide +kernel
theorem d135_9 : decode (m_code 135) 9 = .ok (.getfield 18, 3) := by decide +kernel
theorem d135_12 : decode (m_code 135) 12 = .ok (.iload_n 1, 1) := by decide +kernel
theorem d135_13 : decode (m_code 135) 13 = .ok (.iaload, 1) := by decide +kernel
theorem d135_14 : decode (m_code 135) 14 = .ok (.goto 4, 3) := by decide +kernel
theorem d135_17 : decode (m_code 135) 17 = .ok (.iconst 0, 1) := by decide +kernel
theorem d135_18 : decode (m_code 135) 18 = .ok (.ireturn, 1) := by decide +kernel
theorem d166_0 : decode (m_code 166) 0 = .ok (.aload_n 0, 1) := by decide +kernel
theorem d166_1 : decode (m_code 166) 1 = .ok (.iload_n 1, 1) := by decide +kernel
theorem d166_2 : decode (m_code 166) 2 = .ok (.invokevirtual 50, 3) := by decide +kernel
theorem d166_5 : decode (m_code 166) 5 = .ok (.ifCond .eq 12, 3) := by decide +kernel
theorem d166_8 : decode (m_code 166) 8 = .ok (.aload_n 0, 1) := by decide +kernel
theorem d166_9 : decode (m_code 166) 9 = .ok (.getfield 24, 3) := by decide +kernel
theorem d166_12 : decode (m_code 166) 12 = .ok (.iload_n 1, 1) := by decide +kernel
theorem d166_13 : decode (m_code 166) 13 = .ok (.iaload, 1) := by decide +kernel
theorem d166_14 : decode (m_code 166) 14 = .ok (.goto 4, 3) := by decide +kernel
theorem d166_17 : decode (m_code 166) 17 = .ok (.iconst 0, 1) := by decide +kernel
theorem d166_18 : decode (m_code 166) 18 = .ok (.ireturn, 1) := by decide +kernel
theorem d167_0 : decode (m_code 167) 0 = .ok (.aload_n 0, 1) := by decide +kernel
theorem d167_1 : decode (m_code 167) 1 = .ok (.iload_n 1, 1) := by decide +kernel
theorem d167_2 : decode (m_code 167) 2 = .ok (.invokevirtual 50, 3) := by decide +kernel
theorem d167_5 : decode (m_code 167) 5 = .ok (.ifCond .eq 12, 3) := by decide +kernel
theorem d167_8 : decode (m_code 167) 8 = .ok (.aload_n 0, 1) := by decide +kernel
theorem d167_9 : decode (m_code 167) 9 = .ok (.getfield 27, 3) := by decide +kernel
theorem d167_12 : decode (m_code 167) 12 = .ok (.iload_n 1, 1) := by decide +kernel
theorem d167_13 : decode (m_code 167) 13 = .ok (.iaload, 1) := by decide +kernel
theorem d167_14 : decode (m_code 167) 14 = .ok (.goto 4, 3) := by decide +kernel
theorem d167_17 : decode (m_code 167) 17 = .ok (.iconst 0, 1) := by decide +kernel
theorem d167_18 : decode (m_code 167) 18 = .ok (.ireturn, 1) := by decide +kernel
theorem d179_0 : decode (m_code 179) 0 = .ok (.aload_n 0, 1) := by decide +kernel
theorem d179_1 : decode (m_code 179) 1 = .ok (.iload_n 1, 1) := by decide +kernel
theorem d179_2 : decode (m_code 179) 2 = .ok (.invokevirtual 53, 3) := by decide +kernel
theorem d179_5 : decode (m_code 179) 5 = .ok (.ifCond .eq 12, 3) := by decide +kernel
theorem d179_8 : decode (m_code 179) 8 = .ok (.aload_n 0, 1) := by decide +kernel
theorem d179_9 : decode (m_code 179) 9 = .ok (.getfield 27, 3) := by decide +kernel
theorem d179_12 : decode (m_code 179) 12 = .ok (.iload_n 1, 1) := by decide +kernel
theorem d179_13 : decode (m_code 179) 13 = .ok (.iaload, 1) := by decide +kernel
theorem d179_14 : decode (m_code 179) 14 = .ok (.goto 4, 3) := by decide +kernel
theorem d179_17 : decode (m_code 179) 17 = .ok (.iconst 0, 1) := by decide +kernel
theorem d179_18 : decode (m_code 179) 18 = .ok (.ireturn, 1) := by decide +kernel
theorem d180_0 : decode (m_code 180) 0 = .ok (.aload_n 0, 1) := by decide +kernel
theorem d180_1 : decode (m_code 180) 1 = .ok (.iload_n 1, 1) := by decide +kernel
theorem d180_2 : decode (m_code 180) 2 = .ok (.invokevirtual 53, 3) := by decide +kernel
theorem d180_5 : decode (m_code 180) 5 = .ok (.ifCond .eq 12, 3) := by decide +kernel
theorem d180_8 : decode (m_code 180) 8 = .ok (.aload_n 0, 1) := by decide +kernel
theorem d180_9 : decode (m_code 180) 9 = .ok (.getfield 30, 3) := by decide +kernel
theorem d180_12 : decode (m_code 180) 12 = .ok (.iload_n 1, 1) := by decide +kernel
theorem d180_13 : decode (m_code 180) 13 = .ok (.iaload, 1) := by decide +kernel
theorem d180_14 : decode (m_code 180) 14 = .ok (.goto 4, 3) := by decide +kernel
theorem d180_17 : decode (m_code 180) 17 = .ok (.iconst 0, 1) := by decide +kernel
theorem d180_18 : decode (m_code 180) 18 = .ok (.ireturn, 1) := by decide +kernel
theorem d184_0 : decode (m_code 184) 0 = .ok (.aload_n 0, 1) := by decide +kernel
theorem d184_1 : decode (m_code 184) 1 = .ok (.iload_n 1, 1) := by decide +kernel
theorem d184_2 : decode (m_code 184) 2 = .ok (.invokevirtual 37, 3) := by decide +kernel
theorem d184_5 : decode (m_code 184) 5 = .ok (.ifCond .eq 12, 3) := by decide +kernel
theorem d184_8 : decode (m_code 184) 8 = .ok (.aload_n 0, 1) := by decide +kernel
theorem d184_9 : decode (m_code 184) 9 = .ok (.getfield 24, 3) := by decide +kernel
theorem d184_12 : decode (m_code 184) 12 = .ok (.iload_n 1, 1) := by decide +kernel
theorem d184_13 : decode (m_code 184) 13 = .ok (.iaload, 1) := by decide +kernel
theorem d184_14 : decode (m_code 184) 14 = .ok (.goto 4, 3) := by decide +kernel
theorem d184_17 : decode (m_code 184) 17 = .ok (.iconst 0, 1) := by decide +kernel
theorem d184_18 : decode (m_code 184) 18 = .ok (.ireturn, 1) := by decide +kernel
theorem d186_0 : decode (m_code 186) 0 = .ok (.aload_n 0, 1) := by decide +kernel
theorem d186_1 : decode (m_code 186) 1 = .ok (.iload_n 1, 1) := by decide +kernel
theorem d186_2 : decode (m_code 186) 2 = .ok (.invokevirtual 40, 3) := by decide +kernel
theorem d186_5 : decode (m_code 186) 5 = .ok (.ifCond .eq 12, 3) := by decide +kernel
theorem d186_8 : decode (m_code 186) 8 = .ok (.aload_n 0, 1) := by decide +kernel
theorem d186_9 : decode (m_code 186) 9 = .ok (.getfield 9, 3) := by decide +kernel
theorem d186_12 : decode (m_code 186) 12 = .ok (.iload_n 1, 1) := by decide +kernel
theorem d186_13 : decode (m_code 186) 13 = .ok (.iaload, 1) := by decide +kernel
theorem d186_14 : decode (m_code 186) 14 = .ok (.goto 5, 3) := by decide +kernel
theorem d186_17 : decode (m_code 186) 17 = .ok (.bipush (-5), 2) := by decide +kernel
theorem d186_19 : decode (m_code 186) 19 = .ok (.ireturn, 1) := by decide +kernel
theorem d187_0 : decode (m_code 187) 0 = .ok (.aload_n 0, 1) := by decide +kernel
theorem d187_1 : decode (m_code 187) 1 = .ok (.iload_n 1, 1) := by decide +kernel
theorem d187_2 : decode (m_code 187) 2 = .ok (.invokevirtual 40, 3) := by decide +kernel
theorem d187_5 : decode (m_code 187) 5 = .ok (.ifCond .eq 12, 3) := by decide +kernel
theorem d187_8 : decode (m_code 187) 8 = .ok (.aload_n 0, 1) := by decide +kernel
theorem d187_9 : decode (m_code 187) 9 = .ok (.getfield 24, 3) := by decide +kernel
theorem d187_12 : decode (m_code 187) 12 = .ok (.iload_n 1, 1) := by decide +kernel
theorem d187_13 : decode (m_code 187) 13 = .ok (.iaload, 1) := by decide +kernel
theorem d187_14 : decode (m_code 187) 14 = .ok (.goto 5, 3) := by decide +kernel
theorem d187_17 : decode (m_code 187) 17 = .ok (.bipush (-5), 2) := by decide +kernel
theorem d187_19 : decode (m_code 187) 19 = .ok (.ireturn, 1) := by decide +kernel
theorem d202_0 : decode (m_code 202) 0 = .ok (.aload_n 0, 1) := by decide +kernel
theorem d202_1 : decode (m_code 202) 1 = .ok (.getfield 27, 3) := by decide +kernel
theorem d202_4 : decode (m_code 202) 4 = .ok (.ireturn, 1) := by decide +kernel
theorem d204_0 : decode (m_code 204) 0 = .ok (.aload_n 0, 1) := by decide +kernel
theorem d204_1 : decode (m_code 204) 1 = .ok (.getfield 31, 3) := by decide +kernel
theorem d204_4 : decode (m_code 204) 4 = .ok (.ireturn, 1) := by decide +kernel
theorem d205_0 : decode (m_code 205) 0 = .ok (.aload_n 0, 1) := by decide +kernel
theorem d205_1 : decode (m_code 205) 1 = .ok (.getfield 18, 3) := by decide +kernel
theorem d205_4 : decode (m_code 205) 4 = .ok (.ireturn, 1) := by decide +kernel
/-- the cells of a museum at B, whose stays lie at st -/
def musC (B st : Nat) (o : Nat) (f : Nat → Int32) : mC :=
  match o with
  | 0 => .inr (1, [.ref (B + 1), .ref (B + 8), .ref (B + 15), .ref (B + 17), .ref (B + 19), .ref (B + 29), .ref (B + 35), .ref (B + 41), .int (f 8), .int (f 9)])
  | 1 => .inr (2, [.ref (B + 2), .ref (B + 3), .ref (B + 4), .ref (B + 5), .ref (B + 6), .ref (B + 7), .int (f 6)])
  | 2 => .inl (false, 12, f)
  | 3 => .inl (false, 12, f)
  | 4 => .inl (false, 12, f)
  | 5 => .inl (false, 12, f)
  | 6 => .inl (false, 12, f)
  | 7 => .inl (false, 12, f)
  | 8 => .inr (3, [.ref (B + 9), .ref (B + 10), .ref (B + 11), .ref (B + 12), .ref (B + 13), .ref (B + 14), .int (f 6)])
  | 9 => .inl (false, 20, f)
  | 10 => .inl (false, 20, f)
  | 11 => .inl (false, 20, f)
  | 12 => .inl (false, 20, f)
  | 13 => .inl (false, 20, f)
  | 14 => .inl (false, 12, f)
  | 15 => .inr (4, [.ref (B + 16), .int (f 1)])
  | 16 => .inl (false, 6, f)
  | 17 => .inr (5, [.ref (B + 18)])
  | 18 => .inl (false, 8, f)
  | 19 => .inr (6, [.ref (B + 20), .ref (B + 21), .ref (B + 22), .ref (B + 23), .ref (B + 24), .ref (B + 25), .ref (B + 26), .ref (B + 27), .ref (B + 28), .int (f 9)])
  | 20 => .inl (false, 4, f)
  | 21 => .inl (false, 4, f)
  | 22 => .inl (false, 4, f)
  | 23 => .inl (false, 4, f)
  | 24 => .inl (false, 4, f)
  | 25 => .inl (false, 4, f)
  | 26 => .inl (false, 4, f)
  | 27 => .inl (false, 4, f)
  | 28 => .inl (false, 48, f)
  | 29 => .inr (7, [.ref (B + 30), .ref (B + 31), .ref (B + 32), .ref (B + 33), .ref (B + 34), .int (f 5)])
  | 30 => .inl (false, 10, f)
  | 31 => .inl (false, 10, f)
  | 32 => .inl (false, 10, f)
  | 33 => .inl (false, 10, f)
  | 34 => .inl (false, 10, f)
  | 35 => .inr (8, [.ref (B + 36), .ref (B + 37), .ref (B + 38), .ref (B + 39), .ref (B + 40), .int (f 5), .int (f 6)])
  | 36 => .inl (false, 40, f)
  | 37 => .inl (false, 40, f)
  | 38 => .inl (false, 40, f)
  | 39 => .inl (false, 40, f)
  | 40 => .inl (false, 40, f)
  | 41 => .inr (9, [.ref (B + 42), .ref st, .int (f 2)])
  | _ => .inl (false, 720, f)
abbrev Mus (h : mH) (B st : Nat) (M : Nat → Nat → Int32) : Prop := Reg h B 43 (musC B st) M
theorem um_0 {h : mH} {B st : Nat} {M : Nat → Nat → Int32} (hM : Mus h B st M) : m_get h B = some (.inr (1, [.ref (B + 1), .ref (B + 8), .ref (B + 15), .ref (B + 17), .ref (B + 19), .ref (B + 29), .ref (B + 35), .ref (B + 41), .int (M 0 8), .int (M 0 9)])) := hM 0 (by decide)
theorem um_1 {h : mH} {B st : Nat} {M : Nat → Nat → Int32} (hM : Mus h B st M) : m_get h (B + 1) = some (.inr (2, [.ref (B + 2), .ref (B + 3), .ref (B + 4), .ref (B + 5), .ref (B + 6), .ref (B + 7), .int (M 1 6)])) := hM 1 (by decide)
theorem um_2 {h : mH} {B st : Nat} {M : Nat → Nat → Int32} (hM : Mus h B st M) : m_get h (B + 2) = some (.inl (false, 12, M 2)) := hM 2 (by decide)
theorem um_3 {h : mH} {B st : Nat} {M : Nat → Nat → Int32} (hM : Mus h B st M) : m_get h (B + 3) = some (.inl (false, 12, M 3)) := hM 3 (by decide)
theorem um_4 {h : mH} {B st : Nat} {M : Nat → Nat → Int32} (hM : Mus h B st M) : m_get h (B + 4) = some (.inl (false, 12, M 4)) := hM 4 (by decide)
theorem um_5 {h : mH} {B st : Nat} {M : Nat → Nat → Int32} (hM : Mus h B st M) : m_get h (B + 5) = some (.inl (false, 12, M 5)) := hM 5 (by decide)
theorem um_6 {h : mH} {B st : Nat} {M : Nat → Nat → Int32} (hM : Mus h B st M) : m_get h (B + 6) = some (.inl (false, 12, M 6)) := hM 6 (by decide)
theorem um_7 {h : mH} {B st : Nat} {M : Nat → Nat → Int32} (hM : Mus h B st M) : m_get h (B + 7) = some (.inl (false, 12, M 7)) := hM 7 (by decide)
theorem um_8 {h : mH} {B st : Nat} {M : Nat → Nat → Int32} (hM : Mus h B st M) : m_get h (B + 8) = some (.inr (3, [.ref (B + 9), .ref (B + 10), .ref (B + 11), .ref (B + 12), .ref (B + 13), .ref (B + 14), .int (M 8 6)])) := hM 8 (by decide)
theorem um_9 {h : mH} {B st : Nat} {M : Nat → Nat → Int32} (hM : Mus h B st M) : m_get h (B + 9) = some (.inl (false, 20, M 9)) := hM 9 (by decide)
theorem um_10 {h : mH} {B st : Nat} {M : Nat → Nat → Int32} (hM : Mus h B st M) : m_get h (B + 10) = some (.inl (false, 20, M 10)) := hM 10 (by decide)
theorem um_11 {h : mH} {B st : Nat} {M : Nat → Nat → Int32} (hM : Mus h B st M) : m_get h (B + 11) = some (.inl (false, 20, M 11)) := hM 11 (by decide)
theorem um_12 {h : mH} {B st : Nat} {M : Nat → Nat → Int32} (hM : Mus h B st M) : m_get h (B + 12) = some (.inl (false, 20, M 12)) := hM 12 (by decide)
theorem um_13 {h : mH} {B st : Nat} {M : Nat → Nat → Int32} (hM : Mus h B st M) : m_get h (B + 13) = some (.inl (false, 20, M 13)) := hM 13 (by decide)
theorem um_14 {h : mH} {B st : Nat} {M : Nat → Nat → Int32} (hM : Mus h B st M) : m_get h (B + 14) = some (.inl (false, 12, M 14)) := hM 14 (by decide)
theorem um_15 {h : mH} {B st : Nat} {M : Nat → Nat → Int32} (hM : Mus h B st M) : m_get h (B + 15) = some (.inr (4, [.ref (B + 16), .int (M 15 1)])) := hM 15 (by decide)
theorem um_16 {h : mH} {B st : Nat} {M : Nat → Nat → Int32} (hM : Mus h B st M) : m_get h (B + 16) = some (.inl (false, 6, M 16)) := hM 16 (by decide)
theorem um_17 {h : mH} {B st : Nat} {M : Nat → Nat → Int32} (hM : Mus h B st M) : m_get h (B + 17) = some (.inr (5, [.ref (B + 18)])) := hM 17 (by decide)
theorem um_18 {h : mH} {B st : Nat} {M : Nat → Nat → Int32} (hM : Mus h B st M) : m_get h (B + 18) = some (.inl (false, 8, M 18)) := hM 18 (by decide)
theorem um_19 {h : mH} {B st : Nat} {M : Nat → Nat → Int32} (hM : Mus h B st M) : m_get h (B + 19) = some (.inr (6, [.ref (B + 20), .ref (B + 21), .ref (B + 22), .ref (B + 23), .ref (B + 24), .ref (B + 25), .ref (B + 26), .ref (B + 27), .ref (B + 28), .int (M 19 9)])) := hM 19 (by decide)
theorem um_20 {h : mH} {B st : Nat} {M : Nat → Nat → Int32} (hM : Mus h B st M) : m_get h (B + 20) = some (.inl (false, 4, M 20)) := hM 20 (by decide)
theorem um_21 {h : mH} {B st : Nat} {M : Nat → Nat → Int32} (hM : Mus h B st M) : m_get h (B + 21) = some (.inl (false, 4, M 21)) := hM 21 (by decide)
theorem um_22 {h : mH} {B st : Nat} {M : Nat → Nat → Int32} (hM : Mus h B st M) : m_get h (B + 22) = some (.inl (false, 4, M 22)) := hM 22 (by decide)
theorem um_23 {h : mH} {B st : Nat} {M : Nat → Nat → Int32} (hM : Mus h B st M) : m_get h (B + 23) = some (.inl (false, 4, M 23)) := hM 23 (by decide)
theorem um_24 {h : mH} {B st : Nat} {M : Nat → Nat → Int32} (hM : Mus h B st M) : m_get h (B + 24) = some (.inl (false, 4, M 24)) := hM 24 (by decide)
theorem um_25 {h : mH} {B st : Nat} {M : Nat → Nat → Int32} (hM : Mus h B st M) : m_get h (B + 25) = some (.inl (false, 4, M 25)) := hM 25 (by decide)
theorem um_26 {h : mH} {B st : Nat} {M : Nat → Nat → Int32} (hM : Mus h B st M) : m_get h (B + 26) = some (.inl (false, 4, M 26)) := hM 26 (by decide)
theorem um_27 {h : mH} {B st : Nat} {M : Nat → Nat → Int32} (hM : Mus h B st M) : m_get h (B + 27) = some (.inl (false, 4, M 27)) := hM 27 (by decide)
theorem um_28 {h : mH} {B st : Nat} {M : Nat → Nat → Int32} (hM : Mus h B st M) : m_get h (B + 28) = some (.inl (false, 48, M 28)) := hM 28 (by decide)
theorem um_29 {h : mH} {B st : Nat} {M : Nat → Nat → Int32} (hM : Mus h B st M) : m_get h (B + 29) = some (.inr (7, [.ref (B + 30), .ref (B + 31), .ref (B + 32), .ref (B + 33), .ref (B + 34), .int (M 29 5)])) := hM 29 (by decide)
theorem um_30 {h : mH} {B st : Nat} {M : Nat → Nat → Int32} (hM : Mus h B st M) : m_get h (B + 30) = some (.inl (false, 10, M 30)) := hM 30 (by decide)
theorem um_31 {h : mH} {B st : Nat} {M : Nat → Nat → Int32} (hM : Mus h B st M) : m_get h (B + 31) = some (.inl (false, 10, M 31)) := hM 31 (by decide)
theorem um_32 {h : mH} {B st : Nat} {M : Nat → Nat → Int32} (hM : Mus h B st M) : m_get h (B + 32) = some (.inl (false, 10, M 32)) := hM 32 (by decide)
theorem um_33 {h : mH} {B st : Nat} {M : Nat → Nat → Int32} (hM : Mus h B st M) : m_get h (B + 33) = some (.inl (false, 10, M 33)) := hM 33 (by decide)
theorem um_34 {h : mH} {B st : Nat} {M : Nat → Nat → Int32} (hM : Mus h B st M) : m_get h (B + 34) = some (.inl (false, 10, M 34)) := hM 34 (by decide)
theorem um_35 {h : mH} {B st : Nat} {M : Nat → Nat → Int32} (hM : Mus h B st M) : m_get h (B + 35) = some (.inr (8, [.ref (B + 36), .ref (B + 37), .ref (B + 38), .ref (B + 39), .ref (B + 40), .int (M 35 5), .int (M 35 6)])) := hM 35 (by decide)
theorem um_36 {h : mH} {B st : Nat} {M : Nat → Nat → Int32} (hM : Mus h B st M) : m_get h (B + 36) = some (.inl (false, 40, M 36)) := hM 36 (by decide)
theorem um_37 {h : mH} {B st : Nat} {M : Nat → Nat → Int32} (hM : Mus h B st M) : m_get h (B + 37) = some (.inl (false, 40, M 37)) := hM 37 (by decide)
theorem um_38 {h : mH} {B st : Nat} {M : Nat → Nat → Int32} (hM : Mus h B st M) : m_get h (B + 38) = some (.inl (false, 40, M 38)) := hM 38 (by decide)
theorem um_39 {h : mH} {B st : Nat} {M : Nat → Nat → Int32} (hM : Mus h B st M) : m_get h (B + 39) = some (.inl (false, 40, M 39)) := hM 39 (by decide)
theorem um_40 {h : mH} {B st : Nat} {M : Nat → Nat → Int32} (hM : Mus h B st M) : m_get h (B + 40) = some (.inl (false, 40, M 40)) := hM 40 (by decide)
theorem um_41 {h : mH} {B st : Nat} {M : Nat → Nat → Int32} (hM : Mus h B st M) : m_get h (B + 41) = some (.inr (9, [.ref (B + 42), .ref st, .int (M 41 2)])) := hM 41 (by decide)
theorem um_42 {h : mH} {B st : Nat} {M : Nat → Nat → Int32} (hM : Mus h B st M) : m_get h (B + 42) = some (.inl (false, 720, M 42)) := hM 42 (by decide)
theorem updM_same {M : Nat → Nat → Int32} {o i : Nat} {v : Int32} : updM M o i v o i = v := by
  unfold updM upd
  rw [if_pos rfl, if_pos rfl]
theorem updM_diff {M : Nat → Nat → Int32} {o i o2 i2 : Nat} {v : Int32} (h : o2 ≠ o ∨ i2 ≠ i) : updM M o i v o2 i2 = M o2 i2 := by
  unfold updM upd
  by_cases h1 : o2 = o
  · subst h1
    rw [if_pos rfl, if_neg (by omega)]
  · rw [if_neg h1]
theorem Mus.put {h : mH} {B st o i : Nat} {M : Nat → Nat → Int32} {v : Int32} {cl : mC} (hM : Mus h B st M) (ho : o < 43) (hc : musC B st o (upd (M o) i v) = cl) : Mus (m_set h (B + o) cl) B st (updM M o i v) := by
  rw [updM_eq]
  exact Reg.setM hM ho hc
theorem u_step {X : mX} {j pc : Nat} {L : mL} {st : List Value} {h0 h : mH} {Q : Option Value → mH → Prop} {B sa o i : Nat} {M : Nat → Nat → Int32} {v : Int32} {cl : mC} (hM : Mus h B sa M) (hF : Frm h0 h B 43) (ho : o < 43) (hc : musC B sa o (upd (M o) i v) = cl) (K : ∀ h1, Mus h1 B sa (updM M o i v) → Frm h0 h1 B 43 → m_wp X j pc L st h1 Q) : m_wp X j pc L st (m_set h (B + o) cl) Q :=
  K _ (Mus.put hM ho hc) (hF.trans (Frm.set ho))
/-- a method of the class that changes a museum's own cells -/
abbrev DoesU (X : mX) (j : Nat) (as : List Value) (h : mH) (B st : Nat) (M : Nat → Nat → Int32) (v : Option Value) : Prop := m_wp X j 0 (m_entry j as) [] h (fun w h1 => w = v ∧ Mus h1 B st M ∧ Frm h h1 B 43)
section WPV
variable {X : mX} {j pc : Nat} {L : mL} {st rest : List Value} {h0 h : mH} {Q : Option Value → mH → Prop} {B sa : Nat} {M : Nat → Nat → Int32}
theorem wp_invvU {idx e j2 a ci n : Nat} {fs : List Value} {asr as : List Value} {st0 : List Value} (hd : decode (m_code j) pc = .ok (.invokevirtual idx, 3)) (hf : m_findM (m_own j) idx = some (e, 2, j2)) (hn : m_np j2 = n) (ht : st0.take n = asr) (hdr : st0.drop n = .ref a :: rest) (has : asr.reverse = as)
    (hg : m_get h a = some (.inr (ci, fs))) (hc : (m_clsQ ci).1 = (m_y j2).cls ∧ ci < m_cls.length) (h1 : rest.length ≤ 8) (h2 : rest.all m_c1 = true) (h3 : as.all m_c1 = true) (h4 : as.length + 1 ≤ m_nl j2) (h5 : m_fr j2 + 1 + m_nl j2 / 10 ≤ m_fr j)
    (hC : DoesU X j2 (.ref a :: as) h B sa M none) (hF : Frm h0 h B 43) (K : ∀ h1, Mus h1 B sa M → Frm h0 h1 B 43 → m_wp X j (pc + 3) L rest h1 Q) : m_wp X j pc L st0 h Q :=
  wp_invv hd hf hn ht hdr has hg hc h1 h2 h3 h4 h5 hC (fun v h1 hq => by rw [hq.1]; exact K h1 hq.2.1 (hF.trans hq.2.2))
theorem wp_invvUI {idx e j2 a ci n : Nat} {fs : List Value} {asr as : List Value} {st0 : List Value} {x : Int32} (hd : decode (m_code j) pc = .ok (.invokevirtual idx, 3)) (hf : m_findM (m_own j) idx = some (e, 2, j2)) (hn : m_np j2 = n) (ht : st0.take n = asr) (hdr : st0.drop n = .ref a :: rest) (has : asr.reverse = as)
    (hg : m_get h a = some (.inr (ci, fs))) (hc : (m_clsQ ci).1 = (m_y j2).cls ∧ ci < m_cls.length) (h1 : rest.length ≤ 8) (h2 : rest.all m_c1 = true) (h3 : as.all m_c1 = true) (h4 : as.length + 1 ≤ m_nl j2) (h5 : m_fr j2 + 1 + m_nl j2 / 10 ≤ m_fr j)
    (hC : DoesU X j2 (.ref a :: as) h B sa M (some (.int x))) (hF : Frm h0 h B 43) (K : ∀ h1, Mus h1 B sa M → Frm h0 h1 B 43 → m_wp X j (pc + 3) L (.int x :: rest) h1 Q) : m_wp X j pc L st0 h Q :=
  wp_invv hd hf hn ht hdr has hg hc h1 h2 h3 h4 h5 hC (fun v h1 hq => by rw [hq.1]; exact K h1 hq.2.1 (hF.trans hq.2.2))
end WPV
theorem s_isZone {X : mX} {h : mH} (x : Int32) : Tells X 15 [.int (x)] h (m_b (nI 0 ≤ x ∧ x < nI 6)) := by
  refine wp_iload_n d15_0 rfl ?_
  refine wp_if_lt d15_1 (tgt := 14) (by decide) (fun hc1 => ?_) (fun hc1 => ?_)
  · refine wp_iconst d15_14 (v := nI 0) (by decide) ?_
    refine wp_zret d15_15 (by decide +kernel) (by decide) ?_
    exact ⟨congrArg (fun z => some (Value.int z)) (m_b_f (fun q => absurd q.1 (Int32.not_le.mpr hc1))).symm, rfl⟩
  · refine wp_iload_n d15_4 rfl ?_
    refine wp_bipush d15_5 (v := nI 6) (by decide) ?_
    refine wp_icmp_ge d15_7 (tgt := 14) (by decide) (fun hc7 => ?_) (fun hc7 => ?_)
    · refine wp_iconst d15_14 (v := nI 0) (by decide) ?_
      refine wp_zret d15_15 (by decide +kernel) (by decide) ?_
      exact ⟨congrArg (fun z => some (Value.int z)) (m_b_f (fun q => absurd q.2 (Int32.not_lt.mpr hc7))).symm, rfl⟩
    · refine wp_iconst d15_10 (v := nI 1) (by decide) ?_
      refine wp_goto d15_11 (tgt := 15) (by decide) ?_
      refine wp_zret d15_15 (by decide +kernel) (by decide) ?_
      exact ⟨congrArg (fun z => some (Value.int z)) (m_b_t ⟨Int32.not_lt.mp hc1, Int32.not_le.mp hc7⟩).symm, rfl⟩
theorem s_isKey {X : mX} {h : mH} (x : Int32) : Tells X 37 [.int (x)] h (m_b (nI 0 ≤ x ∧ x < nI 8)) := by
  refine wp_iload_n d37_0 rfl ?_
  refine wp_if_lt d37_1 (tgt := 14) (by decide) (fun hc1 => ?_) (fun hc1 => ?_)
  · refine wp_iconst d37_14 (v := nI 0) (by decide) ?_
    refine wp_zret d37_15 (by decide +kernel) (by decide) ?_
    exact ⟨congrArg (fun z => some (Value.int z)) (m_b_f (fun q => absurd q.1 (Int32.not_le.mpr hc1))).symm, rfl⟩
  · refine wp_iload_n d37_4 rfl ?_
    refine wp_bipush d37_5 (v := nI 8) (by decide) ?_
    refine wp_icmp_ge d37_7 (tgt := 14) (by decide) (fun hc7 => ?_) (fun hc7 => ?_)
    · refine wp_iconst d37_14 (v := nI 0) (by decide) ?_
      refine wp_zret d37_15 (by decide +kernel) (by decide) ?_
      exact ⟨congrArg (fun z => some (Value.int z)) (m_b_f (fun q => absurd q.2 (Int32.not_lt.mpr hc7))).symm, rfl⟩
    · refine wp_iconst d37_10 (v := nI 1) (by decide) ?_
      refine wp_goto d37_11 (tgt := 15) (by decide) ?_
      refine wp_zret d37_15 (by decide +kernel) (by decide) ?_
      exact ⟨congrArg (fun z => some (Value.int z)) (m_b_t ⟨Int32.not_lt.mp hc1, Int32.not_le.mp hc7⟩).symm, rfl⟩
theorem s_within {X : mX} {h : mH} (x lo hi : Int32) : Tells X 16 [.int (x), .int (lo), .int (hi)] h (m_b (lo ≤ x ∧ x ≤ hi)) := by
  refine wp_iload_n d16_0 rfl ?_
  refine wp_iload_n d16_1 rfl ?_
  refine wp_icmp_lt d16_2 (tgt := 14) (by decide) (fun hc2 => ?_) (fun hc2 => ?_)
  · refine wp_iconst d16_14 (v := nI 0) (by decide) ?_
    refine wp_zret d16_15 (by decide +kernel) (by decide) ?_
    exact ⟨congrArg (fun z => some (Value.int z)) (m_b_f (fun q => absurd q.1 (Int32.not_le.mpr hc2))).symm, rfl⟩
  · refine wp_iload_n d16_5 rfl ?_
    refine wp_iload_n d16_6 rfl ?_
    refine wp_icmp_gt d16_7 (tgt := 14) (by decide) (fun hc7 => ?_) (fun hc7 => ?_)
    · refine wp_iconst d16_14 (v := nI 0) (by decide) ?_
      refine wp_zret d16_15 (by decide +kernel) (by decide) ?_
      exact ⟨congrArg (fun z => some (Value.int z)) (m_b_f (fun q => absurd q.2 (Int32.not_le.mpr hc7))).symm, rfl⟩
    · refine wp_iconst d16_10 (v := nI 1) (by decide) ?_
      refine wp_goto d16_11 (tgt := 15) (by decide) ?_
      refine wp_zret d16_15 (by decide +kernel) (by decide) ?_
      exact ⟨congrArg (fun z => some (Value.int z)) (m_b_t ⟨Int32.not_lt.mp hc2, Int32.not_lt.mp hc7⟩).symm, rfl⟩
theorem u_has1 {X : mX} {h : mH} {B st : Nat} {M : Nat → Nat → Int32} (hM : Mus h B st M) {n : Nat} (hn : M 1 6 = nI n) (hn2 : n ≤ 12) (x : Int32) : Tells X 35 [.ref (B + 1), .int (x)] h (m_b (nI 0 ≤ x ∧ x < nI n)) := by
  refine wp_iload_n d35_0 rfl ?_
  refine wp_if_lt d35_1 (tgt := 16) (by decide) (fun hc1 => ?_) (fun hc1 => ?_)
  · refine wp_iconst d35_16 (v := nI 0) (by decide) ?_
    refine wp_zret d35_17 (by decide +kernel) (by decide) ?_
    exact ⟨congrArg (fun z => some (Value.int z)) (m_b_f (fun q => absurd q.1 (Int32.not_le.mpr hc1))).symm, rfl⟩
  · refine wp_iload_n d35_4 rfl ?_
    refine wp_aload_n d35_5 rfl ?_
    refine wp_getf (e := 30) (ci := 2) (k := 6) (nest := false) (v := .int (nI n)) d35_6 (by decide +kernel) (um_1 hM) (congrArg (fun z => some (Value.int z)) hn) ?_
    refine wp_icmp_ge d35_9 (tgt := 16) (by decide) (fun hc9 => ?_) (fun hc9 => ?_)
    · refine wp_iconst d35_16 (v := nI 0) (by decide) ?_
      refine wp_zret d35_17 (by decide +kernel) (by decide) ?_
      exact ⟨congrArg (fun z => some (Value.int z)) (m_b_f (fun q => absurd q.2 (Int32.not_lt.mpr hc9))).symm, rfl⟩
    · refine wp_iconst d35_12 (v := nI 1) (by decide) ?_
      refine wp_goto d35_13 (tgt := 17) (by decide) ?_
      refine wp_zret d35_17 (by decide +kernel) (by decide) ?_
      exact ⟨congrArg (fun z => some (Value.int z)) (m_b_t ⟨Int32.not_lt.mp hc1, Int32.not_le.mp hc9⟩).symm, rfl⟩
theorem u_size1 {X : mX} {h : mH} {B st : Nat} {M : Nat → Nat → Int32} (hM : Mus h B st M) {n : Nat} (hn : M 1 6 = nI n) (hn2 : n ≤ 12) : Tells X 17 [.ref (B + 1)] h (nI n) := by
  refine wp_aload_n d17_0 rfl ?_
  refine wp_getf (e := 30) (ci := 2) (k := 6) (nest := false) (v := .int (nI n)) d17_1 (by decide +kernel) (um_1 hM) (congrArg (fun z => some (Value.int z)) hn) ?_
  refine wp_iret d17_4 (by decide +kernel) ?_
  exact ⟨rfl, rfl⟩
theorem u_has8 {X : mX} {h : mH} {B st : Nat} {M : Nat → Nat → Int32} (hM : Mus h B st M) {n : Nat} (hn : M 8 6 = nI n) (hn2 : n ≤ 20) (x : Int32) : Tells X 94 [.ref (B + 8), .int (x)] h (m_b (nI 0 ≤ x ∧ x < nI n)) := by
  refine wp_iload_n d94_0 rfl ?_
  refine wp_if_lt d94_1 (tgt := 16) (by decide) (fun hc1 => ?_) (fun hc1 => ?_)
  · refine wp_iconst d94_16 (v := nI 0) (by decide) ?_
    refine wp_zret d94_17 (by decide +kernel) (by decide) ?_
    exact ⟨congrArg (fun z => some (Value.int z)) (m_b_f (fun q => absurd q.1 (Int32.not_le.mpr hc1))).symm, rfl⟩
  · refine wp_iload_n d94_4 rfl ?_
    refine wp_aload_n d94_5 rfl ?_
    refine wp_getf (e := 30) (ci := 3) (k := 6) (nest := false) (v := .int (nI n)) d94_6 (by decide +kernel) (um_8 hM) (congrArg (fun z => some (Value.int z)) hn) ?_
    refine wp_icmp_ge d94_9 (tgt := 16) (by decide) (fun hc9 => ?_) (fun hc9 => ?_)
    · refine wp_iconst d94_16 (v := nI 0) (by decide) ?_
      refine wp_zret d94_17 (by decide +kernel) (by decide) ?_
      exact ⟨congrArg (fun z => some (Value.int z)) (m_b_f (fun q => absurd q.2 (Int32.not_lt.mpr hc9))).symm, rfl⟩
    · refine wp_iconst d94_12 (v := nI 1) (by decide) ?_
      refine wp_goto d94_13 (tgt := 17) (by decide) ?_
      refine wp_zret d94_17 (by decide +kernel) (by decide) ?_
      exact ⟨congrArg (fun z => some (Value.int z)) (m_b_t ⟨Int32.not_lt.mp hc1, Int32.not_le.mp hc9⟩).symm, rfl⟩
theorem u_size8 {X : mX} {h : mH} {B st : Nat} {M : Nat → Nat → Int32} (hM : Mus h B st M) {n : Nat} (hn : M 8 6 = nI n) (hn2 : n ≤ 20) : Tells X 39 [.ref (B + 8)] h (nI n) := by
  refine wp_aload_n d39_0 rfl ?_
  refine wp_getf (e := 30) (ci := 3) (k := 6) (nest := false) (v := .int (nI n)) d39_1 (by decide +kernel) (um_8 hM) (congrArg (fun z => some (Value.int z)) hn) ?_
  refine wp_iret d39_4 (by decide +kernel) ?_
  exact ⟨rfl, rfl⟩
theorem u_has19 {X : mX} {h : mH} {B st : Nat} {M : Nat → Nat → Int32} (hM : Mus h B st M) {n : Nat} (hn : M 19 9 = nI n) (hn2 : n ≤ 4) (x : Int32) : Tells X 59 [.ref (B + 19), .int (x)] h (m_b (nI 0 ≤ x ∧ x < nI n)) := by
  refine wp_iload_n d59_0 rfl ?_
  refine wp_if_lt d59_1 (tgt := 16) (by decide) (fun hc1 => ?_) (fun hc1 => ?_)
  · refine wp_iconst d59_16 (v := nI 0) (by decide) ?_
    refine wp_zret d59_17 (by decide +kernel) (by decide) ?_
    exact ⟨congrArg (fun z => some (Value.int z)) (m_b_f (fun q => absurd q.1 (Int32.not_le.mpr hc1))).symm, rfl⟩
  · refine wp_iload_n d59_4 rfl ?_
    refine wp_aload_n d59_5 rfl ?_
    refine wp_getf (e := 39) (ci := 6) (k := 9) (nest := false) (v := .int (nI n)) d59_6 (by decide +kernel) (um_19 hM) (congrArg (fun z => some (Value.int z)) hn) ?_
    refine wp_icmp_ge d59_9 (tgt := 16) (by decide) (fun hc9 => ?_) (fun hc9 => ?_)
    · refine wp_iconst d59_16 (v := nI 0) (by decide) ?_
      refine wp_zret d59_17 (by decide +kernel) (by decide) ?_
      exact ⟨congrArg (fun z => some (Value.int z)) (m_b_f (fun q => absurd q.2 (Int32.not_lt.mpr hc9))).symm, rfl⟩
    · refine wp_iconst d59_12 (v := nI 1) (by decide) ?_
      refine wp_goto d59_13 (tgt := 17) (by decide) ?_
      refine wp_zret d59_17 (by decide +kernel) (by decide) ?_
      exact ⟨congrArg (fun z => some (Value.int z)) (m_b_t ⟨Int32.not_lt.mp hc1, Int32.not_le.mp hc9⟩).symm, rfl⟩
theorem u_size19 {X : mX} {h : mH} {B st : Nat} {M : Nat → Nat → Int32} (hM : Mus h B st M) {n : Nat} (hn : M 19 9 = nI n) (hn2 : n ≤ 4) : Tells X 57 [.ref (B + 19)] h (nI n) := by
  refine wp_aload_n d57_0 rfl ?_
  refine wp_getf (e := 39) (ci := 6) (k := 9) (nest := false) (v := .int (nI n)) d57_1 (by decide +kernel) (um_19 hM) (congrArg (fun z => some (Value.int z)) hn) ?_
  refine wp_iret d57_4 (by decide +kernel) ?_
  exact ⟨rfl, rfl⟩
theorem u_has29 {X : mX} {h : mH} {B st : Nat} {M : Nat → Nat → Int32} (hM : Mus h B st M) {n : Nat} (hn : M 29 5 = nI n) (hn2 : n ≤ 10) (x : Int32) : Tells X 87 [.ref (B + 29), .int (x)] h (m_b (nI 0 ≤ x ∧ x < nI n)) := by
  refine wp_iload_n d87_0 rfl ?_
  refine wp_if_lt d87_1 (tgt := 16) (by decide) (fun hc1 => ?_) (fun hc1 => ?_)
  · refine wp_iconst d87_16 (v := nI 0) (by decide) ?_
    refine wp_zret d87_17 (by decide +kernel) (by decide) ?_
    exact ⟨congrArg (fun z => some (Value.int z)) (m_b_f (fun q => absurd q.1 (Int32.not_le.mpr hc1))).symm, rfl⟩
  · refine wp_iload_n d87_4 rfl ?_
    refine wp_aload_n d87_5 rfl ?_
    refine wp_getf (e := 27) (ci := 7) (k := 5) (nest := false) (v := .int (nI n)) d87_6 (by decide +kernel) (um_29 hM) (congrArg (fun z => some (Value.int z)) hn) ?_
    refine wp_icmp_ge d87_9 (tgt := 16) (by decide) (fun hc9 => ?_) (fun hc9 => ?_)
    · refine wp_iconst d87_16 (v := nI 0) (by decide) ?_
      refine wp_zret d87_17 (by decide +kernel) (by decide) ?_
      exact ⟨congrArg (fun z => some (Value.int z)) (m_b_f (fun q => absurd q.2 (Int32.not_lt.mpr hc9))).symm, rfl⟩
    · refine wp_iconst d87_12 (v := nI 1) (by decide) ?_
      refine wp_goto d87_13 (tgt := 17) (by decide) ?_
      refine wp_zret d87_17 (by decide +kernel) (by decide) ?_
      exact ⟨congrArg (fun z => some (Value.int z)) (m_b_t ⟨Int32.not_lt.mp hc1, Int32.not_le.mp hc9⟩).symm, rfl⟩
theorem u_size29 {X : mX} {h : mH} {B st : Nat} {M : Nat → Nat → Int32} (hM : Mus h B st M) {n : Nat} (hn : M 29 5 = nI n) (hn2 : n ≤ 10) : Tells X 84 [.ref (B + 29)] h (nI n) := by
  refine wp_aload_n d84_0 rfl ?_
  refine wp_getf (e := 27) (ci := 7) (k := 5) (nest := false) (v := .int (nI n)) d84_1 (by decide +kernel) (um_29 hM) (congrArg (fun z => some (Value.int z)) hn) ?_
  refine wp_iret d84_4 (by decide +kernel) ?_
  exact ⟨rfl, rfl⟩
theorem u_has35 {X : mX} {h : mH} {B st : Nat} {M : Nat → Nat → Int32} (hM : Mus h B st M) {n : Nat} (hn : M 35 5 = nI n) (hn2 : n ≤ 40) (x : Int32) : Tells X 99 [.ref (B + 35), .int (x)] h (m_b (nI 0 ≤ x ∧ x < nI n)) := by
  refine wp_iload_n d99_0 rfl ?_
  refine wp_if_lt d99_1 (tgt := 16) (by decide) (fun hc1 => ?_) (fun hc1 => ?_)
  · refine wp_iconst d99_16 (v := nI 0) (by decide) ?_
    refine wp_zret d99_17 (by decide +kernel) (by decide) ?_
    exact ⟨congrArg (fun z => some (Value.int z)) (m_b_f (fun q => absurd q.1 (Int32.not_le.mpr hc1))).symm, rfl⟩
  · refine wp_iload_n d99_4 rfl ?_
    refine wp_aload_n d99_5 rfl ?_
    refine wp_getf (e := 27) (ci := 8) (k := 5) (nest := false) (v := .int (nI n)) d99_6 (by decide +kernel) (um_35 hM) (congrArg (fun z => some (Value.int z)) hn) ?_
    refine wp_icmp_ge d99_9 (tgt := 16) (by decide) (fun hc9 => ?_) (fun hc9 => ?_)
    · refine wp_iconst d99_16 (v := nI 0) (by decide) ?_
      refine wp_zret d99_17 (by decide +kernel) (by decide) ?_
      exact ⟨congrArg (fun z => some (Value.int z)) (m_b_f (fun q => absurd q.2 (Int32.not_lt.mpr hc9))).symm, rfl⟩
    · refine wp_iconst d99_12 (v := nI 1) (by decide) ?_
      refine wp_goto d99_13 (tgt := 17) (by decide) ?_
      refine wp_zret d99_17 (by decide +kernel) (by decide) ?_
      exact ⟨congrArg (fun z => some (Value.int z)) (m_b_t ⟨Int32.not_lt.mp hc1, Int32.not_le.mp hc9⟩).symm, rfl⟩
theorem u_size35 {X : mX} {h : mH} {B st : Nat} {M : Nat → Nat → Int32} (hM : Mus h B st M) {n : Nat} (hn : M 35 5 = nI n) (hn2 : n ≤ 40) : Tells X 202 [.ref (B + 35)] h (nI n) := by
  refine wp_aload_n d202_0 rfl ?_
  refine wp_getf (e := 27) (ci := 8) (k := 5) (nest := false) (v := .int (nI n)) d202_1 (by decide +kernel) (um_35 hM) (congrArg (fun z => some (Value.int z)) hn) ?_
  refine wp_iret d202_4 (by decide +kernel) ?_
  exact ⟨rfl, rfl⟩
theorem u_a60 {X : mX} {h : mH} {B st : Nat} {M : Nat → Nat → Int32} (hM : Mus h B st M) {n : Nat} (hn : M 1 6 = nI n) (hn2 : n ≤ 12) {r : Nat} (hr : r < n) : Tells X 60 [.ref (B + 1), .int (nI r)] h (M 2 r) := by
  refine wp_aload_n d60_0 rfl ?_
  refine wp_iload_n d60_1 rfl ?_
  refine wp_invvT (e := 50) (j2 := 35) (n := 1) d60_2 (by decide +kernel) (by decide +kernel) rfl rfl rfl (um_1 hM) (by decide +kernel) (Nat.le_of_ble_eq_true rfl) rfl rfl (Nat.le_of_ble_eq_true rfl) (by decide +kernel) (u_has1 hM hn (by omega) (nI r)) ?_
  refine wp_ifb_eq d60_5 (tgt := 17) (by decide) (fun hq9 => absurd (⟨nI_le (by omega) (by omega), nI_lt (by omega) (by omega)⟩ : nI 0 ≤ nI r ∧ nI r < nI n) hq9) (fun _ => ?_)
  refine wp_aload_n d60_8 rfl ?_
  refine wp_getf (e := 9) (ci := 2) (k := 0) (nest := false) d60_9 (by decide +kernel) (um_1 hM) rfl ?_
  refine wp_iload_n d60_12 rfl ?_
  refine wp_iald d60_13 (um_2 hM) (nI_in (by omega) (by decide)) (v := M 2 r) ((congrArg (M 2) (nI_nat (by omega))).trans rfl) ?_
  refine wp_goto d60_14 (tgt := 19) (by decide) ?_
  refine wp_iret d60_19 (by decide +kernel) ?_
  exact ⟨rfl, rfl⟩
theorem u_o60 {X : mX} {h : mH} {B st : Nat} {M : Nat → Nat → Int32} (hM : Mus h B st M) {n : Nat} (hn : M 1 6 = nI n) (hn2 : n ≤ 12) {x : Int32} (hx : ¬ (nI 0 ≤ x ∧ x < nI n)) : Tells X 60 [.ref (B + 1), .int (x)] h (-5) := by
  refine wp_aload_n d60_0 rfl ?_
  refine wp_iload_n d60_1 rfl ?_
  refine wp_invvT (e := 50) (j2 := 35) (n := 1) d60_2 (by decide +kernel) (by decide +kernel) rfl rfl rfl (um_1 hM) (by decide +kernel) (Nat.le_of_ble_eq_true rfl) rfl rfl (Nat.le_of_ble_eq_true rfl) (by decide +kernel) (u_has1 hM hn (by omega) (x)) ?_
  refine wp_ifb_eq d60_5 (tgt := 17) (by decide) (fun _ => ?_) (fun hq9 => absurd hq9 hx)
  refine wp_bipush d60_17 (v := (-5 : Int32)) (by decide) ?_
  refine wp_iret d60_19 (by decide +kernel) ?_
  exact ⟨rfl, rfl⟩
theorem u_a42 {X : mX} {h : mH} {B st : Nat} {M : Nat → Nat → Int32} (hM : Mus h B st M) {n : Nat} (hn : M 1 6 = nI n) (hn2 : n ≤ 12) {r : Nat} (hr : r < n) : Tells X 42 [.ref (B + 1), .int (nI r)] h (M 3 r) := by
  refine wp_aload_n d42_0 rfl ?_
  refine wp_iload_n d42_1 rfl ?_
  refine wp_invvT (e := 50) (j2 := 35) (n := 1) d42_2 (by decide +kernel) (by decide +kernel) rfl rfl rfl (um_1 hM) (by decide +kernel) (Nat.le_of_ble_eq_true rfl) rfl rfl (Nat.le_of_ble_eq_true rfl) (by decide +kernel) (u_has1 hM hn (by omega) (nI r)) ?_
  refine wp_ifb_eq d42_5 (tgt := 17) (by decide) (fun hq9 => absurd (⟨nI_le (by omega) (by omega), nI_lt (by omega) (by omega)⟩ : nI 0 ≤ nI r ∧ nI r < nI n) hq9) (fun _ => ?_)
  refine wp_aload_n d42_8 rfl ?_
  refine wp_getf (e := 15) (ci := 2) (k := 1) (nest := false) d42_9 (by decide +kernel) (um_1 hM) rfl ?_
  refine wp_iload_n d42_12 rfl ?_
  refine wp_iald d42_13 (um_3 hM) (nI_in (by omega) (by decide)) (v := M 3 r) ((congrArg (M 3) (nI_nat (by omega))).trans rfl) ?_
  refine wp_goto d42_14 (tgt := 18) (by decide) ?_
  refine wp_iret d42_18 (by decide +kernel) ?_
  exact ⟨rfl, rfl⟩
theorem u_o42 {X : mX} {h : mH} {B st : Nat} {M : Nat → Nat → Int32} (hM : Mus h B st M) {n : Nat} (hn : M 1 6 = nI n) (hn2 : n ≤ 12) {x : Int32} (hx : ¬ (nI 0 ≤ x ∧ x < nI n)) : Tells X 42 [.ref (B + 1), .int (x)] h (nI 0) := by
  refine wp_aload_n d42_0 rfl ?_
  refine wp_iload_n d42_1 rfl ?_
  refine wp_invvT (e := 50) (j2 := 35) (n := 1) d42_2 (by decide +kernel) (by decide +kernel) rfl rfl rfl (um_1 hM) (by decide +kernel) (Nat.le_of_ble_eq_true rfl) rfl rfl (Nat.le_of_ble_eq_true rfl) (by decide +kernel) (u_has1 hM hn (by omega) (x)) ?_
  refine wp_ifb_eq d42_5 (tgt := 17) (by decide) (fun _ => ?_) (fun hq9 => absurd hq9 hx)
  refine wp_iconst d42_17 (v := nI 0) (by decide) ?_
  refine wp_iret d42_18 (by decide +kernel) ?_
  exact ⟨rfl, rfl⟩
theorem u_a135 {X : mX} {h : mH} {B st : Nat} {M : Nat → Nat → Int32} (hM : Mus h B st M) {n : Nat} (hn : M 1 6 = nI n) (hn2 : n ≤ 12) {r : Nat} (hr : r < n) : Tells X 135 [.ref (B + 1), .int (nI r)] h (M 4 r) := by
  refine wp_aload_n d135_0 rfl ?_
  refine wp_iload_n d135_1 rfl ?_
  refine wp_invvT (e := 50) (j2 := 35) (n := 1) d135_2 (by decide +kernel) (by decide +kernel) rfl rfl rfl (um_1 hM) (by decide +kernel) (Nat.le_of_ble_eq_true rfl) rfl rfl (Nat.le_of_ble_eq_true rfl) (by decide +kernel) (u_has1 hM hn (by omega) (nI r)) ?_
  refine wp_ifb_eq d135_5 (tgt := 17) (by decide) (fun hq9 => absurd (⟨nI_le (by omega) (by omega), nI_lt (by omega) (by omega)⟩ : nI 0 ≤ nI r ∧ nI r < nI n) hq9) (fun _ => ?_)
  refine wp_aload_n d135_8 rfl ?_
  refine wp_getf (e := 18) (ci := 2) (k := 2) (nest := false) d135_9 (by decide +kernel) (um_1 hM) rfl ?_
  refine wp_iload_n d135_12 rfl ?_
  refine wp_iald d135_13 (um_4 hM) (nI_in (by omega) (by decide)) (v := M 4 r) ((congrArg (M 4) (nI_nat (by omega))).trans rfl) ?_
  refine wp_goto d135_14 (tgt := 18) (by decide) ?_
  refine wp_iret d135_18 (by decide +kernel) ?_
  exact ⟨rfl, rfl⟩
theorem u_o135 {X : mX} {h : mH} {B st : Nat} {M : Nat → Nat → Int32} (hM : Mus h B st M) {n : Nat} (hn : M 1 6 = nI n) (hn2 : n ≤ 12) {x : Int32} (hx : ¬ (nI 0 ≤ x ∧ x < nI n)) : Tells X 135 [.ref (B + 1), .int (x)] h (nI 0) := by
  refine wp_aload_n d135_0 rfl ?_
  refine wp_iload_n d135_1 rfl ?_
  refine wp_invvT (e := 50) (j2 := 35) (n := 1) d135_2 (by decide +kernel) (by decide +kernel) rfl rfl rfl (um_1 hM) (by decide +kernel) (Nat.le_of_ble_eq_true rfl) rfl rfl (Nat.le_of_ble_eq_true rfl) (by decide +kernel) (u_has1 hM hn (by omega) (x)) ?_
  refine wp_ifb_eq d135_5 (tgt := 17) (by decide) (fun _ => ?_) (fun hq9 => absurd hq9 hx)
  refine wp_iconst d135_17 (v := nI 0) (by decide) ?_
  refine wp_iret d135_18 (by decide +kernel) ?_
  exact ⟨rfl, rfl⟩
theorem u_a130 {X : mX} {h : mH} {B st : Nat} {M : Nat → Nat → Int32} (hM : Mus h B st M) {n : Nat} (hn : M 1 6 = nI n) (hn2 : n ≤ 12) {r : Nat} (hr : r < n) : Tells X 130 [.ref (B + 1), .int (nI r)] h (M 5 r) := by
  refine wp_aload_n d130_0 rfl ?_
  refine wp_iload_n d130_1 rfl ?_
  refine wp_invvT (e := 50) (j2 := 35) (n := 1) d130_2 (by decide +kernel) (by decide +kernel) rfl rfl rfl (um_1 hM) (by decide +kernel) (Nat.le_of_ble_eq_true rfl) rfl rfl (Nat.le_of_ble_eq_true rfl) (by decide +kernel) (u_has1 hM hn (by omega) (nI r)) ?_
  refine wp_ifb_eq d130_5 (tgt := 17) (by decide) (fun hq9 => absurd (⟨nI_le (by omega) (by omega), nI_lt (by omega) (by omega)⟩ : nI 0 ≤ nI r ∧ nI r < nI n) hq9) (fun _ => ?_)
  refine wp_aload_n d130_8 rfl ?_
  refine wp_getf (e := 21) (ci := 2) (k := 3) (nest := false) d130_9 (by decide +kernel) (um_1 hM) rfl ?_
  refine wp_iload_n d130_12 rfl ?_
  refine wp_iald d130_13 (um_5 hM) (nI_in (by omega) (by decide)) (v := M 5 r) ((congrArg (M 5) (nI_nat (by omega))).trans rfl) ?_
  refine wp_goto d130_14 (tgt := 18) (by decide) ?_
  refine wp_iret d130_18 (by decide +kernel) ?_
  exact ⟨rfl, rfl⟩
theorem u_o130 {X : mX} {h : mH} {B st : Nat} {M : Nat → Nat → Int32} (hM : Mus h B st M) {n : Nat} (hn : M 1 6 = nI n) (hn2 : n ≤ 12) {x : Int32} (hx : ¬ (nI 0 ≤ x ∧ x < nI n)) : Tells X 130 [.ref (B + 1), .int (x)] h (nI 0) := by
  refine wp_aload_n d130_0 rfl ?_
  refine wp_iload_n d130_1 rfl ?_
  refine wp_invvT (e := 50) (j2 := 35) (n := 1) d130_2 (by decide +kernel) (by decide +kernel) rfl rfl rfl (um_1 hM) (by decide +kernel) (Nat.le_of_ble_eq_true rfl) rfl rfl (Nat.le_of_ble_eq_true rfl) (by decide +kernel) (u_has1 hM hn (by omega) (x)) ?_
  refine wp_ifb_eq d130_5 (tgt := 17) (by decide) (fun _ => ?_) (fun hq9 => absurd hq9 hx)
  refine wp_iconst d130_17 (v := nI 0) (by decide) ?_
  refine wp_iret d130_18 (by decide +kernel) ?_
  exact ⟨rfl, rfl⟩
theorem u_a166 {X : mX} {h : mH} {B st : Nat} {M : Nat → Nat → Int32} (hM : Mus h B st M) {n : Nat} (hn : M 1 6 = nI n) (hn2 : n ≤ 12) {r : Nat} (hr : r < n) : Tells X 166 [.ref (B + 1), .int (nI r)] h (M 6 r) := by
  refine wp_aload_n d166_0 rfl ?_
  refine wp_iload_n d166_1 rfl ?_
  refine wp_invvT (e := 50) (j2 := 35) (n := 1) d166_2 (by decide +kernel) (by decide +kernel) rfl rfl rfl (um_1 hM) (by decide +kernel) (Nat.le_of_ble_eq_true rfl) rfl rfl (Nat.le_of_ble_eq_true rfl) (by decide +kernel) (u_has1 hM hn (by omega) (nI r)) ?_
  refine wp_ifb_eq d166_5 (tgt := 17) (by decide) (fun hq9 => absurd (⟨nI_le (by omega) (by omega), nI_lt (by omega) (by omega)⟩ : nI 0 ≤ nI r ∧ nI r < nI n) hq9) (fun _ => ?_)
  refine wp_aload_n d166_8 rfl ?_
  refine wp_getf (e := 24) (ci := 2) (k := 4) (nest := false) d166_9 (by decide +kernel) (um_1 hM) rfl ?_
  refine wp_iload_n d166_12 rfl ?_
  refine wp_iald d166_13 (um_6 hM) (nI_in (by omega) (by decide)) (v := M 6 r) ((congrArg (M 6) (nI_nat (by omega))).trans rfl) ?_
  refine wp_goto d166_14 (tgt := 18) (by decide) ?_
  refine wp_iret d166_18 (by decide +kernel) ?_
  exact ⟨rfl, rfl⟩
theorem u_o166 {X : mX} {h : mH} {B st : Nat} {M : Nat → Nat → Int32} (hM : Mus h B st M) {n : Nat} (hn : M 1 6 = nI n) (hn2 : n ≤ 12) {x : Int32} (hx : ¬ (nI 0 ≤ x ∧ x < nI n)) : Tells X 166 [.ref (B + 1), .int (x)] h (nI 0) := by
  refine wp_aload_n d166_0 rfl ?_
  refine wp_iload_n d166_1 rfl ?_
  refine wp_invvT (e := 50) (j2 := 35) (n := 1) d166_2 (by decide +kernel) (by decide +kernel) rfl rfl rfl (um_1 hM) (by decide +kernel) (Nat.le_of_ble_eq_true rfl) rfl rfl (Nat.le_of_ble_eq_true rfl) (by decide +kernel) (u_has1 hM hn (by omega) (x)) ?_
  refine wp_ifb_eq d166_5 (tgt := 17) (by decide) (fun _ => ?_) (fun hq9 => absurd hq9 hx)
  refine wp_iconst d166_17 (v := nI 0) (by decide) ?_
  refine wp_iret d166_18 (by decide +kernel) ?_
  exact ⟨rfl, rfl⟩
theorem u_a167 {X : mX} {h : mH} {B st : Nat} {M : Nat → Nat → Int32} (hM : Mus h B st M) {n : Nat} (hn : M 1 6 = nI n) (hn2 : n ≤ 12) {r : Nat} (hr : r < n) : Tells X 167 [.ref (B + 1), .int (nI r)] h (M 7 r) := by
  refine wp_aload_n d167_0 rfl ?_
  refine wp_iload_n d167_1 rfl ?_
  refine wp_invvT (e := 50) (j2 := 35) (n := 1) d167_2 (by decide +kernel) (by decide +kernel) rfl rfl rfl (um_1 hM) (by decide +kernel) (Nat.le_of_ble_eq_true rfl) rfl rfl (Nat.le_of_ble_eq_true rfl) (by decide +kernel) (u_has1 hM hn (by omega) (nI r)) ?_
  refine wp_ifb_eq d167_5 (tgt := 17) (by decide) (fun hq9 => absurd (⟨nI_le (by omega) (by omega), nI_lt (by omega) (by omega)⟩ : nI 0 ≤ nI r ∧ nI r < nI n) hq9) (fun _ => ?_)
  refine wp_aload_n d167_8 rfl ?_
  refine wp_getf (e := 27) (ci := 2) (k := 5) (nest := false) d167_9 (by decide +kernel) (um_1 hM) rfl ?_
  refine wp_iload_n d167_12 rfl ?_
  refine wp_iald d167_13 (um_7 hM) (nI_in (by omega) (by decide)) (v := M 7 r) ((congrArg (M 7) (nI_nat (by omega))).trans rfl) ?_
  refine wp_goto d167_14 (tgt := 18) (by decide) ?_
  refine wp_iret d167_18 (by decide +kernel) ?_
  exact ⟨rfl, rfl⟩
theorem u_o167 {X : mX} {h : mH} {B st : Nat} {M : Nat → Nat → Int32} (hM : Mus h B st M) {n : Nat} (hn : M 1 6 = nI n) (hn2 : n ≤ 12) {x : Int32} (hx : ¬ (nI 0 ≤ x ∧ x < nI n)) : Tells X 167 [.ref (B + 1), .int (x)] h (nI 0) := by
  refine wp_aload_n d167_0 rfl ?_
  refine wp_iload_n d167_1 rfl ?_
  refine wp_invvT (e := 50) (j2 := 35) (n := 1) d167_2 (by decide +kernel) (by decide +kernel) rfl rfl rfl (um_1 hM) (by decide +kernel) (Nat.le_of_ble_eq_true rfl) rfl rfl (Nat.le_of_ble_eq_true rfl) (by decide +kernel) (u_has1 hM hn (by omega) (x)) ?_
  refine wp_ifb_eq d167_5 (tgt := 17) (by decide) (fun _ => ?_) (fun hq9 => absurd hq9 hx)
  refine wp_iconst d167_17 (v := nI 0) (by decide) ?_
  refine wp_iret d167_18 (by decide +kernel) ?_
  exact ⟨rfl, rfl⟩
theorem u_a93 {X : mX} {h : mH} {B st : Nat} {M : Nat → Nat → Int32} (hM : Mus h B st M) {n : Nat} (hn : M 8 6 = nI n) (hn2 : n ≤ 20) {r : Nat} (hr : r < n) : Tells X 93 [.ref (B + 8), .int (nI r)] h (M 11 r) := by
  refine wp_aload_n d93_0 rfl ?_
  refine wp_iload_n d93_1 rfl ?_
  refine wp_invvT (e := 40) (j2 := 94) (n := 1) d93_2 (by decide +kernel) (by decide +kernel) rfl rfl rfl (um_8 hM) (by decide +kernel) (Nat.le_of_ble_eq_true rfl) rfl rfl (Nat.le_of_ble_eq_true rfl) (by decide +kernel) (u_has8 hM hn (by omega) (nI r)) ?_
  refine wp_ifb_eq d93_5 (tgt := 17) (by decide) (fun hq9 => absurd (⟨nI_le (by omega) (by omega), nI_lt (by omega) (by omega)⟩ : nI 0 ≤ nI r ∧ nI r < nI n) hq9) (fun _ => ?_)
  refine wp_aload_n d93_8 rfl ?_
  refine wp_getf (e := 18) (ci := 3) (k := 2) (nest := false) d93_9 (by decide +kernel) (um_8 hM) rfl ?_
  refine wp_iload_n d93_12 rfl ?_
  refine wp_iald d93_13 (um_11 hM) (nI_in (by omega) (by decide)) (v := M 11 r) ((congrArg (M 11) (nI_nat (by omega))).trans rfl) ?_
  refine wp_goto d93_14 (tgt := 19) (by decide) ?_
  refine wp_iret d93_19 (by decide +kernel) ?_
  exact ⟨rfl, rfl⟩
theorem u_o93 {X : mX} {h : mH} {B st : Nat} {M : Nat → Nat → Int32} (hM : Mus h B st M) {n : Nat} (hn : M 8 6 = nI n) (hn2 : n ≤ 20) {x : Int32} (hx : ¬ (nI 0 ≤ x ∧ x < nI n)) : Tells X 93 [.ref (B + 8), .int (x)] h (-5) := by
  refine wp_aload_n d93_0 rfl ?_
  refine wp_iload_n d93_1 rfl ?_
  refine wp_invvT (e := 40) (j2 := 94) (n := 1) d93_2 (by decide +kernel) (by decide +kernel) rfl rfl rfl (um_8 hM) (by decide +kernel) (Nat.le_of_ble_eq_true rfl) rfl rfl (Nat.le_of_ble_eq_true rfl) (by decide +kernel) (u_has8 hM hn (by omega) (x)) ?_
  refine wp_ifb_eq d93_5 (tgt := 17) (by decide) (fun _ => ?_) (fun hq9 => absurd hq9 hx)
  refine wp_bipush d93_17 (v := (-5 : Int32)) (by decide) ?_
  refine wp_iret d93_19 (by decide +kernel) ?_
  exact ⟨rfl, rfl⟩
theorem u_a58 {X : mX} {h : mH} {B st : Nat} {M : Nat → Nat → Int32} (hM : Mus h B st M) {n : Nat} (hn : M 19 9 = nI n) (hn2 : n ≤ 4) {r : Nat} (hr : r < n) : Tells X 58 [.ref (B + 19), .int (nI r)] h (M 20 r) := by
  refine wp_aload_n d58_0 rfl ?_
  refine wp_iload_n d58_1 rfl ?_
  refine wp_invvT (e := 53) (j2 := 59) (n := 1) d58_2 (by decide +kernel) (by decide +kernel) rfl rfl rfl (um_19 hM) (by decide +kernel) (Nat.le_of_ble_eq_true rfl) rfl rfl (Nat.le_of_ble_eq_true rfl) (by decide +kernel) (u_has19 hM hn (by omega) (nI r)) ?_
  refine wp_ifb_eq d58_5 (tgt := 17) (by decide) (fun hq9 => absurd (⟨nI_le (by omega) (by omega), nI_lt (by omega) (by omega)⟩ : nI 0 ≤ nI r ∧ nI r < nI n) hq9) (fun _ => ?_)
  refine wp_aload_n d58_8 rfl ?_
  refine wp_getf (e := 9) (ci := 6) (k := 0) (nest := false) d58_9 (by decide +kernel) (um_19 hM) rfl ?_
  refine wp_iload_n d58_12 rfl ?_
  refine wp_iald d58_13 (um_20 hM) (nI_in (by omega) (by decide)) (v := M 20 r) ((congrArg (M 20) (nI_nat (by omega))).trans rfl) ?_
  refine wp_goto d58_14 (tgt := 19) (by decide) ?_
  refine wp_iret d58_19 (by decide +kernel) ?_
  exact ⟨rfl, rfl⟩
theorem u_o58 {X : mX} {h : mH} {B st : Nat} {M : Nat → Nat → Int32} (hM : Mus h B st M) {n : Nat} (hn : M 19 9 = nI n) (hn2 : n ≤ 4) {x : Int32} (hx : ¬ (nI 0 ≤ x ∧ x < nI n)) : Tells X 58 [.ref (B + 19), .int (x)] h (-5) := by
  refine wp_aload_n d58_0 rfl ?_
  refine wp_iload_n d58_1 rfl ?_
  refine wp_invvT (e := 53) (j2 := 59) (n := 1) d58_2 (by decide +kernel) (by decide +kernel) rfl rfl rfl (um_19 hM) (by decide +kernel) (Nat.le_of_ble_eq_true rfl) rfl rfl (Nat.le_of_ble_eq_true rfl) (by decide +kernel) (u_has19 hM hn (by omega) (x)) ?_
  refine wp_ifb_eq d58_5 (tgt := 17) (by decide) (fun _ => ?_) (fun hq9 => absurd hq9 hx)
  refine wp_bipush d58_17 (v := (-5 : Int32)) (by decide) ?_
  refine wp_iret d58_19 (by decide +kernel) ?_
  exact ⟨rfl, rfl⟩
theorem u_a61 {X : mX} {h : mH} {B st : Nat} {M : Nat → Nat → Int32} (hM : Mus h B st M) {n : Nat} (hn : M 19 9 = nI n) (hn2 : n ≤ 4) {r : Nat} (hr : r < n) : Tells X 61 [.ref (B + 19), .int (nI r)] h (M 21 r) := by
  refine wp_aload_n d61_0 rfl ?_
  refine wp_iload_n d61_1 rfl ?_
  refine wp_invvT (e := 53) (j2 := 59) (n := 1) d61_2 (by decide +kernel) (by decide +kernel) rfl rfl rfl (um_19 hM) (by decide +kernel) (Nat.le_of_ble_eq_true rfl) rfl rfl (Nat.le_of_ble_eq_true rfl) (by decide +kernel) (u_has19 hM hn (by omega) (nI r)) ?_
  refine wp_ifb_eq d61_5 (tgt := 17) (by decide) (fun hq9 => absurd (⟨nI_le (by omega) (by omega), nI_lt (by omega) (by omega)⟩ : nI 0 ≤ nI r ∧ nI r < nI n) hq9) (fun _ => ?_)
  refine wp_aload_n d61_8 rfl ?_
  refine wp_getf (e := 15) (ci := 6) (k := 1) (nest := false) d61_9 (by decide +kernel) (um_19 hM) rfl ?_
  refine wp_iload_n d61_12 rfl ?_
  refine wp_iald d61_13 (um_21 hM) (nI_in (by omega) (by decide)) (v := M 21 r) ((congrArg (M 21) (nI_nat (by omega))).trans rfl) ?_
  refine wp_goto d61_14 (tgt := 19) (by decide) ?_
  refine wp_iret d61_19 (by decide +kernel) ?_
  exact ⟨rfl, rfl⟩
theorem u_o61 {X : mX} {h : mH} {B st : Nat} {M : Nat → Nat → Int32} (hM : Mus h B st M) {n : Nat} (hn : M 19 9 = nI n) (hn2 : n ≤ 4) {x : Int32} (hx : ¬ (nI 0 ≤ x ∧ x < nI n)) : Tells X 61 [.ref (B + 19), .int (x)] h (-5) := by
  refine wp_aload_n d61_0 rfl ?_
  refine wp_iload_n d61_1 rfl ?_
  refine wp_invvT (e := 53) (j2 := 59) (n := 1) d61_2 (by decide +kernel) (by decide +kernel) rfl rfl rfl (um_19 hM) (by decide +kernel) (Nat.le_of_ble_eq_true rfl) rfl rfl (Nat.le_of_ble_eq_true rfl) (by decide +kernel) (u_has19 hM hn (by omega) (x)) ?_
  refine wp_ifb_eq d61_5 (tgt := 17) (by decide) (fun _ => ?_) (fun hq9 => absurd hq9 hx)
  refine wp_bipush d61_17 (v := (-5 : Int32)) (by decide) ?_
  refine wp_iret d61_19 (by decide +kernel) ?_
  exact ⟨rfl, rfl⟩
theorem u_a125 {X : mX} {h : mH} {B st : Nat} {M : Nat → Nat → Int32} (hM : Mus h B st M) {n : Nat} (hn : M 19 9 = nI n) (hn2 : n ≤ 4) {r : Nat} (hr : r < n) : Tells X 125 [.ref (B + 19), .int (nI r)] h (M 22 r) := by
  refine wp_aload_n d125_0 rfl ?_
  refine wp_iload_n d125_1 rfl ?_
  refine wp_invvT (e := 53) (j2 := 59) (n := 1) d125_2 (by decide +kernel) (by decide +kernel) rfl rfl rfl (um_19 hM) (by decide +kernel) (Nat.le_of_ble_eq_true rfl) rfl rfl (Nat.le_of_ble_eq_true rfl) (by decide +kernel) (u_has19 hM hn (by omega) (nI r)) ?_
  refine wp_ifb_eq d125_5 (tgt := 17) (by decide) (fun hq9 => absurd (⟨nI_le (by omega) (by omega), nI_lt (by omega) (by omega)⟩ : nI 0 ≤ nI r ∧ nI r < nI n) hq9) (fun _ => ?_)
  refine wp_aload_n d125_8 rfl ?_
  refine wp_getf (e := 18) (ci := 6) (k := 2) (nest := false) d125_9 (by decide +kernel) (um_19 hM) rfl ?_
  refine wp_iload_n d125_12 rfl ?_
  refine wp_iald d125_13 (um_22 hM) (nI_in (by omega) (by decide)) (v := M 22 r) ((congrArg (M 22) (nI_nat (by omega))).trans rfl) ?_
  refine wp_goto d125_14 (tgt := 19) (by decide) ?_
  refine wp_iret d125_19 (by decide +kernel) ?_
  exact ⟨rfl, rfl⟩
theorem u_o125 {X : mX} {h : mH} {B st : Nat} {M : Nat → Nat → Int32} (hM : Mus h B st M) {n : Nat} (hn : M 19 9 = nI n) (hn2 : n ≤ 4) {x : Int32} (hx : ¬ (nI 0 ≤ x ∧ x < nI n)) : Tells X 125 [.ref (B + 19), .int (x)] h (-5) := by
  refine wp_aload_n d125_0 rfl ?_
  refine wp_iload_n d125_1 rfl ?_
  refine wp_invvT (e := 53) (j2 := 59) (n := 1) d125_2 (by decide +kernel) (by decide +kernel) rfl rfl rfl (um_19 hM) (by decide +kernel) (Nat.le_of_ble_eq_true rfl) rfl rfl (Nat.le_of_ble_eq_true rfl) (by decide +kernel) (u_has19 hM hn (by omega) (x)) ?_
  refine wp_ifb_eq d125_5 (tgt := 17) (by decide) (fun _ => ?_) (fun hq9 => absurd hq9 hx)
  refine wp_bipush d125_17 (v := (-5 : Int32)) (by decide) ?_
  refine wp_iret d125_19 (by decide +kernel) ?_
  exact ⟨rfl, rfl⟩
theorem u_a115 {X : mX} {h : mH} {B st : Nat} {M : Nat → Nat → Int32} (hM : Mus h B st M) {n : Nat} (hn : M 19 9 = nI n) (hn2 : n ≤ 4) {r : Nat} (hr : r < n) : Tells X 115 [.ref (B + 19), .int (nI r)] h (M 24 r) := by
  refine wp_aload_n d115_0 rfl ?_
  refine wp_iload_n d115_1 rfl ?_
  refine wp_invvT (e := 53) (j2 := 59) (n := 1) d115_2 (by decide +kernel) (by decide +kernel) rfl rfl rfl (um_19 hM) (by decide +kernel) (Nat.le_of_ble_eq_true rfl) rfl rfl (Nat.le_of_ble_eq_true rfl) (by decide +kernel) (u_has19 hM hn (by omega) (nI r)) ?_
  refine wp_ifb_eq d115_5 (tgt := 17) (by decide) (fun hq9 => absurd (⟨nI_le (by omega) (by omega), nI_lt (by omega) (by omega)⟩ : nI 0 ≤ nI r ∧ nI r < nI n) hq9) (fun _ => ?_)
  refine wp_aload_n d115_8 rfl ?_
  refine wp_getf (e := 24) (ci := 6) (k := 4) (nest := false) d115_9 (by decide +kernel) (um_19 hM) rfl ?_
  refine wp_iload_n d115_12 rfl ?_
  refine wp_iald d115_13 (um_24 hM) (nI_in (by omega) (by decide)) (v := M 24 r) ((congrArg (M 24) (nI_nat (by omega))).trans rfl) ?_
  refine wp_goto d115_14 (tgt := 18) (by decide) ?_
  refine wp_iret d115_18 (by decide +kernel) ?_
  exact ⟨rfl, rfl⟩
theorem u_o115 {X : mX} {h : mH} {B st : Nat} {M : Nat → Nat → Int32} (hM : Mus h B st M) {n : Nat} (hn : M 19 9 = nI n) (hn2 : n ≤ 4) {x : Int32} (hx : ¬ (nI 0 ≤ x ∧ x < nI n)) : Tells X 115 [.ref (B + 19), .int (x)] h (nI 0) := by
  refine wp_aload_n d115_0 rfl ?_
  refine wp_iload_n d115_1 rfl ?_
  refine wp_invvT (e := 53) (j2 := 59) (n := 1) d115_2 (by decide +kernel) (by decide +kernel) rfl rfl rfl (um_19 hM) (by decide +kernel) (Nat.le_of_ble_eq_true rfl) rfl rfl (Nat.le_of_ble_eq_true rfl) (by decide +kernel) (u_has19 hM hn (by omega) (x)) ?_
  refine wp_ifb_eq d115_5 (tgt := 17) (by decide) (fun _ => ?_) (fun hq9 => absurd hq9 hx)
  refine wp_iconst d115_17 (v := nI 0) (by decide) ?_
  refine wp_iret d115_18 (by decide +kernel) ?_
  exact ⟨rfl, rfl⟩
theorem u_a179 {X : mX} {h : mH} {B st : Nat} {M : Nat → Nat → Int32} (hM : Mus h B st M) {n : Nat} (hn : M 19 9 = nI n) (hn2 : n ≤ 4) {r : Nat} (hr : r < n) : Tells X 179 [.ref (B + 19), .int (nI r)] h (M 25 r) := by
  refine wp_aload_n d179_0 rfl ?_
  refine wp_iload_n d179_1 rfl ?_
  refine wp_invvT (e := 53) (j2 := 59) (n := 1) d179_2 (by decide +kernel) (by decide +kernel) rfl rfl rfl (um_19 hM) (by decide +kernel) (Nat.le_of_ble_eq_true rfl) rfl rfl (Nat.le_of_ble_eq_true rfl) (by decide +kernel) (u_has19 hM hn (by omega) (nI r)) ?_
  refine wp_ifb_eq d179_5 (tgt := 17) (by decide) (fun hq9 => absurd (⟨nI_le (by omega) (by omega), nI_lt (by omega) (by omega)⟩ : nI 0 ≤ nI r ∧ nI r < nI n) hq9) (fun _ => ?_)
  refine wp_aload_n d179_8 rfl ?_
  refine wp_getf (e := 27) (ci := 6) (k := 5) (nest := false) d179_9 (by decide +kernel) (um_19 hM) rfl ?_
  refine wp_iload_n d179_12 rfl ?_
  refine wp_iald d179_13 (um_25 hM) (nI_in (by omega) (by decide)) (v := M 25 r) ((congrArg (M 25) (nI_nat (by omega))).trans rfl) ?_
  refine wp_goto d179_14 (tgt := 18) (by decide) ?_
  refine wp_iret d179_18 (by decide +kernel) ?_
  exact ⟨rfl, rfl⟩
theorem u_o179 {X : mX} {h : mH} {B st : Nat} {M : Nat → Nat → Int32} (hM : Mus h B st M) {n : Nat} (hn : M 19 9 = nI n) (hn2 : n ≤ 4) {x : Int32} (hx : ¬ (nI 0 ≤ x ∧ x < nI n)) : Tells X 179 [.ref (B + 19), .int (x)] h (nI 0) := by
  refine wp_aload_n d179_0 rfl ?_
  refine wp_iload_n d179_1 rfl ?_
  refine wp_invvT (e := 53) (j2 := 59) (n := 1) d179_2 (by decide +kernel) (by decide +kernel) rfl rfl rfl (um_19 hM) (by decide +kernel) (Nat.le_of_ble_eq_true rfl) rfl rfl (Nat.le_of_ble_eq_true rfl) (by decide +kernel) (u_has19 hM hn (by omega) (x)) ?_
  refine wp_ifb_eq d179_5 (tgt := 17) (by decide) (fun _ => ?_) (fun hq9 => absurd hq9 hx)
  refine wp_iconst d179_17 (v := nI 0) (by decide) ?_
  refine wp_iret d179_18 (by decide +kernel) ?_
  exact ⟨rfl, rfl⟩
theorem u_a180 {X : mX} {h : mH} {B st : Nat} {M : Nat → Nat → Int32} (hM : Mus h B st M) {n : Nat} (hn : M 19 9 = nI n) (hn2 : n ≤ 4) {r : Nat} (hr : r < n) : Tells X 180 [.ref (B + 19), .int (nI r)] h (M 26 r) := by
  refine wp_aload_n d180_0 rfl ?_
  refine wp_iload_n d180_1 rfl ?_
  refine wp_invvT (e := 53) (j2 := 59) (n := 1) d180_2 (by decide +kernel) (by decide +kernel) rfl rfl rfl (um_19 hM) (by decide +kernel) (Nat.le_of_ble_eq_true rfl) rfl rfl (Nat.le_of_ble_eq_true rfl) (by decide +kernel) (u_has19 hM hn (by omega) (nI r)) ?_
  refine wp_ifb_eq d180_5 (tgt := 17) (by decide) (fun hq9 => absurd (⟨nI_le (by omega) (by omega), nI_lt (by omega) (by omega)⟩ : nI 0 ≤ nI r ∧ nI r < nI n) hq9) (fun _ => ?_)
  refine wp_aload_n d180_8 rfl ?_
  refine wp_getf (e := 30) (ci := 6) (k := 6) (nest := false) d180_9 (by decide +kernel) (um_19 hM) rfl ?_
  refine wp_iload_n d180_12 rfl ?_
  refine wp_iald d180_13 (um_26 hM) (nI_in (by omega) (by decide)) (v := M 26 r) ((congrArg (M 26) (nI_nat (by omega))).trans rfl) ?_
  refine wp_goto d180_14 (tgt := 18) (by decide) ?_
  refine wp_iret d180_18 (by decide +kernel) ?_
  exact ⟨rfl, rfl⟩
theorem u_o180 {X : mX} {h : mH} {B st : Nat} {M : Nat → Nat → Int32} (hM : Mus h B st M) {n : Nat} (hn : M 19 9 = nI n) (hn2 : n ≤ 4) {x : Int32} (hx : ¬ (nI 0 ≤ x ∧ x < nI n)) : Tells X 180 [.ref (B + 19), .int (x)] h (nI 0) := by
  refine wp_aload_n d180_0 rfl ?_
  refine wp_iload_n d180_1 rfl ?_
  refine wp_invvT (e := 53) (j2 := 59) (n := 1) d180_2 (by decide +kernel) (by decide +kernel) rfl rfl rfl (um_19 hM) (by decide +kernel) (Nat.le_of_ble_eq_true rfl) rfl rfl (Nat.le_of_ble_eq_true rfl) (by decide +kernel) (u_has19 hM hn (by omega) (x)) ?_
  refine wp_ifb_eq d180_5 (tgt := 17) (by decide) (fun _ => ?_) (fun hq9 => absurd hq9 hx)
  refine wp_iconst d180_17 (v := nI 0) (by decide) ?_
  refine wp_iret d180_18 (by decide +kernel) ?_
  exact ⟨rfl, rfl⟩
theorem u_a76 {X : mX} {h : mH} {B st : Nat} {M : Nat → Nat → Int32} (hM : Mus h B st M) {n : Nat} (hn : M 19 9 = nI n) (hn2 : n ≤ 4) {r : Nat} (hr : r < n) : Tells X 76 [.ref (B + 19), .int (nI r)] h (M 27 r) := by
  refine wp_aload_n d76_0 rfl ?_
  refine wp_iload_n d76_1 rfl ?_
  refine wp_invvT (e := 53) (j2 := 59) (n := 1) d76_2 (by decide +kernel) (by decide +kernel) rfl rfl rfl (um_19 hM) (by decide +kernel) (Nat.le_of_ble_eq_true rfl) rfl rfl (Nat.le_of_ble_eq_true rfl) (by decide +kernel) (u_has19 hM hn (by omega) (nI r)) ?_
  refine wp_ifb_eq d76_5 (tgt := 17) (by decide) (fun hq9 => absurd (⟨nI_le (by omega) (by omega), nI_lt (by omega) (by omega)⟩ : nI 0 ≤ nI r ∧ nI r < nI n) hq9) (fun _ => ?_)
  refine wp_aload_n d76_8 rfl ?_
  refine wp_getf (e := 33) (ci := 6) (k := 7) (nest := false) d76_9 (by decide +kernel) (um_19 hM) rfl ?_
  refine wp_iload_n d76_12 rfl ?_
  refine wp_iald d76_13 (um_27 hM) (nI_in (by omega) (by decide)) (v := M 27 r) ((congrArg (M 27) (nI_nat (by omega))).trans rfl) ?_
  refine wp_goto d76_14 (tgt := 18) (by decide) ?_
  refine wp_iret d76_18 (by decide +kernel) ?_
  exact ⟨rfl, rfl⟩
theorem u_o76 {X : mX} {h : mH} {B st : Nat} {M : Nat → Nat → Int32} (hM : Mus h B st M) {n : Nat} (hn : M 19 9 = nI n) (hn2 : n ≤ 4) {x : Int32} (hx : ¬ (nI 0 ≤ x ∧ x < nI n)) : Tells X 76 [.ref (B + 19), .int (x)] h (nI 0) := by
  refine wp_aload_n d76_0 rfl ?_
  refine wp_iload_n d76_1 rfl ?_
  refine wp_invvT (e := 53) (j2 := 59) (n := 1) d76_2 (by decide +kernel) (by decide +kernel) rfl rfl rfl (um_19 hM) (by decide +kernel) (Nat.le_of_ble_eq_true rfl) rfl rfl (Nat.le_of_ble_eq_true rfl) (by decide +kernel) (u_has19 hM hn (by omega) (x)) ?_
  refine wp_ifb_eq d76_5 (tgt := 17) (by decide) (fun _ => ?_) (fun hq9 => absurd hq9 hx)
  refine wp_iconst d76_17 (v := nI 0) (by decide) ?_
  refine wp_iret d76_18 (by decide +kernel) ?_
  exact ⟨rfl, rfl⟩
theorem u_a134 {X : mX} {h : mH} {B st : Nat} {M : Nat → Nat → Int32} (hM : Mus h B st M) {n : Nat} (hn : M 29 5 = nI n) (hn2 : n ≤ 10) {r : Nat} (hr : r < n) : Tells X 134 [.ref (B + 29), .int (nI r)] h (M 30 r) := by
  refine wp_aload_n d134_0 rfl ?_
  refine wp_iload_n d134_1 rfl ?_
  refine wp_invvT (e := 37) (j2 := 87) (n := 1) d134_2 (by decide +kernel) (by decide +kernel) rfl rfl rfl (um_29 hM) (by decide +kernel) (Nat.le_of_ble_eq_true rfl) rfl rfl (Nat.le_of_ble_eq_true rfl) (by decide +kernel) (u_has29 hM hn (by omega) (nI r)) ?_
  refine wp_ifb_eq d134_5 (tgt := 17) (by decide) (fun hq9 => absurd (⟨nI_le (by omega) (by omega), nI_lt (by omega) (by omega)⟩ : nI 0 ≤ nI r ∧ nI r < nI n) hq9) (fun _ => ?_)
  refine wp_aload_n d134_8 rfl ?_
  refine wp_getf (e := 9) (ci := 7) (k := 0) (nest := false) d134_9 (by decide +kernel) (um_29 hM) rfl ?_
  refine wp_iload_n d134_12 rfl ?_
  refine wp_iald d134_13 (um_30 hM) (nI_in (by omega) (by decide)) (v := M 30 r) ((congrArg (M 30) (nI_nat (by omega))).trans rfl) ?_
  refine wp_goto d134_14 (tgt := 19) (by decide) ?_
  refine wp_iret d134_19 (by decide +kernel) ?_
  exact ⟨rfl, rfl⟩
theorem u_o134 {X : mX} {h : mH} {B st : Nat} {M : Nat → Nat → Int32} (hM : Mus h B st M) {n : Nat} (hn : M 29 5 = nI n) (hn2 : n ≤ 10) {x : Int32} (hx : ¬ (nI 0 ≤ x ∧ x < nI n)) : Tells X 134 [.ref (B + 29), .int (x)] h (-5) := by
  refine wp_aload_n d134_0 rfl ?_
  refine wp_iload_n d134_1 rfl ?_
  refine wp_invvT (e := 37) (j2 := 87) (n := 1) d134_2 (by decide +kernel) (by decide +kernel) rfl rfl rfl (um_29 hM) (by decide +kernel) (Nat.le_of_ble_eq_true rfl) rfl rfl (Nat.le_of_ble_eq_true rfl) (by decide +kernel) (u_has29 hM hn (by omega) (x)) ?_
  refine wp_ifb_eq d134_5 (tgt := 17) (by decide) (fun _ => ?_) (fun hq9 => absurd hq9 hx)
  refine wp_bipush d134_17 (v := (-5 : Int32)) (by decide) ?_
  refine wp_iret d134_19 (by decide +kernel) ?_
  exact ⟨rfl, rfl⟩
theorem u_a88 {X : mX} {h : mH} {B st : Nat} {M : Nat → Nat → Int32} (hM : Mus h B st M) {n : Nat} (hn : M 29 5 = nI n) (hn2 : n ≤ 10) {r : Nat} (hr : r < n) : Tells X 88 [.ref (B + 29), .int (nI r)] h (M 31 r) := by
  refine wp_aload_n d88_0 rfl ?_
  refine wp_iload_n d88_1 rfl ?_
  refine wp_invvT (e := 37) (j2 := 87) (n := 1) d88_2 (by decide +kernel) (by decide +kernel) rfl rfl rfl (um_29 hM) (by decide +kernel) (Nat.le_of_ble_eq_true rfl) rfl rfl (Nat.le_of_ble_eq_true rfl) (by decide +kernel) (u_has29 hM hn (by omega) (nI r)) ?_
  refine wp_ifb_eq d88_5 (tgt := 17) (by decide) (fun hq9 => absurd (⟨nI_le (by omega) (by omega), nI_lt (by omega) (by omega)⟩ : nI 0 ≤ nI r ∧ nI r < nI n) hq9) (fun _ => ?_)
  refine wp_aload_n d88_8 rfl ?_
  refine wp_getf (e := 15) (ci := 7) (k := 1) (nest := false) d88_9 (by decide +kernel) (um_29 hM) rfl ?_
  refine wp_iload_n d88_12 rfl ?_
  refine wp_iald d88_13 (um_31 hM) (nI_in (by omega) (by decide)) (v := M 31 r) ((congrArg (M 31) (nI_nat (by omega))).trans rfl) ?_
  refine wp_goto d88_14 (tgt := 19) (by decide) ?_
  refine wp_iret d88_19 (by decide +kernel) ?_
  exact ⟨rfl, rfl⟩
theorem u_o88 {X : mX} {h : mH} {B st : Nat} {M : Nat → Nat → Int32} (hM : Mus h B st M) {n : Nat} (hn : M 29 5 = nI n) (hn2 : n ≤ 10) {x : Int32} (hx : ¬ (nI 0 ≤ x ∧ x < nI n)) : Tells X 88 [.ref (B + 29), .int (x)] h (-5) := by
  refine wp_aload_n d88_0 rfl ?_
  refine wp_iload_n d88_1 rfl ?_
  refine wp_invvT (e := 37) (j2 := 87) (n := 1) d88_2 (by decide +kernel) (by decide +kernel) rfl rfl rfl (um_29 hM) (by decide +kernel) (Nat.le_of_ble_eq_true rfl) rfl rfl (Nat.le_of_ble_eq_true rfl) (by decide +kernel) (u_has29 hM hn (by omega) (x)) ?_
  refine wp_ifb_eq d88_5 (tgt := 17) (by decide) (fun _ => ?_) (fun hq9 => absurd hq9 hx)
  refine wp_bipush d88_17 (v := (-5 : Int32)) (by decide) ?_
  refine wp_iret d88_19 (by decide +kernel) ?_
  exact ⟨rfl, rfl⟩
theorem u_a133 {X : mX} {h : mH} {B st : Nat} {M : Nat → Nat → Int32} (hM : Mus h B st M) {n : Nat} (hn : M 29 5 = nI n) (hn2 : n ≤ 10) {r : Nat} (hr : r < n) : Tells X 133 [.ref (B + 29), .int (nI r)] h (M 32 r) := by
  refine wp_aload_n d133_0 rfl ?_
  refine wp_iload_n d133_1 rfl ?_
  refine wp_invvT (e := 37) (j2 := 87) (n := 1) d133_2 (by decide +kernel) (by decide +kernel) rfl rfl rfl (um_29 hM) (by decide +kernel) (Nat.le_of_ble_eq_true rfl) rfl rfl (Nat.le_of_ble_eq_true rfl) (by decide +kernel) (u_has29 hM hn (by omega) (nI r)) ?_
  refine wp_ifb_eq d133_5 (tgt := 17) (by decide) (fun hq9 => absurd (⟨nI_le (by omega) (by omega), nI_lt (by omega) (by omega)⟩ : nI 0 ≤ nI r ∧ nI r < nI n) hq9) (fun _ => ?_)
  refine wp_aload_n d133_8 rfl ?_
  refine wp_getf (e := 18) (ci := 7) (k := 2) (nest := false) d133_9 (by decide +kernel) (um_29 hM) rfl ?_
  refine wp_iload_n d133_12 rfl ?_
  refine wp_iald d133_13 (um_32 hM) (nI_in (by omega) (by decide)) (v := M 32 r) ((congrArg (M 32) (nI_nat (by omega))).trans rfl) ?_
  refine wp_goto d133_14 (tgt := 18) (by decide) ?_
  refine wp_iret d133_18 (by decide +kernel) ?_
  exact ⟨rfl, rfl⟩
theorem u_o133 {X : mX} {h : mH} {B st : Nat} {M : Nat → Nat → Int32} (hM : Mus h B st M) {n : Nat} (hn : M 29 5 = nI n) (hn2 : n ≤ 10) {x : Int32} (hx : ¬ (nI 0 ≤ x ∧ x < nI n)) : Tells X 133 [.ref (B + 29), .int (x)] h (nI 0) := by
  refine wp_aload_n d133_0 rfl ?_
  refine wp_iload_n d133_1 rfl ?_
  refine wp_invvT (e := 37) (j2 := 87) (n := 1) d133_2 (by decide +kernel) (by decide +kernel) rfl rfl rfl (um_29 hM) (by decide +kernel) (Nat.le_of_ble_eq_true rfl) rfl rfl (Nat.le_of_ble_eq_true rfl) (by decide +kernel) (u_has29 hM hn (by omega) (x)) ?_
  refine wp_ifb_eq d133_5 (tgt := 17) (by decide) (fun _ => ?_) (fun hq9 => absurd hq9 hx)
  refine wp_iconst d133_17 (v := nI 0) (by decide) ?_
  refine wp_iret d133_18 (by decide +kernel) ?_
  exact ⟨rfl, rfl⟩
theorem u_a90 {X : mX} {h : mH} {B st : Nat} {M : Nat → Nat → Int32} (hM : Mus h B st M) {n : Nat} (hn : M 29 5 = nI n) (hn2 : n ≤ 10) {r : Nat} (hr : r < n) : Tells X 90 [.ref (B + 29), .int (nI r)] h (M 33 r) := by
  refine wp_aload_n d90_0 rfl ?_
  refine wp_iload_n d90_1 rfl ?_
  refine wp_invvT (e := 37) (j2 := 87) (n := 1) d90_2 (by decide +kernel) (by decide +kernel) rfl rfl rfl (um_29 hM) (by decide +kernel) (Nat.le_of_ble_eq_true rfl) rfl rfl (Nat.le_of_ble_eq_true rfl) (by decide +kernel) (u_has29 hM hn (by omega) (nI r)) ?_
  refine wp_ifb_eq d90_5 (tgt := 17) (by decide) (fun hq9 => absurd (⟨nI_le (by omega) (by omega), nI_lt (by omega) (by omega)⟩ : nI 0 ≤ nI r ∧ nI r < nI n) hq9) (fun _ => ?_)
  refine wp_aload_n d90_8 rfl ?_
  refine wp_getf (e := 21) (ci := 7) (k := 3) (nest := false) d90_9 (by decide +kernel) (um_29 hM) rfl ?_
  refine wp_iload_n d90_12 rfl ?_
  refine wp_iald d90_13 (um_33 hM) (nI_in (by omega) (by decide)) (v := M 33 r) ((congrArg (M 33) (nI_nat (by omega))).trans rfl) ?_
  refine wp_goto d90_14 (tgt := 19) (by decide) ?_
  refine wp_iret d90_19 (by decide +kernel) ?_
  exact ⟨rfl, rfl⟩
theorem u_o90 {X : mX} {h : mH} {B st : Nat} {M : Nat → Nat → Int32} (hM : Mus h B st M) {n : Nat} (hn : M 29 5 = nI n) (hn2 : n ≤ 10) {x : Int32} (hx : ¬ (nI 0 ≤ x ∧ x < nI n)) : Tells X 90 [.ref (B + 29), .int (x)] h (-5) := by
  refine wp_aload_n d90_0 rfl ?_
  refine wp_iload_n d90_1 rfl ?_
  refine wp_invvT (e := 37) (j2 := 87) (n := 1) d90_2 (by decide +kernel) (by decide +kernel) rfl rfl rfl (um_29 hM) (by decide +kernel) (Nat.le_of_ble_eq_true rfl) rfl rfl (Nat.le_of_ble_eq_true rfl) (by decide +kernel) (u_has29 hM hn (by omega) (x)) ?_
  refine wp_ifb_eq d90_5 (tgt := 17) (by decide) (fun _ => ?_) (fun hq9 => absurd hq9 hx)
  refine wp_bipush d90_17 (v := (-5 : Int32)) (by decide) ?_
  refine wp_iret d90_19 (by decide +kernel) ?_
  exact ⟨rfl, rfl⟩
theorem u_a184 {X : mX} {h : mH} {B st : Nat} {M : Nat → Nat → Int32} (hM : Mus h B st M) {n : Nat} (hn : M 29 5 = nI n) (hn2 : n ≤ 10) {r : Nat} (hr : r < n) : Tells X 184 [.ref (B + 29), .int (nI r)] h (M 34 r) := by
  refine wp_aload_n d184_0 rfl ?_
  refine wp_iload_n d184_1 rfl ?_
  refine wp_invvT (e := 37) (j2 := 87) (n := 1) d184_2 (by decide +kernel) (by decide +kernel) rfl rfl rfl (um_29 hM) (by decide +kernel) (Nat.le_of_ble_eq_true rfl) rfl rfl (Nat.le_of_ble_eq_true rfl) (by decide +kernel) (u_has29 hM hn (by omega) (nI r)) ?_
  refine wp_ifb_eq d184_5 (tgt := 17) (by decide) (fun hq9 => absurd (⟨nI_le (by omega) (by omega), nI_lt (by omega) (by omega)⟩ : nI 0 ≤ nI r ∧ nI r < nI n) hq9) (fun _ => ?_)
  refine wp_aload_n d184_8 rfl ?_
  refine wp_getf (e := 24) (ci := 7) (k := 4) (nest := false) d184_9 (by decide +kernel) (um_29 hM) rfl ?_
  refine wp_iload_n d184_12 rfl ?_
  refine wp_iald d184_13 (um_34 hM) (nI_in (by omega) (by decide)) (v := M 34 r) ((congrArg (M 34) (nI_nat (by omega))).trans rfl) ?_
  refine wp_goto d184_14 (tgt := 18) (by decide) ?_
  refine wp_iret d184_18 (by decide +kernel) ?_
  exact ⟨rfl, rfl⟩
theorem u_o184 {X : mX} {h : mH} {B st : Nat} {M : Nat → Nat → Int32} (hM : Mus h B st M) {n : Nat} (hn : M 29 5 = nI n) (hn2 : n ≤ 10) {x : Int32} (hx : ¬ (nI 0 ≤ x ∧ x < nI n)) : Tells X 184 [.ref (B + 29), .int (x)] h (nI 0) := by
  refine wp_aload_n d184_0 rfl ?_
  refine wp_iload_n d184_1 rfl ?_
  refine wp_invvT (e := 37) (j2 := 87) (n := 1) d184_2 (by decide +kernel) (by decide +kernel) rfl rfl rfl (um_29 hM) (by decide +kernel) (Nat.le_of_ble_eq_true rfl) rfl rfl (Nat.le_of_ble_eq_true rfl) (by decide +kernel) (u_has29 hM hn (by omega) (x)) ?_
  refine wp_ifb_eq d184_5 (tgt := 17) (by decide) (fun _ => ?_) (fun hq9 => absurd hq9 hx)
  refine wp_iconst d184_17 (v := nI 0) (by decide) ?_
  refine wp_iret d184_18 (by decide +kernel) ?_
  exact ⟨rfl, rfl⟩
theorem u_a186 {X : mX} {h : mH} {B st : Nat} {M : Nat → Nat → Int32} (hM : Mus h B st M) {n : Nat} (hn : M 35 5 = nI n) (hn2 : n ≤ 40) {r : Nat} (hr : r < n) : Tells X 186 [.ref (B + 35), .int (nI r)] h (M 36 r) := by
  refine wp_aload_n d186_0 rfl ?_
  refine wp_iload_n d186_1 rfl ?_
  refine wp_invvT (e := 40) (j2 := 99) (n := 1) d186_2 (by decide +kernel) (by decide +kernel) rfl rfl rfl (um_35 hM) (by decide +kernel) (Nat.le_of_ble_eq_true rfl) rfl rfl (Nat.le_of_ble_eq_true rfl) (by decide +kernel) (u_has35 hM hn (by omega) (nI r)) ?_
  refine wp_ifb_eq d186_5 (tgt := 17) (by decide) (fun hq9 => absurd (⟨nI_le (by omega) (by omega), nI_lt (by omega) (by omega)⟩ : nI 0 ≤ nI r ∧ nI r < nI n) hq9) (fun _ => ?_)
  refine wp_aload_n d186_8 rfl ?_
  refine wp_getf (e := 9) (ci := 8) (k := 0) (nest := false) d186_9 (by decide +kernel) (um_35 hM) rfl ?_
  refine wp_iload_n d186_12 rfl ?_
  refine wp_iald d186_13 (um_36 hM) (nI_in (by omega) (by decide)) (v := M 36 r) ((congrArg (M 36) (nI_nat (by omega))).trans rfl) ?_
  refine wp_goto d186_14 (tgt := 19) (by decide) ?_
  refine wp_iret d186_19 (by decide +kernel) ?_
  exact ⟨rfl, rfl⟩
theorem u_o186 {X : mX} {h : mH} {B st : Nat} {M : Nat → Nat → Int32} (hM : Mus h B st M) {n : Nat} (hn : M 35 5 = nI n) (hn2 : n ≤ 40) {x : Int32} (hx : ¬ (nI 0 ≤ x ∧ x < nI n)) : Tells X 186 [.ref (B + 35), .int (x)] h (-5) := by
  refine wp_aload_n d186_0 rfl ?_
  refine wp_iload_n d186_1 rfl ?_
  refine wp_invvT (e := 40) (j2 := 99) (n := 1) d186_2 (by decide +kernel) (by decide +kernel) rfl rfl rfl (um_35 hM) (by decide +kernel) (Nat.le_of_ble_eq_true rfl) rfl rfl (Nat.le_of_ble_eq_true rfl) (by decide +kernel) (u_has35 hM hn (by omega) (x)) ?_
  refine wp_ifb_eq d186_5 (tgt := 17) (by decide) (fun _ => ?_) (fun hq9 => absurd hq9 hx)
  refine wp_bipush d186_17 (v := (-5 : Int32)) (by decide) ?_
  refine wp_iret d186_19 (by decide +kernel) ?_
  exact ⟨rfl, rfl⟩
theorem u_a100 {X : mX} {h : mH} {B st : Nat} {M : Nat → Nat → Int32} (hM : Mus h B st M) {n : Nat} (hn : M 35 5 = nI n) (hn2 : n ≤ 40) {r : Nat} (hr : r < n) : Tells X 100 [.ref (B + 35), .int (nI r)] h (M 37 r) := by
  refine wp_aload_n d100_0 rfl ?_
  refine wp_iload_n d100_1 rfl ?_
  refine wp_invvT (e := 40) (j2 := 99) (n := 1) d100_2 (by decide +kernel) (by decide +kernel) rfl rfl rfl (um_35 hM) (by decide +kernel) (Nat.le_of_ble_eq_true rfl) rfl rfl (Nat.le_of_ble_eq_true rfl) (by decide +kernel) (u_has35 hM hn (by omega) (nI r)) ?_
  refine wp_ifb_eq d100_5 (tgt := 17) (by decide) (fun hq9 => absurd (⟨nI_le (by omega) (by omega), nI_lt (by omega) (by omega)⟩ : nI 0 ≤ nI r ∧ nI r < nI n) hq9) (fun _ => ?_)
  refine wp_aload_n d100_8 rfl ?_
  refine wp_getf (e := 15) (ci := 8) (k := 1) (nest := false) d100_9 (by decide +kernel) (um_35 hM) rfl ?_
  refine wp_iload_n d100_12 rfl ?_
  refine wp_iald d100_13 (um_37 hM) (nI_in (by omega) (by decide)) (v := M 37 r) ((congrArg (M 37) (nI_nat (by omega))).trans rfl) ?_
  refine wp_goto d100_14 (tgt := 19) (by decide) ?_
  refine wp_iret d100_19 (by decide +kernel) ?_
  exact ⟨rfl, rfl⟩
theorem u_o100 {X : mX} {h : mH} {B st : Nat} {M : Nat → Nat → Int32} (hM : Mus h B st M) {n : Nat} (hn : M 35 5 = nI n) (hn2 : n ≤ 40) {x : Int32} (hx : ¬ (nI 0 ≤ x ∧ x < nI n)) : Tells X 100 [.ref (B + 35), .int (x)] h (-5) := by
  refine wp_aload_n d100_0 rfl ?_
  refine wp_iload_n d100_1 rfl ?_
  refine wp_invvT (e := 40) (j2 := 99) (n := 1) d100_2 (by decide +kernel) (by decide +kernel) rfl rfl rfl (um_35 hM) (by decide +kernel) (Nat.le_of_ble_eq_true rfl) rfl rfl (Nat.le_of_ble_eq_true rfl) (by decide +kernel) (u_has35 hM hn (by omega) (x)) ?_
  refine wp_ifb_eq d100_5 (tgt := 17) (by decide) (fun _ => ?_) (fun hq9 => absurd hq9 hx)
  refine wp_bipush d100_17 (v := (-5 : Int32)) (by decide) ?_
  refine wp_iret d100_19 (by decide +kernel) ?_
  exact ⟨rfl, rfl⟩
theorem u_a104 {X : mX} {h : mH} {B st : Nat} {M : Nat → Nat → Int32} (hM : Mus h B st M) {n : Nat} (hn : M 35 5 = nI n) (hn2 : n ≤ 40) {r : Nat} (hr : r < n) : Tells X 104 [.ref (B + 35), .int (nI r)] h (M 38 r) := by
  refine wp_aload_n d104_0 rfl ?_
  refine wp_iload_n d104_1 rfl ?_
  refine wp_invvT (e := 40) (j2 := 99) (n := 1) d104_2 (by decide +kernel) (by decide +kernel) rfl rfl rfl (um_35 hM) (by decide +kernel) (Nat.le_of_ble_eq_true rfl) rfl rfl (Nat.le_of_ble_eq_true rfl) (by decide +kernel) (u_has35 hM hn (by omega) (nI r)) ?_
  refine wp_ifb_eq d104_5 (tgt := 17) (by decide) (fun hq9 => absurd (⟨nI_le (by omega) (by omega), nI_lt (by omega) (by omega)⟩ : nI 0 ≤ nI r ∧ nI r < nI n) hq9) (fun _ => ?_)
  refine wp_aload_n d104_8 rfl ?_
  refine wp_getf (e := 18) (ci := 8) (k := 2) (nest := false) d104_9 (by decide +kernel) (um_35 hM) rfl ?_
  refine wp_iload_n d104_12 rfl ?_
  refine wp_iald d104_13 (um_38 hM) (nI_in (by omega) (by decide)) (v := M 38 r) ((congrArg (M 38) (nI_nat (by omega))).trans rfl) ?_
  refine wp_goto d104_14 (tgt := 19) (by decide) ?_
  refine wp_iret d104_19 (by decide +kernel) ?_
  exact ⟨rfl, rfl⟩
theorem u_o104 {X : mX} {h : mH} {B st : Nat} {M : Nat → Nat → Int32} (hM : Mus h B st M) {n : Nat} (hn : M 35 5 = nI n) (hn2 : n ≤ 40) {x : Int32} (hx : ¬ (nI 0 ≤ x ∧ x < nI n)) : Tells X 104 [.ref (B + 35), .int (x)] h (-5) := by
  refine wp_aload_n d104_0 rfl ?_
  refine wp_iload_n d104_1 rfl ?_
  refine wp_invvT (e := 40) (j2 := 99) (n := 1) d104_2 (by decide +kernel) (by decide +kernel) rfl rfl rfl (um_35 hM) (by decide +kernel) (Nat.le_of_ble_eq_true rfl) rfl rfl (Nat.le_of_ble_eq_true rfl) (by decide +kernel) (u_has35 hM hn (by omega) (x)) ?_
  refine wp_ifb_eq d104_5 (tgt := 17) (by decide) (fun _ => ?_) (fun hq9 => absurd hq9 hx)
  refine wp_bipush d104_17 (v := (-5 : Int32)) (by decide) ?_
  refine wp_iret d104_19 (by decide +kernel) ?_
  exact ⟨rfl, rfl⟩
theorem u_a102 {X : mX} {h : mH} {B st : Nat} {M : Nat → Nat → Int32} (hM : Mus h B st M) {n : Nat} (hn : M 35 5 = nI n) (hn2 : n ≤ 40) {r : Nat} (hr : r < n) : Tells X 102 [.ref (B + 35), .int (nI r)] h (M 39 r) := by
  refine wp_aload_n d102_0 rfl ?_
  refine wp_iload_n d102_1 rfl ?_
  refine wp_invvT (e := 40) (j2 := 99) (n := 1) d102_2 (by decide +kernel) (by decide +kernel) rfl rfl rfl (um_35 hM) (by decide +kernel) (Nat.le_of_ble_eq_true rfl) rfl rfl (Nat.le_of_ble_eq_true rfl) (by decide +kernel) (u_has35 hM hn (by omega) (nI r)) ?_
  refine wp_ifb_eq d102_5 (tgt := 17) (by decide) (fun hq9 => absurd (⟨nI_le (by omega) (by omega), nI_lt (by omega) (by omega)⟩ : nI 0 ≤ nI r ∧ nI r < nI n) hq9) (fun _ => ?_)
  refine wp_aload_n d102_8 rfl ?_
  refine wp_getf (e := 21) (ci := 8) (k := 3) (nest := false) d102_9 (by decide +kernel) (um_35 hM) rfl ?_
  refine wp_iload_n d102_12 rfl ?_
  refine wp_iald d102_13 (um_39 hM) (nI_in (by omega) (by decide)) (v := M 39 r) ((congrArg (M 39) (nI_nat (by omega))).trans rfl) ?_
  refine wp_goto d102_14 (tgt := 19) (by decide) ?_
  refine wp_iret d102_19 (by decide +kernel) ?_
  exact ⟨rfl, rfl⟩
theorem u_o102 {X : mX} {h : mH} {B st : Nat} {M : Nat → Nat → Int32} (hM : Mus h B st M) {n : Nat} (hn : M 35 5 = nI n) (hn2 : n ≤ 40) {x : Int32} (hx : ¬ (nI 0 ≤ x ∧ x < nI n)) : Tells X 102 [.ref (B + 35), .int (x)] h (-5) := by
  refine wp_aload_n d102_0 rfl ?_
  refine wp_iload_n d102_1 rfl ?_
  refine wp_invvT (e := 40) (j2 := 99) (n := 1) d102_2 (by decide +kernel) (by decide +kernel) rfl rfl rfl (um_35 hM) (by decide +kernel) (Nat.le_of_ble_eq_true rfl) rfl rfl (Nat.le_of_ble_eq_true rfl) (by decide +kernel) (u_has35 hM hn (by omega) (x)) ?_
  refine wp_ifb_eq d102_5 (tgt := 17) (by decide) (fun _ => ?_) (fun hq9 => absurd hq9 hx)
  refine wp_bipush d102_17 (v := (-5 : Int32)) (by decide) ?_
  refine wp_iret d102_19 (by decide +kernel) ?_
  exact ⟨rfl, rfl⟩
theorem u_a187 {X : mX} {h : mH} {B st : Nat} {M : Nat → Nat → Int32} (hM : Mus h B st M) {n : Nat} (hn : M 35 5 = nI n) (hn2 : n ≤ 40) {r : Nat} (hr : r < n) : Tells X 187 [.ref (B + 35), .int (nI r)] h (M 40 r) := by
  refine wp_aload_n d187_0 rfl ?_
  refine wp_iload_n d187_1 rfl ?_
  refine wp_invvT (e := 40) (j2 := 99) (n := 1) d187_2 (by decide +kernel) (by decide +kernel) rfl rfl rfl (um_35 hM) (by decide +kernel) (Nat.le_of_ble_eq_true rfl) rfl rfl (Nat.le_of_ble_eq_true rfl) (by decide +kernel) (u_has35 hM hn (by omega) (nI r)) ?_
  refine wp_ifb_eq d187_5 (tgt := 17) (by decide) (fun hq9 => absurd (⟨nI_le (by omega) (by omega), nI_lt (by omega) (by omega)⟩ : nI 0 ≤ nI r ∧ nI r < nI n) hq9) (fun _ => ?_)
  refine wp_aload_n d187_8 rfl ?_
  refine wp_getf (e := 24) (ci := 8) (k := 4) (nest := false) d187_9 (by decide +kernel) (um_35 hM) rfl ?_
  refine wp_iload_n d187_12 rfl ?_
  refine wp_iald d187_13 (um_40 hM) (nI_in (by omega) (by decide)) (v := M 40 r) ((congrArg (M 40) (nI_nat (by omega))).trans rfl) ?_
  refine wp_goto d187_14 (tgt := 19) (by decide) ?_
  refine wp_iret d187_19 (by decide +kernel) ?_
  exact ⟨rfl, rfl⟩
theorem u_o187 {X : mX} {h : mH} {B st : Nat} {M : Nat → Nat → Int32} (hM : Mus h B st M) {n : Nat} (hn : M 35 5 = nI n) (hn2 : n ≤ 40) {x : Int32} (hx : ¬ (nI 0 ≤ x ∧ x < nI n)) : Tells X 187 [.ref (B + 35), .int (x)] h (-5) := by
  refine wp_aload_n d187_0 rfl ?_
  refine wp_iload_n d187_1 rfl ?_
  refine wp_invvT (e := 40) (j2 := 99) (n := 1) d187_2 (by decide +kernel) (by decide +kernel) rfl rfl rfl (um_35 hM) (by decide +kernel) (Nat.le_of_ble_eq_true rfl) rfl rfl (Nat.le_of_ble_eq_true rfl) (by decide +kernel) (u_has35 hM hn (by omega) (x)) ?_
  refine wp_ifb_eq d187_5 (tgt := 17) (by decide) (fun _ => ?_) (fun hq9 => absurd hq9 hx)
  refine wp_bipush d187_17 (v := (-5 : Int32)) (by decide) ?_
  refine wp_iret d187_19 (by decide +kernel) ?_
  exact ⟨rfl, rfl⟩
theorem tells_to {X : mX} {j : Nat} {as : List Value} {h : mH} {r r2 : Int32} (e : r = r2) (t : Tells X j as h r) : Tells X j as h r2 := e ▸ t
theorem u_f204 {X : mX} {h : mH} {B st : Nat} {M : Nat → Nat → Int32} (hM : Mus h B st M)  : Tells X 204 [.ref (B + 35)] h (M 35 6) := by
  refine wp_aload_n d204_0 rfl ?_
  refine wp_getf (e := 31) (ci := 8) (k := 6) (nest := false) d204_1 (by decide +kernel) (um_35 hM) rfl ?_
  refine wp_iret d204_4 (by decide +kernel) ?_
  exact ⟨rfl, rfl⟩
theorem u_f205 {X : mX} {h : mH} {B st : Nat} {M : Nat → Nat → Int32} (hM : Mus h B st M)  : Tells X 205 [.ref (B + 41)] h (M 41 2) := by
  refine wp_aload_n d205_0 rfl ?_
  refine wp_getf (e := 18) (ci := 9) (k := 2) (nest := false) d205_1 (by decide +kernel) (um_41 hM) rfl ?_
  refine wp_iret d205_4 (by decide +kernel) ?_
  exact ⟨rfl, rfl⟩
