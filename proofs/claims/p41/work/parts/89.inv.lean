/-! What the constructors make. -/
theorem d3_0 : decode (m_code 3) 0 = .ok (.aload_n 0, 1) := by decide +kernel
theorem d3_1 : decode (m_code 3) 1 = .ok (.invokespecial 3, 3) := by decide +kernel
theorem d3_4 : decode (m_code 3) 4 = .ok (.aload_n 0, 1) := by decide +kernel
theorem d3_5 : decode (m_code 3) 5 = .ok (.bipush 12, 2) := by decide +kernel
theorem d3_7 : decode (m_code 3) 7 = .ok (.newarray .int, 2) := by decide +kernel
theorem d3_9 : decode (m_code 3) 9 = .ok (.putfield 9, 3) := by decide +kernel
theorem d3_12 : decode (m_code 3) 12 = .ok (.aload_n 0, 1) := by decide +kernel
theorem d3_13 : decode (m_code 3) 13 = .ok (.bipush 12, 2) := by decide +kernel
theorem d3_15 : decode (m_code 3) 15 = .ok (.newarray .int, 2) := by decide +kernel
theorem d3_17 : decode (m_code 3) 17 = .ok (.putfield 15, 3) := by decide +kernel
theorem d3_20 : decode (m_code 3) 20 = .ok (.aload_n 0, 1) := by decide +kernel
theorem d3_21 : decode (m_code 3) 21 = .ok (.bipush 12, 2) := by decide +kernel
theorem d3_23 : decode (m_code 3) 23 = .ok (.newarray .int, 2) := by decide +kernel
theorem d3_25 : decode (m_code 3) 25 = .ok (.putfield 18, 3) := by decide +kernel
theorem d3_28 : decode (m_code 3) 28 = .ok (.aload_n 0, 1) := by decide +kernel
theorem d3_29 : decode (m_code 3) 29 = .ok (.bipush 12, 2) := by decide +kernel
theorem d3_31 : decode (m_code 3) 31 = .ok (.newarray .int, 2) := by decide +kernel
theorem d3_33 : decode (m_code 3) 33 = .ok (.putfield 21, 3) := by decide +kernel
theorem d3_36 : decode (m_code 3) 36 = .ok (.aload_n 0, 1) := by decide +kernel
theorem d3_37 : decode (m_code 3) 37 = .ok (.bipush 12, 2) := by decide +kernel
theorem d3_39 : decode (m_code 3) 39 = .ok (.newarray .int, 2) := by decide +kernel
theorem d3_41 : decode (m_code 3) 41 = .ok (.putfield 24, 3) := by decide +kernel
theorem d3_44 : decode (m_code 3) 44 = .ok (.aload_n 0, 1) := by decide +kernel
theorem d3_45 : decode (m_code 3) 45 = .ok (.bipush 12, 2) := by decide +kernel
theorem d3_47 : decode (m_code 3) 47 = .ok (.newarray .int, 2) := by decide +kernel
theorem d3_49 : decode (m_code 3) 49 = .ok (.putfield 27, 3) := by decide +kernel
theorem d3_52 : decode (m_code 3) 52 = .ok (.aload_n 0, 1) := by decide +kernel
theorem d3_53 : decode (m_code 3) 53 = .ok (.getfield 9, 3) := by decide +kernel
theorem d3_56 : decode (m_code 3) 56 = .ok (.iconst 0, 1) := by decide +kernel
theorem d3_57 : decode (m_code 3) 57 = .ok (.bipush (-5), 2) := by decide +kernel
theorem d3_59 : decode (m_code 3) 59 = .ok (.iastore, 1) := by decide +kernel
theorem d3_60 : decode (m_code 3) 60 = .ok (.aload_n 0, 1) := by decide +kernel
theorem d3_61 : decode (m_code 3) 61 = .ok (.iconst 1, 1) := by decide +kernel
theorem d3_62 : decode (m_code 3) 62 = .ok (.putfield 30, 3) := by decide +kernel
theorem d3_65 : decode (m_code 3) 65 = .ok (.return_, 1) := by decide +kernel
theorem d4_0 : decode (m_code 4) 0 = .ok (.aload_n 0, 1) := by decide +kernel
theorem d4_1 : decode (m_code 4) 1 = .ok (.invokespecial 3, 3) := by decide +kernel
theorem d4_4 : decode (m_code 4) 4 = .ok (.aload_n 0, 1) := by decide +kernel
theorem d4_5 : decode (m_code 4) 5 = .ok (.bipush 20, 2) := by decide +kernel
theorem d4_7 : decode (m_code 4) 7 = .ok (.newarray .int, 2) := by decide +kernel
theorem d4_9 : decode (m_code 4) 9 = .ok (.putfield 9, 3) := by decide +kernel
theorem d4_12 : decode (m_code 4) 12 = .ok (.aload_n 0, 1) := by decide +kernel
theorem d4_13 : decode (m_code 4) 13 = .ok (.bipush 20, 2) := by decide +kernel
theorem d4_15 : decode (m_code 4) 15 = .ok (.newarray .int, 2) := by decide +kernel
theorem d4_17 : decode (m_code 4) 17 = .ok (.putfield 15, 3) := by decide +kernel
theorem d4_20 : decode (m_code 4) 20 = .ok (.aload_n 0, 1) := by decide +kernel
theorem d4_21 : decode (m_code 4) 21 = .ok (.bipush 20, 2) := by decide +kernel
theorem d4_23 : decode (m_code 4) 23 = .ok (.newarray .int, 2) := by decide +kernel
theorem d4_25 : decode (m_code 4) 25 = .ok (.putfield 18, 3) := by decide +kernel
theorem d4_28 : decode (m_code 4) 28 = .ok (.aload_n 0, 1) := by decide +kernel
theorem d4_29 : decode (m_code 4) 29 = .ok (.bipush 20, 2) := by decide +kernel
theorem d4_31 : decode (m_code 4) 31 = .ok (.newarray .int, 2) := by decide +kernel
theorem d4_33 : decode (m_code 4) 33 = .ok (.putfield 21, 3) := by decide +kernel
theorem d4_36 : decode (m_code 4) 36 = .ok (.aload_n 0, 1) := by decide +kernel
theorem d4_37 : decode (m_code 4) 37 = .ok (.bipush 20, 2) := by decide +kernel
theorem d4_39 : decode (m_code 4) 39 = .ok (.newarray .int, 2) := by decide +kernel
theorem d4_41 : decode (m_code 4) 41 = .ok (.putfield 24, 3) := by decide +kernel
theorem d4_44 : decode (m_code 4) 44 = .ok (.aload_n 0, 1) := by decide +kernel
theorem d4_45 : decode (m_code 4) 45 = .ok (.bipush 12, 2) := by decide +kernel
theorem d4_47 : decode (m_code 4) 47 = .ok (.newarray .int, 2) := by decide +kernel
theorem d4_49 : decode (m_code 4) 49 = .ok (.putfield 27, 3) := by decide +kernel
theorem d4_52 : decode (m_code 4) 52 = .ok (.aload_n 0, 1) := by decide +kernel
theorem d4_53 : decode (m_code 4) 53 = .ok (.iconst 0, 1) := by decide +kernel
theorem d4_54 : decode (m_code 4) 54 = .ok (.putfield 30, 3) := by decide +kernel
theorem d4_57 : decode (m_code 4) 57 = .ok (.return_, 1) := by decide +kernel
theorem d5_0 : decode (m_code 5) 0 = .ok (.aload_n 0, 1) := by decide +kernel
theorem d5_1 : decode (m_code 5) 1 = .ok (.invokespecial 3, 3) := by decide +kernel
theorem d5_4 : decode (m_code 5) 4 = .ok (.aload_n 0, 1) := by decide +kernel
theorem d5_5 : decode (m_code 5) 5 = .ok (.bipush 6, 2) := by decide +kernel
theorem d5_7 : decode (m_code 5) 7 = .ok (.newarray .int, 2) := by decide +kernel
theorem d5_9 : decode (m_code 5) 9 = .ok (.putfield 9, 3) := by decide +kernel
theorem d5_12 : decode (m_code 5) 12 = .ok (.aload_n 0, 1) := by decide +kernel
theorem d5_13 : decode (m_code 5) 13 = .ok (.iconst 0, 1) := by decide +kernel
theorem d5_14 : decode (m_code 5) 14 = .ok (.putfield 15, 3) := by decide +kernel
theorem d5_17 : decode (m_code 5) 17 = .ok (.return_, 1) := by decide +kernel
theorem d6_0 : decode (m_code 6) 0 = .ok (.aload_n 0, 1) := by decide +kernel
theorem d6_1 : decode (m_code 6) 1 = .ok (.invokespecial 3, 3) := by decide +kernel
theorem d6_4 : decode (m_code 6) 4 = .ok (.aload_n 0, 1) := by decide +kernel
theorem d6_5 : decode (m_code 6) 5 = .ok (.bipush 8, 2) := by decide +kernel
theorem d6_7 : decode (m_code 6) 7 = .ok (.newarray .int, 2) := by decide +kernel
theorem d6_9 : decode (m_code 6) 9 = .ok (.putfield 9, 3) := by decide +kernel
theorem d6_12 : decode (m_code 6) 12 = .ok (.aload_n 0, 1) := by decide +kernel
theorem d6_13 : decode (m_code 6) 13 = .ok (.getfield 9, 3) := by decide +kernel
theorem d6_16 : decode (m_code 6) 16 = .ok (.bipush (-5), 2) := by decide +kernel
theorem d6_18 : decode (m_code 6) 18 = .ok (.invokestatic 15, 3) := by decide +kernel
theorem d6_21 : decode (m_code 6) 21 = .ok (.return_, 1) := by decide +kernel
theorem d8_0 : decode (m_code 8) 0 = .ok (.aload_n 0, 1) := by decide +kernel
theorem d8_1 : decode (m_code 8) 1 = .ok (.invokespecial 3, 3) := by decide +kernel
theorem d8_4 : decode (m_code 8) 4 = .ok (.aload_n 0, 1) := by decide +kernel
theorem d8_5 : decode (m_code 8) 5 = .ok (.iconst 4, 1) := by decide +kernel
theorem d8_6 : decode (m_code 8) 6 = .ok (.newarray .int, 2) := by decide +kernel
theorem d8_8 : decode (m_code 8) 8 = .ok (.putfield 9, 3) := by decide +kernel
theorem d8_11 : decode (m_code 8) 11 = .ok (.aload_n 0, 1) := by decide +kernel
theorem d8_12 : decode (m_code 8) 12 = .ok (.iconst 4, 1) := by decide +kernel
theorem d8_13 : decode (m_code 8) 13 = .ok (.newarray .int, 2) := by decide +kernel
theorem d8_15 : decode (m_code 8) 15 = .ok (.putfield 15, 3) := by decide +kernel
theorem d8_18 : decode (m_code 8) 18 = .ok (.aload_n 0, 1) := by decide +kernel
theorem d8_19 : decode (m_code 8) 19 = .ok (.iconst 4, 1) := by decide +kernel
theorem d8_20 : decode (m_code 8) 20 = .ok (.newarray .int, 2) := by decide +kernel
theorem d8_22 : decode (m_code 8) 22 = .ok (.putfield 18, 3) := by decide +kernel
theorem d8_25 : decode (m_code 8) 25 = .ok (.aload_n 0, 1) := by decide +kernel
theorem d8_26 : decode (m_code 8) 26 = .ok (.iconst 4, 1) := by decide +kernel
theorem d8_27 : decode (m_code 8) 27 = .ok (.newarray .int, 2) := by decide +kernel
theorem d8_29 : decode (m_code 8) 29 = .ok (.putfield 21, 3) := by decide +kernel
theorem d8_32 : decode (m_code 8) 32 = .ok (.aload_n 0, 1) := by decide +kernel
theorem d8_33 : decode (m_code 8) 33 = .ok (.iconst 4, 1) := by decide +kernel
theorem d8_34 : decode (m_code 8) 34 = .ok (.newarray .int, 2) := by decide +kernel
theorem d8_36 : decode (m_code 8) 36 = .ok (.putfield 24, 3) := by decide +kernel
theorem d8_39 : decode (m_code 8) 39 = .ok (.aload_n 0, 1) := by decide +kernel
theorem d8_40 : decode (m_code 8) 40 = .ok (.iconst 4, 1) := by decide +kernel
theorem d8_41 : decode (m_code 8) 41 = .ok (.newarray .int, 2) := by decide +kernel
theorem d8_43 : decode (m_code 8) 43 = .ok (.putfield 27, 3) := by decide +kernel
theorem d8_46 : decode (m_code 8) 46 = .ok (.aload_n 0, 1) := by decide +kernel
theorem d8_47 : decode (m_code 8) 47 = .ok (.iconst 4, 1) := by decide +kernel
theorem d8_48 : decode (m_code 8) 48 = .ok (.newarray .int, 2) := by decide +kernel
theorem d8_50 : decode (m_code 8) 50 = .ok (.putfield 30, 3) := by decide +kernel
theorem d8_53 : decode (m_code 8) 53 = .ok (.aload_n 0, 1) := by decide +kernel
theorem d8_54 : decode (m_code 8) 54 = .ok (.iconst 4, 1) := by decide +kernel
theorem d8_55 : decode (m_code 8) 55 = .ok (.newarray .int, 2) := by decide +kernel
theorem d8_57 : decode (m_code 8) 57 = .ok (.putfield 33, 3) := by decide +kernel
theorem d8_60 : decode (m_code 8) 60 = .ok (.aload_n 0, 1) := by decide +kernel
theorem d8_61 : decode (m_code 8) 61 = .ok (.bipush 48, 2) := by decide +kernel
theorem d8_63 : decode (m_code 8) 63 = .ok (.newarray .int, 2) := by decide +kernel
theorem d8_65 : decode (m_code 8) 65 = .ok (.putfield 36, 3) := by decide +kernel
theorem d8_68 : decode (m_code 8) 68 = .ok (.aload_n 0, 1) := by decide +kernel
theorem d8_69 : decode (m_code 8) 69 = .ok (.iconst 0, 1) := by decide +kernel
theorem d8_70 : decode (m_code 8) 70 = .ok (.putfield 39, 3) := by decide +kernel
theorem d8_73 : decode (m_code 8) 73 = .ok (.return_, 1) := by decide +kernel
theorem d9_0 : decode (m_code 9) 0 = .ok (.aload_n 0, 1) := by decide +kernel
theorem d9_1 : decode (m_code 9) 1 = .ok (.invokespecial 3, 3) := by decide +kernel
theorem d9_4 : decode (m_code 9) 4 = .ok (.aload_n 0, 1) := by decide +kernel
theorem d9_5 : decode (m_code 9) 5 = .ok (.bipush 10, 2) := by decide +kernel
theorem d9_7 : decode (m_code 9) 7 = .ok (.newarray .int, 2) := by decide +kernel
theorem d9_9 : decode (m_code 9) 9 = .ok (.putfield 9, 3) := by decide +kernel
theorem d9_12 : decode (m_code 9) 12 = .ok (.aload_n 0, 1) := by decide +kernel
theorem d9_13 : decode (m_code 9) 13 = .ok (.bipush 10, 2) := by decide +kernel
theorem d9_15 : decode (m_code 9) 15 = .ok (.newarray .int, 2) := by decide +kernel
theorem d9_17 : decode (m_code 9) 17 = .ok (.putfield 15, 3) := by decide +kernel
theorem d9_20 : decode (m_code 9) 20 = .ok (.aload_n 0, 1) := by decide +kernel
theorem d9_21 : decode (m_code 9) 21 = .ok (.bipush 10, 2) := by decide +kernel
theorem d9_23 : decode (m_code 9) 23 = .ok (.newarray .int, 2) := by decide +kernel
theorem d9_25 : decode (m_code 9) 25 = .ok (.putfield 18, 3) := by decide +kernel
theorem d9_28 : decode (m_code 9) 28 = .ok (.aload_n 0, 1) := by decide +kernel
theorem d9_29 : decode (m_code 9) 29 = .ok (.bipush 10, 2) := by decide +kernel
theorem d9_31 : decode (m_code 9) 31 = .ok (.newarray .int, 2) := by decide +kernel
theorem d9_33 : decode (m_code 9) 33 = .ok (.putfield 21, 3) := by decide +kernel
theorem d9_36 : decode (m_code 9) 36 = .ok (.aload_n 0, 1) := by decide +kernel
theorem d9_37 : decode (m_code 9) 37 = .ok (.bipush 10, 2) := by decide +kernel
theorem d9_39 : decode (m_code 9) 39 = .ok (.newarray .int, 2) := by decide +kernel
theorem d9_41 : decode (m_code 9) 41 = .ok (.putfield 24, 3) := by decide +kernel
theorem d9_44 : decode (m_code 9) 44 = .ok (.aload_n 0, 1) := by decide +kernel
theorem d9_45 : decode (m_code 9) 45 = .ok (.iconst 0, 1) := by decide +kernel
theorem d9_46 : decode (m_code 9) 46 = .ok (.putfield 27, 3) := by decide +kernel
theorem d9_49 : decode (m_code 9) 49 = .ok (.return_, 1) := by decide +kernel
theorem d10_0 : decode (m_code 10) 0 = .ok (.aload_n 0, 1) := by decide +kernel
theorem d10_1 : decode (m_code 10) 1 = .ok (.invokespecial 3, 3) := by decide +kernel
theorem d10_4 : decode (m_code 10) 4 = .ok (.aload_n 0, 1) := by decide +kernel
theorem d10_5 : decode (m_code 10) 5 = .ok (.bipush 40, 2) := by decide +kernel
theorem d10_7 : decode (m_code 10) 7 = .ok (.newarray .int, 2) := by decide +kernel
theorem d10_9 : decode (m_code 10) 9 = .ok (.putfield 9, 3) := by decide +kernel
theorem d10_12 : decode (m_code 10) 12 = .ok (.aload_n 0, 1) := by decide +kernel
theorem d10_13 : decode (m_code 10) 13 = .ok (.bipush 40, 2) := by decide +kernel
theorem d10_15 : decode (m_code 10) 15 = .ok (.newarray .int, 2) := by decide +kernel
theorem d10_17 : decode (m_code 10) 17 = .ok (.putfield 15, 3) := by decide +kernel
theorem d10_20 : decode (m_code 10) 20 = .ok (.aload_n 0, 1) := by decide +kernel
theorem d10_21 : decode (m_code 10) 21 = .ok (.bipush 40, 2) := by decide +kernel
theorem d10_23 : decode (m_code 10) 23 = .ok (.newarray .int, 2) := by decide +kernel
theorem d10_25 : decode (m_code 10) 25 = .ok (.putfield 18, 3) := by decide +kernel
theorem d10_28 : decode (m_code 10) 28 = .ok (.aload_n 0, 1) := by decide +kernel
theorem d10_29 : decode (m_code 10) 29 = .ok (.bipush 40, 2) := by decide +kernel
theorem d10_31 : decode (m_code 10) 31 = .ok (.newarray .int, 2) := by decide +kernel
theorem d10_33 : decode (m_code 10) 33 = .ok (.putfield 21, 3) := by decide +kernel
theorem d10_36 : decode (m_code 10) 36 = .ok (.aload_n 0, 1) := by decide +kernel
theorem d10_37 : decode (m_code 10) 37 = .ok (.bipush 40, 2) := by decide +kernel
theorem d10_39 : decode (m_code 10) 39 = .ok (.newarray .int, 2) := by decide +kernel
theorem d10_41 : decode (m_code 10) 41 = .ok (.putfield 24, 3) := by decide +kernel
theorem d10_44 : decode (m_code 10) 44 = .ok (.aload_n 0, 1) := by decide +kernel
theorem d10_45 : decode (m_code 10) 45 = .ok (.iconst 0, 1) := by decide +kernel
theorem d10_46 : decode (m_code 10) 46 = .ok (.putfield 27, 3) := by decide +kernel
theorem d10_49 : decode (m_code 10) 49 = .ok (.aload_n 0, 1) := by decide +kernel
theorem d10_50 : decode (m_code 10) 50 = .ok (.iconst 0, 1) := by decide +kernel
theorem d10_51 : decode (m_code 10) 51 = .ok (.putfield 31, 3) := by decide +kernel
theorem d10_54 : decode (m_code 10) 54 = .ok (.return_, 1) := by decide +kernel
theorem d11_0 : decode (m_code 11) 0 = .ok (.aload_n 0, 1) := by decide +kernel
theorem d11_1 : decode (m_code 11) 1 = .ok (.invokespecial 5, 3) := by decide +kernel
theorem d11_4 : decode (m_code 11) 4 = .ok (.aload_n 0, 1) := by decide +kernel
theorem d11_5 : decode (m_code 11) 5 = .ok (.sipush 720, 3) := by decide +kernel
theorem d11_8 : decode (m_code 11) 8 = .ok (.newarray .int, 2) := by decide +kernel
theorem d11_10 : decode (m_code 11) 10 = .ok (.putfield 11, 3) := by decide +kernel
theorem d11_13 : decode (m_code 11) 13 = .ok (.aload_n 0, 1) := by decide +kernel
theorem d11_14 : decode (m_code 11) 14 = .ok (.bipush 64, 2) := by decide +kernel
theorem d11_16 : decode (m_code 11) 16 = .ok (.newarray .int, 2) := by decide +kernel
theorem d11_18 : decode (m_code 11) 18 = .ok (.putfield 15, 3) := by decide +kernel
theorem d11_21 : decode (m_code 11) 21 = .ok (.aload_n 0, 1) := by decide +kernel
theorem d11_22 : decode (m_code 11) 22 = .ok (.iconst 0, 1) := by decide +kernel
theorem d11_23 : decode (m_code 11) 23 = .ok (.putfield 18, 3) := by decide +kernel
theorem d11_26 : decode (m_code 11) 26 = .ok (.return_, 1) := by decide +kernel
theorem d13_0 : decode (m_code 13) 0 = .ok (.aload_n 0, 1) := by decide +kernel
theorem d13_1 : decode (m_code 13) 1 = .ok (.invokespecial 3, 3) := by decide +kernel
theorem d13_4 : decode (m_code 13) 4 = .ok (.aload_n 0, 1) := by decide +kernel
theorem d13_5 : decode (m_code 13) 5 = .ok (.bipush 60, 2) := by decide +kernel
theorem d13_7 : decode (m_code 13) 7 = .ok (.newarray .char, 2) := by decide +kernel
theorem d13_9 : decode (m_code 13) 9 = .ok (.putfield 9, 3) := by decide +kernel
theorem d13_12 : decode (m_code 13) 12 = .ok (.aload_n 0, 1) := by decide +kernel
theorem d13_13 : decode (m_code 13) 13 = .ok (.iconst 0, 1) := by decide +kernel
theorem d13_14 : decode (m_code 13) 14 = .ok (.putfield 15, 3) := by decide +kernel
theorem d13_17 : decode (m_code 13) 17 = .ok (.aload_n 0, 1) := by decide +kernel
theorem d13_18 : decode (m_code 13) 18 = .ok (.bipush 31, 2) := by decide +kernel
theorem d13_20 : decode (m_code 13) 20 = .ok (.newarray .int, 2) := by decide +kernel
theorem d13_22 : decode (m_code 13) 22 = .ok (.putfield 19, 3) := by decide +kernel
theorem d13_25 : decode (m_code 13) 25 = .ok (.aload_n 0, 1) := by decide +kernel
theorem d13_26 : decode (m_code 13) 26 = .ok (.iconst 0, 1) := by decide +kernel
theorem d13_27 : decode (m_code 13) 27 = .ok (.putfield 23, 3) := by decide +kernel
theorem d13_30 : decode (m_code 13) 30 = .ok (.aload_n 0, 1) := by decide +kernel
theorem d13_31 : decode (m_code 13) 31 = .ok (.iconst 0, 1) := by decide +kernel
theorem d13_32 : decode (m_code 13) 32 = .ok (.putfield 26, 3) := by decide +kernel
theorem d13_35 : decode (m_code 13) 35 = .ok (.return_, 1) := by decide +kernel
theorem Bd.callN {h0 h h1 : mH} {a ci ci2 : Nat} {fs fs2 : List Value} {cs cs2 : List mC} {c0 : mC} {w w2 k : Nat} (b : Bd h0 a h ci fs (cs ++ [c0]) w) (hk : cs.length = k) (d : Bd h (h0.1.length + k) h1 ci2 fs2 cs2 w2) : Bd h0 a h1 ci fs (cs ++ (.inr (ci2, fs2) :: cs2)) (w + w2) := by
  subst hk
  have e : (cs ++ [c0])[cs.length]? = some c0 := by
    rw [List.getElem?_append_right (Nat.le_refl _), Nat.sub_self]
    rfl
  have := b.call e d
  have e2 : (cs ++ [c0]).set cs.length (.inr (ci2, fs2)) = cs ++ [.inr (ci2, fs2)] := by
    rw [List.set_append_right _ _ (Nat.le_refl _), Nat.sub_self]
    rfl
  rw [e2, List.append_assoc] at this
  exact this
theorem Bd.lenN {h0 h : mH} {a ci k : Nat} {fs : List Value} {cs : List mC} {w : Nat} (b : Bd h0 a h ci fs cs w) (hk : cs.length = k) : h.1.length = h0.1.length + k := hk ▸ b.1
theorem Bd.last {h0 h : mH} {a ci k : Nat} {fs : List Value} {cs : List mC} {c0 : mC} {w : Nat} (b : Bd h0 a h ci fs (cs ++ [c0]) w) (hk : cs.length = k) : m_get h (h0.1.length + k) = some c0 := by
  subst hk
  refine b.2.2.2.2.2 _ _ ?_
  rw [List.getElem?_append_right (Nat.le_refl _), Nat.sub_self]
  rfl
theorem ctor_3 {X : mX} {h0 : mH} {a n : Nat} (he : m_get h0 a = some (.inr (2, m_df 2))) (hn : h0.1.length = n) : m_wp X 3 0 (m_entry 3 [.ref a]) [] h0 (fun w h1 => w = none ∧ Bd h0 a h1 2 [.ref (n + 0), .ref (n + 1), .ref (n + 2), .ref (n + 3), .ref (n + 4), .ref (n + 5), .int (nI 1)] [.inl (false, 12, (upd (fun _ => 0) 0 ((-5 : Int32)))), .inl (false, 12, (fun _ => 0)), .inl (false, 12, (fun _ => 0)), .inl (false, 12, (fun _ => 0)), .inl (false, 12, (fun _ => 0)), .inl (false, 12, (fun _ => 0))] 72) := by
  subst hn
  have hB := Bd.rf he
  refine wp_aload_n d3_0 rfl ?_
  refine wp_obj (e := 3) (j2 := 0) d3_1 (by decide +kernel) (Nat.le_of_ble_eq_true rfl) rfl (by decide +kernel) ?_
  refine wp_aload_n d3_4 rfl ?_
  refine wp_bipush d3_5 (v := nI 12) (by decide) ?_
  refine wp_newi d3_7 (nI_nn _ (by decide)) (N := 12) (nI_nat (by decide)) (by decide) ?_
  refine bd_new hB rfl (k := 0) rfl (.inl (false, 12, fun _ => 0)) 12 (fun h hB => ?_)
  refine wp_putf (e := 9) (ci := 2) (k := 0) (nest := false) d3_9 (by decide +kernel) hB.2.2.2.2.1 (Nat.le_of_ble_eq_true rfl) rfl (Or.inr (by decide +kernel)) ?_
  refine bd_step (hB.put _) (fun h hB => ?_)
  refine wp_aload_n d3_12 rfl ?_
  refine wp_bipush d3_13 (v := nI 12) (by decide) ?_
  refine wp_newi d3_15 (nI_nn _ (by decide)) (N := 12) (nI_nat (by decide)) (by decide) ?_
  refine bd_new hB rfl (k := 1) rfl (.inl (false, 12, fun _ => 0)) 12 (fun h hB => ?_)
  refine wp_putf (e := 15) (ci := 2) (k := 1) (nest := false) d3_17 (by decide +kernel) hB.2.2.2.2.1 (Nat.le_of_ble_eq_true rfl) rfl (Or.inr (by decide +kernel)) ?_
  refine bd_step (hB.put _) (fun h hB => ?_)
  refine wp_aload_n d3_20 rfl ?_
  refine wp_bipush d3_21 (v := nI 12) (by decide) ?_
  refine wp_newi d3_23 (nI_nn _ (by decide)) (N := 12) (nI_nat (by decide)) (by decide) ?_
  refine bd_new hB rfl (k := 2) rfl (.inl (false, 12, fun _ => 0)) 12 (fun h hB => ?_)
  refine wp_putf (e := 18) (ci := 2) (k := 2) (nest := false) d3_25 (by decide +kernel) hB.2.2.2.2.1 (Nat.le_of_ble_eq_true rfl) rfl (Or.inr (by decide +kernel)) ?_
  refine bd_step (hB.put _) (fun h hB => ?_)
  refine wp_aload_n d3_28 rfl ?_
  refine wp_bipush d3_29 (v := nI 12) (by decide) ?_
  refine wp_newi d3_31 (nI_nn _ (by decide)) (N := 12) (nI_nat (by decide)) (by decide) ?_
  refine bd_new hB rfl (k := 3) rfl (.inl (false, 12, fun _ => 0)) 12 (fun h hB => ?_)
  refine wp_putf (e := 21) (ci := 2) (k := 3) (nest := false) d3_33 (by decide +kernel) hB.2.2.2.2.1 (Nat.le_of_ble_eq_true rfl) rfl (Or.inr (by decide +kernel)) ?_
  refine bd_step (hB.put _) (fun h hB => ?_)
  refine wp_aload_n d3_36 rfl ?_
  refine wp_bipush d3_37 (v := nI 12) (by decide) ?_
  refine wp_newi d3_39 (nI_nn _ (by decide)) (N := 12) (nI_nat (by decide)) (by decide) ?_
  refine bd_new hB rfl (k := 4) rfl (.inl (false, 12, fun _ => 0)) 12 (fun h hB => ?_)
  refine wp_putf (e := 24) (ci := 2) (k := 4) (nest := false) d3_41 (by decide +kernel) hB.2.2.2.2.1 (Nat.le_of_ble_eq_true rfl) rfl (Or.inr (by decide +kernel)) ?_
  refine bd_step (hB.put _) (fun h hB => ?_)
  refine wp_aload_n d3_44 rfl ?_
  refine wp_bipush d3_45 (v := nI 12) (by decide) ?_
  refine wp_newi d3_47 (nI_nn _ (by decide)) (N := 12) (nI_nat (by decide)) (by decide) ?_
  refine bd_new hB rfl (k := 5) rfl (.inl (false, 12, fun _ => 0)) 12 (fun h hB => ?_)
  refine wp_putf (e := 27) (ci := 2) (k := 5) (nest := false) d3_49 (by decide +kernel) hB.2.2.2.2.1 (Nat.le_of_ble_eq_true rfl) rfl (Or.inr (by decide +kernel)) ?_
  refine bd_step (hB.put _) (fun h hB => ?_)
  refine wp_aload_n d3_52 rfl ?_
  refine wp_getf (e := 9) (ci := 2) (k := 0) (nest := false) d3_53 (by decide +kernel) hB.2.2.2.2.1 rfl ?_
  refine wp_iconst d3_56 (v := nI 0) (by decide) ?_
  refine wp_bipush d3_57 (v := (-5 : Int32)) (by decide) ?_
  refine wp_iast d3_59 (hB.2.2.2.2.2 0 _ rfl) (nI_in (by decide) (by decide)) ?_
  rw [nI_nat (by decide)]
  refine bd_step (hB.cell (i := 0) (c0 := .inl (false, 12, (fun _ => 0))) rfl (.inl (false, 12, (upd (fun _ => 0) 0 ((-5 : Int32)))))) (fun h hB => ?_)
  refine wp_aload_n d3_60 rfl ?_
  refine wp_iconst d3_61 (v := nI 1) (by decide) ?_
  refine wp_putf (e := 30) (ci := 2) (k := 6) (nest := false) d3_62 (by decide +kernel) hB.2.2.2.2.1 (Nat.le_of_ble_eq_true rfl) rfl (Or.inl (by decide +kernel)) ?_
  refine bd_step (hB.put _) (fun h hB => ?_)
  refine wp_vret d3_65 (by decide +kernel) ?_
  exact ⟨rfl, hB⟩
theorem ctor_4 {X : mX} {h0 : mH} {a n : Nat} (he : m_get h0 a = some (.inr (3, m_df 3))) (hn : h0.1.length = n) : m_wp X 4 0 (m_entry 4 [.ref a]) [] h0 (fun w h1 => w = none ∧ Bd h0 a h1 3 [.ref (n + 0), .ref (n + 1), .ref (n + 2), .ref (n + 3), .ref (n + 4), .ref (n + 5), .int (nI 0)] [.inl (false, 20, (fun _ => 0)), .inl (false, 20, (fun _ => 0)), .inl (false, 20, (fun _ => 0)), .inl (false, 20, (fun _ => 0)), .inl (false, 20, (fun _ => 0)), .inl (false, 12, (fun _ => 0))] 112) := by
  subst hn
  have hB := Bd.rf he
  refine wp_aload_n d4_0 rfl ?_
  refine wp_obj (e := 3) (j2 := 0) d4_1 (by decide +kernel) (Nat.le_of_ble_eq_true rfl) rfl (by decide +kernel) ?_
  refine wp_aload_n d4_4 rfl ?_
  refine wp_bipush d4_5 (v := nI 20) (by decide) ?_
  refine wp_newi d4_7 (nI_nn _ (by decide)) (N := 20) (nI_nat (by decide)) (by decide) ?_
  refine bd_new hB rfl (k := 0) rfl (.inl (false, 20, fun _ => 0)) 20 (fun h hB => ?_)
  refine wp_putf (e := 9) (ci := 3) (k := 0) (nest := false) d4_9 (by decide +kernel) hB.2.2.2.2.1 (Nat.le_of_ble_eq_true rfl) rfl (Or.inr (by decide +kernel)) ?_
  refine bd_step (hB.put _) (fun h hB => ?_)
  refine wp_aload_n d4_12 rfl ?_
  refine wp_bipush d4_13 (v := nI 20) (by decide) ?_
  refine wp_newi d4_15 (nI_nn _ (by decide)) (N := 20) (nI_nat (by decide)) (by decide) ?_
  refine bd_new hB rfl (k := 1) rfl (.inl (false, 20, fun _ => 0)) 20 (fun h hB => ?_)
  refine wp_putf (e := 15) (ci := 3) (k := 1) (nest := false) d4_17 (by decide +kernel) hB.2.2.2.2.1 (Nat.le_of_ble_eq_true rfl) rfl (Or.inr (by decide +kernel)) ?_
  refine bd_step (hB.put _) (fun h hB => ?_)
  refine wp_aload_n d4_20 rfl ?_
  refine wp_bipush d4_21 (v := nI 20) (by decide) ?_
  refine wp_newi d4_23 (nI_nn _ (by decide)) (N := 20) (nI_nat (by decide)) (by decide) ?_
  refine bd_new hB rfl (k := 2) rfl (.inl (false, 20, fun _ => 0)) 20 (fun h hB => ?_)
  refine wp_putf (e := 18) (ci := 3) (k := 2) (nest := false) d4_25 (by decide +kernel) hB.2.2.2.2.1 (Nat.le_of_ble_eq_true rfl) rfl (Or.inr (by decide +kernel)) ?_
  refine bd_step (hB.put _) (fun h hB => ?_)
  refine wp_aload_n d4_28 rfl ?_
  refine wp_bipush d4_29 (v := nI 20) (by decide) ?_
  refine wp_newi d4_31 (nI_nn _ (by decide)) (N := 20) (nI_nat (by decide)) (by decide) ?_
  refine bd_new hB rfl (k := 3) rfl (.inl (false, 20, fun _ => 0)) 20 (fun h hB => ?_)
  refine wp_putf (e := 21) (ci := 3) (k := 3) (nest := false) d4_33 (by decide +kernel) hB.2.2.2.2.1 (Nat.le_of_ble_eq_true rfl) rfl (Or.inr (by decide +kernel)) ?_
  refine bd_step (hB.put _) (fun h hB => ?_)
  refine wp_aload_n d4_36 rfl ?_
  refine wp_bipush d4_37 (v := nI 20) (by decide) ?_
  refine wp_newi d4_39 (nI_nn _ (by decide)) (N := 20) (nI_nat (by decide)) (by decide) ?_
  refine bd_new hB rfl (k := 4) rfl (.inl (false, 20, fun _ => 0)) 20 (fun h hB => ?_)
  refine wp_putf (e := 24) (ci := 3) (k := 4) (nest := false) d4_41 (by decide +kernel) hB.2.2.2.2.1 (Nat.le_of_ble_eq_true rfl) rfl (Or.inr (by decide +kernel)) ?_
  refine bd_step (hB.put _) (fun h hB => ?_)
  refine wp_aload_n d4_44 rfl ?_
  refine wp_bipush d4_45 (v := nI 12) (by decide) ?_
  refine wp_newi d4_47 (nI_nn _ (by decide)) (N := 12) (nI_nat (by decide)) (by decide) ?_
  refine bd_new hB rfl (k := 5) rfl (.inl (false, 12, fun _ => 0)) 12 (fun h hB => ?_)
  refine wp_putf (e := 27) (ci := 3) (k := 5) (nest := false) d4_49 (by decide +kernel) hB.2.2.2.2.1 (Nat.le_of_ble_eq_true rfl) rfl (Or.inr (by decide +kernel)) ?_
  refine bd_step (hB.put _) (fun h hB => ?_)
  refine wp_aload_n d4_52 rfl ?_
  refine wp_iconst d4_53 (v := nI 0) (by decide) ?_
  refine wp_putf (e := 30) (ci := 3) (k := 6) (nest := false) d4_54 (by decide +kernel) hB.2.2.2.2.1 (Nat.le_of_ble_eq_true rfl) rfl (Or.inl (by decide +kernel)) ?_
  refine bd_step (hB.put _) (fun h hB => ?_)
  refine wp_vret d4_57 (by decide +kernel) ?_
  exact ⟨rfl, hB⟩
theorem ctor_5 {X : mX} {h0 : mH} {a n : Nat} (he : m_get h0 a = some (.inr (4, m_df 4))) (hn : h0.1.length = n) : m_wp X 5 0 (m_entry 5 [.ref a]) [] h0 (fun w h1 => w = none ∧ Bd h0 a h1 4 [.ref (n + 0), .int (nI 0)] [.inl (false, 6, (fun _ => 0))] 6) := by
  subst hn
  have hB := Bd.rf he
  refine wp_aload_n d5_0 rfl ?_
  refine wp_obj (e := 3) (j2 := 0) d5_1 (by decide +kernel) (Nat.le_of_ble_eq_true rfl) rfl (by decide +kernel) ?_
  refine wp_aload_n d5_4 rfl ?_
  refine wp_bipush d5_5 (v := nI 6) (by decide) ?_
  refine wp_newi d5_7 (nI_nn _ (by decide)) (N := 6) (nI_nat (by decide)) (by decide) ?_
  refine bd_new hB rfl (k := 0) rfl (.inl (false, 6, fun _ => 0)) 6 (fun h hB => ?_)
  refine wp_putf (e := 9) (ci := 4) (k := 0) (nest := false) d5_9 (by decide +kernel) hB.2.2.2.2.1 (Nat.le_of_ble_eq_true rfl) rfl (Or.inr (by decide +kernel)) ?_
  refine bd_step (hB.put _) (fun h hB => ?_)
  refine wp_aload_n d5_12 rfl ?_
  refine wp_iconst d5_13 (v := nI 0) (by decide) ?_
  refine wp_putf (e := 15) (ci := 4) (k := 1) (nest := false) d5_14 (by decide +kernel) hB.2.2.2.2.1 (Nat.le_of_ble_eq_true rfl) rfl (Or.inl (by decide +kernel)) ?_
  refine bd_step (hB.put _) (fun h hB => ?_)
  refine wp_vret d5_17 (by decide +kernel) ?_
  exact ⟨rfl, hB⟩
theorem ctor_fill {X : mX} {h0 h : mH} {a : Nat} {fs : List Value} {w : Nat} (hB : Bd h0 a h 5 fs [.inl (false, 8, fun _ => 0)] w) : m_wp X 7 0 (m_entry 7 [.ref (h0.1.length + 0), .int (-5)]) [] h (fun v h1 => v = none ∧ Bd h0 a h1 5 fs [.inl (false, 8, (upd (upd (upd (upd (upd (upd (upd (upd (fun _ => 0) 0 ((-5 : Int32))) 1 ((-5 : Int32))) 2 ((-5 : Int32))) 3 ((-5 : Int32))) 4 ((-5 : Int32))) 5 ((-5 : Int32))) 6 ((-5 : Int32))) 7 ((-5 : Int32))))] w) := by
  refine wp_iconst d7_0 (v := nI 0) (by decide) ?_
  refine wp_istore_n d7_1 (Nat.le_of_ble_eq_true rfl) rfl ?_
  refine wp_aload_n d7_2 rfl ?_
  refine wp_alen d7_3 (hB.2.2.2.2.2 0 _ rfl) (v := nI 8) rfl ?_
  refine wp_istore_n d7_4 (Nat.le_of_ble_eq_true rfl) rfl ?_
  refine wp_iload_n d7_5 rfl ?_
  refine wp_iload_n d7_6 rfl ?_
  refine wp_icmp_ge d7_7 (tgt := 20) (by decide) (fun hz => absurd hz (by decide)) (fun _ => ?_)
  refine wp_aload_n d7_10 rfl ?_
  refine wp_iload_n d7_11 rfl ?_
  refine wp_iload_n d7_12 rfl ?_
  refine wp_iast d7_13 (hB.2.2.2.2.2 0 _ rfl) (nI_in (by decide) (by decide)) ?_
  rw [nI_nat (by decide)]
  refine bd_step (hB.cell (i := 0) (c0 := .inl (false, 8, (fun _ => 0))) rfl (.inl (false, 8, (upd (fun _ => 0) 0 ((-5 : Int32)))))) (fun h hB => ?_)
  refine wp_iinc d7_14 rfl (v := nI 1) (nI_add _ 1) (Nat.le_of_ble_eq_true rfl) rfl ?_
  refine wp_goto d7_17 (tgt := 5) (by decide) ?_
  refine wp_iload_n d7_5 rfl ?_
  refine wp_iload_n d7_6 rfl ?_
  refine wp_icmp_ge d7_7 (tgt := 20) (by decide) (fun hz => absurd hz (by decide)) (fun _ => ?_)
  refine wp_aload_n d7_10 rfl ?_
  refine wp_iload_n d7_11 rfl ?_
  refine wp_iload_n d7_12 rfl ?_
  refine wp_iast d7_13 (hB.2.2.2.2.2 0 _ rfl) (nI_in (by decide) (by decide)) ?_
  rw [nI_nat (by decide)]
  refine bd_step (hB.cell (i := 0) (c0 := .inl (false, 8, (upd (fun _ => 0) 0 ((-5 : Int32))))) rfl (.inl (false, 8, (upd (upd (fun _ => 0) 0 ((-5 : Int32))) 1 ((-5 : Int32)))))) (fun h hB => ?_)
  refine wp_iinc d7_14 rfl (v := nI 2) (nI_add _ 1) (Nat.le_of_ble_eq_true rfl) rfl ?_
  refine wp_goto d7_17 (tgt := 5) (by decide) ?_
  refine wp_iload_n d7_5 rfl ?_
  refine wp_iload_n d7_6 rfl ?_
  refine wp_icmp_ge d7_7 (tgt := 20) (by decide) (fun hz => absurd hz (by decide)) (fun _ => ?_)
  refine wp_aload_n d7_10 rfl ?_
  refine wp_iload_n d7_11 rfl ?_
  refine wp_iload_n d7_12 rfl ?_
  refine wp_iast d7_13 (hB.2.2.2.2.2 0 _ rfl) (nI_in (by decide) (by decide)) ?_
  rw [nI_nat (by decide)]
  refine bd_step (hB.cell (i := 0) (c0 := .inl (false, 8, (upd (upd (fun _ => 0) 0 ((-5 : Int32))) 1 ((-5 : Int32))))) rfl (.inl (false, 8, (upd (upd (upd (fun _ => 0) 0 ((-5 : Int32))) 1 ((-5 : Int32))) 2 ((-5 : Int32)))))) (fun h hB => ?_)
  refine wp_iinc d7_14 rfl (v := nI 3) (nI_add _ 1) (Nat.le_of_ble_eq_true rfl) rfl ?_
  refine wp_goto d7_17 (tgt := 5) (by decide) ?_
  refine wp_iload_n d7_5 rfl ?_
  refine wp_iload_n d7_6 rfl ?_
  refine wp_icmp_ge d7_7 (tgt := 20) (by decide) (fun hz => absurd hz (by decide)) (fun _ => ?_)
  refine wp_aload_n d7_10 rfl ?_
  refine wp_iload_n d7_11 rfl ?_
  refine wp_iload_n d7_12 rfl ?_
  refine wp_iast d7_13 (hB.2.2.2.2.2 0 _ rfl) (nI_in (by decide) (by decide)) ?_
  rw [nI_nat (by decide)]
  refine bd_step (hB.cell (i := 0) (c0 := .inl (false, 8, (upd (upd (upd (fun _ => 0) 0 ((-5 : Int32))) 1 ((-5 : Int32))) 2 ((-5 : Int32))))) rfl (.inl (false, 8, (upd (upd (upd (upd (fun _ => 0) 0 ((-5 : Int32))) 1 ((-5 : Int32))) 2 ((-5 : Int32))) 3 ((-5 : Int32)))))) (fun h hB => ?_)
  refine wp_iinc d7_14 rfl (v := nI 4) (nI_add _ 1) (Nat.le_of_ble_eq_true rfl) rfl ?_
  refine wp_goto d7_17 (tgt := 5) (by decide) ?_
  refine wp_iload_n d7_5 rfl ?_
  refine wp_iload_n d7_6 rfl ?_
  refine wp_icmp_ge d7_7 (tgt := 20) (by decide) (fun hz => absurd hz (by decide)) (fun _ => ?_)
  refine wp_aload_n d7_10 rfl ?_
  refine wp_iload_n d7_11 rfl ?_
  refine wp_iload_n d7_12 rfl ?_
  refine wp_iast d7_13 (hB.2.2.2.2.2 0 _ rfl) (nI_in (by decide) (by decide)) ?_
  rw [nI_nat (by decide)]
  refine bd_step (hB.cell (i := 0) (c0 := .inl (false, 8, (upd (upd (upd (upd (fun _ => 0) 0 ((-5 : Int32))) 1 ((-5 : Int32))) 2 ((-5 : Int32))) 3 ((-5 : Int32))))) rfl (.inl (false, 8, (upd (upd (upd (upd (upd (fun _ => 0) 0 ((-5 : Int32))) 1 ((-5 : Int32))) 2 ((-5 : Int32))) 3 ((-5 : Int32))) 4 ((-5 : Int32)))))) (fun h hB => ?_)
  refine wp_iinc d7_14 rfl (v := nI 5) (nI_add _ 1) (Nat.le_of_ble_eq_true rfl) rfl ?_
  refine wp_goto d7_17 (tgt := 5) (by decide) ?_
  refine wp_iload_n d7_5 rfl ?_
  refine wp_iload_n d7_6 rfl ?_
  refine wp_icmp_ge d7_7 (tgt := 20) (by decide) (fun hz => absurd hz (by decide)) (fun _ => ?_)
  refine wp_aload_n d7_10 rfl ?_
  refine wp_iload_n d7_11 rfl ?_
  refine wp_iload_n d7_12 rfl ?_
  refine wp_iast d7_13 (hB.2.2.2.2.2 0 _ rfl) (nI_in (by decide) (by decide)) ?_
  rw [nI_nat (by decide)]
  refine bd_step (hB.cell (i := 0) (c0 := .inl (false, 8, (upd (upd (upd (upd (upd (fun _ => 0) 0 ((-5 : Int32))) 1 ((-5 : Int32))) 2 ((-5 : Int32))) 3 ((-5 : Int32))) 4 ((-5 : Int32))))) rfl (.inl (false, 8, (upd (upd (upd (upd (upd (upd (fun _ => 0) 0 ((-5 : Int32))) 1 ((-5 : Int32))) 2 ((-5 : Int32))) 3 ((-5 : Int32))) 4 ((-5 : Int32))) 5 ((-5 : Int32)))))) (fun h hB => ?_)
  refine wp_iinc d7_14 rfl (v := nI 6) (nI_add _ 1) (Nat.le_of_ble_eq_true rfl) rfl ?_
  refine wp_goto d7_17 (tgt := 5) (by decide) ?_
  refine wp_iload_n d7_5 rfl ?_
  refine wp_iload_n d7_6 rfl ?_
  refine wp_icmp_ge d7_7 (tgt := 20) (by decide) (fun hz => absurd hz (by decide)) (fun _ => ?_)
  refine wp_aload_n d7_10 rfl ?_
  refine wp_iload_n d7_11 rfl ?_
  refine wp_iload_n d7_12 rfl ?_
  refine wp_iast d7_13 (hB.2.2.2.2.2 0 _ rfl) (nI_in (by decide) (by decide)) ?_
  rw [nI_nat (by decide)]
  refine bd_step (hB.cell (i := 0) (c0 := .inl (false, 8, (upd (upd (upd (upd (upd (upd (fun _ => 0) 0 ((-5 : Int32))) 1 ((-5 : Int32))) 2 ((-5 : Int32))) 3 ((-5 : Int32))) 4 ((-5 : Int32))) 5 ((-5 : Int32))))) rfl (.inl (false, 8, (upd (upd (upd (upd (upd (upd (upd (fun _ => 0) 0 ((-5 : Int32))) 1 ((-5 : Int32))) 2 ((-5 : Int32))) 3 ((-5 : Int32))) 4 ((-5 : Int32))) 5 ((-5 : Int32))) 6 ((-5 : Int32)))))) (fun h hB => ?_)
  refine wp_iinc d7_14 rfl (v := nI 7) (nI_add _ 1) (Nat.le_of_ble_eq_true rfl) rfl ?_
  refine wp_goto d7_17 (tgt := 5) (by decide) ?_
  refine wp_iload_n d7_5 rfl ?_
  refine wp_iload_n d7_6 rfl ?_
  refine wp_icmp_ge d7_7 (tgt := 20) (by decide) (fun hz => absurd hz (by decide)) (fun _ => ?_)
  refine wp_aload_n d7_10 rfl ?_
  refine wp_iload_n d7_11 rfl ?_
  refine wp_iload_n d7_12 rfl ?_
  refine wp_iast d7_13 (hB.2.2.2.2.2 0 _ rfl) (nI_in (by decide) (by decide)) ?_
  rw [nI_nat (by decide)]
  refine bd_step (hB.cell (i := 0) (c0 := .inl (false, 8, (upd (upd (upd (upd (upd (upd (upd (fun _ => 0) 0 ((-5 : Int32))) 1 ((-5 : Int32))) 2 ((-5 : Int32))) 3 ((-5 : Int32))) 4 ((-5 : Int32))) 5 ((-5 : Int32))) 6 ((-5 : Int32))))) rfl (.inl (false, 8, (upd (upd (upd (upd (upd (upd (upd (upd (fun _ => 0) 0 ((-5 : Int32))) 1 ((-5 : Int32))) 2 ((-5 : Int32))) 3 ((-5 : Int32))) 4 ((-5 : Int32))) 5 ((-5 : Int32))) 6 ((-5 : Int32))) 7 ((-5 : Int32)))))) (fun h hB => ?_)
  refine wp_iinc d7_14 rfl (v := nI 8) (nI_add _ 1) (Nat.le_of_ble_eq_true rfl) rfl ?_
  refine wp_goto d7_17 (tgt := 5) (by decide) ?_
  refine wp_iload_n d7_5 rfl ?_
  refine wp_iload_n d7_6 rfl ?_
  refine wp_icmp_ge d7_7 (tgt := 20) (by decide) (fun _ => ?_) (fun hz => absurd hz (by decide))
  refine wp_vret d7_20 (by decide +kernel) ?_
  exact ⟨rfl, hB⟩
theorem ctor_6 {X : mX} {h0 : mH} {a n : Nat} (he : m_get h0 a = some (.inr (5, m_df 5))) (hn : h0.1.length = n) : m_wp X 6 0 (m_entry 6 [.ref a]) [] h0 (fun w h1 => w = none ∧ Bd h0 a h1 5 [.ref (n + 0)] [.inl (false, 8, (upd (upd (upd (upd (upd (upd (upd (upd (fun _ => 0) 0 ((-5 : Int32))) 1 ((-5 : Int32))) 2 ((-5 : Int32))) 3 ((-5 : Int32))) 4 ((-5 : Int32))) 5 ((-5 : Int32))) 6 ((-5 : Int32))) 7 ((-5 : Int32))))] 8) := by
  subst hn
  have hB := Bd.rf he
  refine wp_aload_n d6_0 rfl ?_
  refine wp_obj (e := 3) (j2 := 0) d6_1 (by decide +kernel) (Nat.le_of_ble_eq_true rfl) rfl (by decide +kernel) ?_
  refine wp_aload_n d6_4 rfl ?_
  refine wp_bipush d6_5 (v := nI 8) (by decide) ?_
  refine wp_newi d6_7 (nI_nn _ (by decide)) (N := 8) (nI_nat (by decide)) (by decide) ?_
  refine bd_new hB rfl (k := 0) rfl (.inl (false, 8, fun _ => 0)) 8 (fun h hB => ?_)
  refine wp_putf (e := 9) (ci := 5) (k := 0) (nest := false) d6_9 (by decide +kernel) hB.2.2.2.2.1 (Nat.le_of_ble_eq_true rfl) rfl (Or.inr (by decide +kernel)) ?_
  refine bd_step (hB.put _) (fun h hB => ?_)
  refine wp_aload_n d6_12 rfl ?_
  refine wp_getf (e := 9) (ci := 5) (k := 0) (nest := false) d6_13 (by decide +kernel) hB.2.2.2.2.1 rfl ?_
  refine wp_bipush d6_16 (v := (-5 : Int32)) (by decide) ?_
  refine wp_invs (e := 15) (j2 := 7) (n := 2) d6_18 (by decide +kernel) (by decide +kernel) rfl rfl rfl (Nat.le_of_ble_eq_true rfl) (Nat.le_of_ble_eq_true rfl) rfl rfl (Nat.le_of_ble_eq_true rfl) (by decide +kernel) (ctor_fill hB) (fun v h1 hq => ?_)
  obtain ⟨rfl, hB⟩ := hq
  show m_wp X 6 _ _ [] _ _
  refine wp_vret d6_21 (by decide +kernel) ?_
  exact ⟨rfl, hB⟩
theorem ctor_8 {X : mX} {h0 : mH} {a n : Nat} (he : m_get h0 a = some (.inr (6, m_df 6))) (hn : h0.1.length = n) : m_wp X 8 0 (m_entry 8 [.ref a]) [] h0 (fun w h1 => w = none ∧ Bd h0 a h1 6 [.ref (n + 0), .ref (n + 1), .ref (n + 2), .ref (n + 3), .ref (n + 4), .ref (n + 5), .ref (n + 6), .ref (n + 7), .ref (n + 8), .int (nI 0)] [.inl (false, 4, (fun _ => 0)), .inl (false, 4, (fun _ => 0)), .inl (false, 4, (fun _ => 0)), .inl (false, 4, (fun _ => 0)), .inl (false, 4, (fun _ => 0)), .inl (false, 4, (fun _ => 0)), .inl (false, 4, (fun _ => 0)), .inl (false, 4, (fun _ => 0)), .inl (false, 48, (fun _ => 0))] 80) := by
  subst hn
  have hB := Bd.rf he
  refine wp_aload_n d8_0 rfl ?_
  refine wp_obj (e := 3) (j2 := 0) d8_1 (by decide +kernel) (Nat.le_of_ble_eq_true rfl) rfl (by decide +kernel) ?_
  refine wp_aload_n d8_4 rfl ?_
  refine wp_iconst d8_5 (v := nI 4) (by decide) ?_
  refine wp_newi d8_6 (nI_nn _ (by decide)) (N := 4) (nI_nat (by decide)) (by decide) ?_
  refine bd_new hB rfl (k := 0) rfl (.inl (false, 4, fun _ => 0)) 4 (fun h hB => ?_)
  refine wp_putf (e := 9) (ci := 6) (k := 0) (nest := false) d8_8 (by decide +kernel) hB.2.2.2.2.1 (Nat.le_of_ble_eq_true rfl) rfl (Or.inr (by decide +kernel)) ?_
  refine bd_step (hB.put _) (fun h hB => ?_)
  refine wp_aload_n d8_11 rfl ?_
  refine wp_iconst d8_12 (v := nI 4) (by decide) ?_
  refine wp_newi d8_13 (nI_nn _ (by decide)) (N := 4) (nI_nat (by decide)) (by decide) ?_
  refine bd_new hB rfl (k := 1) rfl (.inl (false, 4, fun _ => 0)) 4 (fun h hB => ?_)
  refine wp_putf (e := 15) (ci := 6) (k := 1) (nest := false) d8_15 (by decide +kernel) hB.2.2.2.2.1 (Nat.le_of_ble_eq_true rfl) rfl (Or.inr (by decide +kernel)) ?_
  refine bd_step (hB.put _) (fun h hB => ?_)
  refine wp_aload_n d8_18 rfl ?_
  refine wp_iconst d8_19 (v := nI 4) (by decide) ?_
  refine wp_newi d8_20 (nI_nn _ (by decide)) (N := 4) (nI_nat (by decide)) (by decide) ?_
  refine bd_new hB rfl (k := 2) rfl (.inl (false, 4, fun _ => 0)) 4 (fun h hB => ?_)
  refine wp_putf (e := 18) (ci := 6) (k := 2) (nest := false) d8_22 (by decide +kernel) hB.2.2.2.2.1 (Nat.le_of_ble_eq_true rfl) rfl (Or.inr (by decide +kernel)) ?_
  refine bd_step (hB.put _) (fun h hB => ?_)
  refine wp_aload_n d8_25 rfl ?_
  refine wp_iconst d8_26 (v := nI 4) (by decide) ?_
  refine wp_newi d8_27 (nI_nn _ (by decide)) (N := 4) (nI_nat (by decide)) (by decide) ?_
  refine bd_new hB rfl (k := 3) rfl (.inl (false, 4, fun _ => 0)) 4 (fun h hB => ?_)
  refine wp_putf (e := 21) (ci := 6) (k := 3) (nest := false) d8_29 (by decide +kernel) hB.2.2.2.2.1 (Nat.le_of_ble_eq_true rfl) rfl (Or.inr (by decide +kernel)) ?_
  refine bd_step (hB.put _) (fun h hB => ?_)
  refine wp_aload_n d8_32 rfl ?_
  refine wp_iconst d8_33 (v := nI 4) (by decide) ?_
  refine wp_newi d8_34 (nI_nn _ (by decide)) (N := 4) (nI_nat (by decide)) (by decide) ?_
  refine bd_new hB rfl (k := 4) rfl (.inl (false, 4, fun _ => 0)) 4 (fun h hB => ?_)
  refine wp_putf (e := 24) (ci := 6) (k := 4) (nest := false) d8_36 (by decide +kernel) hB.2.2.2.2.1 (Nat.le_of_ble_eq_true rfl) rfl (Or.inr (by decide +kernel)) ?_
  refine bd_step (hB.put _) (fun h hB => ?_)
  refine wp_aload_n d8_39 rfl ?_
  refine wp_iconst d8_40 (v := nI 4) (by decide) ?_
  refine wp_newi d8_41 (nI_nn _ (by decide)) (N := 4) (nI_nat (by decide)) (by decide) ?_
  refine bd_new hB rfl (k := 5) rfl (.inl (false, 4, fun _ => 0)) 4 (fun h hB => ?_)
  refine wp_putf (e := 27) (ci := 6) (k := 5) (nest := false) d8_43 (by decide +kernel) hB.2.2.2.2.1 (Nat.le_of_ble_eq_true rfl) rfl (Or.inr (by decide +kernel)) ?_
  refine bd_step (hB.put _) (fun h hB => ?_)
  refine wp_aload_n d8_46 rfl ?_
  refine wp_iconst d8_47 (v := nI 4) (by decide) ?_
  refine wp_newi d8_48 (nI_nn _ (by decide)) (N := 4) (nI_nat (by decide)) (by decide) ?_
  refine bd_new hB rfl (k := 6) rfl (.inl (false, 4, fun _ => 0)) 4 (fun h hB => ?_)
  refine wp_putf (e := 30) (ci := 6) (k := 6) (nest := false) d8_50 (by decide +kernel) hB.2.2.2.2.1 (Nat.le_of_ble_eq_true rfl) rfl (Or.inr (by decide +kernel)) ?_
  refine bd_step (hB.put _) (fun h hB => ?_)
  refine wp_aload_n d8_53 rfl ?_
  refine wp_iconst d8_54 (v := nI 4) (by decide) ?_
  refine wp_newi d8_55 (nI_nn _ (by decide)) (N := 4) (nI_nat (by decide)) (by decide) ?_
  refine bd_new hB rfl (k := 7) rfl (.inl (false, 4, fun _ => 0)) 4 (fun h hB => ?_)
  refine wp_putf (e := 33) (ci := 6) (k := 7) (nest := false) d8_57 (by decide +kernel) hB.2.2.2.2.1 (Nat.le_of_ble_eq_true rfl) rfl (Or.inr (by decide +kernel)) ?_
  refine bd_step (hB.put _) (fun h hB => ?_)
  refine wp_aload_n d8_60 rfl ?_
  refine wp_bipush d8_61 (v := nI 48) (by decide) ?_
  refine wp_newi d8_63 (nI_nn _ (by decide)) (N := 48) (nI_nat (by decide)) (by decide) ?_
  refine bd_new hB rfl (k := 8) rfl (.inl (false, 48, fun _ => 0)) 48 (fun h hB => ?_)
  refine wp_putf (e := 36) (ci := 6) (k := 8) (nest := false) d8_65 (by decide +kernel) hB.2.2.2.2.1 (Nat.le_of_ble_eq_true rfl) rfl (Or.inr (by decide +kernel)) ?_
  refine bd_step (hB.put _) (fun h hB => ?_)
  refine wp_aload_n d8_68 rfl ?_
  refine wp_iconst d8_69 (v := nI 0) (by decide) ?_
  refine wp_putf (e := 39) (ci := 6) (k := 9) (nest := false) d8_70 (by decide +kernel) hB.2.2.2.2.1 (Nat.le_of_ble_eq_true rfl) rfl (Or.inl (by decide +kernel)) ?_
  refine bd_step (hB.put _) (fun h hB => ?_)
  refine wp_vret d8_73 (by decide +kernel) ?_
  exact ⟨rfl, hB⟩
theorem ctor_9 {X : mX} {h0 : mH} {a n : Nat} (he : m_get h0 a = some (.inr (7, m_df 7))) (hn : h0.1.length = n) : m_wp X 9 0 (m_entry 9 [.ref a]) [] h0 (fun w h1 => w = none ∧ Bd h0 a h1 7 [.ref (n + 0), .ref (n + 1), .ref (n + 2), .ref (n + 3), .ref (n + 4), .int (nI 0)] [.inl (false, 10, (fun _ => 0)), .inl (false, 10, (fun _ => 0)), .inl (false, 10, (fun _ => 0)), .inl (false, 10, (fun _ => 0)), .inl (false, 10, (fun _ => 0))] 50) := by
  subst hn
  have hB := Bd.rf he
  refine wp_aload_n d9_0 rfl ?_
  refine wp_obj (e := 3) (j2 := 0) d9_1 (by decide +kernel) (Nat.le_of_ble_eq_true rfl) rfl (by decide +kernel) ?_
  refine wp_aload_n d9_4 rfl ?_
  refine wp_bipush d9_5 (v := nI 10) (by decide) ?_
  refine wp_newi d9_7 (nI_nn _ (by decide)) (N := 10) (nI_nat (by decide)) (by decide) ?_
  refine bd_new hB rfl (k := 0) rfl (.inl (false, 10, fun _ => 0)) 10 (fun h hB => ?_)
  refine wp_putf (e := 9) (ci := 7) (k := 0) (nest := false) d9_9 (by decide +kernel) hB.2.2.2.2.1 (Nat.le_of_ble_eq_true rfl) rfl (Or.inr (by decide +kernel)) ?_
  refine bd_step (hB.put _) (fun h hB => ?_)
  refine wp_aload_n d9_12 rfl ?_
  refine wp_bipush d9_13 (v := nI 10) (by decide) ?_
  refine wp_newi d9_15 (nI_nn _ (by decide)) (N := 10) (nI_nat (by decide)) (by decide) ?_
  refine bd_new hB rfl (k := 1) rfl (.inl (false, 10, fun _ => 0)) 10 (fun h hB => ?_)
  refine wp_putf (e := 15) (ci := 7) (k := 1) (nest := false) d9_17 (by decide +kernel) hB.2.2.2.2.1 (Nat.le_of_ble_eq_true rfl) rfl (Or.inr (by decide +kernel)) ?_
  refine bd_step (hB.put _) (fun h hB => ?_)
  refine wp_aload_n d9_20 rfl ?_
  refine wp_bipush d9_21 (v := nI 10) (by decide) ?_
  refine wp_newi d9_23 (nI_nn _ (by decide)) (N := 10) (nI_nat (by decide)) (by decide) ?_
  refine bd_new hB rfl (k := 2) rfl (.inl (false, 10, fun _ => 0)) 10 (fun h hB => ?_)
  refine wp_putf (e := 18) (ci := 7) (k := 2) (nest := false) d9_25 (by decide +kernel) hB.2.2.2.2.1 (Nat.le_of_ble_eq_true rfl) rfl (Or.inr (by decide +kernel)) ?_
  refine bd_step (hB.put _) (fun h hB => ?_)
  refine wp_aload_n d9_28 rfl ?_
  refine wp_bipush d9_29 (v := nI 10) (by decide) ?_
  refine wp_newi d9_31 (nI_nn _ (by decide)) (N := 10) (nI_nat (by decide)) (by decide) ?_
  refine bd_new hB rfl (k := 3) rfl (.inl (false, 10, fun _ => 0)) 10 (fun h hB => ?_)
  refine wp_putf (e := 21) (ci := 7) (k := 3) (nest := false) d9_33 (by decide +kernel) hB.2.2.2.2.1 (Nat.le_of_ble_eq_true rfl) rfl (Or.inr (by decide +kernel)) ?_
  refine bd_step (hB.put _) (fun h hB => ?_)
  refine wp_aload_n d9_36 rfl ?_
  refine wp_bipush d9_37 (v := nI 10) (by decide) ?_
  refine wp_newi d9_39 (nI_nn _ (by decide)) (N := 10) (nI_nat (by decide)) (by decide) ?_
  refine bd_new hB rfl (k := 4) rfl (.inl (false, 10, fun _ => 0)) 10 (fun h hB => ?_)
  refine wp_putf (e := 24) (ci := 7) (k := 4) (nest := false) d9_41 (by decide +kernel) hB.2.2.2.2.1 (Nat.le_of_ble_eq_true rfl) rfl (Or.inr (by decide +kernel)) ?_
  refine bd_step (hB.put _) (fun h hB => ?_)
  refine wp_aload_n d9_44 rfl ?_
  refine wp_iconst d9_45 (v := nI 0) (by decide) ?_
  refine wp_putf (e := 27) (ci := 7) (k := 5) (nest := false) d9_46 (by decide +kernel) hB.2.2.2.2.1 (Nat.le_of_ble_eq_true rfl) rfl (Or.inl (by decide +kernel)) ?_
  refine bd_step (hB.put _) (fun h hB => ?_)
  refine wp_vret d9_49 (by decide +kernel) ?_
  exact ⟨rfl, hB⟩
theorem ctor_10 {X : mX} {h0 : mH} {a n : Nat} (he : m_get h0 a = some (.inr (8, m_df 8))) (hn : h0.1.length = n) : m_wp X 10 0 (m_entry 10 [.ref a]) [] h0 (fun w h1 => w = none ∧ Bd h0 a h1 8 [.ref (n + 0), .ref (n + 1), .ref (n + 2), .ref (n + 3), .ref (n + 4), .int (nI 0), .int (nI 0)] [.inl (false, 40, (fun _ => 0)), .inl (false, 40, (fun _ => 0)), .inl (false, 40, (fun _ => 0)), .inl (false, 40, (fun _ => 0)), .inl (false, 40, (fun _ => 0))] 200) := by
  subst hn
  have hB := Bd.rf he
  refine wp_aload_n d10_0 rfl ?_
  refine wp_obj (e := 3) (j2 := 0) d10_1 (by decide +kernel) (Nat.le_of_ble_eq_true rfl) rfl (by decide +kernel) ?_
  refine wp_aload_n d10_4 rfl ?_
  refine wp_bipush d10_5 (v := nI 40) (by decide) ?_
  refine wp_newi d10_7 (nI_nn _ (by decide)) (N := 40) (nI_nat (by decide)) (by decide) ?_
  refine bd_new hB rfl (k := 0) rfl (.inl (false, 40, fun _ => 0)) 40 (fun h hB => ?_)
  refine wp_putf (e := 9) (ci := 8) (k := 0) (nest := false) d10_9 (by decide +kernel) hB.2.2.2.2.1 (Nat.le_of_ble_eq_true rfl) rfl (Or.inr (by decide +kernel)) ?_
  refine bd_step (hB.put _) (fun h hB => ?_)
  refine wp_aload_n d10_12 rfl ?_
  refine wp_bipush d10_13 (v := nI 40) (by decide) ?_
  refine wp_newi d10_15 (nI_nn _ (by decide)) (N := 40) (nI_nat (by decide)) (by decide) ?_
  refine bd_new hB rfl (k := 1) rfl (.inl (false, 40, fun _ => 0)) 40 (fun h hB => ?_)
  refine wp_putf (e := 15) (ci := 8) (k := 1) (nest := false) d10_17 (by decide +kernel) hB.2.2.2.2.1 (Nat.le_of_ble_eq_true rfl) rfl (Or.inr (by decide +kernel)) ?_
  refine bd_step (hB.put _) (fun h hB => ?_)
  refine wp_aload_n d10_20 rfl ?_
  refine wp_bipush d10_21 (v := nI 40) (by decide) ?_
  refine wp_newi d10_23 (nI_nn _ (by decide)) (N := 40) (nI_nat (by decide)) (by decide) ?_
  refine bd_new hB rfl (k := 2) rfl (.inl (false, 40, fun _ => 0)) 40 (fun h hB => ?_)
  refine wp_putf (e := 18) (ci := 8) (k := 2) (nest := false) d10_25 (by decide +kernel) hB.2.2.2.2.1 (Nat.le_of_ble_eq_true rfl) rfl (Or.inr (by decide +kernel)) ?_
  refine bd_step (hB.put _) (fun h hB => ?_)
  refine wp_aload_n d10_28 rfl ?_
  refine wp_bipush d10_29 (v := nI 40) (by decide) ?_
  refine wp_newi d10_31 (nI_nn _ (by decide)) (N := 40) (nI_nat (by decide)) (by decide) ?_
  refine bd_new hB rfl (k := 3) rfl (.inl (false, 40, fun _ => 0)) 40 (fun h hB => ?_)
  refine wp_putf (e := 21) (ci := 8) (k := 3) (nest := false) d10_33 (by decide +kernel) hB.2.2.2.2.1 (Nat.le_of_ble_eq_true rfl) rfl (Or.inr (by decide +kernel)) ?_
  refine bd_step (hB.put _) (fun h hB => ?_)
  refine wp_aload_n d10_36 rfl ?_
  refine wp_bipush d10_37 (v := nI 40) (by decide) ?_
  refine wp_newi d10_39 (nI_nn _ (by decide)) (N := 40) (nI_nat (by decide)) (by decide) ?_
  refine bd_new hB rfl (k := 4) rfl (.inl (false, 40, fun _ => 0)) 40 (fun h hB => ?_)
  refine wp_putf (e := 24) (ci := 8) (k := 4) (nest := false) d10_41 (by decide +kernel) hB.2.2.2.2.1 (Nat.le_of_ble_eq_true rfl) rfl (Or.inr (by decide +kernel)) ?_
  refine bd_step (hB.put _) (fun h hB => ?_)
  refine wp_aload_n d10_44 rfl ?_
  refine wp_iconst d10_45 (v := nI 0) (by decide) ?_
  refine wp_putf (e := 27) (ci := 8) (k := 5) (nest := false) d10_46 (by decide +kernel) hB.2.2.2.2.1 (Nat.le_of_ble_eq_true rfl) rfl (Or.inl (by decide +kernel)) ?_
  refine bd_step (hB.put _) (fun h hB => ?_)
  refine wp_aload_n d10_49 rfl ?_
  refine wp_iconst d10_50 (v := nI 0) (by decide) ?_
  refine wp_putf (e := 31) (ci := 8) (k := 6) (nest := false) d10_51 (by decide +kernel) hB.2.2.2.2.1 (Nat.le_of_ble_eq_true rfl) rfl (Or.inl (by decide +kernel)) ?_
  refine bd_step (hB.put _) (fun h hB => ?_)
  refine wp_vret d10_54 (by decide +kernel) ?_
  exact ⟨rfl, hB⟩
theorem ctor_11 {X : mX} {h0 : mH} {a n : Nat} (he : m_get h0 a = some (.inr (9, m_df 9))) (hn : h0.1.length = n) : m_wp X 11 0 (m_entry 11 [.ref a]) [] h0 (fun w h1 => w = none ∧ Bd h0 a h1 9 [.ref (n + 0), .ref (n + 1), .int (nI 0)] [.inl (false, 720, (fun _ => 0)), .inl (false, 64, (fun _ => 0))] 784) := by
  subst hn
  have hB := Bd.rf he
  refine wp_aload_n d11_0 rfl ?_
  refine wp_obj (e := 5) (j2 := 0) d11_1 (by decide +kernel) (Nat.le_of_ble_eq_true rfl) rfl (by decide +kernel) ?_
  refine wp_aload_n d11_4 rfl ?_
  refine wp_sipush d11_5 (v := nI 720) (by decide) ?_
  refine wp_newi d11_8 (nI_nn _ (by decide)) (N := 720) (nI_nat (by decide)) (by decide) ?_
  refine bd_new hB rfl (k := 0) rfl (.inl (false, 720, fun _ => 0)) 720 (fun h hB => ?_)
  refine wp_putf (e := 11) (ci := 9) (k := 0) (nest := false) d11_10 (by decide +kernel) hB.2.2.2.2.1 (Nat.le_of_ble_eq_true rfl) rfl (Or.inr (by decide +kernel)) ?_
  refine bd_step (hB.put _) (fun h hB => ?_)
  refine wp_aload_n d11_13 rfl ?_
  refine wp_bipush d11_14 (v := nI 64) (by decide) ?_
  refine wp_newi d11_16 (nI_nn _ (by decide)) (N := 64) (nI_nat (by decide)) (by decide) ?_
  refine bd_new hB rfl (k := 1) rfl (.inl (false, 64, fun _ => 0)) 64 (fun h hB => ?_)
  refine wp_putf (e := 15) (ci := 9) (k := 1) (nest := false) d11_18 (by decide +kernel) hB.2.2.2.2.1 (Nat.le_of_ble_eq_true rfl) rfl (Or.inl (by decide +kernel)) ?_
  refine bd_step (hB.put _) (fun h hB => ?_)
  refine wp_aload_n d11_21 rfl ?_
  refine wp_iconst d11_22 (v := nI 0) (by decide) ?_
  refine wp_putf (e := 18) (ci := 9) (k := 2) (nest := false) d11_23 (by decide +kernel) hB.2.2.2.2.1 (Nat.le_of_ble_eq_true rfl) rfl (Or.inl (by decide +kernel)) ?_
  refine bd_step (hB.put _) (fun h hB => ?_)
  refine wp_vret d11_26 (by decide +kernel) ?_
  exact ⟨rfl, hB⟩
theorem ctor_13 {X : mX} {h0 : mH} {a n : Nat} (he : m_get h0 a = some (.inr (11, m_df 11))) (hn : h0.1.length = n) : m_wp X 13 0 (m_entry 13 [.ref a]) [] h0 (fun w h1 => w = none ∧ Bd h0 a h1 11 [.ref (n + 0), .int (nI 0), .ref (n + 1), .int (nI 0), .int (nI 0)] [.inl (true, 60, (fun _ => 0)), .inl (false, 31, (fun _ => 0))] 91) := by
  subst hn
  have hB := Bd.rf he
  refine wp_aload_n d13_0 rfl ?_
  refine wp_obj (e := 3) (j2 := 0) d13_1 (by decide +kernel) (Nat.le_of_ble_eq_true rfl) rfl (by decide +kernel) ?_
  refine wp_aload_n d13_4 rfl ?_
  refine wp_bipush d13_5 (v := nI 60) (by decide) ?_
  refine wp_newc d13_7 (nI_nn _ (by decide)) (N := 60) (nI_nat (by decide)) (by decide) ?_
  refine bd_new hB rfl (k := 0) rfl (.inl (true, 60, fun _ => 0)) 60 (fun h hB => ?_)
  refine wp_putf (e := 9) (ci := 11) (k := 0) (nest := false) d13_9 (by decide +kernel) hB.2.2.2.2.1 (Nat.le_of_ble_eq_true rfl) rfl (Or.inr (by decide +kernel)) ?_
  refine bd_step (hB.put _) (fun h hB => ?_)
  refine wp_aload_n d13_12 rfl ?_
  refine wp_iconst d13_13 (v := nI 0) (by decide) ?_
  refine wp_putf (e := 15) (ci := 11) (k := 1) (nest := false) d13_14 (by decide +kernel) hB.2.2.2.2.1 (Nat.le_of_ble_eq_true rfl) rfl (Or.inl (by decide +kernel)) ?_
  refine bd_step (hB.put _) (fun h hB => ?_)
  refine wp_aload_n d13_17 rfl ?_
  refine wp_bipush d13_18 (v := nI 31) (by decide) ?_
  refine wp_newi d13_20 (nI_nn _ (by decide)) (N := 31) (nI_nat (by decide)) (by decide) ?_
  refine bd_new hB rfl (k := 1) rfl (.inl (false, 31, fun _ => 0)) 31 (fun h hB => ?_)
  refine wp_putf (e := 19) (ci := 11) (k := 2) (nest := false) d13_22 (by decide +kernel) hB.2.2.2.2.1 (Nat.le_of_ble_eq_true rfl) rfl (Or.inr (by decide +kernel)) ?_
  refine bd_step (hB.put _) (fun h hB => ?_)
  refine wp_aload_n d13_25 rfl ?_
  refine wp_iconst d13_26 (v := nI 0) (by decide) ?_
  refine wp_putf (e := 23) (ci := 11) (k := 3) (nest := false) d13_27 (by decide +kernel) hB.2.2.2.2.1 (Nat.le_of_ble_eq_true rfl) rfl (Or.inl (by decide +kernel)) ?_
  refine bd_step (hB.put _) (fun h hB => ?_)
  refine wp_aload_n d13_30 rfl ?_
  refine wp_iconst d13_31 (v := nI 0) (by decide) ?_
  refine wp_putf (e := 26) (ci := 11) (k := 4) (nest := false) d13_32 (by decide +kernel) hB.2.2.2.2.1 (Nat.le_of_ble_eq_true rfl) rfl (Or.inl (by decide +kernel)) ?_
  refine bd_step (hB.put _) (fun h hB => ?_)
  refine wp_vret d13_35 (by decide +kernel) ?_
  exact ⟨rfl, hB⟩
