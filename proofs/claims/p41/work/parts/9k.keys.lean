/-! The law's turns: keys. -/
theorem d0_933 : decode (m_code 0) 933 = .ok (.iload 13, 2) := by decide +kernel
theorem d0_935 : decode (m_code 0) 935 = .ok (.iconst 1, 1) := by decide +kernel
theorem d0_936 : decode (m_code 0) 936 = .ok (.ishr, 1) := by decide +kernel
theorem d0_937 : decode (m_code 0) 937 = .ok (.iconst 2, 1) := by decide +kernel
theorem d0_938 : decode (m_code 0) 938 = .ok (.invokestatic 61, 3) := by decide +kernel
theorem d0_941 : decode (m_code 0) 941 = .ok (.istore 16, 2) := by decide +kernel
theorem d0_943 : decode (m_code 0) 943 = .ok (.aload 5, 2) := by decide +kernel
theorem d0_945 : decode (m_code 0) 945 = .ok (.iload 15, 2) := by decide +kernel
theorem d0_947 : decode (m_code 0) 947 = .ok (.bipush 6, 2) := by decide +kernel
theorem d0_949 : decode (m_code 0) 949 = .ok (.iadd, 1) := by decide +kernel
theorem d0_950 : decode (m_code 0) 950 = .ok (.iaload, 1) := by decide +kernel
theorem d0_951 : decode (m_code 0) 951 = .ok (.iload 16, 2) := by decide +kernel
theorem d0_953 : decode (m_code 0) 953 = .ok (.ishr, 1) := by decide +kernel
theorem d0_954 : decode (m_code 0) 954 = .ok (.iconst 1, 1) := by decide +kernel
theorem d0_955 : decode (m_code 0) 955 = .ok (.iand, 1) := by decide +kernel
theorem d0_956 : decode (m_code 0) 956 = .ok (.iconst 1, 1) := by decide +kernel
theorem d0_957 : decode (m_code 0) 957 = .ok (.if_icmp .ne 7, 3) := by decide +kernel
theorem d0_960 : decode (m_code 0) 960 = .ok (.iconst 1, 1) := by decide +kernel
theorem d0_961 : decode (m_code 0) 961 = .ok (.goto 4, 3) := by decide +kernel
theorem d0_964 : decode (m_code 0) 964 = .ok (.iconst 0, 1) := by decide +kernel
theorem d0_965 : decode (m_code 0) 965 = .ok (.istore 17, 2) := by decide +kernel
theorem d0_967 : decode (m_code 0) 967 = .ok (.aload 5, 2) := by decide +kernel
theorem d0_969 : decode (m_code 0) 969 = .ok (.bipush 6, 2) := by decide +kernel
theorem d0_971 : decode (m_code 0) 971 = .ok (.iaload, 1) := by decide +kernel
theorem d0_972 : decode (m_code 0) 972 = .ok (.iload 16, 2) := by decide +kernel
theorem d0_974 : decode (m_code 0) 974 = .ok (.ishr, 1) := by decide +kernel
theorem d0_975 : decode (m_code 0) 975 = .ok (.iconst 1, 1) := by decide +kernel
theorem d0_976 : decode (m_code 0) 976 = .ok (.iand, 1) := by decide +kernel
theorem d0_977 : decode (m_code 0) 977 = .ok (.iconst 1, 1) := by decide +kernel
theorem d0_978 : decode (m_code 0) 978 = .ok (.if_icmp .eq 17, 3) := by decide +kernel
theorem d0_981 : decode (m_code 0) 981 = .ok (.aload 5, 2) := by decide +kernel
theorem d0_983 : decode (m_code 0) 983 = .ok (.bipush 16, 2) := by decide +kernel
theorem d0_985 : decode (m_code 0) 985 = .ok (.iaload, 1) := by decide +kernel
theorem d0_986 : decode (m_code 0) 986 = .ok (.iload 16, 2) := by decide +kernel
theorem d0_988 : decode (m_code 0) 988 = .ok (.ishr, 1) := by decide +kernel
theorem d0_989 : decode (m_code 0) 989 = .ok (.iconst 1, 1) := by decide +kernel
theorem d0_990 : decode (m_code 0) 990 = .ok (.iand, 1) := by decide +kernel
theorem d0_991 : decode (m_code 0) 991 = .ok (.iconst 1, 1) := by decide +kernel
theorem d0_992 : decode (m_code 0) 992 = .ok (.if_icmp .ne 7, 3) := by decide +kernel
theorem d0_995 : decode (m_code 0) 995 = .ok (.iconst 1, 1) := by decide +kernel
theorem d0_996 : decode (m_code 0) 996 = .ok (.goto 4, 3) := by decide +kernel
theorem d0_999 : decode (m_code 0) 999 = .ok (.iconst 0, 1) := by decide +kernel
theorem d0_1000 : decode (m_code 0) 1000 = .ok (.istore 18, 2) := by decide +kernel
theorem d0_1002 : decode (m_code 0) 1002 = .ok (.aload 5, 2) := by decide +kernel
theorem d0_1004 : decode (m_code 0) 1004 = .ok (.iload 15, 2) := by decide +kernel
theorem d0_1006 : decode (m_code 0) 1006 = .ok (.iaload, 1) := by decide +kernel
theorem d0_1007 : decode (m_code 0) 1007 = .ok (.ifCond .ne 7, 3) := by decide +kernel
theorem d0_1010 : decode (m_code 0) 1010 = .ok (.iconst 1, 1) := by decide +kernel
theorem d0_1011 : decode (m_code 0) 1011 = .ok (.goto 4, 3) := by decide +kernel
theorem d0_1014 : decode (m_code 0) 1014 = .ok (.iconst 0, 1) := by decide +kernel
theorem d0_1015 : decode (m_code 0) 1015 = .ok (.istore 19, 2) := by decide +kernel
theorem d0_1017 : decode (m_code 0) 1017 = .ok (.iload 13, 2) := by decide +kernel
theorem d0_1019 : decode (m_code 0) 1019 = .ok (.iconst 2, 1) := by decide +kernel
theorem d0_1020 : decode (m_code 0) 1020 = .ok (.ishr, 1) := by decide +kernel
theorem d0_1021 : decode (m_code 0) 1021 = .ok (.iconst 2, 1) := by decide +kernel
theorem d0_1022 : decode (m_code 0) 1022 = .ok (.invokestatic 61, 3) := by decide +kernel
theorem d0_1025 : decode (m_code 0) 1025 = .ok (.ifCond .ne 81, 3) := by decide +kernel
theorem d0_1028 : decode (m_code 0) 1028 = .ok (.iload 19, 2) := by decide +kernel
theorem d0_1030 : decode (m_code 0) 1030 = .ok (.ifCond .eq 12, 3) := by decide +kernel
theorem d0_1033 : decode (m_code 0) 1033 = .ok (.iload 18, 2) := by decide +kernel
theorem d0_1035 : decode (m_code 0) 1035 = .ok (.ifCond .ne 7, 3) := by decide +kernel
theorem d0_1038 : decode (m_code 0) 1038 = .ok (.iconst 1, 1) := by decide +kernel
theorem d0_1039 : decode (m_code 0) 1039 = .ok (.goto 4, 3) := by decide +kernel
theorem d0_1042 : decode (m_code 0) 1042 = .ok (.iconst 0, 1) := by decide +kernel
theorem d0_1043 : decode (m_code 0) 1043 = .ok (.istore 20, 2) := by decide +kernel
theorem d0_1045 : decode (m_code 0) 1045 = .ok (.aload 5, 2) := by decide +kernel
theorem d0_1047 : decode (m_code 0) 1047 = .ok (.iload 15, 2) := by decide +kernel
theorem d0_1049 : decode (m_code 0) 1049 = .ok (.bipush 6, 2) := by decide +kernel
theorem d0_1051 : decode (m_code 0) 1051 = .ok (.iadd, 1) := by decide +kernel
theorem d0_1052 : decode (m_code 0) 1052 = .ok (.dup2, 1) := by decide +kernel
theorem d0_1053 : decode (m_code 0) 1053 = .ok (.iaload, 1) := by decide +kernel
theorem d0_1054 : decode (m_code 0) 1054 = .ok (.iload 20, 2) := by decide +kernel
theorem d0_1056 : decode (m_code 0) 1056 = .ok (.ifCond .eq 10, 3) := by decide +kernel
theorem d0_1059 : decode (m_code 0) 1059 = .ok (.iconst 1, 1) := by decide +kernel
theorem d0_1060 : decode (m_code 0) 1060 = .ok (.iload 16, 2) := by decide +kernel
theorem d0_1062 : decode (m_code 0) 1062 = .ok (.ishl, 1) := by decide +kernel
theorem d0_1063 : decode (m_code 0) 1063 = .ok (.goto 4, 3) := by decide +kernel
theorem d0_1066 : decode (m_code 0) 1066 = .ok (.iconst 0, 1) := by decide +kernel
theorem d0_1067 : decode (m_code 0) 1067 = .ok (.ior, 1) := by decide +kernel
theorem d0_1068 : decode (m_code 0) 1068 = .ok (.iastore, 1) := by decide +kernel
theorem d0_1069 : decode (m_code 0) 1069 = .ok (.aload_n 1, 1) := by decide +kernel
theorem d0_1070 : decode (m_code 0) 1070 = .ok (.iload 14, 2) := by decide +kernel
theorem d0_1072 : decode (m_code 0) 1072 = .ok (.iload 16, 2) := by decide +kernel
theorem d0_1074 : decode (m_code 0) 1074 = .ok (.invokevirtual 100, 3) := by decide +kernel
theorem d0_1077 : decode (m_code 0) 1077 = .ok (.iload 20, 2) := by decide +kernel
theorem d0_1079 : decode (m_code 0) 1079 = .ok (.ifCond .eq 17, 3) := by decide +kernel
theorem d0_1082 : decode (m_code 0) 1082 = .ok (.aload 5, 2) := by decide +kernel
theorem d0_1084 : decode (m_code 0) 1084 = .ok (.iload 15, 2) := by decide +kernel
theorem d0_1086 : decode (m_code 0) 1086 = .ok (.bipush 6, 2) := by decide +kernel
theorem d0_1088 : decode (m_code 0) 1088 = .ok (.iadd, 1) := by decide +kernel
theorem d0_1089 : decode (m_code 0) 1089 = .ok (.iaload, 1) := by decide +kernel
theorem d0_1090 : decode (m_code 0) 1090 = .ok (.invokestatic 97, 3) := by decide +kernel
theorem d0_1093 : decode (m_code 0) 1093 = .ok (.goto 5, 3) := by decide +kernel
theorem d0_1096 : decode (m_code 0) 1096 = .ok (.bipush (-4), 2) := by decide +kernel
theorem d0_1098 : decode (m_code 0) 1098 = .ok (.if_icmp .eq 5, 3) := by decide +kernel
theorem d0_1103 : decode (m_code 0) 1103 = .ok (.goto 137, 3) := by decide +kernel
theorem d0_1106 : decode (m_code 0) 1106 = .ok (.aload 5, 2) := by decide +kernel
theorem d0_1108 : decode (m_code 0) 1108 = .ok (.iload 15, 2) := by decide +kernel
theorem d0_1110 : decode (m_code 0) 1110 = .ok (.iaload, 1) := by decide +kernel
theorem d0_1111 : decode (m_code 0) 1111 = .ok (.ifCond .lt 30, 3) := by decide +kernel
theorem d0_1114 : decode (m_code 0) 1114 = .ok (.aload 5, 2) := by decide +kernel
theorem d0_1116 : decode (m_code 0) 1116 = .ok (.iload 15, 2) := by decide +kernel
theorem d0_1118 : decode (m_code 0) 1118 = .ok (.iaload, 1) := by decide +kernel
theorem d0_1119 : decode (m_code 0) 1119 = .ok (.aload 5, 2) := by decide +kernel
theorem d0_1121 : decode (m_code 0) 1121 = .ok (.bipush 10, 2) := by decide +kernel
theorem d0_1123 : decode (m_code 0) 1123 = .ok (.iconst 1, 1) := by decide +kernel
theorem d0_1124 : decode (m_code 0) 1124 = .ok (.iload 14, 2) := by decide +kernel
theorem d0_1126 : decode (m_code 0) 1126 = .ok (.isub, 1) := by decide +kernel
theorem d0_1127 : decode (m_code 0) 1127 = .ok (.imul, 1) := by decide +kernel
theorem d0_1128 : decode (m_code 0) 1128 = .ok (.iaload, 1) := by decide +kernel
theorem d0_1129 : decode (m_code 0) 1129 = .ok (.if_icmp .ne 12, 3) := by decide +kernel
theorem d0_1132 : decode (m_code 0) 1132 = .ok (.iload 17, 2) := by decide +kernel
theorem d0_1134 : decode (m_code 0) 1134 = .ok (.ifCond .eq 7, 3) := by decide +kernel
theorem d0_1137 : decode (m_code 0) 1137 = .ok (.iconst 1, 1) := by decide +kernel
theorem d0_1138 : decode (m_code 0) 1138 = .ok (.goto 4, 3) := by decide +kernel
theorem d0_1141 : decode (m_code 0) 1141 = .ok (.iconst 0, 1) := by decide +kernel
theorem d0_1142 : decode (m_code 0) 1142 = .ok (.istore 20, 2) := by decide +kernel
theorem d0_1144 : decode (m_code 0) 1144 = .ok (.aload 5, 2) := by decide +kernel
theorem d0_1146 : decode (m_code 0) 1146 = .ok (.iload 15, 2) := by decide +kernel
theorem d0_1148 : decode (m_code 0) 1148 = .ok (.bipush 6, 2) := by decide +kernel
theorem d0_1150 : decode (m_code 0) 1150 = .ok (.iadd, 1) := by decide +kernel
theorem d0_1151 : decode (m_code 0) 1151 = .ok (.dup2, 1) := by decide +kernel
theorem d0_1152 : decode (m_code 0) 1152 = .ok (.iaload, 1) := by decide +kernel
theorem d0_1153 : decode (m_code 0) 1153 = .ok (.iload 20, 2) := by decide +kernel
theorem d0_1155 : decode (m_code 0) 1155 = .ok (.ifCond .eq 10, 3) := by decide +kernel
theorem d0_1158 : decode (m_code 0) 1158 = .ok (.iconst 1, 1) := by decide +kernel
theorem d0_1159 : decode (m_code 0) 1159 = .ok (.iload 16, 2) := by decide +kernel
theorem d0_1161 : decode (m_code 0) 1161 = .ok (.ishl, 1) := by decide +kernel
theorem d0_1162 : decode (m_code 0) 1162 = .ok (.goto 4, 3) := by decide +kernel
theorem d0_1165 : decode (m_code 0) 1165 = .ok (.iconst 0, 1) := by decide +kernel
theorem d0_1166 : decode (m_code 0) 1166 = .ok (.ixor, 1) := by decide +kernel
theorem d0_1167 : decode (m_code 0) 1167 = .ok (.iastore, 1) := by decide +kernel
theorem d0_1168 : decode (m_code 0) 1168 = .ok (.aload 5, 2) := by decide +kernel
theorem d0_1170 : decode (m_code 0) 1170 = .ok (.bipush 10, 2) := by decide +kernel
theorem d0_1172 : decode (m_code 0) 1172 = .ok (.iconst 1, 1) := by decide +kernel
theorem d0_1173 : decode (m_code 0) 1173 = .ok (.iload 14, 2) := by decide +kernel
theorem d0_1175 : decode (m_code 0) 1175 = .ok (.isub, 1) := by decide +kernel
theorem d0_1176 : decode (m_code 0) 1176 = .ok (.imul, 1) := by decide +kernel
theorem d0_1177 : decode (m_code 0) 1177 = .ok (.bipush 6, 2) := by decide +kernel
theorem d0_1179 : decode (m_code 0) 1179 = .ok (.iadd, 1) := by decide +kernel
theorem d0_1180 : decode (m_code 0) 1180 = .ok (.dup2, 1) := by decide +kernel
theorem d0_1181 : decode (m_code 0) 1181 = .ok (.iaload, 1) := by decide +kernel
theorem d0_1182 : decode (m_code 0) 1182 = .ok (.iload 20, 2) := by decide +kernel
theorem d0_1184 : decode (m_code 0) 1184 = .ok (.ifCond .eq 10, 3) := by decide +kernel
theorem d0_1187 : decode (m_code 0) 1187 = .ok (.iconst 1, 1) := by decide +kernel
theorem d0_1188 : decode (m_code 0) 1188 = .ok (.iload 16, 2) := by decide +kernel
theorem d0_1190 : decode (m_code 0) 1190 = .ok (.ishl, 1) := by decide +kernel
theorem d0_1191 : decode (m_code 0) 1191 = .ok (.goto 4, 3) := by decide +kernel
theorem d0_1194 : decode (m_code 0) 1194 = .ok (.iconst 0, 1) := by decide +kernel
theorem d0_1195 : decode (m_code 0) 1195 = .ok (.ior, 1) := by decide +kernel
theorem d0_1196 : decode (m_code 0) 1196 = .ok (.iastore, 1) := by decide +kernel
theorem d0_1197 : decode (m_code 0) 1197 = .ok (.aload_n 1, 1) := by decide +kernel
theorem d0_1198 : decode (m_code 0) 1198 = .ok (.iload 14, 2) := by decide +kernel
theorem d0_1200 : decode (m_code 0) 1200 = .ok (.iconst 1, 1) := by decide +kernel
theorem d0_1201 : decode (m_code 0) 1201 = .ok (.iload 14, 2) := by decide +kernel
theorem d0_1203 : decode (m_code 0) 1203 = .ok (.isub, 1) := by decide +kernel
theorem d0_1204 : decode (m_code 0) 1204 = .ok (.iload 16, 2) := by decide +kernel
theorem d0_1206 : decode (m_code 0) 1206 = .ok (.invokevirtual 103, 3) := by decide +kernel
theorem d0_1209 : decode (m_code 0) 1209 = .ok (.iload 20, 2) := by decide +kernel
theorem d0_1211 : decode (m_code 0) 1211 = .ok (.ifCond .eq 22, 3) := by decide +kernel
theorem d0_1214 : decode (m_code 0) 1214 = .ok (.aload 5, 2) := by decide +kernel
theorem d0_1216 : decode (m_code 0) 1216 = .ok (.bipush 10, 2) := by decide +kernel
theorem d0_1218 : decode (m_code 0) 1218 = .ok (.iconst 1, 1) := by decide +kernel
theorem d0_1219 : decode (m_code 0) 1219 = .ok (.iload 14, 2) := by decide +kernel
theorem d0_1221 : decode (m_code 0) 1221 = .ok (.isub, 1) := by decide +kernel
theorem d0_1222 : decode (m_code 0) 1222 = .ok (.imul, 1) := by decide +kernel
theorem d0_1223 : decode (m_code 0) 1223 = .ok (.bipush 6, 2) := by decide +kernel
theorem d0_1225 : decode (m_code 0) 1225 = .ok (.iadd, 1) := by decide +kernel
theorem d0_1226 : decode (m_code 0) 1226 = .ok (.iaload, 1) := by decide +kernel
theorem d0_1227 : decode (m_code 0) 1227 = .ok (.invokestatic 97, 3) := by decide +kernel
theorem d0_1230 : decode (m_code 0) 1230 = .ok (.goto 5, 3) := by decide +kernel
theorem d0_1233 : decode (m_code 0) 1233 = .ok (.bipush (-4), 2) := by decide +kernel
theorem d0_1235 : decode (m_code 0) 1235 = .ok (.if_icmp .eq 5, 3) := by decide +kernel
theorem d0_1240 : decode (m_code 0) 1240 = .ok (.goto 269, 3) := by decide +kernel
theorem or_n0 {x : Int32} : x ||| nI 0 = x := Int32.or_zero
theorem xor_n0 {x : Int32} : x ^^^ nI 0 = x := Int32.xor_zero
section KY2
variable {S : Nat → Nat → Int32} {σ : Nat → Int32} {mi na ub ns wm g : Nat}
theorem Qs.at0 (h : Qs S σ mi na ub ns wm) (hg : g < 2) : S 3 (10 * g) = 0 ↔ σ (192 + 10 * g + 0) = nI 0 := by
  rcases (h.2.2.2.2.2.2.1 g hg).2 with ⟨a, b, -⟩ | ⟨r, a, b, d⟩
  · rw [a, b]
    decide
  · rw [b, d]
    exact Iff.rfl
theorem Qs.neg (h : Qs S σ mi na ub ns wm) (hg : g < 2) : S 3 (10 * g) < 0 ↔ σ (192 + 10 * g + 0) < 0 := by
  rcases (h.2.2.2.2.2.2.1 g hg).2 with ⟨a, b, -⟩ | ⟨r, a, b, d⟩
  · rw [a, b]
    decide
  · rw [b, d]
theorem Qs.eqr {o : Nat} (h : Qs S σ mi na ub ns wm) (hg : g < 2) (ho : o < 2) : S 3 (10 * g) = S 3 (10 * o) ↔ σ (192 + 10 * o + 0) = σ (192 + 10 * g + 0) := by
  have n1 : ∀ r, r < 4 → ¬ (-1 : Int32) = nI r := fun r hr y => absurd (nI_pos' (n := r) (by omega)) (by rw [← y]; decide)
  rcases (h.2.2.2.2.2.2.1 g hg).2 with ⟨a, b, -⟩ | ⟨r, a, b, d⟩ <;> rcases (h.2.2.2.2.2.2.1 o ho).2 with ⟨a2, b2, -⟩ | ⟨r2, a2, b2, d2⟩
  · rw [a, b, a2, b2]
    exact ⟨fun _ => rfl, fun _ => rfl⟩
  · rw [a, b, b2, d2]
    exact ⟨fun y => absurd y (n1 r2 a2), fun y => absurd y (nI_ne5 (by omega))⟩
  · rw [b, d, a2, b2]
    exact ⟨fun y => absurd y.symm (n1 r a), fun y => absurd y.symm (nI_ne5 (by omega))⟩
  · rw [b, d, b2, d2]
    exact ⟨fun y => y.symm, fun y => y.symm⟩
theorem Qs.k6 (h : Qs S σ mi na ub ns wm) (hg : g < 2) : S 3 (10 * g + 6) = σ (192 + 10 * g + 6) := (h.2.2.2.2.2.2.1 g hg).1 6 (by omega) (by omega)
theorem Qs.out {k : Int32} (h : Qs S σ mi na ub ns wm) : (∀ g2, g2 < 2 → ¬ F_bit (σ (192 + 10 * g2 + 6)) k) ↔ ¬ (F_bit (S 3 6) k ∨ F_bit (S 3 16) k) := by
  have a : S 3 6 = σ (192 + 10 * 0 + 6) := h.k6 (g := 0) (by omega)
  have b : S 3 16 = σ (192 + 10 * 1 + 6) := h.k6 (g := 1) (by omega)
  rw [a, b]
  constructor
  · rintro q (y | y)
    · exact q 0 (by omega) y
    · exact q 1 (by omega) y
  · intro q g2 h2
    rcases (show g2 = 0 ∨ g2 = 1 by omega) with rfl | rfl
    · exact fun y => q (Or.inl y)
    · exact fun y => q (Or.inr y)
theorem Qs.e3 (h : Qs S σ mi na ub ns wm) (hg : g < 2) : ∃ e, e < 3 ∧ F_bits (σ (192 + 10 * g + 6)) 16 = nI e := by
  obtain ⟨b, b4, hb⟩ := h.2.2.2.2.2.2.2.1 g hg
  obtain ⟨e, he⟩ := bits_3 ⟨b, b4⟩
  exact ⟨e.val, e.isLt, by rw [hb]; exact he⟩
theorem Qs.takes {k : Nat} (h : Qs S σ mi na ub ns wm) (hg : g < 2) (hk : k < 2) (hns : ns ≤ 2880) (hwm : wm ≤ 720) (hf : ¬ F_bit (σ (192 + 10 * g + 6)) (nI k)) : Qs (updM S 3 (10 * g + 6) (S 3 (10 * g + 6) ||| (nI 1 <<< (nI k &&& 31)))) (G_turn σ g (nI k)) mi na ub ns wm ∧ F_bits (G_turn σ g (nI k) (192 + 10 * g + 6)) 16 = F_bits (S 3 (10 * g + 6) ||| (nI 1 <<< (nI k &&& 31))) 8 := by
  obtain ⟨b, b4, hb⟩ := h.2.2.2.2.2.2.2.1 g hg
  obtain ⟨c, hc⟩ := xo_b ⟨b, b4⟩ ⟨k, hk⟩
  have e : S 3 (10 * g + 6) ||| (nI 1 <<< (nI k &&& 31)) = σ (192 + 10 * g + 6) ^^^ (nI 1 <<< (nI k &&& 31)) := by
    rw [h.k6 hg, hb]
    exact ox_b ⟨b, b4⟩ ⟨k, hk⟩ (by rw [hb] at hf; exact hf)
  have ec : σ (192 + 10 * g + 6) ^^^ (nI 1 <<< (nI k &&& 31)) = nI c.val := by rw [hb]; exact hc
  rw [e]
  refine ⟨h.key hg hns hwm c.isLt ec, ?_⟩
  rw [G_turn, G_set, upd_eq, ec]
  exact bits_16 c
theorem Qs.hands {k o : Nat} (h : Qs S σ mi na ub ns wm) (hg : g < 2) (ho : o = 1 - g) (hk : k < 2) (hns : ns ≤ 2880) (hwm : wm ≤ 720) (hf : ¬ F_bit (σ (192 + 10 * o + 6)) (nI k)) :
    Qs (updM (updM S 3 (10 * g + 6) (S 3 (10 * g + 6) ^^^ (nI 1 <<< (nI k &&& 31)))) 3 (10 * o + 6) (S 3 (10 * o + 6) ||| (nI 1 <<< (nI k &&& 31)))) (G_turn (G_turn σ g (nI k)) o (nI k)) mi na ub ns wm ∧ F_bits (G_turn (G_turn σ g (nI k)) o (nI k) (192 + 10 * o + 6)) 16 = F_bits (S 3 (10 * o + 6) ||| (nI 1 <<< (nI k &&& 31))) 8 := by
  obtain ⟨b, b4, hb⟩ := h.2.2.2.2.2.2.2.1 g hg
  obtain ⟨c, hc⟩ := xo_b ⟨b, b4⟩ ⟨k, hk⟩
  have ec : S 3 (10 * g + 6) ^^^ (nI 1 <<< (nI k &&& 31)) = nI c.val := by rw [h.k6 hg, hb]; exact hc
  have q := h.key hg hns hwm c.isLt ec
  have eσ : G_set σ g 6 (S 3 (10 * g + 6) ^^^ (nI 1 <<< (nI k &&& 31))) = G_turn σ g (nI k) := by
    rw [G_turn, h.k6 hg]
  rw [eσ] at q
  have so : updM S 3 (10 * g + 6) (S 3 (10 * g + 6) ^^^ (nI 1 <<< (nI k &&& 31))) 3 (10 * o + 6) = S 3 (10 * o + 6) := updM_diff (by omega)
  have q2 := q.takes (g := o) (k := k) (by omega) hk hns hwm (by rw [G_turn, G_set, upd_ne (by omega)]; exact hf)
  rw [so] at q2
  exact q2
end KY2
theorem lw_k1 {L : Nat} {xs : Nat → Int32} {Q : Option Value → mH → Prop} {h : mH} {σ : Nat → Int32} {S : Nat → Nat → Int32} {mi na t : Nat} (hL9 : L ≤ 260) (hw : Wm h σ S mi na) {y : Int32} {g : Nat} (hg : g < 2) {l11 l12 l16 l17 l18 l19 l20 l21 : Option Value} (K : ∀ hb ob ab kk, kk < 2 → (hb = 1 ↔ F_bit (S 3 (10 * g + 6)) (nI kk)) → (ob = 1 ↔ (F_bit (S 3 6) (nI kk) ∨ F_bit (S 3 16) (nI kk))) → (ab = 1 ↔ S 3 (10 * g) = 0) → hb ≤ 1 → ob ≤ 1 → ab ≤ 1 → m_wp (L, xs) 0 1017 [some (.float 0), some (.ref 0), some (.ref 313), some (.ref 314), some (.ref 315), some (.ref 316), some (.ref 317), some (.ref 318), some (.ref 319), some (.ref 320), some (.int (nI t)), l11, l12, some (.int (y)), some (.int (nI g)), some (.int (nI (10 * g))), some (.int (nI kk)), some (.int (nI hb)), some (.int (nI ob)), some (.int (nI ab)), l20, l21] [] h Q) : m_wp (L, xs) 0 933 [some (.float 0), some (.ref 0), some (.ref 313), some (.ref 314), some (.ref 315), some (.ref 316), some (.ref 317), some (.ref 318), some (.ref 319), some (.ref 320), some (.int (nI t)), l11, l12, some (.int (y)), some (.int (nI g)), some (.int (nI (10 * g))), l16, l17, l18, l19, l20, l21] [] h Q := by
  obtain ⟨hI, hL, hQ, hmi, hna⟩ := hw
  have hF : Frm h h 313 8 := Frm.rf
  obtain ⟨fs0, h00⟩ := hI.at0
  refine wp_iload d0_933 rfl ?_
  refine wp_iconst d0_935 (v := nI 1) (by decide) ?_
  refine wp_ishr d0_936 ?_
  refine wp_iconst d0_937 (v := nI 2) (by decide) ?_
  refine wp_invsT (e := 61) (j2 := 293) (n := 2) d0_938 (by decide +kernel) (by decide +kernel) rfl rfl rfl (Nat.le_of_ble_eq_true rfl) (Nat.le_of_ble_eq_true rfl) rfl rfl (Nat.le_of_ble_eq_true rfl) (by decide +kernel) (k_lowD ((y >>> ((nI 1) &&& 31))) (n := 2) (by decide) (by decide)) ?_
  obtain ⟨kk, hkk, ekk⟩ : ∃ v9, v9 < 2 ∧ lowN ((y >>> ((nI 1) &&& 31))) 2 = v9 := ⟨_, lowN_lt _ (by decide), rfl⟩
  rw [ekk]
  refine wp_istore d0_941 (Nat.le_of_ble_eq_true rfl) rfl ?_
  refine wp_aload d0_943 rfl ?_
  refine wp_iload d0_945 rfl ?_
  refine wp_bipush d0_947 (v := nI 6) (by decide) ?_
  refine wp_iaddv d0_949 (v := nI (10 * g + 6)) (nI_add _ _) ?_
  refine wp_iald d0_950 (la_3 hL) (nI_in (by omega) (by decide)) (v := S 3 (10 * g + 6)) ((congrArg (S 3) (nI_nat (by omega))).trans rfl) ?_
  refine wp_iload d0_951 rfl ?_
  refine wp_ishr d0_953 ?_
  refine wp_iconst d0_954 (v := nI 1) (by decide) ?_
  refine wp_iand d0_955 ?_
  refine wp_iconst d0_956 (v := nI 1) (by decide) ?_
  refine wp_icmp_ne d0_957 (tgt := 964) (by decide) (fun hc957 => ?_) (fun hc957 => ?_)
  · refine wp_iconst d0_964 (v := nI 0) (by decide) ?_
    refine wp_istore d0_965 (Nat.le_of_ble_eq_true rfl) rfl ?_
    refine wp_aload d0_967 rfl ?_
    refine wp_bipush d0_969 (v := nI 6) (by decide) ?_
    refine wp_iald d0_971 (la_3 hL) (nI_in (by omega) (by decide)) (v := S 3 6) ((congrArg (S 3) (nI_nat (by omega))).trans rfl) ?_
    refine wp_iload d0_972 rfl ?_
    refine wp_ishr d0_974 ?_
    refine wp_iconst d0_975 (v := nI 1) (by decide) ?_
    refine wp_iand d0_976 ?_
    refine wp_iconst d0_977 (v := nI 1) (by decide) ?_
    refine wp_icmp_eq d0_978 (tgt := 995) (by decide) (fun hc978 => ?_) (fun hc978 => ?_)
    · refine wp_iconst d0_995 (v := nI 1) (by decide) ?_
      refine wp_goto d0_996 (tgt := 1000) (by decide) ?_
      refine wp_istore d0_1000 (Nat.le_of_ble_eq_true rfl) rfl ?_
      refine wp_aload d0_1002 rfl ?_
      refine wp_iload d0_1004 rfl ?_
      refine wp_iald d0_1006 (la_3 hL) (nI_in (by omega) (by decide)) (v := S 3 (10 * g)) ((congrArg (S 3) (nI_nat (by omega))).trans rfl) ?_
      refine wp_if_ne d0_1007 (tgt := 1014) (by decide) (fun hc1007 => ?_) (fun hc1007 => ?_)
      · refine wp_iconst d0_1014 (v := nI 0) (by decide) ?_
        refine wp_istore d0_1015 (Nat.le_of_ble_eq_true rfl) rfl ?_
        exact K 0 1 0 kk hkk ⟨fun z => absurd z (by decide), fun z => absurd z hc957⟩ ⟨fun _ => Or.inl hc978, fun _ => rfl⟩ ⟨fun z => absurd z (by decide), fun z => absurd z hc1007⟩ (by omega) (by omega) (by omega)
      · refine wp_iconst d0_1010 (v := nI 1) (by decide) ?_
        refine wp_goto d0_1011 (tgt := 1015) (by decide) ?_
        refine wp_istore d0_1015 (Nat.le_of_ble_eq_true rfl) rfl ?_
        exact K 0 1 1 kk hkk ⟨fun z => absurd z (by decide), fun z => absurd z hc957⟩ ⟨fun _ => Or.inl hc978, fun _ => rfl⟩ ⟨fun _ => hc1007, fun _ => rfl⟩ (by omega) (by omega) (by omega)
    · refine wp_aload d0_981 rfl ?_
      refine wp_bipush d0_983 (v := nI 16) (by decide) ?_
      refine wp_iald d0_985 (la_3 hL) (nI_in (by omega) (by decide)) (v := S 3 16) ((congrArg (S 3) (nI_nat (by omega))).trans rfl) ?_
      refine wp_iload d0_986 rfl ?_
      refine wp_ishr d0_988 ?_
      refine wp_iconst d0_989 (v := nI 1) (by decide) ?_
      refine wp_iand d0_990 ?_
      refine wp_iconst d0_991 (v := nI 1) (by decide) ?_
      refine wp_icmp_ne d0_992 (tgt := 999) (by decide) (fun hc992 => ?_) (fun hc992 => ?_)
      · refine wp_iconst d0_999 (v := nI 0) (by decide) ?_
        refine wp_istore d0_1000 (Nat.le_of_ble_eq_true rfl) rfl ?_
        refine wp_aload d0_1002 rfl ?_
        refine wp_iload d0_1004 rfl ?_
        refine wp_iald d0_1006 (la_3 hL) (nI_in (by omega) (by decide)) (v := S 3 (10 * g)) ((congrArg (S 3) (nI_nat (by omega))).trans rfl) ?_
        refine wp_if_ne d0_1007 (tgt := 1014) (by decide) (fun hc1007 => ?_) (fun hc1007 => ?_)
        · refine wp_iconst d0_1014 (v := nI 0) (by decide) ?_
          refine wp_istore d0_1015 (Nat.le_of_ble_eq_true rfl) rfl ?_
          exact K 0 0 0 kk hkk ⟨fun z => absurd z (by decide), fun z => absurd z hc957⟩ ⟨fun z => absurd z (by decide), fun z => absurd z (fun q => q.elim hc978 hc992)⟩ ⟨fun z => absurd z (by decide), fun z => absurd z hc1007⟩ (by omega) (by omega) (by omega)
        · refine wp_iconst d0_1010 (v := nI 1) (by decide) ?_
          refine wp_goto d0_1011 (tgt := 1015) (by decide) ?_
          refine wp_istore d0_1015 (Nat.le_of_ble_eq_true rfl) rfl ?_
          exact K 0 0 1 kk hkk ⟨fun z => absurd z (by decide), fun z => absurd z hc957⟩ ⟨fun z => absurd z (by decide), fun z => absurd z (fun q => q.elim hc978 hc992)⟩ ⟨fun _ => hc1007, fun _ => rfl⟩ (by omega) (by omega) (by omega)
      · refine wp_iconst d0_995 (v := nI 1) (by decide) ?_
        refine wp_goto d0_996 (tgt := 1000) (by decide) ?_
        refine wp_istore d0_1000 (Nat.le_of_ble_eq_true rfl) rfl ?_
        refine wp_aload d0_1002 rfl ?_
        refine wp_iload d0_1004 rfl ?_
        refine wp_iald d0_1006 (la_3 hL) (nI_in (by omega) (by decide)) (v := S 3 (10 * g)) ((congrArg (S 3) (nI_nat (by omega))).trans rfl) ?_
        refine wp_if_ne d0_1007 (tgt := 1014) (by decide) (fun hc1007 => ?_) (fun hc1007 => ?_)
        · refine wp_iconst d0_1014 (v := nI 0) (by decide) ?_
          refine wp_istore d0_1015 (Nat.le_of_ble_eq_true rfl) rfl ?_
          exact K 0 1 0 kk hkk ⟨fun z => absurd z (by decide), fun z => absurd z hc957⟩ ⟨fun _ => Or.inr hc992, fun _ => rfl⟩ ⟨fun z => absurd z (by decide), fun z => absurd z hc1007⟩ (by omega) (by omega) (by omega)
        · refine wp_iconst d0_1010 (v := nI 1) (by decide) ?_
          refine wp_goto d0_1011 (tgt := 1015) (by decide) ?_
          refine wp_istore d0_1015 (Nat.le_of_ble_eq_true rfl) rfl ?_
          exact K 0 1 1 kk hkk ⟨fun z => absurd z (by decide), fun z => absurd z hc957⟩ ⟨fun _ => Or.inr hc992, fun _ => rfl⟩ ⟨fun _ => hc1007, fun _ => rfl⟩ (by omega) (by omega) (by omega)
  · refine wp_iconst d0_960 (v := nI 1) (by decide) ?_
    refine wp_goto d0_961 (tgt := 965) (by decide) ?_
    refine wp_istore d0_965 (Nat.le_of_ble_eq_true rfl) rfl ?_
    refine wp_aload d0_967 rfl ?_
    refine wp_bipush d0_969 (v := nI 6) (by decide) ?_
    refine wp_iald d0_971 (la_3 hL) (nI_in (by omega) (by decide)) (v := S 3 6) ((congrArg (S 3) (nI_nat (by omega))).trans rfl) ?_
    refine wp_iload d0_972 rfl ?_
    refine wp_ishr d0_974 ?_
    refine wp_iconst d0_975 (v := nI 1) (by decide) ?_
    refine wp_iand d0_976 ?_
    refine wp_iconst d0_977 (v := nI 1) (by decide) ?_
    refine wp_icmp_eq d0_978 (tgt := 995) (by decide) (fun hc978 => ?_) (fun hc978 => ?_)
    · refine wp_iconst d0_995 (v := nI 1) (by decide) ?_
      refine wp_goto d0_996 (tgt := 1000) (by decide) ?_
      refine wp_istore d0_1000 (Nat.le_of_ble_eq_true rfl) rfl ?_
      refine wp_aload d0_1002 rfl ?_
      refine wp_iload d0_1004 rfl ?_
      refine wp_iald d0_1006 (la_3 hL) (nI_in (by omega) (by decide)) (v := S 3 (10 * g)) ((congrArg (S 3) (nI_nat (by omega))).trans rfl) ?_
      refine wp_if_ne d0_1007 (tgt := 1014) (by decide) (fun hc1007 => ?_) (fun hc1007 => ?_)
      · refine wp_iconst d0_1014 (v := nI 0) (by decide) ?_
        refine wp_istore d0_1015 (Nat.le_of_ble_eq_true rfl) rfl ?_
        exact K 1 1 0 kk hkk ⟨fun _ => hc957, fun _ => rfl⟩ ⟨fun _ => Or.inl hc978, fun _ => rfl⟩ ⟨fun z => absurd z (by decide), fun z => absurd z hc1007⟩ (by omega) (by omega) (by omega)
      · refine wp_iconst d0_1010 (v := nI 1) (by decide) ?_
        refine wp_goto d0_1011 (tgt := 1015) (by decide) ?_
        refine wp_istore d0_1015 (Nat.le_of_ble_eq_true rfl) rfl ?_
        exact K 1 1 1 kk hkk ⟨fun _ => hc957, fun _ => rfl⟩ ⟨fun _ => Or.inl hc978, fun _ => rfl⟩ ⟨fun _ => hc1007, fun _ => rfl⟩ (by omega) (by omega) (by omega)
    · refine wp_aload d0_981 rfl ?_
      refine wp_bipush d0_983 (v := nI 16) (by decide) ?_
      refine wp_iald d0_985 (la_3 hL) (nI_in (by omega) (by decide)) (v := S 3 16) ((congrArg (S 3) (nI_nat (by omega))).trans rfl) ?_
      refine wp_iload d0_986 rfl ?_
      refine wp_ishr d0_988 ?_
      refine wp_iconst d0_989 (v := nI 1) (by decide) ?_
      refine wp_iand d0_990 ?_
      refine wp_iconst d0_991 (v := nI 1) (by decide) ?_
      refine wp_icmp_ne d0_992 (tgt := 999) (by decide) (fun hc992 => ?_) (fun hc992 => ?_)
      · refine wp_iconst d0_999 (v := nI 0) (by decide) ?_
        refine wp_istore d0_1000 (Nat.le_of_ble_eq_true rfl) rfl ?_
        refine wp_aload d0_1002 rfl ?_
        refine wp_iload d0_1004 rfl ?_
        refine wp_iald d0_1006 (la_3 hL) (nI_in (by omega) (by decide)) (v := S 3 (10 * g)) ((congrArg (S 3) (nI_nat (by omega))).trans rfl) ?_
        refine wp_if_ne d0_1007 (tgt := 1014) (by decide) (fun hc1007 => ?_) (fun hc1007 => ?_)
        · refine wp_iconst d0_1014 (v := nI 0) (by decide) ?_
          refine wp_istore d0_1015 (Nat.le_of_ble_eq_true rfl) rfl ?_
          exact K 1 0 0 kk hkk ⟨fun _ => hc957, fun _ => rfl⟩ ⟨fun z => absurd z (by decide), fun z => absurd z (fun q => q.elim hc978 hc992)⟩ ⟨fun z => absurd z (by decide), fun z => absurd z hc1007⟩ (by omega) (by omega) (by omega)
        · refine wp_iconst d0_1010 (v := nI 1) (by decide) ?_
          refine wp_goto d0_1011 (tgt := 1015) (by decide) ?_
          refine wp_istore d0_1015 (Nat.le_of_ble_eq_true rfl) rfl ?_
          exact K 1 0 1 kk hkk ⟨fun _ => hc957, fun _ => rfl⟩ ⟨fun z => absurd z (by decide), fun z => absurd z (fun q => q.elim hc978 hc992)⟩ ⟨fun _ => hc1007, fun _ => rfl⟩ (by omega) (by omega) (by omega)
      · refine wp_iconst d0_995 (v := nI 1) (by decide) ?_
        refine wp_goto d0_996 (tgt := 1000) (by decide) ?_
        refine wp_istore d0_1000 (Nat.le_of_ble_eq_true rfl) rfl ?_
        refine wp_aload d0_1002 rfl ?_
        refine wp_iload d0_1004 rfl ?_
        refine wp_iald d0_1006 (la_3 hL) (nI_in (by omega) (by decide)) (v := S 3 (10 * g)) ((congrArg (S 3) (nI_nat (by omega))).trans rfl) ?_
        refine wp_if_ne d0_1007 (tgt := 1014) (by decide) (fun hc1007 => ?_) (fun hc1007 => ?_)
        · refine wp_iconst d0_1014 (v := nI 0) (by decide) ?_
          refine wp_istore d0_1015 (Nat.le_of_ble_eq_true rfl) rfl ?_
          exact K 1 1 0 kk hkk ⟨fun _ => hc957, fun _ => rfl⟩ ⟨fun _ => Or.inr hc992, fun _ => rfl⟩ ⟨fun z => absurd z (by decide), fun z => absurd z hc1007⟩ (by omega) (by omega) (by omega)
        · refine wp_iconst d0_1010 (v := nI 1) (by decide) ?_
          refine wp_goto d0_1011 (tgt := 1015) (by decide) ?_
          refine wp_istore d0_1015 (Nat.le_of_ble_eq_true rfl) rfl ?_
          exact K 1 1 1 kk hkk ⟨fun _ => hc957, fun _ => rfl⟩ ⟨fun _ => Or.inr hc992, fun _ => rfl⟩ ⟨fun _ => hc1007, fun _ => rfl⟩ (by omega) (by omega) (by omega)
theorem lw_k2 {L : Nat} {xs : Nat → Int32} {Q : Option Value → mH → Prop} {h : mH} {σ : Nat → Int32} {S : Nat → Nat → Int32} {mi na t : Nat} (hL9 : L ≤ 260) (hw : Wm h σ S mi na) {y : Int32} {g o kk hb ob ab : Nat} (hg : g < 2) (ho : o = 1 - g) (hkk : kk < 2) (hhb : hb = 1 ↔ F_bit (S 3 (10 * g + 6)) (nI kk)) (hob : ob = 1 ↔ (F_bit (S 3 6) (nI kk) ∨ F_bit (S 3 16) (nI kk))) (hab : ab = 1 ↔ S 3 (10 * g) = 0) (hb1 : hb ≤ 1) (ob1 : ob ≤ 1) (ab1 : ab ≤ 1) {l11 l12 l20 l21 : Option Value} (K : ∀ h1 σ1 S1 mi1 na1, Wm h1 σ1 S1 mi1 na1 → ∀ x11 x12 x13 x14 x15 x16 x17 x18 x19 x20 x21, m_wp (L, xs) 0 1509 [some (.float 0), some (.ref 0), some (.ref 313), some (.ref 314), some (.ref 315), some (.ref 316), some (.ref 317), some (.ref 318), some (.ref 319), some (.ref 320), some (.int (nI t)), x11, x12, x13, x14, x15, x16, x17, x18, x19, x20, x21] [] h1 Q) : m_wp (L, xs) 0 1017 [some (.float 0), some (.ref 0), some (.ref 313), some (.ref 314), some (.ref 315), some (.ref 316), some (.ref 317), some (.ref 318), some (.ref 319), some (.ref 320), some (.int (nI t)), l11, l12, some (.int (y)), some (.int (nI g)), some (.int (nI (10 * g))), some (.int (nI kk)), some (.int (nI hb)), some (.int (nI ob)), some (.int (nI ab)), l20, l21] [] h Q := by
  obtain ⟨hI, hL, hQ, hmi, hna⟩ := hw
  have hF : Frm h h 313 8 := Frm.rf
  obtain ⟨fs0, h00⟩ := hI.at0
  refine wp_iload d0_1017 rfl ?_
  refine wp_iconst d0_1019 (v := nI 2) (by decide) ?_
  refine wp_ishr d0_1020 ?_
  refine wp_iconst d0_1021 (v := nI 2) (by decide) ?_
  refine wp_invsT (e := 61) (j2 := 293) (n := 2) d0_1022 (by decide +kernel) (by decide +kernel) rfl rfl rfl (Nat.le_of_ble_eq_true rfl) (Nat.le_of_ble_eq_true rfl) rfl rfl (Nat.le_of_ble_eq_true rfl) (by decide +kernel) (k_lowD ((y >>> ((nI 2) &&& 31))) (n := 2) (by decide) (by decide)) ?_
  obtain ⟨tk, htk, etk⟩ : ∃ v9, v9 < 2 ∧ lowN ((y >>> ((nI 2) &&& 31))) 2 = v9 := ⟨_, lowN_lt _ (by decide), rfl⟩
  rw [etk]
  refine wp_if_ne d0_1025 (tgt := 1106) (by decide) (fun hc1025 => ?_) (fun hc1025 => ?_)
  · have hc1025 : ¬ (tk = 0) := fun z => hc1025 ((nI_e0 (by omega)).mpr z)
    refine wp_aload d0_1106 rfl ?_
    refine wp_iload d0_1108 rfl ?_
    refine wp_iald d0_1110 (la_3 hL) (nI_in (by omega) (by decide)) (v := S 3 (10 * g)) ((congrArg (S 3) (nI_nat (by omega))).trans rfl) ?_
    refine wp_if_lt d0_1111 (tgt := 1141) (by decide) (fun hc1111 => ?_) (fun hc1111 => ?_)
    · refine wp_iconst d0_1141 (v := nI 0) (by decide) ?_
      refine wp_istore d0_1142 (Nat.le_of_ble_eq_true rfl) rfl ?_
      refine wp_aload d0_1144 rfl ?_
      refine wp_iload d0_1146 rfl ?_
      refine wp_bipush d0_1148 (v := nI 6) (by decide) ?_
      refine wp_iaddv d0_1150 (v := nI (10 * g + 6)) (nI_add _ _) ?_
      refine wp_dup2 d0_1151 rfl rfl ?_
      refine wp_iald d0_1152 (la_3 hL) (nI_in (by omega) (by decide)) (v := S 3 (10 * g + 6)) ((congrArg (S 3) (nI_nat (by omega))).trans rfl) ?_
      refine wp_iload d0_1153 rfl ?_
      refine wp_if_eq d0_1155 (tgt := 1165) (by decide) (fun _ => ?_) (fun hz => absurd hz (by decide))
      refine wp_iconst d0_1165 (v := nI 0) (by decide) ?_
      refine wp_ixor d0_1166 ?_
      refine wp_iast d0_1167 (la_3 hL) (nI_in (by omega) (by decide)) ?_
      refine l_step (o := 3) (i := 10 * g + 6) (v := ((S 3 (10 * g + 6)) ^^^ (nI 0))) hL hF (by decide) (by rw [nI_nat (by omega)]; rfl) (fun h hL hF => ?_)
      refine wp_aload d0_1168 rfl ?_
      refine wp_bipush d0_1170 (v := nI 10) (by decide) ?_
      refine wp_iconst d0_1172 (v := nI 1) (by decide) ?_
      refine wp_iload d0_1173 rfl ?_
      refine wp_isubv d0_1175 (v := nI o) (by rw [ho]; exact nI_sub (by omega) (by omega)) ?_
      refine wp_imulv d0_1176 (v := nI (10 * o)) (nI_mul _ _) ?_
      refine wp_bipush d0_1177 (v := nI 6) (by decide) ?_
      refine wp_iaddv d0_1179 (v := nI (10 * o + 6)) (nI_add _ _) ?_
      refine wp_dup2 d0_1180 rfl rfl ?_
      refine wp_iald d0_1181 (la_3 hL) (nI_in (by omega) (by decide)) (v := S 3 (10 * o + 6)) ((congrArg ((updM S 3 (10 * g + 6) (((S 3 (10 * g + 6)) ^^^ (nI 0)))) 3) (nI_nat (by omega))).trans ((updM_diff (by omega)).trans rfl)) ?_
      refine wp_iload d0_1182 rfl ?_
      refine wp_if_eq d0_1184 (tgt := 1194) (by decide) (fun _ => ?_) (fun hz => absurd hz (by decide))
      refine wp_iconst d0_1194 (v := nI 0) (by decide) ?_
      refine wp_ior d0_1195 ?_
      refine wp_iast d0_1196 (la_3 hL) (nI_in (by omega) (by decide)) ?_
      refine l_step (o := 3) (i := 10 * o + 6) (v := ((S 3 (10 * o + 6)) ||| (nI 0))) hL hF (by decide) (by rw [nI_nat (by omega)]; rfl) (fun h hL hF => ?_)
      refine wp_aload_n d0_1197 rfl ?_
      refine wp_iload d0_1198 rfl ?_
      refine wp_iconst d0_1200 (v := nI 1) (by decide) ?_
      refine wp_iload d0_1201 rfl ?_
      refine wp_isubv d0_1203 (v := nI o) (by rw [ho]; exact nI_sub (by omega) (by omega)) ?_
      refine wp_iload d0_1204 rfl ?_
      refine wp_invv (e := 103) (j2 := 72) (n := 3) d0_1206 (by decide +kernel) (by decide +kernel) rfl rfl rfl ((hF.2.2 0 (Or.inl (by omega))).trans h00) (by decide +kernel) (Nat.le_of_ble_eq_true rfl) rfl rfl (Nat.le_of_ble_eq_true rfl) (by decide +kernel) (cl_handKey_n (hI.ref hF) (g := g) (o := o) (k := kk) hg (by omega) (by omega) (by omega) (fun q => q.1 ((hQ.neg hg).mp hc1111))) (fun v h hq => ?_)
      obtain ⟨rfl, hI, hO⟩ := hq
      show m_wp (L, xs) 0 _ _ [.int _] _ _
      have hL := hL.oth hO
      have hF : Frm h h 313 8 := Frm.rf
      obtain ⟨fs0, h00⟩ := hI.at0
      refine wp_iload d0_1209 rfl ?_
      refine wp_if_eq d0_1211 (tgt := 1233) (by decide) (fun _ => ?_) (fun hz => absurd hz (by decide))
      refine wp_bipush d0_1233 (v := (-4 : Int32)) (by decide) ?_
      refine wp_icmp_eq d0_1235 (tgt := 1240) (by decide) (fun _ => ?_) (fun hz => absurd hz (by decide))
      refine wp_goto d0_1240 (tgt := 1509) (by decide) ?_
      rw [updM_id xor_n0, updM_id or_n0] at hL
      exact K _ _ _ _ _ ⟨hI.ref hF, hL, hQ, hmi, hna⟩ _ _ _ _ _ _ _ _ _ _ _
    · refine wp_aload d0_1114 rfl ?_
      refine wp_iload d0_1116 rfl ?_
      refine wp_iald d0_1118 (la_3 hL) (nI_in (by omega) (by decide)) (v := S 3 (10 * g)) ((congrArg (S 3) (nI_nat (by omega))).trans rfl) ?_
      refine wp_aload d0_1119 rfl ?_
      refine wp_bipush d0_1121 (v := nI 10) (by decide) ?_
      refine wp_iconst d0_1123 (v := nI 1) (by decide) ?_
      refine wp_iload d0_1124 rfl ?_
      refine wp_isubv d0_1126 (v := nI o) (by rw [ho]; exact nI_sub (by omega) (by omega)) ?_
      refine wp_imulv d0_1127 (v := nI (10 * o)) (nI_mul _ _) ?_
      refine wp_iald d0_1128 (la_3 hL) (nI_in (by omega) (by decide)) (v := S 3 (10 * o)) ((congrArg (S 3) (nI_nat (by omega))).trans rfl) ?_
      refine wp_icmp_ne d0_1129 (tgt := 1141) (by decide) (fun hc1129 => ?_) (fun hc1129 => ?_)
      · refine wp_iconst d0_1141 (v := nI 0) (by decide) ?_
        refine wp_istore d0_1142 (Nat.le_of_ble_eq_true rfl) rfl ?_
        refine wp_aload d0_1144 rfl ?_
        refine wp_iload d0_1146 rfl ?_
        refine wp_bipush d0_1148 (v := nI 6) (by decide) ?_
        refine wp_iaddv d0_1150 (v := nI (10 * g + 6)) (nI_add _ _) ?_
        refine wp_dup2 d0_1151 rfl rfl ?_
        refine wp_iald d0_1152 (la_3 hL) (nI_in (by omega) (by decide)) (v := S 3 (10 * g + 6)) ((congrArg (S 3) (nI_nat (by omega))).trans rfl) ?_
        refine wp_iload d0_1153 rfl ?_
        refine wp_if_eq d0_1155 (tgt := 1165) (by decide) (fun _ => ?_) (fun hz => absurd hz (by decide))
        refine wp_iconst d0_1165 (v := nI 0) (by decide) ?_
        refine wp_ixor d0_1166 ?_
        refine wp_iast d0_1167 (la_3 hL) (nI_in (by omega) (by decide)) ?_
        refine l_step (o := 3) (i := 10 * g + 6) (v := ((S 3 (10 * g + 6)) ^^^ (nI 0))) hL hF (by decide) (by rw [nI_nat (by omega)]; rfl) (fun h hL hF => ?_)
        refine wp_aload d0_1168 rfl ?_
        refine wp_bipush d0_1170 (v := nI 10) (by decide) ?_
        refine wp_iconst d0_1172 (v := nI 1) (by decide) ?_
        refine wp_iload d0_1173 rfl ?_
        refine wp_isubv d0_1175 (v := nI o) (by rw [ho]; exact nI_sub (by omega) (by omega)) ?_
        refine wp_imulv d0_1176 (v := nI (10 * o)) (nI_mul _ _) ?_
        refine wp_bipush d0_1177 (v := nI 6) (by decide) ?_
        refine wp_iaddv d0_1179 (v := nI (10 * o + 6)) (nI_add _ _) ?_
        refine wp_dup2 d0_1180 rfl rfl ?_
        refine wp_iald d0_1181 (la_3 hL) (nI_in (by omega) (by decide)) (v := S 3 (10 * o + 6)) ((congrArg ((updM S 3 (10 * g + 6) (((S 3 (10 * g + 6)) ^^^ (nI 0)))) 3) (nI_nat (by omega))).trans ((updM_diff (by omega)).trans rfl)) ?_
        refine wp_iload d0_1182 rfl ?_
        refine wp_if_eq d0_1184 (tgt := 1194) (by decide) (fun _ => ?_) (fun hz => absurd hz (by decide))
        refine wp_iconst d0_1194 (v := nI 0) (by decide) ?_
        refine wp_ior d0_1195 ?_
        refine wp_iast d0_1196 (la_3 hL) (nI_in (by omega) (by decide)) ?_
        refine l_step (o := 3) (i := 10 * o + 6) (v := ((S 3 (10 * o + 6)) ||| (nI 0))) hL hF (by decide) (by rw [nI_nat (by omega)]; rfl) (fun h hL hF => ?_)
        refine wp_aload_n d0_1197 rfl ?_
        refine wp_iload d0_1198 rfl ?_
        refine wp_iconst d0_1200 (v := nI 1) (by decide) ?_
        refine wp_iload d0_1201 rfl ?_
        refine wp_isubv d0_1203 (v := nI o) (by rw [ho]; exact nI_sub (by omega) (by omega)) ?_
        refine wp_iload d0_1204 rfl ?_
        refine wp_invv (e := 103) (j2 := 72) (n := 3) d0_1206 (by decide +kernel) (by decide +kernel) rfl rfl rfl ((hF.2.2 0 (Or.inl (by omega))).trans h00) (by decide +kernel) (Nat.le_of_ble_eq_true rfl) rfl rfl (Nat.le_of_ble_eq_true rfl) (by decide +kernel) (cl_handKey_n (hI.ref hF) (g := g) (o := o) (k := kk) hg (by omega) (by omega) (by omega) (fun q => hc1129 ((hQ.eqr hg (by omega)).mpr q.2.1))) (fun v h hq => ?_)
        obtain ⟨rfl, hI, hO⟩ := hq
        show m_wp (L, xs) 0 _ _ [.int _] _ _
        have hL := hL.oth hO
        have hF : Frm h h 313 8 := Frm.rf
        obtain ⟨fs0, h00⟩ := hI.at0
        refine wp_iload d0_1209 rfl ?_
        refine wp_if_eq d0_1211 (tgt := 1233) (by decide) (fun _ => ?_) (fun hz => absurd hz (by decide))
        refine wp_bipush d0_1233 (v := (-4 : Int32)) (by decide) ?_
        refine wp_icmp_eq d0_1235 (tgt := 1240) (by decide) (fun _ => ?_) (fun hz => absurd hz (by decide))
        refine wp_goto d0_1240 (tgt := 1509) (by decide) ?_
        rw [updM_id xor_n0, updM_id or_n0] at hL
        exact K _ _ _ _ _ ⟨hI.ref hF, hL, hQ, hmi, hna⟩ _ _ _ _ _ _ _ _ _ _ _
      · refine wp_iload d0_1132 rfl ?_
        refine wp_if_eq d0_1134 (tgt := 1141) (by decide) (fun hc1134 => ?_) (fun hc1134 => ?_)
        · have hc1134 : hb = 0 := (nI_e0 (by omega)).mp hc1134
          refine wp_iconst d0_1141 (v := nI 0) (by decide) ?_
          refine wp_istore d0_1142 (Nat.le_of_ble_eq_true rfl) rfl ?_
          refine wp_aload d0_1144 rfl ?_
          refine wp_iload d0_1146 rfl ?_
          refine wp_bipush d0_1148 (v := nI 6) (by decide) ?_
          refine wp_iaddv d0_1150 (v := nI (10 * g + 6)) (nI_add _ _) ?_
          refine wp_dup2 d0_1151 rfl rfl ?_
          refine wp_iald d0_1152 (la_3 hL) (nI_in (by omega) (by decide)) (v := S 3 (10 * g + 6)) ((congrArg (S 3) (nI_nat (by omega))).trans rfl) ?_
          refine wp_iload d0_1153 rfl ?_
          refine wp_if_eq d0_1155 (tgt := 1165) (by decide) (fun _ => ?_) (fun hz => absurd hz (by decide))
          refine wp_iconst d0_1165 (v := nI 0) (by decide) ?_
          refine wp_ixor d0_1166 ?_
          refine wp_iast d0_1167 (la_3 hL) (nI_in (by omega) (by decide)) ?_
          refine l_step (o := 3) (i := 10 * g + 6) (v := ((S 3 (10 * g + 6)) ^^^ (nI 0))) hL hF (by decide) (by rw [nI_nat (by omega)]; rfl) (fun h hL hF => ?_)
          refine wp_aload d0_1168 rfl ?_
          refine wp_bipush d0_1170 (v := nI 10) (by decide) ?_
          refine wp_iconst d0_1172 (v := nI 1) (by decide) ?_
          refine wp_iload d0_1173 rfl ?_
          refine wp_isubv d0_1175 (v := nI o) (by rw [ho]; exact nI_sub (by omega) (by omega)) ?_
          refine wp_imulv d0_1176 (v := nI (10 * o)) (nI_mul _ _) ?_
          refine wp_bipush d0_1177 (v := nI 6) (by decide) ?_
          refine wp_iaddv d0_1179 (v := nI (10 * o + 6)) (nI_add _ _) ?_
          refine wp_dup2 d0_1180 rfl rfl ?_
          refine wp_iald d0_1181 (la_3 hL) (nI_in (by omega) (by decide)) (v := S 3 (10 * o + 6)) ((congrArg ((updM S 3 (10 * g + 6) (((S 3 (10 * g + 6)) ^^^ (nI 0)))) 3) (nI_nat (by omega))).trans ((updM_diff (by omega)).trans rfl)) ?_
          refine wp_iload d0_1182 rfl ?_
          refine wp_if_eq d0_1184 (tgt := 1194) (by decide) (fun _ => ?_) (fun hz => absurd hz (by decide))
          refine wp_iconst d0_1194 (v := nI 0) (by decide) ?_
          refine wp_ior d0_1195 ?_
          refine wp_iast d0_1196 (la_3 hL) (nI_in (by omega) (by decide)) ?_
          refine l_step (o := 3) (i := 10 * o + 6) (v := ((S 3 (10 * o + 6)) ||| (nI 0))) hL hF (by decide) (by rw [nI_nat (by omega)]; rfl) (fun h hL hF => ?_)
          refine wp_aload_n d0_1197 rfl ?_
          refine wp_iload d0_1198 rfl ?_
          refine wp_iconst d0_1200 (v := nI 1) (by decide) ?_
          refine wp_iload d0_1201 rfl ?_
          refine wp_isubv d0_1203 (v := nI o) (by rw [ho]; exact nI_sub (by omega) (by omega)) ?_
          refine wp_iload d0_1204 rfl ?_
          refine wp_invv (e := 103) (j2 := 72) (n := 3) d0_1206 (by decide +kernel) (by decide +kernel) rfl rfl rfl ((hF.2.2 0 (Or.inl (by omega))).trans h00) (by decide +kernel) (Nat.le_of_ble_eq_true rfl) rfl rfl (Nat.le_of_ble_eq_true rfl) (by decide +kernel) (cl_handKey_n (hI.ref hF) (g := g) (o := o) (k := kk) hg (by omega) (by omega) (by omega) (fun q => absurd (hhb.mpr (by rw [hQ.k6 hg]; exact q.2.2)) (by omega))) (fun v h hq => ?_)
          obtain ⟨rfl, hI, hO⟩ := hq
          show m_wp (L, xs) 0 _ _ [.int _] _ _
          have hL := hL.oth hO
          have hF : Frm h h 313 8 := Frm.rf
          obtain ⟨fs0, h00⟩ := hI.at0
          refine wp_iload d0_1209 rfl ?_
          refine wp_if_eq d0_1211 (tgt := 1233) (by decide) (fun _ => ?_) (fun hz => absurd hz (by decide))
          refine wp_bipush d0_1233 (v := (-4 : Int32)) (by decide) ?_
          refine wp_icmp_eq d0_1235 (tgt := 1240) (by decide) (fun _ => ?_) (fun hz => absurd hz (by decide))
          refine wp_goto d0_1240 (tgt := 1509) (by decide) ?_
          rw [updM_id xor_n0, updM_id or_n0] at hL
          exact K _ _ _ _ _ ⟨hI.ref hF, hL, hQ, hmi, hna⟩ _ _ _ _ _ _ _ _ _ _ _
        · have hc1134 : ¬ hb = 0 := fun z => hc1134 ((nI_e0 (by omega)).mpr z)
          have hgb : F_bit (σ (192 + 10 * g + 6)) (nI kk) := by rw [← hQ.k6 hg]; exact hhb.mp (by omega)
          obtain ⟨Mc, Tc, cc, hC⟩ := hI.cp
          have hno : ¬ F_bit (σ (192 + 10 * o + 6)) (nI kk) := fun z => by
            have k1 := ((hC.2.2.2.2.2.2.2.2.1.1 kk (by omega)).2 g hg).mp hgb
            have k2 := ((hC.2.2.2.2.2.2.2.2.1.1 kk (by omega)).2 o (by omega)).mp z
            have := (nI_eq (by omega) (by omega)).mp (k1.symm.trans k2)
            omega
          obtain ⟨eo, ho3, hoe⟩ := hQ.e3 (g := o) (by omega)
          refine wp_iconst d0_1137 (v := nI 1) (by decide) ?_
          refine wp_goto d0_1138 (tgt := 1142) (by decide) ?_
          refine wp_istore d0_1142 (Nat.le_of_ble_eq_true rfl) rfl ?_
          refine wp_aload d0_1144 rfl ?_
          refine wp_iload d0_1146 rfl ?_
          refine wp_bipush d0_1148 (v := nI 6) (by decide) ?_
          refine wp_iaddv d0_1150 (v := nI (10 * g + 6)) (nI_add _ _) ?_
          refine wp_dup2 d0_1151 rfl rfl ?_
          refine wp_iald d0_1152 (la_3 hL) (nI_in (by omega) (by decide)) (v := S 3 (10 * g + 6)) ((congrArg (S 3) (nI_nat (by omega))).trans rfl) ?_
          refine wp_iload d0_1153 rfl ?_
          refine wp_if_eq d0_1155 (tgt := 1165) (by decide) (fun hz => absurd hz (by decide)) (fun _ => ?_)
          refine wp_iconst d0_1158 (v := nI 1) (by decide) ?_
          refine wp_iload d0_1159 rfl ?_
          refine wp_ishl d0_1161 ?_
          refine wp_goto d0_1162 (tgt := 1166) (by decide) ?_
          refine wp_ixor d0_1166 ?_
          refine wp_iast d0_1167 (la_3 hL) (nI_in (by omega) (by decide)) ?_
          refine l_step (o := 3) (i := 10 * g + 6) (v := ((S 3 (10 * g + 6)) ^^^ ((nI 1) <<< ((nI kk) &&& 31)))) hL hF (by decide) (by rw [nI_nat (by omega)]; rfl) (fun h hL hF => ?_)
          refine wp_aload d0_1168 rfl ?_
          refine wp_bipush d0_1170 (v := nI 10) (by decide) ?_
          refine wp_iconst d0_1172 (v := nI 1) (by decide) ?_
          refine wp_iload d0_1173 rfl ?_
          refine wp_isubv d0_1175 (v := nI o) (by rw [ho]; exact nI_sub (by omega) (by omega)) ?_
          refine wp_imulv d0_1176 (v := nI (10 * o)) (nI_mul _ _) ?_
          refine wp_bipush d0_1177 (v := nI 6) (by decide) ?_
          refine wp_iaddv d0_1179 (v := nI (10 * o + 6)) (nI_add _ _) ?_
          refine wp_dup2 d0_1180 rfl rfl ?_
          refine wp_iald d0_1181 (la_3 hL) (nI_in (by omega) (by decide)) (v := S 3 (10 * o + 6)) ((congrArg ((updM S 3 (10 * g + 6) (((S 3 (10 * g + 6)) ^^^ ((nI 1) <<< ((nI kk) &&& 31))))) 3) (nI_nat (by omega))).trans ((updM_diff (by omega)).trans rfl)) ?_
          refine wp_iload d0_1182 rfl ?_
          refine wp_if_eq d0_1184 (tgt := 1194) (by decide) (fun hz => absurd hz (by decide)) (fun _ => ?_)
          refine wp_iconst d0_1187 (v := nI 1) (by decide) ?_
          refine wp_iload d0_1188 rfl ?_
          refine wp_ishl d0_1190 ?_
          refine wp_goto d0_1191 (tgt := 1195) (by decide) ?_
          refine wp_ior d0_1195 ?_
          refine wp_iast d0_1196 (la_3 hL) (nI_in (by omega) (by decide)) ?_
          refine l_step (o := 3) (i := 10 * o + 6) (v := ((S 3 (10 * o + 6)) ||| ((nI 1) <<< ((nI kk) &&& 31)))) hL hF (by decide) (by rw [nI_nat (by omega)]; rfl) (fun h hL hF => ?_)
          refine wp_aload_n d0_1197 rfl ?_
          refine wp_iload d0_1198 rfl ?_
          refine wp_iconst d0_1200 (v := nI 1) (by decide) ?_
          refine wp_iload d0_1201 rfl ?_
          refine wp_isubv d0_1203 (v := nI o) (by rw [ho]; exact nI_sub (by omega) (by omega)) ?_
          refine wp_iload d0_1204 rfl ?_
          refine wp_invv (e := 103) (j2 := 72) (n := 3) d0_1206 (by decide +kernel) (by decide +kernel) rfl rfl rfl ((hF.2.2 0 (Or.inl (by omega))).trans h00) (by decide +kernel) (Nat.le_of_ble_eq_true rfl) rfl rfl (Nat.le_of_ble_eq_true rfl) (by decide +kernel) (co_to (hQ.hands hg ho hkk (by omega) (by omega) hno).2 (cl_handKey_y (hI.ref hF) (g := g) (o := o) (k := kk) hg (by omega) (by omega) (by omega) (fun q => hc1111 ((hQ.neg hg).mpr q)) ((hQ.eqr hg (by omega)).mp hc1129) hgb hoe ho3)) (fun v h hq => ?_)
          obtain ⟨rfl, hI, hO⟩ := hq
          show m_wp (L, xs) 0 _ _ [.int _] _ _
          have hL := hL.oth hO
          have hF : Frm h h 313 8 := Frm.rf
          obtain ⟨fs0, h00⟩ := hI.at0
          refine wp_iload d0_1209 rfl ?_
          refine wp_if_eq d0_1211 (tgt := 1233) (by decide) (fun hz => absurd hz (by decide)) (fun _ => ?_)
          refine wp_aload d0_1214 rfl ?_
          refine wp_bipush d0_1216 (v := nI 10) (by decide) ?_
          refine wp_iconst d0_1218 (v := nI 1) (by decide) ?_
          refine wp_iload d0_1219 rfl ?_
          refine wp_isubv d0_1221 (v := nI o) (by rw [ho]; exact nI_sub (by omega) (by omega)) ?_
          refine wp_imulv d0_1222 (v := nI (10 * o)) (nI_mul _ _) ?_
          refine wp_bipush d0_1223 (v := nI 6) (by decide) ?_
          refine wp_iaddv d0_1225 (v := nI (10 * o + 6)) (nI_add _ _) ?_
          refine wp_iald d0_1226 (la_3 hL) (nI_in (by omega) (by decide)) (v := ((S 3 (10 * o + 6)) ||| ((nI 1) <<< ((nI kk) &&& 31)))) ((congrArg ((updM (updM S 3 (10 * g + 6) (((S 3 (10 * g + 6)) ^^^ ((nI 1) <<< ((nI kk) &&& 31))))) 3 (10 * o + 6) (((S 3 (10 * o + 6)) ||| ((nI 1) <<< ((nI kk) &&& 31))))) 3) (nI_nat (by omega))).trans updM_same) ?_
          refine wp_invsT (e := 97) (j2 := 301) (n := 1) d0_1227 (by decide +kernel) (by decide +kernel) rfl rfl rfl (Nat.le_of_ble_eq_true rfl) (Nat.le_of_ble_eq_true rfl) rfl rfl (Nat.le_of_ble_eq_true rfl) (by decide +kernel) (k_bits ((S 3 (10 * o + 6)) ||| ((nI 1) <<< ((nI kk) &&& 31)))) ?_
          refine wp_goto d0_1230 (tgt := 1235) (by decide) ?_
          refine wp_icmp_eq d0_1235 (tgt := 1240) (by decide) (fun _ => ?_) (fun hq9 => absurd rfl hq9)
          refine wp_goto d0_1240 (tgt := 1509) (by decide) ?_
          exact K _ _ _ _ _ ⟨hI.ref hF, hL, (hQ.hands hg ho hkk (by omega) (by omega) hno).1, hmi, hna⟩ _ _ _ _ _ _ _ _ _ _ _
  · have hc1025 : tk = 0 := (nI_e0 (by omega)).mp hc1025
    refine wp_iload d0_1028 rfl ?_
    refine wp_if_eq d0_1030 (tgt := 1042) (by decide) (fun hc1030 => ?_) (fun hc1030 => ?_)
    · have hc1030 : ab = 0 := (nI_e0 (by omega)).mp hc1030
      refine wp_iconst d0_1042 (v := nI 0) (by decide) ?_
      refine wp_istore d0_1043 (Nat.le_of_ble_eq_true rfl) rfl ?_
      refine wp_aload d0_1045 rfl ?_
      refine wp_iload d0_1047 rfl ?_
      refine wp_bipush d0_1049 (v := nI 6) (by decide) ?_
      refine wp_iaddv d0_1051 (v := nI (10 * g + 6)) (nI_add _ _) ?_
      refine wp_dup2 d0_1052 rfl rfl ?_
      refine wp_iald d0_1053 (la_3 hL) (nI_in (by omega) (by decide)) (v := S 3 (10 * g + 6)) ((congrArg (S 3) (nI_nat (by omega))).trans rfl) ?_
      refine wp_iload d0_1054 rfl ?_
      refine wp_if_eq d0_1056 (tgt := 1066) (by decide) (fun _ => ?_) (fun hz => absurd hz (by decide))
      refine wp_iconst d0_1066 (v := nI 0) (by decide) ?_
      refine wp_ior d0_1067 ?_
      refine wp_iast d0_1068 (la_3 hL) (nI_in (by omega) (by decide)) ?_
      refine l_step (o := 3) (i := 10 * g + 6) (v := ((S 3 (10 * g + 6)) ||| (nI 0))) hL hF (by decide) (by rw [nI_nat (by omega)]; rfl) (fun h hL hF => ?_)
      refine wp_aload_n d0_1069 rfl ?_
      refine wp_iload d0_1070 rfl ?_
      refine wp_iload d0_1072 rfl ?_
      refine wp_invv (e := 100) (j2 := 65) (n := 2) d0_1074 (by decide +kernel) (by decide +kernel) rfl rfl rfl ((hF.2.2 0 (Or.inl (by omega))).trans h00) (by decide +kernel) (Nat.le_of_ble_eq_true rfl) rfl rfl (Nat.le_of_ble_eq_true rfl) (by decide +kernel) (cl_takeKey_n (hI.ref hF) (g := g) (k := kk) hg (by omega) (fun q => absurd (hab.mpr ((hQ.at0 hg).mpr q.1)) (by omega))) (fun v h hq => ?_)
      obtain ⟨rfl, hI, hO⟩ := hq
      show m_wp (L, xs) 0 _ _ [.int _] _ _
      have hL := hL.oth hO
      have hF : Frm h h 313 8 := Frm.rf
      obtain ⟨fs0, h00⟩ := hI.at0
      refine wp_iload d0_1077 rfl ?_
      refine wp_if_eq d0_1079 (tgt := 1096) (by decide) (fun _ => ?_) (fun hz => absurd hz (by decide))
      refine wp_bipush d0_1096 (v := (-4 : Int32)) (by decide) ?_
      refine wp_icmp_eq d0_1098 (tgt := 1103) (by decide) (fun _ => ?_) (fun hz => absurd hz (by decide))
      refine wp_goto d0_1103 (tgt := 1240) (by decide) ?_
      refine wp_goto d0_1240 (tgt := 1509) (by decide) ?_
      rw [updM_id or_n0] at hL
      exact K _ _ _ _ _ ⟨hI.ref hF, hL, hQ, hmi, hna⟩ _ _ _ _ _ _ _ _ _ _ _
    · have hc1030 : ¬ (ab = 0) := fun z => hc1030 ((nI_e0 (by omega)).mpr z)
      refine wp_iload d0_1033 rfl ?_
      refine wp_if_ne d0_1035 (tgt := 1042) (by decide) (fun hc1035 => ?_) (fun hc1035 => ?_)
      · have hc1035 : ¬ (ob = 0) := fun z => hc1035 ((nI_e0 (by omega)).mpr z)
        refine wp_iconst d0_1042 (v := nI 0) (by decide) ?_
        refine wp_istore d0_1043 (Nat.le_of_ble_eq_true rfl) rfl ?_
        refine wp_aload d0_1045 rfl ?_
        refine wp_iload d0_1047 rfl ?_
        refine wp_bipush d0_1049 (v := nI 6) (by decide) ?_
        refine wp_iaddv d0_1051 (v := nI (10 * g + 6)) (nI_add _ _) ?_
        refine wp_dup2 d0_1052 rfl rfl ?_
        refine wp_iald d0_1053 (la_3 hL) (nI_in (by omega) (by decide)) (v := S 3 (10 * g + 6)) ((congrArg (S 3) (nI_nat (by omega))).trans rfl) ?_
        refine wp_iload d0_1054 rfl ?_
        refine wp_if_eq d0_1056 (tgt := 1066) (by decide) (fun _ => ?_) (fun hz => absurd hz (by decide))
        refine wp_iconst d0_1066 (v := nI 0) (by decide) ?_
        refine wp_ior d0_1067 ?_
        refine wp_iast d0_1068 (la_3 hL) (nI_in (by omega) (by decide)) ?_
        refine l_step (o := 3) (i := 10 * g + 6) (v := ((S 3 (10 * g + 6)) ||| (nI 0))) hL hF (by decide) (by rw [nI_nat (by omega)]; rfl) (fun h hL hF => ?_)
        refine wp_aload_n d0_1069 rfl ?_
        refine wp_iload d0_1070 rfl ?_
        refine wp_iload d0_1072 rfl ?_
        refine wp_invv (e := 100) (j2 := 65) (n := 2) d0_1074 (by decide +kernel) (by decide +kernel) rfl rfl rfl ((hF.2.2 0 (Or.inl (by omega))).trans h00) (by decide +kernel) (Nat.le_of_ble_eq_true rfl) rfl rfl (Nat.le_of_ble_eq_true rfl) (by decide +kernel) (cl_takeKey_n (hI.ref hF) (g := g) (k := kk) hg (by omega) (fun q => absurd (hob.mp (by omega)) (hQ.out.mp q.2))) (fun v h hq => ?_)
        obtain ⟨rfl, hI, hO⟩ := hq
        show m_wp (L, xs) 0 _ _ [.int _] _ _
        have hL := hL.oth hO
        have hF : Frm h h 313 8 := Frm.rf
        obtain ⟨fs0, h00⟩ := hI.at0
        refine wp_iload d0_1077 rfl ?_
        refine wp_if_eq d0_1079 (tgt := 1096) (by decide) (fun _ => ?_) (fun hz => absurd hz (by decide))
        refine wp_bipush d0_1096 (v := (-4 : Int32)) (by decide) ?_
        refine wp_icmp_eq d0_1098 (tgt := 1103) (by decide) (fun _ => ?_) (fun hz => absurd hz (by decide))
        refine wp_goto d0_1103 (tgt := 1240) (by decide) ?_
        refine wp_goto d0_1240 (tgt := 1509) (by decide) ?_
        rw [updM_id or_n0] at hL
        exact K _ _ _ _ _ ⟨hI.ref hF, hL, hQ, hmi, hna⟩ _ _ _ _ _ _ _ _ _ _ _
      · have hc1035 : ob = 0 := (nI_e0 (by omega)).mp hc1035
        have hfree : ∀ g2, g2 < 2 → ¬ F_bit (σ (192 + 10 * g2 + 6)) (nI kk) := hQ.out.mpr (fun q => absurd (hob.mpr q) (by omega))
        obtain ⟨e, he3, he⟩ := hQ.e3 hg
        refine wp_iconst d0_1038 (v := nI 1) (by decide) ?_
        refine wp_goto d0_1039 (tgt := 1043) (by decide) ?_
        refine wp_istore d0_1043 (Nat.le_of_ble_eq_true rfl) rfl ?_
        refine wp_aload d0_1045 rfl ?_
        refine wp_iload d0_1047 rfl ?_
        refine wp_bipush d0_1049 (v := nI 6) (by decide) ?_
        refine wp_iaddv d0_1051 (v := nI (10 * g + 6)) (nI_add _ _) ?_
        refine wp_dup2 d0_1052 rfl rfl ?_
        refine wp_iald d0_1053 (la_3 hL) (nI_in (by omega) (by decide)) (v := S 3 (10 * g + 6)) ((congrArg (S 3) (nI_nat (by omega))).trans rfl) ?_
        refine wp_iload d0_1054 rfl ?_
        refine wp_if_eq d0_1056 (tgt := 1066) (by decide) (fun hz => absurd hz (by decide)) (fun _ => ?_)
        refine wp_iconst d0_1059 (v := nI 1) (by decide) ?_
        refine wp_iload d0_1060 rfl ?_
        refine wp_ishl d0_1062 ?_
        refine wp_goto d0_1063 (tgt := 1067) (by decide) ?_
        refine wp_ior d0_1067 ?_
        refine wp_iast d0_1068 (la_3 hL) (nI_in (by omega) (by decide)) ?_
        refine l_step (o := 3) (i := 10 * g + 6) (v := ((S 3 (10 * g + 6)) ||| ((nI 1) <<< ((nI kk) &&& 31)))) hL hF (by decide) (by rw [nI_nat (by omega)]; rfl) (fun h hL hF => ?_)
        refine wp_aload_n d0_1069 rfl ?_
        refine wp_iload d0_1070 rfl ?_
        refine wp_iload d0_1072 rfl ?_
        refine wp_invv (e := 100) (j2 := 65) (n := 2) d0_1074 (by decide +kernel) (by decide +kernel) rfl rfl rfl ((hF.2.2 0 (Or.inl (by omega))).trans h00) (by decide +kernel) (Nat.le_of_ble_eq_true rfl) rfl rfl (Nat.le_of_ble_eq_true rfl) (by decide +kernel) (co_to (hQ.takes hg hkk (by omega) (by omega) (hfree g hg)).2 (cl_takeKey_y (hI.ref hF) (g := g) (k := kk) hg (by omega) ((hQ.at0 hg).mp (hab.mp (by omega))) hfree he he3)) (fun v h hq => ?_)
        obtain ⟨rfl, hI, hO⟩ := hq
        show m_wp (L, xs) 0 _ _ [.int _] _ _
        have hL := hL.oth hO
        have hF : Frm h h 313 8 := Frm.rf
        obtain ⟨fs0, h00⟩ := hI.at0
        refine wp_iload d0_1077 rfl ?_
        refine wp_if_eq d0_1079 (tgt := 1096) (by decide) (fun hz => absurd hz (by decide)) (fun _ => ?_)
        refine wp_aload d0_1082 rfl ?_
        refine wp_iload d0_1084 rfl ?_
        refine wp_bipush d0_1086 (v := nI 6) (by decide) ?_
        refine wp_iaddv d0_1088 (v := nI (10 * g + 6)) (nI_add _ _) ?_
        refine wp_iald d0_1089 (la_3 hL) (nI_in (by omega) (by decide)) (v := ((S 3 (10 * g + 6)) ||| ((nI 1) <<< ((nI kk) &&& 31)))) ((congrArg ((updM S 3 (10 * g + 6) (((S 3 (10 * g + 6)) ||| ((nI 1) <<< ((nI kk) &&& 31))))) 3) (nI_nat (by omega))).trans updM_same) ?_
        refine wp_invsT (e := 97) (j2 := 301) (n := 1) d0_1090 (by decide +kernel) (by decide +kernel) rfl rfl rfl (Nat.le_of_ble_eq_true rfl) (Nat.le_of_ble_eq_true rfl) rfl rfl (Nat.le_of_ble_eq_true rfl) (by decide +kernel) (k_bits ((S 3 (10 * g + 6)) ||| ((nI 1) <<< ((nI kk) &&& 31)))) ?_
        refine wp_goto d0_1093 (tgt := 1098) (by decide) ?_
        refine wp_icmp_eq d0_1098 (tgt := 1103) (by decide) (fun _ => ?_) (fun hq9 => absurd rfl hq9)
        refine wp_goto d0_1103 (tgt := 1240) (by decide) ?_
        refine wp_goto d0_1240 (tgt := 1509) (by decide) ?_
        exact K _ _ _ _ _ ⟨hI.ref hF, hL, (hQ.takes hg hkk (by omega) (by omega) (hfree g hg)).1, hmi, hna⟩ _ _ _ _ _ _ _ _ _ _ _
theorem lw_key {L : Nat} {xs : Nat → Int32} {Q : Option Value → mH → Prop} {h : mH} {σ : Nat → Int32} {S : Nat → Nat → Int32} {mi na t : Nat} (hL9 : L ≤ 260) (hw : Wm h σ S mi na) {y : Int32} {g : Nat} (hg : g < 2) {l11 l12 l16 l17 l18 l19 l20 l21 : Option Value} (K : ∀ h1 σ1 S1 mi1 na1, Wm h1 σ1 S1 mi1 na1 → ∀ x11 x12 x13 x14 x15 x16 x17 x18 x19 x20 x21, m_wp (L, xs) 0 1509 [some (.float 0), some (.ref 0), some (.ref 313), some (.ref 314), some (.ref 315), some (.ref 316), some (.ref 317), some (.ref 318), some (.ref 319), some (.ref 320), some (.int (nI t)), x11, x12, x13, x14, x15, x16, x17, x18, x19, x20, x21] [] h1 Q) : m_wp (L, xs) 0 933 [some (.float 0), some (.ref 0), some (.ref 313), some (.ref 314), some (.ref 315), some (.ref 316), some (.ref 317), some (.ref 318), some (.ref 319), some (.ref 320), some (.int (nI t)), l11, l12, some (.int (y)), some (.int (nI g)), some (.int (nI (10 * g))), l16, l17, l18, l19, l20, l21] [] h Q :=
  lw_k1 hL9 hw hg (fun hb ob ab kk hkk h1 h2 h3 b1 b2 b3 => lw_k2 hL9 hw (o := 1 - g) hg rfl hkk h1 h2 h3 b1 b2 b3 K)
