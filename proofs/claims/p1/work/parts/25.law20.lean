theorem dL_law_959 : decode cL_law 959 = .ok (.aload_n 1, 1) := by decide +kernel
theorem dL_law_960 : decode cL_law 960 = .ok (.aload_n 0, 1) := by decide +kernel
theorem dL_law_961 : decode cL_law 961 = .ok (.iload_n 3, 1) := by decide +kernel
theorem dL_law_962 : decode cL_law 962 = .ok (.iconst 1, 1) := by decide +kernel
theorem dL_law_963 : decode cL_law 963 = .ok (.iadd, 1) := by decide +kernel
theorem dL_law_964 : decode cL_law 964 = .ok (.iaload, 1) := by decide +kernel
theorem dL_law_965 : decode cL_law 965 = .ok (.aload_n 0, 1) := by decide +kernel
theorem dL_law_966 : decode cL_law 966 = .ok (.iload_n 3, 1) := by decide +kernel
theorem dL_law_967 : decode cL_law 967 = .ok (.iconst 2, 1) := by decide +kernel
theorem dL_law_968 : decode cL_law 968 = .ok (.iadd, 1) := by decide +kernel
theorem dL_law_969 : decode cL_law 969 = .ok (.iaload, 1) := by decide +kernel
theorem dL_law_970 : decode cL_law 970 = .ok (.aload_n 0, 1) := by decide +kernel
theorem dL_law_971 : decode cL_law 971 = .ok (.iload_n 3, 1) := by decide +kernel
theorem dL_law_972 : decode cL_law 972 = .ok (.iconst 3, 1) := by decide +kernel
theorem dL_law_973 : decode cL_law 973 = .ok (.iadd, 1) := by decide +kernel
theorem dL_law_974 : decode cL_law 974 = .ok (.iaload, 1) := by decide +kernel
theorem dL_law_975 : decode cL_law 975 = .ok (.aload_n 0, 1) := by decide +kernel
theorem dL_law_976 : decode cL_law 976 = .ok (.iload_n 3, 1) := by decide +kernel
theorem dL_law_977 : decode cL_law 977 = .ok (.iconst 4, 1) := by decide +kernel
theorem dL_law_978 : decode cL_law 978 = .ok (.iadd, 1) := by decide +kernel
theorem dL_law_979 : decode cL_law 979 = .ok (.iaload, 1) := by decide +kernel
theorem dL_law_980 : decode cL_law 980 = .ok (.ifCond .eq 7, 3) := by decide +kernel
theorem dL_law_987 : decode cL_law 987 = .ok (.iconst 0, 1) := by decide +kernel
theorem dL_law_988 : decode cL_law 988 = .ok (.aload_n 0, 1) := by decide +kernel
theorem dL_law_989 : decode cL_law 989 = .ok (.iload_n 3, 1) := by decide +kernel
theorem dL_law_990 : decode cL_law 990 = .ok (.iconst 5, 1) := by decide +kernel
theorem dL_law_991 : decode cL_law 991 = .ok (.iadd, 1) := by decide +kernel
theorem dL_law_992 : decode cL_law 992 = .ok (.iaload, 1) := by decide +kernel
theorem dL_law_993 : decode cL_law 993 = .ok (.invokevirtual 102, 3) := by decide +kernel
theorem dL_law_996 : decode cL_law 996 = .ok (.aload_n 2, 1) := by decide +kernel
theorem dL_law_997 : decode cL_law 997 = .ok (.aload_n 0, 1) := by decide +kernel
theorem dL_law_998 : decode cL_law 998 = .ok (.iload_n 3, 1) := by decide +kernel
theorem dL_law_999 : decode cL_law 999 = .ok (.iconst 1, 1) := by decide +kernel
theorem dL_law_1000 : decode cL_law 1000 = .ok (.iadd, 1) := by decide +kernel
theorem dL_law_1001 : decode cL_law 1001 = .ok (.iaload, 1) := by decide +kernel
theorem dL_law_1002 : decode cL_law 1002 = .ok (.aload_n 0, 1) := by decide +kernel
theorem dL_law_1003 : decode cL_law 1003 = .ok (.iload_n 3, 1) := by decide +kernel
theorem dL_law_1004 : decode cL_law 1004 = .ok (.iconst 2, 1) := by decide +kernel
theorem dL_law_1005 : decode cL_law 1005 = .ok (.iadd, 1) := by decide +kernel
theorem dL_law_1006 : decode cL_law 1006 = .ok (.iaload, 1) := by decide +kernel
theorem dL_law_1007 : decode cL_law 1007 = .ok (.aload_n 0, 1) := by decide +kernel
theorem dL_law_1008 : decode cL_law 1008 = .ok (.iload_n 3, 1) := by decide +kernel
theorem dL_law_1009 : decode cL_law 1009 = .ok (.iconst 3, 1) := by decide +kernel
theorem dL_law_1010 : decode cL_law 1010 = .ok (.iadd, 1) := by decide +kernel
theorem dL_law_1011 : decode cL_law 1011 = .ok (.iaload, 1) := by decide +kernel
theorem dL_law_1012 : decode cL_law 1012 = .ok (.aload_n 0, 1) := by decide +kernel
theorem dL_law_1013 : decode cL_law 1013 = .ok (.iload_n 3, 1) := by decide +kernel
theorem dL_law_1014 : decode cL_law 1014 = .ok (.iconst 4, 1) := by decide +kernel
theorem dL_law_1015 : decode cL_law 1015 = .ok (.iadd, 1) := by decide +kernel
theorem dL_law_1016 : decode cL_law 1016 = .ok (.iaload, 1) := by decide +kernel
theorem dL_law_1017 : decode cL_law 1017 = .ok (.ifCond .eq 7, 3) := by decide +kernel
theorem dL_law_1024 : decode cL_law 1024 = .ok (.iconst 0, 1) := by decide +kernel
theorem dL_law_1025 : decode cL_law 1025 = .ok (.aload_n 0, 1) := by decide +kernel
theorem dL_law_1026 : decode cL_law 1026 = .ok (.iload_n 3, 1) := by decide +kernel
theorem dL_law_1027 : decode cL_law 1027 = .ok (.iconst 5, 1) := by decide +kernel
theorem dL_law_1028 : decode cL_law 1028 = .ok (.iadd, 1) := by decide +kernel
theorem dL_law_1029 : decode cL_law 1029 = .ok (.iaload, 1) := by decide +kernel
theorem dL_law_1030 : decode cL_law 1030 = .ok (.invokevirtual 106, 3) := by decide +kernel
theorem dL_law_1033 : decode cL_law 1033 = .ok (.if_icmp .eq 1253, 3) := by decide +kernel
theorem dL_law_983 : decode cL_law 983 = .ok (.iconst 1, 1) := by decide +kernel
theorem dL_law_984 : decode cL_law 984 = .ok (.goto 4, 3) := by decide +kernel
theorem dL_law_1020 : decode cL_law 1020 = .ok (.iconst 1, 1) := by decide +kernel
theorem dL_law_1021 : decode cL_law 1021 = .ok (.goto 4, 3) := by decide +kernel
theorem dL_law_1038 : decode cL_law 1038 = .ok (.aload_n 1, 1) := by decide +kernel
theorem dL_law_1039 : decode cL_law 1039 = .ok (.aload_n 0, 1) := by decide +kernel
theorem dL_law_1040 : decode cL_law 1040 = .ok (.iload_n 3, 1) := by decide +kernel
theorem dL_law_1041 : decode cL_law 1041 = .ok (.iconst 1, 1) := by decide +kernel
theorem dL_law_1042 : decode cL_law 1042 = .ok (.iadd, 1) := by decide +kernel
theorem dL_law_1043 : decode cL_law 1043 = .ok (.iaload, 1) := by decide +kernel
theorem dL_law_1044 : decode cL_law 1044 = .ok (.aload_n 0, 1) := by decide +kernel
theorem dL_law_1045 : decode cL_law 1045 = .ok (.iload_n 3, 1) := by decide +kernel
theorem dL_law_1046 : decode cL_law 1046 = .ok (.iconst 2, 1) := by decide +kernel
theorem dL_law_1047 : decode cL_law 1047 = .ok (.iadd, 1) := by decide +kernel
theorem dL_law_1048 : decode cL_law 1048 = .ok (.iaload, 1) := by decide +kernel
theorem dL_law_1049 : decode cL_law 1049 = .ok (.invokevirtual 107, 3) := by decide +kernel
theorem dL_law_1052 : decode cL_law 1052 = .ok (.aload_n 2, 1) := by decide +kernel
theorem dL_law_1053 : decode cL_law 1053 = .ok (.aload_n 0, 1) := by decide +kernel
theorem dL_law_1054 : decode cL_law 1054 = .ok (.iload_n 3, 1) := by decide +kernel
theorem dL_law_1055 : decode cL_law 1055 = .ok (.iconst 1, 1) := by decide +kernel
theorem dL_law_1056 : decode cL_law 1056 = .ok (.iadd, 1) := by decide +kernel
theorem dL_law_1057 : decode cL_law 1057 = .ok (.iaload, 1) := by decide +kernel
theorem dL_law_1058 : decode cL_law 1058 = .ok (.aload_n 0, 1) := by decide +kernel
theorem dL_law_1059 : decode cL_law 1059 = .ok (.iload_n 3, 1) := by decide +kernel
theorem dL_law_1060 : decode cL_law 1060 = .ok (.iconst 2, 1) := by decide +kernel
theorem dL_law_1061 : decode cL_law 1061 = .ok (.iadd, 1) := by decide +kernel
theorem dL_law_1062 : decode cL_law 1062 = .ok (.iaload, 1) := by decide +kernel
theorem dL_law_1063 : decode cL_law 1063 = .ok (.invokevirtual 110, 3) := by decide +kernel
theorem dL_law_1066 : decode cL_law 1066 = .ok (.if_icmp .eq 1220, 3) := by decide +kernel
theorem dL_law_1071 : decode cL_law 1071 = .ok (.aload_n 1, 1) := by decide +kernel
theorem dL_law_1072 : decode cL_law 1072 = .ok (.aload_n 0, 1) := by decide +kernel
theorem dL_law_1073 : decode cL_law 1073 = .ok (.iload_n 3, 1) := by decide +kernel
theorem dL_law_1074 : decode cL_law 1074 = .ok (.iconst 1, 1) := by decide +kernel
theorem dL_law_1075 : decode cL_law 1075 = .ok (.iadd, 1) := by decide +kernel
theorem dL_law_1076 : decode cL_law 1076 = .ok (.iaload, 1) := by decide +kernel
theorem dL_law_1077 : decode cL_law 1077 = .ok (.aload_n 0, 1) := by decide +kernel
theorem dL_law_1078 : decode cL_law 1078 = .ok (.iload_n 3, 1) := by decide +kernel
theorem dL_law_1079 : decode cL_law 1079 = .ok (.iconst 2, 1) := by decide +kernel
theorem dL_law_1080 : decode cL_law 1080 = .ok (.iadd, 1) := by decide +kernel
theorem dL_law_1081 : decode cL_law 1081 = .ok (.iaload, 1) := by decide +kernel
theorem dL_law_1082 : decode cL_law 1082 = .ok (.invokevirtual 111, 3) := by decide +kernel
theorem dL_law_1085 : decode cL_law 1085 = .ok (.aload_n 2, 1) := by decide +kernel
theorem dL_law_1086 : decode cL_law 1086 = .ok (.aload_n 0, 1) := by decide +kernel
theorem dL_law_1087 : decode cL_law 1087 = .ok (.iload_n 3, 1) := by decide +kernel
theorem dL_law_1088 : decode cL_law 1088 = .ok (.iconst 1, 1) := by decide +kernel
theorem dL_law_1089 : decode cL_law 1089 = .ok (.iadd, 1) := by decide +kernel
theorem dL_law_1090 : decode cL_law 1090 = .ok (.iaload, 1) := by decide +kernel
theorem dL_law_1091 : decode cL_law 1091 = .ok (.aload_n 0, 1) := by decide +kernel
theorem dL_law_1092 : decode cL_law 1092 = .ok (.iload_n 3, 1) := by decide +kernel
theorem dL_law_1093 : decode cL_law 1093 = .ok (.iconst 2, 1) := by decide +kernel
theorem dL_law_1094 : decode cL_law 1094 = .ok (.iadd, 1) := by decide +kernel
theorem dL_law_1095 : decode cL_law 1095 = .ok (.iaload, 1) := by decide +kernel
theorem dL_law_1096 : decode cL_law 1096 = .ok (.invokevirtual 114, 3) := by decide +kernel
theorem dL_law_1099 : decode cL_law 1099 = .ok (.lcmp, 1) := by decide +kernel
theorem dL_law_1100 : decode cL_law 1100 = .ok (.ifCond .eq 1186, 3) := by decide +kernel
theorem dL_law_1105 : decode cL_law 1105 = .ok (.aload_n 1, 1) := by decide +kernel
theorem dL_law_1106 : decode cL_law 1106 = .ok (.aload_n 0, 1) := by decide +kernel
theorem dL_law_1107 : decode cL_law 1107 = .ok (.iload_n 3, 1) := by decide +kernel
theorem dL_law_1108 : decode cL_law 1108 = .ok (.iconst 1, 1) := by decide +kernel
theorem dL_law_1109 : decode cL_law 1109 = .ok (.iadd, 1) := by decide +kernel
theorem dL_law_1110 : decode cL_law 1110 = .ok (.iaload, 1) := by decide +kernel
theorem dL_law_1111 : decode cL_law 1111 = .ok (.aload_n 0, 1) := by decide +kernel
theorem dL_law_1112 : decode cL_law 1112 = .ok (.iload_n 3, 1) := by decide +kernel
theorem dL_law_1113 : decode cL_law 1113 = .ok (.iconst 2, 1) := by decide +kernel
theorem dL_law_1114 : decode cL_law 1114 = .ok (.iadd, 1) := by decide +kernel
theorem dL_law_1115 : decode cL_law 1115 = .ok (.iaload, 1) := by decide +kernel
theorem dL_law_1116 : decode cL_law 1116 = .ok (.aload_n 0, 1) := by decide +kernel
theorem dL_law_1117 : decode cL_law 1117 = .ok (.iload_n 3, 1) := by decide +kernel
theorem dL_law_1118 : decode cL_law 1118 = .ok (.iconst 3, 1) := by decide +kernel
theorem dL_law_1119 : decode cL_law 1119 = .ok (.iadd, 1) := by decide +kernel
theorem dL_law_1120 : decode cL_law 1120 = .ok (.iaload, 1) := by decide +kernel
theorem dL_law_1121 : decode cL_law 1121 = .ok (.aload_n 0, 1) := by decide +kernel
theorem dL_law_1122 : decode cL_law 1122 = .ok (.iload_n 3, 1) := by decide +kernel
theorem dL_law_1123 : decode cL_law 1123 = .ok (.iconst 4, 1) := by decide +kernel
theorem dL_law_1124 : decode cL_law 1124 = .ok (.iadd, 1) := by decide +kernel
theorem dL_law_1125 : decode cL_law 1125 = .ok (.iaload, 1) := by decide +kernel
theorem dL_law_1126 : decode cL_law 1126 = .ok (.invokevirtual 115, 3) := by decide +kernel
theorem dL_law_1129 : decode cL_law 1129 = .ok (.aload_n 2, 1) := by decide +kernel
theorem dL_law_1130 : decode cL_law 1130 = .ok (.aload_n 0, 1) := by decide +kernel
theorem dL_law_1131 : decode cL_law 1131 = .ok (.iload_n 3, 1) := by decide +kernel
theorem dL_law_1132 : decode cL_law 1132 = .ok (.iconst 1, 1) := by decide +kernel
theorem dL_law_1133 : decode cL_law 1133 = .ok (.iadd, 1) := by decide +kernel
theorem dL_law_1134 : decode cL_law 1134 = .ok (.iaload, 1) := by decide +kernel
theorem dL_law_1135 : decode cL_law 1135 = .ok (.aload_n 0, 1) := by decide +kernel
theorem dL_law_1136 : decode cL_law 1136 = .ok (.iload_n 3, 1) := by decide +kernel
theorem dL_law_1137 : decode cL_law 1137 = .ok (.iconst 2, 1) := by decide +kernel
theorem dL_law_1138 : decode cL_law 1138 = .ok (.iadd, 1) := by decide +kernel
theorem dL_law_1139 : decode cL_law 1139 = .ok (.iaload, 1) := by decide +kernel
theorem dL_law_1140 : decode cL_law 1140 = .ok (.aload_n 0, 1) := by decide +kernel
theorem dL_law_1141 : decode cL_law 1141 = .ok (.iload_n 3, 1) := by decide +kernel
theorem dL_law_1142 : decode cL_law 1142 = .ok (.iconst 3, 1) := by decide +kernel
theorem dL_law_1143 : decode cL_law 1143 = .ok (.iadd, 1) := by decide +kernel
theorem dL_law_1144 : decode cL_law 1144 = .ok (.iaload, 1) := by decide +kernel
theorem dL_law_1145 : decode cL_law 1145 = .ok (.aload_n 0, 1) := by decide +kernel
theorem dL_law_1146 : decode cL_law 1146 = .ok (.iload_n 3, 1) := by decide +kernel
theorem dL_law_1147 : decode cL_law 1147 = .ok (.iconst 4, 1) := by decide +kernel
theorem dL_law_1148 : decode cL_law 1148 = .ok (.iadd, 1) := by decide +kernel
theorem dL_law_1149 : decode cL_law 1149 = .ok (.iaload, 1) := by decide +kernel
theorem dL_law_1150 : decode cL_law 1150 = .ok (.invokevirtual 118, 3) := by decide +kernel
theorem dL_law_1153 : decode cL_law 1153 = .ok (.lcmp, 1) := by decide +kernel
theorem dL_law_1154 : decode cL_law 1154 = .ok (.ifCond .eq 1132, 3) := by decide +kernel
theorem dL_law_1159 : decode cL_law 1159 = .ok (.aload_n 1, 1) := by decide +kernel
theorem dL_law_1160 : decode cL_law 1160 = .ok (.aload_n 0, 1) := by decide +kernel
theorem dL_law_1161 : decode cL_law 1161 = .ok (.iload_n 3, 1) := by decide +kernel
theorem dL_law_1162 : decode cL_law 1162 = .ok (.iconst 1, 1) := by decide +kernel
theorem dL_law_1163 : decode cL_law 1163 = .ok (.iadd, 1) := by decide +kernel
theorem dL_law_1164 : decode cL_law 1164 = .ok (.iaload, 1) := by decide +kernel
theorem dL_law_1165 : decode cL_law 1165 = .ok (.aload_n 0, 1) := by decide +kernel
theorem dL_law_1166 : decode cL_law 1166 = .ok (.iload_n 3, 1) := by decide +kernel
theorem dL_law_1167 : decode cL_law 1167 = .ok (.iconst 2, 1) := by decide +kernel
theorem dL_law_1168 : decode cL_law 1168 = .ok (.iadd, 1) := by decide +kernel
theorem dL_law_1169 : decode cL_law 1169 = .ok (.iaload, 1) := by decide +kernel
theorem dL_law_1170 : decode cL_law 1170 = .ok (.aload_n 0, 1) := by decide +kernel
theorem dL_law_1171 : decode cL_law 1171 = .ok (.iload_n 3, 1) := by decide +kernel
theorem dL_law_1172 : decode cL_law 1172 = .ok (.iconst 3, 1) := by decide +kernel
theorem dL_law_1173 : decode cL_law 1173 = .ok (.iadd, 1) := by decide +kernel
theorem dL_law_1174 : decode cL_law 1174 = .ok (.iaload, 1) := by decide +kernel
theorem dL_law_1175 : decode cL_law 1175 = .ok (.invokevirtual 119, 3) := by decide +kernel
theorem dL_law_1178 : decode cL_law 1178 = .ok (.aload_n 2, 1) := by decide +kernel
theorem dL_law_1179 : decode cL_law 1179 = .ok (.aload_n 0, 1) := by decide +kernel
theorem dL_law_1180 : decode cL_law 1180 = .ok (.iload_n 3, 1) := by decide +kernel
theorem dL_law_1181 : decode cL_law 1181 = .ok (.iconst 1, 1) := by decide +kernel
theorem dL_law_1182 : decode cL_law 1182 = .ok (.iadd, 1) := by decide +kernel
theorem dL_law_1183 : decode cL_law 1183 = .ok (.iaload, 1) := by decide +kernel
theorem dL_law_1184 : decode cL_law 1184 = .ok (.aload_n 0, 1) := by decide +kernel
theorem dL_law_1185 : decode cL_law 1185 = .ok (.iload_n 3, 1) := by decide +kernel
theorem dL_law_1186 : decode cL_law 1186 = .ok (.iconst 2, 1) := by decide +kernel
theorem dL_law_1187 : decode cL_law 1187 = .ok (.iadd, 1) := by decide +kernel
theorem dL_law_1188 : decode cL_law 1188 = .ok (.iaload, 1) := by decide +kernel
theorem dL_law_1189 : decode cL_law 1189 = .ok (.aload_n 0, 1) := by decide +kernel
theorem dL_law_1190 : decode cL_law 1190 = .ok (.iload_n 3, 1) := by decide +kernel
theorem dL_law_1191 : decode cL_law 1191 = .ok (.iconst 3, 1) := by decide +kernel
theorem dL_law_1192 : decode cL_law 1192 = .ok (.iadd, 1) := by decide +kernel
theorem dL_law_1193 : decode cL_law 1193 = .ok (.iaload, 1) := by decide +kernel
theorem dL_law_1194 : decode cL_law 1194 = .ok (.invokevirtual 122, 3) := by decide +kernel
theorem dL_law_1197 : decode cL_law 1197 = .ok (.if_icmp .eq 1089, 3) := by decide +kernel
theorem sV_L_102 : SiteV RL 102 yX9_today cX9_today 6 (some .int) 5 := ⟨ml_L_102, im_X9_today, se_X9_today, ini_X9, co_X9_today, by decide +kernel⟩
theorem sV_L_106 : SiteV RL 106 yX10_today cX10_today 6 (some .int) 5 := ⟨ml_L_106, im_X10_today, se_X10_today, ini_X10, co_X10_today, by decide +kernel⟩
theorem sV_L_107 : SiteV RL 107 yX9_last cX9_last 3 (some .int) 2 := ⟨ml_L_107, im_X9_last, se_X9_last, ini_X9, co_X9_last, by decide +kernel⟩
theorem sV_L_110 : SiteV RL 110 yX10_last cX10_last 7 (some .int) 2 := ⟨ml_L_110, im_X10_last, se_X10_last, ini_X10, co_X10_last, by decide +kernel⟩
theorem sV_L_111 : SiteV RL 111 yX9_signs cX9_signs 8 (some .long) 2 := ⟨ml_L_111, im_X9_signs, se_X9_signs, ini_X9, co_X9_signs, by decide +kernel⟩
theorem sV_L_114 : SiteV RL 114 yX10_signs cX10_signs 8 (some .long) 2 := ⟨ml_L_114, im_X10_signs, se_X10_signs, ini_X10, co_X10_signs, by decide +kernel⟩
theorem sV_L_115 : SiteV RL 115 yX9_fork cX9_fork 5 (some .long) 4 := ⟨ml_L_115, im_X9_fork, se_X9_fork, ini_X9, co_X9_fork, by decide +kernel⟩
theorem sV_L_118 : SiteV RL 118 yX10_fork cX10_fork 5 (some .long) 4 := ⟨ml_L_118, im_X10_fork, se_X10_fork, ini_X10, co_X10_fork, by decide +kernel⟩
theorem sV_L_119 : SiteV RL 119 yX9_middle cX9_middle 4 (some .int) 3 := ⟨ml_L_119, im_X9_middle, se_X9_middle, ini_X9, co_X9_middle, by decide +kernel⟩
theorem sV_L_122 : SiteV RL 122 yX10_middle cX10_middle 4 (some .int) 3 := ⟨ml_L_122, im_X10_middle, se_X10_middle, ini_X10, co_X10_middle, by decide +kernel⟩
set_option maxHeartbeats 4000000 in
set_option maxRecDepth 100000 in
theorem lc_20 {p : Program} {e : Env} {s : State} {m : MethodId} {below : List Frame} {meth : Method} {c : Code} {l : Launch} {b L : Nat} {xs : Nat → Int32} {A : Nat → Prop} (D : va_G) (cy : Nat → ClassId) (xa ma : Nat → Nat) (fw : Nat → Int32) (hw : ∀ k : Nat, k < 4 → fw k = -1) (hL7 : L = 7) (C0 : lw_At p s m meth c b L xs) (hK : KK D cy s) (hA : ∀ q : Nat, s.heap.size ≤ q → A q) (hA2 : ∀ q : Nat, A q → s.heap.size ≤ q) (hbA : ¬ A b) {H : Heap} {locs : List Loc} (hP : va_P D vwCl [((xa 0), .inr (9, [.ref (xa 1), .ref (xa 2), .ref (xa 3), .ref (xa 4), .ref (xa 5), .ref (xa 6), .ref (xa 7), .ref (xa 8), .ref (xa 9), .int 0, .ref (xa 11), .null, .int 0, .int (-1)])), ((xa 1), .inl (cy 0, 1600, .inl (fun _ => 0))), ((xa 2), .inr (4, [.int 0, .int (-1), .ref (xa 30), .int 0, .int 0, .int 0, .int 0, .int 0, .ref (xa 31), .int 0, .int 0, .int 0])), ((xa 8), .inl (cy 4, 4, .inr (.inr (.inr (.inr (fun _ => none)))))), ((xa 9), .inl (cy 5, 3, .inr (.inr (.inr (.inr (fun _ => none)))))), ((xa 11), .inr (2, [.int 0, .int 0, .int 0, .int 0, .int 0, .int 0, .int 0, .int 0, .int 1, .int 10, .int 0, .int 0, .int 0, .int 0, .ref (xa 20), .ref (xa 21), .ref (xa 22), .ref (xa 23), .ref (xa 24), .ref (xa 25), .ref (xa 26)])), ((ma 0), .inr (10, [.int 0, .ref (ma 1), .ref (ma 2), .ref (ma 3), .ref (ma 4), .ref (ma 5), .int 0, .int 0, .int 0, .int 0, .int 0, .long 0, .int 0, .int 0, .int 0, .int (-1), .ref (ma 16), .ref (ma 17), .ref (ma 18), .ref (ma 19), .ref (ma 20), .ref (ma 21), .ref (ma 22), .ref (ma 23), .ref (ma 24), .ref (ma 25), .ref (ma 26), .ref (ma 27), .ref (ma 28), .ref (ma 29), .ref (ma 30), .ref (ma 31), .ref (ma 32), .ref (ma 33), .ref (ma 34), .ref (ma 35), .ref (ma 36), .ref (ma 37), .ref (ma 38), .ref (ma 39), .ref (ma 40), .ref (ma 41), .long 0])), ((ma 1), .inl (cy 1, 4, .inl fw)), ((ma 2), .inl (cy 1, 4, .inl (fun _ => 0))), ((ma 3), .inl (cy 2, 240, .inr (.inl (fun _ => 0)))), ((ma 5), .inl (cy 0, 1600, .inl (fun _ => 0))), ((ma 16), .inl (cy 1, 5, .inl (fun _ => 0))), ((ma 17), .inl (cy 1, 20, .inl (fun _ => 0))), ((ma 18), .inl (cy 1, 5, .inl (fun _ => 0))), ((ma 19), .inl (cy 1, 45, .inl (fun _ => 0))), ((ma 20), .inl (cy 1, 5, .inl (fun _ => 0))), ((ma 21), .inl (cy 1, 150, .inl (fun _ => 0))), ((ma 22), .inl (cy 1, 5, .inl (fun _ => 0))), ((ma 23), .inl (cy 1, 120, .inl (fun _ => 0))), ((ma 24), .inl (cy 1, 30, .inl (fun _ => 0))), ((ma 25), .inl (cy 3, 15, .inl (fun _ => 0))), ((ma 26), .inl (cy 1, 5, .inl (fun _ => 0))), ((ma 27), .inl (cy 1, 30, .inl (fun _ => 0))), ((ma 28), .inl (cy 3, 3, .inl (fun _ => 0)))] H) (hD : va_D A [((xa 0), .inr (9, [.ref (xa 1), .ref (xa 2), .ref (xa 3), .ref (xa 4), .ref (xa 5), .ref (xa 6), .ref (xa 7), .ref (xa 8), .ref (xa 9), .int 0, .ref (xa 11), .null, .int 0, .int (-1)])), ((xa 1), .inl (cy 0, 1600, .inl (fun _ => 0))), ((xa 2), .inr (4, [.int 0, .int (-1), .ref (xa 30), .int 0, .int 0, .int 0, .int 0, .int 0, .ref (xa 31), .int 0, .int 0, .int 0])), ((xa 8), .inl (cy 4, 4, .inr (.inr (.inr (.inr (fun _ => none)))))), ((xa 9), .inl (cy 5, 3, .inr (.inr (.inr (.inr (fun _ => none)))))), ((xa 11), .inr (2, [.int 0, .int 0, .int 0, .int 0, .int 0, .int 0, .int 0, .int 0, .int 1, .int 10, .int 0, .int 0, .int 0, .int 0, .ref (xa 20), .ref (xa 21), .ref (xa 22), .ref (xa 23), .ref (xa 24), .ref (xa 25), .ref (xa 26)])), ((ma 0), .inr (10, [.int 0, .ref (ma 1), .ref (ma 2), .ref (ma 3), .ref (ma 4), .ref (ma 5), .int 0, .int 0, .int 0, .int 0, .int 0, .long 0, .int 0, .int 0, .int 0, .int (-1), .ref (ma 16), .ref (ma 17), .ref (ma 18), .ref (ma 19), .ref (ma 20), .ref (ma 21), .ref (ma 22), .ref (ma 23), .ref (ma 24), .ref (ma 25), .ref (ma 26), .ref (ma 27), .ref (ma 28), .ref (ma 29), .ref (ma 30), .ref (ma 31), .ref (ma 32), .ref (ma 33), .ref (ma 34), .ref (ma 35), .ref (ma 36), .ref (ma 37), .ref (ma 38), .ref (ma 39), .ref (ma 40), .ref (ma 41), .long 0])), ((ma 1), .inl (cy 1, 4, .inl fw)), ((ma 2), .inl (cy 1, 4, .inl (fun _ => 0))), ((ma 3), .inl (cy 2, 240, .inr (.inl (fun _ => 0)))), ((ma 5), .inl (cy 0, 1600, .inl (fun _ => 0))), ((ma 16), .inl (cy 1, 5, .inl (fun _ => 0))), ((ma 17), .inl (cy 1, 20, .inl (fun _ => 0))), ((ma 18), .inl (cy 1, 5, .inl (fun _ => 0))), ((ma 19), .inl (cy 1, 45, .inl (fun _ => 0))), ((ma 20), .inl (cy 1, 5, .inl (fun _ => 0))), ((ma 21), .inl (cy 1, 150, .inl (fun _ => 0))), ((ma 22), .inl (cy 1, 5, .inl (fun _ => 0))), ((ma 23), .inl (cy 1, 120, .inl (fun _ => 0))), ((ma 24), .inl (cy 1, 30, .inl (fun _ => 0))), ((ma 25), .inl (cy 3, 15, .inl (fun _ => 0))), ((ma 26), .inl (cy 1, 5, .inl (fun _ => 0))), ((ma 27), .inl (cy 1, 30, .inl (fun _ => 0))), ((ma 28), .inl (cy 3, 3, .inl (fun _ => 0)))]) (hS : va_S A s.heap H locs) {ls : Array Slot} (hl : lv_has ls 4 [(3, .int 0), (2, .ref (ma 0)), (1, .ref (xa 0)), (0, .ref b)]) : W p l e room_1 s m #[Value.ref b] below meth c H locs 82 108979 (lw_Z below #[Value.ref b] s) (F0 m 959 ls []) := by
  obtain ⟨hx, hb, hr, hml, hown, hts, hX, hbl, hlocks, hgv⟩ := id C0
  have hown : s.vm.findClass RL = some m.cls := hown
  have hb : c.code = cL_law := hb
  have hts : ∀ w ∈ GW, w.before #[Value.ref b] s = true := fun w h => hts w (gw_tbl w h)
  refine lv_aload_n hx hb dL_law_959 rfl (lv_at hl 2 rfl) ?_
  refine lv_aload_n hx hb dL_law_960 rfl (lv_at hl 3 rfl) ?_
  refine lv_iload_n hx hb dL_law_961 rfl (lv_at hl 0 rfl) ?_
  refine lv_iconst (v := 1) hx hb dL_law_962 (by decide) ?_
  refine lv_iadd hx hb dL_law_963 ?_
  refine lv_topi (fun z_1 ez_1 => ?_)
  have ez_1 : z_1 = 1 := ez_1.trans (by decide)
  subst ez_1
  refine va_sld (i := 1) hx hb hX hbl hbA hS (by subst hL7; exact vp_in_iff.mpr (by decide)) dL_law_964 ?_
  refine W.eq (g2 := F0 m 965 ls [.int (xs 1), .ref (xa 0)]) rfl ?_
  refine lv_aload_n hx hb dL_law_965 rfl (lv_at hl 3 rfl) ?_
  refine lv_iload_n hx hb dL_law_966 rfl (lv_at hl 0 rfl) ?_
  refine lv_iconst (v := 2) hx hb dL_law_967 (by decide) ?_
  refine lv_iadd hx hb dL_law_968 ?_
  refine lv_topi (fun z_2 ez_2 => ?_)
  have ez_2 : z_2 = 2 := ez_2.trans (by decide)
  subst ez_2
  refine va_sld (i := 2) hx hb hX hbl hbA hS (by subst hL7; exact vp_in_iff.mpr (by decide)) dL_law_969 ?_
  refine W.eq (g2 := F0 m 970 ls [.int (xs 2), .int (xs 1), .ref (xa 0)]) rfl ?_
  refine lv_aload_n hx hb dL_law_970 rfl (lv_at hl 3 rfl) ?_
  refine lv_iload_n hx hb dL_law_971 rfl (lv_at hl 0 rfl) ?_
  refine lv_iconst (v := 3) hx hb dL_law_972 (by decide) ?_
  refine lv_iadd hx hb dL_law_973 ?_
  refine lv_topi (fun z_3 ez_3 => ?_)
  have ez_3 : z_3 = 3 := ez_3.trans (by decide)
  subst ez_3
  refine va_sld (i := 3) hx hb hX hbl hbA hS (by subst hL7; exact vp_in_iff.mpr (by decide)) dL_law_974 ?_
  refine W.eq (g2 := F0 m 975 ls [.int (xs 3), .int (xs 2), .int (xs 1), .ref (xa 0)]) rfl ?_
  refine lv_aload_n hx hb dL_law_975 rfl (lv_at hl 3 rfl) ?_
  refine lv_iload_n hx hb dL_law_976 rfl (lv_at hl 0 rfl) ?_
  refine lv_iconst (v := 4) hx hb dL_law_977 (by decide) ?_
  refine lv_iadd hx hb dL_law_978 ?_
  refine lv_topi (fun z_4 ez_4 => ?_)
  have ez_4 : z_4 = 4 := ez_4.trans (by decide)
  subst ez_4
  refine va_sld (i := 4) hx hb hX hbl hbA hS (by subst hL7; exact vp_in_iff.mpr (by decide)) dL_law_979 ?_
  refine W.eq (g2 := F0 m 980 ls [.int (xs 4), .int (xs 3), .int (xs 2), .int (xs 1), .ref (xa 0)]) rfl ?_
  refine lv_if_eq (tgt := 987) hx hb dL_law_980 (by decide) (fun c_5 => ?_) (fun c_5 => ?_)
  · skip
    have tc_5 : (xs 4).toInt = 0 := (fa_eq _ _).mp c_5
    refine lv_iconst (v := 0) hx hb dL_law_987 (by decide) ?_
    refine lv_aload_n hx hb dL_law_988 rfl (lv_at hl 3 rfl) ?_
    refine lv_iload_n hx hb dL_law_989 rfl (lv_at hl 0 rfl) ?_
    refine lv_iconst (v := 5) hx hb dL_law_990 (by decide) ?_
    refine lv_iadd hx hb dL_law_991 ?_
    refine lv_topi (fun z_6 ez_6 => ?_)
    have ez_6 : z_6 = 5 := ez_6.trans (by decide)
    subst ez_6
    refine va_sld (i := 5) hx hb hX hbl hbA hS (by subst hL7; exact vp_in_iff.mpr (by decide)) dL_law_992 ?_
    refine W.eq (g2 := F0 m 993 ls [.int (xs 5), .int 0, .int (xs 3), .int (xs 2), .int (xs 1), .ref (xa 0)]) rfl ?_
    refine pu_calli (runV (As := [.int (xs 1), .int (xs 2), .int (xs 3), .int 0, .int (xs 5)]) (rest := []) ⟨hx, hb, hml, hown, hts⟩ (f_X9_today l D cy xa (xs 1) (xs 2) (xs 3) 0 (xs 5) ) sV_L_102 hK (va_recv hK.1 hP (ci := 9) (q0 := 0) rfl rfl) (hP.sub (ws' := [((xa 0), .inr (9, [.ref (xa 1), .ref (xa 2), .ref (xa 3), .ref (xa 4), .ref (xa 5), .ref (xa 6), .ref (xa 7), .ref (xa 8), .ref (xa 9), .int 0, .ref (xa 11), .null, .int 0, .int (-1)])), ((xa 11), .inr (2, [.int 0, .int 0, .int 0, .int 0, .int 0, .int 0, .int 0, .int 0, .int 1, .int 10, .int 0, .int 0, .int 0, .int 0, .ref (xa 20), .ref (xa 21), .ref (xa 22), .ref (xa 23), .ref (xa 24), .ref (xa 25), .ref (xa 26)]))]) [0, 5] rfl) ⟨Nat.le_of_ble_eq_true rfl, Nat.le_of_ble_eq_true rfl⟩ rfl hl.1 rfl (Nat.le_of_ble_eq_true rfl) dL_law_993 ⟨Nat.le_of_ble_eq_true rfl, Nat.le_of_ble_eq_true rfl⟩) (fun r_7 hr_7 => ?_)
    have er_7 := hr_7
    subst er_7
    refine W.eq (g2 := F0 m 996 ls [.int (-2)]) rfl ?_
    refine lv_aload_n hx hb dL_law_996 rfl (lv_at hl 1 rfl) ?_
    refine lv_aload_n hx hb dL_law_997 rfl (lv_at hl 3 rfl) ?_
    refine lv_iload_n hx hb dL_law_998 rfl (lv_at hl 0 rfl) ?_
    refine lv_iconst (v := 1) hx hb dL_law_999 (by decide) ?_
    refine lv_iadd hx hb dL_law_1000 ?_
    refine lv_topi (fun z_8 ez_8 => ?_)
    have ez_8 : z_8 = 1 := ez_8.trans (by decide)
    subst ez_8
    refine va_sld (i := 1) hx hb hX hbl hbA hS (by subst hL7; exact vp_in_iff.mpr (by decide)) dL_law_1001 ?_
    refine W.eq (g2 := F0 m 1002 ls [.int (xs 1), .ref (ma 0), .int (-2)]) rfl ?_
    refine lv_aload_n hx hb dL_law_1002 rfl (lv_at hl 3 rfl) ?_
    refine lv_iload_n hx hb dL_law_1003 rfl (lv_at hl 0 rfl) ?_
    refine lv_iconst (v := 2) hx hb dL_law_1004 (by decide) ?_
    refine lv_iadd hx hb dL_law_1005 ?_
    refine lv_topi (fun z_9 ez_9 => ?_)
    have ez_9 : z_9 = 2 := ez_9.trans (by decide)
    subst ez_9
    refine va_sld (i := 2) hx hb hX hbl hbA hS (by subst hL7; exact vp_in_iff.mpr (by decide)) dL_law_1006 ?_
    refine W.eq (g2 := F0 m 1007 ls [.int (xs 2), .int (xs 1), .ref (ma 0), .int (-2)]) rfl ?_
    refine lv_aload_n hx hb dL_law_1007 rfl (lv_at hl 3 rfl) ?_
    refine lv_iload_n hx hb dL_law_1008 rfl (lv_at hl 0 rfl) ?_
    refine lv_iconst (v := 3) hx hb dL_law_1009 (by decide) ?_
    refine lv_iadd hx hb dL_law_1010 ?_
    refine lv_topi (fun z_10 ez_10 => ?_)
    have ez_10 : z_10 = 3 := ez_10.trans (by decide)
    subst ez_10
    refine va_sld (i := 3) hx hb hX hbl hbA hS (by subst hL7; exact vp_in_iff.mpr (by decide)) dL_law_1011 ?_
    refine W.eq (g2 := F0 m 1012 ls [.int (xs 3), .int (xs 2), .int (xs 1), .ref (ma 0), .int (-2)]) rfl ?_
    refine lv_aload_n hx hb dL_law_1012 rfl (lv_at hl 3 rfl) ?_
    refine lv_iload_n hx hb dL_law_1013 rfl (lv_at hl 0 rfl) ?_
    refine lv_iconst (v := 4) hx hb dL_law_1014 (by decide) ?_
    refine lv_iadd hx hb dL_law_1015 ?_
    refine lv_topi (fun z_11 ez_11 => ?_)
    have ez_11 : z_11 = 4 := ez_11.trans (by decide)
    subst ez_11
    refine va_sld (i := 4) hx hb hX hbl hbA hS (by subst hL7; exact vp_in_iff.mpr (by decide)) dL_law_1016 ?_
    refine W.eq (g2 := F0 m 1017 ls [.int (xs 4), .int (xs 3), .int (xs 2), .int (xs 1), .ref (ma 0), .int (-2)]) rfl ?_
    refine lv_if_eq (tgt := 1024) hx hb dL_law_1017 (by decide) (fun c_12 => ?_) (fun c_12 => ?_)
    · skip
      have tc_12 : (xs 4).toInt = 0 := (fa_eq _ _).mp c_12
      refine lv_iconst (v := 0) hx hb dL_law_1024 (by decide) ?_
      refine lv_aload_n hx hb dL_law_1025 rfl (lv_at hl 3 rfl) ?_
      refine lv_iload_n hx hb dL_law_1026 rfl (lv_at hl 0 rfl) ?_
      refine lv_iconst (v := 5) hx hb dL_law_1027 (by decide) ?_
      refine lv_iadd hx hb dL_law_1028 ?_
      refine lv_topi (fun z_13 ez_13 => ?_)
      have ez_13 : z_13 = 5 := ez_13.trans (by decide)
      subst ez_13
      refine va_sld (i := 5) hx hb hX hbl hbA hS (by subst hL7; exact vp_in_iff.mpr (by decide)) dL_law_1029 ?_
      refine W.eq (g2 := F0 m 1030 ls [.int (xs 5), .int 0, .int (xs 3), .int (xs 2), .int (xs 1), .ref (ma 0), .int (-2)]) rfl ?_
      refine fw_call (wc := [((ma 0), .inr (10, [.int 0, .ref (ma 1), .ref (ma 2), .ref (ma 3), .ref (ma 4), .ref (ma 5), .int 0, .int 0, .int 0, .int 0, .int 0, .long 0, .int 0, .int 0, .int 0, .int (-1), .ref (ma 16), .ref (ma 17), .ref (ma 18), .ref (ma 19), .ref (ma 20), .ref (ma 21), .ref (ma 22), .ref (ma 23), .ref (ma 24), .ref (ma 25), .ref (ma 26), .ref (ma 27), .ref (ma 28), .ref (ma 29), .ref (ma 30), .ref (ma 31), .ref (ma 32), .ref (ma 33), .ref (ma 34), .ref (ma 35), .ref (ma 36), .ref (ma 37), .ref (ma 38), .ref (ma 39), .ref (ma 40), .ref (ma 41), .long 0])), ((ma 20), .inl (cy 1, 5, .inl (fun _ => 0))), ((ma 18), .inl (cy 1, 5, .inl (fun _ => 0))), ((ma 17), .inl (cy 1, 20, .inl (fun _ => 0)))]) (wr := [((xa 0), .inr (9, [.ref (xa 1), .ref (xa 2), .ref (xa 3), .ref (xa 4), .ref (xa 5), .ref (xa 6), .ref (xa 7), .ref (xa 8), .ref (xa 9), .int 0, .ref (xa 11), .null, .int 0, .int (-1)])), ((xa 1), .inl (cy 0, 1600, .inl (fun _ => 0))), ((xa 2), .inr (4, [.int 0, .int (-1), .ref (xa 30), .int 0, .int 0, .int 0, .int 0, .int 0, .ref (xa 31), .int 0, .int 0, .int 0])), ((xa 8), .inl (cy 4, 4, .inr (.inr (.inr (.inr (fun _ => none)))))), ((xa 9), .inl (cy 5, 3, .inr (.inr (.inr (.inr (fun _ => none)))))), ((xa 11), .inr (2, [.int 0, .int 0, .int 0, .int 0, .int 0, .int 0, .int 0, .int 0, .int 1, .int 10, .int 0, .int 0, .int 0, .int 0, .ref (xa 20), .ref (xa 21), .ref (xa 22), .ref (xa 23), .ref (xa 24), .ref (xa 25), .ref (xa 26)])), ((ma 1), .inl (cy 1, 4, .inl fw)), ((ma 2), .inl (cy 1, 4, .inl (fun _ => 0))), ((ma 3), .inl (cy 2, 240, .inr (.inl (fun _ => 0)))), ((ma 5), .inl (cy 0, 1600, .inl (fun _ => 0))), ((ma 16), .inl (cy 1, 5, .inl (fun _ => 0))), ((ma 19), .inl (cy 1, 45, .inl (fun _ => 0))), ((ma 21), .inl (cy 1, 150, .inl (fun _ => 0))), ((ma 22), .inl (cy 1, 5, .inl (fun _ => 0))), ((ma 23), .inl (cy 1, 120, .inl (fun _ => 0))), ((ma 24), .inl (cy 1, 30, .inl (fun _ => 0))), ((ma 25), .inl (cy 3, 15, .inl (fun _ => 0))), ((ma 26), .inl (cy 1, 5, .inl (fun _ => 0))), ((ma 27), .inl (cy 1, 30, .inl (fun _ => 0))), ((ma 28), .inl (cy 3, 3, .inl (fun _ => 0)))]) (runV (As := [.int (xs 1), .int (xs 2), .int (xs 3), .int 0, .int (xs 5)]) (rest := [.int (-2)]) ⟨hx, hb, hml, hown, hts⟩ (g_X10_today l D cy ma (xs 1) (xs 2) (xs 3) 0 (xs 5)  H.size) sV_L_106 hK (va_recv hK.1 hP (ci := 10) (q0 := 6) rfl rfl) (PW.of hP hD [6, 15, 13, 12] (by decide) rfl rfl) ⟨Nat.le_of_ble_eq_true rfl, Nat.le_of_ble_eq_true rfl⟩ rfl hl.1 rfl (Nat.le_of_ble_eq_true rfl) dL_law_1030 ⟨Nat.le_of_ble_eq_true rfl, Nat.le_of_ble_eq_true rfl⟩) hP hD hS hA [6, 15, 13, 12] [0, 1, 2, 3, 4, 5, 7, 8, 9, 10, 11, 14, 16, 17, 18, 19, 20, 21, 22, 23] rfl rfl (by decide) (by decide) (fun v u_14 H locs hv hP hD hS => ?_)
      have hP : va_P D vwCl [((xa 0), .inr (9, [.ref (xa 1), .ref (xa 2), .ref (xa 3), .ref (xa 4), .ref (xa 5), .ref (xa 6), .ref (xa 7), .ref (xa 8), .ref (xa 9), .int 0, .ref (xa 11), .null, .int 0, .int (-1)])), ((xa 1), .inl (cy 0, 1600, .inl (fun _ => 0))), ((xa 2), .inr (4, [.int 0, .int (-1), .ref (xa 30), .int 0, .int 0, .int 0, .int 0, .int 0, .ref (xa 31), .int 0, .int 0, .int 0])), ((xa 8), .inl (cy 4, 4, .inr (.inr (.inr (.inr (fun _ => none)))))), ((xa 9), .inl (cy 5, 3, .inr (.inr (.inr (.inr (fun _ => none)))))), ((xa 11), .inr (2, [.int 0, .int 0, .int 0, .int 0, .int 0, .int 0, .int 0, .int 0, .int 1, .int 10, .int 0, .int 0, .int 0, .int 0, .ref (xa 20), .ref (xa 21), .ref (xa 22), .ref (xa 23), .ref (xa 24), .ref (xa 25), .ref (xa 26)])), ((ma 1), .inl (cy 1, 4, .inl fw)), ((ma 2), .inl (cy 1, 4, .inl (fun _ => 0))), ((ma 3), .inl (cy 2, 240, .inr (.inl (fun _ => 0)))), ((ma 5), .inl (cy 0, 1600, .inl (fun _ => 0))), ((ma 16), .inl (cy 1, 5, .inl (fun _ => 0))), ((ma 19), .inl (cy 1, 45, .inl (fun _ => 0))), ((ma 21), .inl (cy 1, 150, .inl (fun _ => 0))), ((ma 22), .inl (cy 1, 5, .inl (fun _ => 0))), ((ma 23), .inl (cy 1, 120, .inl (fun _ => 0))), ((ma 24), .inl (cy 1, 30, .inl (fun _ => 0))), ((ma 25), .inl (cy 3, 15, .inl (fun _ => 0))), ((ma 26), .inl (cy 1, 5, .inl (fun _ => 0))), ((ma 27), .inl (cy 1, 30, .inl (fun _ => 0))), ((ma 28), .inl (cy 3, 3, .inl (fun _ => 0)))] H := hP
      have hD : va_D A [((xa 0), .inr (9, [.ref (xa 1), .ref (xa 2), .ref (xa 3), .ref (xa 4), .ref (xa 5), .ref (xa 6), .ref (xa 7), .ref (xa 8), .ref (xa 9), .int 0, .ref (xa 11), .null, .int 0, .int (-1)])), ((xa 1), .inl (cy 0, 1600, .inl (fun _ => 0))), ((xa 2), .inr (4, [.int 0, .int (-1), .ref (xa 30), .int 0, .int 0, .int 0, .int 0, .int 0, .ref (xa 31), .int 0, .int 0, .int 0])), ((xa 8), .inl (cy 4, 4, .inr (.inr (.inr (.inr (fun _ => none)))))), ((xa 9), .inl (cy 5, 3, .inr (.inr (.inr (.inr (fun _ => none)))))), ((xa 11), .inr (2, [.int 0, .int 0, .int 0, .int 0, .int 0, .int 0, .int 0, .int 0, .int 1, .int 10, .int 0, .int 0, .int 0, .int 0, .ref (xa 20), .ref (xa 21), .ref (xa 22), .ref (xa 23), .ref (xa 24), .ref (xa 25), .ref (xa 26)])), ((ma 1), .inl (cy 1, 4, .inl fw)), ((ma 2), .inl (cy 1, 4, .inl (fun _ => 0))), ((ma 3), .inl (cy 2, 240, .inr (.inl (fun _ => 0)))), ((ma 5), .inl (cy 0, 1600, .inl (fun _ => 0))), ((ma 16), .inl (cy 1, 5, .inl (fun _ => 0))), ((ma 19), .inl (cy 1, 45, .inl (fun _ => 0))), ((ma 21), .inl (cy 1, 150, .inl (fun _ => 0))), ((ma 22), .inl (cy 1, 5, .inl (fun _ => 0))), ((ma 23), .inl (cy 1, 120, .inl (fun _ => 0))), ((ma 24), .inl (cy 1, 30, .inl (fun _ => 0))), ((ma 25), .inl (cy 3, 15, .inl (fun _ => 0))), ((ma 26), .inl (cy 1, 5, .inl (fun _ => 0))), ((ma 27), .inl (cy 1, 30, .inl (fun _ => 0))), ((ma 28), .inl (cy 3, 3, .inl (fun _ => 0)))] := hD
      obtain ⟨r_15, rfl, hr_15⟩ := hv
      have er_15 := hr_15
      subst er_15
      refine W.eq (g2 := F0 m 1033 ls [.int (-2), .int (-2)]) rfl ?_
      refine lv_icmp_eq (tgt := 2286) hx hb dL_law_1033 (by decide) (fun _ => ?_) (fun c_16 => absurd (by decide) c_16)
      exact law_end C0 hL7 hA2 hbA hS (lv_sub hl [0, 1, 2, 3] rfl) (Nat.le_of_ble_eq_true rfl) (Nat.le_of_ble_eq_true rfl)
    · skip
      have tc_12 : ¬ (xs 4).toInt = 0 := fun h => c_12 ((fa_eq _ _).mpr h)
      exfalso; omega
  · skip
    have tc_5 : ¬ (xs 4).toInt = 0 := fun h => c_5 ((fa_eq _ _).mpr h)
    refine lv_iconst (v := 1) hx hb dL_law_983 (by decide) ?_
    refine lv_goto (tgt := 988) hx hb dL_law_984 (by decide) ?_
    refine lv_aload_n hx hb dL_law_988 rfl (lv_at hl 3 rfl) ?_
    refine lv_iload_n hx hb dL_law_989 rfl (lv_at hl 0 rfl) ?_
    refine lv_iconst (v := 5) hx hb dL_law_990 (by decide) ?_
    refine lv_iadd hx hb dL_law_991 ?_
    refine lv_topi (fun z_17 ez_17 => ?_)
    have ez_17 : z_17 = 5 := ez_17.trans (by decide)
    subst ez_17
    refine va_sld (i := 5) hx hb hX hbl hbA hS (by subst hL7; exact vp_in_iff.mpr (by decide)) dL_law_992 ?_
    refine W.eq (g2 := F0 m 993 ls [.int (xs 5), .int 1, .int (xs 3), .int (xs 2), .int (xs 1), .ref (xa 0)]) rfl ?_
    refine pu_calli (runV (As := [.int (xs 1), .int (xs 2), .int (xs 3), .int 1, .int (xs 5)]) (rest := []) ⟨hx, hb, hml, hown, hts⟩ (f_X9_today l D cy xa (xs 1) (xs 2) (xs 3) 1 (xs 5) ) sV_L_102 hK (va_recv hK.1 hP (ci := 9) (q0 := 0) rfl rfl) (hP.sub (ws' := [((xa 0), .inr (9, [.ref (xa 1), .ref (xa 2), .ref (xa 3), .ref (xa 4), .ref (xa 5), .ref (xa 6), .ref (xa 7), .ref (xa 8), .ref (xa 9), .int 0, .ref (xa 11), .null, .int 0, .int (-1)])), ((xa 11), .inr (2, [.int 0, .int 0, .int 0, .int 0, .int 0, .int 0, .int 0, .int 0, .int 1, .int 10, .int 0, .int 0, .int 0, .int 0, .ref (xa 20), .ref (xa 21), .ref (xa 22), .ref (xa 23), .ref (xa 24), .ref (xa 25), .ref (xa 26)]))]) [0, 5] rfl) ⟨Nat.le_of_ble_eq_true rfl, Nat.le_of_ble_eq_true rfl⟩ rfl hl.1 rfl (Nat.le_of_ble_eq_true rfl) dL_law_993 ⟨Nat.le_of_ble_eq_true rfl, Nat.le_of_ble_eq_true rfl⟩) (fun r_18 hr_18 => ?_)
    have er_18 := hr_18
    subst er_18
    refine W.eq (g2 := F0 m 996 ls [.int (-2)]) rfl ?_
    refine lv_aload_n hx hb dL_law_996 rfl (lv_at hl 1 rfl) ?_
    refine lv_aload_n hx hb dL_law_997 rfl (lv_at hl 3 rfl) ?_
    refine lv_iload_n hx hb dL_law_998 rfl (lv_at hl 0 rfl) ?_
    refine lv_iconst (v := 1) hx hb dL_law_999 (by decide) ?_
    refine lv_iadd hx hb dL_law_1000 ?_
    refine lv_topi (fun z_19 ez_19 => ?_)
    have ez_19 : z_19 = 1 := ez_19.trans (by decide)
    subst ez_19
    refine va_sld (i := 1) hx hb hX hbl hbA hS (by subst hL7; exact vp_in_iff.mpr (by decide)) dL_law_1001 ?_
    refine W.eq (g2 := F0 m 1002 ls [.int (xs 1), .ref (ma 0), .int (-2)]) rfl ?_
    refine lv_aload_n hx hb dL_law_1002 rfl (lv_at hl 3 rfl) ?_
    refine lv_iload_n hx hb dL_law_1003 rfl (lv_at hl 0 rfl) ?_
    refine lv_iconst (v := 2) hx hb dL_law_1004 (by decide) ?_
    refine lv_iadd hx hb dL_law_1005 ?_
    refine lv_topi (fun z_20 ez_20 => ?_)
    have ez_20 : z_20 = 2 := ez_20.trans (by decide)
    subst ez_20
    refine va_sld (i := 2) hx hb hX hbl hbA hS (by subst hL7; exact vp_in_iff.mpr (by decide)) dL_law_1006 ?_
    refine W.eq (g2 := F0 m 1007 ls [.int (xs 2), .int (xs 1), .ref (ma 0), .int (-2)]) rfl ?_
    refine lv_aload_n hx hb dL_law_1007 rfl (lv_at hl 3 rfl) ?_
    refine lv_iload_n hx hb dL_law_1008 rfl (lv_at hl 0 rfl) ?_
    refine lv_iconst (v := 3) hx hb dL_law_1009 (by decide) ?_
    refine lv_iadd hx hb dL_law_1010 ?_
    refine lv_topi (fun z_21 ez_21 => ?_)
    have ez_21 : z_21 = 3 := ez_21.trans (by decide)
    subst ez_21
    refine va_sld (i := 3) hx hb hX hbl hbA hS (by subst hL7; exact vp_in_iff.mpr (by decide)) dL_law_1011 ?_
    refine W.eq (g2 := F0 m 1012 ls [.int (xs 3), .int (xs 2), .int (xs 1), .ref (ma 0), .int (-2)]) rfl ?_
    refine lv_aload_n hx hb dL_law_1012 rfl (lv_at hl 3 rfl) ?_
    refine lv_iload_n hx hb dL_law_1013 rfl (lv_at hl 0 rfl) ?_
    refine lv_iconst (v := 4) hx hb dL_law_1014 (by decide) ?_
    refine lv_iadd hx hb dL_law_1015 ?_
    refine lv_topi (fun z_22 ez_22 => ?_)
    have ez_22 : z_22 = 4 := ez_22.trans (by decide)
    subst ez_22
    refine va_sld (i := 4) hx hb hX hbl hbA hS (by subst hL7; exact vp_in_iff.mpr (by decide)) dL_law_1016 ?_
    refine W.eq (g2 := F0 m 1017 ls [.int (xs 4), .int (xs 3), .int (xs 2), .int (xs 1), .ref (ma 0), .int (-2)]) rfl ?_
    refine lv_if_eq (tgt := 1024) hx hb dL_law_1017 (by decide) (fun c_23 => ?_) (fun c_23 => ?_)
    · skip
      have tc_23 : (xs 4).toInt = 0 := (fa_eq _ _).mp c_23
      refine lv_iconst (v := 0) hx hb dL_law_1024 (by decide) ?_
      refine lv_aload_n hx hb dL_law_1025 rfl (lv_at hl 3 rfl) ?_
      refine lv_iload_n hx hb dL_law_1026 rfl (lv_at hl 0 rfl) ?_
      refine lv_iconst (v := 5) hx hb dL_law_1027 (by decide) ?_
      refine lv_iadd hx hb dL_law_1028 ?_
      refine lv_topi (fun z_24 ez_24 => ?_)
      have ez_24 : z_24 = 5 := ez_24.trans (by decide)
      subst ez_24
      refine va_sld (i := 5) hx hb hX hbl hbA hS (by subst hL7; exact vp_in_iff.mpr (by decide)) dL_law_1029 ?_
      refine W.eq (g2 := F0 m 1030 ls [.int (xs 5), .int 0, .int (xs 3), .int (xs 2), .int (xs 1), .ref (ma 0), .int (-2)]) rfl ?_
      refine fw_call (wc := [((ma 0), .inr (10, [.int 0, .ref (ma 1), .ref (ma 2), .ref (ma 3), .ref (ma 4), .ref (ma 5), .int 0, .int 0, .int 0, .int 0, .int 0, .long 0, .int 0, .int 0, .int 0, .int (-1), .ref (ma 16), .ref (ma 17), .ref (ma 18), .ref (ma 19), .ref (ma 20), .ref (ma 21), .ref (ma 22), .ref (ma 23), .ref (ma 24), .ref (ma 25), .ref (ma 26), .ref (ma 27), .ref (ma 28), .ref (ma 29), .ref (ma 30), .ref (ma 31), .ref (ma 32), .ref (ma 33), .ref (ma 34), .ref (ma 35), .ref (ma 36), .ref (ma 37), .ref (ma 38), .ref (ma 39), .ref (ma 40), .ref (ma 41), .long 0])), ((ma 20), .inl (cy 1, 5, .inl (fun _ => 0))), ((ma 18), .inl (cy 1, 5, .inl (fun _ => 0))), ((ma 17), .inl (cy 1, 20, .inl (fun _ => 0)))]) (wr := [((xa 0), .inr (9, [.ref (xa 1), .ref (xa 2), .ref (xa 3), .ref (xa 4), .ref (xa 5), .ref (xa 6), .ref (xa 7), .ref (xa 8), .ref (xa 9), .int 0, .ref (xa 11), .null, .int 0, .int (-1)])), ((xa 1), .inl (cy 0, 1600, .inl (fun _ => 0))), ((xa 2), .inr (4, [.int 0, .int (-1), .ref (xa 30), .int 0, .int 0, .int 0, .int 0, .int 0, .ref (xa 31), .int 0, .int 0, .int 0])), ((xa 8), .inl (cy 4, 4, .inr (.inr (.inr (.inr (fun _ => none)))))), ((xa 9), .inl (cy 5, 3, .inr (.inr (.inr (.inr (fun _ => none)))))), ((xa 11), .inr (2, [.int 0, .int 0, .int 0, .int 0, .int 0, .int 0, .int 0, .int 0, .int 1, .int 10, .int 0, .int 0, .int 0, .int 0, .ref (xa 20), .ref (xa 21), .ref (xa 22), .ref (xa 23), .ref (xa 24), .ref (xa 25), .ref (xa 26)])), ((ma 1), .inl (cy 1, 4, .inl fw)), ((ma 2), .inl (cy 1, 4, .inl (fun _ => 0))), ((ma 3), .inl (cy 2, 240, .inr (.inl (fun _ => 0)))), ((ma 5), .inl (cy 0, 1600, .inl (fun _ => 0))), ((ma 16), .inl (cy 1, 5, .inl (fun _ => 0))), ((ma 19), .inl (cy 1, 45, .inl (fun _ => 0))), ((ma 21), .inl (cy 1, 150, .inl (fun _ => 0))), ((ma 22), .inl (cy 1, 5, .inl (fun _ => 0))), ((ma 23), .inl (cy 1, 120, .inl (fun _ => 0))), ((ma 24), .inl (cy 1, 30, .inl (fun _ => 0))), ((ma 25), .inl (cy 3, 15, .inl (fun _ => 0))), ((ma 26), .inl (cy 1, 5, .inl (fun _ => 0))), ((ma 27), .inl (cy 1, 30, .inl (fun _ => 0))), ((ma 28), .inl (cy 3, 3, .inl (fun _ => 0)))]) (runV (As := [.int (xs 1), .int (xs 2), .int (xs 3), .int 0, .int (xs 5)]) (rest := [.int (-2)]) ⟨hx, hb, hml, hown, hts⟩ (g_X10_today l D cy ma (xs 1) (xs 2) (xs 3) 0 (xs 5)  H.size) sV_L_106 hK (va_recv hK.1 hP (ci := 10) (q0 := 6) rfl rfl) (PW.of hP hD [6, 15, 13, 12] (by decide) rfl rfl) ⟨Nat.le_of_ble_eq_true rfl, Nat.le_of_ble_eq_true rfl⟩ rfl hl.1 rfl (Nat.le_of_ble_eq_true rfl) dL_law_1030 ⟨Nat.le_of_ble_eq_true rfl, Nat.le_of_ble_eq_true rfl⟩) hP hD hS hA [6, 15, 13, 12] [0, 1, 2, 3, 4, 5, 7, 8, 9, 10, 11, 14, 16, 17, 18, 19, 20, 21, 22, 23] rfl rfl (by decide) (by decide) (fun v u_25 H locs hv hP hD hS => ?_)
      have hP : va_P D vwCl [((xa 0), .inr (9, [.ref (xa 1), .ref (xa 2), .ref (xa 3), .ref (xa 4), .ref (xa 5), .ref (xa 6), .ref (xa 7), .ref (xa 8), .ref (xa 9), .int 0, .ref (xa 11), .null, .int 0, .int (-1)])), ((xa 1), .inl (cy 0, 1600, .inl (fun _ => 0))), ((xa 2), .inr (4, [.int 0, .int (-1), .ref (xa 30), .int 0, .int 0, .int 0, .int 0, .int 0, .ref (xa 31), .int 0, .int 0, .int 0])), ((xa 8), .inl (cy 4, 4, .inr (.inr (.inr (.inr (fun _ => none)))))), ((xa 9), .inl (cy 5, 3, .inr (.inr (.inr (.inr (fun _ => none)))))), ((xa 11), .inr (2, [.int 0, .int 0, .int 0, .int 0, .int 0, .int 0, .int 0, .int 0, .int 1, .int 10, .int 0, .int 0, .int 0, .int 0, .ref (xa 20), .ref (xa 21), .ref (xa 22), .ref (xa 23), .ref (xa 24), .ref (xa 25), .ref (xa 26)])), ((ma 1), .inl (cy 1, 4, .inl fw)), ((ma 2), .inl (cy 1, 4, .inl (fun _ => 0))), ((ma 3), .inl (cy 2, 240, .inr (.inl (fun _ => 0)))), ((ma 5), .inl (cy 0, 1600, .inl (fun _ => 0))), ((ma 16), .inl (cy 1, 5, .inl (fun _ => 0))), ((ma 19), .inl (cy 1, 45, .inl (fun _ => 0))), ((ma 21), .inl (cy 1, 150, .inl (fun _ => 0))), ((ma 22), .inl (cy 1, 5, .inl (fun _ => 0))), ((ma 23), .inl (cy 1, 120, .inl (fun _ => 0))), ((ma 24), .inl (cy 1, 30, .inl (fun _ => 0))), ((ma 25), .inl (cy 3, 15, .inl (fun _ => 0))), ((ma 26), .inl (cy 1, 5, .inl (fun _ => 0))), ((ma 27), .inl (cy 1, 30, .inl (fun _ => 0))), ((ma 28), .inl (cy 3, 3, .inl (fun _ => 0)))] H := hP
      have hD : va_D A [((xa 0), .inr (9, [.ref (xa 1), .ref (xa 2), .ref (xa 3), .ref (xa 4), .ref (xa 5), .ref (xa 6), .ref (xa 7), .ref (xa 8), .ref (xa 9), .int 0, .ref (xa 11), .null, .int 0, .int (-1)])), ((xa 1), .inl (cy 0, 1600, .inl (fun _ => 0))), ((xa 2), .inr (4, [.int 0, .int (-1), .ref (xa 30), .int 0, .int 0, .int 0, .int 0, .int 0, .ref (xa 31), .int 0, .int 0, .int 0])), ((xa 8), .inl (cy 4, 4, .inr (.inr (.inr (.inr (fun _ => none)))))), ((xa 9), .inl (cy 5, 3, .inr (.inr (.inr (.inr (fun _ => none)))))), ((xa 11), .inr (2, [.int 0, .int 0, .int 0, .int 0, .int 0, .int 0, .int 0, .int 0, .int 1, .int 10, .int 0, .int 0, .int 0, .int 0, .ref (xa 20), .ref (xa 21), .ref (xa 22), .ref (xa 23), .ref (xa 24), .ref (xa 25), .ref (xa 26)])), ((ma 1), .inl (cy 1, 4, .inl fw)), ((ma 2), .inl (cy 1, 4, .inl (fun _ => 0))), ((ma 3), .inl (cy 2, 240, .inr (.inl (fun _ => 0)))), ((ma 5), .inl (cy 0, 1600, .inl (fun _ => 0))), ((ma 16), .inl (cy 1, 5, .inl (fun _ => 0))), ((ma 19), .inl (cy 1, 45, .inl (fun _ => 0))), ((ma 21), .inl (cy 1, 150, .inl (fun _ => 0))), ((ma 22), .inl (cy 1, 5, .inl (fun _ => 0))), ((ma 23), .inl (cy 1, 120, .inl (fun _ => 0))), ((ma 24), .inl (cy 1, 30, .inl (fun _ => 0))), ((ma 25), .inl (cy 3, 15, .inl (fun _ => 0))), ((ma 26), .inl (cy 1, 5, .inl (fun _ => 0))), ((ma 27), .inl (cy 1, 30, .inl (fun _ => 0))), ((ma 28), .inl (cy 3, 3, .inl (fun _ => 0)))] := hD
      obtain ⟨r_26, rfl, hr_26⟩ := hv
      have er_26 := hr_26
      subst er_26
      refine W.eq (g2 := F0 m 1033 ls [.int (-2), .int (-2)]) rfl ?_
      refine lv_icmp_eq (tgt := 2286) hx hb dL_law_1033 (by decide) (fun _ => ?_) (fun c_27 => absurd (by decide) c_27)
      exact law_end C0 hL7 hA2 hbA hS (lv_sub hl [0, 1, 2, 3] rfl) (Nat.le_of_ble_eq_true rfl) (Nat.le_of_ble_eq_true rfl)
    · skip
      have tc_23 : ¬ (xs 4).toInt = 0 := fun h => c_23 ((fa_eq _ _).mpr h)
      refine lv_iconst (v := 1) hx hb dL_law_1020 (by decide) ?_
      refine lv_goto (tgt := 1025) hx hb dL_law_1021 (by decide) ?_
      refine lv_aload_n hx hb dL_law_1025 rfl (lv_at hl 3 rfl) ?_
      refine lv_iload_n hx hb dL_law_1026 rfl (lv_at hl 0 rfl) ?_
      refine lv_iconst (v := 5) hx hb dL_law_1027 (by decide) ?_
      refine lv_iadd hx hb dL_law_1028 ?_
      refine lv_topi (fun z_28 ez_28 => ?_)
      have ez_28 : z_28 = 5 := ez_28.trans (by decide)
      subst ez_28
      refine va_sld (i := 5) hx hb hX hbl hbA hS (by subst hL7; exact vp_in_iff.mpr (by decide)) dL_law_1029 ?_
      refine W.eq (g2 := F0 m 1030 ls [.int (xs 5), .int 1, .int (xs 3), .int (xs 2), .int (xs 1), .ref (ma 0), .int (-2)]) rfl ?_
      refine fw_call (wc := [((ma 0), .inr (10, [.int 0, .ref (ma 1), .ref (ma 2), .ref (ma 3), .ref (ma 4), .ref (ma 5), .int 0, .int 0, .int 0, .int 0, .int 0, .long 0, .int 0, .int 0, .int 0, .int (-1), .ref (ma 16), .ref (ma 17), .ref (ma 18), .ref (ma 19), .ref (ma 20), .ref (ma 21), .ref (ma 22), .ref (ma 23), .ref (ma 24), .ref (ma 25), .ref (ma 26), .ref (ma 27), .ref (ma 28), .ref (ma 29), .ref (ma 30), .ref (ma 31), .ref (ma 32), .ref (ma 33), .ref (ma 34), .ref (ma 35), .ref (ma 36), .ref (ma 37), .ref (ma 38), .ref (ma 39), .ref (ma 40), .ref (ma 41), .long 0])), ((ma 20), .inl (cy 1, 5, .inl (fun _ => 0))), ((ma 18), .inl (cy 1, 5, .inl (fun _ => 0))), ((ma 17), .inl (cy 1, 20, .inl (fun _ => 0)))]) (wr := [((xa 0), .inr (9, [.ref (xa 1), .ref (xa 2), .ref (xa 3), .ref (xa 4), .ref (xa 5), .ref (xa 6), .ref (xa 7), .ref (xa 8), .ref (xa 9), .int 0, .ref (xa 11), .null, .int 0, .int (-1)])), ((xa 1), .inl (cy 0, 1600, .inl (fun _ => 0))), ((xa 2), .inr (4, [.int 0, .int (-1), .ref (xa 30), .int 0, .int 0, .int 0, .int 0, .int 0, .ref (xa 31), .int 0, .int 0, .int 0])), ((xa 8), .inl (cy 4, 4, .inr (.inr (.inr (.inr (fun _ => none)))))), ((xa 9), .inl (cy 5, 3, .inr (.inr (.inr (.inr (fun _ => none)))))), ((xa 11), .inr (2, [.int 0, .int 0, .int 0, .int 0, .int 0, .int 0, .int 0, .int 0, .int 1, .int 10, .int 0, .int 0, .int 0, .int 0, .ref (xa 20), .ref (xa 21), .ref (xa 22), .ref (xa 23), .ref (xa 24), .ref (xa 25), .ref (xa 26)])), ((ma 1), .inl (cy 1, 4, .inl fw)), ((ma 2), .inl (cy 1, 4, .inl (fun _ => 0))), ((ma 3), .inl (cy 2, 240, .inr (.inl (fun _ => 0)))), ((ma 5), .inl (cy 0, 1600, .inl (fun _ => 0))), ((ma 16), .inl (cy 1, 5, .inl (fun _ => 0))), ((ma 19), .inl (cy 1, 45, .inl (fun _ => 0))), ((ma 21), .inl (cy 1, 150, .inl (fun _ => 0))), ((ma 22), .inl (cy 1, 5, .inl (fun _ => 0))), ((ma 23), .inl (cy 1, 120, .inl (fun _ => 0))), ((ma 24), .inl (cy 1, 30, .inl (fun _ => 0))), ((ma 25), .inl (cy 3, 15, .inl (fun _ => 0))), ((ma 26), .inl (cy 1, 5, .inl (fun _ => 0))), ((ma 27), .inl (cy 1, 30, .inl (fun _ => 0))), ((ma 28), .inl (cy 3, 3, .inl (fun _ => 0)))]) (runV (As := [.int (xs 1), .int (xs 2), .int (xs 3), .int 1, .int (xs 5)]) (rest := [.int (-2)]) ⟨hx, hb, hml, hown, hts⟩ (g_X10_today l D cy ma (xs 1) (xs 2) (xs 3) 1 (xs 5)  H.size) sV_L_106 hK (va_recv hK.1 hP (ci := 10) (q0 := 6) rfl rfl) (PW.of hP hD [6, 15, 13, 12] (by decide) rfl rfl) ⟨Nat.le_of_ble_eq_true rfl, Nat.le_of_ble_eq_true rfl⟩ rfl hl.1 rfl (Nat.le_of_ble_eq_true rfl) dL_law_1030 ⟨Nat.le_of_ble_eq_true rfl, Nat.le_of_ble_eq_true rfl⟩) hP hD hS hA [6, 15, 13, 12] [0, 1, 2, 3, 4, 5, 7, 8, 9, 10, 11, 14, 16, 17, 18, 19, 20, 21, 22, 23] rfl rfl (by decide) (by decide) (fun v u_29 H locs hv hP hD hS => ?_)
      have hP : va_P D vwCl [((xa 0), .inr (9, [.ref (xa 1), .ref (xa 2), .ref (xa 3), .ref (xa 4), .ref (xa 5), .ref (xa 6), .ref (xa 7), .ref (xa 8), .ref (xa 9), .int 0, .ref (xa 11), .null, .int 0, .int (-1)])), ((xa 1), .inl (cy 0, 1600, .inl (fun _ => 0))), ((xa 2), .inr (4, [.int 0, .int (-1), .ref (xa 30), .int 0, .int 0, .int 0, .int 0, .int 0, .ref (xa 31), .int 0, .int 0, .int 0])), ((xa 8), .inl (cy 4, 4, .inr (.inr (.inr (.inr (fun _ => none)))))), ((xa 9), .inl (cy 5, 3, .inr (.inr (.inr (.inr (fun _ => none)))))), ((xa 11), .inr (2, [.int 0, .int 0, .int 0, .int 0, .int 0, .int 0, .int 0, .int 0, .int 1, .int 10, .int 0, .int 0, .int 0, .int 0, .ref (xa 20), .ref (xa 21), .ref (xa 22), .ref (xa 23), .ref (xa 24), .ref (xa 25), .ref (xa 26)])), ((ma 1), .inl (cy 1, 4, .inl fw)), ((ma 2), .inl (cy 1, 4, .inl (fun _ => 0))), ((ma 3), .inl (cy 2, 240, .inr (.inl (fun _ => 0)))), ((ma 5), .inl (cy 0, 1600, .inl (fun _ => 0))), ((ma 16), .inl (cy 1, 5, .inl (fun _ => 0))), ((ma 19), .inl (cy 1, 45, .inl (fun _ => 0))), ((ma 21), .inl (cy 1, 150, .inl (fun _ => 0))), ((ma 22), .inl (cy 1, 5, .inl (fun _ => 0))), ((ma 23), .inl (cy 1, 120, .inl (fun _ => 0))), ((ma 24), .inl (cy 1, 30, .inl (fun _ => 0))), ((ma 25), .inl (cy 3, 15, .inl (fun _ => 0))), ((ma 26), .inl (cy 1, 5, .inl (fun _ => 0))), ((ma 27), .inl (cy 1, 30, .inl (fun _ => 0))), ((ma 28), .inl (cy 3, 3, .inl (fun _ => 0)))] H := hP
      have hD : va_D A [((xa 0), .inr (9, [.ref (xa 1), .ref (xa 2), .ref (xa 3), .ref (xa 4), .ref (xa 5), .ref (xa 6), .ref (xa 7), .ref (xa 8), .ref (xa 9), .int 0, .ref (xa 11), .null, .int 0, .int (-1)])), ((xa 1), .inl (cy 0, 1600, .inl (fun _ => 0))), ((xa 2), .inr (4, [.int 0, .int (-1), .ref (xa 30), .int 0, .int 0, .int 0, .int 0, .int 0, .ref (xa 31), .int 0, .int 0, .int 0])), ((xa 8), .inl (cy 4, 4, .inr (.inr (.inr (.inr (fun _ => none)))))), ((xa 9), .inl (cy 5, 3, .inr (.inr (.inr (.inr (fun _ => none)))))), ((xa 11), .inr (2, [.int 0, .int 0, .int 0, .int 0, .int 0, .int 0, .int 0, .int 0, .int 1, .int 10, .int 0, .int 0, .int 0, .int 0, .ref (xa 20), .ref (xa 21), .ref (xa 22), .ref (xa 23), .ref (xa 24), .ref (xa 25), .ref (xa 26)])), ((ma 1), .inl (cy 1, 4, .inl fw)), ((ma 2), .inl (cy 1, 4, .inl (fun _ => 0))), ((ma 3), .inl (cy 2, 240, .inr (.inl (fun _ => 0)))), ((ma 5), .inl (cy 0, 1600, .inl (fun _ => 0))), ((ma 16), .inl (cy 1, 5, .inl (fun _ => 0))), ((ma 19), .inl (cy 1, 45, .inl (fun _ => 0))), ((ma 21), .inl (cy 1, 150, .inl (fun _ => 0))), ((ma 22), .inl (cy 1, 5, .inl (fun _ => 0))), ((ma 23), .inl (cy 1, 120, .inl (fun _ => 0))), ((ma 24), .inl (cy 1, 30, .inl (fun _ => 0))), ((ma 25), .inl (cy 3, 15, .inl (fun _ => 0))), ((ma 26), .inl (cy 1, 5, .inl (fun _ => 0))), ((ma 27), .inl (cy 1, 30, .inl (fun _ => 0))), ((ma 28), .inl (cy 3, 3, .inl (fun _ => 0)))] := hD
      obtain ⟨r_30, rfl, hr_30⟩ := hv
      have er_30 := hr_30
      subst er_30
      refine W.eq (g2 := F0 m 1033 ls [.int (-2), .int (-2)]) rfl ?_
      refine lv_icmp_eq (tgt := 2286) hx hb dL_law_1033 (by decide) (fun _ => ?_) (fun c_31 => absurd (by decide) c_31)
      exact law_end C0 hL7 hA2 hbA hS (lv_sub hl [0, 1, 2, 3] rfl) (Nat.le_of_ble_eq_true rfl) (Nat.le_of_ble_eq_true rfl)
set_option maxHeartbeats 4000000 in
set_option maxRecDepth 100000 in
theorem lc_21 {p : Program} {e : Env} {s : State} {m : MethodId} {below : List Frame} {meth : Method} {c : Code} {l : Launch} {b L : Nat} {xs : Nat → Int32} {A : Nat → Prop} (D : va_G) (cy : Nat → ClassId) (xa ma : Nat → Nat) (fw : Nat → Int32) (hw : ∀ k : Nat, k < 4 → fw k = -1) (hL7 : L = 7) (C0 : lw_At p s m meth c b L xs) (hK : KK D cy s) (hA : ∀ q : Nat, s.heap.size ≤ q → A q) (hA2 : ∀ q : Nat, A q → s.heap.size ≤ q) (hbA : ¬ A b) {H : Heap} {locs : List Loc} (hP : va_P D vwCl [((xa 0), .inr (9, [.ref (xa 1), .ref (xa 2), .ref (xa 3), .ref (xa 4), .ref (xa 5), .ref (xa 6), .ref (xa 7), .ref (xa 8), .ref (xa 9), .int 0, .ref (xa 11), .null, .int 0, .int (-1)])), ((xa 1), .inl (cy 0, 1600, .inl (fun _ => 0))), ((xa 2), .inr (4, [.int 0, .int (-1), .ref (xa 30), .int 0, .int 0, .int 0, .int 0, .int 0, .ref (xa 31), .int 0, .int 0, .int 0])), ((xa 8), .inl (cy 4, 4, .inr (.inr (.inr (.inr (fun _ => none)))))), ((xa 9), .inl (cy 5, 3, .inr (.inr (.inr (.inr (fun _ => none)))))), ((xa 11), .inr (2, [.int 0, .int 0, .int 0, .int 0, .int 0, .int 0, .int 0, .int 0, .int 1, .int 10, .int 0, .int 0, .int 0, .int 0, .ref (xa 20), .ref (xa 21), .ref (xa 22), .ref (xa 23), .ref (xa 24), .ref (xa 25), .ref (xa 26)])), ((ma 0), .inr (10, [.int 0, .ref (ma 1), .ref (ma 2), .ref (ma 3), .ref (ma 4), .ref (ma 5), .int 0, .int 0, .int 0, .int 0, .int 0, .long 0, .int 0, .int 0, .int 0, .int (-1), .ref (ma 16), .ref (ma 17), .ref (ma 18), .ref (ma 19), .ref (ma 20), .ref (ma 21), .ref (ma 22), .ref (ma 23), .ref (ma 24), .ref (ma 25), .ref (ma 26), .ref (ma 27), .ref (ma 28), .ref (ma 29), .ref (ma 30), .ref (ma 31), .ref (ma 32), .ref (ma 33), .ref (ma 34), .ref (ma 35), .ref (ma 36), .ref (ma 37), .ref (ma 38), .ref (ma 39), .ref (ma 40), .ref (ma 41), .long 0])), ((ma 1), .inl (cy 1, 4, .inl fw)), ((ma 2), .inl (cy 1, 4, .inl (fun _ => 0))), ((ma 3), .inl (cy 2, 240, .inr (.inl (fun _ => 0)))), ((ma 5), .inl (cy 0, 1600, .inl (fun _ => 0))), ((ma 16), .inl (cy 1, 5, .inl (fun _ => 0))), ((ma 17), .inl (cy 1, 20, .inl (fun _ => 0))), ((ma 18), .inl (cy 1, 5, .inl (fun _ => 0))), ((ma 19), .inl (cy 1, 45, .inl (fun _ => 0))), ((ma 20), .inl (cy 1, 5, .inl (fun _ => 0))), ((ma 21), .inl (cy 1, 150, .inl (fun _ => 0))), ((ma 22), .inl (cy 1, 5, .inl (fun _ => 0))), ((ma 23), .inl (cy 1, 120, .inl (fun _ => 0))), ((ma 24), .inl (cy 1, 30, .inl (fun _ => 0))), ((ma 25), .inl (cy 3, 15, .inl (fun _ => 0))), ((ma 26), .inl (cy 1, 5, .inl (fun _ => 0))), ((ma 27), .inl (cy 1, 30, .inl (fun _ => 0))), ((ma 28), .inl (cy 3, 3, .inl (fun _ => 0)))] H) (hD : va_D A [((xa 0), .inr (9, [.ref (xa 1), .ref (xa 2), .ref (xa 3), .ref (xa 4), .ref (xa 5), .ref (xa 6), .ref (xa 7), .ref (xa 8), .ref (xa 9), .int 0, .ref (xa 11), .null, .int 0, .int (-1)])), ((xa 1), .inl (cy 0, 1600, .inl (fun _ => 0))), ((xa 2), .inr (4, [.int 0, .int (-1), .ref (xa 30), .int 0, .int 0, .int 0, .int 0, .int 0, .ref (xa 31), .int 0, .int 0, .int 0])), ((xa 8), .inl (cy 4, 4, .inr (.inr (.inr (.inr (fun _ => none)))))), ((xa 9), .inl (cy 5, 3, .inr (.inr (.inr (.inr (fun _ => none)))))), ((xa 11), .inr (2, [.int 0, .int 0, .int 0, .int 0, .int 0, .int 0, .int 0, .int 0, .int 1, .int 10, .int 0, .int 0, .int 0, .int 0, .ref (xa 20), .ref (xa 21), .ref (xa 22), .ref (xa 23), .ref (xa 24), .ref (xa 25), .ref (xa 26)])), ((ma 0), .inr (10, [.int 0, .ref (ma 1), .ref (ma 2), .ref (ma 3), .ref (ma 4), .ref (ma 5), .int 0, .int 0, .int 0, .int 0, .int 0, .long 0, .int 0, .int 0, .int 0, .int (-1), .ref (ma 16), .ref (ma 17), .ref (ma 18), .ref (ma 19), .ref (ma 20), .ref (ma 21), .ref (ma 22), .ref (ma 23), .ref (ma 24), .ref (ma 25), .ref (ma 26), .ref (ma 27), .ref (ma 28), .ref (ma 29), .ref (ma 30), .ref (ma 31), .ref (ma 32), .ref (ma 33), .ref (ma 34), .ref (ma 35), .ref (ma 36), .ref (ma 37), .ref (ma 38), .ref (ma 39), .ref (ma 40), .ref (ma 41), .long 0])), ((ma 1), .inl (cy 1, 4, .inl fw)), ((ma 2), .inl (cy 1, 4, .inl (fun _ => 0))), ((ma 3), .inl (cy 2, 240, .inr (.inl (fun _ => 0)))), ((ma 5), .inl (cy 0, 1600, .inl (fun _ => 0))), ((ma 16), .inl (cy 1, 5, .inl (fun _ => 0))), ((ma 17), .inl (cy 1, 20, .inl (fun _ => 0))), ((ma 18), .inl (cy 1, 5, .inl (fun _ => 0))), ((ma 19), .inl (cy 1, 45, .inl (fun _ => 0))), ((ma 20), .inl (cy 1, 5, .inl (fun _ => 0))), ((ma 21), .inl (cy 1, 150, .inl (fun _ => 0))), ((ma 22), .inl (cy 1, 5, .inl (fun _ => 0))), ((ma 23), .inl (cy 1, 120, .inl (fun _ => 0))), ((ma 24), .inl (cy 1, 30, .inl (fun _ => 0))), ((ma 25), .inl (cy 3, 15, .inl (fun _ => 0))), ((ma 26), .inl (cy 1, 5, .inl (fun _ => 0))), ((ma 27), .inl (cy 1, 30, .inl (fun _ => 0))), ((ma 28), .inl (cy 3, 3, .inl (fun _ => 0)))]) (hS : va_S A s.heap H locs) {ls : Array Slot} (hl : lv_has ls 4 [(3, .int 0), (2, .ref (ma 0)), (1, .ref (xa 0)), (0, .ref b)]) : W p l e room_1 s m #[Value.ref b] below meth c H locs 82 108979 (lw_Z below #[Value.ref b] s) (F0 m 1038 ls []) := by
  obtain ⟨hx, hb, hr, hml, hown, hts, hX, hbl, hlocks, hgv⟩ := id C0
  have hown : s.vm.findClass RL = some m.cls := hown
  have hb : c.code = cL_law := hb
  have hts : ∀ w ∈ GW, w.before #[Value.ref b] s = true := fun w h => hts w (gw_tbl w h)
  refine lv_aload_n hx hb dL_law_1038 rfl (lv_at hl 2 rfl) ?_
  refine lv_aload_n hx hb dL_law_1039 rfl (lv_at hl 3 rfl) ?_
  refine lv_iload_n hx hb dL_law_1040 rfl (lv_at hl 0 rfl) ?_
  refine lv_iconst (v := 1) hx hb dL_law_1041 (by decide) ?_
  refine lv_iadd hx hb dL_law_1042 ?_
  refine lv_topi (fun z_1 ez_1 => ?_)
  have ez_1 : z_1 = 1 := ez_1.trans (by decide)
  subst ez_1
  refine va_sld (i := 1) hx hb hX hbl hbA hS (by subst hL7; exact vp_in_iff.mpr (by decide)) dL_law_1043 ?_
  refine W.eq (g2 := F0 m 1044 ls [.int (xs 1), .ref (xa 0)]) rfl ?_
  refine lv_aload_n hx hb dL_law_1044 rfl (lv_at hl 3 rfl) ?_
  refine lv_iload_n hx hb dL_law_1045 rfl (lv_at hl 0 rfl) ?_
  refine lv_iconst (v := 2) hx hb dL_law_1046 (by decide) ?_
  refine lv_iadd hx hb dL_law_1047 ?_
  refine lv_topi (fun z_2 ez_2 => ?_)
  have ez_2 : z_2 = 2 := ez_2.trans (by decide)
  subst ez_2
  refine va_sld (i := 2) hx hb hX hbl hbA hS (by subst hL7; exact vp_in_iff.mpr (by decide)) dL_law_1048 ?_
  refine W.eq (g2 := F0 m 1049 ls [.int (xs 2), .int (xs 1), .ref (xa 0)]) rfl ?_
  refine pu_calli (runV (As := [.int (xs 1), .int (xs 2)]) (rest := []) ⟨hx, hb, hml, hown, hts⟩ (f_X9_last l D cy xa (xs 1) (xs 2) ) sV_L_107 hK (va_recv hK.1 hP (ci := 9) (q0 := 0) rfl rfl) (hP.sub (ws' := [((xa 0), .inr (9, [.ref (xa 1), .ref (xa 2), .ref (xa 3), .ref (xa 4), .ref (xa 5), .ref (xa 6), .ref (xa 7), .ref (xa 8), .ref (xa 9), .int 0, .ref (xa 11), .null, .int 0, .int (-1)])), ((xa 11), .inr (2, [.int 0, .int 0, .int 0, .int 0, .int 0, .int 0, .int 0, .int 0, .int 1, .int 10, .int 0, .int 0, .int 0, .int 0, .ref (xa 20), .ref (xa 21), .ref (xa 22), .ref (xa 23), .ref (xa 24), .ref (xa 25), .ref (xa 26)]))]) [0, 5] rfl) ⟨Nat.le_of_ble_eq_true rfl, Nat.le_of_ble_eq_true rfl⟩ rfl hl.1 rfl (Nat.le_of_ble_eq_true rfl) dL_law_1049 ⟨Nat.le_of_ble_eq_true rfl, Nat.le_of_ble_eq_true rfl⟩) (fun r_3 hr_3 => ?_)
  have er_3 := hr_3
  subst er_3
  refine W.eq (g2 := F0 m 1052 ls [.int (-2)]) rfl ?_
  refine lv_aload_n hx hb dL_law_1052 rfl (lv_at hl 1 rfl) ?_
  refine lv_aload_n hx hb dL_law_1053 rfl (lv_at hl 3 rfl) ?_
  refine lv_iload_n hx hb dL_law_1054 rfl (lv_at hl 0 rfl) ?_
  refine lv_iconst (v := 1) hx hb dL_law_1055 (by decide) ?_
  refine lv_iadd hx hb dL_law_1056 ?_
  refine lv_topi (fun z_4 ez_4 => ?_)
  have ez_4 : z_4 = 1 := ez_4.trans (by decide)
  subst ez_4
  refine va_sld (i := 1) hx hb hX hbl hbA hS (by subst hL7; exact vp_in_iff.mpr (by decide)) dL_law_1057 ?_
  refine W.eq (g2 := F0 m 1058 ls [.int (xs 1), .ref (ma 0), .int (-2)]) rfl ?_
  refine lv_aload_n hx hb dL_law_1058 rfl (lv_at hl 3 rfl) ?_
  refine lv_iload_n hx hb dL_law_1059 rfl (lv_at hl 0 rfl) ?_
  refine lv_iconst (v := 2) hx hb dL_law_1060 (by decide) ?_
  refine lv_iadd hx hb dL_law_1061 ?_
  refine lv_topi (fun z_5 ez_5 => ?_)
  have ez_5 : z_5 = 2 := ez_5.trans (by decide)
  subst ez_5
  refine va_sld (i := 2) hx hb hX hbl hbA hS (by subst hL7; exact vp_in_iff.mpr (by decide)) dL_law_1062 ?_
  refine W.eq (g2 := F0 m 1063 ls [.int (xs 2), .int (xs 1), .ref (ma 0), .int (-2)]) rfl ?_
  refine fw_call (wc := [((ma 0), .inr (10, [.int 0, .ref (ma 1), .ref (ma 2), .ref (ma 3), .ref (ma 4), .ref (ma 5), .int 0, .int 0, .int 0, .int 0, .int 0, .long 0, .int 0, .int 0, .int 0, .int (-1), .ref (ma 16), .ref (ma 17), .ref (ma 18), .ref (ma 19), .ref (ma 20), .ref (ma 21), .ref (ma 22), .ref (ma 23), .ref (ma 24), .ref (ma 25), .ref (ma 26), .ref (ma 27), .ref (ma 28), .ref (ma 29), .ref (ma 30), .ref (ma 31), .ref (ma 32), .ref (ma 33), .ref (ma 34), .ref (ma 35), .ref (ma 36), .ref (ma 37), .ref (ma 38), .ref (ma 39), .ref (ma 40), .ref (ma 41), .long 0])), ((ma 20), .inl (cy 1, 5, .inl (fun _ => 0))), ((ma 18), .inl (cy 1, 5, .inl (fun _ => 0))), ((ma 17), .inl (cy 1, 20, .inl (fun _ => 0)))]) (wr := [((xa 0), .inr (9, [.ref (xa 1), .ref (xa 2), .ref (xa 3), .ref (xa 4), .ref (xa 5), .ref (xa 6), .ref (xa 7), .ref (xa 8), .ref (xa 9), .int 0, .ref (xa 11), .null, .int 0, .int (-1)])), ((xa 1), .inl (cy 0, 1600, .inl (fun _ => 0))), ((xa 2), .inr (4, [.int 0, .int (-1), .ref (xa 30), .int 0, .int 0, .int 0, .int 0, .int 0, .ref (xa 31), .int 0, .int 0, .int 0])), ((xa 8), .inl (cy 4, 4, .inr (.inr (.inr (.inr (fun _ => none)))))), ((xa 9), .inl (cy 5, 3, .inr (.inr (.inr (.inr (fun _ => none)))))), ((xa 11), .inr (2, [.int 0, .int 0, .int 0, .int 0, .int 0, .int 0, .int 0, .int 0, .int 1, .int 10, .int 0, .int 0, .int 0, .int 0, .ref (xa 20), .ref (xa 21), .ref (xa 22), .ref (xa 23), .ref (xa 24), .ref (xa 25), .ref (xa 26)])), ((ma 1), .inl (cy 1, 4, .inl fw)), ((ma 2), .inl (cy 1, 4, .inl (fun _ => 0))), ((ma 3), .inl (cy 2, 240, .inr (.inl (fun _ => 0)))), ((ma 5), .inl (cy 0, 1600, .inl (fun _ => 0))), ((ma 16), .inl (cy 1, 5, .inl (fun _ => 0))), ((ma 19), .inl (cy 1, 45, .inl (fun _ => 0))), ((ma 21), .inl (cy 1, 150, .inl (fun _ => 0))), ((ma 22), .inl (cy 1, 5, .inl (fun _ => 0))), ((ma 23), .inl (cy 1, 120, .inl (fun _ => 0))), ((ma 24), .inl (cy 1, 30, .inl (fun _ => 0))), ((ma 25), .inl (cy 3, 15, .inl (fun _ => 0))), ((ma 26), .inl (cy 1, 5, .inl (fun _ => 0))), ((ma 27), .inl (cy 1, 30, .inl (fun _ => 0))), ((ma 28), .inl (cy 3, 3, .inl (fun _ => 0)))]) (runV (As := [.int (xs 1), .int (xs 2)]) (rest := [.int (-2)]) ⟨hx, hb, hml, hown, hts⟩ (g_X10_last l D cy ma (xs 1) (xs 2)  H.size) sV_L_110 hK (va_recv hK.1 hP (ci := 10) (q0 := 6) rfl rfl) (PW.of hP hD [6, 15, 13, 12] (by decide) rfl rfl) ⟨Nat.le_of_ble_eq_true rfl, Nat.le_of_ble_eq_true rfl⟩ rfl hl.1 rfl (Nat.le_of_ble_eq_true rfl) dL_law_1063 ⟨Nat.le_of_ble_eq_true rfl, Nat.le_of_ble_eq_true rfl⟩) hP hD hS hA [6, 15, 13, 12] [0, 1, 2, 3, 4, 5, 7, 8, 9, 10, 11, 14, 16, 17, 18, 19, 20, 21, 22, 23] rfl rfl (by decide) (by decide) (fun v u_6 H locs hv hP hD hS => ?_)
  have hP : va_P D vwCl [((xa 0), .inr (9, [.ref (xa 1), .ref (xa 2), .ref (xa 3), .ref (xa 4), .ref (xa 5), .ref (xa 6), .ref (xa 7), .ref (xa 8), .ref (xa 9), .int 0, .ref (xa 11), .null, .int 0, .int (-1)])), ((xa 1), .inl (cy 0, 1600, .inl (fun _ => 0))), ((xa 2), .inr (4, [.int 0, .int (-1), .ref (xa 30), .int 0, .int 0, .int 0, .int 0, .int 0, .ref (xa 31), .int 0, .int 0, .int 0])), ((xa 8), .inl (cy 4, 4, .inr (.inr (.inr (.inr (fun _ => none)))))), ((xa 9), .inl (cy 5, 3, .inr (.inr (.inr (.inr (fun _ => none)))))), ((xa 11), .inr (2, [.int 0, .int 0, .int 0, .int 0, .int 0, .int 0, .int 0, .int 0, .int 1, .int 10, .int 0, .int 0, .int 0, .int 0, .ref (xa 20), .ref (xa 21), .ref (xa 22), .ref (xa 23), .ref (xa 24), .ref (xa 25), .ref (xa 26)])), ((ma 1), .inl (cy 1, 4, .inl fw)), ((ma 2), .inl (cy 1, 4, .inl (fun _ => 0))), ((ma 3), .inl (cy 2, 240, .inr (.inl (fun _ => 0)))), ((ma 5), .inl (cy 0, 1600, .inl (fun _ => 0))), ((ma 16), .inl (cy 1, 5, .inl (fun _ => 0))), ((ma 19), .inl (cy 1, 45, .inl (fun _ => 0))), ((ma 21), .inl (cy 1, 150, .inl (fun _ => 0))), ((ma 22), .inl (cy 1, 5, .inl (fun _ => 0))), ((ma 23), .inl (cy 1, 120, .inl (fun _ => 0))), ((ma 24), .inl (cy 1, 30, .inl (fun _ => 0))), ((ma 25), .inl (cy 3, 15, .inl (fun _ => 0))), ((ma 26), .inl (cy 1, 5, .inl (fun _ => 0))), ((ma 27), .inl (cy 1, 30, .inl (fun _ => 0))), ((ma 28), .inl (cy 3, 3, .inl (fun _ => 0)))] H := hP
  have hD : va_D A [((xa 0), .inr (9, [.ref (xa 1), .ref (xa 2), .ref (xa 3), .ref (xa 4), .ref (xa 5), .ref (xa 6), .ref (xa 7), .ref (xa 8), .ref (xa 9), .int 0, .ref (xa 11), .null, .int 0, .int (-1)])), ((xa 1), .inl (cy 0, 1600, .inl (fun _ => 0))), ((xa 2), .inr (4, [.int 0, .int (-1), .ref (xa 30), .int 0, .int 0, .int 0, .int 0, .int 0, .ref (xa 31), .int 0, .int 0, .int 0])), ((xa 8), .inl (cy 4, 4, .inr (.inr (.inr (.inr (fun _ => none)))))), ((xa 9), .inl (cy 5, 3, .inr (.inr (.inr (.inr (fun _ => none)))))), ((xa 11), .inr (2, [.int 0, .int 0, .int 0, .int 0, .int 0, .int 0, .int 0, .int 0, .int 1, .int 10, .int 0, .int 0, .int 0, .int 0, .ref (xa 20), .ref (xa 21), .ref (xa 22), .ref (xa 23), .ref (xa 24), .ref (xa 25), .ref (xa 26)])), ((ma 1), .inl (cy 1, 4, .inl fw)), ((ma 2), .inl (cy 1, 4, .inl (fun _ => 0))), ((ma 3), .inl (cy 2, 240, .inr (.inl (fun _ => 0)))), ((ma 5), .inl (cy 0, 1600, .inl (fun _ => 0))), ((ma 16), .inl (cy 1, 5, .inl (fun _ => 0))), ((ma 19), .inl (cy 1, 45, .inl (fun _ => 0))), ((ma 21), .inl (cy 1, 150, .inl (fun _ => 0))), ((ma 22), .inl (cy 1, 5, .inl (fun _ => 0))), ((ma 23), .inl (cy 1, 120, .inl (fun _ => 0))), ((ma 24), .inl (cy 1, 30, .inl (fun _ => 0))), ((ma 25), .inl (cy 3, 15, .inl (fun _ => 0))), ((ma 26), .inl (cy 1, 5, .inl (fun _ => 0))), ((ma 27), .inl (cy 1, 30, .inl (fun _ => 0))), ((ma 28), .inl (cy 3, 3, .inl (fun _ => 0)))] := hD
  obtain ⟨r_7, rfl, hr_7⟩ := hv
  have er_7 := hr_7
  subst er_7
  refine W.eq (g2 := F0 m 1066 ls [.int (-2), .int (-2)]) rfl ?_
  refine lv_icmp_eq (tgt := 2286) hx hb dL_law_1066 (by decide) (fun _ => ?_) (fun c_8 => absurd (by decide) c_8)
  exact law_end C0 hL7 hA2 hbA hS (lv_sub hl [0, 1, 2, 3] rfl) (Nat.le_of_ble_eq_true rfl) (Nat.le_of_ble_eq_true rfl)
set_option maxHeartbeats 4000000 in
set_option maxRecDepth 100000 in
theorem lc_22 {p : Program} {e : Env} {s : State} {m : MethodId} {below : List Frame} {meth : Method} {c : Code} {l : Launch} {b L : Nat} {xs : Nat → Int32} {A : Nat → Prop} (D : va_G) (cy : Nat → ClassId) (xa ma : Nat → Nat) (fw : Nat → Int32) (hw : ∀ k : Nat, k < 4 → fw k = -1) (hL7 : L = 7) (C0 : lw_At p s m meth c b L xs) (hK : KK D cy s) (hA : ∀ q : Nat, s.heap.size ≤ q → A q) (hA2 : ∀ q : Nat, A q → s.heap.size ≤ q) (hbA : ¬ A b) {H : Heap} {locs : List Loc} (hP : va_P D vwCl [((xa 0), .inr (9, [.ref (xa 1), .ref (xa 2), .ref (xa 3), .ref (xa 4), .ref (xa 5), .ref (xa 6), .ref (xa 7), .ref (xa 8), .ref (xa 9), .int 0, .ref (xa 11), .null, .int 0, .int (-1)])), ((xa 1), .inl (cy 0, 1600, .inl (fun _ => 0))), ((xa 2), .inr (4, [.int 0, .int (-1), .ref (xa 30), .int 0, .int 0, .int 0, .int 0, .int 0, .ref (xa 31), .int 0, .int 0, .int 0])), ((xa 8), .inl (cy 4, 4, .inr (.inr (.inr (.inr (fun _ => none)))))), ((xa 9), .inl (cy 5, 3, .inr (.inr (.inr (.inr (fun _ => none)))))), ((xa 11), .inr (2, [.int 0, .int 0, .int 0, .int 0, .int 0, .int 0, .int 0, .int 0, .int 1, .int 10, .int 0, .int 0, .int 0, .int 0, .ref (xa 20), .ref (xa 21), .ref (xa 22), .ref (xa 23), .ref (xa 24), .ref (xa 25), .ref (xa 26)])), ((ma 0), .inr (10, [.int 0, .ref (ma 1), .ref (ma 2), .ref (ma 3), .ref (ma 4), .ref (ma 5), .int 0, .int 0, .int 0, .int 0, .int 0, .long 0, .int 0, .int 0, .int 0, .int (-1), .ref (ma 16), .ref (ma 17), .ref (ma 18), .ref (ma 19), .ref (ma 20), .ref (ma 21), .ref (ma 22), .ref (ma 23), .ref (ma 24), .ref (ma 25), .ref (ma 26), .ref (ma 27), .ref (ma 28), .ref (ma 29), .ref (ma 30), .ref (ma 31), .ref (ma 32), .ref (ma 33), .ref (ma 34), .ref (ma 35), .ref (ma 36), .ref (ma 37), .ref (ma 38), .ref (ma 39), .ref (ma 40), .ref (ma 41), .long 0])), ((ma 1), .inl (cy 1, 4, .inl fw)), ((ma 2), .inl (cy 1, 4, .inl (fun _ => 0))), ((ma 3), .inl (cy 2, 240, .inr (.inl (fun _ => 0)))), ((ma 5), .inl (cy 0, 1600, .inl (fun _ => 0))), ((ma 16), .inl (cy 1, 5, .inl (fun _ => 0))), ((ma 17), .inl (cy 1, 20, .inl (fun _ => 0))), ((ma 18), .inl (cy 1, 5, .inl (fun _ => 0))), ((ma 19), .inl (cy 1, 45, .inl (fun _ => 0))), ((ma 20), .inl (cy 1, 5, .inl (fun _ => 0))), ((ma 21), .inl (cy 1, 150, .inl (fun _ => 0))), ((ma 22), .inl (cy 1, 5, .inl (fun _ => 0))), ((ma 23), .inl (cy 1, 120, .inl (fun _ => 0))), ((ma 24), .inl (cy 1, 30, .inl (fun _ => 0))), ((ma 25), .inl (cy 3, 15, .inl (fun _ => 0))), ((ma 26), .inl (cy 1, 5, .inl (fun _ => 0))), ((ma 27), .inl (cy 1, 30, .inl (fun _ => 0))), ((ma 28), .inl (cy 3, 3, .inl (fun _ => 0)))] H) (hD : va_D A [((xa 0), .inr (9, [.ref (xa 1), .ref (xa 2), .ref (xa 3), .ref (xa 4), .ref (xa 5), .ref (xa 6), .ref (xa 7), .ref (xa 8), .ref (xa 9), .int 0, .ref (xa 11), .null, .int 0, .int (-1)])), ((xa 1), .inl (cy 0, 1600, .inl (fun _ => 0))), ((xa 2), .inr (4, [.int 0, .int (-1), .ref (xa 30), .int 0, .int 0, .int 0, .int 0, .int 0, .ref (xa 31), .int 0, .int 0, .int 0])), ((xa 8), .inl (cy 4, 4, .inr (.inr (.inr (.inr (fun _ => none)))))), ((xa 9), .inl (cy 5, 3, .inr (.inr (.inr (.inr (fun _ => none)))))), ((xa 11), .inr (2, [.int 0, .int 0, .int 0, .int 0, .int 0, .int 0, .int 0, .int 0, .int 1, .int 10, .int 0, .int 0, .int 0, .int 0, .ref (xa 20), .ref (xa 21), .ref (xa 22), .ref (xa 23), .ref (xa 24), .ref (xa 25), .ref (xa 26)])), ((ma 0), .inr (10, [.int 0, .ref (ma 1), .ref (ma 2), .ref (ma 3), .ref (ma 4), .ref (ma 5), .int 0, .int 0, .int 0, .int 0, .int 0, .long 0, .int 0, .int 0, .int 0, .int (-1), .ref (ma 16), .ref (ma 17), .ref (ma 18), .ref (ma 19), .ref (ma 20), .ref (ma 21), .ref (ma 22), .ref (ma 23), .ref (ma 24), .ref (ma 25), .ref (ma 26), .ref (ma 27), .ref (ma 28), .ref (ma 29), .ref (ma 30), .ref (ma 31), .ref (ma 32), .ref (ma 33), .ref (ma 34), .ref (ma 35), .ref (ma 36), .ref (ma 37), .ref (ma 38), .ref (ma 39), .ref (ma 40), .ref (ma 41), .long 0])), ((ma 1), .inl (cy 1, 4, .inl fw)), ((ma 2), .inl (cy 1, 4, .inl (fun _ => 0))), ((ma 3), .inl (cy 2, 240, .inr (.inl (fun _ => 0)))), ((ma 5), .inl (cy 0, 1600, .inl (fun _ => 0))), ((ma 16), .inl (cy 1, 5, .inl (fun _ => 0))), ((ma 17), .inl (cy 1, 20, .inl (fun _ => 0))), ((ma 18), .inl (cy 1, 5, .inl (fun _ => 0))), ((ma 19), .inl (cy 1, 45, .inl (fun _ => 0))), ((ma 20), .inl (cy 1, 5, .inl (fun _ => 0))), ((ma 21), .inl (cy 1, 150, .inl (fun _ => 0))), ((ma 22), .inl (cy 1, 5, .inl (fun _ => 0))), ((ma 23), .inl (cy 1, 120, .inl (fun _ => 0))), ((ma 24), .inl (cy 1, 30, .inl (fun _ => 0))), ((ma 25), .inl (cy 3, 15, .inl (fun _ => 0))), ((ma 26), .inl (cy 1, 5, .inl (fun _ => 0))), ((ma 27), .inl (cy 1, 30, .inl (fun _ => 0))), ((ma 28), .inl (cy 3, 3, .inl (fun _ => 0)))]) (hS : va_S A s.heap H locs) {ls : Array Slot} (hl : lv_has ls 4 [(3, .int 0), (2, .ref (ma 0)), (1, .ref (xa 0)), (0, .ref b)]) : W p l e room_1 s m #[Value.ref b] below meth c H locs 82 108979 (lw_Z below #[Value.ref b] s) (F0 m 1071 ls []) := by
  obtain ⟨hx, hb, hr, hml, hown, hts, hX, hbl, hlocks, hgv⟩ := id C0
  have hown : s.vm.findClass RL = some m.cls := hown
  have hb : c.code = cL_law := hb
  have hts : ∀ w ∈ GW, w.before #[Value.ref b] s = true := fun w h => hts w (gw_tbl w h)
  refine lv_aload_n hx hb dL_law_1071 rfl (lv_at hl 2 rfl) ?_
  refine lv_aload_n hx hb dL_law_1072 rfl (lv_at hl 3 rfl) ?_
  refine lv_iload_n hx hb dL_law_1073 rfl (lv_at hl 0 rfl) ?_
  refine lv_iconst (v := 1) hx hb dL_law_1074 (by decide) ?_
  refine lv_iadd hx hb dL_law_1075 ?_
  refine lv_topi (fun z_1 ez_1 => ?_)
  have ez_1 : z_1 = 1 := ez_1.trans (by decide)
  subst ez_1
  refine va_sld (i := 1) hx hb hX hbl hbA hS (by subst hL7; exact vp_in_iff.mpr (by decide)) dL_law_1076 ?_
  refine W.eq (g2 := F0 m 1077 ls [.int (xs 1), .ref (xa 0)]) rfl ?_
  refine lv_aload_n hx hb dL_law_1077 rfl (lv_at hl 3 rfl) ?_
  refine lv_iload_n hx hb dL_law_1078 rfl (lv_at hl 0 rfl) ?_
  refine lv_iconst (v := 2) hx hb dL_law_1079 (by decide) ?_
  refine lv_iadd hx hb dL_law_1080 ?_
  refine lv_topi (fun z_2 ez_2 => ?_)
  have ez_2 : z_2 = 2 := ez_2.trans (by decide)
  subst ez_2
  refine va_sld (i := 2) hx hb hX hbl hbA hS (by subst hL7; exact vp_in_iff.mpr (by decide)) dL_law_1081 ?_
  refine W.eq (g2 := F0 m 1082 ls [.int (xs 2), .int (xs 1), .ref (xa 0)]) rfl ?_
  refine pu_calll (runV (As := [.int (xs 1), .int (xs 2)]) (rest := []) ⟨hx, hb, hml, hown, hts⟩ (f_X9_signs l D cy xa (xs 1) (xs 2) ) sV_L_111 hK (va_recv hK.1 hP (ci := 9) (q0 := 0) rfl rfl) (hP.sub (ws' := [((xa 0), .inr (9, [.ref (xa 1), .ref (xa 2), .ref (xa 3), .ref (xa 4), .ref (xa 5), .ref (xa 6), .ref (xa 7), .ref (xa 8), .ref (xa 9), .int 0, .ref (xa 11), .null, .int 0, .int (-1)])), ((xa 11), .inr (2, [.int 0, .int 0, .int 0, .int 0, .int 0, .int 0, .int 0, .int 0, .int 1, .int 10, .int 0, .int 0, .int 0, .int 0, .ref (xa 20), .ref (xa 21), .ref (xa 22), .ref (xa 23), .ref (xa 24), .ref (xa 25), .ref (xa 26)]))]) [0, 5] rfl) ⟨Nat.le_of_ble_eq_true rfl, Nat.le_of_ble_eq_true rfl⟩ rfl hl.1 rfl (Nat.le_of_ble_eq_true rfl) dL_law_1082 ⟨Nat.le_of_ble_eq_true rfl, Nat.le_of_ble_eq_true rfl⟩) (fun r_3 hr_3 => ?_)
  have er_3 := hr_3
  subst er_3
  refine W.eq (g2 := F0 m 1085 ls [.long (-1000000000000)]) rfl ?_
  refine lv_aload_n hx hb dL_law_1085 rfl (lv_at hl 1 rfl) ?_
  refine lv_aload_n hx hb dL_law_1086 rfl (lv_at hl 3 rfl) ?_
  refine lv_iload_n hx hb dL_law_1087 rfl (lv_at hl 0 rfl) ?_
  refine lv_iconst (v := 1) hx hb dL_law_1088 (by decide) ?_
  refine lv_iadd hx hb dL_law_1089 ?_
  refine lv_topi (fun z_4 ez_4 => ?_)
  have ez_4 : z_4 = 1 := ez_4.trans (by decide)
  subst ez_4
  refine va_sld (i := 1) hx hb hX hbl hbA hS (by subst hL7; exact vp_in_iff.mpr (by decide)) dL_law_1090 ?_
  refine W.eq (g2 := F0 m 1091 ls [.int (xs 1), .ref (ma 0), .long (-1000000000000)]) rfl ?_
  refine lv_aload_n hx hb dL_law_1091 rfl (lv_at hl 3 rfl) ?_
  refine lv_iload_n hx hb dL_law_1092 rfl (lv_at hl 0 rfl) ?_
  refine lv_iconst (v := 2) hx hb dL_law_1093 (by decide) ?_
  refine lv_iadd hx hb dL_law_1094 ?_
  refine lv_topi (fun z_5 ez_5 => ?_)
  have ez_5 : z_5 = 2 := ez_5.trans (by decide)
  subst ez_5
  refine va_sld (i := 2) hx hb hX hbl hbA hS (by subst hL7; exact vp_in_iff.mpr (by decide)) dL_law_1095 ?_
  refine W.eq (g2 := F0 m 1096 ls [.int (xs 2), .int (xs 1), .ref (ma 0), .long (-1000000000000)]) rfl ?_
  refine fw_call (wc := [((ma 0), .inr (10, [.int 0, .ref (ma 1), .ref (ma 2), .ref (ma 3), .ref (ma 4), .ref (ma 5), .int 0, .int 0, .int 0, .int 0, .int 0, .long 0, .int 0, .int 0, .int 0, .int (-1), .ref (ma 16), .ref (ma 17), .ref (ma 18), .ref (ma 19), .ref (ma 20), .ref (ma 21), .ref (ma 22), .ref (ma 23), .ref (ma 24), .ref (ma 25), .ref (ma 26), .ref (ma 27), .ref (ma 28), .ref (ma 29), .ref (ma 30), .ref (ma 31), .ref (ma 32), .ref (ma 33), .ref (ma 34), .ref (ma 35), .ref (ma 36), .ref (ma 37), .ref (ma 38), .ref (ma 39), .ref (ma 40), .ref (ma 41), .long 0])), ((ma 20), .inl (cy 1, 5, .inl (fun _ => 0))), ((ma 18), .inl (cy 1, 5, .inl (fun _ => 0))), ((ma 17), .inl (cy 1, 20, .inl (fun _ => 0)))]) (wr := [((xa 0), .inr (9, [.ref (xa 1), .ref (xa 2), .ref (xa 3), .ref (xa 4), .ref (xa 5), .ref (xa 6), .ref (xa 7), .ref (xa 8), .ref (xa 9), .int 0, .ref (xa 11), .null, .int 0, .int (-1)])), ((xa 1), .inl (cy 0, 1600, .inl (fun _ => 0))), ((xa 2), .inr (4, [.int 0, .int (-1), .ref (xa 30), .int 0, .int 0, .int 0, .int 0, .int 0, .ref (xa 31), .int 0, .int 0, .int 0])), ((xa 8), .inl (cy 4, 4, .inr (.inr (.inr (.inr (fun _ => none)))))), ((xa 9), .inl (cy 5, 3, .inr (.inr (.inr (.inr (fun _ => none)))))), ((xa 11), .inr (2, [.int 0, .int 0, .int 0, .int 0, .int 0, .int 0, .int 0, .int 0, .int 1, .int 10, .int 0, .int 0, .int 0, .int 0, .ref (xa 20), .ref (xa 21), .ref (xa 22), .ref (xa 23), .ref (xa 24), .ref (xa 25), .ref (xa 26)])), ((ma 1), .inl (cy 1, 4, .inl fw)), ((ma 2), .inl (cy 1, 4, .inl (fun _ => 0))), ((ma 3), .inl (cy 2, 240, .inr (.inl (fun _ => 0)))), ((ma 5), .inl (cy 0, 1600, .inl (fun _ => 0))), ((ma 16), .inl (cy 1, 5, .inl (fun _ => 0))), ((ma 19), .inl (cy 1, 45, .inl (fun _ => 0))), ((ma 21), .inl (cy 1, 150, .inl (fun _ => 0))), ((ma 22), .inl (cy 1, 5, .inl (fun _ => 0))), ((ma 23), .inl (cy 1, 120, .inl (fun _ => 0))), ((ma 24), .inl (cy 1, 30, .inl (fun _ => 0))), ((ma 25), .inl (cy 3, 15, .inl (fun _ => 0))), ((ma 26), .inl (cy 1, 5, .inl (fun _ => 0))), ((ma 27), .inl (cy 1, 30, .inl (fun _ => 0))), ((ma 28), .inl (cy 3, 3, .inl (fun _ => 0)))]) (runV (As := [.int (xs 1), .int (xs 2)]) (rest := [.long (-1000000000000)]) ⟨hx, hb, hml, hown, hts⟩ (g_X10_signs l D cy ma (xs 1) (xs 2)  H.size) sV_L_114 hK (va_recv hK.1 hP (ci := 10) (q0 := 6) rfl rfl) (PW.of hP hD [6, 15, 13, 12] (by decide) rfl rfl) ⟨Nat.le_of_ble_eq_true rfl, Nat.le_of_ble_eq_true rfl⟩ rfl hl.1 rfl (Nat.le_of_ble_eq_true rfl) dL_law_1096 ⟨Nat.le_of_ble_eq_true rfl, Nat.le_of_ble_eq_true rfl⟩) hP hD hS hA [6, 15, 13, 12] [0, 1, 2, 3, 4, 5, 7, 8, 9, 10, 11, 14, 16, 17, 18, 19, 20, 21, 22, 23] rfl rfl (by decide) (by decide) (fun v u_6 H locs hv hP hD hS => ?_)
  have hP : va_P D vwCl [((xa 0), .inr (9, [.ref (xa 1), .ref (xa 2), .ref (xa 3), .ref (xa 4), .ref (xa 5), .ref (xa 6), .ref (xa 7), .ref (xa 8), .ref (xa 9), .int 0, .ref (xa 11), .null, .int 0, .int (-1)])), ((xa 1), .inl (cy 0, 1600, .inl (fun _ => 0))), ((xa 2), .inr (4, [.int 0, .int (-1), .ref (xa 30), .int 0, .int 0, .int 0, .int 0, .int 0, .ref (xa 31), .int 0, .int 0, .int 0])), ((xa 8), .inl (cy 4, 4, .inr (.inr (.inr (.inr (fun _ => none)))))), ((xa 9), .inl (cy 5, 3, .inr (.inr (.inr (.inr (fun _ => none)))))), ((xa 11), .inr (2, [.int 0, .int 0, .int 0, .int 0, .int 0, .int 0, .int 0, .int 0, .int 1, .int 10, .int 0, .int 0, .int 0, .int 0, .ref (xa 20), .ref (xa 21), .ref (xa 22), .ref (xa 23), .ref (xa 24), .ref (xa 25), .ref (xa 26)])), ((ma 1), .inl (cy 1, 4, .inl fw)), ((ma 2), .inl (cy 1, 4, .inl (fun _ => 0))), ((ma 3), .inl (cy 2, 240, .inr (.inl (fun _ => 0)))), ((ma 5), .inl (cy 0, 1600, .inl (fun _ => 0))), ((ma 16), .inl (cy 1, 5, .inl (fun _ => 0))), ((ma 19), .inl (cy 1, 45, .inl (fun _ => 0))), ((ma 21), .inl (cy 1, 150, .inl (fun _ => 0))), ((ma 22), .inl (cy 1, 5, .inl (fun _ => 0))), ((ma 23), .inl (cy 1, 120, .inl (fun _ => 0))), ((ma 24), .inl (cy 1, 30, .inl (fun _ => 0))), ((ma 25), .inl (cy 3, 15, .inl (fun _ => 0))), ((ma 26), .inl (cy 1, 5, .inl (fun _ => 0))), ((ma 27), .inl (cy 1, 30, .inl (fun _ => 0))), ((ma 28), .inl (cy 3, 3, .inl (fun _ => 0)))] H := hP
  have hD : va_D A [((xa 0), .inr (9, [.ref (xa 1), .ref (xa 2), .ref (xa 3), .ref (xa 4), .ref (xa 5), .ref (xa 6), .ref (xa 7), .ref (xa 8), .ref (xa 9), .int 0, .ref (xa 11), .null, .int 0, .int (-1)])), ((xa 1), .inl (cy 0, 1600, .inl (fun _ => 0))), ((xa 2), .inr (4, [.int 0, .int (-1), .ref (xa 30), .int 0, .int 0, .int 0, .int 0, .int 0, .ref (xa 31), .int 0, .int 0, .int 0])), ((xa 8), .inl (cy 4, 4, .inr (.inr (.inr (.inr (fun _ => none)))))), ((xa 9), .inl (cy 5, 3, .inr (.inr (.inr (.inr (fun _ => none)))))), ((xa 11), .inr (2, [.int 0, .int 0, .int 0, .int 0, .int 0, .int 0, .int 0, .int 0, .int 1, .int 10, .int 0, .int 0, .int 0, .int 0, .ref (xa 20), .ref (xa 21), .ref (xa 22), .ref (xa 23), .ref (xa 24), .ref (xa 25), .ref (xa 26)])), ((ma 1), .inl (cy 1, 4, .inl fw)), ((ma 2), .inl (cy 1, 4, .inl (fun _ => 0))), ((ma 3), .inl (cy 2, 240, .inr (.inl (fun _ => 0)))), ((ma 5), .inl (cy 0, 1600, .inl (fun _ => 0))), ((ma 16), .inl (cy 1, 5, .inl (fun _ => 0))), ((ma 19), .inl (cy 1, 45, .inl (fun _ => 0))), ((ma 21), .inl (cy 1, 150, .inl (fun _ => 0))), ((ma 22), .inl (cy 1, 5, .inl (fun _ => 0))), ((ma 23), .inl (cy 1, 120, .inl (fun _ => 0))), ((ma 24), .inl (cy 1, 30, .inl (fun _ => 0))), ((ma 25), .inl (cy 3, 15, .inl (fun _ => 0))), ((ma 26), .inl (cy 1, 5, .inl (fun _ => 0))), ((ma 27), .inl (cy 1, 30, .inl (fun _ => 0))), ((ma 28), .inl (cy 3, 3, .inl (fun _ => 0)))] := hD
  obtain ⟨r_7, rfl, hr_7⟩ := hv
  have er_7 := hr_7
  subst er_7
  refine W.eq (g2 := F0 m 1099 ls [.long (-1000000000000), .long (-1000000000000)]) rfl ?_
  refine W.lcmp hx hb dL_law_1099 ?_
  refine lv_topi (fun z_8 ez_8 => ?_)
  have ez_8 : z_8 = 0 := ez_8.trans (by decide)
  subst ez_8
  refine lv_if_eq (tgt := 2286) hx hb dL_law_1100 (by decide) (fun _ => ?_) (fun c_9 => absurd (by decide) c_9)
  exact law_end C0 hL7 hA2 hbA hS (lv_sub hl [0, 1, 2, 3] rfl) (Nat.le_of_ble_eq_true rfl) (Nat.le_of_ble_eq_true rfl)
set_option maxHeartbeats 4000000 in
set_option maxRecDepth 100000 in
theorem lc_23 {p : Program} {e : Env} {s : State} {m : MethodId} {below : List Frame} {meth : Method} {c : Code} {l : Launch} {b L : Nat} {xs : Nat → Int32} {A : Nat → Prop} (D : va_G) (cy : Nat → ClassId) (xa ma : Nat → Nat) (fw : Nat → Int32) (hw : ∀ k : Nat, k < 4 → fw k = -1) (hL7 : L = 7) (C0 : lw_At p s m meth c b L xs) (hK : KK D cy s) (hA : ∀ q : Nat, s.heap.size ≤ q → A q) (hA2 : ∀ q : Nat, A q → s.heap.size ≤ q) (hbA : ¬ A b) {H : Heap} {locs : List Loc} (hP : va_P D vwCl [((xa 0), .inr (9, [.ref (xa 1), .ref (xa 2), .ref (xa 3), .ref (xa 4), .ref (xa 5), .ref (xa 6), .ref (xa 7), .ref (xa 8), .ref (xa 9), .int 0, .ref (xa 11), .null, .int 0, .int (-1)])), ((xa 1), .inl (cy 0, 1600, .inl (fun _ => 0))), ((xa 2), .inr (4, [.int 0, .int (-1), .ref (xa 30), .int 0, .int 0, .int 0, .int 0, .int 0, .ref (xa 31), .int 0, .int 0, .int 0])), ((xa 8), .inl (cy 4, 4, .inr (.inr (.inr (.inr (fun _ => none)))))), ((xa 9), .inl (cy 5, 3, .inr (.inr (.inr (.inr (fun _ => none)))))), ((xa 11), .inr (2, [.int 0, .int 0, .int 0, .int 0, .int 0, .int 0, .int 0, .int 0, .int 1, .int 10, .int 0, .int 0, .int 0, .int 0, .ref (xa 20), .ref (xa 21), .ref (xa 22), .ref (xa 23), .ref (xa 24), .ref (xa 25), .ref (xa 26)])), ((ma 0), .inr (10, [.int 0, .ref (ma 1), .ref (ma 2), .ref (ma 3), .ref (ma 4), .ref (ma 5), .int 0, .int 0, .int 0, .int 0, .int 0, .long 0, .int 0, .int 0, .int 0, .int (-1), .ref (ma 16), .ref (ma 17), .ref (ma 18), .ref (ma 19), .ref (ma 20), .ref (ma 21), .ref (ma 22), .ref (ma 23), .ref (ma 24), .ref (ma 25), .ref (ma 26), .ref (ma 27), .ref (ma 28), .ref (ma 29), .ref (ma 30), .ref (ma 31), .ref (ma 32), .ref (ma 33), .ref (ma 34), .ref (ma 35), .ref (ma 36), .ref (ma 37), .ref (ma 38), .ref (ma 39), .ref (ma 40), .ref (ma 41), .long 0])), ((ma 1), .inl (cy 1, 4, .inl fw)), ((ma 2), .inl (cy 1, 4, .inl (fun _ => 0))), ((ma 3), .inl (cy 2, 240, .inr (.inl (fun _ => 0)))), ((ma 5), .inl (cy 0, 1600, .inl (fun _ => 0))), ((ma 16), .inl (cy 1, 5, .inl (fun _ => 0))), ((ma 17), .inl (cy 1, 20, .inl (fun _ => 0))), ((ma 18), .inl (cy 1, 5, .inl (fun _ => 0))), ((ma 19), .inl (cy 1, 45, .inl (fun _ => 0))), ((ma 20), .inl (cy 1, 5, .inl (fun _ => 0))), ((ma 21), .inl (cy 1, 150, .inl (fun _ => 0))), ((ma 22), .inl (cy 1, 5, .inl (fun _ => 0))), ((ma 23), .inl (cy 1, 120, .inl (fun _ => 0))), ((ma 24), .inl (cy 1, 30, .inl (fun _ => 0))), ((ma 25), .inl (cy 3, 15, .inl (fun _ => 0))), ((ma 26), .inl (cy 1, 5, .inl (fun _ => 0))), ((ma 27), .inl (cy 1, 30, .inl (fun _ => 0))), ((ma 28), .inl (cy 3, 3, .inl (fun _ => 0)))] H) (hD : va_D A [((xa 0), .inr (9, [.ref (xa 1), .ref (xa 2), .ref (xa 3), .ref (xa 4), .ref (xa 5), .ref (xa 6), .ref (xa 7), .ref (xa 8), .ref (xa 9), .int 0, .ref (xa 11), .null, .int 0, .int (-1)])), ((xa 1), .inl (cy 0, 1600, .inl (fun _ => 0))), ((xa 2), .inr (4, [.int 0, .int (-1), .ref (xa 30), .int 0, .int 0, .int 0, .int 0, .int 0, .ref (xa 31), .int 0, .int 0, .int 0])), ((xa 8), .inl (cy 4, 4, .inr (.inr (.inr (.inr (fun _ => none)))))), ((xa 9), .inl (cy 5, 3, .inr (.inr (.inr (.inr (fun _ => none)))))), ((xa 11), .inr (2, [.int 0, .int 0, .int 0, .int 0, .int 0, .int 0, .int 0, .int 0, .int 1, .int 10, .int 0, .int 0, .int 0, .int 0, .ref (xa 20), .ref (xa 21), .ref (xa 22), .ref (xa 23), .ref (xa 24), .ref (xa 25), .ref (xa 26)])), ((ma 0), .inr (10, [.int 0, .ref (ma 1), .ref (ma 2), .ref (ma 3), .ref (ma 4), .ref (ma 5), .int 0, .int 0, .int 0, .int 0, .int 0, .long 0, .int 0, .int 0, .int 0, .int (-1), .ref (ma 16), .ref (ma 17), .ref (ma 18), .ref (ma 19), .ref (ma 20), .ref (ma 21), .ref (ma 22), .ref (ma 23), .ref (ma 24), .ref (ma 25), .ref (ma 26), .ref (ma 27), .ref (ma 28), .ref (ma 29), .ref (ma 30), .ref (ma 31), .ref (ma 32), .ref (ma 33), .ref (ma 34), .ref (ma 35), .ref (ma 36), .ref (ma 37), .ref (ma 38), .ref (ma 39), .ref (ma 40), .ref (ma 41), .long 0])), ((ma 1), .inl (cy 1, 4, .inl fw)), ((ma 2), .inl (cy 1, 4, .inl (fun _ => 0))), ((ma 3), .inl (cy 2, 240, .inr (.inl (fun _ => 0)))), ((ma 5), .inl (cy 0, 1600, .inl (fun _ => 0))), ((ma 16), .inl (cy 1, 5, .inl (fun _ => 0))), ((ma 17), .inl (cy 1, 20, .inl (fun _ => 0))), ((ma 18), .inl (cy 1, 5, .inl (fun _ => 0))), ((ma 19), .inl (cy 1, 45, .inl (fun _ => 0))), ((ma 20), .inl (cy 1, 5, .inl (fun _ => 0))), ((ma 21), .inl (cy 1, 150, .inl (fun _ => 0))), ((ma 22), .inl (cy 1, 5, .inl (fun _ => 0))), ((ma 23), .inl (cy 1, 120, .inl (fun _ => 0))), ((ma 24), .inl (cy 1, 30, .inl (fun _ => 0))), ((ma 25), .inl (cy 3, 15, .inl (fun _ => 0))), ((ma 26), .inl (cy 1, 5, .inl (fun _ => 0))), ((ma 27), .inl (cy 1, 30, .inl (fun _ => 0))), ((ma 28), .inl (cy 3, 3, .inl (fun _ => 0)))]) (hS : va_S A s.heap H locs) {ls : Array Slot} (hl : lv_has ls 4 [(3, .int 0), (2, .ref (ma 0)), (1, .ref (xa 0)), (0, .ref b)]) : W p l e room_1 s m #[Value.ref b] below meth c H locs 82 108979 (lw_Z below #[Value.ref b] s) (F0 m 1105 ls []) := by
  obtain ⟨hx, hb, hr, hml, hown, hts, hX, hbl, hlocks, hgv⟩ := id C0
  have hown : s.vm.findClass RL = some m.cls := hown
  have hb : c.code = cL_law := hb
  have hts : ∀ w ∈ GW, w.before #[Value.ref b] s = true := fun w h => hts w (gw_tbl w h)
  refine lv_aload_n hx hb dL_law_1105 rfl (lv_at hl 2 rfl) ?_
  refine lv_aload_n hx hb dL_law_1106 rfl (lv_at hl 3 rfl) ?_
  refine lv_iload_n hx hb dL_law_1107 rfl (lv_at hl 0 rfl) ?_
  refine lv_iconst (v := 1) hx hb dL_law_1108 (by decide) ?_
  refine lv_iadd hx hb dL_law_1109 ?_
  refine lv_topi (fun z_1 ez_1 => ?_)
  have ez_1 : z_1 = 1 := ez_1.trans (by decide)
  subst ez_1
  refine va_sld (i := 1) hx hb hX hbl hbA hS (by subst hL7; exact vp_in_iff.mpr (by decide)) dL_law_1110 ?_
  refine W.eq (g2 := F0 m 1111 ls [.int (xs 1), .ref (xa 0)]) rfl ?_
  refine lv_aload_n hx hb dL_law_1111 rfl (lv_at hl 3 rfl) ?_
  refine lv_iload_n hx hb dL_law_1112 rfl (lv_at hl 0 rfl) ?_
  refine lv_iconst (v := 2) hx hb dL_law_1113 (by decide) ?_
  refine lv_iadd hx hb dL_law_1114 ?_
  refine lv_topi (fun z_2 ez_2 => ?_)
  have ez_2 : z_2 = 2 := ez_2.trans (by decide)
  subst ez_2
  refine va_sld (i := 2) hx hb hX hbl hbA hS (by subst hL7; exact vp_in_iff.mpr (by decide)) dL_law_1115 ?_
  refine W.eq (g2 := F0 m 1116 ls [.int (xs 2), .int (xs 1), .ref (xa 0)]) rfl ?_
  refine lv_aload_n hx hb dL_law_1116 rfl (lv_at hl 3 rfl) ?_
  refine lv_iload_n hx hb dL_law_1117 rfl (lv_at hl 0 rfl) ?_
  refine lv_iconst (v := 3) hx hb dL_law_1118 (by decide) ?_
  refine lv_iadd hx hb dL_law_1119 ?_
  refine lv_topi (fun z_3 ez_3 => ?_)
  have ez_3 : z_3 = 3 := ez_3.trans (by decide)
  subst ez_3
  refine va_sld (i := 3) hx hb hX hbl hbA hS (by subst hL7; exact vp_in_iff.mpr (by decide)) dL_law_1120 ?_
  refine W.eq (g2 := F0 m 1121 ls [.int (xs 3), .int (xs 2), .int (xs 1), .ref (xa 0)]) rfl ?_
  refine lv_aload_n hx hb dL_law_1121 rfl (lv_at hl 3 rfl) ?_
  refine lv_iload_n hx hb dL_law_1122 rfl (lv_at hl 0 rfl) ?_
  refine lv_iconst (v := 4) hx hb dL_law_1123 (by decide) ?_
  refine lv_iadd hx hb dL_law_1124 ?_
  refine lv_topi (fun z_4 ez_4 => ?_)
  have ez_4 : z_4 = 4 := ez_4.trans (by decide)
  subst ez_4
  refine va_sld (i := 4) hx hb hX hbl hbA hS (by subst hL7; exact vp_in_iff.mpr (by decide)) dL_law_1125 ?_
  refine W.eq (g2 := F0 m 1126 ls [.int (xs 4), .int (xs 3), .int (xs 2), .int (xs 1), .ref (xa 0)]) rfl ?_
  refine pu_calll (runV (As := [.int (xs 1), .int (xs 2), .int (xs 3), .int (xs 4)]) (rest := []) ⟨hx, hb, hml, hown, hts⟩ (f_X9_fork l D cy xa (xs 1) (xs 2) (xs 3) (xs 4) ) sV_L_115 hK (va_recv hK.1 hP (ci := 9) (q0 := 0) rfl rfl) (hP.sub (ws' := [((xa 0), .inr (9, [.ref (xa 1), .ref (xa 2), .ref (xa 3), .ref (xa 4), .ref (xa 5), .ref (xa 6), .ref (xa 7), .ref (xa 8), .ref (xa 9), .int 0, .ref (xa 11), .null, .int 0, .int (-1)])), ((xa 11), .inr (2, [.int 0, .int 0, .int 0, .int 0, .int 0, .int 0, .int 0, .int 0, .int 1, .int 10, .int 0, .int 0, .int 0, .int 0, .ref (xa 20), .ref (xa 21), .ref (xa 22), .ref (xa 23), .ref (xa 24), .ref (xa 25), .ref (xa 26)]))]) [0, 5] rfl) ⟨Nat.le_of_ble_eq_true rfl, Nat.le_of_ble_eq_true rfl⟩ rfl hl.1 rfl (Nat.le_of_ble_eq_true rfl) dL_law_1126 ⟨Nat.le_of_ble_eq_true rfl, Nat.le_of_ble_eq_true rfl⟩) (fun r_5 hr_5 => ?_)
  have er_5 := hr_5
  subst er_5
  refine W.eq (g2 := F0 m 1129 ls [.long (-2)]) rfl ?_
  refine lv_aload_n hx hb dL_law_1129 rfl (lv_at hl 1 rfl) ?_
  refine lv_aload_n hx hb dL_law_1130 rfl (lv_at hl 3 rfl) ?_
  refine lv_iload_n hx hb dL_law_1131 rfl (lv_at hl 0 rfl) ?_
  refine lv_iconst (v := 1) hx hb dL_law_1132 (by decide) ?_
  refine lv_iadd hx hb dL_law_1133 ?_
  refine lv_topi (fun z_6 ez_6 => ?_)
  have ez_6 : z_6 = 1 := ez_6.trans (by decide)
  subst ez_6
  refine va_sld (i := 1) hx hb hX hbl hbA hS (by subst hL7; exact vp_in_iff.mpr (by decide)) dL_law_1134 ?_
  refine W.eq (g2 := F0 m 1135 ls [.int (xs 1), .ref (ma 0), .long (-2)]) rfl ?_
  refine lv_aload_n hx hb dL_law_1135 rfl (lv_at hl 3 rfl) ?_
  refine lv_iload_n hx hb dL_law_1136 rfl (lv_at hl 0 rfl) ?_
  refine lv_iconst (v := 2) hx hb dL_law_1137 (by decide) ?_
  refine lv_iadd hx hb dL_law_1138 ?_
  refine lv_topi (fun z_7 ez_7 => ?_)
  have ez_7 : z_7 = 2 := ez_7.trans (by decide)
  subst ez_7
  refine va_sld (i := 2) hx hb hX hbl hbA hS (by subst hL7; exact vp_in_iff.mpr (by decide)) dL_law_1139 ?_
  refine W.eq (g2 := F0 m 1140 ls [.int (xs 2), .int (xs 1), .ref (ma 0), .long (-2)]) rfl ?_
  refine lv_aload_n hx hb dL_law_1140 rfl (lv_at hl 3 rfl) ?_
  refine lv_iload_n hx hb dL_law_1141 rfl (lv_at hl 0 rfl) ?_
  refine lv_iconst (v := 3) hx hb dL_law_1142 (by decide) ?_
  refine lv_iadd hx hb dL_law_1143 ?_
  refine lv_topi (fun z_8 ez_8 => ?_)
  have ez_8 : z_8 = 3 := ez_8.trans (by decide)
  subst ez_8
  refine va_sld (i := 3) hx hb hX hbl hbA hS (by subst hL7; exact vp_in_iff.mpr (by decide)) dL_law_1144 ?_
  refine W.eq (g2 := F0 m 1145 ls [.int (xs 3), .int (xs 2), .int (xs 1), .ref (ma 0), .long (-2)]) rfl ?_
  refine lv_aload_n hx hb dL_law_1145 rfl (lv_at hl 3 rfl) ?_
  refine lv_iload_n hx hb dL_law_1146 rfl (lv_at hl 0 rfl) ?_
  refine lv_iconst (v := 4) hx hb dL_law_1147 (by decide) ?_
  refine lv_iadd hx hb dL_law_1148 ?_
  refine lv_topi (fun z_9 ez_9 => ?_)
  have ez_9 : z_9 = 4 := ez_9.trans (by decide)
  subst ez_9
  refine va_sld (i := 4) hx hb hX hbl hbA hS (by subst hL7; exact vp_in_iff.mpr (by decide)) dL_law_1149 ?_
  refine W.eq (g2 := F0 m 1150 ls [.int (xs 4), .int (xs 3), .int (xs 2), .int (xs 1), .ref (ma 0), .long (-2)]) rfl ?_
  refine fw_call (wc := [((ma 0), .inr (10, [.int 0, .ref (ma 1), .ref (ma 2), .ref (ma 3), .ref (ma 4), .ref (ma 5), .int 0, .int 0, .int 0, .int 0, .int 0, .long 0, .int 0, .int 0, .int 0, .int (-1), .ref (ma 16), .ref (ma 17), .ref (ma 18), .ref (ma 19), .ref (ma 20), .ref (ma 21), .ref (ma 22), .ref (ma 23), .ref (ma 24), .ref (ma 25), .ref (ma 26), .ref (ma 27), .ref (ma 28), .ref (ma 29), .ref (ma 30), .ref (ma 31), .ref (ma 32), .ref (ma 33), .ref (ma 34), .ref (ma 35), .ref (ma 36), .ref (ma 37), .ref (ma 38), .ref (ma 39), .ref (ma 40), .ref (ma 41), .long 0])), ((ma 20), .inl (cy 1, 5, .inl (fun _ => 0))), ((ma 18), .inl (cy 1, 5, .inl (fun _ => 0))), ((ma 17), .inl (cy 1, 20, .inl (fun _ => 0)))]) (wr := [((xa 0), .inr (9, [.ref (xa 1), .ref (xa 2), .ref (xa 3), .ref (xa 4), .ref (xa 5), .ref (xa 6), .ref (xa 7), .ref (xa 8), .ref (xa 9), .int 0, .ref (xa 11), .null, .int 0, .int (-1)])), ((xa 1), .inl (cy 0, 1600, .inl (fun _ => 0))), ((xa 2), .inr (4, [.int 0, .int (-1), .ref (xa 30), .int 0, .int 0, .int 0, .int 0, .int 0, .ref (xa 31), .int 0, .int 0, .int 0])), ((xa 8), .inl (cy 4, 4, .inr (.inr (.inr (.inr (fun _ => none)))))), ((xa 9), .inl (cy 5, 3, .inr (.inr (.inr (.inr (fun _ => none)))))), ((xa 11), .inr (2, [.int 0, .int 0, .int 0, .int 0, .int 0, .int 0, .int 0, .int 0, .int 1, .int 10, .int 0, .int 0, .int 0, .int 0, .ref (xa 20), .ref (xa 21), .ref (xa 22), .ref (xa 23), .ref (xa 24), .ref (xa 25), .ref (xa 26)])), ((ma 1), .inl (cy 1, 4, .inl fw)), ((ma 2), .inl (cy 1, 4, .inl (fun _ => 0))), ((ma 3), .inl (cy 2, 240, .inr (.inl (fun _ => 0)))), ((ma 5), .inl (cy 0, 1600, .inl (fun _ => 0))), ((ma 16), .inl (cy 1, 5, .inl (fun _ => 0))), ((ma 19), .inl (cy 1, 45, .inl (fun _ => 0))), ((ma 21), .inl (cy 1, 150, .inl (fun _ => 0))), ((ma 22), .inl (cy 1, 5, .inl (fun _ => 0))), ((ma 23), .inl (cy 1, 120, .inl (fun _ => 0))), ((ma 24), .inl (cy 1, 30, .inl (fun _ => 0))), ((ma 25), .inl (cy 3, 15, .inl (fun _ => 0))), ((ma 26), .inl (cy 1, 5, .inl (fun _ => 0))), ((ma 27), .inl (cy 1, 30, .inl (fun _ => 0))), ((ma 28), .inl (cy 3, 3, .inl (fun _ => 0)))]) (runV (As := [.int (xs 1), .int (xs 2), .int (xs 3), .int (xs 4)]) (rest := [.long (-2)]) ⟨hx, hb, hml, hown, hts⟩ (g_X10_fork l D cy ma (xs 1) (xs 2) (xs 3) (xs 4)  H.size) sV_L_118 hK (va_recv hK.1 hP (ci := 10) (q0 := 6) rfl rfl) (PW.of hP hD [6, 15, 13, 12] (by decide) rfl rfl) ⟨Nat.le_of_ble_eq_true rfl, Nat.le_of_ble_eq_true rfl⟩ rfl hl.1 rfl (Nat.le_of_ble_eq_true rfl) dL_law_1150 ⟨Nat.le_of_ble_eq_true rfl, Nat.le_of_ble_eq_true rfl⟩) hP hD hS hA [6, 15, 13, 12] [0, 1, 2, 3, 4, 5, 7, 8, 9, 10, 11, 14, 16, 17, 18, 19, 20, 21, 22, 23] rfl rfl (by decide) (by decide) (fun v u_10 H locs hv hP hD hS => ?_)
  have hP : va_P D vwCl [((xa 0), .inr (9, [.ref (xa 1), .ref (xa 2), .ref (xa 3), .ref (xa 4), .ref (xa 5), .ref (xa 6), .ref (xa 7), .ref (xa 8), .ref (xa 9), .int 0, .ref (xa 11), .null, .int 0, .int (-1)])), ((xa 1), .inl (cy 0, 1600, .inl (fun _ => 0))), ((xa 2), .inr (4, [.int 0, .int (-1), .ref (xa 30), .int 0, .int 0, .int 0, .int 0, .int 0, .ref (xa 31), .int 0, .int 0, .int 0])), ((xa 8), .inl (cy 4, 4, .inr (.inr (.inr (.inr (fun _ => none)))))), ((xa 9), .inl (cy 5, 3, .inr (.inr (.inr (.inr (fun _ => none)))))), ((xa 11), .inr (2, [.int 0, .int 0, .int 0, .int 0, .int 0, .int 0, .int 0, .int 0, .int 1, .int 10, .int 0, .int 0, .int 0, .int 0, .ref (xa 20), .ref (xa 21), .ref (xa 22), .ref (xa 23), .ref (xa 24), .ref (xa 25), .ref (xa 26)])), ((ma 1), .inl (cy 1, 4, .inl fw)), ((ma 2), .inl (cy 1, 4, .inl (fun _ => 0))), ((ma 3), .inl (cy 2, 240, .inr (.inl (fun _ => 0)))), ((ma 5), .inl (cy 0, 1600, .inl (fun _ => 0))), ((ma 16), .inl (cy 1, 5, .inl (fun _ => 0))), ((ma 19), .inl (cy 1, 45, .inl (fun _ => 0))), ((ma 21), .inl (cy 1, 150, .inl (fun _ => 0))), ((ma 22), .inl (cy 1, 5, .inl (fun _ => 0))), ((ma 23), .inl (cy 1, 120, .inl (fun _ => 0))), ((ma 24), .inl (cy 1, 30, .inl (fun _ => 0))), ((ma 25), .inl (cy 3, 15, .inl (fun _ => 0))), ((ma 26), .inl (cy 1, 5, .inl (fun _ => 0))), ((ma 27), .inl (cy 1, 30, .inl (fun _ => 0))), ((ma 28), .inl (cy 3, 3, .inl (fun _ => 0)))] H := hP
  have hD : va_D A [((xa 0), .inr (9, [.ref (xa 1), .ref (xa 2), .ref (xa 3), .ref (xa 4), .ref (xa 5), .ref (xa 6), .ref (xa 7), .ref (xa 8), .ref (xa 9), .int 0, .ref (xa 11), .null, .int 0, .int (-1)])), ((xa 1), .inl (cy 0, 1600, .inl (fun _ => 0))), ((xa 2), .inr (4, [.int 0, .int (-1), .ref (xa 30), .int 0, .int 0, .int 0, .int 0, .int 0, .ref (xa 31), .int 0, .int 0, .int 0])), ((xa 8), .inl (cy 4, 4, .inr (.inr (.inr (.inr (fun _ => none)))))), ((xa 9), .inl (cy 5, 3, .inr (.inr (.inr (.inr (fun _ => none)))))), ((xa 11), .inr (2, [.int 0, .int 0, .int 0, .int 0, .int 0, .int 0, .int 0, .int 0, .int 1, .int 10, .int 0, .int 0, .int 0, .int 0, .ref (xa 20), .ref (xa 21), .ref (xa 22), .ref (xa 23), .ref (xa 24), .ref (xa 25), .ref (xa 26)])), ((ma 1), .inl (cy 1, 4, .inl fw)), ((ma 2), .inl (cy 1, 4, .inl (fun _ => 0))), ((ma 3), .inl (cy 2, 240, .inr (.inl (fun _ => 0)))), ((ma 5), .inl (cy 0, 1600, .inl (fun _ => 0))), ((ma 16), .inl (cy 1, 5, .inl (fun _ => 0))), ((ma 19), .inl (cy 1, 45, .inl (fun _ => 0))), ((ma 21), .inl (cy 1, 150, .inl (fun _ => 0))), ((ma 22), .inl (cy 1, 5, .inl (fun _ => 0))), ((ma 23), .inl (cy 1, 120, .inl (fun _ => 0))), ((ma 24), .inl (cy 1, 30, .inl (fun _ => 0))), ((ma 25), .inl (cy 3, 15, .inl (fun _ => 0))), ((ma 26), .inl (cy 1, 5, .inl (fun _ => 0))), ((ma 27), .inl (cy 1, 30, .inl (fun _ => 0))), ((ma 28), .inl (cy 3, 3, .inl (fun _ => 0)))] := hD
  obtain ⟨r_11, rfl, hr_11⟩ := hv
  have er_11 := hr_11
  subst er_11
  refine W.eq (g2 := F0 m 1153 ls [.long (-2), .long (-2)]) rfl ?_
  refine W.lcmp hx hb dL_law_1153 ?_
  refine lv_topi (fun z_12 ez_12 => ?_)
  have ez_12 : z_12 = 0 := ez_12.trans (by decide)
  subst ez_12
  refine lv_if_eq (tgt := 2286) hx hb dL_law_1154 (by decide) (fun _ => ?_) (fun c_13 => absurd (by decide) c_13)
  exact law_end C0 hL7 hA2 hbA hS (lv_sub hl [0, 1, 2, 3] rfl) (Nat.le_of_ble_eq_true rfl) (Nat.le_of_ble_eq_true rfl)
set_option maxHeartbeats 4000000 in
set_option maxRecDepth 100000 in
theorem lc_24 {p : Program} {e : Env} {s : State} {m : MethodId} {below : List Frame} {meth : Method} {c : Code} {l : Launch} {b L : Nat} {xs : Nat → Int32} {A : Nat → Prop} (D : va_G) (cy : Nat → ClassId) (xa ma : Nat → Nat) (fw : Nat → Int32) (hw : ∀ k : Nat, k < 4 → fw k = -1) (hL7 : L = 7) (C0 : lw_At p s m meth c b L xs) (hK : KK D cy s) (hA : ∀ q : Nat, s.heap.size ≤ q → A q) (hA2 : ∀ q : Nat, A q → s.heap.size ≤ q) (hbA : ¬ A b) {H : Heap} {locs : List Loc} (hP : va_P D vwCl [((xa 0), .inr (9, [.ref (xa 1), .ref (xa 2), .ref (xa 3), .ref (xa 4), .ref (xa 5), .ref (xa 6), .ref (xa 7), .ref (xa 8), .ref (xa 9), .int 0, .ref (xa 11), .null, .int 0, .int (-1)])), ((xa 1), .inl (cy 0, 1600, .inl (fun _ => 0))), ((xa 2), .inr (4, [.int 0, .int (-1), .ref (xa 30), .int 0, .int 0, .int 0, .int 0, .int 0, .ref (xa 31), .int 0, .int 0, .int 0])), ((xa 8), .inl (cy 4, 4, .inr (.inr (.inr (.inr (fun _ => none)))))), ((xa 9), .inl (cy 5, 3, .inr (.inr (.inr (.inr (fun _ => none)))))), ((xa 11), .inr (2, [.int 0, .int 0, .int 0, .int 0, .int 0, .int 0, .int 0, .int 0, .int 1, .int 10, .int 0, .int 0, .int 0, .int 0, .ref (xa 20), .ref (xa 21), .ref (xa 22), .ref (xa 23), .ref (xa 24), .ref (xa 25), .ref (xa 26)])), ((ma 0), .inr (10, [.int 0, .ref (ma 1), .ref (ma 2), .ref (ma 3), .ref (ma 4), .ref (ma 5), .int 0, .int 0, .int 0, .int 0, .int 0, .long 0, .int 0, .int 0, .int 0, .int (-1), .ref (ma 16), .ref (ma 17), .ref (ma 18), .ref (ma 19), .ref (ma 20), .ref (ma 21), .ref (ma 22), .ref (ma 23), .ref (ma 24), .ref (ma 25), .ref (ma 26), .ref (ma 27), .ref (ma 28), .ref (ma 29), .ref (ma 30), .ref (ma 31), .ref (ma 32), .ref (ma 33), .ref (ma 34), .ref (ma 35), .ref (ma 36), .ref (ma 37), .ref (ma 38), .ref (ma 39), .ref (ma 40), .ref (ma 41), .long 0])), ((ma 1), .inl (cy 1, 4, .inl fw)), ((ma 2), .inl (cy 1, 4, .inl (fun _ => 0))), ((ma 3), .inl (cy 2, 240, .inr (.inl (fun _ => 0)))), ((ma 5), .inl (cy 0, 1600, .inl (fun _ => 0))), ((ma 16), .inl (cy 1, 5, .inl (fun _ => 0))), ((ma 17), .inl (cy 1, 20, .inl (fun _ => 0))), ((ma 18), .inl (cy 1, 5, .inl (fun _ => 0))), ((ma 19), .inl (cy 1, 45, .inl (fun _ => 0))), ((ma 20), .inl (cy 1, 5, .inl (fun _ => 0))), ((ma 21), .inl (cy 1, 150, .inl (fun _ => 0))), ((ma 22), .inl (cy 1, 5, .inl (fun _ => 0))), ((ma 23), .inl (cy 1, 120, .inl (fun _ => 0))), ((ma 24), .inl (cy 1, 30, .inl (fun _ => 0))), ((ma 25), .inl (cy 3, 15, .inl (fun _ => 0))), ((ma 26), .inl (cy 1, 5, .inl (fun _ => 0))), ((ma 27), .inl (cy 1, 30, .inl (fun _ => 0))), ((ma 28), .inl (cy 3, 3, .inl (fun _ => 0)))] H) (hD : va_D A [((xa 0), .inr (9, [.ref (xa 1), .ref (xa 2), .ref (xa 3), .ref (xa 4), .ref (xa 5), .ref (xa 6), .ref (xa 7), .ref (xa 8), .ref (xa 9), .int 0, .ref (xa 11), .null, .int 0, .int (-1)])), ((xa 1), .inl (cy 0, 1600, .inl (fun _ => 0))), ((xa 2), .inr (4, [.int 0, .int (-1), .ref (xa 30), .int 0, .int 0, .int 0, .int 0, .int 0, .ref (xa 31), .int 0, .int 0, .int 0])), ((xa 8), .inl (cy 4, 4, .inr (.inr (.inr (.inr (fun _ => none)))))), ((xa 9), .inl (cy 5, 3, .inr (.inr (.inr (.inr (fun _ => none)))))), ((xa 11), .inr (2, [.int 0, .int 0, .int 0, .int 0, .int 0, .int 0, .int 0, .int 0, .int 1, .int 10, .int 0, .int 0, .int 0, .int 0, .ref (xa 20), .ref (xa 21), .ref (xa 22), .ref (xa 23), .ref (xa 24), .ref (xa 25), .ref (xa 26)])), ((ma 0), .inr (10, [.int 0, .ref (ma 1), .ref (ma 2), .ref (ma 3), .ref (ma 4), .ref (ma 5), .int 0, .int 0, .int 0, .int 0, .int 0, .long 0, .int 0, .int 0, .int 0, .int (-1), .ref (ma 16), .ref (ma 17), .ref (ma 18), .ref (ma 19), .ref (ma 20), .ref (ma 21), .ref (ma 22), .ref (ma 23), .ref (ma 24), .ref (ma 25), .ref (ma 26), .ref (ma 27), .ref (ma 28), .ref (ma 29), .ref (ma 30), .ref (ma 31), .ref (ma 32), .ref (ma 33), .ref (ma 34), .ref (ma 35), .ref (ma 36), .ref (ma 37), .ref (ma 38), .ref (ma 39), .ref (ma 40), .ref (ma 41), .long 0])), ((ma 1), .inl (cy 1, 4, .inl fw)), ((ma 2), .inl (cy 1, 4, .inl (fun _ => 0))), ((ma 3), .inl (cy 2, 240, .inr (.inl (fun _ => 0)))), ((ma 5), .inl (cy 0, 1600, .inl (fun _ => 0))), ((ma 16), .inl (cy 1, 5, .inl (fun _ => 0))), ((ma 17), .inl (cy 1, 20, .inl (fun _ => 0))), ((ma 18), .inl (cy 1, 5, .inl (fun _ => 0))), ((ma 19), .inl (cy 1, 45, .inl (fun _ => 0))), ((ma 20), .inl (cy 1, 5, .inl (fun _ => 0))), ((ma 21), .inl (cy 1, 150, .inl (fun _ => 0))), ((ma 22), .inl (cy 1, 5, .inl (fun _ => 0))), ((ma 23), .inl (cy 1, 120, .inl (fun _ => 0))), ((ma 24), .inl (cy 1, 30, .inl (fun _ => 0))), ((ma 25), .inl (cy 3, 15, .inl (fun _ => 0))), ((ma 26), .inl (cy 1, 5, .inl (fun _ => 0))), ((ma 27), .inl (cy 1, 30, .inl (fun _ => 0))), ((ma 28), .inl (cy 3, 3, .inl (fun _ => 0)))]) (hS : va_S A s.heap H locs) {ls : Array Slot} (hl : lv_has ls 4 [(3, .int 0), (2, .ref (ma 0)), (1, .ref (xa 0)), (0, .ref b)]) : W p l e room_1 s m #[Value.ref b] below meth c H locs 82 108979 (lw_Z below #[Value.ref b] s) (F0 m 1159 ls []) := by
  obtain ⟨hx, hb, hr, hml, hown, hts, hX, hbl, hlocks, hgv⟩ := id C0
  have hown : s.vm.findClass RL = some m.cls := hown
  have hb : c.code = cL_law := hb
  have hts : ∀ w ∈ GW, w.before #[Value.ref b] s = true := fun w h => hts w (gw_tbl w h)
  refine lv_aload_n hx hb dL_law_1159 rfl (lv_at hl 2 rfl) ?_
  refine lv_aload_n hx hb dL_law_1160 rfl (lv_at hl 3 rfl) ?_
  refine lv_iload_n hx hb dL_law_1161 rfl (lv_at hl 0 rfl) ?_
  refine lv_iconst (v := 1) hx hb dL_law_1162 (by decide) ?_
  refine lv_iadd hx hb dL_law_1163 ?_
  refine lv_topi (fun z_1 ez_1 => ?_)
  have ez_1 : z_1 = 1 := ez_1.trans (by decide)
  subst ez_1
  refine va_sld (i := 1) hx hb hX hbl hbA hS (by subst hL7; exact vp_in_iff.mpr (by decide)) dL_law_1164 ?_
  refine W.eq (g2 := F0 m 1165 ls [.int (xs 1), .ref (xa 0)]) rfl ?_
  refine lv_aload_n hx hb dL_law_1165 rfl (lv_at hl 3 rfl) ?_
  refine lv_iload_n hx hb dL_law_1166 rfl (lv_at hl 0 rfl) ?_
  refine lv_iconst (v := 2) hx hb dL_law_1167 (by decide) ?_
  refine lv_iadd hx hb dL_law_1168 ?_
  refine lv_topi (fun z_2 ez_2 => ?_)
  have ez_2 : z_2 = 2 := ez_2.trans (by decide)
  subst ez_2
  refine va_sld (i := 2) hx hb hX hbl hbA hS (by subst hL7; exact vp_in_iff.mpr (by decide)) dL_law_1169 ?_
  refine W.eq (g2 := F0 m 1170 ls [.int (xs 2), .int (xs 1), .ref (xa 0)]) rfl ?_
  refine lv_aload_n hx hb dL_law_1170 rfl (lv_at hl 3 rfl) ?_
  refine lv_iload_n hx hb dL_law_1171 rfl (lv_at hl 0 rfl) ?_
  refine lv_iconst (v := 3) hx hb dL_law_1172 (by decide) ?_
  refine lv_iadd hx hb dL_law_1173 ?_
  refine lv_topi (fun z_3 ez_3 => ?_)
  have ez_3 : z_3 = 3 := ez_3.trans (by decide)
  subst ez_3
  refine va_sld (i := 3) hx hb hX hbl hbA hS (by subst hL7; exact vp_in_iff.mpr (by decide)) dL_law_1174 ?_
  refine W.eq (g2 := F0 m 1175 ls [.int (xs 3), .int (xs 2), .int (xs 1), .ref (xa 0)]) rfl ?_
  refine pu_calli (runV (As := [.int (xs 1), .int (xs 2), .int (xs 3)]) (rest := []) ⟨hx, hb, hml, hown, hts⟩ (f_X9_middle l D cy xa (xs 1) (xs 2) (xs 3) ) sV_L_119 hK (va_recv hK.1 hP (ci := 9) (q0 := 0) rfl rfl) (hP.sub (ws' := [((xa 0), .inr (9, [.ref (xa 1), .ref (xa 2), .ref (xa 3), .ref (xa 4), .ref (xa 5), .ref (xa 6), .ref (xa 7), .ref (xa 8), .ref (xa 9), .int 0, .ref (xa 11), .null, .int 0, .int (-1)])), ((xa 11), .inr (2, [.int 0, .int 0, .int 0, .int 0, .int 0, .int 0, .int 0, .int 0, .int 1, .int 10, .int 0, .int 0, .int 0, .int 0, .ref (xa 20), .ref (xa 21), .ref (xa 22), .ref (xa 23), .ref (xa 24), .ref (xa 25), .ref (xa 26)]))]) [0, 5] rfl) ⟨Nat.le_of_ble_eq_true rfl, Nat.le_of_ble_eq_true rfl⟩ rfl hl.1 rfl (Nat.le_of_ble_eq_true rfl) dL_law_1175 ⟨Nat.le_of_ble_eq_true rfl, Nat.le_of_ble_eq_true rfl⟩) (fun r_4 hr_4 => ?_)
  have er_4 := hr_4
  subst er_4
  refine W.eq (g2 := F0 m 1178 ls [.int (-2)]) rfl ?_
  refine lv_aload_n hx hb dL_law_1178 rfl (lv_at hl 1 rfl) ?_
  refine lv_aload_n hx hb dL_law_1179 rfl (lv_at hl 3 rfl) ?_
  refine lv_iload_n hx hb dL_law_1180 rfl (lv_at hl 0 rfl) ?_
  refine lv_iconst (v := 1) hx hb dL_law_1181 (by decide) ?_
  refine lv_iadd hx hb dL_law_1182 ?_
  refine lv_topi (fun z_5 ez_5 => ?_)
  have ez_5 : z_5 = 1 := ez_5.trans (by decide)
  subst ez_5
  refine va_sld (i := 1) hx hb hX hbl hbA hS (by subst hL7; exact vp_in_iff.mpr (by decide)) dL_law_1183 ?_
  refine W.eq (g2 := F0 m 1184 ls [.int (xs 1), .ref (ma 0), .int (-2)]) rfl ?_
  refine lv_aload_n hx hb dL_law_1184 rfl (lv_at hl 3 rfl) ?_
  refine lv_iload_n hx hb dL_law_1185 rfl (lv_at hl 0 rfl) ?_
  refine lv_iconst (v := 2) hx hb dL_law_1186 (by decide) ?_
  refine lv_iadd hx hb dL_law_1187 ?_
  refine lv_topi (fun z_6 ez_6 => ?_)
  have ez_6 : z_6 = 2 := ez_6.trans (by decide)
  subst ez_6
  refine va_sld (i := 2) hx hb hX hbl hbA hS (by subst hL7; exact vp_in_iff.mpr (by decide)) dL_law_1188 ?_
  refine W.eq (g2 := F0 m 1189 ls [.int (xs 2), .int (xs 1), .ref (ma 0), .int (-2)]) rfl ?_
  refine lv_aload_n hx hb dL_law_1189 rfl (lv_at hl 3 rfl) ?_
  refine lv_iload_n hx hb dL_law_1190 rfl (lv_at hl 0 rfl) ?_
  refine lv_iconst (v := 3) hx hb dL_law_1191 (by decide) ?_
  refine lv_iadd hx hb dL_law_1192 ?_
  refine lv_topi (fun z_7 ez_7 => ?_)
  have ez_7 : z_7 = 3 := ez_7.trans (by decide)
  subst ez_7
  refine va_sld (i := 3) hx hb hX hbl hbA hS (by subst hL7; exact vp_in_iff.mpr (by decide)) dL_law_1193 ?_
  refine W.eq (g2 := F0 m 1194 ls [.int (xs 3), .int (xs 2), .int (xs 1), .ref (ma 0), .int (-2)]) rfl ?_
  refine fw_call (wc := [((ma 0), .inr (10, [.int 0, .ref (ma 1), .ref (ma 2), .ref (ma 3), .ref (ma 4), .ref (ma 5), .int 0, .int 0, .int 0, .int 0, .int 0, .long 0, .int 0, .int 0, .int 0, .int (-1), .ref (ma 16), .ref (ma 17), .ref (ma 18), .ref (ma 19), .ref (ma 20), .ref (ma 21), .ref (ma 22), .ref (ma 23), .ref (ma 24), .ref (ma 25), .ref (ma 26), .ref (ma 27), .ref (ma 28), .ref (ma 29), .ref (ma 30), .ref (ma 31), .ref (ma 32), .ref (ma 33), .ref (ma 34), .ref (ma 35), .ref (ma 36), .ref (ma 37), .ref (ma 38), .ref (ma 39), .ref (ma 40), .ref (ma 41), .long 0])), ((ma 20), .inl (cy 1, 5, .inl (fun _ => 0))), ((ma 18), .inl (cy 1, 5, .inl (fun _ => 0))), ((ma 17), .inl (cy 1, 20, .inl (fun _ => 0)))]) (wr := [((xa 0), .inr (9, [.ref (xa 1), .ref (xa 2), .ref (xa 3), .ref (xa 4), .ref (xa 5), .ref (xa 6), .ref (xa 7), .ref (xa 8), .ref (xa 9), .int 0, .ref (xa 11), .null, .int 0, .int (-1)])), ((xa 1), .inl (cy 0, 1600, .inl (fun _ => 0))), ((xa 2), .inr (4, [.int 0, .int (-1), .ref (xa 30), .int 0, .int 0, .int 0, .int 0, .int 0, .ref (xa 31), .int 0, .int 0, .int 0])), ((xa 8), .inl (cy 4, 4, .inr (.inr (.inr (.inr (fun _ => none)))))), ((xa 9), .inl (cy 5, 3, .inr (.inr (.inr (.inr (fun _ => none)))))), ((xa 11), .inr (2, [.int 0, .int 0, .int 0, .int 0, .int 0, .int 0, .int 0, .int 0, .int 1, .int 10, .int 0, .int 0, .int 0, .int 0, .ref (xa 20), .ref (xa 21), .ref (xa 22), .ref (xa 23), .ref (xa 24), .ref (xa 25), .ref (xa 26)])), ((ma 1), .inl (cy 1, 4, .inl fw)), ((ma 2), .inl (cy 1, 4, .inl (fun _ => 0))), ((ma 3), .inl (cy 2, 240, .inr (.inl (fun _ => 0)))), ((ma 5), .inl (cy 0, 1600, .inl (fun _ => 0))), ((ma 16), .inl (cy 1, 5, .inl (fun _ => 0))), ((ma 19), .inl (cy 1, 45, .inl (fun _ => 0))), ((ma 21), .inl (cy 1, 150, .inl (fun _ => 0))), ((ma 22), .inl (cy 1, 5, .inl (fun _ => 0))), ((ma 23), .inl (cy 1, 120, .inl (fun _ => 0))), ((ma 24), .inl (cy 1, 30, .inl (fun _ => 0))), ((ma 25), .inl (cy 3, 15, .inl (fun _ => 0))), ((ma 26), .inl (cy 1, 5, .inl (fun _ => 0))), ((ma 27), .inl (cy 1, 30, .inl (fun _ => 0))), ((ma 28), .inl (cy 3, 3, .inl (fun _ => 0)))]) (runV (As := [.int (xs 1), .int (xs 2), .int (xs 3)]) (rest := [.int (-2)]) ⟨hx, hb, hml, hown, hts⟩ (g_X10_middle l D cy ma (xs 1) (xs 2) (xs 3)  H.size) sV_L_122 hK (va_recv hK.1 hP (ci := 10) (q0 := 6) rfl rfl) (PW.of hP hD [6, 15, 13, 12] (by decide) rfl rfl) ⟨Nat.le_of_ble_eq_true rfl, Nat.le_of_ble_eq_true rfl⟩ rfl hl.1 rfl (Nat.le_of_ble_eq_true rfl) dL_law_1194 ⟨Nat.le_of_ble_eq_true rfl, Nat.le_of_ble_eq_true rfl⟩) hP hD hS hA [6, 15, 13, 12] [0, 1, 2, 3, 4, 5, 7, 8, 9, 10, 11, 14, 16, 17, 18, 19, 20, 21, 22, 23] rfl rfl (by decide) (by decide) (fun v u_8 H locs hv hP hD hS => ?_)
  have hP : va_P D vwCl [((xa 0), .inr (9, [.ref (xa 1), .ref (xa 2), .ref (xa 3), .ref (xa 4), .ref (xa 5), .ref (xa 6), .ref (xa 7), .ref (xa 8), .ref (xa 9), .int 0, .ref (xa 11), .null, .int 0, .int (-1)])), ((xa 1), .inl (cy 0, 1600, .inl (fun _ => 0))), ((xa 2), .inr (4, [.int 0, .int (-1), .ref (xa 30), .int 0, .int 0, .int 0, .int 0, .int 0, .ref (xa 31), .int 0, .int 0, .int 0])), ((xa 8), .inl (cy 4, 4, .inr (.inr (.inr (.inr (fun _ => none)))))), ((xa 9), .inl (cy 5, 3, .inr (.inr (.inr (.inr (fun _ => none)))))), ((xa 11), .inr (2, [.int 0, .int 0, .int 0, .int 0, .int 0, .int 0, .int 0, .int 0, .int 1, .int 10, .int 0, .int 0, .int 0, .int 0, .ref (xa 20), .ref (xa 21), .ref (xa 22), .ref (xa 23), .ref (xa 24), .ref (xa 25), .ref (xa 26)])), ((ma 1), .inl (cy 1, 4, .inl fw)), ((ma 2), .inl (cy 1, 4, .inl (fun _ => 0))), ((ma 3), .inl (cy 2, 240, .inr (.inl (fun _ => 0)))), ((ma 5), .inl (cy 0, 1600, .inl (fun _ => 0))), ((ma 16), .inl (cy 1, 5, .inl (fun _ => 0))), ((ma 19), .inl (cy 1, 45, .inl (fun _ => 0))), ((ma 21), .inl (cy 1, 150, .inl (fun _ => 0))), ((ma 22), .inl (cy 1, 5, .inl (fun _ => 0))), ((ma 23), .inl (cy 1, 120, .inl (fun _ => 0))), ((ma 24), .inl (cy 1, 30, .inl (fun _ => 0))), ((ma 25), .inl (cy 3, 15, .inl (fun _ => 0))), ((ma 26), .inl (cy 1, 5, .inl (fun _ => 0))), ((ma 27), .inl (cy 1, 30, .inl (fun _ => 0))), ((ma 28), .inl (cy 3, 3, .inl (fun _ => 0)))] H := hP
  have hD : va_D A [((xa 0), .inr (9, [.ref (xa 1), .ref (xa 2), .ref (xa 3), .ref (xa 4), .ref (xa 5), .ref (xa 6), .ref (xa 7), .ref (xa 8), .ref (xa 9), .int 0, .ref (xa 11), .null, .int 0, .int (-1)])), ((xa 1), .inl (cy 0, 1600, .inl (fun _ => 0))), ((xa 2), .inr (4, [.int 0, .int (-1), .ref (xa 30), .int 0, .int 0, .int 0, .int 0, .int 0, .ref (xa 31), .int 0, .int 0, .int 0])), ((xa 8), .inl (cy 4, 4, .inr (.inr (.inr (.inr (fun _ => none)))))), ((xa 9), .inl (cy 5, 3, .inr (.inr (.inr (.inr (fun _ => none)))))), ((xa 11), .inr (2, [.int 0, .int 0, .int 0, .int 0, .int 0, .int 0, .int 0, .int 0, .int 1, .int 10, .int 0, .int 0, .int 0, .int 0, .ref (xa 20), .ref (xa 21), .ref (xa 22), .ref (xa 23), .ref (xa 24), .ref (xa 25), .ref (xa 26)])), ((ma 1), .inl (cy 1, 4, .inl fw)), ((ma 2), .inl (cy 1, 4, .inl (fun _ => 0))), ((ma 3), .inl (cy 2, 240, .inr (.inl (fun _ => 0)))), ((ma 5), .inl (cy 0, 1600, .inl (fun _ => 0))), ((ma 16), .inl (cy 1, 5, .inl (fun _ => 0))), ((ma 19), .inl (cy 1, 45, .inl (fun _ => 0))), ((ma 21), .inl (cy 1, 150, .inl (fun _ => 0))), ((ma 22), .inl (cy 1, 5, .inl (fun _ => 0))), ((ma 23), .inl (cy 1, 120, .inl (fun _ => 0))), ((ma 24), .inl (cy 1, 30, .inl (fun _ => 0))), ((ma 25), .inl (cy 3, 15, .inl (fun _ => 0))), ((ma 26), .inl (cy 1, 5, .inl (fun _ => 0))), ((ma 27), .inl (cy 1, 30, .inl (fun _ => 0))), ((ma 28), .inl (cy 3, 3, .inl (fun _ => 0)))] := hD
  obtain ⟨r_9, rfl, hr_9⟩ := hv
  have er_9 := hr_9
  subst er_9
  refine W.eq (g2 := F0 m 1197 ls [.int (-2), .int (-2)]) rfl ?_
  refine lv_icmp_eq (tgt := 2286) hx hb dL_law_1197 (by decide) (fun _ => ?_) (fun c_10 => absurd (by decide) c_10)
  exact law_end C0 hL7 hA2 hbA hS (lv_sub hl [0, 1, 2, 3] rfl) (Nat.le_of_ble_eq_true rfl) (Nat.le_of_ble_eq_true rfl)
