theorem dL_law_948 : decode cL_law 948 = .ok (.aload_n 1, 1) := by decide +kernel
theorem dL_law_949 : decode cL_law 949 = .ok (.aload_n 0, 1) := by decide +kernel
theorem dL_law_950 : decode cL_law 950 = .ok (.iload_n 3, 1) := by decide +kernel
theorem dL_law_951 : decode cL_law 951 = .ok (.iconst 1, 1) := by decide +kernel
theorem dL_law_952 : decode cL_law 952 = .ok (.iadd, 1) := by decide +kernel
theorem dL_law_953 : decode cL_law 953 = .ok (.iaload, 1) := by decide +kernel
theorem dL_law_954 : decode cL_law 954 = .ok (.aload_n 0, 1) := by decide +kernel
theorem dL_law_955 : decode cL_law 955 = .ok (.iload_n 3, 1) := by decide +kernel
theorem dL_law_956 : decode cL_law 956 = .ok (.iconst 2, 1) := by decide +kernel
theorem dL_law_957 : decode cL_law 957 = .ok (.iadd, 1) := by decide +kernel
theorem dL_law_958 : decode cL_law 958 = .ok (.iaload, 1) := by decide +kernel
theorem dL_law_959 : decode cL_law 959 = .ok (.aload_n 0, 1) := by decide +kernel
theorem dL_law_960 : decode cL_law 960 = .ok (.iload_n 3, 1) := by decide +kernel
theorem dL_law_961 : decode cL_law 961 = .ok (.iconst 3, 1) := by decide +kernel
theorem dL_law_962 : decode cL_law 962 = .ok (.iadd, 1) := by decide +kernel
theorem dL_law_963 : decode cL_law 963 = .ok (.iaload, 1) := by decide +kernel
theorem dL_law_964 : decode cL_law 964 = .ok (.aload_n 0, 1) := by decide +kernel
theorem dL_law_965 : decode cL_law 965 = .ok (.iload_n 3, 1) := by decide +kernel
theorem dL_law_966 : decode cL_law 966 = .ok (.iconst 4, 1) := by decide +kernel
theorem dL_law_967 : decode cL_law 967 = .ok (.iadd, 1) := by decide +kernel
theorem dL_law_968 : decode cL_law 968 = .ok (.iaload, 1) := by decide +kernel
theorem dL_law_969 : decode cL_law 969 = .ok (.ifCond .eq 7, 3) := by decide +kernel
theorem dL_law_976 : decode cL_law 976 = .ok (.iconst 0, 1) := by decide +kernel
theorem dL_law_977 : decode cL_law 977 = .ok (.aload_n 0, 1) := by decide +kernel
theorem dL_law_978 : decode cL_law 978 = .ok (.iload_n 3, 1) := by decide +kernel
theorem dL_law_979 : decode cL_law 979 = .ok (.iconst 5, 1) := by decide +kernel
theorem dL_law_980 : decode cL_law 980 = .ok (.iadd, 1) := by decide +kernel
theorem dL_law_981 : decode cL_law 981 = .ok (.iaload, 1) := by decide +kernel
theorem dL_law_982 : decode cL_law 982 = .ok (.invokevirtual 102, 3) := by decide +kernel
theorem dL_law_985 : decode cL_law 985 = .ok (.pop, 1) := by decide +kernel
theorem dL_law_986 : decode cL_law 986 = .ok (.aload_n 2, 1) := by decide +kernel
theorem dL_law_987 : decode cL_law 987 = .ok (.aload_n 0, 1) := by decide +kernel
theorem dL_law_988 : decode cL_law 988 = .ok (.iload_n 3, 1) := by decide +kernel
theorem dL_law_989 : decode cL_law 989 = .ok (.iconst 1, 1) := by decide +kernel
theorem dL_law_990 : decode cL_law 990 = .ok (.iadd, 1) := by decide +kernel
theorem dL_law_991 : decode cL_law 991 = .ok (.iaload, 1) := by decide +kernel
theorem dL_law_992 : decode cL_law 992 = .ok (.aload_n 0, 1) := by decide +kernel
theorem dL_law_993 : decode cL_law 993 = .ok (.iload_n 3, 1) := by decide +kernel
theorem dL_law_994 : decode cL_law 994 = .ok (.iconst 2, 1) := by decide +kernel
theorem dL_law_995 : decode cL_law 995 = .ok (.iadd, 1) := by decide +kernel
theorem dL_law_996 : decode cL_law 996 = .ok (.iaload, 1) := by decide +kernel
theorem dL_law_997 : decode cL_law 997 = .ok (.aload_n 0, 1) := by decide +kernel
theorem dL_law_998 : decode cL_law 998 = .ok (.iload_n 3, 1) := by decide +kernel
theorem dL_law_999 : decode cL_law 999 = .ok (.iconst 3, 1) := by decide +kernel
theorem dL_law_1000 : decode cL_law 1000 = .ok (.iadd, 1) := by decide +kernel
theorem dL_law_1001 : decode cL_law 1001 = .ok (.iaload, 1) := by decide +kernel
theorem dL_law_1002 : decode cL_law 1002 = .ok (.aload_n 0, 1) := by decide +kernel
theorem dL_law_1003 : decode cL_law 1003 = .ok (.iload_n 3, 1) := by decide +kernel
theorem dL_law_1004 : decode cL_law 1004 = .ok (.iconst 4, 1) := by decide +kernel
theorem dL_law_1005 : decode cL_law 1005 = .ok (.iadd, 1) := by decide +kernel
theorem dL_law_1006 : decode cL_law 1006 = .ok (.iaload, 1) := by decide +kernel
theorem dL_law_1007 : decode cL_law 1007 = .ok (.ifCond .eq 7, 3) := by decide +kernel
theorem dL_law_1014 : decode cL_law 1014 = .ok (.iconst 0, 1) := by decide +kernel
theorem dL_law_1015 : decode cL_law 1015 = .ok (.aload_n 0, 1) := by decide +kernel
theorem dL_law_1016 : decode cL_law 1016 = .ok (.iload_n 3, 1) := by decide +kernel
theorem dL_law_1017 : decode cL_law 1017 = .ok (.iconst 5, 1) := by decide +kernel
theorem dL_law_1018 : decode cL_law 1018 = .ok (.iadd, 1) := by decide +kernel
theorem dL_law_1019 : decode cL_law 1019 = .ok (.iaload, 1) := by decide +kernel
theorem dL_law_1020 : decode cL_law 1020 = .ok (.invokevirtual 106, 3) := by decide +kernel
theorem dL_law_1023 : decode cL_law 1023 = .ok (.pop, 1) := by decide +kernel
theorem dL_law_1024 : decode cL_law 1024 = .ok (.goto 1242, 3) := by decide +kernel
theorem dL_law_972 : decode cL_law 972 = .ok (.iconst 1, 1) := by decide +kernel
theorem dL_law_973 : decode cL_law 973 = .ok (.goto 4, 3) := by decide +kernel
theorem dL_law_1010 : decode cL_law 1010 = .ok (.iconst 1, 1) := by decide +kernel
theorem dL_law_1011 : decode cL_law 1011 = .ok (.goto 4, 3) := by decide +kernel
theorem dL_law_1027 : decode cL_law 1027 = .ok (.aload_n 1, 1) := by decide +kernel
theorem dL_law_1028 : decode cL_law 1028 = .ok (.aload_n 0, 1) := by decide +kernel
theorem dL_law_1029 : decode cL_law 1029 = .ok (.iload_n 3, 1) := by decide +kernel
theorem dL_law_1030 : decode cL_law 1030 = .ok (.iconst 1, 1) := by decide +kernel
theorem dL_law_1031 : decode cL_law 1031 = .ok (.iadd, 1) := by decide +kernel
theorem dL_law_1032 : decode cL_law 1032 = .ok (.iaload, 1) := by decide +kernel
theorem dL_law_1033 : decode cL_law 1033 = .ok (.aload_n 0, 1) := by decide +kernel
theorem dL_law_1034 : decode cL_law 1034 = .ok (.iload_n 3, 1) := by decide +kernel
theorem dL_law_1035 : decode cL_law 1035 = .ok (.iconst 2, 1) := by decide +kernel
theorem dL_law_1036 : decode cL_law 1036 = .ok (.iadd, 1) := by decide +kernel
theorem dL_law_1037 : decode cL_law 1037 = .ok (.iaload, 1) := by decide +kernel
theorem dL_law_1038 : decode cL_law 1038 = .ok (.invokevirtual 107, 3) := by decide +kernel
theorem dL_law_1041 : decode cL_law 1041 = .ok (.pop, 1) := by decide +kernel
theorem dL_law_1042 : decode cL_law 1042 = .ok (.aload_n 2, 1) := by decide +kernel
theorem dL_law_1043 : decode cL_law 1043 = .ok (.aload_n 0, 1) := by decide +kernel
theorem dL_law_1044 : decode cL_law 1044 = .ok (.iload_n 3, 1) := by decide +kernel
theorem dL_law_1045 : decode cL_law 1045 = .ok (.iconst 1, 1) := by decide +kernel
theorem dL_law_1046 : decode cL_law 1046 = .ok (.iadd, 1) := by decide +kernel
theorem dL_law_1047 : decode cL_law 1047 = .ok (.iaload, 1) := by decide +kernel
theorem dL_law_1048 : decode cL_law 1048 = .ok (.aload_n 0, 1) := by decide +kernel
theorem dL_law_1049 : decode cL_law 1049 = .ok (.iload_n 3, 1) := by decide +kernel
theorem dL_law_1050 : decode cL_law 1050 = .ok (.iconst 2, 1) := by decide +kernel
theorem dL_law_1051 : decode cL_law 1051 = .ok (.iadd, 1) := by decide +kernel
theorem dL_law_1052 : decode cL_law 1052 = .ok (.iaload, 1) := by decide +kernel
theorem dL_law_1053 : decode cL_law 1053 = .ok (.invokevirtual 110, 3) := by decide +kernel
theorem dL_law_1056 : decode cL_law 1056 = .ok (.pop, 1) := by decide +kernel
theorem dL_law_1057 : decode cL_law 1057 = .ok (.goto 1209, 3) := by decide +kernel
theorem dL_law_1060 : decode cL_law 1060 = .ok (.aload_n 1, 1) := by decide +kernel
theorem dL_law_1061 : decode cL_law 1061 = .ok (.aload_n 0, 1) := by decide +kernel
theorem dL_law_1062 : decode cL_law 1062 = .ok (.iload_n 3, 1) := by decide +kernel
theorem dL_law_1063 : decode cL_law 1063 = .ok (.iconst 1, 1) := by decide +kernel
theorem dL_law_1064 : decode cL_law 1064 = .ok (.iadd, 1) := by decide +kernel
theorem dL_law_1065 : decode cL_law 1065 = .ok (.iaload, 1) := by decide +kernel
theorem dL_law_1066 : decode cL_law 1066 = .ok (.aload_n 0, 1) := by decide +kernel
theorem dL_law_1067 : decode cL_law 1067 = .ok (.iload_n 3, 1) := by decide +kernel
theorem dL_law_1068 : decode cL_law 1068 = .ok (.iconst 2, 1) := by decide +kernel
theorem dL_law_1069 : decode cL_law 1069 = .ok (.iadd, 1) := by decide +kernel
theorem dL_law_1070 : decode cL_law 1070 = .ok (.iaload, 1) := by decide +kernel
theorem dL_law_1071 : decode cL_law 1071 = .ok (.invokevirtual 111, 3) := by decide +kernel
theorem dL_law_1074 : decode cL_law 1074 = .ok (.pop2, 1) := by decide +kernel
theorem dL_law_1075 : decode cL_law 1075 = .ok (.aload_n 2, 1) := by decide +kernel
theorem dL_law_1076 : decode cL_law 1076 = .ok (.aload_n 0, 1) := by decide +kernel
theorem dL_law_1077 : decode cL_law 1077 = .ok (.iload_n 3, 1) := by decide +kernel
theorem dL_law_1078 : decode cL_law 1078 = .ok (.iconst 1, 1) := by decide +kernel
theorem dL_law_1079 : decode cL_law 1079 = .ok (.iadd, 1) := by decide +kernel
theorem dL_law_1080 : decode cL_law 1080 = .ok (.iaload, 1) := by decide +kernel
theorem dL_law_1081 : decode cL_law 1081 = .ok (.aload_n 0, 1) := by decide +kernel
theorem dL_law_1082 : decode cL_law 1082 = .ok (.iload_n 3, 1) := by decide +kernel
theorem dL_law_1083 : decode cL_law 1083 = .ok (.iconst 2, 1) := by decide +kernel
theorem dL_law_1084 : decode cL_law 1084 = .ok (.iadd, 1) := by decide +kernel
theorem dL_law_1085 : decode cL_law 1085 = .ok (.iaload, 1) := by decide +kernel
theorem dL_law_1086 : decode cL_law 1086 = .ok (.invokevirtual 114, 3) := by decide +kernel
theorem dL_law_1089 : decode cL_law 1089 = .ok (.pop2, 1) := by decide +kernel
theorem dL_law_1090 : decode cL_law 1090 = .ok (.goto 1176, 3) := by decide +kernel
theorem dL_law_1093 : decode cL_law 1093 = .ok (.aload_n 1, 1) := by decide +kernel
theorem dL_law_1094 : decode cL_law 1094 = .ok (.aload_n 0, 1) := by decide +kernel
theorem dL_law_1095 : decode cL_law 1095 = .ok (.iload_n 3, 1) := by decide +kernel
theorem dL_law_1096 : decode cL_law 1096 = .ok (.iconst 1, 1) := by decide +kernel
theorem dL_law_1097 : decode cL_law 1097 = .ok (.iadd, 1) := by decide +kernel
theorem dL_law_1098 : decode cL_law 1098 = .ok (.iaload, 1) := by decide +kernel
theorem dL_law_1099 : decode cL_law 1099 = .ok (.aload_n 0, 1) := by decide +kernel
theorem dL_law_1100 : decode cL_law 1100 = .ok (.iload_n 3, 1) := by decide +kernel
theorem dL_law_1101 : decode cL_law 1101 = .ok (.iconst 2, 1) := by decide +kernel
theorem dL_law_1102 : decode cL_law 1102 = .ok (.iadd, 1) := by decide +kernel
theorem dL_law_1103 : decode cL_law 1103 = .ok (.iaload, 1) := by decide +kernel
theorem dL_law_1104 : decode cL_law 1104 = .ok (.aload_n 0, 1) := by decide +kernel
theorem dL_law_1105 : decode cL_law 1105 = .ok (.iload_n 3, 1) := by decide +kernel
theorem dL_law_1106 : decode cL_law 1106 = .ok (.iconst 3, 1) := by decide +kernel
theorem dL_law_1107 : decode cL_law 1107 = .ok (.iadd, 1) := by decide +kernel
theorem dL_law_1108 : decode cL_law 1108 = .ok (.iaload, 1) := by decide +kernel
theorem dL_law_1109 : decode cL_law 1109 = .ok (.aload_n 0, 1) := by decide +kernel
theorem dL_law_1110 : decode cL_law 1110 = .ok (.iload_n 3, 1) := by decide +kernel
theorem dL_law_1111 : decode cL_law 1111 = .ok (.iconst 4, 1) := by decide +kernel
theorem dL_law_1112 : decode cL_law 1112 = .ok (.iadd, 1) := by decide +kernel
theorem dL_law_1113 : decode cL_law 1113 = .ok (.iaload, 1) := by decide +kernel
theorem dL_law_1114 : decode cL_law 1114 = .ok (.invokevirtual 115, 3) := by decide +kernel
theorem dL_law_1117 : decode cL_law 1117 = .ok (.pop2, 1) := by decide +kernel
theorem dL_law_1118 : decode cL_law 1118 = .ok (.aload_n 2, 1) := by decide +kernel
theorem dL_law_1119 : decode cL_law 1119 = .ok (.aload_n 0, 1) := by decide +kernel
theorem dL_law_1120 : decode cL_law 1120 = .ok (.iload_n 3, 1) := by decide +kernel
theorem dL_law_1121 : decode cL_law 1121 = .ok (.iconst 1, 1) := by decide +kernel
theorem dL_law_1122 : decode cL_law 1122 = .ok (.iadd, 1) := by decide +kernel
theorem dL_law_1123 : decode cL_law 1123 = .ok (.iaload, 1) := by decide +kernel
theorem dL_law_1124 : decode cL_law 1124 = .ok (.aload_n 0, 1) := by decide +kernel
theorem dL_law_1125 : decode cL_law 1125 = .ok (.iload_n 3, 1) := by decide +kernel
theorem dL_law_1126 : decode cL_law 1126 = .ok (.iconst 2, 1) := by decide +kernel
theorem dL_law_1127 : decode cL_law 1127 = .ok (.iadd, 1) := by decide +kernel
theorem dL_law_1128 : decode cL_law 1128 = .ok (.iaload, 1) := by decide +kernel
theorem dL_law_1129 : decode cL_law 1129 = .ok (.aload_n 0, 1) := by decide +kernel
theorem dL_law_1130 : decode cL_law 1130 = .ok (.iload_n 3, 1) := by decide +kernel
theorem dL_law_1131 : decode cL_law 1131 = .ok (.iconst 3, 1) := by decide +kernel
theorem dL_law_1132 : decode cL_law 1132 = .ok (.iadd, 1) := by decide +kernel
theorem dL_law_1133 : decode cL_law 1133 = .ok (.iaload, 1) := by decide +kernel
theorem dL_law_1134 : decode cL_law 1134 = .ok (.aload_n 0, 1) := by decide +kernel
theorem dL_law_1135 : decode cL_law 1135 = .ok (.iload_n 3, 1) := by decide +kernel
theorem dL_law_1136 : decode cL_law 1136 = .ok (.iconst 4, 1) := by decide +kernel
theorem dL_law_1137 : decode cL_law 1137 = .ok (.iadd, 1) := by decide +kernel
theorem dL_law_1138 : decode cL_law 1138 = .ok (.iaload, 1) := by decide +kernel
theorem dL_law_1139 : decode cL_law 1139 = .ok (.invokevirtual 118, 3) := by decide +kernel
theorem dL_law_1142 : decode cL_law 1142 = .ok (.pop2, 1) := by decide +kernel
theorem dL_law_1143 : decode cL_law 1143 = .ok (.goto 1123, 3) := by decide +kernel
theorem dL_law_1146 : decode cL_law 1146 = .ok (.aload_n 1, 1) := by decide +kernel
theorem dL_law_1147 : decode cL_law 1147 = .ok (.aload_n 0, 1) := by decide +kernel
theorem dL_law_1148 : decode cL_law 1148 = .ok (.iload_n 3, 1) := by decide +kernel
theorem dL_law_1149 : decode cL_law 1149 = .ok (.iconst 1, 1) := by decide +kernel
theorem dL_law_1150 : decode cL_law 1150 = .ok (.iadd, 1) := by decide +kernel
theorem dL_law_1151 : decode cL_law 1151 = .ok (.iaload, 1) := by decide +kernel
theorem dL_law_1152 : decode cL_law 1152 = .ok (.aload_n 0, 1) := by decide +kernel
theorem dL_law_1153 : decode cL_law 1153 = .ok (.iload_n 3, 1) := by decide +kernel
theorem dL_law_1154 : decode cL_law 1154 = .ok (.iconst 2, 1) := by decide +kernel
theorem dL_law_1155 : decode cL_law 1155 = .ok (.iadd, 1) := by decide +kernel
theorem dL_law_1156 : decode cL_law 1156 = .ok (.iaload, 1) := by decide +kernel
theorem dL_law_1157 : decode cL_law 1157 = .ok (.aload_n 0, 1) := by decide +kernel
theorem dL_law_1158 : decode cL_law 1158 = .ok (.iload_n 3, 1) := by decide +kernel
theorem dL_law_1159 : decode cL_law 1159 = .ok (.iconst 3, 1) := by decide +kernel
theorem dL_law_1160 : decode cL_law 1160 = .ok (.iadd, 1) := by decide +kernel
theorem dL_law_1161 : decode cL_law 1161 = .ok (.iaload, 1) := by decide +kernel
theorem dL_law_1162 : decode cL_law 1162 = .ok (.invokevirtual 119, 3) := by decide +kernel
theorem dL_law_1165 : decode cL_law 1165 = .ok (.pop, 1) := by decide +kernel
theorem dL_law_1166 : decode cL_law 1166 = .ok (.aload_n 2, 1) := by decide +kernel
theorem dL_law_1167 : decode cL_law 1167 = .ok (.aload_n 0, 1) := by decide +kernel
theorem dL_law_1168 : decode cL_law 1168 = .ok (.iload_n 3, 1) := by decide +kernel
theorem dL_law_1169 : decode cL_law 1169 = .ok (.iconst 1, 1) := by decide +kernel
theorem dL_law_1170 : decode cL_law 1170 = .ok (.iadd, 1) := by decide +kernel
theorem dL_law_1171 : decode cL_law 1171 = .ok (.iaload, 1) := by decide +kernel
theorem dL_law_1172 : decode cL_law 1172 = .ok (.aload_n 0, 1) := by decide +kernel
theorem dL_law_1173 : decode cL_law 1173 = .ok (.iload_n 3, 1) := by decide +kernel
theorem dL_law_1174 : decode cL_law 1174 = .ok (.iconst 2, 1) := by decide +kernel
theorem dL_law_1175 : decode cL_law 1175 = .ok (.iadd, 1) := by decide +kernel
theorem dL_law_1176 : decode cL_law 1176 = .ok (.iaload, 1) := by decide +kernel
theorem dL_law_1177 : decode cL_law 1177 = .ok (.aload_n 0, 1) := by decide +kernel
theorem dL_law_1178 : decode cL_law 1178 = .ok (.iload_n 3, 1) := by decide +kernel
theorem dL_law_1179 : decode cL_law 1179 = .ok (.iconst 3, 1) := by decide +kernel
theorem dL_law_1180 : decode cL_law 1180 = .ok (.iadd, 1) := by decide +kernel
theorem dL_law_1181 : decode cL_law 1181 = .ok (.iaload, 1) := by decide +kernel
theorem dL_law_1182 : decode cL_law 1182 = .ok (.invokevirtual 122, 3) := by decide +kernel
theorem dL_law_1185 : decode cL_law 1185 = .ok (.pop, 1) := by decide +kernel
theorem dL_law_1186 : decode cL_law 1186 = .ok (.goto 1080, 3) := by decide +kernel
theorem dL_law_1189 : decode cL_law 1189 = .ok (.aload_n 1, 1) := by decide +kernel
theorem dL_law_1190 : decode cL_law 1190 = .ok (.aload_n 0, 1) := by decide +kernel
theorem dL_law_1191 : decode cL_law 1191 = .ok (.iload_n 3, 1) := by decide +kernel
theorem dL_law_1192 : decode cL_law 1192 = .ok (.iconst 1, 1) := by decide +kernel
theorem dL_law_1193 : decode cL_law 1193 = .ok (.iadd, 1) := by decide +kernel
theorem dL_law_1194 : decode cL_law 1194 = .ok (.iaload, 1) := by decide +kernel
theorem dL_law_1195 : decode cL_law 1195 = .ok (.aload_n 0, 1) := by decide +kernel
theorem dL_law_1196 : decode cL_law 1196 = .ok (.iload_n 3, 1) := by decide +kernel
theorem dL_law_1197 : decode cL_law 1197 = .ok (.iconst 2, 1) := by decide +kernel
theorem dL_law_1198 : decode cL_law 1198 = .ok (.iadd, 1) := by decide +kernel
theorem dL_law_1199 : decode cL_law 1199 = .ok (.iaload, 1) := by decide +kernel
theorem dL_law_1200 : decode cL_law 1200 = .ok (.aload_n 0, 1) := by decide +kernel
theorem dL_law_1201 : decode cL_law 1201 = .ok (.iload_n 3, 1) := by decide +kernel
theorem dL_law_1202 : decode cL_law 1202 = .ok (.iconst 3, 1) := by decide +kernel
theorem dL_law_1203 : decode cL_law 1203 = .ok (.iadd, 1) := by decide +kernel
theorem dL_law_1204 : decode cL_law 1204 = .ok (.iaload, 1) := by decide +kernel
theorem dL_law_1205 : decode cL_law 1205 = .ok (.invokevirtual 123, 3) := by decide +kernel
theorem dL_law_1208 : decode cL_law 1208 = .ok (.pop2, 1) := by decide +kernel
theorem dL_law_1209 : decode cL_law 1209 = .ok (.aload_n 2, 1) := by decide +kernel
theorem dL_law_1210 : decode cL_law 1210 = .ok (.aload_n 0, 1) := by decide +kernel
theorem dL_law_1211 : decode cL_law 1211 = .ok (.iload_n 3, 1) := by decide +kernel
theorem dL_law_1212 : decode cL_law 1212 = .ok (.iconst 1, 1) := by decide +kernel
theorem dL_law_1213 : decode cL_law 1213 = .ok (.iadd, 1) := by decide +kernel
theorem dL_law_1214 : decode cL_law 1214 = .ok (.iaload, 1) := by decide +kernel
theorem dL_law_1215 : decode cL_law 1215 = .ok (.aload_n 0, 1) := by decide +kernel
theorem dL_law_1216 : decode cL_law 1216 = .ok (.iload_n 3, 1) := by decide +kernel
theorem dL_law_1217 : decode cL_law 1217 = .ok (.iconst 2, 1) := by decide +kernel
theorem dL_law_1218 : decode cL_law 1218 = .ok (.iadd, 1) := by decide +kernel
theorem dL_law_1219 : decode cL_law 1219 = .ok (.iaload, 1) := by decide +kernel
theorem dL_law_1220 : decode cL_law 1220 = .ok (.aload_n 0, 1) := by decide +kernel
theorem dL_law_1221 : decode cL_law 1221 = .ok (.iload_n 3, 1) := by decide +kernel
theorem dL_law_1222 : decode cL_law 1222 = .ok (.iconst 3, 1) := by decide +kernel
theorem dL_law_1223 : decode cL_law 1223 = .ok (.iadd, 1) := by decide +kernel
theorem dL_law_1224 : decode cL_law 1224 = .ok (.iaload, 1) := by decide +kernel
theorem dL_law_1225 : decode cL_law 1225 = .ok (.invokevirtual 126, 3) := by decide +kernel
theorem dL_law_1228 : decode cL_law 1228 = .ok (.pop2, 1) := by decide +kernel
theorem dL_law_1229 : decode cL_law 1229 = .ok (.goto 1037, 3) := by decide +kernel
theorem dL_law_1232 : decode cL_law 1232 = .ok (.aload_n 1, 1) := by decide +kernel
theorem dL_law_1233 : decode cL_law 1233 = .ok (.aload_n 0, 1) := by decide +kernel
theorem dL_law_1234 : decode cL_law 1234 = .ok (.iload_n 3, 1) := by decide +kernel
theorem dL_law_1235 : decode cL_law 1235 = .ok (.iconst 1, 1) := by decide +kernel
theorem dL_law_1236 : decode cL_law 1236 = .ok (.iadd, 1) := by decide +kernel
theorem dL_law_1237 : decode cL_law 1237 = .ok (.iaload, 1) := by decide +kernel
theorem dL_law_1238 : decode cL_law 1238 = .ok (.aload_n 0, 1) := by decide +kernel
theorem dL_law_1239 : decode cL_law 1239 = .ok (.iload_n 3, 1) := by decide +kernel
theorem dL_law_1240 : decode cL_law 1240 = .ok (.iconst 2, 1) := by decide +kernel
theorem dL_law_1241 : decode cL_law 1241 = .ok (.iadd, 1) := by decide +kernel
theorem dL_law_1242 : decode cL_law 1242 = .ok (.iaload, 1) := by decide +kernel
theorem dL_law_1243 : decode cL_law 1243 = .ok (.aload_n 0, 1) := by decide +kernel
theorem dL_law_1244 : decode cL_law 1244 = .ok (.iload_n 3, 1) := by decide +kernel
theorem dL_law_1245 : decode cL_law 1245 = .ok (.iconst 3, 1) := by decide +kernel
theorem dL_law_1246 : decode cL_law 1246 = .ok (.iadd, 1) := by decide +kernel
theorem dL_law_1247 : decode cL_law 1247 = .ok (.iaload, 1) := by decide +kernel
theorem dL_law_1248 : decode cL_law 1248 = .ok (.invokevirtual 127, 3) := by decide +kernel
theorem dL_law_1251 : decode cL_law 1251 = .ok (.pop2, 1) := by decide +kernel
theorem dL_law_1252 : decode cL_law 1252 = .ok (.aload_n 2, 1) := by decide +kernel
theorem dL_law_1253 : decode cL_law 1253 = .ok (.aload_n 0, 1) := by decide +kernel
theorem dL_law_1254 : decode cL_law 1254 = .ok (.iload_n 3, 1) := by decide +kernel
theorem dL_law_1255 : decode cL_law 1255 = .ok (.iconst 1, 1) := by decide +kernel
theorem dL_law_1256 : decode cL_law 1256 = .ok (.iadd, 1) := by decide +kernel
theorem dL_law_1257 : decode cL_law 1257 = .ok (.iaload, 1) := by decide +kernel
theorem dL_law_1258 : decode cL_law 1258 = .ok (.aload_n 0, 1) := by decide +kernel
theorem dL_law_1259 : decode cL_law 1259 = .ok (.iload_n 3, 1) := by decide +kernel
theorem dL_law_1260 : decode cL_law 1260 = .ok (.iconst 2, 1) := by decide +kernel
theorem dL_law_1261 : decode cL_law 1261 = .ok (.iadd, 1) := by decide +kernel
theorem dL_law_1262 : decode cL_law 1262 = .ok (.iaload, 1) := by decide +kernel
theorem dL_law_1263 : decode cL_law 1263 = .ok (.aload_n 0, 1) := by decide +kernel
theorem dL_law_1264 : decode cL_law 1264 = .ok (.iload_n 3, 1) := by decide +kernel
theorem dL_law_1265 : decode cL_law 1265 = .ok (.iconst 3, 1) := by decide +kernel
theorem dL_law_1266 : decode cL_law 1266 = .ok (.iadd, 1) := by decide +kernel
theorem dL_law_1267 : decode cL_law 1267 = .ok (.iaload, 1) := by decide +kernel
theorem dL_law_1268 : decode cL_law 1268 = .ok (.invokevirtual 130, 3) := by decide +kernel
theorem dL_law_1271 : decode cL_law 1271 = .ok (.pop2, 1) := by decide +kernel
theorem dL_law_1272 : decode cL_law 1272 = .ok (.goto 994, 3) := by decide +kernel
theorem dL_law_1275 : decode cL_law 1275 = .ok (.aload_n 1, 1) := by decide +kernel
theorem dL_law_1276 : decode cL_law 1276 = .ok (.aload_n 0, 1) := by decide +kernel
theorem dL_law_1277 : decode cL_law 1277 = .ok (.iload_n 3, 1) := by decide +kernel
theorem dL_law_1278 : decode cL_law 1278 = .ok (.iconst 1, 1) := by decide +kernel
theorem dL_law_1279 : decode cL_law 1279 = .ok (.iadd, 1) := by decide +kernel
theorem dL_law_1280 : decode cL_law 1280 = .ok (.iaload, 1) := by decide +kernel
theorem dL_law_1281 : decode cL_law 1281 = .ok (.aload_n 0, 1) := by decide +kernel
theorem dL_law_1282 : decode cL_law 1282 = .ok (.iload_n 3, 1) := by decide +kernel
theorem dL_law_1283 : decode cL_law 1283 = .ok (.iconst 2, 1) := by decide +kernel
theorem dL_law_1284 : decode cL_law 1284 = .ok (.iadd, 1) := by decide +kernel
theorem dL_law_1285 : decode cL_law 1285 = .ok (.iaload, 1) := by decide +kernel
theorem dL_law_1286 : decode cL_law 1286 = .ok (.invokevirtual 131, 3) := by decide +kernel
theorem dL_law_1289 : decode cL_law 1289 = .ok (.pop, 1) := by decide +kernel
theorem dL_law_1290 : decode cL_law 1290 = .ok (.aload_n 2, 1) := by decide +kernel
theorem dL_law_1291 : decode cL_law 1291 = .ok (.aload_n 0, 1) := by decide +kernel
theorem dL_law_1292 : decode cL_law 1292 = .ok (.iload_n 3, 1) := by decide +kernel
theorem dL_law_1293 : decode cL_law 1293 = .ok (.iconst 1, 1) := by decide +kernel
theorem dL_law_1294 : decode cL_law 1294 = .ok (.iadd, 1) := by decide +kernel
theorem dL_law_1295 : decode cL_law 1295 = .ok (.iaload, 1) := by decide +kernel
theorem dL_law_1296 : decode cL_law 1296 = .ok (.aload_n 0, 1) := by decide +kernel
theorem dL_law_1297 : decode cL_law 1297 = .ok (.iload_n 3, 1) := by decide +kernel
theorem dL_law_1298 : decode cL_law 1298 = .ok (.iconst 2, 1) := by decide +kernel
theorem dL_law_1299 : decode cL_law 1299 = .ok (.iadd, 1) := by decide +kernel
theorem dL_law_1300 : decode cL_law 1300 = .ok (.iaload, 1) := by decide +kernel
theorem dL_law_1301 : decode cL_law 1301 = .ok (.invokevirtual 134, 3) := by decide +kernel
theorem dL_law_1304 : decode cL_law 1304 = .ok (.pop, 1) := by decide +kernel
theorem dL_law_1305 : decode cL_law 1305 = .ok (.goto 961, 3) := by decide +kernel
theorem dL_law_1308 : decode cL_law 1308 = .ok (.aload_n 1, 1) := by decide +kernel
theorem dL_law_1309 : decode cL_law 1309 = .ok (.aload_n 0, 1) := by decide +kernel
theorem dL_law_1310 : decode cL_law 1310 = .ok (.iload_n 3, 1) := by decide +kernel
theorem dL_law_1311 : decode cL_law 1311 = .ok (.iconst 1, 1) := by decide +kernel
theorem dL_law_1312 : decode cL_law 1312 = .ok (.iadd, 1) := by decide +kernel
theorem dL_law_1313 : decode cL_law 1313 = .ok (.iaload, 1) := by decide +kernel
theorem dL_law_1314 : decode cL_law 1314 = .ok (.invokevirtual 135, 3) := by decide +kernel
theorem dL_law_1317 : decode cL_law 1317 = .ok (.pop, 1) := by decide +kernel
theorem dL_law_1318 : decode cL_law 1318 = .ok (.aload_n 2, 1) := by decide +kernel
theorem dL_law_1319 : decode cL_law 1319 = .ok (.aload_n 0, 1) := by decide +kernel
theorem dL_law_1320 : decode cL_law 1320 = .ok (.iload_n 3, 1) := by decide +kernel
theorem dL_law_1321 : decode cL_law 1321 = .ok (.iconst 1, 1) := by decide +kernel
theorem dL_law_1322 : decode cL_law 1322 = .ok (.iadd, 1) := by decide +kernel
theorem dL_law_1323 : decode cL_law 1323 = .ok (.iaload, 1) := by decide +kernel
theorem dL_law_1324 : decode cL_law 1324 = .ok (.invokevirtual 138, 3) := by decide +kernel
theorem dL_law_1327 : decode cL_law 1327 = .ok (.pop, 1) := by decide +kernel
theorem dL_law_1328 : decode cL_law 1328 = .ok (.goto 938, 3) := by decide +kernel
theorem dL_law_1331 : decode cL_law 1331 = .ok (.aload_n 1, 1) := by decide +kernel
theorem dL_law_1332 : decode cL_law 1332 = .ok (.aload_n 0, 1) := by decide +kernel
theorem dL_law_1333 : decode cL_law 1333 = .ok (.iload_n 3, 1) := by decide +kernel
theorem dL_law_1334 : decode cL_law 1334 = .ok (.iconst 1, 1) := by decide +kernel
theorem dL_law_1335 : decode cL_law 1335 = .ok (.iadd, 1) := by decide +kernel
theorem dL_law_1336 : decode cL_law 1336 = .ok (.iaload, 1) := by decide +kernel
theorem dL_law_1337 : decode cL_law 1337 = .ok (.aload_n 0, 1) := by decide +kernel
theorem dL_law_1338 : decode cL_law 1338 = .ok (.iload_n 3, 1) := by decide +kernel
theorem dL_law_1339 : decode cL_law 1339 = .ok (.iconst 2, 1) := by decide +kernel
theorem dL_law_1340 : decode cL_law 1340 = .ok (.iadd, 1) := by decide +kernel
theorem dL_law_1341 : decode cL_law 1341 = .ok (.iaload, 1) := by decide +kernel
theorem dL_law_1342 : decode cL_law 1342 = .ok (.aload_n 0, 1) := by decide +kernel
theorem dL_law_1343 : decode cL_law 1343 = .ok (.iload_n 3, 1) := by decide +kernel
theorem dL_law_1344 : decode cL_law 1344 = .ok (.iconst 3, 1) := by decide +kernel
theorem dL_law_1345 : decode cL_law 1345 = .ok (.iadd, 1) := by decide +kernel
theorem dL_law_1346 : decode cL_law 1346 = .ok (.iaload, 1) := by decide +kernel
theorem dL_law_1347 : decode cL_law 1347 = .ok (.aload_n 0, 1) := by decide +kernel
theorem dL_law_1348 : decode cL_law 1348 = .ok (.iload_n 3, 1) := by decide +kernel
theorem dL_law_1349 : decode cL_law 1349 = .ok (.iconst 4, 1) := by decide +kernel
theorem dL_law_1350 : decode cL_law 1350 = .ok (.iadd, 1) := by decide +kernel
theorem dL_law_1351 : decode cL_law 1351 = .ok (.iaload, 1) := by decide +kernel
theorem dL_law_1352 : decode cL_law 1352 = .ok (.invokevirtual 139, 3) := by decide +kernel
theorem dL_law_1355 : decode cL_law 1355 = .ok (.pop2, 1) := by decide +kernel
theorem dL_law_1356 : decode cL_law 1356 = .ok (.aload_n 2, 1) := by decide +kernel
theorem dL_law_1357 : decode cL_law 1357 = .ok (.aload_n 0, 1) := by decide +kernel
theorem dL_law_1358 : decode cL_law 1358 = .ok (.iload_n 3, 1) := by decide +kernel
theorem dL_law_1359 : decode cL_law 1359 = .ok (.iconst 1, 1) := by decide +kernel
theorem dL_law_1360 : decode cL_law 1360 = .ok (.iadd, 1) := by decide +kernel
theorem dL_law_1361 : decode cL_law 1361 = .ok (.iaload, 1) := by decide +kernel
theorem dL_law_1362 : decode cL_law 1362 = .ok (.aload_n 0, 1) := by decide +kernel
theorem dL_law_1363 : decode cL_law 1363 = .ok (.iload_n 3, 1) := by decide +kernel
theorem dL_law_1364 : decode cL_law 1364 = .ok (.iconst 2, 1) := by decide +kernel
theorem dL_law_1365 : decode cL_law 1365 = .ok (.iadd, 1) := by decide +kernel
theorem dL_law_1366 : decode cL_law 1366 = .ok (.iaload, 1) := by decide +kernel
theorem dL_law_1367 : decode cL_law 1367 = .ok (.aload_n 0, 1) := by decide +kernel
theorem dL_law_1368 : decode cL_law 1368 = .ok (.iload_n 3, 1) := by decide +kernel
theorem dL_law_1369 : decode cL_law 1369 = .ok (.iconst 3, 1) := by decide +kernel
theorem dL_law_1370 : decode cL_law 1370 = .ok (.iadd, 1) := by decide +kernel
theorem dL_law_1371 : decode cL_law 1371 = .ok (.iaload, 1) := by decide +kernel
theorem dL_law_1372 : decode cL_law 1372 = .ok (.aload_n 0, 1) := by decide +kernel
theorem dL_law_1373 : decode cL_law 1373 = .ok (.iload_n 3, 1) := by decide +kernel
theorem dL_law_1374 : decode cL_law 1374 = .ok (.iconst 4, 1) := by decide +kernel
theorem dL_law_1375 : decode cL_law 1375 = .ok (.iadd, 1) := by decide +kernel
theorem dL_law_1376 : decode cL_law 1376 = .ok (.iaload, 1) := by decide +kernel
theorem dL_law_1377 : decode cL_law 1377 = .ok (.invokevirtual 142, 3) := by decide +kernel
theorem dL_law_1380 : decode cL_law 1380 = .ok (.pop2, 1) := by decide +kernel
theorem dL_law_1381 : decode cL_law 1381 = .ok (.goto 885, 3) := by decide +kernel
theorem sV_L_102 : SiteV RL 102 yX9_today cX9_today 6 (some .int) 5 := ⟨ml_L_102, im_X9_today, se_X9_today, ini_X9, co_X9_today, by decide +kernel⟩
theorem sV_L_106 : SiteV RL 106 yX10_today cX10_today 6 (some .int) 5 := ⟨ml_L_106, im_X10_today, se_X10_today, ini_X10, co_X10_today, by decide +kernel⟩
theorem sV_L_107 : SiteV RL 107 yX9_last cX9_last 3 (some .int) 2 := ⟨ml_L_107, im_X9_last, se_X9_last, ini_X9, co_X9_last, by decide +kernel⟩
theorem sV_L_110 : SiteV RL 110 yX10_last cX10_last 7 (some .int) 2 := ⟨ml_L_110, im_X10_last, se_X10_last, ini_X10, co_X10_last, by decide +kernel⟩
theorem sV_L_111 : SiteV RL 111 yX9_signs cX9_signs 8 (some .long) 2 := ⟨ml_L_111, im_X9_signs, se_X9_signs, ini_X9, co_X9_signs, by decide +kernel⟩
theorem sV_L_114 : SiteV RL 114 yX10_signs cX10_signs 8 (some .long) 2 := ⟨ml_L_114, im_X10_signs, se_X10_signs, ini_X10, co_X10_signs, by decide +kernel⟩
theorem sV_L_115 : SiteV RL 115 yX9_fork cX9_fork 5 (some .long) 4 := ⟨ml_L_115, im_X9_fork, se_X9_fork, ini_X9, co_X9_fork, by decide +kernel⟩
theorem sV_L_118 : SiteV RL 118 yX10_fork cX10_fork 5 (some .long) 4 := ⟨ml_L_118, im_X10_fork, se_X10_fork, ini_X10, co_X10_fork, by decide +kernel⟩
theorem sV_L_119 : SiteV RL 119 yX9_middle cX9_middle 4 (some .int) 3 := ⟨ml_L_119, im_X9_middle, se_X9_middle, ini_X9, co_X9_middle, by decide +kernel⟩
theorem sV_L_122 : SiteV RL 122 yX10_middle cX10_middle 4 (some .int) 3 := ⟨ml_L_122, im_X10_middle, se_X10_middle, ini_X10, co_X10_middle, by decide +kernel⟩
theorem sV_L_123 : SiteV RL 123 yX9_shares cX9_shares 6 (some .long) 3 := ⟨ml_L_123, im_X9_shares, se_X9_shares, ini_X9, co_X9_shares, by decide +kernel⟩
theorem sV_L_126 : SiteV RL 126 yX10_shares cX10_shares 6 (some .long) 3 := ⟨ml_L_126, im_X10_shares, se_X10_shares, ini_X10, co_X10_shares, by decide +kernel⟩
theorem sV_L_127 : SiteV RL 127 yX9_flown cX9_flown 4 (some .long) 3 := ⟨ml_L_127, im_X9_flown, se_X9_flown, ini_X9, co_X9_flown, by decide +kernel⟩
theorem sV_L_130 : SiteV RL 130 yX10_flown cX10_flown 4 (some .long) 3 := ⟨ml_L_130, im_X10_flown, se_X10_flown, ini_X10, co_X10_flown, by decide +kernel⟩
theorem sV_L_131 : SiteV RL 131 yX9_plane cX9_plane 9 (some .int) 2 := ⟨ml_L_131, im_X9_plane, se_X9_plane, ini_X9, co_X9_plane, by decide +kernel⟩
theorem sV_L_134 : SiteV RL 134 yX10_plane cX10_plane 9 (some .int) 2 := ⟨ml_L_134, im_X10_plane, se_X10_plane, ini_X10, co_X10_plane, by decide +kernel⟩
theorem sV_L_135 : SiteV RL 135 yX9_edge cX9_edge 4 (some .int) 1 := ⟨ml_L_135, im_X9_edge, se_X9_edge, ini_X9, co_X9_edge, by decide +kernel⟩
theorem sV_L_138 : SiteV RL 138 yX10_edge cX10_edge 3 (some .int) 1 := ⟨ml_L_138, im_X10_edge, se_X10_edge, ini_X10, co_X10_edge, by decide +kernel⟩
theorem sV_L_139 : SiteV RL 139 yX9_path cX9_path 5 (some .long) 4 := ⟨ml_L_139, im_X9_path, se_X9_path, ini_X9, co_X9_path, by decide +kernel⟩
theorem sV_L_142 : SiteV RL 142 yX10_path cX10_path 10 (some .long) 4 := ⟨ml_L_142, im_X10_path, se_X10_path, ini_X10, co_X10_path, by decide +kernel⟩
set_option maxHeartbeats 4000000 in
set_option maxRecDepth 100000 in
theorem lc_20 {p : Program} {e : Env} {s : State} {m : MethodId} {below : List Frame} {meth : Method} {c : Code} {l : Launch} {b L : Nat} {xs : Nat → Int32} (D : va_G) (cy : Nat → ClassId) (adK adV : Nat → Nat) (base xo mo : Nat) (C0 : lw_At p s m meth c b L xs) (hK : KK D cy s) (hSS : SS adK adV base s s.heap) (hZ : base ≤ s.heap.size) (hZ2 : s.heap.size ≤ base) (hbA : ¬ RA base b) (hLs : L ≤ 3584) (τ : Nat → Nat) (G : Gh) (i : Int32) (hi0 : 0 ≤ i.toInt) (hi7 : i.toInt + 7 ≤ L) (hLI : LI τ G xo mo) {H : Heap} {locs : List Loc} (hT : TY D cy base τ G H) (hS : va_S (RA base) s.heap H locs) {ls : Array Slot} (hl : lv_has ls 4 [(3, .int i), (2, .ref mo), (1, .ref xo), (0, .ref b)]) {cells slots : Nat} (hroom : cells + 100 ≤ room_1.cells ∧ slots + 1000 ≤ room_1.slots) (kk : ∀ (τ1 : Nat → Nat) (G1 : Gh) (H1 : Heap) (locs1 : List Loc) (ls1 : Array Slot), LI τ1 G1 xo mo → TY D cy base τ1 G1 H1 → va_S (RA base) s.heap H1 locs1 → lv_has ls1 4 [(3, .int i), (2, .ref mo), (1, .ref xo), (0, .ref b)] → W p l e room_1 s m #[Value.ref b] below meth c H1 locs1 (cells + 10) (slots + 200) (lw_Z below #[Value.ref b] s) (F0 m 2266 ls1 [])) : W p l e room_1 s m #[Value.ref b] below meth c H locs cells slots (lw_Z below #[Value.ref b] s) (F0 m 948 ls []) := by
  obtain ⟨hx, hb, hr, hml, hown, hts, hX, hbl, hlocks, hgv⟩ := id C0
  have hown : s.vm.findClass RL = some m.cls := hown
  have hb : c.code = cL_law := hb
  have hts : ∀ w ∈ GW, w.before #[Value.ref b] s = true := fun w h => hts w (gw_tbl w h)
  have h_xo := hLI.1
  have h_mo := hLI.2.1
  have hF : Fr τ [1, 2, 3, 4, 6, 7, 11, 20, 25, 26, 27, 28, 29, 30, 31, 32, 33, 34, 35, 36, 37, 38, 39, 40, 51, 52, 53, 54, 55, 66, 67, 68, 69, 70, 71, 72, 73, 74, 75, 76, 77, 78, 79, 80, 81, 82, 83, 84, 85, 86, 87, 88, 89, 90, 91, 1001, 1002, 1004, 1023, 1024] G G := Fr.rf
  obtain ⟨w1, ew1⟩ : ∃ y : Int32, y = xs (i.toInt.toNat + 1) := ⟨_, rfl⟩
  obtain ⟨w2, ew2⟩ : ∃ y : Int32, y = xs (i.toInt.toNat + 2) := ⟨_, rfl⟩
  obtain ⟨w3, ew3⟩ : ∃ y : Int32, y = xs (i.toInt.toNat + 3) := ⟨_, rfl⟩
  obtain ⟨w4, ew4⟩ : ∃ y : Int32, y = xs (i.toInt.toNat + 4) := ⟨_, rfl⟩
  obtain ⟨w5, ew5⟩ : ∃ y : Int32, y = xs (i.toInt.toNat + 5) := ⟨_, rfl⟩
  refine lv_aload_n hx hb dL_law_948 rfl (lv_at hl 2 rfl) ?_
  refine lv_aload_n hx hb dL_law_949 rfl (lv_at hl 3 rfl) ?_
  refine lv_iload_n hx hb dL_law_950 rfl (lv_at hl 0 rfl) ?_
  refine lv_iconst (v := 1) hx hb dL_law_951 (by decide) ?_
  refine lv_iadd hx hb dL_law_952 ?_
  refine lv_topi (fun z_1 ez_1 => ?_)
  have tz_1 : z_1.toInt = i.toInt + 1 := add_t ez_1 (show -2147483648 ≤ i.toInt + 1 by omega) (show i.toInt + 1 < 2147483648 by omega)
  refine va_sld (i := z_1) hx hb hX hbl hbA hS (vp_in_iff.mpr ⟨by omega, by omega⟩) dL_law_953 ?_
  refine W.eq (g2 := F0 m 954 ls [.int w1, .ref xo]) (by rw [ew1, show z_1.toNatClampNeg = i.toInt.toNat + 1 from (show z_1.toInt.toNat = _ by omega)]) ?_
  refine lv_aload_n hx hb dL_law_954 rfl (lv_at hl 3 rfl) ?_
  refine lv_iload_n hx hb dL_law_955 rfl (lv_at hl 0 rfl) ?_
  refine lv_iconst (v := 2) hx hb dL_law_956 (by decide) ?_
  refine lv_iadd hx hb dL_law_957 ?_
  refine lv_topi (fun z_2 ez_2 => ?_)
  have tz_2 : z_2.toInt = i.toInt + 2 := add_t ez_2 (show -2147483648 ≤ i.toInt + 2 by omega) (show i.toInt + 2 < 2147483648 by omega)
  refine va_sld (i := z_2) hx hb hX hbl hbA hS (vp_in_iff.mpr ⟨by omega, by omega⟩) dL_law_958 ?_
  refine W.eq (g2 := F0 m 959 ls [.int w2, .int w1, .ref xo]) (by rw [ew2, show z_2.toNatClampNeg = i.toInt.toNat + 2 from (show z_2.toInt.toNat = _ by omega)]) ?_
  refine lv_aload_n hx hb dL_law_959 rfl (lv_at hl 3 rfl) ?_
  refine lv_iload_n hx hb dL_law_960 rfl (lv_at hl 0 rfl) ?_
  refine lv_iconst (v := 3) hx hb dL_law_961 (by decide) ?_
  refine lv_iadd hx hb dL_law_962 ?_
  refine lv_topi (fun z_3 ez_3 => ?_)
  have tz_3 : z_3.toInt = i.toInt + 3 := add_t ez_3 (show -2147483648 ≤ i.toInt + 3 by omega) (show i.toInt + 3 < 2147483648 by omega)
  refine va_sld (i := z_3) hx hb hX hbl hbA hS (vp_in_iff.mpr ⟨by omega, by omega⟩) dL_law_963 ?_
  refine W.eq (g2 := F0 m 964 ls [.int w3, .int w2, .int w1, .ref xo]) (by rw [ew3, show z_3.toNatClampNeg = i.toInt.toNat + 3 from (show z_3.toInt.toNat = _ by omega)]) ?_
  refine lv_aload_n hx hb dL_law_964 rfl (lv_at hl 3 rfl) ?_
  refine lv_iload_n hx hb dL_law_965 rfl (lv_at hl 0 rfl) ?_
  refine lv_iconst (v := 4) hx hb dL_law_966 (by decide) ?_
  refine lv_iadd hx hb dL_law_967 ?_
  refine lv_topi (fun z_4 ez_4 => ?_)
  have tz_4 : z_4.toInt = i.toInt + 4 := add_t ez_4 (show -2147483648 ≤ i.toInt + 4 by omega) (show i.toInt + 4 < 2147483648 by omega)
  refine va_sld (i := z_4) hx hb hX hbl hbA hS (vp_in_iff.mpr ⟨by omega, by omega⟩) dL_law_968 ?_
  refine W.eq (g2 := F0 m 969 ls [.int w4, .int w3, .int w2, .int w1, .ref xo]) (by rw [ew4, show z_4.toNatClampNeg = i.toInt.toNat + 4 from (show z_4.toInt.toNat = _ by omega)]) ?_
  refine lv_if_eq (tgt := 976) hx hb dL_law_969 (by decide) (fun c_5 => ?_) (fun c_5 => ?_)
  · skip
    have tc_5 : w4.toInt = 0 := (fa_eq _ _).mp c_5
    refine lv_iconst (v := 0) hx hb dL_law_976 (by decide) ?_
    refine lv_aload_n hx hb dL_law_977 rfl (lv_at hl 3 rfl) ?_
    refine lv_iload_n hx hb dL_law_978 rfl (lv_at hl 0 rfl) ?_
    refine lv_iconst (v := 5) hx hb dL_law_979 (by decide) ?_
    refine lv_iadd hx hb dL_law_980 ?_
    refine lv_topi (fun z_6 ez_6 => ?_)
    have tz_6 : z_6.toInt = i.toInt + 5 := add_t ez_6 (show -2147483648 ≤ i.toInt + 5 by omega) (show i.toInt + 5 < 2147483648 by omega)
    refine va_sld (i := z_6) hx hb hX hbl hbA hS (vp_in_iff.mpr ⟨by omega, by omega⟩) dL_law_981 ?_
    refine W.eq (g2 := F0 m 982 ls [.int w5, .int 0, .int w3, .int w2, .int w1, .ref xo]) (by rw [ew5, show z_6.toNatClampNeg = i.toInt.toNat + 5 from (show z_6.toInt.toNat = _ by omega)]) ?_
    refine t_calli (runV (As := [.int w1, .int w2, .int w3, .int 0, .int w5]) (rest := []) ⟨hx, hb, hml, hown, hts⟩ (t_X9_today l D cy base τ G xo h_xo w1 w2 w3 0 w5) sV_L_102 hK (t_recv cf_1 hK hT h_xo) ⟨Nat.le_trans hZ hS.1, hT⟩ ⟨Nat.le_of_ble_eq_true rfl, Nat.le_of_ble_eq_true rfl⟩ rfl hl.1 rfl (Nat.le_of_ble_eq_true rfl) dL_law_982 ⟨by have q9 := hroom.1; omega, by have q9 := hroom.2; omega⟩) hS (fun r_7 G_7 H locs hF_7 hr_7 hT hS => ?_)
    have hF := hF.tr hF_7 rfl
    have hLI := hLI.fr EX.rf hF_7 rfl
    refine lv_pop hx hb dL_law_985 rfl ?_
    refine lv_aload_n hx hb dL_law_986 rfl (lv_at hl 1 rfl) ?_
    refine lv_aload_n hx hb dL_law_987 rfl (lv_at hl 3 rfl) ?_
    refine lv_iload_n hx hb dL_law_988 rfl (lv_at hl 0 rfl) ?_
    refine lv_iconst (v := 1) hx hb dL_law_989 (by decide) ?_
    refine lv_iadd hx hb dL_law_990 ?_
    refine lv_topi (fun z_8 ez_8 => ?_)
    have w_9 : z_1 = z_8 := ez_1.trans ez_8.symm
    subst w_9
    refine va_sld (i := z_1) hx hb hX hbl hbA hS (vp_in_iff.mpr ⟨by omega, by omega⟩) dL_law_991 ?_
    refine W.eq (g2 := F0 m 992 ls [.int w1, .ref mo]) (by rw [ew1, show z_1.toNatClampNeg = i.toInt.toNat + 1 from (show z_1.toInt.toNat = _ by omega)]) ?_
    refine lv_aload_n hx hb dL_law_992 rfl (lv_at hl 3 rfl) ?_
    refine lv_iload_n hx hb dL_law_993 rfl (lv_at hl 0 rfl) ?_
    refine lv_iconst (v := 2) hx hb dL_law_994 (by decide) ?_
    refine lv_iadd hx hb dL_law_995 ?_
    refine lv_topi (fun z_10 ez_10 => ?_)
    have w_11 : z_2 = z_10 := ez_2.trans ez_10.symm
    subst w_11
    refine va_sld (i := z_2) hx hb hX hbl hbA hS (vp_in_iff.mpr ⟨by omega, by omega⟩) dL_law_996 ?_
    refine W.eq (g2 := F0 m 997 ls [.int w2, .int w1, .ref mo]) (by rw [ew2, show z_2.toNatClampNeg = i.toInt.toNat + 2 from (show z_2.toInt.toNat = _ by omega)]) ?_
    refine lv_aload_n hx hb dL_law_997 rfl (lv_at hl 3 rfl) ?_
    refine lv_iload_n hx hb dL_law_998 rfl (lv_at hl 0 rfl) ?_
    refine lv_iconst (v := 3) hx hb dL_law_999 (by decide) ?_
    refine lv_iadd hx hb dL_law_1000 ?_
    refine lv_topi (fun z_12 ez_12 => ?_)
    have w_13 : z_3 = z_12 := ez_3.trans ez_12.symm
    subst w_13
    refine va_sld (i := z_3) hx hb hX hbl hbA hS (vp_in_iff.mpr ⟨by omega, by omega⟩) dL_law_1001 ?_
    refine W.eq (g2 := F0 m 1002 ls [.int w3, .int w2, .int w1, .ref mo]) (by rw [ew3, show z_3.toNatClampNeg = i.toInt.toNat + 3 from (show z_3.toInt.toNat = _ by omega)]) ?_
    refine lv_aload_n hx hb dL_law_1002 rfl (lv_at hl 3 rfl) ?_
    refine lv_iload_n hx hb dL_law_1003 rfl (lv_at hl 0 rfl) ?_
    refine lv_iconst (v := 4) hx hb dL_law_1004 (by decide) ?_
    refine lv_iadd hx hb dL_law_1005 ?_
    refine lv_topi (fun z_14 ez_14 => ?_)
    have w_15 : z_4 = z_14 := ez_4.trans ez_14.symm
    subst w_15
    refine va_sld (i := z_4) hx hb hX hbl hbA hS (vp_in_iff.mpr ⟨by omega, by omega⟩) dL_law_1006 ?_
    refine W.eq (g2 := F0 m 1007 ls [.int w4, .int w3, .int w2, .int w1, .ref mo]) (by rw [ew4, show z_4.toNatClampNeg = i.toInt.toNat + 4 from (show z_4.toInt.toNat = _ by omega)]) ?_
    refine lv_if_eq (tgt := 1014) hx hb dL_law_1007 (by decide) (fun c_16 => ?_) (fun c_16 => ?_)
    · skip
      have tc_16 : w4.toInt = 0 := (fa_eq _ _).mp c_16
      refine lv_iconst (v := 0) hx hb dL_law_1014 (by decide) ?_
      refine lv_aload_n hx hb dL_law_1015 rfl (lv_at hl 3 rfl) ?_
      refine lv_iload_n hx hb dL_law_1016 rfl (lv_at hl 0 rfl) ?_
      refine lv_iconst (v := 5) hx hb dL_law_1017 (by decide) ?_
      refine lv_iadd hx hb dL_law_1018 ?_
      refine lv_topi (fun z_17 ez_17 => ?_)
      have w_18 : z_6 = z_17 := ez_6.trans ez_17.symm
      subst w_18
      refine va_sld (i := z_6) hx hb hX hbl hbA hS (vp_in_iff.mpr ⟨by omega, by omega⟩) dL_law_1019 ?_
      refine W.eq (g2 := F0 m 1020 ls [.int w5, .int 0, .int w3, .int w2, .int w1, .ref mo]) (by rw [ew5, show z_6.toNatClampNeg = i.toInt.toNat + 5 from (show z_6.toInt.toNat = _ by omega)]) ?_
      refine t_calli (runV (As := [.int w1, .int w2, .int w3, .int 0, .int w5]) (rest := []) ⟨hx, hb, hml, hown, hts⟩ (t_X10_today l D cy base τ G_7 mo h_mo w1 w2 w3 0 w5) sV_L_106 hK (t_recv cf_11 hK hT h_mo) ⟨Nat.le_trans hZ hS.1, hT⟩ ⟨Nat.le_of_ble_eq_true rfl, Nat.le_of_ble_eq_true rfl⟩ rfl hl.1 rfl (Nat.le_of_ble_eq_true rfl) dL_law_1020 ⟨by have q9 := hroom.1; omega, by have q9 := hroom.2; omega⟩) hS (fun r_19 G_19 H locs hF_19 hr_19 hT hS => ?_)
      have hF := hF.tr hF_19 rfl
      have hLI := hLI.fr EX.rf hF_19 rfl
      refine lv_pop hx hb dL_law_1023 rfl ?_
      refine lv_goto (tgt := 2266) hx hb dL_law_1024 (by decide) ?_
      exact W.widen (k := cells + 10) (n := slots + 200) (by omega) (by omega) (kk τ G_19 H locs ls hLI hT hS (lv_sub hl [0, 1, 2, 3] rfl))
    · skip
      have tc_16 : ¬ w4.toInt = 0 := fun h => c_16 ((fa_eq _ _).mpr h)
      exfalso; omega
  · skip
    have tc_5 : ¬ w4.toInt = 0 := fun h => c_5 ((fa_eq _ _).mpr h)
    refine lv_iconst (v := 1) hx hb dL_law_972 (by decide) ?_
    refine lv_goto (tgt := 977) hx hb dL_law_973 (by decide) ?_
    refine lv_aload_n hx hb dL_law_977 rfl (lv_at hl 3 rfl) ?_
    refine lv_iload_n hx hb dL_law_978 rfl (lv_at hl 0 rfl) ?_
    refine lv_iconst (v := 5) hx hb dL_law_979 (by decide) ?_
    refine lv_iadd hx hb dL_law_980 ?_
    refine lv_topi (fun z_20 ez_20 => ?_)
    have tz_20 : z_20.toInt = i.toInt + 5 := add_t ez_20 (show -2147483648 ≤ i.toInt + 5 by omega) (show i.toInt + 5 < 2147483648 by omega)
    refine va_sld (i := z_20) hx hb hX hbl hbA hS (vp_in_iff.mpr ⟨by omega, by omega⟩) dL_law_981 ?_
    refine W.eq (g2 := F0 m 982 ls [.int w5, .int 1, .int w3, .int w2, .int w1, .ref xo]) (by rw [ew5, show z_20.toNatClampNeg = i.toInt.toNat + 5 from (show z_20.toInt.toNat = _ by omega)]) ?_
    refine t_calli (runV (As := [.int w1, .int w2, .int w3, .int 1, .int w5]) (rest := []) ⟨hx, hb, hml, hown, hts⟩ (t_X9_today l D cy base τ G xo h_xo w1 w2 w3 1 w5) sV_L_102 hK (t_recv cf_1 hK hT h_xo) ⟨Nat.le_trans hZ hS.1, hT⟩ ⟨Nat.le_of_ble_eq_true rfl, Nat.le_of_ble_eq_true rfl⟩ rfl hl.1 rfl (Nat.le_of_ble_eq_true rfl) dL_law_982 ⟨by have q9 := hroom.1; omega, by have q9 := hroom.2; omega⟩) hS (fun r_21 G_21 H locs hF_21 hr_21 hT hS => ?_)
    have hF := hF.tr hF_21 rfl
    have hLI := hLI.fr EX.rf hF_21 rfl
    refine lv_pop hx hb dL_law_985 rfl ?_
    refine lv_aload_n hx hb dL_law_986 rfl (lv_at hl 1 rfl) ?_
    refine lv_aload_n hx hb dL_law_987 rfl (lv_at hl 3 rfl) ?_
    refine lv_iload_n hx hb dL_law_988 rfl (lv_at hl 0 rfl) ?_
    refine lv_iconst (v := 1) hx hb dL_law_989 (by decide) ?_
    refine lv_iadd hx hb dL_law_990 ?_
    refine lv_topi (fun z_22 ez_22 => ?_)
    have w_23 : z_1 = z_22 := ez_1.trans ez_22.symm
    subst w_23
    refine va_sld (i := z_1) hx hb hX hbl hbA hS (vp_in_iff.mpr ⟨by omega, by omega⟩) dL_law_991 ?_
    refine W.eq (g2 := F0 m 992 ls [.int w1, .ref mo]) (by rw [ew1, show z_1.toNatClampNeg = i.toInt.toNat + 1 from (show z_1.toInt.toNat = _ by omega)]) ?_
    refine lv_aload_n hx hb dL_law_992 rfl (lv_at hl 3 rfl) ?_
    refine lv_iload_n hx hb dL_law_993 rfl (lv_at hl 0 rfl) ?_
    refine lv_iconst (v := 2) hx hb dL_law_994 (by decide) ?_
    refine lv_iadd hx hb dL_law_995 ?_
    refine lv_topi (fun z_24 ez_24 => ?_)
    have w_25 : z_2 = z_24 := ez_2.trans ez_24.symm
    subst w_25
    refine va_sld (i := z_2) hx hb hX hbl hbA hS (vp_in_iff.mpr ⟨by omega, by omega⟩) dL_law_996 ?_
    refine W.eq (g2 := F0 m 997 ls [.int w2, .int w1, .ref mo]) (by rw [ew2, show z_2.toNatClampNeg = i.toInt.toNat + 2 from (show z_2.toInt.toNat = _ by omega)]) ?_
    refine lv_aload_n hx hb dL_law_997 rfl (lv_at hl 3 rfl) ?_
    refine lv_iload_n hx hb dL_law_998 rfl (lv_at hl 0 rfl) ?_
    refine lv_iconst (v := 3) hx hb dL_law_999 (by decide) ?_
    refine lv_iadd hx hb dL_law_1000 ?_
    refine lv_topi (fun z_26 ez_26 => ?_)
    have w_27 : z_3 = z_26 := ez_3.trans ez_26.symm
    subst w_27
    refine va_sld (i := z_3) hx hb hX hbl hbA hS (vp_in_iff.mpr ⟨by omega, by omega⟩) dL_law_1001 ?_
    refine W.eq (g2 := F0 m 1002 ls [.int w3, .int w2, .int w1, .ref mo]) (by rw [ew3, show z_3.toNatClampNeg = i.toInt.toNat + 3 from (show z_3.toInt.toNat = _ by omega)]) ?_
    refine lv_aload_n hx hb dL_law_1002 rfl (lv_at hl 3 rfl) ?_
    refine lv_iload_n hx hb dL_law_1003 rfl (lv_at hl 0 rfl) ?_
    refine lv_iconst (v := 4) hx hb dL_law_1004 (by decide) ?_
    refine lv_iadd hx hb dL_law_1005 ?_
    refine lv_topi (fun z_28 ez_28 => ?_)
    have w_29 : z_4 = z_28 := ez_4.trans ez_28.symm
    subst w_29
    refine va_sld (i := z_4) hx hb hX hbl hbA hS (vp_in_iff.mpr ⟨by omega, by omega⟩) dL_law_1006 ?_
    refine W.eq (g2 := F0 m 1007 ls [.int w4, .int w3, .int w2, .int w1, .ref mo]) (by rw [ew4, show z_4.toNatClampNeg = i.toInt.toNat + 4 from (show z_4.toInt.toNat = _ by omega)]) ?_
    refine lv_if_eq (tgt := 1014) hx hb dL_law_1007 (by decide) (fun c_30 => ?_) (fun c_30 => ?_)
    · skip
      have tc_30 : w4.toInt = 0 := (fa_eq _ _).mp c_30
      refine lv_iconst (v := 0) hx hb dL_law_1014 (by decide) ?_
      refine lv_aload_n hx hb dL_law_1015 rfl (lv_at hl 3 rfl) ?_
      refine lv_iload_n hx hb dL_law_1016 rfl (lv_at hl 0 rfl) ?_
      refine lv_iconst (v := 5) hx hb dL_law_1017 (by decide) ?_
      refine lv_iadd hx hb dL_law_1018 ?_
      refine lv_topi (fun z_31 ez_31 => ?_)
      have w_32 : z_20 = z_31 := ez_20.trans ez_31.symm
      subst w_32
      refine va_sld (i := z_20) hx hb hX hbl hbA hS (vp_in_iff.mpr ⟨by omega, by omega⟩) dL_law_1019 ?_
      refine W.eq (g2 := F0 m 1020 ls [.int w5, .int 0, .int w3, .int w2, .int w1, .ref mo]) (by rw [ew5, show z_20.toNatClampNeg = i.toInt.toNat + 5 from (show z_20.toInt.toNat = _ by omega)]) ?_
      refine t_calli (runV (As := [.int w1, .int w2, .int w3, .int 0, .int w5]) (rest := []) ⟨hx, hb, hml, hown, hts⟩ (t_X10_today l D cy base τ G_21 mo h_mo w1 w2 w3 0 w5) sV_L_106 hK (t_recv cf_11 hK hT h_mo) ⟨Nat.le_trans hZ hS.1, hT⟩ ⟨Nat.le_of_ble_eq_true rfl, Nat.le_of_ble_eq_true rfl⟩ rfl hl.1 rfl (Nat.le_of_ble_eq_true rfl) dL_law_1020 ⟨by have q9 := hroom.1; omega, by have q9 := hroom.2; omega⟩) hS (fun r_33 G_33 H locs hF_33 hr_33 hT hS => ?_)
      have hF := hF.tr hF_33 rfl
      have hLI := hLI.fr EX.rf hF_33 rfl
      refine lv_pop hx hb dL_law_1023 rfl ?_
      refine lv_goto (tgt := 2266) hx hb dL_law_1024 (by decide) ?_
      exact W.widen (k := cells + 10) (n := slots + 200) (by omega) (by omega) (kk τ G_33 H locs ls hLI hT hS (lv_sub hl [0, 1, 2, 3] rfl))
    · skip
      have tc_30 : ¬ w4.toInt = 0 := fun h => c_30 ((fa_eq _ _).mpr h)
      refine lv_iconst (v := 1) hx hb dL_law_1010 (by decide) ?_
      refine lv_goto (tgt := 1015) hx hb dL_law_1011 (by decide) ?_
      refine lv_aload_n hx hb dL_law_1015 rfl (lv_at hl 3 rfl) ?_
      refine lv_iload_n hx hb dL_law_1016 rfl (lv_at hl 0 rfl) ?_
      refine lv_iconst (v := 5) hx hb dL_law_1017 (by decide) ?_
      refine lv_iadd hx hb dL_law_1018 ?_
      refine lv_topi (fun z_34 ez_34 => ?_)
      have w_35 : z_20 = z_34 := ez_20.trans ez_34.symm
      subst w_35
      refine va_sld (i := z_20) hx hb hX hbl hbA hS (vp_in_iff.mpr ⟨by omega, by omega⟩) dL_law_1019 ?_
      refine W.eq (g2 := F0 m 1020 ls [.int w5, .int 1, .int w3, .int w2, .int w1, .ref mo]) (by rw [ew5, show z_20.toNatClampNeg = i.toInt.toNat + 5 from (show z_20.toInt.toNat = _ by omega)]) ?_
      refine t_calli (runV (As := [.int w1, .int w2, .int w3, .int 1, .int w5]) (rest := []) ⟨hx, hb, hml, hown, hts⟩ (t_X10_today l D cy base τ G_21 mo h_mo w1 w2 w3 1 w5) sV_L_106 hK (t_recv cf_11 hK hT h_mo) ⟨Nat.le_trans hZ hS.1, hT⟩ ⟨Nat.le_of_ble_eq_true rfl, Nat.le_of_ble_eq_true rfl⟩ rfl hl.1 rfl (Nat.le_of_ble_eq_true rfl) dL_law_1020 ⟨by have q9 := hroom.1; omega, by have q9 := hroom.2; omega⟩) hS (fun r_36 G_36 H locs hF_36 hr_36 hT hS => ?_)
      have hF := hF.tr hF_36 rfl
      have hLI := hLI.fr EX.rf hF_36 rfl
      refine lv_pop hx hb dL_law_1023 rfl ?_
      refine lv_goto (tgt := 2266) hx hb dL_law_1024 (by decide) ?_
      exact W.widen (k := cells + 10) (n := slots + 200) (by omega) (by omega) (kk τ G_36 H locs ls hLI hT hS (lv_sub hl [0, 1, 2, 3] rfl))
set_option maxHeartbeats 4000000 in
set_option maxRecDepth 100000 in
theorem lc_21 {p : Program} {e : Env} {s : State} {m : MethodId} {below : List Frame} {meth : Method} {c : Code} {l : Launch} {b L : Nat} {xs : Nat → Int32} (D : va_G) (cy : Nat → ClassId) (adK adV : Nat → Nat) (base xo mo : Nat) (C0 : lw_At p s m meth c b L xs) (hK : KK D cy s) (hSS : SS adK adV base s s.heap) (hZ : base ≤ s.heap.size) (hZ2 : s.heap.size ≤ base) (hbA : ¬ RA base b) (hLs : L ≤ 3584) (τ : Nat → Nat) (G : Gh) (i : Int32) (hi0 : 0 ≤ i.toInt) (hi7 : i.toInt + 7 ≤ L) (hLI : LI τ G xo mo) {H : Heap} {locs : List Loc} (hT : TY D cy base τ G H) (hS : va_S (RA base) s.heap H locs) {ls : Array Slot} (hl : lv_has ls 4 [(3, .int i), (2, .ref mo), (1, .ref xo), (0, .ref b)]) {cells slots : Nat} (hroom : cells + 100 ≤ room_1.cells ∧ slots + 1000 ≤ room_1.slots) (kk : ∀ (τ1 : Nat → Nat) (G1 : Gh) (H1 : Heap) (locs1 : List Loc) (ls1 : Array Slot), LI τ1 G1 xo mo → TY D cy base τ1 G1 H1 → va_S (RA base) s.heap H1 locs1 → lv_has ls1 4 [(3, .int i), (2, .ref mo), (1, .ref xo), (0, .ref b)] → W p l e room_1 s m #[Value.ref b] below meth c H1 locs1 (cells + 10) (slots + 200) (lw_Z below #[Value.ref b] s) (F0 m 2266 ls1 [])) : W p l e room_1 s m #[Value.ref b] below meth c H locs cells slots (lw_Z below #[Value.ref b] s) (F0 m 1027 ls []) := by
  obtain ⟨hx, hb, hr, hml, hown, hts, hX, hbl, hlocks, hgv⟩ := id C0
  have hown : s.vm.findClass RL = some m.cls := hown
  have hb : c.code = cL_law := hb
  have hts : ∀ w ∈ GW, w.before #[Value.ref b] s = true := fun w h => hts w (gw_tbl w h)
  have h_xo := hLI.1
  have h_mo := hLI.2.1
  have hF : Fr τ [1, 2, 3, 4, 6, 7, 11, 20, 25, 26, 27, 28, 29, 30, 31, 32, 33, 34, 35, 36, 37, 38, 39, 40, 51, 52, 53, 54, 55, 66, 67, 68, 69, 70, 71, 72, 73, 74, 75, 76, 77, 78, 79, 80, 81, 82, 83, 84, 85, 86, 87, 88, 89, 90, 91, 1001, 1002, 1004, 1023, 1024] G G := Fr.rf
  obtain ⟨w1, ew1⟩ : ∃ y : Int32, y = xs (i.toInt.toNat + 1) := ⟨_, rfl⟩
  obtain ⟨w2, ew2⟩ : ∃ y : Int32, y = xs (i.toInt.toNat + 2) := ⟨_, rfl⟩
  refine lv_aload_n hx hb dL_law_1027 rfl (lv_at hl 2 rfl) ?_
  refine lv_aload_n hx hb dL_law_1028 rfl (lv_at hl 3 rfl) ?_
  refine lv_iload_n hx hb dL_law_1029 rfl (lv_at hl 0 rfl) ?_
  refine lv_iconst (v := 1) hx hb dL_law_1030 (by decide) ?_
  refine lv_iadd hx hb dL_law_1031 ?_
  refine lv_topi (fun z_1 ez_1 => ?_)
  have tz_1 : z_1.toInt = i.toInt + 1 := add_t ez_1 (show -2147483648 ≤ i.toInt + 1 by omega) (show i.toInt + 1 < 2147483648 by omega)
  refine va_sld (i := z_1) hx hb hX hbl hbA hS (vp_in_iff.mpr ⟨by omega, by omega⟩) dL_law_1032 ?_
  refine W.eq (g2 := F0 m 1033 ls [.int w1, .ref xo]) (by rw [ew1, show z_1.toNatClampNeg = i.toInt.toNat + 1 from (show z_1.toInt.toNat = _ by omega)]) ?_
  refine lv_aload_n hx hb dL_law_1033 rfl (lv_at hl 3 rfl) ?_
  refine lv_iload_n hx hb dL_law_1034 rfl (lv_at hl 0 rfl) ?_
  refine lv_iconst (v := 2) hx hb dL_law_1035 (by decide) ?_
  refine lv_iadd hx hb dL_law_1036 ?_
  refine lv_topi (fun z_2 ez_2 => ?_)
  have tz_2 : z_2.toInt = i.toInt + 2 := add_t ez_2 (show -2147483648 ≤ i.toInt + 2 by omega) (show i.toInt + 2 < 2147483648 by omega)
  refine va_sld (i := z_2) hx hb hX hbl hbA hS (vp_in_iff.mpr ⟨by omega, by omega⟩) dL_law_1037 ?_
  refine W.eq (g2 := F0 m 1038 ls [.int w2, .int w1, .ref xo]) (by rw [ew2, show z_2.toNatClampNeg = i.toInt.toNat + 2 from (show z_2.toInt.toNat = _ by omega)]) ?_
  refine t_calli (runV (As := [.int w1, .int w2]) (rest := []) ⟨hx, hb, hml, hown, hts⟩ (t_X9_last l D cy base τ G xo h_xo w1 w2) sV_L_107 hK (t_recv cf_1 hK hT h_xo) ⟨Nat.le_trans hZ hS.1, hT⟩ ⟨Nat.le_of_ble_eq_true rfl, Nat.le_of_ble_eq_true rfl⟩ rfl hl.1 rfl (Nat.le_of_ble_eq_true rfl) dL_law_1038 ⟨by have q9 := hroom.1; omega, by have q9 := hroom.2; omega⟩) hS (fun r_3 G_3 H locs hF_3 hr_3 hT hS => ?_)
  have hF := hF.tr hF_3 rfl
  have hLI := hLI.fr EX.rf hF_3 rfl
  refine lv_pop hx hb dL_law_1041 rfl ?_
  refine lv_aload_n hx hb dL_law_1042 rfl (lv_at hl 1 rfl) ?_
  refine lv_aload_n hx hb dL_law_1043 rfl (lv_at hl 3 rfl) ?_
  refine lv_iload_n hx hb dL_law_1044 rfl (lv_at hl 0 rfl) ?_
  refine lv_iconst (v := 1) hx hb dL_law_1045 (by decide) ?_
  refine lv_iadd hx hb dL_law_1046 ?_
  refine lv_topi (fun z_4 ez_4 => ?_)
  have w_5 : z_1 = z_4 := ez_1.trans ez_4.symm
  subst w_5
  refine va_sld (i := z_1) hx hb hX hbl hbA hS (vp_in_iff.mpr ⟨by omega, by omega⟩) dL_law_1047 ?_
  refine W.eq (g2 := F0 m 1048 ls [.int w1, .ref mo]) (by rw [ew1, show z_1.toNatClampNeg = i.toInt.toNat + 1 from (show z_1.toInt.toNat = _ by omega)]) ?_
  refine lv_aload_n hx hb dL_law_1048 rfl (lv_at hl 3 rfl) ?_
  refine lv_iload_n hx hb dL_law_1049 rfl (lv_at hl 0 rfl) ?_
  refine lv_iconst (v := 2) hx hb dL_law_1050 (by decide) ?_
  refine lv_iadd hx hb dL_law_1051 ?_
  refine lv_topi (fun z_6 ez_6 => ?_)
  have w_7 : z_2 = z_6 := ez_2.trans ez_6.symm
  subst w_7
  refine va_sld (i := z_2) hx hb hX hbl hbA hS (vp_in_iff.mpr ⟨by omega, by omega⟩) dL_law_1052 ?_
  refine W.eq (g2 := F0 m 1053 ls [.int w2, .int w1, .ref mo]) (by rw [ew2, show z_2.toNatClampNeg = i.toInt.toNat + 2 from (show z_2.toInt.toNat = _ by omega)]) ?_
  refine t_calli (runV (As := [.int w1, .int w2]) (rest := []) ⟨hx, hb, hml, hown, hts⟩ (t_X10_last l D cy base τ G_3 mo h_mo w1 w2) sV_L_110 hK (t_recv cf_11 hK hT h_mo) ⟨Nat.le_trans hZ hS.1, hT⟩ ⟨Nat.le_of_ble_eq_true rfl, Nat.le_of_ble_eq_true rfl⟩ rfl hl.1 rfl (Nat.le_of_ble_eq_true rfl) dL_law_1053 ⟨by have q9 := hroom.1; omega, by have q9 := hroom.2; omega⟩) hS (fun r_8 G_8 H locs hF_8 hr_8 hT hS => ?_)
  have hF := hF.tr hF_8 rfl
  have hLI := hLI.fr EX.rf hF_8 rfl
  refine lv_pop hx hb dL_law_1056 rfl ?_
  refine lv_goto (tgt := 2266) hx hb dL_law_1057 (by decide) ?_
  exact W.widen (k := cells + 10) (n := slots + 200) (by omega) (by omega) (kk τ G_8 H locs ls hLI hT hS (lv_sub hl [0, 1, 2, 3] rfl))
set_option maxHeartbeats 4000000 in
set_option maxRecDepth 100000 in
theorem lc_22 {p : Program} {e : Env} {s : State} {m : MethodId} {below : List Frame} {meth : Method} {c : Code} {l : Launch} {b L : Nat} {xs : Nat → Int32} (D : va_G) (cy : Nat → ClassId) (adK adV : Nat → Nat) (base xo mo : Nat) (C0 : lw_At p s m meth c b L xs) (hK : KK D cy s) (hSS : SS adK adV base s s.heap) (hZ : base ≤ s.heap.size) (hZ2 : s.heap.size ≤ base) (hbA : ¬ RA base b) (hLs : L ≤ 3584) (τ : Nat → Nat) (G : Gh) (i : Int32) (hi0 : 0 ≤ i.toInt) (hi7 : i.toInt + 7 ≤ L) (hLI : LI τ G xo mo) {H : Heap} {locs : List Loc} (hT : TY D cy base τ G H) (hS : va_S (RA base) s.heap H locs) {ls : Array Slot} (hl : lv_has ls 4 [(3, .int i), (2, .ref mo), (1, .ref xo), (0, .ref b)]) {cells slots : Nat} (hroom : cells + 100 ≤ room_1.cells ∧ slots + 1000 ≤ room_1.slots) (kk : ∀ (τ1 : Nat → Nat) (G1 : Gh) (H1 : Heap) (locs1 : List Loc) (ls1 : Array Slot), LI τ1 G1 xo mo → TY D cy base τ1 G1 H1 → va_S (RA base) s.heap H1 locs1 → lv_has ls1 4 [(3, .int i), (2, .ref mo), (1, .ref xo), (0, .ref b)] → W p l e room_1 s m #[Value.ref b] below meth c H1 locs1 (cells + 10) (slots + 200) (lw_Z below #[Value.ref b] s) (F0 m 2266 ls1 [])) : W p l e room_1 s m #[Value.ref b] below meth c H locs cells slots (lw_Z below #[Value.ref b] s) (F0 m 1060 ls []) := by
  obtain ⟨hx, hb, hr, hml, hown, hts, hX, hbl, hlocks, hgv⟩ := id C0
  have hown : s.vm.findClass RL = some m.cls := hown
  have hb : c.code = cL_law := hb
  have hts : ∀ w ∈ GW, w.before #[Value.ref b] s = true := fun w h => hts w (gw_tbl w h)
  have h_xo := hLI.1
  have h_mo := hLI.2.1
  have hF : Fr τ [1, 2, 3, 4, 6, 7, 11, 20, 25, 26, 27, 28, 29, 30, 31, 32, 33, 34, 35, 36, 37, 38, 39, 40, 51, 52, 53, 54, 55, 66, 67, 68, 69, 70, 71, 72, 73, 74, 75, 76, 77, 78, 79, 80, 81, 82, 83, 84, 85, 86, 87, 88, 89, 90, 91, 1001, 1002, 1004, 1023, 1024] G G := Fr.rf
  obtain ⟨w1, ew1⟩ : ∃ y : Int32, y = xs (i.toInt.toNat + 1) := ⟨_, rfl⟩
  obtain ⟨w2, ew2⟩ : ∃ y : Int32, y = xs (i.toInt.toNat + 2) := ⟨_, rfl⟩
  refine lv_aload_n hx hb dL_law_1060 rfl (lv_at hl 2 rfl) ?_
  refine lv_aload_n hx hb dL_law_1061 rfl (lv_at hl 3 rfl) ?_
  refine lv_iload_n hx hb dL_law_1062 rfl (lv_at hl 0 rfl) ?_
  refine lv_iconst (v := 1) hx hb dL_law_1063 (by decide) ?_
  refine lv_iadd hx hb dL_law_1064 ?_
  refine lv_topi (fun z_1 ez_1 => ?_)
  have tz_1 : z_1.toInt = i.toInt + 1 := add_t ez_1 (show -2147483648 ≤ i.toInt + 1 by omega) (show i.toInt + 1 < 2147483648 by omega)
  refine va_sld (i := z_1) hx hb hX hbl hbA hS (vp_in_iff.mpr ⟨by omega, by omega⟩) dL_law_1065 ?_
  refine W.eq (g2 := F0 m 1066 ls [.int w1, .ref xo]) (by rw [ew1, show z_1.toNatClampNeg = i.toInt.toNat + 1 from (show z_1.toInt.toNat = _ by omega)]) ?_
  refine lv_aload_n hx hb dL_law_1066 rfl (lv_at hl 3 rfl) ?_
  refine lv_iload_n hx hb dL_law_1067 rfl (lv_at hl 0 rfl) ?_
  refine lv_iconst (v := 2) hx hb dL_law_1068 (by decide) ?_
  refine lv_iadd hx hb dL_law_1069 ?_
  refine lv_topi (fun z_2 ez_2 => ?_)
  have tz_2 : z_2.toInt = i.toInt + 2 := add_t ez_2 (show -2147483648 ≤ i.toInt + 2 by omega) (show i.toInt + 2 < 2147483648 by omega)
  refine va_sld (i := z_2) hx hb hX hbl hbA hS (vp_in_iff.mpr ⟨by omega, by omega⟩) dL_law_1070 ?_
  refine W.eq (g2 := F0 m 1071 ls [.int w2, .int w1, .ref xo]) (by rw [ew2, show z_2.toNatClampNeg = i.toInt.toNat + 2 from (show z_2.toInt.toNat = _ by omega)]) ?_
  refine t_calll (runV (As := [.int w1, .int w2]) (rest := []) ⟨hx, hb, hml, hown, hts⟩ (t_X9_signs l D cy base τ G xo h_xo w1 w2) sV_L_111 hK (t_recv cf_1 hK hT h_xo) ⟨Nat.le_trans hZ hS.1, hT⟩ ⟨Nat.le_of_ble_eq_true rfl, Nat.le_of_ble_eq_true rfl⟩ rfl hl.1 rfl (Nat.le_of_ble_eq_true rfl) dL_law_1071 ⟨by have q9 := hroom.1; omega, by have q9 := hroom.2; omega⟩) hS (fun r_3 G_3 H locs hF_3 hr_3 hT hS => ?_)
  have hF := hF.tr hF_3 rfl
  have hLI := hLI.fr EX.rf hF_3 rfl
  refine lv_pop2_2 hx hb dL_law_1074 rfl ?_
  refine lv_aload_n hx hb dL_law_1075 rfl (lv_at hl 1 rfl) ?_
  refine lv_aload_n hx hb dL_law_1076 rfl (lv_at hl 3 rfl) ?_
  refine lv_iload_n hx hb dL_law_1077 rfl (lv_at hl 0 rfl) ?_
  refine lv_iconst (v := 1) hx hb dL_law_1078 (by decide) ?_
  refine lv_iadd hx hb dL_law_1079 ?_
  refine lv_topi (fun z_4 ez_4 => ?_)
  have w_5 : z_1 = z_4 := ez_1.trans ez_4.symm
  subst w_5
  refine va_sld (i := z_1) hx hb hX hbl hbA hS (vp_in_iff.mpr ⟨by omega, by omega⟩) dL_law_1080 ?_
  refine W.eq (g2 := F0 m 1081 ls [.int w1, .ref mo]) (by rw [ew1, show z_1.toNatClampNeg = i.toInt.toNat + 1 from (show z_1.toInt.toNat = _ by omega)]) ?_
  refine lv_aload_n hx hb dL_law_1081 rfl (lv_at hl 3 rfl) ?_
  refine lv_iload_n hx hb dL_law_1082 rfl (lv_at hl 0 rfl) ?_
  refine lv_iconst (v := 2) hx hb dL_law_1083 (by decide) ?_
  refine lv_iadd hx hb dL_law_1084 ?_
  refine lv_topi (fun z_6 ez_6 => ?_)
  have w_7 : z_2 = z_6 := ez_2.trans ez_6.symm
  subst w_7
  refine va_sld (i := z_2) hx hb hX hbl hbA hS (vp_in_iff.mpr ⟨by omega, by omega⟩) dL_law_1085 ?_
  refine W.eq (g2 := F0 m 1086 ls [.int w2, .int w1, .ref mo]) (by rw [ew2, show z_2.toNatClampNeg = i.toInt.toNat + 2 from (show z_2.toInt.toNat = _ by omega)]) ?_
  obtain ⟨tha, sa, e_tha, h_tha, e_sa, h_sa, hI⟩ := hLI.2.2.2.1
  have b_tha := (hF.r h_mo (by decide) rfl _).symm.trans e_tha
  have b_sa := (hF.r h_mo (by decide) rfl _).symm.trans e_sa
  refine t_calll (runV (As := [.int w1, .int w2]) (rest := []) ⟨hx, hb, hml, hown, hts⟩ (t_X10_signs l D cy base τ G_3 mo h_mo w1 w2 tha h_tha ((hF.r h_mo (by decide) rfl _).trans b_tha) sa h_sa ((hF.r h_mo (by decide) rfl _).trans b_sa) (by show INV G_3 tha sa; first | assumption | omega | decide)) sV_L_114 hK (t_recv cf_11 hK hT h_mo) ⟨Nat.le_trans hZ hS.1, hT⟩ ⟨Nat.le_of_ble_eq_true rfl, Nat.le_of_ble_eq_true rfl⟩ rfl hl.1 rfl (Nat.le_of_ble_eq_true rfl) dL_law_1086 ⟨by have q9 := hroom.1; omega, by have q9 := hroom.2; omega⟩) hS (fun r_8 G_8 H locs hF_8 hr_8 hT hS => ?_)
  have hF := hF.tr hF_8 rfl
  have hLI := hLI.fr EX.rf hF_8 rfl
  refine lv_pop2_2 hx hb dL_law_1089 rfl ?_
  refine lv_goto (tgt := 2266) hx hb dL_law_1090 (by decide) ?_
  exact W.widen (k := cells + 10) (n := slots + 200) (by omega) (by omega) (kk τ G_8 H locs ls hLI hT hS (lv_sub hl [0, 1, 2, 3] rfl))
set_option maxHeartbeats 4000000 in
set_option maxRecDepth 100000 in
theorem lc_23 {p : Program} {e : Env} {s : State} {m : MethodId} {below : List Frame} {meth : Method} {c : Code} {l : Launch} {b L : Nat} {xs : Nat → Int32} (D : va_G) (cy : Nat → ClassId) (adK adV : Nat → Nat) (base xo mo : Nat) (C0 : lw_At p s m meth c b L xs) (hK : KK D cy s) (hSS : SS adK adV base s s.heap) (hZ : base ≤ s.heap.size) (hZ2 : s.heap.size ≤ base) (hbA : ¬ RA base b) (hLs : L ≤ 3584) (τ : Nat → Nat) (G : Gh) (i : Int32) (hi0 : 0 ≤ i.toInt) (hi7 : i.toInt + 7 ≤ L) (hLI : LI τ G xo mo) {H : Heap} {locs : List Loc} (hT : TY D cy base τ G H) (hS : va_S (RA base) s.heap H locs) {ls : Array Slot} (hl : lv_has ls 4 [(3, .int i), (2, .ref mo), (1, .ref xo), (0, .ref b)]) {cells slots : Nat} (hroom : cells + 100 ≤ room_1.cells ∧ slots + 1000 ≤ room_1.slots) (kk : ∀ (τ1 : Nat → Nat) (G1 : Gh) (H1 : Heap) (locs1 : List Loc) (ls1 : Array Slot), LI τ1 G1 xo mo → TY D cy base τ1 G1 H1 → va_S (RA base) s.heap H1 locs1 → lv_has ls1 4 [(3, .int i), (2, .ref mo), (1, .ref xo), (0, .ref b)] → W p l e room_1 s m #[Value.ref b] below meth c H1 locs1 (cells + 10) (slots + 200) (lw_Z below #[Value.ref b] s) (F0 m 2266 ls1 [])) : W p l e room_1 s m #[Value.ref b] below meth c H locs cells slots (lw_Z below #[Value.ref b] s) (F0 m 1093 ls []) := by
  obtain ⟨hx, hb, hr, hml, hown, hts, hX, hbl, hlocks, hgv⟩ := id C0
  have hown : s.vm.findClass RL = some m.cls := hown
  have hb : c.code = cL_law := hb
  have hts : ∀ w ∈ GW, w.before #[Value.ref b] s = true := fun w h => hts w (gw_tbl w h)
  have h_xo := hLI.1
  have h_mo := hLI.2.1
  have hF : Fr τ [1, 2, 3, 4, 6, 7, 11, 20, 25, 26, 27, 28, 29, 30, 31, 32, 33, 34, 35, 36, 37, 38, 39, 40, 51, 52, 53, 54, 55, 66, 67, 68, 69, 70, 71, 72, 73, 74, 75, 76, 77, 78, 79, 80, 81, 82, 83, 84, 85, 86, 87, 88, 89, 90, 91, 1001, 1002, 1004, 1023, 1024] G G := Fr.rf
  obtain ⟨w1, ew1⟩ : ∃ y : Int32, y = xs (i.toInt.toNat + 1) := ⟨_, rfl⟩
  obtain ⟨w2, ew2⟩ : ∃ y : Int32, y = xs (i.toInt.toNat + 2) := ⟨_, rfl⟩
  obtain ⟨w3, ew3⟩ : ∃ y : Int32, y = xs (i.toInt.toNat + 3) := ⟨_, rfl⟩
  obtain ⟨w4, ew4⟩ : ∃ y : Int32, y = xs (i.toInt.toNat + 4) := ⟨_, rfl⟩
  refine lv_aload_n hx hb dL_law_1093 rfl (lv_at hl 2 rfl) ?_
  refine lv_aload_n hx hb dL_law_1094 rfl (lv_at hl 3 rfl) ?_
  refine lv_iload_n hx hb dL_law_1095 rfl (lv_at hl 0 rfl) ?_
  refine lv_iconst (v := 1) hx hb dL_law_1096 (by decide) ?_
  refine lv_iadd hx hb dL_law_1097 ?_
  refine lv_topi (fun z_1 ez_1 => ?_)
  have tz_1 : z_1.toInt = i.toInt + 1 := add_t ez_1 (show -2147483648 ≤ i.toInt + 1 by omega) (show i.toInt + 1 < 2147483648 by omega)
  refine va_sld (i := z_1) hx hb hX hbl hbA hS (vp_in_iff.mpr ⟨by omega, by omega⟩) dL_law_1098 ?_
  refine W.eq (g2 := F0 m 1099 ls [.int w1, .ref xo]) (by rw [ew1, show z_1.toNatClampNeg = i.toInt.toNat + 1 from (show z_1.toInt.toNat = _ by omega)]) ?_
  refine lv_aload_n hx hb dL_law_1099 rfl (lv_at hl 3 rfl) ?_
  refine lv_iload_n hx hb dL_law_1100 rfl (lv_at hl 0 rfl) ?_
  refine lv_iconst (v := 2) hx hb dL_law_1101 (by decide) ?_
  refine lv_iadd hx hb dL_law_1102 ?_
  refine lv_topi (fun z_2 ez_2 => ?_)
  have tz_2 : z_2.toInt = i.toInt + 2 := add_t ez_2 (show -2147483648 ≤ i.toInt + 2 by omega) (show i.toInt + 2 < 2147483648 by omega)
  refine va_sld (i := z_2) hx hb hX hbl hbA hS (vp_in_iff.mpr ⟨by omega, by omega⟩) dL_law_1103 ?_
  refine W.eq (g2 := F0 m 1104 ls [.int w2, .int w1, .ref xo]) (by rw [ew2, show z_2.toNatClampNeg = i.toInt.toNat + 2 from (show z_2.toInt.toNat = _ by omega)]) ?_
  refine lv_aload_n hx hb dL_law_1104 rfl (lv_at hl 3 rfl) ?_
  refine lv_iload_n hx hb dL_law_1105 rfl (lv_at hl 0 rfl) ?_
  refine lv_iconst (v := 3) hx hb dL_law_1106 (by decide) ?_
  refine lv_iadd hx hb dL_law_1107 ?_
  refine lv_topi (fun z_3 ez_3 => ?_)
  have tz_3 : z_3.toInt = i.toInt + 3 := add_t ez_3 (show -2147483648 ≤ i.toInt + 3 by omega) (show i.toInt + 3 < 2147483648 by omega)
  refine va_sld (i := z_3) hx hb hX hbl hbA hS (vp_in_iff.mpr ⟨by omega, by omega⟩) dL_law_1108 ?_
  refine W.eq (g2 := F0 m 1109 ls [.int w3, .int w2, .int w1, .ref xo]) (by rw [ew3, show z_3.toNatClampNeg = i.toInt.toNat + 3 from (show z_3.toInt.toNat = _ by omega)]) ?_
  refine lv_aload_n hx hb dL_law_1109 rfl (lv_at hl 3 rfl) ?_
  refine lv_iload_n hx hb dL_law_1110 rfl (lv_at hl 0 rfl) ?_
  refine lv_iconst (v := 4) hx hb dL_law_1111 (by decide) ?_
  refine lv_iadd hx hb dL_law_1112 ?_
  refine lv_topi (fun z_4 ez_4 => ?_)
  have tz_4 : z_4.toInt = i.toInt + 4 := add_t ez_4 (show -2147483648 ≤ i.toInt + 4 by omega) (show i.toInt + 4 < 2147483648 by omega)
  refine va_sld (i := z_4) hx hb hX hbl hbA hS (vp_in_iff.mpr ⟨by omega, by omega⟩) dL_law_1113 ?_
  refine W.eq (g2 := F0 m 1114 ls [.int w4, .int w3, .int w2, .int w1, .ref xo]) (by rw [ew4, show z_4.toNatClampNeg = i.toInt.toNat + 4 from (show z_4.toInt.toNat = _ by omega)]) ?_
  refine t_calll (runV (As := [.int w1, .int w2, .int w3, .int w4]) (rest := []) ⟨hx, hb, hml, hown, hts⟩ (t_X9_fork l D cy base τ G xo h_xo w1 w2 w3 w4) sV_L_115 hK (t_recv cf_1 hK hT h_xo) ⟨Nat.le_trans hZ hS.1, hT⟩ ⟨Nat.le_of_ble_eq_true rfl, Nat.le_of_ble_eq_true rfl⟩ rfl hl.1 rfl (Nat.le_of_ble_eq_true rfl) dL_law_1114 ⟨by have q9 := hroom.1; omega, by have q9 := hroom.2; omega⟩) hS (fun r_5 G_5 H locs hF_5 hr_5 hT hS => ?_)
  have hF := hF.tr hF_5 rfl
  have hLI := hLI.fr EX.rf hF_5 rfl
  refine lv_pop2_2 hx hb dL_law_1117 rfl ?_
  refine lv_aload_n hx hb dL_law_1118 rfl (lv_at hl 1 rfl) ?_
  refine lv_aload_n hx hb dL_law_1119 rfl (lv_at hl 3 rfl) ?_
  refine lv_iload_n hx hb dL_law_1120 rfl (lv_at hl 0 rfl) ?_
  refine lv_iconst (v := 1) hx hb dL_law_1121 (by decide) ?_
  refine lv_iadd hx hb dL_law_1122 ?_
  refine lv_topi (fun z_6 ez_6 => ?_)
  have w_7 : z_1 = z_6 := ez_1.trans ez_6.symm
  subst w_7
  refine va_sld (i := z_1) hx hb hX hbl hbA hS (vp_in_iff.mpr ⟨by omega, by omega⟩) dL_law_1123 ?_
  refine W.eq (g2 := F0 m 1124 ls [.int w1, .ref mo]) (by rw [ew1, show z_1.toNatClampNeg = i.toInt.toNat + 1 from (show z_1.toInt.toNat = _ by omega)]) ?_
  refine lv_aload_n hx hb dL_law_1124 rfl (lv_at hl 3 rfl) ?_
  refine lv_iload_n hx hb dL_law_1125 rfl (lv_at hl 0 rfl) ?_
  refine lv_iconst (v := 2) hx hb dL_law_1126 (by decide) ?_
  refine lv_iadd hx hb dL_law_1127 ?_
  refine lv_topi (fun z_8 ez_8 => ?_)
  have w_9 : z_2 = z_8 := ez_2.trans ez_8.symm
  subst w_9
  refine va_sld (i := z_2) hx hb hX hbl hbA hS (vp_in_iff.mpr ⟨by omega, by omega⟩) dL_law_1128 ?_
  refine W.eq (g2 := F0 m 1129 ls [.int w2, .int w1, .ref mo]) (by rw [ew2, show z_2.toNatClampNeg = i.toInt.toNat + 2 from (show z_2.toInt.toNat = _ by omega)]) ?_
  refine lv_aload_n hx hb dL_law_1129 rfl (lv_at hl 3 rfl) ?_
  refine lv_iload_n hx hb dL_law_1130 rfl (lv_at hl 0 rfl) ?_
  refine lv_iconst (v := 3) hx hb dL_law_1131 (by decide) ?_
  refine lv_iadd hx hb dL_law_1132 ?_
  refine lv_topi (fun z_10 ez_10 => ?_)
  have w_11 : z_3 = z_10 := ez_3.trans ez_10.symm
  subst w_11
  refine va_sld (i := z_3) hx hb hX hbl hbA hS (vp_in_iff.mpr ⟨by omega, by omega⟩) dL_law_1133 ?_
  refine W.eq (g2 := F0 m 1134 ls [.int w3, .int w2, .int w1, .ref mo]) (by rw [ew3, show z_3.toNatClampNeg = i.toInt.toNat + 3 from (show z_3.toInt.toNat = _ by omega)]) ?_
  refine lv_aload_n hx hb dL_law_1134 rfl (lv_at hl 3 rfl) ?_
  refine lv_iload_n hx hb dL_law_1135 rfl (lv_at hl 0 rfl) ?_
  refine lv_iconst (v := 4) hx hb dL_law_1136 (by decide) ?_
  refine lv_iadd hx hb dL_law_1137 ?_
  refine lv_topi (fun z_12 ez_12 => ?_)
  have w_13 : z_4 = z_12 := ez_4.trans ez_12.symm
  subst w_13
  refine va_sld (i := z_4) hx hb hX hbl hbA hS (vp_in_iff.mpr ⟨by omega, by omega⟩) dL_law_1138 ?_
  refine W.eq (g2 := F0 m 1139 ls [.int w4, .int w3, .int w2, .int w1, .ref mo]) (by rw [ew4, show z_4.toNatClampNeg = i.toInt.toNat + 4 from (show z_4.toInt.toNat = _ by omega)]) ?_
  refine t_calll (runV (As := [.int w1, .int w2, .int w3, .int w4]) (rest := []) ⟨hx, hb, hml, hown, hts⟩ (t_X10_fork l D cy base τ G_5 mo h_mo w1 w2 w3 w4) sV_L_118 hK (t_recv cf_11 hK hT h_mo) ⟨Nat.le_trans hZ hS.1, hT⟩ ⟨Nat.le_of_ble_eq_true rfl, Nat.le_of_ble_eq_true rfl⟩ rfl hl.1 rfl (Nat.le_of_ble_eq_true rfl) dL_law_1139 ⟨by have q9 := hroom.1; omega, by have q9 := hroom.2; omega⟩) hS (fun r_14 G_14 H locs hF_14 hr_14 hT hS => ?_)
  have hF := hF.tr hF_14 rfl
  have hLI := hLI.fr EX.rf hF_14 rfl
  refine lv_pop2_2 hx hb dL_law_1142 rfl ?_
  refine lv_goto (tgt := 2266) hx hb dL_law_1143 (by decide) ?_
  exact W.widen (k := cells + 10) (n := slots + 200) (by omega) (by omega) (kk τ G_14 H locs ls hLI hT hS (lv_sub hl [0, 1, 2, 3] rfl))
set_option maxHeartbeats 4000000 in
set_option maxRecDepth 100000 in
theorem lc_24 {p : Program} {e : Env} {s : State} {m : MethodId} {below : List Frame} {meth : Method} {c : Code} {l : Launch} {b L : Nat} {xs : Nat → Int32} (D : va_G) (cy : Nat → ClassId) (adK adV : Nat → Nat) (base xo mo : Nat) (C0 : lw_At p s m meth c b L xs) (hK : KK D cy s) (hSS : SS adK adV base s s.heap) (hZ : base ≤ s.heap.size) (hZ2 : s.heap.size ≤ base) (hbA : ¬ RA base b) (hLs : L ≤ 3584) (τ : Nat → Nat) (G : Gh) (i : Int32) (hi0 : 0 ≤ i.toInt) (hi7 : i.toInt + 7 ≤ L) (hLI : LI τ G xo mo) {H : Heap} {locs : List Loc} (hT : TY D cy base τ G H) (hS : va_S (RA base) s.heap H locs) {ls : Array Slot} (hl : lv_has ls 4 [(3, .int i), (2, .ref mo), (1, .ref xo), (0, .ref b)]) {cells slots : Nat} (hroom : cells + 100 ≤ room_1.cells ∧ slots + 1000 ≤ room_1.slots) (kk : ∀ (τ1 : Nat → Nat) (G1 : Gh) (H1 : Heap) (locs1 : List Loc) (ls1 : Array Slot), LI τ1 G1 xo mo → TY D cy base τ1 G1 H1 → va_S (RA base) s.heap H1 locs1 → lv_has ls1 4 [(3, .int i), (2, .ref mo), (1, .ref xo), (0, .ref b)] → W p l e room_1 s m #[Value.ref b] below meth c H1 locs1 (cells + 10) (slots + 200) (lw_Z below #[Value.ref b] s) (F0 m 2266 ls1 [])) : W p l e room_1 s m #[Value.ref b] below meth c H locs cells slots (lw_Z below #[Value.ref b] s) (F0 m 1146 ls []) := by
  obtain ⟨hx, hb, hr, hml, hown, hts, hX, hbl, hlocks, hgv⟩ := id C0
  have hown : s.vm.findClass RL = some m.cls := hown
  have hb : c.code = cL_law := hb
  have hts : ∀ w ∈ GW, w.before #[Value.ref b] s = true := fun w h => hts w (gw_tbl w h)
  have h_xo := hLI.1
  have h_mo := hLI.2.1
  have hF : Fr τ [1, 2, 3, 4, 6, 7, 11, 20, 25, 26, 27, 28, 29, 30, 31, 32, 33, 34, 35, 36, 37, 38, 39, 40, 51, 52, 53, 54, 55, 66, 67, 68, 69, 70, 71, 72, 73, 74, 75, 76, 77, 78, 79, 80, 81, 82, 83, 84, 85, 86, 87, 88, 89, 90, 91, 1001, 1002, 1004, 1023, 1024] G G := Fr.rf
  obtain ⟨w1, ew1⟩ : ∃ y : Int32, y = xs (i.toInt.toNat + 1) := ⟨_, rfl⟩
  obtain ⟨w2, ew2⟩ : ∃ y : Int32, y = xs (i.toInt.toNat + 2) := ⟨_, rfl⟩
  obtain ⟨w3, ew3⟩ : ∃ y : Int32, y = xs (i.toInt.toNat + 3) := ⟨_, rfl⟩
  refine lv_aload_n hx hb dL_law_1146 rfl (lv_at hl 2 rfl) ?_
  refine lv_aload_n hx hb dL_law_1147 rfl (lv_at hl 3 rfl) ?_
  refine lv_iload_n hx hb dL_law_1148 rfl (lv_at hl 0 rfl) ?_
  refine lv_iconst (v := 1) hx hb dL_law_1149 (by decide) ?_
  refine lv_iadd hx hb dL_law_1150 ?_
  refine lv_topi (fun z_1 ez_1 => ?_)
  have tz_1 : z_1.toInt = i.toInt + 1 := add_t ez_1 (show -2147483648 ≤ i.toInt + 1 by omega) (show i.toInt + 1 < 2147483648 by omega)
  refine va_sld (i := z_1) hx hb hX hbl hbA hS (vp_in_iff.mpr ⟨by omega, by omega⟩) dL_law_1151 ?_
  refine W.eq (g2 := F0 m 1152 ls [.int w1, .ref xo]) (by rw [ew1, show z_1.toNatClampNeg = i.toInt.toNat + 1 from (show z_1.toInt.toNat = _ by omega)]) ?_
  refine lv_aload_n hx hb dL_law_1152 rfl (lv_at hl 3 rfl) ?_
  refine lv_iload_n hx hb dL_law_1153 rfl (lv_at hl 0 rfl) ?_
  refine lv_iconst (v := 2) hx hb dL_law_1154 (by decide) ?_
  refine lv_iadd hx hb dL_law_1155 ?_
  refine lv_topi (fun z_2 ez_2 => ?_)
  have tz_2 : z_2.toInt = i.toInt + 2 := add_t ez_2 (show -2147483648 ≤ i.toInt + 2 by omega) (show i.toInt + 2 < 2147483648 by omega)
  refine va_sld (i := z_2) hx hb hX hbl hbA hS (vp_in_iff.mpr ⟨by omega, by omega⟩) dL_law_1156 ?_
  refine W.eq (g2 := F0 m 1157 ls [.int w2, .int w1, .ref xo]) (by rw [ew2, show z_2.toNatClampNeg = i.toInt.toNat + 2 from (show z_2.toInt.toNat = _ by omega)]) ?_
  refine lv_aload_n hx hb dL_law_1157 rfl (lv_at hl 3 rfl) ?_
  refine lv_iload_n hx hb dL_law_1158 rfl (lv_at hl 0 rfl) ?_
  refine lv_iconst (v := 3) hx hb dL_law_1159 (by decide) ?_
  refine lv_iadd hx hb dL_law_1160 ?_
  refine lv_topi (fun z_3 ez_3 => ?_)
  have tz_3 : z_3.toInt = i.toInt + 3 := add_t ez_3 (show -2147483648 ≤ i.toInt + 3 by omega) (show i.toInt + 3 < 2147483648 by omega)
  refine va_sld (i := z_3) hx hb hX hbl hbA hS (vp_in_iff.mpr ⟨by omega, by omega⟩) dL_law_1161 ?_
  refine W.eq (g2 := F0 m 1162 ls [.int w3, .int w2, .int w1, .ref xo]) (by rw [ew3, show z_3.toNatClampNeg = i.toInt.toNat + 3 from (show z_3.toInt.toNat = _ by omega)]) ?_
  refine t_calli (runV (As := [.int w1, .int w2, .int w3]) (rest := []) ⟨hx, hb, hml, hown, hts⟩ (t_X9_middle l D cy base τ G xo h_xo w1 w2 w3) sV_L_119 hK (t_recv cf_1 hK hT h_xo) ⟨Nat.le_trans hZ hS.1, hT⟩ ⟨Nat.le_of_ble_eq_true rfl, Nat.le_of_ble_eq_true rfl⟩ rfl hl.1 rfl (Nat.le_of_ble_eq_true rfl) dL_law_1162 ⟨by have q9 := hroom.1; omega, by have q9 := hroom.2; omega⟩) hS (fun r_4 G_4 H locs hF_4 hr_4 hT hS => ?_)
  have hF := hF.tr hF_4 rfl
  have hLI := hLI.fr EX.rf hF_4 rfl
  refine lv_pop hx hb dL_law_1165 rfl ?_
  refine lv_aload_n hx hb dL_law_1166 rfl (lv_at hl 1 rfl) ?_
  refine lv_aload_n hx hb dL_law_1167 rfl (lv_at hl 3 rfl) ?_
  refine lv_iload_n hx hb dL_law_1168 rfl (lv_at hl 0 rfl) ?_
  refine lv_iconst (v := 1) hx hb dL_law_1169 (by decide) ?_
  refine lv_iadd hx hb dL_law_1170 ?_
  refine lv_topi (fun z_5 ez_5 => ?_)
  have w_6 : z_1 = z_5 := ez_1.trans ez_5.symm
  subst w_6
  refine va_sld (i := z_1) hx hb hX hbl hbA hS (vp_in_iff.mpr ⟨by omega, by omega⟩) dL_law_1171 ?_
  refine W.eq (g2 := F0 m 1172 ls [.int w1, .ref mo]) (by rw [ew1, show z_1.toNatClampNeg = i.toInt.toNat + 1 from (show z_1.toInt.toNat = _ by omega)]) ?_
  refine lv_aload_n hx hb dL_law_1172 rfl (lv_at hl 3 rfl) ?_
  refine lv_iload_n hx hb dL_law_1173 rfl (lv_at hl 0 rfl) ?_
  refine lv_iconst (v := 2) hx hb dL_law_1174 (by decide) ?_
  refine lv_iadd hx hb dL_law_1175 ?_
  refine lv_topi (fun z_7 ez_7 => ?_)
  have w_8 : z_2 = z_7 := ez_2.trans ez_7.symm
  subst w_8
  refine va_sld (i := z_2) hx hb hX hbl hbA hS (vp_in_iff.mpr ⟨by omega, by omega⟩) dL_law_1176 ?_
  refine W.eq (g2 := F0 m 1177 ls [.int w2, .int w1, .ref mo]) (by rw [ew2, show z_2.toNatClampNeg = i.toInt.toNat + 2 from (show z_2.toInt.toNat = _ by omega)]) ?_
  refine lv_aload_n hx hb dL_law_1177 rfl (lv_at hl 3 rfl) ?_
  refine lv_iload_n hx hb dL_law_1178 rfl (lv_at hl 0 rfl) ?_
  refine lv_iconst (v := 3) hx hb dL_law_1179 (by decide) ?_
  refine lv_iadd hx hb dL_law_1180 ?_
  refine lv_topi (fun z_9 ez_9 => ?_)
  have w_10 : z_3 = z_9 := ez_3.trans ez_9.symm
  subst w_10
  refine va_sld (i := z_3) hx hb hX hbl hbA hS (vp_in_iff.mpr ⟨by omega, by omega⟩) dL_law_1181 ?_
  refine W.eq (g2 := F0 m 1182 ls [.int w3, .int w2, .int w1, .ref mo]) (by rw [ew3, show z_3.toNatClampNeg = i.toInt.toNat + 3 from (show z_3.toInt.toNat = _ by omega)]) ?_
  refine t_calli (runV (As := [.int w1, .int w2, .int w3]) (rest := []) ⟨hx, hb, hml, hown, hts⟩ (t_X10_middle l D cy base τ G_4 mo h_mo w1 w2 w3) sV_L_122 hK (t_recv cf_11 hK hT h_mo) ⟨Nat.le_trans hZ hS.1, hT⟩ ⟨Nat.le_of_ble_eq_true rfl, Nat.le_of_ble_eq_true rfl⟩ rfl hl.1 rfl (Nat.le_of_ble_eq_true rfl) dL_law_1182 ⟨by have q9 := hroom.1; omega, by have q9 := hroom.2; omega⟩) hS (fun r_11 G_11 H locs hF_11 hr_11 hT hS => ?_)
  have hF := hF.tr hF_11 rfl
  have hLI := hLI.fr EX.rf hF_11 rfl
  refine lv_pop hx hb dL_law_1185 rfl ?_
  refine lv_goto (tgt := 2266) hx hb dL_law_1186 (by decide) ?_
  exact W.widen (k := cells + 10) (n := slots + 200) (by omega) (by omega) (kk τ G_11 H locs ls hLI hT hS (lv_sub hl [0, 1, 2, 3] rfl))
set_option maxHeartbeats 4000000 in
set_option maxRecDepth 100000 in
theorem lc_25 {p : Program} {e : Env} {s : State} {m : MethodId} {below : List Frame} {meth : Method} {c : Code} {l : Launch} {b L : Nat} {xs : Nat → Int32} (D : va_G) (cy : Nat → ClassId) (adK adV : Nat → Nat) (base xo mo : Nat) (C0 : lw_At p s m meth c b L xs) (hK : KK D cy s) (hSS : SS adK adV base s s.heap) (hZ : base ≤ s.heap.size) (hZ2 : s.heap.size ≤ base) (hbA : ¬ RA base b) (hLs : L ≤ 3584) (τ : Nat → Nat) (G : Gh) (i : Int32) (hi0 : 0 ≤ i.toInt) (hi7 : i.toInt + 7 ≤ L) (hLI : LI τ G xo mo) {H : Heap} {locs : List Loc} (hT : TY D cy base τ G H) (hS : va_S (RA base) s.heap H locs) {ls : Array Slot} (hl : lv_has ls 4 [(3, .int i), (2, .ref mo), (1, .ref xo), (0, .ref b)]) {cells slots : Nat} (hroom : cells + 100 ≤ room_1.cells ∧ slots + 1000 ≤ room_1.slots) (kk : ∀ (τ1 : Nat → Nat) (G1 : Gh) (H1 : Heap) (locs1 : List Loc) (ls1 : Array Slot), LI τ1 G1 xo mo → TY D cy base τ1 G1 H1 → va_S (RA base) s.heap H1 locs1 → lv_has ls1 4 [(3, .int i), (2, .ref mo), (1, .ref xo), (0, .ref b)] → W p l e room_1 s m #[Value.ref b] below meth c H1 locs1 (cells + 10) (slots + 200) (lw_Z below #[Value.ref b] s) (F0 m 2266 ls1 [])) : W p l e room_1 s m #[Value.ref b] below meth c H locs cells slots (lw_Z below #[Value.ref b] s) (F0 m 1189 ls []) := by
  obtain ⟨hx, hb, hr, hml, hown, hts, hX, hbl, hlocks, hgv⟩ := id C0
  have hown : s.vm.findClass RL = some m.cls := hown
  have hb : c.code = cL_law := hb
  have hts : ∀ w ∈ GW, w.before #[Value.ref b] s = true := fun w h => hts w (gw_tbl w h)
  have h_xo := hLI.1
  have h_mo := hLI.2.1
  have hF : Fr τ [1, 2, 3, 4, 6, 7, 11, 20, 25, 26, 27, 28, 29, 30, 31, 32, 33, 34, 35, 36, 37, 38, 39, 40, 51, 52, 53, 54, 55, 66, 67, 68, 69, 70, 71, 72, 73, 74, 75, 76, 77, 78, 79, 80, 81, 82, 83, 84, 85, 86, 87, 88, 89, 90, 91, 1001, 1002, 1004, 1023, 1024] G G := Fr.rf
  obtain ⟨w1, ew1⟩ : ∃ y : Int32, y = xs (i.toInt.toNat + 1) := ⟨_, rfl⟩
  obtain ⟨w2, ew2⟩ : ∃ y : Int32, y = xs (i.toInt.toNat + 2) := ⟨_, rfl⟩
  obtain ⟨w3, ew3⟩ : ∃ y : Int32, y = xs (i.toInt.toNat + 3) := ⟨_, rfl⟩
  refine lv_aload_n hx hb dL_law_1189 rfl (lv_at hl 2 rfl) ?_
  refine lv_aload_n hx hb dL_law_1190 rfl (lv_at hl 3 rfl) ?_
  refine lv_iload_n hx hb dL_law_1191 rfl (lv_at hl 0 rfl) ?_
  refine lv_iconst (v := 1) hx hb dL_law_1192 (by decide) ?_
  refine lv_iadd hx hb dL_law_1193 ?_
  refine lv_topi (fun z_1 ez_1 => ?_)
  have tz_1 : z_1.toInt = i.toInt + 1 := add_t ez_1 (show -2147483648 ≤ i.toInt + 1 by omega) (show i.toInt + 1 < 2147483648 by omega)
  refine va_sld (i := z_1) hx hb hX hbl hbA hS (vp_in_iff.mpr ⟨by omega, by omega⟩) dL_law_1194 ?_
  refine W.eq (g2 := F0 m 1195 ls [.int w1, .ref xo]) (by rw [ew1, show z_1.toNatClampNeg = i.toInt.toNat + 1 from (show z_1.toInt.toNat = _ by omega)]) ?_
  refine lv_aload_n hx hb dL_law_1195 rfl (lv_at hl 3 rfl) ?_
  refine lv_iload_n hx hb dL_law_1196 rfl (lv_at hl 0 rfl) ?_
  refine lv_iconst (v := 2) hx hb dL_law_1197 (by decide) ?_
  refine lv_iadd hx hb dL_law_1198 ?_
  refine lv_topi (fun z_2 ez_2 => ?_)
  have tz_2 : z_2.toInt = i.toInt + 2 := add_t ez_2 (show -2147483648 ≤ i.toInt + 2 by omega) (show i.toInt + 2 < 2147483648 by omega)
  refine va_sld (i := z_2) hx hb hX hbl hbA hS (vp_in_iff.mpr ⟨by omega, by omega⟩) dL_law_1199 ?_
  refine W.eq (g2 := F0 m 1200 ls [.int w2, .int w1, .ref xo]) (by rw [ew2, show z_2.toNatClampNeg = i.toInt.toNat + 2 from (show z_2.toInt.toNat = _ by omega)]) ?_
  refine lv_aload_n hx hb dL_law_1200 rfl (lv_at hl 3 rfl) ?_
  refine lv_iload_n hx hb dL_law_1201 rfl (lv_at hl 0 rfl) ?_
  refine lv_iconst (v := 3) hx hb dL_law_1202 (by decide) ?_
  refine lv_iadd hx hb dL_law_1203 ?_
  refine lv_topi (fun z_3 ez_3 => ?_)
  have tz_3 : z_3.toInt = i.toInt + 3 := add_t ez_3 (show -2147483648 ≤ i.toInt + 3 by omega) (show i.toInt + 3 < 2147483648 by omega)
  refine va_sld (i := z_3) hx hb hX hbl hbA hS (vp_in_iff.mpr ⟨by omega, by omega⟩) dL_law_1204 ?_
  refine W.eq (g2 := F0 m 1205 ls [.int w3, .int w2, .int w1, .ref xo]) (by rw [ew3, show z_3.toNatClampNeg = i.toInt.toNat + 3 from (show z_3.toInt.toNat = _ by omega)]) ?_
  refine t_calll (runV (As := [.int w1, .int w2, .int w3]) (rest := []) ⟨hx, hb, hml, hown, hts⟩ (t_X9_shares l D cy base τ G xo h_xo w1 w2 w3) sV_L_123 hK (t_recv cf_1 hK hT h_xo) ⟨Nat.le_trans hZ hS.1, hT⟩ ⟨Nat.le_of_ble_eq_true rfl, Nat.le_of_ble_eq_true rfl⟩ rfl hl.1 rfl (Nat.le_of_ble_eq_true rfl) dL_law_1205 ⟨by have q9 := hroom.1; omega, by have q9 := hroom.2; omega⟩) hS (fun r_4 G_4 H locs hF_4 hr_4 hT hS => ?_)
  have hF := hF.tr hF_4 rfl
  have hLI := hLI.fr EX.rf hF_4 rfl
  refine lv_pop2_2 hx hb dL_law_1208 rfl ?_
  refine lv_aload_n hx hb dL_law_1209 rfl (lv_at hl 1 rfl) ?_
  refine lv_aload_n hx hb dL_law_1210 rfl (lv_at hl 3 rfl) ?_
  refine lv_iload_n hx hb dL_law_1211 rfl (lv_at hl 0 rfl) ?_
  refine lv_iconst (v := 1) hx hb dL_law_1212 (by decide) ?_
  refine lv_iadd hx hb dL_law_1213 ?_
  refine lv_topi (fun z_5 ez_5 => ?_)
  have w_6 : z_1 = z_5 := ez_1.trans ez_5.symm
  subst w_6
  refine va_sld (i := z_1) hx hb hX hbl hbA hS (vp_in_iff.mpr ⟨by omega, by omega⟩) dL_law_1214 ?_
  refine W.eq (g2 := F0 m 1215 ls [.int w1, .ref mo]) (by rw [ew1, show z_1.toNatClampNeg = i.toInt.toNat + 1 from (show z_1.toInt.toNat = _ by omega)]) ?_
  refine lv_aload_n hx hb dL_law_1215 rfl (lv_at hl 3 rfl) ?_
  refine lv_iload_n hx hb dL_law_1216 rfl (lv_at hl 0 rfl) ?_
  refine lv_iconst (v := 2) hx hb dL_law_1217 (by decide) ?_
  refine lv_iadd hx hb dL_law_1218 ?_
  refine lv_topi (fun z_7 ez_7 => ?_)
  have w_8 : z_2 = z_7 := ez_2.trans ez_7.symm
  subst w_8
  refine va_sld (i := z_2) hx hb hX hbl hbA hS (vp_in_iff.mpr ⟨by omega, by omega⟩) dL_law_1219 ?_
  refine W.eq (g2 := F0 m 1220 ls [.int w2, .int w1, .ref mo]) (by rw [ew2, show z_2.toNatClampNeg = i.toInt.toNat + 2 from (show z_2.toInt.toNat = _ by omega)]) ?_
  refine lv_aload_n hx hb dL_law_1220 rfl (lv_at hl 3 rfl) ?_
  refine lv_iload_n hx hb dL_law_1221 rfl (lv_at hl 0 rfl) ?_
  refine lv_iconst (v := 3) hx hb dL_law_1222 (by decide) ?_
  refine lv_iadd hx hb dL_law_1223 ?_
  refine lv_topi (fun z_9 ez_9 => ?_)
  have w_10 : z_3 = z_9 := ez_3.trans ez_9.symm
  subst w_10
  refine va_sld (i := z_3) hx hb hX hbl hbA hS (vp_in_iff.mpr ⟨by omega, by omega⟩) dL_law_1224 ?_
  refine W.eq (g2 := F0 m 1225 ls [.int w3, .int w2, .int w1, .ref mo]) (by rw [ew3, show z_3.toNatClampNeg = i.toInt.toNat + 3 from (show z_3.toInt.toNat = _ by omega)]) ?_
  refine t_calll (runV (As := [.int w1, .int w2, .int w3]) (rest := []) ⟨hx, hb, hml, hown, hts⟩ (t_X10_shares l D cy base τ G_4 mo h_mo w1 w2 w3) sV_L_126 hK (t_recv cf_11 hK hT h_mo) ⟨Nat.le_trans hZ hS.1, hT⟩ ⟨Nat.le_of_ble_eq_true rfl, Nat.le_of_ble_eq_true rfl⟩ rfl hl.1 rfl (Nat.le_of_ble_eq_true rfl) dL_law_1225 ⟨by have q9 := hroom.1; omega, by have q9 := hroom.2; omega⟩) hS (fun r_11 G_11 H locs hF_11 hr_11 hT hS => ?_)
  have hF := hF.tr hF_11 rfl
  have hLI := hLI.fr EX.rf hF_11 rfl
  refine lv_pop2_2 hx hb dL_law_1228 rfl ?_
  refine lv_goto (tgt := 2266) hx hb dL_law_1229 (by decide) ?_
  exact W.widen (k := cells + 10) (n := slots + 200) (by omega) (by omega) (kk τ G_11 H locs ls hLI hT hS (lv_sub hl [0, 1, 2, 3] rfl))
set_option maxHeartbeats 4000000 in
set_option maxRecDepth 100000 in
theorem lc_26 {p : Program} {e : Env} {s : State} {m : MethodId} {below : List Frame} {meth : Method} {c : Code} {l : Launch} {b L : Nat} {xs : Nat → Int32} (D : va_G) (cy : Nat → ClassId) (adK adV : Nat → Nat) (base xo mo : Nat) (C0 : lw_At p s m meth c b L xs) (hK : KK D cy s) (hSS : SS adK adV base s s.heap) (hZ : base ≤ s.heap.size) (hZ2 : s.heap.size ≤ base) (hbA : ¬ RA base b) (hLs : L ≤ 3584) (τ : Nat → Nat) (G : Gh) (i : Int32) (hi0 : 0 ≤ i.toInt) (hi7 : i.toInt + 7 ≤ L) (hLI : LI τ G xo mo) {H : Heap} {locs : List Loc} (hT : TY D cy base τ G H) (hS : va_S (RA base) s.heap H locs) {ls : Array Slot} (hl : lv_has ls 4 [(3, .int i), (2, .ref mo), (1, .ref xo), (0, .ref b)]) {cells slots : Nat} (hroom : cells + 100 ≤ room_1.cells ∧ slots + 1000 ≤ room_1.slots) (kk : ∀ (τ1 : Nat → Nat) (G1 : Gh) (H1 : Heap) (locs1 : List Loc) (ls1 : Array Slot), LI τ1 G1 xo mo → TY D cy base τ1 G1 H1 → va_S (RA base) s.heap H1 locs1 → lv_has ls1 4 [(3, .int i), (2, .ref mo), (1, .ref xo), (0, .ref b)] → W p l e room_1 s m #[Value.ref b] below meth c H1 locs1 (cells + 10) (slots + 200) (lw_Z below #[Value.ref b] s) (F0 m 2266 ls1 [])) : W p l e room_1 s m #[Value.ref b] below meth c H locs cells slots (lw_Z below #[Value.ref b] s) (F0 m 1232 ls []) := by
  obtain ⟨hx, hb, hr, hml, hown, hts, hX, hbl, hlocks, hgv⟩ := id C0
  have hown : s.vm.findClass RL = some m.cls := hown
  have hb : c.code = cL_law := hb
  have hts : ∀ w ∈ GW, w.before #[Value.ref b] s = true := fun w h => hts w (gw_tbl w h)
  have h_xo := hLI.1
  have h_mo := hLI.2.1
  have hF : Fr τ [1, 2, 3, 4, 6, 7, 11, 20, 25, 26, 27, 28, 29, 30, 31, 32, 33, 34, 35, 36, 37, 38, 39, 40, 51, 52, 53, 54, 55, 66, 67, 68, 69, 70, 71, 72, 73, 74, 75, 76, 77, 78, 79, 80, 81, 82, 83, 84, 85, 86, 87, 88, 89, 90, 91, 1001, 1002, 1004, 1023, 1024] G G := Fr.rf
  obtain ⟨w1, ew1⟩ : ∃ y : Int32, y = xs (i.toInt.toNat + 1) := ⟨_, rfl⟩
  obtain ⟨w2, ew2⟩ : ∃ y : Int32, y = xs (i.toInt.toNat + 2) := ⟨_, rfl⟩
  obtain ⟨w3, ew3⟩ : ∃ y : Int32, y = xs (i.toInt.toNat + 3) := ⟨_, rfl⟩
  refine lv_aload_n hx hb dL_law_1232 rfl (lv_at hl 2 rfl) ?_
  refine lv_aload_n hx hb dL_law_1233 rfl (lv_at hl 3 rfl) ?_
  refine lv_iload_n hx hb dL_law_1234 rfl (lv_at hl 0 rfl) ?_
  refine lv_iconst (v := 1) hx hb dL_law_1235 (by decide) ?_
  refine lv_iadd hx hb dL_law_1236 ?_
  refine lv_topi (fun z_1 ez_1 => ?_)
  have tz_1 : z_1.toInt = i.toInt + 1 := add_t ez_1 (show -2147483648 ≤ i.toInt + 1 by omega) (show i.toInt + 1 < 2147483648 by omega)
  refine va_sld (i := z_1) hx hb hX hbl hbA hS (vp_in_iff.mpr ⟨by omega, by omega⟩) dL_law_1237 ?_
  refine W.eq (g2 := F0 m 1238 ls [.int w1, .ref xo]) (by rw [ew1, show z_1.toNatClampNeg = i.toInt.toNat + 1 from (show z_1.toInt.toNat = _ by omega)]) ?_
  refine lv_aload_n hx hb dL_law_1238 rfl (lv_at hl 3 rfl) ?_
  refine lv_iload_n hx hb dL_law_1239 rfl (lv_at hl 0 rfl) ?_
  refine lv_iconst (v := 2) hx hb dL_law_1240 (by decide) ?_
  refine lv_iadd hx hb dL_law_1241 ?_
  refine lv_topi (fun z_2 ez_2 => ?_)
  have tz_2 : z_2.toInt = i.toInt + 2 := add_t ez_2 (show -2147483648 ≤ i.toInt + 2 by omega) (show i.toInt + 2 < 2147483648 by omega)
  refine va_sld (i := z_2) hx hb hX hbl hbA hS (vp_in_iff.mpr ⟨by omega, by omega⟩) dL_law_1242 ?_
  refine W.eq (g2 := F0 m 1243 ls [.int w2, .int w1, .ref xo]) (by rw [ew2, show z_2.toNatClampNeg = i.toInt.toNat + 2 from (show z_2.toInt.toNat = _ by omega)]) ?_
  refine lv_aload_n hx hb dL_law_1243 rfl (lv_at hl 3 rfl) ?_
  refine lv_iload_n hx hb dL_law_1244 rfl (lv_at hl 0 rfl) ?_
  refine lv_iconst (v := 3) hx hb dL_law_1245 (by decide) ?_
  refine lv_iadd hx hb dL_law_1246 ?_
  refine lv_topi (fun z_3 ez_3 => ?_)
  have tz_3 : z_3.toInt = i.toInt + 3 := add_t ez_3 (show -2147483648 ≤ i.toInt + 3 by omega) (show i.toInt + 3 < 2147483648 by omega)
  refine va_sld (i := z_3) hx hb hX hbl hbA hS (vp_in_iff.mpr ⟨by omega, by omega⟩) dL_law_1247 ?_
  refine W.eq (g2 := F0 m 1248 ls [.int w3, .int w2, .int w1, .ref xo]) (by rw [ew3, show z_3.toNatClampNeg = i.toInt.toNat + 3 from (show z_3.toInt.toNat = _ by omega)]) ?_
  refine t_calll (runV (As := [.int w1, .int w2, .int w3]) (rest := []) ⟨hx, hb, hml, hown, hts⟩ (t_X9_flown l D cy base τ G xo h_xo w1 w2 w3) sV_L_127 hK (t_recv cf_1 hK hT h_xo) ⟨Nat.le_trans hZ hS.1, hT⟩ ⟨Nat.le_of_ble_eq_true rfl, Nat.le_of_ble_eq_true rfl⟩ rfl hl.1 rfl (Nat.le_of_ble_eq_true rfl) dL_law_1248 ⟨by have q9 := hroom.1; omega, by have q9 := hroom.2; omega⟩) hS (fun r_4 G_4 H locs hF_4 hr_4 hT hS => ?_)
  have hF := hF.tr hF_4 rfl
  have hLI := hLI.fr EX.rf hF_4 rfl
  refine lv_pop2_2 hx hb dL_law_1251 rfl ?_
  refine lv_aload_n hx hb dL_law_1252 rfl (lv_at hl 1 rfl) ?_
  refine lv_aload_n hx hb dL_law_1253 rfl (lv_at hl 3 rfl) ?_
  refine lv_iload_n hx hb dL_law_1254 rfl (lv_at hl 0 rfl) ?_
  refine lv_iconst (v := 1) hx hb dL_law_1255 (by decide) ?_
  refine lv_iadd hx hb dL_law_1256 ?_
  refine lv_topi (fun z_5 ez_5 => ?_)
  have w_6 : z_1 = z_5 := ez_1.trans ez_5.symm
  subst w_6
  refine va_sld (i := z_1) hx hb hX hbl hbA hS (vp_in_iff.mpr ⟨by omega, by omega⟩) dL_law_1257 ?_
  refine W.eq (g2 := F0 m 1258 ls [.int w1, .ref mo]) (by rw [ew1, show z_1.toNatClampNeg = i.toInt.toNat + 1 from (show z_1.toInt.toNat = _ by omega)]) ?_
  refine lv_aload_n hx hb dL_law_1258 rfl (lv_at hl 3 rfl) ?_
  refine lv_iload_n hx hb dL_law_1259 rfl (lv_at hl 0 rfl) ?_
  refine lv_iconst (v := 2) hx hb dL_law_1260 (by decide) ?_
  refine lv_iadd hx hb dL_law_1261 ?_
  refine lv_topi (fun z_7 ez_7 => ?_)
  have w_8 : z_2 = z_7 := ez_2.trans ez_7.symm
  subst w_8
  refine va_sld (i := z_2) hx hb hX hbl hbA hS (vp_in_iff.mpr ⟨by omega, by omega⟩) dL_law_1262 ?_
  refine W.eq (g2 := F0 m 1263 ls [.int w2, .int w1, .ref mo]) (by rw [ew2, show z_2.toNatClampNeg = i.toInt.toNat + 2 from (show z_2.toInt.toNat = _ by omega)]) ?_
  refine lv_aload_n hx hb dL_law_1263 rfl (lv_at hl 3 rfl) ?_
  refine lv_iload_n hx hb dL_law_1264 rfl (lv_at hl 0 rfl) ?_
  refine lv_iconst (v := 3) hx hb dL_law_1265 (by decide) ?_
  refine lv_iadd hx hb dL_law_1266 ?_
  refine lv_topi (fun z_9 ez_9 => ?_)
  have w_10 : z_3 = z_9 := ez_3.trans ez_9.symm
  subst w_10
  refine va_sld (i := z_3) hx hb hX hbl hbA hS (vp_in_iff.mpr ⟨by omega, by omega⟩) dL_law_1267 ?_
  refine W.eq (g2 := F0 m 1268 ls [.int w3, .int w2, .int w1, .ref mo]) (by rw [ew3, show z_3.toNatClampNeg = i.toInt.toNat + 3 from (show z_3.toInt.toNat = _ by omega)]) ?_
  refine t_calll (runV (As := [.int w1, .int w2, .int w3]) (rest := []) ⟨hx, hb, hml, hown, hts⟩ (t_X10_flown l D cy base τ G_4 mo h_mo w1 w2 w3) sV_L_130 hK (t_recv cf_11 hK hT h_mo) ⟨Nat.le_trans hZ hS.1, hT⟩ ⟨Nat.le_of_ble_eq_true rfl, Nat.le_of_ble_eq_true rfl⟩ rfl hl.1 rfl (Nat.le_of_ble_eq_true rfl) dL_law_1268 ⟨by have q9 := hroom.1; omega, by have q9 := hroom.2; omega⟩) hS (fun r_11 G_11 H locs hF_11 hr_11 hT hS => ?_)
  have hF := hF.tr hF_11 rfl
  have hLI := hLI.fr EX.rf hF_11 rfl
  refine lv_pop2_2 hx hb dL_law_1271 rfl ?_
  refine lv_goto (tgt := 2266) hx hb dL_law_1272 (by decide) ?_
  exact W.widen (k := cells + 10) (n := slots + 200) (by omega) (by omega) (kk τ G_11 H locs ls hLI hT hS (lv_sub hl [0, 1, 2, 3] rfl))
set_option maxHeartbeats 4000000 in
set_option maxRecDepth 100000 in
theorem lc_27 {p : Program} {e : Env} {s : State} {m : MethodId} {below : List Frame} {meth : Method} {c : Code} {l : Launch} {b L : Nat} {xs : Nat → Int32} (D : va_G) (cy : Nat → ClassId) (adK adV : Nat → Nat) (base xo mo : Nat) (C0 : lw_At p s m meth c b L xs) (hK : KK D cy s) (hSS : SS adK adV base s s.heap) (hZ : base ≤ s.heap.size) (hZ2 : s.heap.size ≤ base) (hbA : ¬ RA base b) (hLs : L ≤ 3584) (τ : Nat → Nat) (G : Gh) (i : Int32) (hi0 : 0 ≤ i.toInt) (hi7 : i.toInt + 7 ≤ L) (hLI : LI τ G xo mo) {H : Heap} {locs : List Loc} (hT : TY D cy base τ G H) (hS : va_S (RA base) s.heap H locs) {ls : Array Slot} (hl : lv_has ls 4 [(3, .int i), (2, .ref mo), (1, .ref xo), (0, .ref b)]) {cells slots : Nat} (hroom : cells + 100 ≤ room_1.cells ∧ slots + 1000 ≤ room_1.slots) (kk : ∀ (τ1 : Nat → Nat) (G1 : Gh) (H1 : Heap) (locs1 : List Loc) (ls1 : Array Slot), LI τ1 G1 xo mo → TY D cy base τ1 G1 H1 → va_S (RA base) s.heap H1 locs1 → lv_has ls1 4 [(3, .int i), (2, .ref mo), (1, .ref xo), (0, .ref b)] → W p l e room_1 s m #[Value.ref b] below meth c H1 locs1 (cells + 10) (slots + 200) (lw_Z below #[Value.ref b] s) (F0 m 2266 ls1 [])) : W p l e room_1 s m #[Value.ref b] below meth c H locs cells slots (lw_Z below #[Value.ref b] s) (F0 m 1275 ls []) := by
  obtain ⟨hx, hb, hr, hml, hown, hts, hX, hbl, hlocks, hgv⟩ := id C0
  have hown : s.vm.findClass RL = some m.cls := hown
  have hb : c.code = cL_law := hb
  have hts : ∀ w ∈ GW, w.before #[Value.ref b] s = true := fun w h => hts w (gw_tbl w h)
  have h_xo := hLI.1
  have h_mo := hLI.2.1
  have hF : Fr τ [1, 2, 3, 4, 6, 7, 11, 20, 25, 26, 27, 28, 29, 30, 31, 32, 33, 34, 35, 36, 37, 38, 39, 40, 51, 52, 53, 54, 55, 66, 67, 68, 69, 70, 71, 72, 73, 74, 75, 76, 77, 78, 79, 80, 81, 82, 83, 84, 85, 86, 87, 88, 89, 90, 91, 1001, 1002, 1004, 1023, 1024] G G := Fr.rf
  obtain ⟨w1, ew1⟩ : ∃ y : Int32, y = xs (i.toInt.toNat + 1) := ⟨_, rfl⟩
  obtain ⟨w2, ew2⟩ : ∃ y : Int32, y = xs (i.toInt.toNat + 2) := ⟨_, rfl⟩
  refine lv_aload_n hx hb dL_law_1275 rfl (lv_at hl 2 rfl) ?_
  refine lv_aload_n hx hb dL_law_1276 rfl (lv_at hl 3 rfl) ?_
  refine lv_iload_n hx hb dL_law_1277 rfl (lv_at hl 0 rfl) ?_
  refine lv_iconst (v := 1) hx hb dL_law_1278 (by decide) ?_
  refine lv_iadd hx hb dL_law_1279 ?_
  refine lv_topi (fun z_1 ez_1 => ?_)
  have tz_1 : z_1.toInt = i.toInt + 1 := add_t ez_1 (show -2147483648 ≤ i.toInt + 1 by omega) (show i.toInt + 1 < 2147483648 by omega)
  refine va_sld (i := z_1) hx hb hX hbl hbA hS (vp_in_iff.mpr ⟨by omega, by omega⟩) dL_law_1280 ?_
  refine W.eq (g2 := F0 m 1281 ls [.int w1, .ref xo]) (by rw [ew1, show z_1.toNatClampNeg = i.toInt.toNat + 1 from (show z_1.toInt.toNat = _ by omega)]) ?_
  refine lv_aload_n hx hb dL_law_1281 rfl (lv_at hl 3 rfl) ?_
  refine lv_iload_n hx hb dL_law_1282 rfl (lv_at hl 0 rfl) ?_
  refine lv_iconst (v := 2) hx hb dL_law_1283 (by decide) ?_
  refine lv_iadd hx hb dL_law_1284 ?_
  refine lv_topi (fun z_2 ez_2 => ?_)
  have tz_2 : z_2.toInt = i.toInt + 2 := add_t ez_2 (show -2147483648 ≤ i.toInt + 2 by omega) (show i.toInt + 2 < 2147483648 by omega)
  refine va_sld (i := z_2) hx hb hX hbl hbA hS (vp_in_iff.mpr ⟨by omega, by omega⟩) dL_law_1285 ?_
  refine W.eq (g2 := F0 m 1286 ls [.int w2, .int w1, .ref xo]) (by rw [ew2, show z_2.toNatClampNeg = i.toInt.toNat + 2 from (show z_2.toInt.toNat = _ by omega)]) ?_
  refine t_calli (runV (As := [.int w1, .int w2]) (rest := []) ⟨hx, hb, hml, hown, hts⟩ (t_X9_plane l D cy base τ G xo h_xo w1 w2) sV_L_131 hK (t_recv cf_1 hK hT h_xo) ⟨Nat.le_trans hZ hS.1, hT⟩ ⟨Nat.le_of_ble_eq_true rfl, Nat.le_of_ble_eq_true rfl⟩ rfl hl.1 rfl (Nat.le_of_ble_eq_true rfl) dL_law_1286 ⟨by have q9 := hroom.1; omega, by have q9 := hroom.2; omega⟩) hS (fun r_3 G_3 H locs hF_3 hr_3 hT hS => ?_)
  have hF := hF.tr hF_3 rfl
  have hLI := hLI.fr EX.rf hF_3 rfl
  refine lv_pop hx hb dL_law_1289 rfl ?_
  refine lv_aload_n hx hb dL_law_1290 rfl (lv_at hl 1 rfl) ?_
  refine lv_aload_n hx hb dL_law_1291 rfl (lv_at hl 3 rfl) ?_
  refine lv_iload_n hx hb dL_law_1292 rfl (lv_at hl 0 rfl) ?_
  refine lv_iconst (v := 1) hx hb dL_law_1293 (by decide) ?_
  refine lv_iadd hx hb dL_law_1294 ?_
  refine lv_topi (fun z_4 ez_4 => ?_)
  have w_5 : z_1 = z_4 := ez_1.trans ez_4.symm
  subst w_5
  refine va_sld (i := z_1) hx hb hX hbl hbA hS (vp_in_iff.mpr ⟨by omega, by omega⟩) dL_law_1295 ?_
  refine W.eq (g2 := F0 m 1296 ls [.int w1, .ref mo]) (by rw [ew1, show z_1.toNatClampNeg = i.toInt.toNat + 1 from (show z_1.toInt.toNat = _ by omega)]) ?_
  refine lv_aload_n hx hb dL_law_1296 rfl (lv_at hl 3 rfl) ?_
  refine lv_iload_n hx hb dL_law_1297 rfl (lv_at hl 0 rfl) ?_
  refine lv_iconst (v := 2) hx hb dL_law_1298 (by decide) ?_
  refine lv_iadd hx hb dL_law_1299 ?_
  refine lv_topi (fun z_6 ez_6 => ?_)
  have w_7 : z_2 = z_6 := ez_2.trans ez_6.symm
  subst w_7
  refine va_sld (i := z_2) hx hb hX hbl hbA hS (vp_in_iff.mpr ⟨by omega, by omega⟩) dL_law_1300 ?_
  refine W.eq (g2 := F0 m 1301 ls [.int w2, .int w1, .ref mo]) (by rw [ew2, show z_2.toNatClampNeg = i.toInt.toNat + 2 from (show z_2.toInt.toNat = _ by omega)]) ?_
  refine t_calli (runV (As := [.int w1, .int w2]) (rest := []) ⟨hx, hb, hml, hown, hts⟩ (t_X10_plane l D cy base τ G_3 mo h_mo w1 w2) sV_L_134 hK (t_recv cf_11 hK hT h_mo) ⟨Nat.le_trans hZ hS.1, hT⟩ ⟨Nat.le_of_ble_eq_true rfl, Nat.le_of_ble_eq_true rfl⟩ rfl hl.1 rfl (Nat.le_of_ble_eq_true rfl) dL_law_1301 ⟨by have q9 := hroom.1; omega, by have q9 := hroom.2; omega⟩) hS (fun r_8 G_8 H locs hF_8 hr_8 hT hS => ?_)
  have hF := hF.tr hF_8 rfl
  have hLI := hLI.fr EX.rf hF_8 rfl
  refine lv_pop hx hb dL_law_1304 rfl ?_
  refine lv_goto (tgt := 2266) hx hb dL_law_1305 (by decide) ?_
  exact W.widen (k := cells + 10) (n := slots + 200) (by omega) (by omega) (kk τ G_8 H locs ls hLI hT hS (lv_sub hl [0, 1, 2, 3] rfl))
set_option maxHeartbeats 4000000 in
set_option maxRecDepth 100000 in
theorem lc_28 {p : Program} {e : Env} {s : State} {m : MethodId} {below : List Frame} {meth : Method} {c : Code} {l : Launch} {b L : Nat} {xs : Nat → Int32} (D : va_G) (cy : Nat → ClassId) (adK adV : Nat → Nat) (base xo mo : Nat) (C0 : lw_At p s m meth c b L xs) (hK : KK D cy s) (hSS : SS adK adV base s s.heap) (hZ : base ≤ s.heap.size) (hZ2 : s.heap.size ≤ base) (hbA : ¬ RA base b) (hLs : L ≤ 3584) (τ : Nat → Nat) (G : Gh) (i : Int32) (hi0 : 0 ≤ i.toInt) (hi7 : i.toInt + 7 ≤ L) (hLI : LI τ G xo mo) {H : Heap} {locs : List Loc} (hT : TY D cy base τ G H) (hS : va_S (RA base) s.heap H locs) {ls : Array Slot} (hl : lv_has ls 4 [(3, .int i), (2, .ref mo), (1, .ref xo), (0, .ref b)]) {cells slots : Nat} (hroom : cells + 100 ≤ room_1.cells ∧ slots + 1000 ≤ room_1.slots) (kk : ∀ (τ1 : Nat → Nat) (G1 : Gh) (H1 : Heap) (locs1 : List Loc) (ls1 : Array Slot), LI τ1 G1 xo mo → TY D cy base τ1 G1 H1 → va_S (RA base) s.heap H1 locs1 → lv_has ls1 4 [(3, .int i), (2, .ref mo), (1, .ref xo), (0, .ref b)] → W p l e room_1 s m #[Value.ref b] below meth c H1 locs1 (cells + 10) (slots + 200) (lw_Z below #[Value.ref b] s) (F0 m 2266 ls1 [])) : W p l e room_1 s m #[Value.ref b] below meth c H locs cells slots (lw_Z below #[Value.ref b] s) (F0 m 1308 ls []) := by
  obtain ⟨hx, hb, hr, hml, hown, hts, hX, hbl, hlocks, hgv⟩ := id C0
  have hown : s.vm.findClass RL = some m.cls := hown
  have hb : c.code = cL_law := hb
  have hts : ∀ w ∈ GW, w.before #[Value.ref b] s = true := fun w h => hts w (gw_tbl w h)
  have h_xo := hLI.1
  have h_mo := hLI.2.1
  have hF : Fr τ [1, 2, 3, 4, 6, 7, 11, 20, 25, 26, 27, 28, 29, 30, 31, 32, 33, 34, 35, 36, 37, 38, 39, 40, 51, 52, 53, 54, 55, 66, 67, 68, 69, 70, 71, 72, 73, 74, 75, 76, 77, 78, 79, 80, 81, 82, 83, 84, 85, 86, 87, 88, 89, 90, 91, 1001, 1002, 1004, 1023, 1024] G G := Fr.rf
  obtain ⟨w1, ew1⟩ : ∃ y : Int32, y = xs (i.toInt.toNat + 1) := ⟨_, rfl⟩
  refine lv_aload_n hx hb dL_law_1308 rfl (lv_at hl 2 rfl) ?_
  refine lv_aload_n hx hb dL_law_1309 rfl (lv_at hl 3 rfl) ?_
  refine lv_iload_n hx hb dL_law_1310 rfl (lv_at hl 0 rfl) ?_
  refine lv_iconst (v := 1) hx hb dL_law_1311 (by decide) ?_
  refine lv_iadd hx hb dL_law_1312 ?_
  refine lv_topi (fun z_1 ez_1 => ?_)
  have tz_1 : z_1.toInt = i.toInt + 1 := add_t ez_1 (show -2147483648 ≤ i.toInt + 1 by omega) (show i.toInt + 1 < 2147483648 by omega)
  refine va_sld (i := z_1) hx hb hX hbl hbA hS (vp_in_iff.mpr ⟨by omega, by omega⟩) dL_law_1313 ?_
  refine W.eq (g2 := F0 m 1314 ls [.int w1, .ref xo]) (by rw [ew1, show z_1.toNatClampNeg = i.toInt.toNat + 1 from (show z_1.toInt.toNat = _ by omega)]) ?_
  refine pu_calli (runV (As := [.int w1]) (rest := []) ⟨hx, hb, hml, hown, hts⟩ (t_X9_edge l D cy base τ G xo h_xo w1) sV_L_135 hK (t_recv cf_1 hK hT h_xo) ⟨Nat.le_trans hZ hS.1, hT⟩ ⟨Nat.le_of_ble_eq_true rfl, Nat.le_of_ble_eq_true rfl⟩ rfl hl.1 rfl (Nat.le_of_ble_eq_true rfl) dL_law_1314 ⟨by have q9 := hroom.1; omega, by have q9 := hroom.2; omega⟩) (fun r_2 hr_2 => ?_)
  refine lv_pop hx hb dL_law_1317 rfl ?_
  refine lv_aload_n hx hb dL_law_1318 rfl (lv_at hl 1 rfl) ?_
  refine lv_aload_n hx hb dL_law_1319 rfl (lv_at hl 3 rfl) ?_
  refine lv_iload_n hx hb dL_law_1320 rfl (lv_at hl 0 rfl) ?_
  refine lv_iconst (v := 1) hx hb dL_law_1321 (by decide) ?_
  refine lv_iadd hx hb dL_law_1322 ?_
  refine lv_topi (fun z_3 ez_3 => ?_)
  have w_4 : z_1 = z_3 := ez_1.trans ez_3.symm
  subst w_4
  refine va_sld (i := z_1) hx hb hX hbl hbA hS (vp_in_iff.mpr ⟨by omega, by omega⟩) dL_law_1323 ?_
  refine W.eq (g2 := F0 m 1324 ls [.int w1, .ref mo]) (by rw [ew1, show z_1.toNatClampNeg = i.toInt.toNat + 1 from (show z_1.toInt.toNat = _ by omega)]) ?_
  refine t_calli (runV (As := [.int w1]) (rest := []) ⟨hx, hb, hml, hown, hts⟩ (t_X10_edge l D cy base τ G mo h_mo w1) sV_L_138 hK (t_recv cf_11 hK hT h_mo) ⟨Nat.le_trans hZ hS.1, hT⟩ ⟨Nat.le_of_ble_eq_true rfl, Nat.le_of_ble_eq_true rfl⟩ rfl hl.1 rfl (Nat.le_of_ble_eq_true rfl) dL_law_1324 ⟨by have q9 := hroom.1; omega, by have q9 := hroom.2; omega⟩) hS (fun r_5 G_5 H locs hF_5 hr_5 hT hS => ?_)
  have hF := hF.tr hF_5 rfl
  have hLI := hLI.fr EX.rf hF_5 rfl
  refine lv_pop hx hb dL_law_1327 rfl ?_
  refine lv_goto (tgt := 2266) hx hb dL_law_1328 (by decide) ?_
  exact W.widen (k := cells + 10) (n := slots + 200) (by omega) (by omega) (kk τ G_5 H locs ls hLI hT hS (lv_sub hl [0, 1, 2, 3] rfl))
set_option maxHeartbeats 4000000 in
set_option maxRecDepth 100000 in
theorem lc_29 {p : Program} {e : Env} {s : State} {m : MethodId} {below : List Frame} {meth : Method} {c : Code} {l : Launch} {b L : Nat} {xs : Nat → Int32} (D : va_G) (cy : Nat → ClassId) (adK adV : Nat → Nat) (base xo mo : Nat) (C0 : lw_At p s m meth c b L xs) (hK : KK D cy s) (hSS : SS adK adV base s s.heap) (hZ : base ≤ s.heap.size) (hZ2 : s.heap.size ≤ base) (hbA : ¬ RA base b) (hLs : L ≤ 3584) (τ : Nat → Nat) (G : Gh) (i : Int32) (hi0 : 0 ≤ i.toInt) (hi7 : i.toInt + 7 ≤ L) (hLI : LI τ G xo mo) {H : Heap} {locs : List Loc} (hT : TY D cy base τ G H) (hS : va_S (RA base) s.heap H locs) {ls : Array Slot} (hl : lv_has ls 4 [(3, .int i), (2, .ref mo), (1, .ref xo), (0, .ref b)]) {cells slots : Nat} (hroom : cells + 100 ≤ room_1.cells ∧ slots + 1000 ≤ room_1.slots) (kk : ∀ (τ1 : Nat → Nat) (G1 : Gh) (H1 : Heap) (locs1 : List Loc) (ls1 : Array Slot), LI τ1 G1 xo mo → TY D cy base τ1 G1 H1 → va_S (RA base) s.heap H1 locs1 → lv_has ls1 4 [(3, .int i), (2, .ref mo), (1, .ref xo), (0, .ref b)] → W p l e room_1 s m #[Value.ref b] below meth c H1 locs1 (cells + 10) (slots + 200) (lw_Z below #[Value.ref b] s) (F0 m 2266 ls1 [])) : W p l e room_1 s m #[Value.ref b] below meth c H locs cells slots (lw_Z below #[Value.ref b] s) (F0 m 1331 ls []) := by
  obtain ⟨hx, hb, hr, hml, hown, hts, hX, hbl, hlocks, hgv⟩ := id C0
  have hown : s.vm.findClass RL = some m.cls := hown
  have hb : c.code = cL_law := hb
  have hts : ∀ w ∈ GW, w.before #[Value.ref b] s = true := fun w h => hts w (gw_tbl w h)
  have h_xo := hLI.1
  have h_mo := hLI.2.1
  have hF : Fr τ [1, 2, 3, 4, 6, 7, 11, 20, 25, 26, 27, 28, 29, 30, 31, 32, 33, 34, 35, 36, 37, 38, 39, 40, 51, 52, 53, 54, 55, 66, 67, 68, 69, 70, 71, 72, 73, 74, 75, 76, 77, 78, 79, 80, 81, 82, 83, 84, 85, 86, 87, 88, 89, 90, 91, 1001, 1002, 1004, 1023, 1024] G G := Fr.rf
  obtain ⟨w1, ew1⟩ : ∃ y : Int32, y = xs (i.toInt.toNat + 1) := ⟨_, rfl⟩
  obtain ⟨w2, ew2⟩ : ∃ y : Int32, y = xs (i.toInt.toNat + 2) := ⟨_, rfl⟩
  obtain ⟨w3, ew3⟩ : ∃ y : Int32, y = xs (i.toInt.toNat + 3) := ⟨_, rfl⟩
  obtain ⟨w4, ew4⟩ : ∃ y : Int32, y = xs (i.toInt.toNat + 4) := ⟨_, rfl⟩
  refine lv_aload_n hx hb dL_law_1331 rfl (lv_at hl 2 rfl) ?_
  refine lv_aload_n hx hb dL_law_1332 rfl (lv_at hl 3 rfl) ?_
  refine lv_iload_n hx hb dL_law_1333 rfl (lv_at hl 0 rfl) ?_
  refine lv_iconst (v := 1) hx hb dL_law_1334 (by decide) ?_
  refine lv_iadd hx hb dL_law_1335 ?_
  refine lv_topi (fun z_1 ez_1 => ?_)
  have tz_1 : z_1.toInt = i.toInt + 1 := add_t ez_1 (show -2147483648 ≤ i.toInt + 1 by omega) (show i.toInt + 1 < 2147483648 by omega)
  refine va_sld (i := z_1) hx hb hX hbl hbA hS (vp_in_iff.mpr ⟨by omega, by omega⟩) dL_law_1336 ?_
  refine W.eq (g2 := F0 m 1337 ls [.int w1, .ref xo]) (by rw [ew1, show z_1.toNatClampNeg = i.toInt.toNat + 1 from (show z_1.toInt.toNat = _ by omega)]) ?_
  refine lv_aload_n hx hb dL_law_1337 rfl (lv_at hl 3 rfl) ?_
  refine lv_iload_n hx hb dL_law_1338 rfl (lv_at hl 0 rfl) ?_
  refine lv_iconst (v := 2) hx hb dL_law_1339 (by decide) ?_
  refine lv_iadd hx hb dL_law_1340 ?_
  refine lv_topi (fun z_2 ez_2 => ?_)
  have tz_2 : z_2.toInt = i.toInt + 2 := add_t ez_2 (show -2147483648 ≤ i.toInt + 2 by omega) (show i.toInt + 2 < 2147483648 by omega)
  refine va_sld (i := z_2) hx hb hX hbl hbA hS (vp_in_iff.mpr ⟨by omega, by omega⟩) dL_law_1341 ?_
  refine W.eq (g2 := F0 m 1342 ls [.int w2, .int w1, .ref xo]) (by rw [ew2, show z_2.toNatClampNeg = i.toInt.toNat + 2 from (show z_2.toInt.toNat = _ by omega)]) ?_
  refine lv_aload_n hx hb dL_law_1342 rfl (lv_at hl 3 rfl) ?_
  refine lv_iload_n hx hb dL_law_1343 rfl (lv_at hl 0 rfl) ?_
  refine lv_iconst (v := 3) hx hb dL_law_1344 (by decide) ?_
  refine lv_iadd hx hb dL_law_1345 ?_
  refine lv_topi (fun z_3 ez_3 => ?_)
  have tz_3 : z_3.toInt = i.toInt + 3 := add_t ez_3 (show -2147483648 ≤ i.toInt + 3 by omega) (show i.toInt + 3 < 2147483648 by omega)
  refine va_sld (i := z_3) hx hb hX hbl hbA hS (vp_in_iff.mpr ⟨by omega, by omega⟩) dL_law_1346 ?_
  refine W.eq (g2 := F0 m 1347 ls [.int w3, .int w2, .int w1, .ref xo]) (by rw [ew3, show z_3.toNatClampNeg = i.toInt.toNat + 3 from (show z_3.toInt.toNat = _ by omega)]) ?_
  refine lv_aload_n hx hb dL_law_1347 rfl (lv_at hl 3 rfl) ?_
  refine lv_iload_n hx hb dL_law_1348 rfl (lv_at hl 0 rfl) ?_
  refine lv_iconst (v := 4) hx hb dL_law_1349 (by decide) ?_
  refine lv_iadd hx hb dL_law_1350 ?_
  refine lv_topi (fun z_4 ez_4 => ?_)
  have tz_4 : z_4.toInt = i.toInt + 4 := add_t ez_4 (show -2147483648 ≤ i.toInt + 4 by omega) (show i.toInt + 4 < 2147483648 by omega)
  refine va_sld (i := z_4) hx hb hX hbl hbA hS (vp_in_iff.mpr ⟨by omega, by omega⟩) dL_law_1351 ?_
  refine W.eq (g2 := F0 m 1352 ls [.int w4, .int w3, .int w2, .int w1, .ref xo]) (by rw [ew4, show z_4.toNatClampNeg = i.toInt.toNat + 4 from (show z_4.toInt.toNat = _ by omega)]) ?_
  refine t_calll (runV (As := [.int w1, .int w2, .int w3, .int w4]) (rest := []) ⟨hx, hb, hml, hown, hts⟩ (t_X9_path l D cy base τ G xo h_xo w1 w2 w3 w4) sV_L_139 hK (t_recv cf_1 hK hT h_xo) ⟨Nat.le_trans hZ hS.1, hT⟩ ⟨Nat.le_of_ble_eq_true rfl, Nat.le_of_ble_eq_true rfl⟩ rfl hl.1 rfl (Nat.le_of_ble_eq_true rfl) dL_law_1352 ⟨by have q9 := hroom.1; omega, by have q9 := hroom.2; omega⟩) hS (fun r_5 G_5 H locs hF_5 hr_5 hT hS => ?_)
  have hF := hF.tr hF_5 rfl
  have hLI := hLI.fr EX.rf hF_5 rfl
  refine lv_pop2_2 hx hb dL_law_1355 rfl ?_
  refine lv_aload_n hx hb dL_law_1356 rfl (lv_at hl 1 rfl) ?_
  refine lv_aload_n hx hb dL_law_1357 rfl (lv_at hl 3 rfl) ?_
  refine lv_iload_n hx hb dL_law_1358 rfl (lv_at hl 0 rfl) ?_
  refine lv_iconst (v := 1) hx hb dL_law_1359 (by decide) ?_
  refine lv_iadd hx hb dL_law_1360 ?_
  refine lv_topi (fun z_6 ez_6 => ?_)
  have w_7 : z_1 = z_6 := ez_1.trans ez_6.symm
  subst w_7
  refine va_sld (i := z_1) hx hb hX hbl hbA hS (vp_in_iff.mpr ⟨by omega, by omega⟩) dL_law_1361 ?_
  refine W.eq (g2 := F0 m 1362 ls [.int w1, .ref mo]) (by rw [ew1, show z_1.toNatClampNeg = i.toInt.toNat + 1 from (show z_1.toInt.toNat = _ by omega)]) ?_
  refine lv_aload_n hx hb dL_law_1362 rfl (lv_at hl 3 rfl) ?_
  refine lv_iload_n hx hb dL_law_1363 rfl (lv_at hl 0 rfl) ?_
  refine lv_iconst (v := 2) hx hb dL_law_1364 (by decide) ?_
  refine lv_iadd hx hb dL_law_1365 ?_
  refine lv_topi (fun z_8 ez_8 => ?_)
  have w_9 : z_2 = z_8 := ez_2.trans ez_8.symm
  subst w_9
  refine va_sld (i := z_2) hx hb hX hbl hbA hS (vp_in_iff.mpr ⟨by omega, by omega⟩) dL_law_1366 ?_
  refine W.eq (g2 := F0 m 1367 ls [.int w2, .int w1, .ref mo]) (by rw [ew2, show z_2.toNatClampNeg = i.toInt.toNat + 2 from (show z_2.toInt.toNat = _ by omega)]) ?_
  refine lv_aload_n hx hb dL_law_1367 rfl (lv_at hl 3 rfl) ?_
  refine lv_iload_n hx hb dL_law_1368 rfl (lv_at hl 0 rfl) ?_
  refine lv_iconst (v := 3) hx hb dL_law_1369 (by decide) ?_
  refine lv_iadd hx hb dL_law_1370 ?_
  refine lv_topi (fun z_10 ez_10 => ?_)
  have w_11 : z_3 = z_10 := ez_3.trans ez_10.symm
  subst w_11
  refine va_sld (i := z_3) hx hb hX hbl hbA hS (vp_in_iff.mpr ⟨by omega, by omega⟩) dL_law_1371 ?_
  refine W.eq (g2 := F0 m 1372 ls [.int w3, .int w2, .int w1, .ref mo]) (by rw [ew3, show z_3.toNatClampNeg = i.toInt.toNat + 3 from (show z_3.toInt.toNat = _ by omega)]) ?_
  refine lv_aload_n hx hb dL_law_1372 rfl (lv_at hl 3 rfl) ?_
  refine lv_iload_n hx hb dL_law_1373 rfl (lv_at hl 0 rfl) ?_
  refine lv_iconst (v := 4) hx hb dL_law_1374 (by decide) ?_
  refine lv_iadd hx hb dL_law_1375 ?_
  refine lv_topi (fun z_12 ez_12 => ?_)
  have w_13 : z_4 = z_12 := ez_4.trans ez_12.symm
  subst w_13
  refine va_sld (i := z_4) hx hb hX hbl hbA hS (vp_in_iff.mpr ⟨by omega, by omega⟩) dL_law_1376 ?_
  refine W.eq (g2 := F0 m 1377 ls [.int w4, .int w3, .int w2, .int w1, .ref mo]) (by rw [ew4, show z_4.toNatClampNeg = i.toInt.toNat + 4 from (show z_4.toInt.toNat = _ by omega)]) ?_
  refine t_calll (runV (As := [.int w1, .int w2, .int w3, .int w4]) (rest := []) ⟨hx, hb, hml, hown, hts⟩ (t_X10_path l D cy base τ G_5 mo h_mo w1 w2 w3 w4) sV_L_142 hK (t_recv cf_11 hK hT h_mo) ⟨Nat.le_trans hZ hS.1, hT⟩ ⟨Nat.le_of_ble_eq_true rfl, Nat.le_of_ble_eq_true rfl⟩ rfl hl.1 rfl (Nat.le_of_ble_eq_true rfl) dL_law_1377 ⟨by have q9 := hroom.1; omega, by have q9 := hroom.2; omega⟩) hS (fun r_14 G_14 H locs hF_14 hr_14 hT hS => ?_)
  have hF := hF.tr hF_14 rfl
  have hLI := hLI.fr EX.rf hF_14 rfl
  refine lv_pop2_2 hx hb dL_law_1380 rfl ?_
  refine lv_goto (tgt := 2266) hx hb dL_law_1381 (by decide) ?_
  exact W.widen (k := cells + 10) (n := slots + 200) (by omega) (by omega) (kk τ G_14 H locs ls hLI hT hS (lv_sub hl [0, 1, 2, 3] rfl))
