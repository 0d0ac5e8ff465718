/-! decode rows of the law (by program) -/
theorem d_Law_main_949 : decode M_Law_main.2.1 949 = .ok (.invokevirtual 162, 3) := by decide +kernel
theorem d_Law_main_952 : decode M_Law_main.2.1 952 = .ok (.istore 6, 2) := by decide +kernel
theorem d_Law_main_954 : decode M_Law_main.2.1 954 = .ok (.aload_n 2, 1) := by decide +kernel
theorem d_Law_main_955 : decode M_Law_main.2.1 955 = .ok (.invokevirtual 122, 3) := by decide +kernel
theorem d_Law_main_958 : decode M_Law_main.2.1 958 = .ok (.iload 5, 2) := by decide +kernel
theorem d_Law_main_960 : decode M_Law_main.2.1 960 = .ok (.if_icmp .eq 5, 3) := by decide +kernel
theorem d_Law_main_963 : decode M_Law_main.2.1 963 = .ok (.iconst 0, 1) := by decide +kernel
theorem d_Law_main_964 : decode M_Law_main.2.1 964 = .ok (.ireturn, 1) := by decide +kernel
theorem d_Law_main_965 : decode M_Law_main.2.1 965 = .ok (.iload 5, 2) := by decide +kernel
theorem d_Law_main_967 : decode M_Law_main.2.1 967 = .ok (.ifCond .ne 22, 3) := by decide +kernel
theorem d_Law_main_970 : decode M_Law_main.2.1 970 = .ok (.aload_n 3, 1) := by decide +kernel
theorem d_Law_main_971 : decode M_Law_main.2.1 971 = .ok (.iconst 0, 1) := by decide +kernel
theorem d_Law_main_972 : decode M_Law_main.2.1 972 = .ok (.laload, 1) := by decide +kernel
theorem d_Law_main_973 : decode M_Law_main.2.1 973 = .ok (.iload 6, 2) := by decide +kernel
theorem d_Law_main_975 : decode M_Law_main.2.1 975 = .ok (.ifCond .eq 7, 3) := by decide +kernel
theorem d_Law_main_978 : decode M_Law_main.2.1 978 = .ok (.lconst 1, 1) := by decide +kernel
theorem d_Law_main_979 : decode M_Law_main.2.1 979 = .ok (.goto 4, 3) := by decide +kernel
theorem d_Law_main_982 : decode M_Law_main.2.1 982 = .ok (.lconst 0, 1) := by decide +kernel
theorem d_Law_main_983 : decode M_Law_main.2.1 983 = .ok (.lcmp, 1) := by decide +kernel
theorem d_Law_main_984 : decode M_Law_main.2.1 984 = .ok (.ifCond .eq 5, 3) := by decide +kernel
theorem d_Law_main_987 : decode M_Law_main.2.1 987 = .ok (.iconst 0, 1) := by decide +kernel
theorem d_Law_main_988 : decode M_Law_main.2.1 988 = .ok (.ireturn, 1) := by decide +kernel
theorem d_Law_main_989 : decode M_Law_main.2.1 989 = .ok (.goto 1324, 3) := by decide +kernel
theorem d_Law_main_992 : decode M_Law_main.2.1 992 = .ok (.aload_n 1, 1) := by decide +kernel
theorem d_Law_main_993 : decode M_Law_main.2.1 993 = .ok (.aload_n 0, 1) := by decide +kernel
theorem d_Law_main_994 : decode M_Law_main.2.1 994 = .ok (.iload 4, 2) := by decide +kernel
theorem d_Law_main_996 : decode M_Law_main.2.1 996 = .ok (.iconst 1, 1) := by decide +kernel
theorem d_Law_main_997 : decode M_Law_main.2.1 997 = .ok (.iadd, 1) := by decide +kernel
theorem d_Law_main_998 : decode M_Law_main.2.1 998 = .ok (.iaload, 1) := by decide +kernel
theorem d_Law_main_999 : decode M_Law_main.2.1 999 = .ok (.aload_n 0, 1) := by decide +kernel
theorem d_Law_main_1000 : decode M_Law_main.2.1 1000 = .ok (.iload 4, 2) := by decide +kernel
theorem d_Law_main_1002 : decode M_Law_main.2.1 1002 = .ok (.iconst 2, 1) := by decide +kernel
theorem d_Law_main_1003 : decode M_Law_main.2.1 1003 = .ok (.iadd, 1) := by decide +kernel
theorem d_Law_main_1004 : decode M_Law_main.2.1 1004 = .ok (.iaload, 1) := by decide +kernel
theorem d_Law_main_1005 : decode M_Law_main.2.1 1005 = .ok (.aload_n 3, 1) := by decide +kernel
theorem d_Law_main_1006 : decode M_Law_main.2.1 1006 = .ok (.invokestatic 163, 3) := by decide +kernel
theorem d_Law_main_1009 : decode M_Law_main.2.1 1009 = .ok (.istore 5, 2) := by decide +kernel
theorem d_Law_main_1011 : decode M_Law_main.2.1 1011 = .ok (.aload_n 2, 1) := by decide +kernel
theorem d_Law_main_1012 : decode M_Law_main.2.1 1012 = .ok (.aload_n 0, 1) := by decide +kernel
theorem d_Law_main_1013 : decode M_Law_main.2.1 1013 = .ok (.iload 4, 2) := by decide +kernel
theorem d_Law_main_1015 : decode M_Law_main.2.1 1015 = .ok (.iconst 1, 1) := by decide +kernel
theorem d_Law_main_1016 : decode M_Law_main.2.1 1016 = .ok (.iadd, 1) := by decide +kernel
theorem d_Law_main_1017 : decode M_Law_main.2.1 1017 = .ok (.iaload, 1) := by decide +kernel
theorem d_Law_main_1018 : decode M_Law_main.2.1 1018 = .ok (.aload_n 0, 1) := by decide +kernel
theorem d_Law_main_1019 : decode M_Law_main.2.1 1019 = .ok (.iload 4, 2) := by decide +kernel
theorem d_Law_main_1021 : decode M_Law_main.2.1 1021 = .ok (.iconst 2, 1) := by decide +kernel
theorem d_Law_main_1022 : decode M_Law_main.2.1 1022 = .ok (.iadd, 1) := by decide +kernel
theorem d_Law_main_1023 : decode M_Law_main.2.1 1023 = .ok (.iaload, 1) := by decide +kernel
theorem d_Law_main_1024 : decode M_Law_main.2.1 1024 = .ok (.invokevirtual 165, 3) := by decide +kernel
theorem d_Law_main_1027 : decode M_Law_main.2.1 1027 = .ok (.istore 6, 2) := by decide +kernel
theorem d_Law_main_1029 : decode M_Law_main.2.1 1029 = .ok (.aload_n 2, 1) := by decide +kernel
theorem d_Law_main_1030 : decode M_Law_main.2.1 1030 = .ok (.invokevirtual 122, 3) := by decide +kernel
theorem d_Law_main_1033 : decode M_Law_main.2.1 1033 = .ok (.iload 5, 2) := by decide +kernel
theorem d_Law_main_1035 : decode M_Law_main.2.1 1035 = .ok (.if_icmp .eq 5, 3) := by decide +kernel
theorem d_Law_main_1038 : decode M_Law_main.2.1 1038 = .ok (.iconst 0, 1) := by decide +kernel
theorem d_Law_main_1039 : decode M_Law_main.2.1 1039 = .ok (.ireturn, 1) := by decide +kernel
theorem d_Law_main_1040 : decode M_Law_main.2.1 1040 = .ok (.iload 5, 2) := by decide +kernel
theorem d_Law_main_1042 : decode M_Law_main.2.1 1042 = .ok (.ifCond .ne 15, 3) := by decide +kernel
theorem d_Law_main_1045 : decode M_Law_main.2.1 1045 = .ok (.aload_n 3, 1) := by decide +kernel
theorem d_Law_main_1046 : decode M_Law_main.2.1 1046 = .ok (.iconst 0, 1) := by decide +kernel
theorem d_Law_main_1047 : decode M_Law_main.2.1 1047 = .ok (.laload, 1) := by decide +kernel
theorem d_Law_main_1048 : decode M_Law_main.2.1 1048 = .ok (.iload 6, 2) := by decide +kernel
theorem d_Law_main_1050 : decode M_Law_main.2.1 1050 = .ok (.i2l, 1) := by decide +kernel
theorem d_Law_main_1051 : decode M_Law_main.2.1 1051 = .ok (.lcmp, 1) := by decide +kernel
theorem d_Law_main_1052 : decode M_Law_main.2.1 1052 = .ok (.ifCond .eq 5, 3) := by decide +kernel
theorem d_Law_main_1055 : decode M_Law_main.2.1 1055 = .ok (.iconst 0, 1) := by decide +kernel
theorem d_Law_main_1056 : decode M_Law_main.2.1 1056 = .ok (.ireturn, 1) := by decide +kernel
theorem d_Law_main_1057 : decode M_Law_main.2.1 1057 = .ok (.goto 1256, 3) := by decide +kernel
theorem d_Law_main_1060 : decode M_Law_main.2.1 1060 = .ok (.aload_n 1, 1) := by decide +kernel
theorem d_Law_main_1061 : decode M_Law_main.2.1 1061 = .ok (.aload_n 0, 1) := by decide +kernel
theorem d_Law_main_1062 : decode M_Law_main.2.1 1062 = .ok (.iload 4, 2) := by decide +kernel
theorem d_Law_main_1064 : decode M_Law_main.2.1 1064 = .ok (.iconst 1, 1) := by decide +kernel
theorem d_Law_main_1065 : decode M_Law_main.2.1 1065 = .ok (.iadd, 1) := by decide +kernel
theorem d_Law_main_1066 : decode M_Law_main.2.1 1066 = .ok (.iaload, 1) := by decide +kernel
theorem d_Law_main_1067 : decode M_Law_main.2.1 1067 = .ok (.aload_n 0, 1) := by decide +kernel
theorem d_Law_main_1068 : decode M_Law_main.2.1 1068 = .ok (.iload 4, 2) := by decide +kernel
theorem d_Law_main_1070 : decode M_Law_main.2.1 1070 = .ok (.iconst 2, 1) := by decide +kernel
theorem d_Law_main_1071 : decode M_Law_main.2.1 1071 = .ok (.iadd, 1) := by decide +kernel
theorem d_Law_main_1072 : decode M_Law_main.2.1 1072 = .ok (.iaload, 1) := by decide +kernel
theorem d_Law_main_1073 : decode M_Law_main.2.1 1073 = .ok (.aload_n 0, 1) := by decide +kernel
theorem d_Law_main_1074 : decode M_Law_main.2.1 1074 = .ok (.iload 4, 2) := by decide +kernel
theorem d_Law_main_1076 : decode M_Law_main.2.1 1076 = .ok (.iconst 3, 1) := by decide +kernel
theorem d_Law_main_1077 : decode M_Law_main.2.1 1077 = .ok (.iadd, 1) := by decide +kernel
theorem d_Law_main_1078 : decode M_Law_main.2.1 1078 = .ok (.iaload, 1) := by decide +kernel
theorem d_Law_main_1079 : decode M_Law_main.2.1 1079 = .ok (.aload_n 3, 1) := by decide +kernel
theorem d_Law_main_1080 : decode M_Law_main.2.1 1080 = .ok (.invokestatic 166, 3) := by decide +kernel
theorem d_Law_main_1083 : decode M_Law_main.2.1 1083 = .ok (.istore 5, 2) := by decide +kernel
theorem d_Law_main_1085 : decode M_Law_main.2.1 1085 = .ok (.aload_n 2, 1) := by decide +kernel
theorem d_Law_main_1086 : decode M_Law_main.2.1 1086 = .ok (.aload_n 0, 1) := by decide +kernel
theorem d_Law_main_1087 : decode M_Law_main.2.1 1087 = .ok (.iload 4, 2) := by decide +kernel
theorem d_Law_main_1089 : decode M_Law_main.2.1 1089 = .ok (.iconst 1, 1) := by decide +kernel
theorem d_Law_main_1090 : decode M_Law_main.2.1 1090 = .ok (.iadd, 1) := by decide +kernel
theorem d_Law_main_1091 : decode M_Law_main.2.1 1091 = .ok (.iaload, 1) := by decide +kernel
theorem d_Law_main_1092 : decode M_Law_main.2.1 1092 = .ok (.aload_n 0, 1) := by decide +kernel
theorem d_Law_main_1093 : decode M_Law_main.2.1 1093 = .ok (.iload 4, 2) := by decide +kernel
theorem d_Law_main_1095 : decode M_Law_main.2.1 1095 = .ok (.iconst 2, 1) := by decide +kernel
theorem d_Law_main_1096 : decode M_Law_main.2.1 1096 = .ok (.iadd, 1) := by decide +kernel
theorem d_Law_main_1097 : decode M_Law_main.2.1 1097 = .ok (.iaload, 1) := by decide +kernel
theorem d_Law_main_1098 : decode M_Law_main.2.1 1098 = .ok (.aload_n 0, 1) := by decide +kernel
theorem d_Law_main_1099 : decode M_Law_main.2.1 1099 = .ok (.iload 4, 2) := by decide +kernel
theorem d_Law_main_1101 : decode M_Law_main.2.1 1101 = .ok (.iconst 3, 1) := by decide +kernel
theorem d_Law_main_1102 : decode M_Law_main.2.1 1102 = .ok (.iadd, 1) := by decide +kernel
theorem d_Law_main_1103 : decode M_Law_main.2.1 1103 = .ok (.iaload, 1) := by decide +kernel
theorem d_Law_main_1104 : decode M_Law_main.2.1 1104 = .ok (.invokevirtual 169, 3) := by decide +kernel
theorem d_Law_main_1107 : decode M_Law_main.2.1 1107 = .ok (.istore 6, 2) := by decide +kernel
theorem d_Law_main_1109 : decode M_Law_main.2.1 1109 = .ok (.aload_n 2, 1) := by decide +kernel
theorem d_Law_main_1110 : decode M_Law_main.2.1 1110 = .ok (.invokevirtual 122, 3) := by decide +kernel
theorem d_Law_main_1113 : decode M_Law_main.2.1 1113 = .ok (.iload 5, 2) := by decide +kernel
theorem d_Law_main_1115 : decode M_Law_main.2.1 1115 = .ok (.if_icmp .eq 5, 3) := by decide +kernel
theorem d_Law_main_1118 : decode M_Law_main.2.1 1118 = .ok (.iconst 0, 1) := by decide +kernel
theorem d_Law_main_1119 : decode M_Law_main.2.1 1119 = .ok (.ireturn, 1) := by decide +kernel
theorem d_Law_main_1120 : decode M_Law_main.2.1 1120 = .ok (.iload 5, 2) := by decide +kernel
theorem d_Law_main_1122 : decode M_Law_main.2.1 1122 = .ok (.ifCond .ne 15, 3) := by decide +kernel
theorem d_Law_main_1125 : decode M_Law_main.2.1 1125 = .ok (.aload_n 3, 1) := by decide +kernel
theorem d_Law_main_1126 : decode M_Law_main.2.1 1126 = .ok (.iconst 0, 1) := by decide +kernel
theorem d_Law_main_1127 : decode M_Law_main.2.1 1127 = .ok (.laload, 1) := by decide +kernel
theorem d_Law_main_1128 : decode M_Law_main.2.1 1128 = .ok (.iload 6, 2) := by decide +kernel
theorem d_Law_main_1130 : decode M_Law_main.2.1 1130 = .ok (.i2l, 1) := by decide +kernel
theorem d_Law_main_1131 : decode M_Law_main.2.1 1131 = .ok (.lcmp, 1) := by decide +kernel
theorem d_Law_main_1132 : decode M_Law_main.2.1 1132 = .ok (.ifCond .eq 5, 3) := by decide +kernel
theorem d_Law_main_1135 : decode M_Law_main.2.1 1135 = .ok (.iconst 0, 1) := by decide +kernel
theorem d_Law_main_1136 : decode M_Law_main.2.1 1136 = .ok (.ireturn, 1) := by decide +kernel
theorem d_Law_main_1137 : decode M_Law_main.2.1 1137 = .ok (.goto 1176, 3) := by decide +kernel
theorem d_Law_main_1140 : decode M_Law_main.2.1 1140 = .ok (.aload_n 1, 1) := by decide +kernel
theorem d_Law_main_1141 : decode M_Law_main.2.1 1141 = .ok (.aload_n 0, 1) := by decide +kernel
theorem d_Law_main_1142 : decode M_Law_main.2.1 1142 = .ok (.iload 4, 2) := by decide +kernel
theorem d_Law_main_1144 : decode M_Law_main.2.1 1144 = .ok (.iconst 1, 1) := by decide +kernel
theorem d_Law_main_1145 : decode M_Law_main.2.1 1145 = .ok (.iadd, 1) := by decide +kernel
theorem d_Law_main_1146 : decode M_Law_main.2.1 1146 = .ok (.iaload, 1) := by decide +kernel
theorem d_Law_main_1147 : decode M_Law_main.2.1 1147 = .ok (.aload_n 3, 1) := by decide +kernel
theorem d_Law_main_1148 : decode M_Law_main.2.1 1148 = .ok (.invokestatic 170, 3) := by decide +kernel
theorem d_Law_main_1151 : decode M_Law_main.2.1 1151 = .ok (.istore 5, 2) := by decide +kernel
theorem d_Law_main_1153 : decode M_Law_main.2.1 1153 = .ok (.aload_n 2, 1) := by decide +kernel
theorem d_Law_main_1154 : decode M_Law_main.2.1 1154 = .ok (.aload_n 0, 1) := by decide +kernel
theorem d_Law_main_1155 : decode M_Law_main.2.1 1155 = .ok (.iload 4, 2) := by decide +kernel
theorem d_Law_main_1157 : decode M_Law_main.2.1 1157 = .ok (.iconst 1, 1) := by decide +kernel
theorem d_Law_main_1158 : decode M_Law_main.2.1 1158 = .ok (.iadd, 1) := by decide +kernel
theorem d_Law_main_1159 : decode M_Law_main.2.1 1159 = .ok (.iaload, 1) := by decide +kernel
theorem d_Law_main_1160 : decode M_Law_main.2.1 1160 = .ok (.invokevirtual 172, 3) := by decide +kernel
theorem d_Law_main_1163 : decode M_Law_main.2.1 1163 = .ok (.istore 6, 2) := by decide +kernel
theorem d_Law_main_1165 : decode M_Law_main.2.1 1165 = .ok (.aload_n 2, 1) := by decide +kernel
theorem d_Law_main_1166 : decode M_Law_main.2.1 1166 = .ok (.invokevirtual 122, 3) := by decide +kernel
theorem d_Law_main_1169 : decode M_Law_main.2.1 1169 = .ok (.iload 5, 2) := by decide +kernel
theorem d_Law_main_1171 : decode M_Law_main.2.1 1171 = .ok (.if_icmp .eq 5, 3) := by decide +kernel
theorem d_Law_main_1174 : decode M_Law_main.2.1 1174 = .ok (.iconst 0, 1) := by decide +kernel
theorem d_Law_main_1175 : decode M_Law_main.2.1 1175 = .ok (.ireturn, 1) := by decide +kernel
theorem d_Law_main_1176 : decode M_Law_main.2.1 1176 = .ok (.iload 5, 2) := by decide +kernel
theorem d_Law_main_1178 : decode M_Law_main.2.1 1178 = .ok (.ifCond .ne 22, 3) := by decide +kernel
theorem d_Law_main_1181 : decode M_Law_main.2.1 1181 = .ok (.aload_n 3, 1) := by decide +kernel
theorem d_Law_main_1182 : decode M_Law_main.2.1 1182 = .ok (.iconst 0, 1) := by decide +kernel
theorem d_Law_main_1183 : decode M_Law_main.2.1 1183 = .ok (.laload, 1) := by decide +kernel
theorem d_Law_main_1184 : decode M_Law_main.2.1 1184 = .ok (.iload 6, 2) := by decide +kernel
theorem d_Law_main_1186 : decode M_Law_main.2.1 1186 = .ok (.ifCond .eq 7, 3) := by decide +kernel
theorem d_Law_main_1189 : decode M_Law_main.2.1 1189 = .ok (.lconst 1, 1) := by decide +kernel
theorem d_Law_main_1190 : decode M_Law_main.2.1 1190 = .ok (.goto 4, 3) := by decide +kernel
theorem d_Law_main_1193 : decode M_Law_main.2.1 1193 = .ok (.lconst 0, 1) := by decide +kernel
theorem d_Law_main_1194 : decode M_Law_main.2.1 1194 = .ok (.lcmp, 1) := by decide +kernel
theorem d_Law_main_1195 : decode M_Law_main.2.1 1195 = .ok (.ifCond .eq 5, 3) := by decide +kernel
theorem d_Law_main_1198 : decode M_Law_main.2.1 1198 = .ok (.iconst 0, 1) := by decide +kernel
theorem d_Law_main_1199 : decode M_Law_main.2.1 1199 = .ok (.ireturn, 1) := by decide +kernel
theorem d_Law_main_1200 : decode M_Law_main.2.1 1200 = .ok (.goto 1113, 3) := by decide +kernel
theorem d_Law_main_1203 : decode M_Law_main.2.1 1203 = .ok (.aload_n 1, 1) := by decide +kernel
theorem d_Law_main_1204 : decode M_Law_main.2.1 1204 = .ok (.invokevirtual 173, 3) := by decide +kernel
theorem d_Law_main_1207 : decode M_Law_main.2.1 1207 = .ok (.aload_n 2, 1) := by decide +kernel
theorem d_Law_main_1208 : decode M_Law_main.2.1 1208 = .ok (.invokevirtual 176, 3) := by decide +kernel
theorem d_Law_main_1211 : decode M_Law_main.2.1 1211 = .ok (.if_icmp .eq 1102, 3) := by decide +kernel
theorem d_Law_main_1214 : decode M_Law_main.2.1 1214 = .ok (.iconst 0, 1) := by decide +kernel
theorem d_Law_main_1215 : decode M_Law_main.2.1 1215 = .ok (.ireturn, 1) := by decide +kernel
theorem d_Law_main_1216 : decode M_Law_main.2.1 1216 = .ok (.aload_n 1, 1) := by decide +kernel
theorem d_Law_main_1217 : decode M_Law_main.2.1 1217 = .ok (.aload_n 0, 1) := by decide +kernel
theorem d_Law_main_1218 : decode M_Law_main.2.1 1218 = .ok (.iload 4, 2) := by decide +kernel
theorem d_Law_main_1220 : decode M_Law_main.2.1 1220 = .ok (.iconst 1, 1) := by decide +kernel
theorem d_Law_main_1221 : decode M_Law_main.2.1 1221 = .ok (.iadd, 1) := by decide +kernel
theorem d_Law_main_1222 : decode M_Law_main.2.1 1222 = .ok (.iaload, 1) := by decide +kernel
theorem d_Law_main_1223 : decode M_Law_main.2.1 1223 = .ok (.aload_n 3, 1) := by decide +kernel
theorem d_Law_main_1224 : decode M_Law_main.2.1 1224 = .ok (.invokestatic 177, 3) := by decide +kernel
theorem d_Law_main_1227 : decode M_Law_main.2.1 1227 = .ok (.istore 5, 2) := by decide +kernel
theorem d_Law_main_1229 : decode M_Law_main.2.1 1229 = .ok (.aload_n 2, 1) := by decide +kernel
theorem d_Law_main_1230 : decode M_Law_main.2.1 1230 = .ok (.aload_n 0, 1) := by decide +kernel
theorem d_Law_main_1231 : decode M_Law_main.2.1 1231 = .ok (.iload 4, 2) := by decide +kernel
theorem d_Law_main_1233 : decode M_Law_main.2.1 1233 = .ok (.iconst 1, 1) := by decide +kernel
theorem d_Law_main_1234 : decode M_Law_main.2.1 1234 = .ok (.iadd, 1) := by decide +kernel
theorem d_Law_main_1235 : decode M_Law_main.2.1 1235 = .ok (.iaload, 1) := by decide +kernel
theorem d_Law_main_1236 : decode M_Law_main.2.1 1236 = .ok (.invokevirtual 179, 3) := by decide +kernel
theorem d_Law_main_1239 : decode M_Law_main.2.1 1239 = .ok (.istore 6, 2) := by decide +kernel
theorem d_Law_main_1241 : decode M_Law_main.2.1 1241 = .ok (.aload_n 2, 1) := by decide +kernel
theorem d_Law_main_1242 : decode M_Law_main.2.1 1242 = .ok (.invokevirtual 122, 3) := by decide +kernel
theorem d_Law_main_1245 : decode M_Law_main.2.1 1245 = .ok (.iload 5, 2) := by decide +kernel
theorem d_Law_main_1247 : decode M_Law_main.2.1 1247 = .ok (.if_icmp .eq 5, 3) := by decide +kernel
theorem d_Law_main_1250 : decode M_Law_main.2.1 1250 = .ok (.iconst 0, 1) := by decide +kernel
theorem d_Law_main_1251 : decode M_Law_main.2.1 1251 = .ok (.ireturn, 1) := by decide +kernel
theorem d_Law_main_1252 : decode M_Law_main.2.1 1252 = .ok (.iload 5, 2) := by decide +kernel
theorem d_Law_main_1254 : decode M_Law_main.2.1 1254 = .ok (.ifCond .ne 15, 3) := by decide +kernel
theorem d_Law_main_1257 : decode M_Law_main.2.1 1257 = .ok (.aload_n 3, 1) := by decide +kernel
theorem d_Law_main_1258 : decode M_Law_main.2.1 1258 = .ok (.iconst 0, 1) := by decide +kernel
theorem d_Law_main_1259 : decode M_Law_main.2.1 1259 = .ok (.laload, 1) := by decide +kernel
theorem d_Law_main_1260 : decode M_Law_main.2.1 1260 = .ok (.iload 6, 2) := by decide +kernel
theorem d_Law_main_1262 : decode M_Law_main.2.1 1262 = .ok (.i2l, 1) := by decide +kernel
theorem d_Law_main_1263 : decode M_Law_main.2.1 1263 = .ok (.lcmp, 1) := by decide +kernel
theorem d_Law_main_1264 : decode M_Law_main.2.1 1264 = .ok (.ifCond .eq 5, 3) := by decide +kernel
theorem d_Law_main_1267 : decode M_Law_main.2.1 1267 = .ok (.iconst 0, 1) := by decide +kernel
theorem d_Law_main_1268 : decode M_Law_main.2.1 1268 = .ok (.ireturn, 1) := by decide +kernel
theorem d_Law_main_1269 : decode M_Law_main.2.1 1269 = .ok (.goto 1044, 3) := by decide +kernel
theorem d_Law_main_1272 : decode M_Law_main.2.1 1272 = .ok (.aload_n 1, 1) := by decide +kernel
theorem d_Law_main_1273 : decode M_Law_main.2.1 1273 = .ok (.invokevirtual 180, 3) := by decide +kernel
theorem d_Law_main_1276 : decode M_Law_main.2.1 1276 = .ok (.aload_n 2, 1) := by decide +kernel
theorem d_Law_main_1277 : decode M_Law_main.2.1 1277 = .ok (.invokevirtual 183, 3) := by decide +kernel
theorem d_Law_main_1280 : decode M_Law_main.2.1 1280 = .ok (.if_icmp .eq 1033, 3) := by decide +kernel
theorem d_Law_main_1283 : decode M_Law_main.2.1 1283 = .ok (.iconst 0, 1) := by decide +kernel
theorem d_Law_main_1284 : decode M_Law_main.2.1 1284 = .ok (.ireturn, 1) := by decide +kernel
theorem d_Law_main_1285 : decode M_Law_main.2.1 1285 = .ok (.aload_n 1, 1) := by decide +kernel
theorem d_Law_main_1286 : decode M_Law_main.2.1 1286 = .ok (.aload_n 0, 1) := by decide +kernel
theorem d_Law_main_1287 : decode M_Law_main.2.1 1287 = .ok (.iload 4, 2) := by decide +kernel
theorem d_Law_main_1289 : decode M_Law_main.2.1 1289 = .ok (.iconst 1, 1) := by decide +kernel
theorem d_Law_main_1290 : decode M_Law_main.2.1 1290 = .ok (.iadd, 1) := by decide +kernel
theorem d_Law_main_1291 : decode M_Law_main.2.1 1291 = .ok (.iaload, 1) := by decide +kernel
theorem d_Law_main_1292 : decode M_Law_main.2.1 1292 = .ok (.aload_n 3, 1) := by decide +kernel
theorem d_Law_main_1293 : decode M_Law_main.2.1 1293 = .ok (.invokestatic 184, 3) := by decide +kernel
theorem d_Law_main_1296 : decode M_Law_main.2.1 1296 = .ok (.istore 5, 2) := by decide +kernel
theorem d_Law_main_1298 : decode M_Law_main.2.1 1298 = .ok (.aload_n 2, 1) := by decide +kernel
theorem d_Law_main_1299 : decode M_Law_main.2.1 1299 = .ok (.aload_n 0, 1) := by decide +kernel
theorem d_Law_main_1300 : decode M_Law_main.2.1 1300 = .ok (.iload 4, 2) := by decide +kernel
theorem d_Law_main_1302 : decode M_Law_main.2.1 1302 = .ok (.iconst 1, 1) := by decide +kernel
theorem d_Law_main_1303 : decode M_Law_main.2.1 1303 = .ok (.iadd, 1) := by decide +kernel
theorem d_Law_main_1304 : decode M_Law_main.2.1 1304 = .ok (.iaload, 1) := by decide +kernel
theorem d_Law_main_1305 : decode M_Law_main.2.1 1305 = .ok (.invokevirtual 186, 3) := by decide +kernel
theorem d_Law_main_1308 : decode M_Law_main.2.1 1308 = .ok (.istore 6, 2) := by decide +kernel
theorem d_Law_main_1310 : decode M_Law_main.2.1 1310 = .ok (.aload_n 2, 1) := by decide +kernel
theorem d_Law_main_1311 : decode M_Law_main.2.1 1311 = .ok (.invokevirtual 122, 3) := by decide +kernel
theorem d_Law_main_1314 : decode M_Law_main.2.1 1314 = .ok (.iload 5, 2) := by decide +kernel
theorem d_Law_main_1316 : decode M_Law_main.2.1 1316 = .ok (.if_icmp .eq 5, 3) := by decide +kernel
theorem d_Law_main_1319 : decode M_Law_main.2.1 1319 = .ok (.iconst 0, 1) := by decide +kernel
theorem d_Law_main_1320 : decode M_Law_main.2.1 1320 = .ok (.ireturn, 1) := by decide +kernel
theorem d_Law_main_1321 : decode M_Law_main.2.1 1321 = .ok (.iload 5, 2) := by decide +kernel
theorem d_Law_main_1323 : decode M_Law_main.2.1 1323 = .ok (.ifCond .ne 15, 3) := by decide +kernel
theorem d_Law_main_1326 : decode M_Law_main.2.1 1326 = .ok (.aload_n 3, 1) := by decide +kernel
theorem d_Law_main_1327 : decode M_Law_main.2.1 1327 = .ok (.iconst 0, 1) := by decide +kernel
theorem d_Law_main_1328 : decode M_Law_main.2.1 1328 = .ok (.laload, 1) := by decide +kernel
theorem d_Law_main_1329 : decode M_Law_main.2.1 1329 = .ok (.iload 6, 2) := by decide +kernel
theorem d_Law_main_1331 : decode M_Law_main.2.1 1331 = .ok (.i2l, 1) := by decide +kernel
theorem d_Law_main_1332 : decode M_Law_main.2.1 1332 = .ok (.lcmp, 1) := by decide +kernel
theorem d_Law_main_1333 : decode M_Law_main.2.1 1333 = .ok (.ifCond .eq 5, 3) := by decide +kernel
theorem d_Law_main_1336 : decode M_Law_main.2.1 1336 = .ok (.iconst 0, 1) := by decide +kernel
theorem d_Law_main_1337 : decode M_Law_main.2.1 1337 = .ok (.ireturn, 1) := by decide +kernel
theorem d_Law_main_1338 : decode M_Law_main.2.1 1338 = .ok (.goto 975, 3) := by decide +kernel
theorem d_Law_main_1341 : decode M_Law_main.2.1 1341 = .ok (.aload_n 1, 1) := by decide +kernel
theorem d_Law_main_1342 : decode M_Law_main.2.1 1342 = .ok (.invokevirtual 187, 3) := by decide +kernel
theorem d_Law_main_1345 : decode M_Law_main.2.1 1345 = .ok (.aload_n 2, 1) := by decide +kernel
theorem d_Law_main_1346 : decode M_Law_main.2.1 1346 = .ok (.invokevirtual 190, 3) := by decide +kernel
theorem d_Law_main_1349 : decode M_Law_main.2.1 1349 = .ok (.if_icmp .eq 964, 3) := by decide +kernel
theorem d_Law_main_1352 : decode M_Law_main.2.1 1352 = .ok (.iconst 0, 1) := by decide +kernel
theorem d_Law_main_1353 : decode M_Law_main.2.1 1353 = .ok (.ireturn, 1) := by decide +kernel
theorem d_Law_main_1354 : decode M_Law_main.2.1 1354 = .ok (.aload_n 1, 1) := by decide +kernel
theorem d_Law_main_1355 : decode M_Law_main.2.1 1355 = .ok (.invokevirtual 191, 3) := by decide +kernel
theorem d_Law_main_1358 : decode M_Law_main.2.1 1358 = .ok (.aload_n 2, 1) := by decide +kernel
theorem d_Law_main_1359 : decode M_Law_main.2.1 1359 = .ok (.invokevirtual 194, 3) := by decide +kernel
theorem d_Law_main_1362 : decode M_Law_main.2.1 1362 = .ok (.if_icmp .eq 951, 3) := by decide +kernel
theorem d_Law_main_1365 : decode M_Law_main.2.1 1365 = .ok (.iconst 0, 1) := by decide +kernel
theorem d_Law_main_1366 : decode M_Law_main.2.1 1366 = .ok (.ireturn, 1) := by decide +kernel
theorem d_Law_main_1367 : decode M_Law_main.2.1 1367 = .ok (.aload_n 1, 1) := by decide +kernel
theorem d_Law_main_1368 : decode M_Law_main.2.1 1368 = .ok (.aload_n 0, 1) := by decide +kernel
theorem d_Law_main_1369 : decode M_Law_main.2.1 1369 = .ok (.iload 4, 2) := by decide +kernel
theorem d_Law_main_1371 : decode M_Law_main.2.1 1371 = .ok (.iconst 1, 1) := by decide +kernel
theorem d_Law_main_1372 : decode M_Law_main.2.1 1372 = .ok (.iadd, 1) := by decide +kernel
theorem d_Law_main_1373 : decode M_Law_main.2.1 1373 = .ok (.iaload, 1) := by decide +kernel
theorem d_Law_main_1374 : decode M_Law_main.2.1 1374 = .ok (.aload_n 3, 1) := by decide +kernel
theorem d_Law_main_1375 : decode M_Law_main.2.1 1375 = .ok (.invokestatic 195, 3) := by decide +kernel
theorem d_Law_main_1378 : decode M_Law_main.2.1 1378 = .ok (.istore 5, 2) := by decide +kernel
theorem d_Law_main_1380 : decode M_Law_main.2.1 1380 = .ok (.aload_n 2, 1) := by decide +kernel
theorem d_Law_main_1381 : decode M_Law_main.2.1 1381 = .ok (.aload_n 0, 1) := by decide +kernel
theorem d_Law_main_1382 : decode M_Law_main.2.1 1382 = .ok (.iload 4, 2) := by decide +kernel
theorem d_Law_main_1384 : decode M_Law_main.2.1 1384 = .ok (.iconst 1, 1) := by decide +kernel
theorem d_Law_main_1385 : decode M_Law_main.2.1 1385 = .ok (.iadd, 1) := by decide +kernel
theorem d_Law_main_1386 : decode M_Law_main.2.1 1386 = .ok (.iaload, 1) := by decide +kernel
theorem d_Law_main_1387 : decode M_Law_main.2.1 1387 = .ok (.invokevirtual 197, 3) := by decide +kernel
theorem d_Law_main_1390 : decode M_Law_main.2.1 1390 = .ok (.istore 6, 2) := by decide +kernel
theorem d_Law_main_1392 : decode M_Law_main.2.1 1392 = .ok (.aload_n 2, 1) := by decide +kernel
theorem d_Law_main_1393 : decode M_Law_main.2.1 1393 = .ok (.invokevirtual 122, 3) := by decide +kernel
theorem d_Law_main_1396 : decode M_Law_main.2.1 1396 = .ok (.iload 5, 2) := by decide +kernel
theorem d_Law_main_1398 : decode M_Law_main.2.1 1398 = .ok (.if_icmp .eq 5, 3) := by decide +kernel
theorem d_Law_main_1401 : decode M_Law_main.2.1 1401 = .ok (.iconst 0, 1) := by decide +kernel
theorem d_Law_main_1402 : decode M_Law_main.2.1 1402 = .ok (.ireturn, 1) := by decide +kernel
theorem d_Law_main_1403 : decode M_Law_main.2.1 1403 = .ok (.iload 5, 2) := by decide +kernel
theorem d_Law_main_1405 : decode M_Law_main.2.1 1405 = .ok (.ifCond .ne 15, 3) := by decide +kernel
theorem d_Law_main_1408 : decode M_Law_main.2.1 1408 = .ok (.aload_n 3, 1) := by decide +kernel
theorem d_Law_main_1409 : decode M_Law_main.2.1 1409 = .ok (.iconst 0, 1) := by decide +kernel
theorem d_Law_main_1410 : decode M_Law_main.2.1 1410 = .ok (.laload, 1) := by decide +kernel
theorem d_Law_main_1411 : decode M_Law_main.2.1 1411 = .ok (.iload 6, 2) := by decide +kernel
theorem d_Law_main_1413 : decode M_Law_main.2.1 1413 = .ok (.i2l, 1) := by decide +kernel
theorem d_Law_main_1414 : decode M_Law_main.2.1 1414 = .ok (.lcmp, 1) := by decide +kernel
theorem d_Law_main_1415 : decode M_Law_main.2.1 1415 = .ok (.ifCond .eq 5, 3) := by decide +kernel
theorem d_Law_main_1418 : decode M_Law_main.2.1 1418 = .ok (.iconst 0, 1) := by decide +kernel
theorem d_Law_main_1419 : decode M_Law_main.2.1 1419 = .ok (.ireturn, 1) := by decide +kernel
theorem d_Law_main_1420 : decode M_Law_main.2.1 1420 = .ok (.goto 893, 3) := by decide +kernel
theorem d_Law_main_1423 : decode M_Law_main.2.1 1423 = .ok (.aload_n 1, 1) := by decide +kernel
theorem d_Law_main_1424 : decode M_Law_main.2.1 1424 = .ok (.aload_n 0, 1) := by decide +kernel
theorem d_Law_main_1425 : decode M_Law_main.2.1 1425 = .ok (.iload 4, 2) := by decide +kernel
theorem d_Law_main_1427 : decode M_Law_main.2.1 1427 = .ok (.iconst 1, 1) := by decide +kernel
theorem d_Law_main_1428 : decode M_Law_main.2.1 1428 = .ok (.iadd, 1) := by decide +kernel
theorem d_Law_main_1429 : decode M_Law_main.2.1 1429 = .ok (.iaload, 1) := by decide +kernel
theorem d_Law_main_1430 : decode M_Law_main.2.1 1430 = .ok (.aload_n 3, 1) := by decide +kernel
theorem d_Law_main_1431 : decode M_Law_main.2.1 1431 = .ok (.invokestatic 198, 3) := by decide +kernel
theorem d_Law_main_1434 : decode M_Law_main.2.1 1434 = .ok (.istore 5, 2) := by decide +kernel
theorem d_Law_main_1436 : decode M_Law_main.2.1 1436 = .ok (.aload_n 2, 1) := by decide +kernel
theorem d_Law_main_1437 : decode M_Law_main.2.1 1437 = .ok (.aload_n 0, 1) := by decide +kernel
theorem d_Law_main_1438 : decode M_Law_main.2.1 1438 = .ok (.iload 4, 2) := by decide +kernel
theorem d_Law_main_1440 : decode M_Law_main.2.1 1440 = .ok (.iconst 1, 1) := by decide +kernel
theorem d_Law_main_1441 : decode M_Law_main.2.1 1441 = .ok (.iadd, 1) := by decide +kernel
theorem d_Law_main_1442 : decode M_Law_main.2.1 1442 = .ok (.iaload, 1) := by decide +kernel
theorem d_Law_main_1443 : decode M_Law_main.2.1 1443 = .ok (.invokevirtual 200, 3) := by decide +kernel
theorem d_Law_main_1446 : decode M_Law_main.2.1 1446 = .ok (.istore 6, 2) := by decide +kernel
theorem d_Law_main_1448 : decode M_Law_main.2.1 1448 = .ok (.aload_n 2, 1) := by decide +kernel
theorem d_Law_main_1449 : decode M_Law_main.2.1 1449 = .ok (.invokevirtual 122, 3) := by decide +kernel
theorem d_Law_main_1452 : decode M_Law_main.2.1 1452 = .ok (.iload 5, 2) := by decide +kernel
theorem d_Law_main_1454 : decode M_Law_main.2.1 1454 = .ok (.if_icmp .eq 5, 3) := by decide +kernel
theorem d_Law_main_1457 : decode M_Law_main.2.1 1457 = .ok (.iconst 0, 1) := by decide +kernel
theorem d_Law_main_1458 : decode M_Law_main.2.1 1458 = .ok (.ireturn, 1) := by decide +kernel
theorem d_Law_main_1459 : decode M_Law_main.2.1 1459 = .ok (.iload 5, 2) := by decide +kernel
theorem d_Law_main_1461 : decode M_Law_main.2.1 1461 = .ok (.ifCond .ne 15, 3) := by decide +kernel
theorem d_Law_main_1464 : decode M_Law_main.2.1 1464 = .ok (.aload_n 3, 1) := by decide +kernel
theorem d_Law_main_1465 : decode M_Law_main.2.1 1465 = .ok (.iconst 0, 1) := by decide +kernel
theorem d_Law_main_1466 : decode M_Law_main.2.1 1466 = .ok (.laload, 1) := by decide +kernel
theorem d_Law_main_1467 : decode M_Law_main.2.1 1467 = .ok (.iload 6, 2) := by decide +kernel
theorem d_Law_main_1469 : decode M_Law_main.2.1 1469 = .ok (.i2l, 1) := by decide +kernel
theorem d_Law_main_1470 : decode M_Law_main.2.1 1470 = .ok (.lcmp, 1) := by decide +kernel
theorem d_Law_main_1471 : decode M_Law_main.2.1 1471 = .ok (.ifCond .eq 5, 3) := by decide +kernel
theorem d_Law_main_1474 : decode M_Law_main.2.1 1474 = .ok (.iconst 0, 1) := by decide +kernel
theorem d_Law_main_1475 : decode M_Law_main.2.1 1475 = .ok (.ireturn, 1) := by decide +kernel
theorem d_Law_main_1476 : decode M_Law_main.2.1 1476 = .ok (.goto 837, 3) := by decide +kernel
theorem d_Law_main_1479 : decode M_Law_main.2.1 1479 = .ok (.aload_n 1, 1) := by decide +kernel
theorem d_Law_main_1480 : decode M_Law_main.2.1 1480 = .ok (.aload_n 0, 1) := by decide +kernel
theorem d_Law_main_1481 : decode M_Law_main.2.1 1481 = .ok (.iload 4, 2) := by decide +kernel
theorem d_Law_main_1483 : decode M_Law_main.2.1 1483 = .ok (.iconst 1, 1) := by decide +kernel
theorem d_Law_main_1484 : decode M_Law_main.2.1 1484 = .ok (.iadd, 1) := by decide +kernel
theorem d_Law_main_1485 : decode M_Law_main.2.1 1485 = .ok (.iaload, 1) := by decide +kernel
theorem d_Law_main_1486 : decode M_Law_main.2.1 1486 = .ok (.aload_n 0, 1) := by decide +kernel
theorem d_Law_main_1487 : decode M_Law_main.2.1 1487 = .ok (.iload 4, 2) := by decide +kernel
theorem d_Law_main_1489 : decode M_Law_main.2.1 1489 = .ok (.iconst 2, 1) := by decide +kernel
theorem d_Law_main_1490 : decode M_Law_main.2.1 1490 = .ok (.iadd, 1) := by decide +kernel
theorem d_Law_main_1491 : decode M_Law_main.2.1 1491 = .ok (.iaload, 1) := by decide +kernel
theorem d_Law_main_1492 : decode M_Law_main.2.1 1492 = .ok (.aload_n 0, 1) := by decide +kernel
theorem d_Law_main_1493 : decode M_Law_main.2.1 1493 = .ok (.iload 4, 2) := by decide +kernel
theorem d_Law_main_1495 : decode M_Law_main.2.1 1495 = .ok (.iconst 3, 1) := by decide +kernel
theorem d_Law_main_1496 : decode M_Law_main.2.1 1496 = .ok (.iadd, 1) := by decide +kernel
theorem d_Law_main_1497 : decode M_Law_main.2.1 1497 = .ok (.iaload, 1) := by decide +kernel
theorem d_Law_main_1498 : decode M_Law_main.2.1 1498 = .ok (.aload_n 3, 1) := by decide +kernel
theorem d_Law_main_1499 : decode M_Law_main.2.1 1499 = .ok (.invokestatic 201, 3) := by decide +kernel
theorem d_Law_main_1502 : decode M_Law_main.2.1 1502 = .ok (.istore 5, 2) := by decide +kernel
theorem d_Law_main_1504 : decode M_Law_main.2.1 1504 = .ok (.aload_n 2, 1) := by decide +kernel
theorem d_Law_main_1505 : decode M_Law_main.2.1 1505 = .ok (.aload_n 0, 1) := by decide +kernel
theorem d_Law_main_1506 : decode M_Law_main.2.1 1506 = .ok (.iload 4, 2) := by decide +kernel
theorem d_Law_main_1508 : decode M_Law_main.2.1 1508 = .ok (.iconst 1, 1) := by decide +kernel
theorem d_Law_main_1509 : decode M_Law_main.2.1 1509 = .ok (.iadd, 1) := by decide +kernel
theorem d_Law_main_1510 : decode M_Law_main.2.1 1510 = .ok (.iaload, 1) := by decide +kernel
theorem d_Law_main_1511 : decode M_Law_main.2.1 1511 = .ok (.aload_n 0, 1) := by decide +kernel
theorem d_Law_main_1512 : decode M_Law_main.2.1 1512 = .ok (.iload 4, 2) := by decide +kernel
theorem d_Law_main_1514 : decode M_Law_main.2.1 1514 = .ok (.iconst 2, 1) := by decide +kernel
theorem d_Law_main_1515 : decode M_Law_main.2.1 1515 = .ok (.iadd, 1) := by decide +kernel
theorem d_Law_main_1516 : decode M_Law_main.2.1 1516 = .ok (.iaload, 1) := by decide +kernel
theorem d_Law_main_1517 : decode M_Law_main.2.1 1517 = .ok (.aload_n 0, 1) := by decide +kernel
theorem d_Law_main_1518 : decode M_Law_main.2.1 1518 = .ok (.iload 4, 2) := by decide +kernel
theorem d_Law_main_1520 : decode M_Law_main.2.1 1520 = .ok (.iconst 3, 1) := by decide +kernel
theorem d_Law_main_1521 : decode M_Law_main.2.1 1521 = .ok (.iadd, 1) := by decide +kernel
theorem d_Law_main_1522 : decode M_Law_main.2.1 1522 = .ok (.iaload, 1) := by decide +kernel
theorem d_Law_main_1523 : decode M_Law_main.2.1 1523 = .ok (.invokevirtual 203, 3) := by decide +kernel
theorem d_Law_main_1526 : decode M_Law_main.2.1 1526 = .ok (.istore 6, 2) := by decide +kernel
theorem d_Law_main_1528 : decode M_Law_main.2.1 1528 = .ok (.aload_n 2, 1) := by decide +kernel
theorem d_Law_main_1529 : decode M_Law_main.2.1 1529 = .ok (.invokevirtual 122, 3) := by decide +kernel
theorem d_Law_main_1532 : decode M_Law_main.2.1 1532 = .ok (.iload 5, 2) := by decide +kernel
theorem d_Law_main_1534 : decode M_Law_main.2.1 1534 = .ok (.if_icmp .eq 5, 3) := by decide +kernel
theorem d_Law_main_1537 : decode M_Law_main.2.1 1537 = .ok (.iconst 0, 1) := by decide +kernel
theorem d_Law_main_1538 : decode M_Law_main.2.1 1538 = .ok (.ireturn, 1) := by decide +kernel
theorem d_Law_main_1539 : decode M_Law_main.2.1 1539 = .ok (.iload 5, 2) := by decide +kernel
theorem d_Law_main_1541 : decode M_Law_main.2.1 1541 = .ok (.ifCond .ne 15, 3) := by decide +kernel
theorem d_Law_main_1544 : decode M_Law_main.2.1 1544 = .ok (.aload_n 3, 1) := by decide +kernel
theorem d_Law_main_1545 : decode M_Law_main.2.1 1545 = .ok (.iconst 0, 1) := by decide +kernel
theorem d_Law_main_1546 : decode M_Law_main.2.1 1546 = .ok (.laload, 1) := by decide +kernel
theorem d_Law_main_1547 : decode M_Law_main.2.1 1547 = .ok (.iload 6, 2) := by decide +kernel
theorem d_Law_main_1549 : decode M_Law_main.2.1 1549 = .ok (.i2l, 1) := by decide +kernel
theorem d_Law_main_1550 : decode M_Law_main.2.1 1550 = .ok (.lcmp, 1) := by decide +kernel
theorem d_Law_main_1551 : decode M_Law_main.2.1 1551 = .ok (.ifCond .eq 5, 3) := by decide +kernel
theorem d_Law_main_1554 : decode M_Law_main.2.1 1554 = .ok (.iconst 0, 1) := by decide +kernel
theorem d_Law_main_1555 : decode M_Law_main.2.1 1555 = .ok (.ireturn, 1) := by decide +kernel
theorem d_Law_main_1556 : decode M_Law_main.2.1 1556 = .ok (.goto 757, 3) := by decide +kernel
theorem d_Law_main_1559 : decode M_Law_main.2.1 1559 = .ok (.aload_n 1, 1) := by decide +kernel
theorem d_Law_main_1560 : decode M_Law_main.2.1 1560 = .ok (.aload_n 0, 1) := by decide +kernel
theorem d_Law_main_1561 : decode M_Law_main.2.1 1561 = .ok (.iload 4, 2) := by decide +kernel
theorem d_Law_main_1563 : decode M_Law_main.2.1 1563 = .ok (.iconst 1, 1) := by decide +kernel
theorem d_Law_main_1564 : decode M_Law_main.2.1 1564 = .ok (.iadd, 1) := by decide +kernel
theorem d_Law_main_1565 : decode M_Law_main.2.1 1565 = .ok (.iaload, 1) := by decide +kernel
theorem d_Law_main_1566 : decode M_Law_main.2.1 1566 = .ok (.aload_n 0, 1) := by decide +kernel
theorem d_Law_main_1567 : decode M_Law_main.2.1 1567 = .ok (.iload 4, 2) := by decide +kernel
theorem d_Law_main_1569 : decode M_Law_main.2.1 1569 = .ok (.iconst 2, 1) := by decide +kernel
theorem d_Law_main_1570 : decode M_Law_main.2.1 1570 = .ok (.iadd, 1) := by decide +kernel
theorem d_Law_main_1571 : decode M_Law_main.2.1 1571 = .ok (.iaload, 1) := by decide +kernel
theorem d_Law_main_1572 : decode M_Law_main.2.1 1572 = .ok (.aload_n 3, 1) := by decide +kernel
theorem d_Law_main_1573 : decode M_Law_main.2.1 1573 = .ok (.invokestatic 204, 3) := by decide +kernel
theorem d_Law_main_1576 : decode M_Law_main.2.1 1576 = .ok (.istore 5, 2) := by decide +kernel
theorem d_Law_main_1578 : decode M_Law_main.2.1 1578 = .ok (.aload_n 2, 1) := by decide +kernel
theorem d_Law_main_1579 : decode M_Law_main.2.1 1579 = .ok (.aload_n 0, 1) := by decide +kernel
theorem d_Law_main_1580 : decode M_Law_main.2.1 1580 = .ok (.iload 4, 2) := by decide +kernel
theorem d_Law_main_1582 : decode M_Law_main.2.1 1582 = .ok (.iconst 1, 1) := by decide +kernel
theorem d_Law_main_1583 : decode M_Law_main.2.1 1583 = .ok (.iadd, 1) := by decide +kernel
theorem d_Law_main_1584 : decode M_Law_main.2.1 1584 = .ok (.iaload, 1) := by decide +kernel
theorem d_Law_main_1585 : decode M_Law_main.2.1 1585 = .ok (.aload_n 0, 1) := by decide +kernel
theorem d_Law_main_1586 : decode M_Law_main.2.1 1586 = .ok (.iload 4, 2) := by decide +kernel
theorem d_Law_main_1588 : decode M_Law_main.2.1 1588 = .ok (.iconst 2, 1) := by decide +kernel
theorem d_Law_main_1589 : decode M_Law_main.2.1 1589 = .ok (.iadd, 1) := by decide +kernel
theorem d_Law_main_1590 : decode M_Law_main.2.1 1590 = .ok (.iaload, 1) := by decide +kernel
theorem d_Law_main_1591 : decode M_Law_main.2.1 1591 = .ok (.invokevirtual 206, 3) := by decide +kernel
theorem d_Law_main_1594 : decode M_Law_main.2.1 1594 = .ok (.istore 6, 2) := by decide +kernel
theorem d_Law_main_1596 : decode M_Law_main.2.1 1596 = .ok (.aload_n 2, 1) := by decide +kernel
theorem d_Law_main_1597 : decode M_Law_main.2.1 1597 = .ok (.invokevirtual 122, 3) := by decide +kernel
theorem d_Law_main_1600 : decode M_Law_main.2.1 1600 = .ok (.iload 5, 2) := by decide +kernel
theorem d_Law_main_1602 : decode M_Law_main.2.1 1602 = .ok (.if_icmp .eq 5, 3) := by decide +kernel
theorem d_Law_main_1605 : decode M_Law_main.2.1 1605 = .ok (.iconst 0, 1) := by decide +kernel
theorem d_Law_main_1606 : decode M_Law_main.2.1 1606 = .ok (.ireturn, 1) := by decide +kernel
theorem d_Law_main_1607 : decode M_Law_main.2.1 1607 = .ok (.iload 5, 2) := by decide +kernel
theorem d_Law_main_1609 : decode M_Law_main.2.1 1609 = .ok (.ifCond .ne 15, 3) := by decide +kernel
theorem d_Law_main_1612 : decode M_Law_main.2.1 1612 = .ok (.aload_n 3, 1) := by decide +kernel
theorem d_Law_main_1613 : decode M_Law_main.2.1 1613 = .ok (.iconst 0, 1) := by decide +kernel
theorem d_Law_main_1614 : decode M_Law_main.2.1 1614 = .ok (.laload, 1) := by decide +kernel
theorem d_Law_main_1615 : decode M_Law_main.2.1 1615 = .ok (.iload 6, 2) := by decide +kernel
theorem d_Law_main_1617 : decode M_Law_main.2.1 1617 = .ok (.i2l, 1) := by decide +kernel
theorem d_Law_main_1618 : decode M_Law_main.2.1 1618 = .ok (.lcmp, 1) := by decide +kernel
theorem d_Law_main_1619 : decode M_Law_main.2.1 1619 = .ok (.ifCond .eq 5, 3) := by decide +kernel
theorem d_Law_main_1622 : decode M_Law_main.2.1 1622 = .ok (.iconst 0, 1) := by decide +kernel
theorem d_Law_main_1623 : decode M_Law_main.2.1 1623 = .ok (.ireturn, 1) := by decide +kernel
theorem d_Law_main_1624 : decode M_Law_main.2.1 1624 = .ok (.goto 689, 3) := by decide +kernel
theorem d_Law_main_1627 : decode M_Law_main.2.1 1627 = .ok (.aload_n 1, 1) := by decide +kernel
theorem d_Law_main_1628 : decode M_Law_main.2.1 1628 = .ok (.aload_n 0, 1) := by decide +kernel
theorem d_Law_main_1629 : decode M_Law_main.2.1 1629 = .ok (.iload 4, 2) := by decide +kernel
theorem d_Law_main_1631 : decode M_Law_main.2.1 1631 = .ok (.iconst 1, 1) := by decide +kernel
theorem d_Law_main_1632 : decode M_Law_main.2.1 1632 = .ok (.iadd, 1) := by decide +kernel
theorem d_Law_main_1633 : decode M_Law_main.2.1 1633 = .ok (.iaload, 1) := by decide +kernel
theorem d_Law_main_1634 : decode M_Law_main.2.1 1634 = .ok (.aload_n 0, 1) := by decide +kernel
theorem d_Law_main_1635 : decode M_Law_main.2.1 1635 = .ok (.iload 4, 2) := by decide +kernel
theorem d_Law_main_1637 : decode M_Law_main.2.1 1637 = .ok (.iconst 2, 1) := by decide +kernel
theorem d_Law_main_1638 : decode M_Law_main.2.1 1638 = .ok (.iadd, 1) := by decide +kernel
theorem d_Law_main_1639 : decode M_Law_main.2.1 1639 = .ok (.iaload, 1) := by decide +kernel
theorem d_Law_main_1640 : decode M_Law_main.2.1 1640 = .ok (.aload_n 3, 1) := by decide +kernel
theorem d_Law_main_1641 : decode M_Law_main.2.1 1641 = .ok (.invokestatic 207, 3) := by decide +kernel
theorem d_Law_main_1644 : decode M_Law_main.2.1 1644 = .ok (.istore 5, 2) := by decide +kernel
theorem d_Law_main_1646 : decode M_Law_main.2.1 1646 = .ok (.aload_n 2, 1) := by decide +kernel
theorem d_Law_main_1647 : decode M_Law_main.2.1 1647 = .ok (.aload_n 0, 1) := by decide +kernel
theorem d_Law_main_1648 : decode M_Law_main.2.1 1648 = .ok (.iload 4, 2) := by decide +kernel
theorem d_Law_main_1650 : decode M_Law_main.2.1 1650 = .ok (.iconst 1, 1) := by decide +kernel
theorem d_Law_main_1651 : decode M_Law_main.2.1 1651 = .ok (.iadd, 1) := by decide +kernel
theorem d_Law_main_1652 : decode M_Law_main.2.1 1652 = .ok (.iaload, 1) := by decide +kernel
theorem d_Law_main_1653 : decode M_Law_main.2.1 1653 = .ok (.aload_n 0, 1) := by decide +kernel
theorem d_Law_main_1654 : decode M_Law_main.2.1 1654 = .ok (.iload 4, 2) := by decide +kernel
theorem d_Law_main_1656 : decode M_Law_main.2.1 1656 = .ok (.iconst 2, 1) := by decide +kernel
theorem d_Law_main_1657 : decode M_Law_main.2.1 1657 = .ok (.iadd, 1) := by decide +kernel
theorem d_Law_main_1658 : decode M_Law_main.2.1 1658 = .ok (.iaload, 1) := by decide +kernel
theorem d_Law_main_1659 : decode M_Law_main.2.1 1659 = .ok (.invokevirtual 209, 3) := by decide +kernel
theorem d_Law_main_1662 : decode M_Law_main.2.1 1662 = .ok (.istore 6, 2) := by decide +kernel
theorem d_Law_main_1664 : decode M_Law_main.2.1 1664 = .ok (.aload_n 2, 1) := by decide +kernel
theorem d_Law_main_1665 : decode M_Law_main.2.1 1665 = .ok (.invokevirtual 122, 3) := by decide +kernel
theorem d_Law_main_1668 : decode M_Law_main.2.1 1668 = .ok (.iload 5, 2) := by decide +kernel
theorem d_Law_main_1670 : decode M_Law_main.2.1 1670 = .ok (.if_icmp .eq 5, 3) := by decide +kernel
theorem d_Law_main_1673 : decode M_Law_main.2.1 1673 = .ok (.iconst 0, 1) := by decide +kernel
theorem d_Law_main_1674 : decode M_Law_main.2.1 1674 = .ok (.ireturn, 1) := by decide +kernel
theorem d_Law_main_1675 : decode M_Law_main.2.1 1675 = .ok (.iload 5, 2) := by decide +kernel
theorem d_Law_main_1677 : decode M_Law_main.2.1 1677 = .ok (.ifCond .ne 15, 3) := by decide +kernel
theorem d_Law_main_1680 : decode M_Law_main.2.1 1680 = .ok (.aload_n 3, 1) := by decide +kernel
theorem d_Law_main_1681 : decode M_Law_main.2.1 1681 = .ok (.iconst 0, 1) := by decide +kernel
theorem d_Law_main_1682 : decode M_Law_main.2.1 1682 = .ok (.laload, 1) := by decide +kernel
theorem d_Law_main_1683 : decode M_Law_main.2.1 1683 = .ok (.iload 6, 2) := by decide +kernel
theorem d_Law_main_1685 : decode M_Law_main.2.1 1685 = .ok (.i2l, 1) := by decide +kernel
theorem d_Law_main_1686 : decode M_Law_main.2.1 1686 = .ok (.lcmp, 1) := by decide +kernel
theorem d_Law_main_1687 : decode M_Law_main.2.1 1687 = .ok (.ifCond .eq 5, 3) := by decide +kernel
theorem d_Law_main_1690 : decode M_Law_main.2.1 1690 = .ok (.iconst 0, 1) := by decide +kernel
theorem d_Law_main_1691 : decode M_Law_main.2.1 1691 = .ok (.ireturn, 1) := by decide +kernel
theorem d_Law_main_1692 : decode M_Law_main.2.1 1692 = .ok (.goto 621, 3) := by decide +kernel
theorem d_Law_main_1695 : decode M_Law_main.2.1 1695 = .ok (.aload_n 1, 1) := by decide +kernel
theorem d_Law_main_1696 : decode M_Law_main.2.1 1696 = .ok (.aload_n 0, 1) := by decide +kernel
theorem d_Law_main_1697 : decode M_Law_main.2.1 1697 = .ok (.iload 4, 2) := by decide +kernel
theorem d_Law_main_1699 : decode M_Law_main.2.1 1699 = .ok (.iconst 1, 1) := by decide +kernel
theorem d_Law_main_1700 : decode M_Law_main.2.1 1700 = .ok (.iadd, 1) := by decide +kernel
theorem d_Law_main_1701 : decode M_Law_main.2.1 1701 = .ok (.iaload, 1) := by decide +kernel
theorem d_Law_main_1702 : decode M_Law_main.2.1 1702 = .ok (.aload_n 3, 1) := by decide +kernel
theorem d_Law_main_1703 : decode M_Law_main.2.1 1703 = .ok (.invokestatic 210, 3) := by decide +kernel
theorem d_Law_main_1706 : decode M_Law_main.2.1 1706 = .ok (.istore 5, 2) := by decide +kernel
theorem d_Law_main_1708 : decode M_Law_main.2.1 1708 = .ok (.aload_n 2, 1) := by decide +kernel
theorem d_Law_main_1709 : decode M_Law_main.2.1 1709 = .ok (.aload_n 0, 1) := by decide +kernel
theorem d_Law_main_1710 : decode M_Law_main.2.1 1710 = .ok (.iload 4, 2) := by decide +kernel
theorem d_Law_main_1712 : decode M_Law_main.2.1 1712 = .ok (.iconst 1, 1) := by decide +kernel
theorem d_Law_main_1713 : decode M_Law_main.2.1 1713 = .ok (.iadd, 1) := by decide +kernel
theorem d_Law_main_1714 : decode M_Law_main.2.1 1714 = .ok (.iaload, 1) := by decide +kernel
theorem d_Law_main_1715 : decode M_Law_main.2.1 1715 = .ok (.invokevirtual 212, 3) := by decide +kernel
theorem d_Law_main_1718 : decode M_Law_main.2.1 1718 = .ok (.istore 6, 2) := by decide +kernel
theorem d_Law_main_1720 : decode M_Law_main.2.1 1720 = .ok (.aload_n 2, 1) := by decide +kernel
theorem d_Law_main_1721 : decode M_Law_main.2.1 1721 = .ok (.invokevirtual 122, 3) := by decide +kernel
theorem d_Law_main_1724 : decode M_Law_main.2.1 1724 = .ok (.iload 5, 2) := by decide +kernel
theorem d_Law_main_1726 : decode M_Law_main.2.1 1726 = .ok (.if_icmp .eq 5, 3) := by decide +kernel
theorem d_Law_main_1729 : decode M_Law_main.2.1 1729 = .ok (.iconst 0, 1) := by decide +kernel
theorem d_Law_main_1730 : decode M_Law_main.2.1 1730 = .ok (.ireturn, 1) := by decide +kernel
theorem d_Law_main_1731 : decode M_Law_main.2.1 1731 = .ok (.iload 5, 2) := by decide +kernel
theorem d_Law_main_1733 : decode M_Law_main.2.1 1733 = .ok (.ifCond .ne 15, 3) := by decide +kernel
theorem d_Law_main_1736 : decode M_Law_main.2.1 1736 = .ok (.aload_n 3, 1) := by decide +kernel
