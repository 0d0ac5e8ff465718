/-! decode rows of the law (by program) -/
theorem d_Law_main_930 : decode M_Law_main.2.1 930 = .ok (.istore 5, 2) := by decide +kernel
theorem d_Law_main_932 : decode M_Law_main.2.1 932 = .ok (.aload_n 2, 1) := by decide +kernel
theorem d_Law_main_933 : decode M_Law_main.2.1 933 = .ok (.aload_n 0, 1) := by decide +kernel
theorem d_Law_main_934 : decode M_Law_main.2.1 934 = .ok (.iload 4, 2) := by decide +kernel
theorem d_Law_main_936 : decode M_Law_main.2.1 936 = .ok (.iconst 1, 1) := by decide +kernel
theorem d_Law_main_937 : decode M_Law_main.2.1 937 = .ok (.iadd, 1) := by decide +kernel
theorem d_Law_main_938 : decode M_Law_main.2.1 938 = .ok (.iaload, 1) := by decide +kernel
theorem d_Law_main_939 : decode M_Law_main.2.1 939 = .ok (.invokevirtual 194, 3) := by decide +kernel
theorem d_Law_main_942 : decode M_Law_main.2.1 942 = .ok (.istore 6, 2) := by decide +kernel
theorem d_Law_main_944 : decode M_Law_main.2.1 944 = .ok (.goto 529, 3) := by decide +kernel
theorem d_Law_main_947 : decode M_Law_main.2.1 947 = .ok (.aload_n 1, 1) := by decide +kernel
theorem d_Law_main_948 : decode M_Law_main.2.1 948 = .ok (.aload_n 0, 1) := by decide +kernel
theorem d_Law_main_949 : decode M_Law_main.2.1 949 = .ok (.iload 4, 2) := by decide +kernel
theorem d_Law_main_951 : decode M_Law_main.2.1 951 = .ok (.iconst 1, 1) := by decide +kernel
theorem d_Law_main_952 : decode M_Law_main.2.1 952 = .ok (.iadd, 1) := by decide +kernel
theorem d_Law_main_953 : decode M_Law_main.2.1 953 = .ok (.iaload, 1) := by decide +kernel
theorem d_Law_main_954 : decode M_Law_main.2.1 954 = .ok (.aload_n 3, 1) := by decide +kernel
theorem d_Law_main_955 : decode M_Law_main.2.1 955 = .ok (.invokestatic 195, 3) := by decide +kernel
theorem d_Law_main_958 : decode M_Law_main.2.1 958 = .ok (.istore 5, 2) := by decide +kernel
theorem d_Law_main_960 : decode M_Law_main.2.1 960 = .ok (.aload_n 2, 1) := by decide +kernel
theorem d_Law_main_961 : decode M_Law_main.2.1 961 = .ok (.aload_n 0, 1) := by decide +kernel
theorem d_Law_main_962 : decode M_Law_main.2.1 962 = .ok (.iload 4, 2) := by decide +kernel
theorem d_Law_main_964 : decode M_Law_main.2.1 964 = .ok (.iconst 1, 1) := by decide +kernel
theorem d_Law_main_965 : decode M_Law_main.2.1 965 = .ok (.iadd, 1) := by decide +kernel
theorem d_Law_main_966 : decode M_Law_main.2.1 966 = .ok (.iaload, 1) := by decide +kernel
theorem d_Law_main_967 : decode M_Law_main.2.1 967 = .ok (.invokevirtual 197, 3) := by decide +kernel
theorem d_Law_main_970 : decode M_Law_main.2.1 970 = .ok (.istore 6, 2) := by decide +kernel
theorem d_Law_main_972 : decode M_Law_main.2.1 972 = .ok (.goto 501, 3) := by decide +kernel
theorem d_Law_main_975 : decode M_Law_main.2.1 975 = .ok (.aload_n 1, 1) := by decide +kernel
theorem d_Law_main_976 : decode M_Law_main.2.1 976 = .ok (.aload_n 0, 1) := by decide +kernel
theorem d_Law_main_977 : decode M_Law_main.2.1 977 = .ok (.iload 4, 2) := by decide +kernel
theorem d_Law_main_979 : decode M_Law_main.2.1 979 = .ok (.iconst 1, 1) := by decide +kernel
theorem d_Law_main_980 : decode M_Law_main.2.1 980 = .ok (.iadd, 1) := by decide +kernel
theorem d_Law_main_981 : decode M_Law_main.2.1 981 = .ok (.iaload, 1) := by decide +kernel
theorem d_Law_main_982 : decode M_Law_main.2.1 982 = .ok (.aload_n 0, 1) := by decide +kernel
theorem d_Law_main_983 : decode M_Law_main.2.1 983 = .ok (.iload 4, 2) := by decide +kernel
theorem d_Law_main_985 : decode M_Law_main.2.1 985 = .ok (.iconst 2, 1) := by decide +kernel
theorem d_Law_main_986 : decode M_Law_main.2.1 986 = .ok (.iadd, 1) := by decide +kernel
theorem d_Law_main_987 : decode M_Law_main.2.1 987 = .ok (.iaload, 1) := by decide +kernel
theorem d_Law_main_988 : decode M_Law_main.2.1 988 = .ok (.aload_n 0, 1) := by decide +kernel
theorem d_Law_main_989 : decode M_Law_main.2.1 989 = .ok (.iload 4, 2) := by decide +kernel
theorem d_Law_main_991 : decode M_Law_main.2.1 991 = .ok (.iconst 3, 1) := by decide +kernel
theorem d_Law_main_992 : decode M_Law_main.2.1 992 = .ok (.iadd, 1) := by decide +kernel
theorem d_Law_main_993 : decode M_Law_main.2.1 993 = .ok (.iaload, 1) := by decide +kernel
theorem d_Law_main_994 : decode M_Law_main.2.1 994 = .ok (.aload_n 3, 1) := by decide +kernel
theorem d_Law_main_995 : decode M_Law_main.2.1 995 = .ok (.invokestatic 198, 3) := by decide +kernel
theorem d_Law_main_998 : decode M_Law_main.2.1 998 = .ok (.istore 5, 2) := by decide +kernel
theorem d_Law_main_1000 : decode M_Law_main.2.1 1000 = .ok (.aload_n 2, 1) := by decide +kernel
theorem d_Law_main_1001 : decode M_Law_main.2.1 1001 = .ok (.aload_n 0, 1) := by decide +kernel
theorem d_Law_main_1002 : decode M_Law_main.2.1 1002 = .ok (.iload 4, 2) := by decide +kernel
theorem d_Law_main_1004 : decode M_Law_main.2.1 1004 = .ok (.iconst 1, 1) := by decide +kernel
theorem d_Law_main_1005 : decode M_Law_main.2.1 1005 = .ok (.iadd, 1) := by decide +kernel
theorem d_Law_main_1006 : decode M_Law_main.2.1 1006 = .ok (.iaload, 1) := by decide +kernel
theorem d_Law_main_1007 : decode M_Law_main.2.1 1007 = .ok (.aload_n 0, 1) := by decide +kernel
theorem d_Law_main_1008 : decode M_Law_main.2.1 1008 = .ok (.iload 4, 2) := by decide +kernel
theorem d_Law_main_1010 : decode M_Law_main.2.1 1010 = .ok (.iconst 2, 1) := by decide +kernel
theorem d_Law_main_1011 : decode M_Law_main.2.1 1011 = .ok (.iadd, 1) := by decide +kernel
theorem d_Law_main_1012 : decode M_Law_main.2.1 1012 = .ok (.iaload, 1) := by decide +kernel
theorem d_Law_main_1013 : decode M_Law_main.2.1 1013 = .ok (.aload_n 0, 1) := by decide +kernel
theorem d_Law_main_1014 : decode M_Law_main.2.1 1014 = .ok (.iload 4, 2) := by decide +kernel
theorem d_Law_main_1016 : decode M_Law_main.2.1 1016 = .ok (.iconst 3, 1) := by decide +kernel
theorem d_Law_main_1017 : decode M_Law_main.2.1 1017 = .ok (.iadd, 1) := by decide +kernel
theorem d_Law_main_1018 : decode M_Law_main.2.1 1018 = .ok (.iaload, 1) := by decide +kernel
theorem d_Law_main_1019 : decode M_Law_main.2.1 1019 = .ok (.invokevirtual 200, 3) := by decide +kernel
theorem d_Law_main_1022 : decode M_Law_main.2.1 1022 = .ok (.istore 6, 2) := by decide +kernel
theorem d_Law_main_1024 : decode M_Law_main.2.1 1024 = .ok (.goto 449, 3) := by decide +kernel
theorem d_Law_main_1027 : decode M_Law_main.2.1 1027 = .ok (.aload_n 1, 1) := by decide +kernel
theorem d_Law_main_1028 : decode M_Law_main.2.1 1028 = .ok (.aload_n 0, 1) := by decide +kernel
theorem d_Law_main_1029 : decode M_Law_main.2.1 1029 = .ok (.iload 4, 2) := by decide +kernel
theorem d_Law_main_1031 : decode M_Law_main.2.1 1031 = .ok (.iconst 1, 1) := by decide +kernel
theorem d_Law_main_1032 : decode M_Law_main.2.1 1032 = .ok (.iadd, 1) := by decide +kernel
theorem d_Law_main_1033 : decode M_Law_main.2.1 1033 = .ok (.iaload, 1) := by decide +kernel
theorem d_Law_main_1034 : decode M_Law_main.2.1 1034 = .ok (.aload_n 0, 1) := by decide +kernel
theorem d_Law_main_1035 : decode M_Law_main.2.1 1035 = .ok (.iload 4, 2) := by decide +kernel
theorem d_Law_main_1037 : decode M_Law_main.2.1 1037 = .ok (.iconst 2, 1) := by decide +kernel
theorem d_Law_main_1038 : decode M_Law_main.2.1 1038 = .ok (.iadd, 1) := by decide +kernel
theorem d_Law_main_1039 : decode M_Law_main.2.1 1039 = .ok (.iaload, 1) := by decide +kernel
theorem d_Law_main_1040 : decode M_Law_main.2.1 1040 = .ok (.aload_n 3, 1) := by decide +kernel
theorem d_Law_main_1041 : decode M_Law_main.2.1 1041 = .ok (.invokestatic 201, 3) := by decide +kernel
theorem d_Law_main_1044 : decode M_Law_main.2.1 1044 = .ok (.istore 5, 2) := by decide +kernel
theorem d_Law_main_1046 : decode M_Law_main.2.1 1046 = .ok (.aload_n 2, 1) := by decide +kernel
theorem d_Law_main_1047 : decode M_Law_main.2.1 1047 = .ok (.aload_n 0, 1) := by decide +kernel
theorem d_Law_main_1048 : decode M_Law_main.2.1 1048 = .ok (.iload 4, 2) := by decide +kernel
theorem d_Law_main_1050 : decode M_Law_main.2.1 1050 = .ok (.iconst 1, 1) := by decide +kernel
theorem d_Law_main_1051 : decode M_Law_main.2.1 1051 = .ok (.iadd, 1) := by decide +kernel
theorem d_Law_main_1052 : decode M_Law_main.2.1 1052 = .ok (.iaload, 1) := by decide +kernel
theorem d_Law_main_1053 : decode M_Law_main.2.1 1053 = .ok (.aload_n 0, 1) := by decide +kernel
theorem d_Law_main_1054 : decode M_Law_main.2.1 1054 = .ok (.iload 4, 2) := by decide +kernel
theorem d_Law_main_1056 : decode M_Law_main.2.1 1056 = .ok (.iconst 2, 1) := by decide +kernel
theorem d_Law_main_1057 : decode M_Law_main.2.1 1057 = .ok (.iadd, 1) := by decide +kernel
theorem d_Law_main_1058 : decode M_Law_main.2.1 1058 = .ok (.iaload, 1) := by decide +kernel
theorem d_Law_main_1059 : decode M_Law_main.2.1 1059 = .ok (.invokevirtual 203, 3) := by decide +kernel
theorem d_Law_main_1062 : decode M_Law_main.2.1 1062 = .ok (.istore 6, 2) := by decide +kernel
theorem d_Law_main_1064 : decode M_Law_main.2.1 1064 = .ok (.goto 409, 3) := by decide +kernel
theorem d_Law_main_1067 : decode M_Law_main.2.1 1067 = .ok (.aload_n 1, 1) := by decide +kernel
theorem d_Law_main_1068 : decode M_Law_main.2.1 1068 = .ok (.aload_n 0, 1) := by decide +kernel
theorem d_Law_main_1069 : decode M_Law_main.2.1 1069 = .ok (.iload 4, 2) := by decide +kernel
theorem d_Law_main_1071 : decode M_Law_main.2.1 1071 = .ok (.iconst 1, 1) := by decide +kernel
theorem d_Law_main_1072 : decode M_Law_main.2.1 1072 = .ok (.iadd, 1) := by decide +kernel
theorem d_Law_main_1073 : decode M_Law_main.2.1 1073 = .ok (.iaload, 1) := by decide +kernel
theorem d_Law_main_1074 : decode M_Law_main.2.1 1074 = .ok (.aload_n 0, 1) := by decide +kernel
theorem d_Law_main_1075 : decode M_Law_main.2.1 1075 = .ok (.iload 4, 2) := by decide +kernel
theorem d_Law_main_1077 : decode M_Law_main.2.1 1077 = .ok (.iconst 2, 1) := by decide +kernel
theorem d_Law_main_1078 : decode M_Law_main.2.1 1078 = .ok (.iadd, 1) := by decide +kernel
theorem d_Law_main_1079 : decode M_Law_main.2.1 1079 = .ok (.iaload, 1) := by decide +kernel
theorem d_Law_main_1080 : decode M_Law_main.2.1 1080 = .ok (.aload_n 3, 1) := by decide +kernel
theorem d_Law_main_1081 : decode M_Law_main.2.1 1081 = .ok (.invokestatic 204, 3) := by decide +kernel
theorem d_Law_main_1084 : decode M_Law_main.2.1 1084 = .ok (.istore 5, 2) := by decide +kernel
theorem d_Law_main_1086 : decode M_Law_main.2.1 1086 = .ok (.aload_n 2, 1) := by decide +kernel
theorem d_Law_main_1087 : decode M_Law_main.2.1 1087 = .ok (.aload_n 0, 1) := by decide +kernel
theorem d_Law_main_1088 : decode M_Law_main.2.1 1088 = .ok (.iload 4, 2) := by decide +kernel
theorem d_Law_main_1090 : decode M_Law_main.2.1 1090 = .ok (.iconst 1, 1) := by decide +kernel
theorem d_Law_main_1091 : decode M_Law_main.2.1 1091 = .ok (.iadd, 1) := by decide +kernel
theorem d_Law_main_1092 : decode M_Law_main.2.1 1092 = .ok (.iaload, 1) := by decide +kernel
theorem d_Law_main_1093 : decode M_Law_main.2.1 1093 = .ok (.aload_n 0, 1) := by decide +kernel
theorem d_Law_main_1094 : decode M_Law_main.2.1 1094 = .ok (.iload 4, 2) := by decide +kernel
theorem d_Law_main_1096 : decode M_Law_main.2.1 1096 = .ok (.iconst 2, 1) := by decide +kernel
theorem d_Law_main_1097 : decode M_Law_main.2.1 1097 = .ok (.iadd, 1) := by decide +kernel
theorem d_Law_main_1098 : decode M_Law_main.2.1 1098 = .ok (.iaload, 1) := by decide +kernel
theorem d_Law_main_1099 : decode M_Law_main.2.1 1099 = .ok (.invokevirtual 206, 3) := by decide +kernel
theorem d_Law_main_1102 : decode M_Law_main.2.1 1102 = .ok (.istore 6, 2) := by decide +kernel
theorem d_Law_main_1104 : decode M_Law_main.2.1 1104 = .ok (.goto 369, 3) := by decide +kernel
theorem d_Law_main_1107 : decode M_Law_main.2.1 1107 = .ok (.aload_n 1, 1) := by decide +kernel
theorem d_Law_main_1108 : decode M_Law_main.2.1 1108 = .ok (.aload_n 0, 1) := by decide +kernel
theorem d_Law_main_1109 : decode M_Law_main.2.1 1109 = .ok (.iload 4, 2) := by decide +kernel
theorem d_Law_main_1111 : decode M_Law_main.2.1 1111 = .ok (.iconst 1, 1) := by decide +kernel
theorem d_Law_main_1112 : decode M_Law_main.2.1 1112 = .ok (.iadd, 1) := by decide +kernel
theorem d_Law_main_1113 : decode M_Law_main.2.1 1113 = .ok (.iaload, 1) := by decide +kernel
theorem d_Law_main_1114 : decode M_Law_main.2.1 1114 = .ok (.aload_n 3, 1) := by decide +kernel
theorem d_Law_main_1115 : decode M_Law_main.2.1 1115 = .ok (.invokestatic 207, 3) := by decide +kernel
theorem d_Law_main_1118 : decode M_Law_main.2.1 1118 = .ok (.istore 5, 2) := by decide +kernel
theorem d_Law_main_1120 : decode M_Law_main.2.1 1120 = .ok (.aload_n 2, 1) := by decide +kernel
theorem d_Law_main_1121 : decode M_Law_main.2.1 1121 = .ok (.aload_n 0, 1) := by decide +kernel
theorem d_Law_main_1122 : decode M_Law_main.2.1 1122 = .ok (.iload 4, 2) := by decide +kernel
theorem d_Law_main_1124 : decode M_Law_main.2.1 1124 = .ok (.iconst 1, 1) := by decide +kernel
theorem d_Law_main_1125 : decode M_Law_main.2.1 1125 = .ok (.iadd, 1) := by decide +kernel
theorem d_Law_main_1126 : decode M_Law_main.2.1 1126 = .ok (.iaload, 1) := by decide +kernel
theorem d_Law_main_1127 : decode M_Law_main.2.1 1127 = .ok (.invokevirtual 209, 3) := by decide +kernel
theorem d_Law_main_1130 : decode M_Law_main.2.1 1130 = .ok (.istore 6, 2) := by decide +kernel
theorem d_Law_main_1132 : decode M_Law_main.2.1 1132 = .ok (.goto 341, 3) := by decide +kernel
theorem d_Law_main_1135 : decode M_Law_main.2.1 1135 = .ok (.aload_n 1, 1) := by decide +kernel
theorem d_Law_main_1136 : decode M_Law_main.2.1 1136 = .ok (.aload_n 0, 1) := by decide +kernel
theorem d_Law_main_1137 : decode M_Law_main.2.1 1137 = .ok (.iload 4, 2) := by decide +kernel
theorem d_Law_main_1139 : decode M_Law_main.2.1 1139 = .ok (.iconst 1, 1) := by decide +kernel
theorem d_Law_main_1140 : decode M_Law_main.2.1 1140 = .ok (.iadd, 1) := by decide +kernel
theorem d_Law_main_1141 : decode M_Law_main.2.1 1141 = .ok (.iaload, 1) := by decide +kernel
theorem d_Law_main_1142 : decode M_Law_main.2.1 1142 = .ok (.aload_n 3, 1) := by decide +kernel
theorem d_Law_main_1143 : decode M_Law_main.2.1 1143 = .ok (.invokestatic 210, 3) := by decide +kernel
theorem d_Law_main_1146 : decode M_Law_main.2.1 1146 = .ok (.istore 5, 2) := by decide +kernel
theorem d_Law_main_1148 : decode M_Law_main.2.1 1148 = .ok (.aload_n 2, 1) := by decide +kernel
theorem d_Law_main_1149 : decode M_Law_main.2.1 1149 = .ok (.aload_n 0, 1) := by decide +kernel
theorem d_Law_main_1150 : decode M_Law_main.2.1 1150 = .ok (.iload 4, 2) := by decide +kernel
theorem d_Law_main_1152 : decode M_Law_main.2.1 1152 = .ok (.iconst 1, 1) := by decide +kernel
theorem d_Law_main_1153 : decode M_Law_main.2.1 1153 = .ok (.iadd, 1) := by decide +kernel
theorem d_Law_main_1154 : decode M_Law_main.2.1 1154 = .ok (.iaload, 1) := by decide +kernel
theorem d_Law_main_1155 : decode M_Law_main.2.1 1155 = .ok (.invokevirtual 212, 3) := by decide +kernel
theorem d_Law_main_1158 : decode M_Law_main.2.1 1158 = .ok (.istore 6, 2) := by decide +kernel
theorem d_Law_main_1160 : decode M_Law_main.2.1 1160 = .ok (.goto 313, 3) := by decide +kernel
theorem d_Law_main_1163 : decode M_Law_main.2.1 1163 = .ok (.aload_n 1, 1) := by decide +kernel
theorem d_Law_main_1164 : decode M_Law_main.2.1 1164 = .ok (.aload_n 0, 1) := by decide +kernel
theorem d_Law_main_1165 : decode M_Law_main.2.1 1165 = .ok (.iload 4, 2) := by decide +kernel
theorem d_Law_main_1167 : decode M_Law_main.2.1 1167 = .ok (.iconst 1, 1) := by decide +kernel
theorem d_Law_main_1168 : decode M_Law_main.2.1 1168 = .ok (.iadd, 1) := by decide +kernel
theorem d_Law_main_1169 : decode M_Law_main.2.1 1169 = .ok (.iaload, 1) := by decide +kernel
theorem d_Law_main_1170 : decode M_Law_main.2.1 1170 = .ok (.aload_n 3, 1) := by decide +kernel
theorem d_Law_main_1171 : decode M_Law_main.2.1 1171 = .ok (.invokestatic 213, 3) := by decide +kernel
theorem d_Law_main_1174 : decode M_Law_main.2.1 1174 = .ok (.istore 5, 2) := by decide +kernel
theorem d_Law_main_1176 : decode M_Law_main.2.1 1176 = .ok (.aload_n 2, 1) := by decide +kernel
theorem d_Law_main_1177 : decode M_Law_main.2.1 1177 = .ok (.aload_n 0, 1) := by decide +kernel
theorem d_Law_main_1178 : decode M_Law_main.2.1 1178 = .ok (.iload 4, 2) := by decide +kernel
theorem d_Law_main_1180 : decode M_Law_main.2.1 1180 = .ok (.iconst 1, 1) := by decide +kernel
theorem d_Law_main_1181 : decode M_Law_main.2.1 1181 = .ok (.iadd, 1) := by decide +kernel
theorem d_Law_main_1182 : decode M_Law_main.2.1 1182 = .ok (.iaload, 1) := by decide +kernel
theorem d_Law_main_1183 : decode M_Law_main.2.1 1183 = .ok (.invokevirtual 215, 3) := by decide +kernel
theorem d_Law_main_1186 : decode M_Law_main.2.1 1186 = .ok (.istore 6, 2) := by decide +kernel
theorem d_Law_main_1188 : decode M_Law_main.2.1 1188 = .ok (.goto 285, 3) := by decide +kernel
theorem d_Law_main_1191 : decode M_Law_main.2.1 1191 = .ok (.aload_n 1, 1) := by decide +kernel
theorem d_Law_main_1192 : decode M_Law_main.2.1 1192 = .ok (.invokevirtual 216, 3) := by decide +kernel
theorem d_Law_main_1195 : decode M_Law_main.2.1 1195 = .ok (.pop, 1) := by decide +kernel
theorem d_Law_main_1196 : decode M_Law_main.2.1 1196 = .ok (.aload_n 2, 1) := by decide +kernel
theorem d_Law_main_1197 : decode M_Law_main.2.1 1197 = .ok (.invokevirtual 219, 3) := by decide +kernel
theorem d_Law_main_1200 : decode M_Law_main.2.1 1200 = .ok (.pop, 1) := by decide +kernel
theorem d_Law_main_1201 : decode M_Law_main.2.1 1201 = .ok (.goto 272, 3) := by decide +kernel
theorem d_Law_main_1204 : decode M_Law_main.2.1 1204 = .ok (.aload_n 1, 1) := by decide +kernel
theorem d_Law_main_1205 : decode M_Law_main.2.1 1205 = .ok (.aload_n 0, 1) := by decide +kernel
theorem d_Law_main_1206 : decode M_Law_main.2.1 1206 = .ok (.iload 4, 2) := by decide +kernel
theorem d_Law_main_1208 : decode M_Law_main.2.1 1208 = .ok (.iconst 1, 1) := by decide +kernel
theorem d_Law_main_1209 : decode M_Law_main.2.1 1209 = .ok (.iadd, 1) := by decide +kernel
theorem d_Law_main_1210 : decode M_Law_main.2.1 1210 = .ok (.iaload, 1) := by decide +kernel
theorem d_Law_main_1211 : decode M_Law_main.2.1 1211 = .ok (.aload_n 3, 1) := by decide +kernel
theorem d_Law_main_1212 : decode M_Law_main.2.1 1212 = .ok (.invokestatic 220, 3) := by decide +kernel
theorem d_Law_main_1215 : decode M_Law_main.2.1 1215 = .ok (.istore 5, 2) := by decide +kernel
theorem d_Law_main_1217 : decode M_Law_main.2.1 1217 = .ok (.aload_n 2, 1) := by decide +kernel
theorem d_Law_main_1218 : decode M_Law_main.2.1 1218 = .ok (.aload_n 0, 1) := by decide +kernel
theorem d_Law_main_1219 : decode M_Law_main.2.1 1219 = .ok (.iload 4, 2) := by decide +kernel
theorem d_Law_main_1221 : decode M_Law_main.2.1 1221 = .ok (.iconst 1, 1) := by decide +kernel
theorem d_Law_main_1222 : decode M_Law_main.2.1 1222 = .ok (.iadd, 1) := by decide +kernel
theorem d_Law_main_1223 : decode M_Law_main.2.1 1223 = .ok (.iaload, 1) := by decide +kernel
theorem d_Law_main_1224 : decode M_Law_main.2.1 1224 = .ok (.invokevirtual 222, 3) := by decide +kernel
theorem d_Law_main_1227 : decode M_Law_main.2.1 1227 = .ok (.istore 6, 2) := by decide +kernel
theorem d_Law_main_1229 : decode M_Law_main.2.1 1229 = .ok (.goto 244, 3) := by decide +kernel
theorem d_Law_main_1232 : decode M_Law_main.2.1 1232 = .ok (.aload_n 1, 1) := by decide +kernel
theorem d_Law_main_1233 : decode M_Law_main.2.1 1233 = .ok (.aload_n 0, 1) := by decide +kernel
theorem d_Law_main_1234 : decode M_Law_main.2.1 1234 = .ok (.iload 4, 2) := by decide +kernel
theorem d_Law_main_1236 : decode M_Law_main.2.1 1236 = .ok (.iconst 1, 1) := by decide +kernel
theorem d_Law_main_1237 : decode M_Law_main.2.1 1237 = .ok (.iadd, 1) := by decide +kernel
theorem d_Law_main_1238 : decode M_Law_main.2.1 1238 = .ok (.iaload, 1) := by decide +kernel
theorem d_Law_main_1239 : decode M_Law_main.2.1 1239 = .ok (.aload_n 3, 1) := by decide +kernel
theorem d_Law_main_1240 : decode M_Law_main.2.1 1240 = .ok (.invokestatic 223, 3) := by decide +kernel
theorem d_Law_main_1243 : decode M_Law_main.2.1 1243 = .ok (.istore 5, 2) := by decide +kernel
theorem d_Law_main_1245 : decode M_Law_main.2.1 1245 = .ok (.aload_n 2, 1) := by decide +kernel
theorem d_Law_main_1246 : decode M_Law_main.2.1 1246 = .ok (.aload_n 0, 1) := by decide +kernel
theorem d_Law_main_1247 : decode M_Law_main.2.1 1247 = .ok (.iload 4, 2) := by decide +kernel
theorem d_Law_main_1249 : decode M_Law_main.2.1 1249 = .ok (.iconst 1, 1) := by decide +kernel
theorem d_Law_main_1250 : decode M_Law_main.2.1 1250 = .ok (.iadd, 1) := by decide +kernel
theorem d_Law_main_1251 : decode M_Law_main.2.1 1251 = .ok (.iaload, 1) := by decide +kernel
theorem d_Law_main_1252 : decode M_Law_main.2.1 1252 = .ok (.invokevirtual 225, 3) := by decide +kernel
theorem d_Law_main_1255 : decode M_Law_main.2.1 1255 = .ok (.istore 6, 2) := by decide +kernel
theorem d_Law_main_1257 : decode M_Law_main.2.1 1257 = .ok (.goto 216, 3) := by decide +kernel
theorem d_Law_main_1260 : decode M_Law_main.2.1 1260 = .ok (.aload_n 1, 1) := by decide +kernel
theorem d_Law_main_1261 : decode M_Law_main.2.1 1261 = .ok (.aload_n 0, 1) := by decide +kernel
theorem d_Law_main_1262 : decode M_Law_main.2.1 1262 = .ok (.iload 4, 2) := by decide +kernel
theorem d_Law_main_1264 : decode M_Law_main.2.1 1264 = .ok (.iconst 1, 1) := by decide +kernel
theorem d_Law_main_1265 : decode M_Law_main.2.1 1265 = .ok (.iadd, 1) := by decide +kernel
theorem d_Law_main_1266 : decode M_Law_main.2.1 1266 = .ok (.iaload, 1) := by decide +kernel
theorem d_Law_main_1267 : decode M_Law_main.2.1 1267 = .ok (.aload_n 0, 1) := by decide +kernel
theorem d_Law_main_1268 : decode M_Law_main.2.1 1268 = .ok (.iload 4, 2) := by decide +kernel
theorem d_Law_main_1270 : decode M_Law_main.2.1 1270 = .ok (.iconst 2, 1) := by decide +kernel
theorem d_Law_main_1271 : decode M_Law_main.2.1 1271 = .ok (.iadd, 1) := by decide +kernel
theorem d_Law_main_1272 : decode M_Law_main.2.1 1272 = .ok (.iaload, 1) := by decide +kernel
theorem d_Law_main_1273 : decode M_Law_main.2.1 1273 = .ok (.ifCond .eq 7, 3) := by decide +kernel
theorem d_Law_main_1276 : decode M_Law_main.2.1 1276 = .ok (.iconst 1, 1) := by decide +kernel
theorem d_Law_main_1277 : decode M_Law_main.2.1 1277 = .ok (.goto 4, 3) := by decide +kernel
theorem d_Law_main_1280 : decode M_Law_main.2.1 1280 = .ok (.iconst 0, 1) := by decide +kernel
theorem d_Law_main_1281 : decode M_Law_main.2.1 1281 = .ok (.aload_n 3, 1) := by decide +kernel
theorem d_Law_main_1282 : decode M_Law_main.2.1 1282 = .ok (.invokestatic 226, 3) := by decide +kernel
theorem d_Law_main_1285 : decode M_Law_main.2.1 1285 = .ok (.istore 5, 2) := by decide +kernel
theorem d_Law_main_1287 : decode M_Law_main.2.1 1287 = .ok (.aload_n 2, 1) := by decide +kernel
theorem d_Law_main_1288 : decode M_Law_main.2.1 1288 = .ok (.aload_n 0, 1) := by decide +kernel
theorem d_Law_main_1289 : decode M_Law_main.2.1 1289 = .ok (.iload 4, 2) := by decide +kernel
theorem d_Law_main_1291 : decode M_Law_main.2.1 1291 = .ok (.iconst 1, 1) := by decide +kernel
theorem d_Law_main_1292 : decode M_Law_main.2.1 1292 = .ok (.iadd, 1) := by decide +kernel
theorem d_Law_main_1293 : decode M_Law_main.2.1 1293 = .ok (.iaload, 1) := by decide +kernel
theorem d_Law_main_1294 : decode M_Law_main.2.1 1294 = .ok (.aload_n 0, 1) := by decide +kernel
theorem d_Law_main_1295 : decode M_Law_main.2.1 1295 = .ok (.iload 4, 2) := by decide +kernel
theorem d_Law_main_1297 : decode M_Law_main.2.1 1297 = .ok (.iconst 2, 1) := by decide +kernel
theorem d_Law_main_1298 : decode M_Law_main.2.1 1298 = .ok (.iadd, 1) := by decide +kernel
theorem d_Law_main_1299 : decode M_Law_main.2.1 1299 = .ok (.iaload, 1) := by decide +kernel
theorem d_Law_main_1300 : decode M_Law_main.2.1 1300 = .ok (.ifCond .eq 7, 3) := by decide +kernel
theorem d_Law_main_1303 : decode M_Law_main.2.1 1303 = .ok (.iconst 1, 1) := by decide +kernel
theorem d_Law_main_1304 : decode M_Law_main.2.1 1304 = .ok (.goto 4, 3) := by decide +kernel
theorem d_Law_main_1307 : decode M_Law_main.2.1 1307 = .ok (.iconst 0, 1) := by decide +kernel
theorem d_Law_main_1308 : decode M_Law_main.2.1 1308 = .ok (.invokevirtual 229, 3) := by decide +kernel
theorem d_Law_main_1311 : decode M_Law_main.2.1 1311 = .ok (.istore 6, 2) := by decide +kernel
theorem d_Law_main_1313 : decode M_Law_main.2.1 1313 = .ok (.goto 160, 3) := by decide +kernel
theorem d_Law_main_1316 : decode M_Law_main.2.1 1316 = .ok (.aload_n 1, 1) := by decide +kernel
theorem d_Law_main_1317 : decode M_Law_main.2.1 1317 = .ok (.aload_n 0, 1) := by decide +kernel
theorem d_Law_main_1318 : decode M_Law_main.2.1 1318 = .ok (.iload 4, 2) := by decide +kernel
theorem d_Law_main_1320 : decode M_Law_main.2.1 1320 = .ok (.iconst 1, 1) := by decide +kernel
theorem d_Law_main_1321 : decode M_Law_main.2.1 1321 = .ok (.iadd, 1) := by decide +kernel
theorem d_Law_main_1322 : decode M_Law_main.2.1 1322 = .ok (.iaload, 1) := by decide +kernel
theorem d_Law_main_1323 : decode M_Law_main.2.1 1323 = .ok (.aload_n 0, 1) := by decide +kernel
theorem d_Law_main_1324 : decode M_Law_main.2.1 1324 = .ok (.iload 4, 2) := by decide +kernel
theorem d_Law_main_1326 : decode M_Law_main.2.1 1326 = .ok (.iconst 2, 1) := by decide +kernel
theorem d_Law_main_1327 : decode M_Law_main.2.1 1327 = .ok (.iadd, 1) := by decide +kernel
theorem d_Law_main_1328 : decode M_Law_main.2.1 1328 = .ok (.iaload, 1) := by decide +kernel
theorem d_Law_main_1329 : decode M_Law_main.2.1 1329 = .ok (.aload_n 3, 1) := by decide +kernel
theorem d_Law_main_1330 : decode M_Law_main.2.1 1330 = .ok (.invokestatic 230, 3) := by decide +kernel
theorem d_Law_main_1333 : decode M_Law_main.2.1 1333 = .ok (.istore 5, 2) := by decide +kernel
theorem d_Law_main_1335 : decode M_Law_main.2.1 1335 = .ok (.aload_n 2, 1) := by decide +kernel
theorem d_Law_main_1336 : decode M_Law_main.2.1 1336 = .ok (.aload_n 0, 1) := by decide +kernel
theorem d_Law_main_1337 : decode M_Law_main.2.1 1337 = .ok (.iload 4, 2) := by decide +kernel
theorem d_Law_main_1339 : decode M_Law_main.2.1 1339 = .ok (.iconst 1, 1) := by decide +kernel
theorem d_Law_main_1340 : decode M_Law_main.2.1 1340 = .ok (.iadd, 1) := by decide +kernel
theorem d_Law_main_1341 : decode M_Law_main.2.1 1341 = .ok (.iaload, 1) := by decide +kernel
theorem d_Law_main_1342 : decode M_Law_main.2.1 1342 = .ok (.aload_n 0, 1) := by decide +kernel
theorem d_Law_main_1343 : decode M_Law_main.2.1 1343 = .ok (.iload 4, 2) := by decide +kernel
theorem d_Law_main_1345 : decode M_Law_main.2.1 1345 = .ok (.iconst 2, 1) := by decide +kernel
theorem d_Law_main_1346 : decode M_Law_main.2.1 1346 = .ok (.iadd, 1) := by decide +kernel
theorem d_Law_main_1347 : decode M_Law_main.2.1 1347 = .ok (.iaload, 1) := by decide +kernel
theorem d_Law_main_1348 : decode M_Law_main.2.1 1348 = .ok (.invokevirtual 232, 3) := by decide +kernel
theorem d_Law_main_1351 : decode M_Law_main.2.1 1351 = .ok (.istore 6, 2) := by decide +kernel
theorem d_Law_main_1353 : decode M_Law_main.2.1 1353 = .ok (.goto 120, 3) := by decide +kernel
theorem d_Law_main_1356 : decode M_Law_main.2.1 1356 = .ok (.aload_n 1, 1) := by decide +kernel
theorem d_Law_main_1357 : decode M_Law_main.2.1 1357 = .ok (.invokevirtual 233, 3) := by decide +kernel
theorem d_Law_main_1360 : decode M_Law_main.2.1 1360 = .ok (.pop, 1) := by decide +kernel
theorem d_Law_main_1361 : decode M_Law_main.2.1 1361 = .ok (.aload_n 2, 1) := by decide +kernel
theorem d_Law_main_1362 : decode M_Law_main.2.1 1362 = .ok (.invokevirtual 236, 3) := by decide +kernel
theorem d_Law_main_1365 : decode M_Law_main.2.1 1365 = .ok (.pop, 1) := by decide +kernel
theorem d_Law_main_1366 : decode M_Law_main.2.1 1366 = .ok (.goto 107, 3) := by decide +kernel
theorem d_Law_main_1369 : decode M_Law_main.2.1 1369 = .ok (.aload_n 1, 1) := by decide +kernel
theorem d_Law_main_1370 : decode M_Law_main.2.1 1370 = .ok (.aload_n 0, 1) := by decide +kernel
theorem d_Law_main_1371 : decode M_Law_main.2.1 1371 = .ok (.iload 4, 2) := by decide +kernel
theorem d_Law_main_1373 : decode M_Law_main.2.1 1373 = .ok (.iconst 1, 1) := by decide +kernel
theorem d_Law_main_1374 : decode M_Law_main.2.1 1374 = .ok (.iadd, 1) := by decide +kernel
theorem d_Law_main_1375 : decode M_Law_main.2.1 1375 = .ok (.iaload, 1) := by decide +kernel
theorem d_Law_main_1376 : decode M_Law_main.2.1 1376 = .ok (.aload_n 3, 1) := by decide +kernel
theorem d_Law_main_1377 : decode M_Law_main.2.1 1377 = .ok (.invokestatic 237, 3) := by decide +kernel
theorem d_Law_main_1380 : decode M_Law_main.2.1 1380 = .ok (.istore 5, 2) := by decide +kernel
theorem d_Law_main_1382 : decode M_Law_main.2.1 1382 = .ok (.aload_n 2, 1) := by decide +kernel
theorem d_Law_main_1383 : decode M_Law_main.2.1 1383 = .ok (.aload_n 0, 1) := by decide +kernel
theorem d_Law_main_1384 : decode M_Law_main.2.1 1384 = .ok (.iload 4, 2) := by decide +kernel
theorem d_Law_main_1386 : decode M_Law_main.2.1 1386 = .ok (.iconst 1, 1) := by decide +kernel
theorem d_Law_main_1387 : decode M_Law_main.2.1 1387 = .ok (.iadd, 1) := by decide +kernel
theorem d_Law_main_1388 : decode M_Law_main.2.1 1388 = .ok (.iaload, 1) := by decide +kernel
theorem d_Law_main_1389 : decode M_Law_main.2.1 1389 = .ok (.invokevirtual 239, 3) := by decide +kernel
theorem d_Law_main_1392 : decode M_Law_main.2.1 1392 = .ok (.istore 6, 2) := by decide +kernel
theorem d_Law_main_1394 : decode M_Law_main.2.1 1394 = .ok (.goto 79, 3) := by decide +kernel
theorem d_Law_main_1397 : decode M_Law_main.2.1 1397 = .ok (.aload_n 1, 1) := by decide +kernel
theorem d_Law_main_1398 : decode M_Law_main.2.1 1398 = .ok (.aload_n 0, 1) := by decide +kernel
theorem d_Law_main_1399 : decode M_Law_main.2.1 1399 = .ok (.iload 4, 2) := by decide +kernel
theorem d_Law_main_1401 : decode M_Law_main.2.1 1401 = .ok (.iconst 1, 1) := by decide +kernel
theorem d_Law_main_1402 : decode M_Law_main.2.1 1402 = .ok (.iadd, 1) := by decide +kernel
theorem d_Law_main_1403 : decode M_Law_main.2.1 1403 = .ok (.iaload, 1) := by decide +kernel
theorem d_Law_main_1404 : decode M_Law_main.2.1 1404 = .ok (.aload_n 0, 1) := by decide +kernel
theorem d_Law_main_1405 : decode M_Law_main.2.1 1405 = .ok (.iload 4, 2) := by decide +kernel
theorem d_Law_main_1407 : decode M_Law_main.2.1 1407 = .ok (.iconst 2, 1) := by decide +kernel
theorem d_Law_main_1408 : decode M_Law_main.2.1 1408 = .ok (.iadd, 1) := by decide +kernel
theorem d_Law_main_1409 : decode M_Law_main.2.1 1409 = .ok (.iaload, 1) := by decide +kernel
theorem d_Law_main_1410 : decode M_Law_main.2.1 1410 = .ok (.aload_n 0, 1) := by decide +kernel
theorem d_Law_main_1411 : decode M_Law_main.2.1 1411 = .ok (.iload 4, 2) := by decide +kernel
theorem d_Law_main_1413 : decode M_Law_main.2.1 1413 = .ok (.iconst 3, 1) := by decide +kernel
theorem d_Law_main_1414 : decode M_Law_main.2.1 1414 = .ok (.iadd, 1) := by decide +kernel
theorem d_Law_main_1415 : decode M_Law_main.2.1 1415 = .ok (.iaload, 1) := by decide +kernel
theorem d_Law_main_1416 : decode M_Law_main.2.1 1416 = .ok (.aload_n 3, 1) := by decide +kernel
theorem d_Law_main_1417 : decode M_Law_main.2.1 1417 = .ok (.invokestatic 240, 3) := by decide +kernel
theorem d_Law_main_1420 : decode M_Law_main.2.1 1420 = .ok (.istore 5, 2) := by decide +kernel
theorem d_Law_main_1422 : decode M_Law_main.2.1 1422 = .ok (.aload_n 2, 1) := by decide +kernel
theorem d_Law_main_1423 : decode M_Law_main.2.1 1423 = .ok (.aload_n 0, 1) := by decide +kernel
theorem d_Law_main_1424 : decode M_Law_main.2.1 1424 = .ok (.iload 4, 2) := by decide +kernel
theorem d_Law_main_1426 : decode M_Law_main.2.1 1426 = .ok (.iconst 1, 1) := by decide +kernel
theorem d_Law_main_1427 : decode M_Law_main.2.1 1427 = .ok (.iadd, 1) := by decide +kernel
theorem d_Law_main_1428 : decode M_Law_main.2.1 1428 = .ok (.iaload, 1) := by decide +kernel
theorem d_Law_main_1429 : decode M_Law_main.2.1 1429 = .ok (.aload_n 0, 1) := by decide +kernel
theorem d_Law_main_1430 : decode M_Law_main.2.1 1430 = .ok (.iload 4, 2) := by decide +kernel
theorem d_Law_main_1432 : decode M_Law_main.2.1 1432 = .ok (.iconst 2, 1) := by decide +kernel
theorem d_Law_main_1433 : decode M_Law_main.2.1 1433 = .ok (.iadd, 1) := by decide +kernel
theorem d_Law_main_1434 : decode M_Law_main.2.1 1434 = .ok (.iaload, 1) := by decide +kernel
theorem d_Law_main_1435 : decode M_Law_main.2.1 1435 = .ok (.aload_n 0, 1) := by decide +kernel
theorem d_Law_main_1436 : decode M_Law_main.2.1 1436 = .ok (.iload 4, 2) := by decide +kernel
theorem d_Law_main_1438 : decode M_Law_main.2.1 1438 = .ok (.iconst 3, 1) := by decide +kernel
theorem d_Law_main_1439 : decode M_Law_main.2.1 1439 = .ok (.iadd, 1) := by decide +kernel
theorem d_Law_main_1440 : decode M_Law_main.2.1 1440 = .ok (.iaload, 1) := by decide +kernel
theorem d_Law_main_1441 : decode M_Law_main.2.1 1441 = .ok (.invokevirtual 242, 3) := by decide +kernel
theorem d_Law_main_1444 : decode M_Law_main.2.1 1444 = .ok (.istore 6, 2) := by decide +kernel
theorem d_Law_main_1446 : decode M_Law_main.2.1 1446 = .ok (.goto 27, 3) := by decide +kernel
theorem d_Law_main_1449 : decode M_Law_main.2.1 1449 = .ok (.aload_n 1, 1) := by decide +kernel
theorem d_Law_main_1450 : decode M_Law_main.2.1 1450 = .ok (.invokevirtual 243, 3) := by decide +kernel
theorem d_Law_main_1453 : decode M_Law_main.2.1 1453 = .ok (.aload_n 2, 1) := by decide +kernel
theorem d_Law_main_1454 : decode M_Law_main.2.1 1454 = .ok (.invokevirtual 246, 3) := by decide +kernel
theorem d_Law_main_1457 : decode M_Law_main.2.1 1457 = .ok (.goto 16, 3) := by decide +kernel
theorem d_Law_main_1460 : decode M_Law_main.2.1 1460 = .ok (.aload_n 1, 1) := by decide +kernel
theorem d_Law_main_1461 : decode M_Law_main.2.1 1461 = .ok (.invokevirtual 247, 3) := by decide +kernel
theorem d_Law_main_1464 : decode M_Law_main.2.1 1464 = .ok (.pop, 1) := by decide +kernel
theorem d_Law_main_1465 : decode M_Law_main.2.1 1465 = .ok (.aload_n 2, 1) := by decide +kernel
theorem d_Law_main_1466 : decode M_Law_main.2.1 1466 = .ok (.invokevirtual 251, 3) := by decide +kernel
theorem d_Law_main_1469 : decode M_Law_main.2.1 1469 = .ok (.pop, 1) := by decide +kernel
theorem d_Law_main_1470 : decode M_Law_main.2.1 1470 = .ok (.goto 3, 3) := by decide +kernel
theorem d_Law_main_1473 : decode M_Law_main.2.1 1473 = .ok (.iinc 4 6, 3) := by decide +kernel
theorem d_Law_main_1476 : decode M_Law_main.2.1 1476 = .ok (.goto (-1453), 3) := by decide +kernel
theorem d_Law_main_1479 : decode M_Law_main.2.1 1479 = .ok (.iconst 1, 1) := by decide +kernel
theorem d_Law_main_1480 : decode M_Law_main.2.1 1480 = .ok (.ireturn, 1) := by decide +kernel
