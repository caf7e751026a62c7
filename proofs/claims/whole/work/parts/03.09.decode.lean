theorem d_LW_law_943 : decode b_LW_law 943 = .ok (.iload 4, 2) := by decide +kernel
theorem d_LW_law_945 : decode b_LW_law 945 = .ok (.iconst 1, 1) := by decide +kernel
theorem d_LW_law_946 : decode b_LW_law 946 = .ok (.iadd, 1) := by decide +kernel
theorem d_LW_law_947 : decode b_LW_law 947 = .ok (.iaload, 1) := by decide +kernel
theorem d_LW_law_948 : decode b_LW_law 948 = .ok (.aload_n 3, 1) := by decide +kernel
theorem d_LW_law_949 : decode b_LW_law 949 = .ok (.invokestatic 128, 3) := by decide +kernel
theorem d_LW_law_952 : decode b_LW_law 952 = .ok (.istore 5, 2) := by decide +kernel
theorem d_LW_law_954 : decode b_LW_law 954 = .ok (.aload_n 2, 1) := by decide +kernel
theorem d_LW_law_955 : decode b_LW_law 955 = .ok (.aload_n 0, 1) := by decide +kernel
theorem d_LW_law_956 : decode b_LW_law 956 = .ok (.iload 4, 2) := by decide +kernel
theorem d_LW_law_958 : decode b_LW_law 958 = .ok (.iconst 1, 1) := by decide +kernel
theorem d_LW_law_959 : decode b_LW_law 959 = .ok (.iadd, 1) := by decide +kernel
theorem d_LW_law_960 : decode b_LW_law 960 = .ok (.iaload, 1) := by decide +kernel
theorem d_LW_law_961 : decode b_LW_law 961 = .ok (.invokevirtual 130, 3) := by decide +kernel
theorem d_LW_law_964 : decode b_LW_law 964 = .ok (.istore 6, 2) := by decide +kernel
theorem d_LW_law_966 : decode b_LW_law 966 = .ok (.aload_n 2, 1) := by decide +kernel
theorem d_LW_law_967 : decode b_LW_law 967 = .ok (.invokevirtual 87, 3) := by decide +kernel
theorem d_LW_law_970 : decode b_LW_law 970 = .ok (.iload 5, 2) := by decide +kernel
theorem d_LW_law_972 : decode b_LW_law 972 = .ok (.if_icmp .eq 5, 3) := by decide +kernel
theorem d_LW_law_975 : decode b_LW_law 975 = .ok (.iconst 0, 1) := by decide +kernel
theorem d_LW_law_976 : decode b_LW_law 976 = .ok (.ireturn, 1) := by decide +kernel
theorem d_LW_law_977 : decode b_LW_law 977 = .ok (.iload 5, 2) := by decide +kernel
theorem d_LW_law_979 : decode b_LW_law 979 = .ok (.ifCond .ne 15, 3) := by decide +kernel
theorem d_LW_law_982 : decode b_LW_law 982 = .ok (.aload_n 3, 1) := by decide +kernel
theorem d_LW_law_983 : decode b_LW_law 983 = .ok (.iconst 0, 1) := by decide +kernel
theorem d_LW_law_984 : decode b_LW_law 984 = .ok (.laload, 1) := by decide +kernel
theorem d_LW_law_985 : decode b_LW_law 985 = .ok (.iload 6, 2) := by decide +kernel
theorem d_LW_law_987 : decode b_LW_law 987 = .ok (.i2l, 1) := by decide +kernel
theorem d_LW_law_988 : decode b_LW_law 988 = .ok (.lcmp, 1) := by decide +kernel
theorem d_LW_law_989 : decode b_LW_law 989 = .ok (.ifCond .eq 5, 3) := by decide +kernel
theorem d_LW_law_992 : decode b_LW_law 992 = .ok (.iconst 0, 1) := by decide +kernel
theorem d_LW_law_993 : decode b_LW_law 993 = .ok (.ireturn, 1) := by decide +kernel
theorem d_LW_law_994 : decode b_LW_law 994 = .ok (.goto 408, 3) := by decide +kernel
theorem d_LW_law_997 : decode b_LW_law 997 = .ok (.aload_n 1, 1) := by decide +kernel
theorem d_LW_law_998 : decode b_LW_law 998 = .ok (.aload_n 0, 1) := by decide +kernel
theorem d_LW_law_999 : decode b_LW_law 999 = .ok (.iload 4, 2) := by decide +kernel
theorem d_LW_law_1001 : decode b_LW_law 1001 = .ok (.iconst 1, 1) := by decide +kernel
theorem d_LW_law_1002 : decode b_LW_law 1002 = .ok (.iadd, 1) := by decide +kernel
theorem d_LW_law_1003 : decode b_LW_law 1003 = .ok (.iaload, 1) := by decide +kernel
theorem d_LW_law_1004 : decode b_LW_law 1004 = .ok (.aload_n 3, 1) := by decide +kernel
theorem d_LW_law_1005 : decode b_LW_law 1005 = .ok (.invokestatic 131, 3) := by decide +kernel
theorem d_LW_law_1008 : decode b_LW_law 1008 = .ok (.istore 5, 2) := by decide +kernel
theorem d_LW_law_1010 : decode b_LW_law 1010 = .ok (.aload_n 2, 1) := by decide +kernel
theorem d_LW_law_1011 : decode b_LW_law 1011 = .ok (.aload_n 0, 1) := by decide +kernel
theorem d_LW_law_1012 : decode b_LW_law 1012 = .ok (.iload 4, 2) := by decide +kernel
theorem d_LW_law_1014 : decode b_LW_law 1014 = .ok (.iconst 1, 1) := by decide +kernel
theorem d_LW_law_1015 : decode b_LW_law 1015 = .ok (.iadd, 1) := by decide +kernel
theorem d_LW_law_1016 : decode b_LW_law 1016 = .ok (.iaload, 1) := by decide +kernel
theorem d_LW_law_1017 : decode b_LW_law 1017 = .ok (.invokevirtual 133, 3) := by decide +kernel
theorem d_LW_law_1020 : decode b_LW_law 1020 = .ok (.istore 6, 2) := by decide +kernel
theorem d_LW_law_1022 : decode b_LW_law 1022 = .ok (.aload_n 2, 1) := by decide +kernel
theorem d_LW_law_1023 : decode b_LW_law 1023 = .ok (.invokevirtual 87, 3) := by decide +kernel
theorem d_LW_law_1026 : decode b_LW_law 1026 = .ok (.iload 5, 2) := by decide +kernel
theorem d_LW_law_1028 : decode b_LW_law 1028 = .ok (.if_icmp .eq 5, 3) := by decide +kernel
theorem d_LW_law_1031 : decode b_LW_law 1031 = .ok (.iconst 0, 1) := by decide +kernel
theorem d_LW_law_1032 : decode b_LW_law 1032 = .ok (.ireturn, 1) := by decide +kernel
theorem d_LW_law_1033 : decode b_LW_law 1033 = .ok (.iload 5, 2) := by decide +kernel
theorem d_LW_law_1035 : decode b_LW_law 1035 = .ok (.ifCond .ne 15, 3) := by decide +kernel
theorem d_LW_law_1038 : decode b_LW_law 1038 = .ok (.aload_n 3, 1) := by decide +kernel
theorem d_LW_law_1039 : decode b_LW_law 1039 = .ok (.iconst 0, 1) := by decide +kernel
theorem d_LW_law_1040 : decode b_LW_law 1040 = .ok (.laload, 1) := by decide +kernel
theorem d_LW_law_1041 : decode b_LW_law 1041 = .ok (.iload 6, 2) := by decide +kernel
theorem d_LW_law_1043 : decode b_LW_law 1043 = .ok (.i2l, 1) := by decide +kernel
theorem d_LW_law_1044 : decode b_LW_law 1044 = .ok (.lcmp, 1) := by decide +kernel
theorem d_LW_law_1045 : decode b_LW_law 1045 = .ok (.ifCond .eq 5, 3) := by decide +kernel
theorem d_LW_law_1048 : decode b_LW_law 1048 = .ok (.iconst 0, 1) := by decide +kernel
theorem d_LW_law_1049 : decode b_LW_law 1049 = .ok (.ireturn, 1) := by decide +kernel
theorem d_LW_law_1050 : decode b_LW_law 1050 = .ok (.goto 352, 3) := by decide +kernel
theorem d_LW_law_1053 : decode b_LW_law 1053 = .ok (.aload_n 1, 1) := by decide +kernel
theorem d_LW_law_1054 : decode b_LW_law 1054 = .ok (.aload_n 0, 1) := by decide +kernel
theorem d_LW_law_1055 : decode b_LW_law 1055 = .ok (.iload 4, 2) := by decide +kernel
theorem d_LW_law_1057 : decode b_LW_law 1057 = .ok (.iconst 1, 1) := by decide +kernel
theorem d_LW_law_1058 : decode b_LW_law 1058 = .ok (.iadd, 1) := by decide +kernel
theorem d_LW_law_1059 : decode b_LW_law 1059 = .ok (.iaload, 1) := by decide +kernel
theorem d_LW_law_1060 : decode b_LW_law 1060 = .ok (.aload_n 3, 1) := by decide +kernel
theorem d_LW_law_1061 : decode b_LW_law 1061 = .ok (.invokestatic 134, 3) := by decide +kernel
theorem d_LW_law_1064 : decode b_LW_law 1064 = .ok (.istore 5, 2) := by decide +kernel
theorem d_LW_law_1066 : decode b_LW_law 1066 = .ok (.aload_n 2, 1) := by decide +kernel
theorem d_LW_law_1067 : decode b_LW_law 1067 = .ok (.aload_n 0, 1) := by decide +kernel
theorem d_LW_law_1068 : decode b_LW_law 1068 = .ok (.iload 4, 2) := by decide +kernel
theorem d_LW_law_1070 : decode b_LW_law 1070 = .ok (.iconst 1, 1) := by decide +kernel
theorem d_LW_law_1071 : decode b_LW_law 1071 = .ok (.iadd, 1) := by decide +kernel
theorem d_LW_law_1072 : decode b_LW_law 1072 = .ok (.iaload, 1) := by decide +kernel
theorem d_LW_law_1073 : decode b_LW_law 1073 = .ok (.invokevirtual 136, 3) := by decide +kernel
theorem d_LW_law_1076 : decode b_LW_law 1076 = .ok (.istore 6, 2) := by decide +kernel
theorem d_LW_law_1078 : decode b_LW_law 1078 = .ok (.aload_n 2, 1) := by decide +kernel
theorem d_LW_law_1079 : decode b_LW_law 1079 = .ok (.invokevirtual 87, 3) := by decide +kernel
theorem d_LW_law_1082 : decode b_LW_law 1082 = .ok (.iload 5, 2) := by decide +kernel
theorem d_LW_law_1084 : decode b_LW_law 1084 = .ok (.if_icmp .eq 5, 3) := by decide +kernel
theorem d_LW_law_1087 : decode b_LW_law 1087 = .ok (.iconst 0, 1) := by decide +kernel
theorem d_LW_law_1088 : decode b_LW_law 1088 = .ok (.ireturn, 1) := by decide +kernel
theorem d_LW_law_1089 : decode b_LW_law 1089 = .ok (.iload 5, 2) := by decide +kernel
theorem d_LW_law_1091 : decode b_LW_law 1091 = .ok (.ifCond .ne 15, 3) := by decide +kernel
theorem d_LW_law_1094 : decode b_LW_law 1094 = .ok (.aload_n 3, 1) := by decide +kernel
theorem d_LW_law_1095 : decode b_LW_law 1095 = .ok (.iconst 0, 1) := by decide +kernel
theorem d_LW_law_1096 : decode b_LW_law 1096 = .ok (.laload, 1) := by decide +kernel
theorem d_LW_law_1097 : decode b_LW_law 1097 = .ok (.iload 6, 2) := by decide +kernel
theorem d_LW_law_1099 : decode b_LW_law 1099 = .ok (.i2l, 1) := by decide +kernel
theorem d_LW_law_1100 : decode b_LW_law 1100 = .ok (.lcmp, 1) := by decide +kernel
theorem d_LW_law_1101 : decode b_LW_law 1101 = .ok (.ifCond .eq 5, 3) := by decide +kernel
theorem d_LW_law_1104 : decode b_LW_law 1104 = .ok (.iconst 0, 1) := by decide +kernel
theorem d_LW_law_1105 : decode b_LW_law 1105 = .ok (.ireturn, 1) := by decide +kernel
theorem d_LW_law_1106 : decode b_LW_law 1106 = .ok (.goto 296, 3) := by decide +kernel
theorem d_LW_law_1109 : decode b_LW_law 1109 = .ok (.aload_n 1, 1) := by decide +kernel
theorem d_LW_law_1110 : decode b_LW_law 1110 = .ok (.aload_n 0, 1) := by decide +kernel
theorem d_LW_law_1111 : decode b_LW_law 1111 = .ok (.iload 4, 2) := by decide +kernel
theorem d_LW_law_1113 : decode b_LW_law 1113 = .ok (.iconst 1, 1) := by decide +kernel
theorem d_LW_law_1114 : decode b_LW_law 1114 = .ok (.iadd, 1) := by decide +kernel
theorem d_LW_law_1115 : decode b_LW_law 1115 = .ok (.iaload, 1) := by decide +kernel
theorem d_LW_law_1116 : decode b_LW_law 1116 = .ok (.aload_n 3, 1) := by decide +kernel
theorem d_LW_law_1117 : decode b_LW_law 1117 = .ok (.invokestatic 137, 3) := by decide +kernel
theorem d_LW_law_1120 : decode b_LW_law 1120 = .ok (.istore 5, 2) := by decide +kernel
theorem d_LW_law_1122 : decode b_LW_law 1122 = .ok (.aload_n 2, 1) := by decide +kernel
theorem d_LW_law_1123 : decode b_LW_law 1123 = .ok (.aload_n 0, 1) := by decide +kernel
theorem d_LW_law_1124 : decode b_LW_law 1124 = .ok (.iload 4, 2) := by decide +kernel
theorem d_LW_law_1126 : decode b_LW_law 1126 = .ok (.iconst 1, 1) := by decide +kernel
theorem d_LW_law_1127 : decode b_LW_law 1127 = .ok (.iadd, 1) := by decide +kernel
theorem d_LW_law_1128 : decode b_LW_law 1128 = .ok (.iaload, 1) := by decide +kernel
theorem d_LW_law_1129 : decode b_LW_law 1129 = .ok (.invokevirtual 139, 3) := by decide +kernel
theorem d_LW_law_1132 : decode b_LW_law 1132 = .ok (.istore 6, 2) := by decide +kernel
theorem d_LW_law_1134 : decode b_LW_law 1134 = .ok (.aload_n 2, 1) := by decide +kernel
theorem d_LW_law_1135 : decode b_LW_law 1135 = .ok (.invokevirtual 87, 3) := by decide +kernel
theorem d_LW_law_1138 : decode b_LW_law 1138 = .ok (.iload 5, 2) := by decide +kernel
theorem d_LW_law_1140 : decode b_LW_law 1140 = .ok (.if_icmp .eq 5, 3) := by decide +kernel
theorem d_LW_law_1143 : decode b_LW_law 1143 = .ok (.iconst 0, 1) := by decide +kernel
theorem d_LW_law_1144 : decode b_LW_law 1144 = .ok (.ireturn, 1) := by decide +kernel
theorem d_LW_law_1145 : decode b_LW_law 1145 = .ok (.iload 5, 2) := by decide +kernel
theorem d_LW_law_1147 : decode b_LW_law 1147 = .ok (.ifCond .ne 15, 3) := by decide +kernel
theorem d_LW_law_1150 : decode b_LW_law 1150 = .ok (.aload_n 3, 1) := by decide +kernel
theorem d_LW_law_1151 : decode b_LW_law 1151 = .ok (.iconst 0, 1) := by decide +kernel
theorem d_LW_law_1152 : decode b_LW_law 1152 = .ok (.laload, 1) := by decide +kernel
theorem d_LW_law_1153 : decode b_LW_law 1153 = .ok (.iload 6, 2) := by decide +kernel
theorem d_LW_law_1155 : decode b_LW_law 1155 = .ok (.i2l, 1) := by decide +kernel
theorem d_LW_law_1156 : decode b_LW_law 1156 = .ok (.lcmp, 1) := by decide +kernel
theorem d_LW_law_1157 : decode b_LW_law 1157 = .ok (.ifCond .eq 5, 3) := by decide +kernel
theorem d_LW_law_1160 : decode b_LW_law 1160 = .ok (.iconst 0, 1) := by decide +kernel
theorem d_LW_law_1161 : decode b_LW_law 1161 = .ok (.ireturn, 1) := by decide +kernel
theorem d_LW_law_1162 : decode b_LW_law 1162 = .ok (.goto 240, 3) := by decide +kernel
theorem d_LW_law_1165 : decode b_LW_law 1165 = .ok (.aload_n 1, 1) := by decide +kernel
theorem d_LW_law_1166 : decode b_LW_law 1166 = .ok (.invokevirtual 140, 3) := by decide +kernel
theorem d_LW_law_1169 : decode b_LW_law 1169 = .ok (.aload_n 2, 1) := by decide +kernel
theorem d_LW_law_1170 : decode b_LW_law 1170 = .ok (.invokevirtual 143, 3) := by decide +kernel
theorem d_LW_law_1173 : decode b_LW_law 1173 = .ok (.if_icmp .eq 229, 3) := by decide +kernel
theorem d_LW_law_1176 : decode b_LW_law 1176 = .ok (.iconst 0, 1) := by decide +kernel
theorem d_LW_law_1177 : decode b_LW_law 1177 = .ok (.ireturn, 1) := by decide +kernel
theorem d_LW_law_1178 : decode b_LW_law 1178 = .ok (.aload_n 1, 1) := by decide +kernel
theorem d_LW_law_1179 : decode b_LW_law 1179 = .ok (.aload_n 0, 1) := by decide +kernel
theorem d_LW_law_1180 : decode b_LW_law 1180 = .ok (.iload 4, 2) := by decide +kernel
theorem d_LW_law_1182 : decode b_LW_law 1182 = .ok (.iconst 1, 1) := by decide +kernel
theorem d_LW_law_1183 : decode b_LW_law 1183 = .ok (.iadd, 1) := by decide +kernel
theorem d_LW_law_1184 : decode b_LW_law 1184 = .ok (.iaload, 1) := by decide +kernel
theorem d_LW_law_1185 : decode b_LW_law 1185 = .ok (.aload_n 3, 1) := by decide +kernel
theorem d_LW_law_1186 : decode b_LW_law 1186 = .ok (.invokestatic 144, 3) := by decide +kernel
theorem d_LW_law_1189 : decode b_LW_law 1189 = .ok (.istore 5, 2) := by decide +kernel
theorem d_LW_law_1191 : decode b_LW_law 1191 = .ok (.aload_n 2, 1) := by decide +kernel
theorem d_LW_law_1192 : decode b_LW_law 1192 = .ok (.aload_n 0, 1) := by decide +kernel
theorem d_LW_law_1193 : decode b_LW_law 1193 = .ok (.iload 4, 2) := by decide +kernel
theorem d_LW_law_1195 : decode b_LW_law 1195 = .ok (.iconst 1, 1) := by decide +kernel
theorem d_LW_law_1196 : decode b_LW_law 1196 = .ok (.iadd, 1) := by decide +kernel
theorem d_LW_law_1197 : decode b_LW_law 1197 = .ok (.iaload, 1) := by decide +kernel
theorem d_LW_law_1198 : decode b_LW_law 1198 = .ok (.invokevirtual 146, 3) := by decide +kernel
theorem d_LW_law_1201 : decode b_LW_law 1201 = .ok (.istore 6, 2) := by decide +kernel
theorem d_LW_law_1203 : decode b_LW_law 1203 = .ok (.aload_n 2, 1) := by decide +kernel
theorem d_LW_law_1204 : decode b_LW_law 1204 = .ok (.invokevirtual 87, 3) := by decide +kernel
theorem d_LW_law_1207 : decode b_LW_law 1207 = .ok (.iload 5, 2) := by decide +kernel
theorem d_LW_law_1209 : decode b_LW_law 1209 = .ok (.if_icmp .eq 5, 3) := by decide +kernel
theorem d_LW_law_1212 : decode b_LW_law 1212 = .ok (.iconst 0, 1) := by decide +kernel
theorem d_LW_law_1213 : decode b_LW_law 1213 = .ok (.ireturn, 1) := by decide +kernel
theorem d_LW_law_1214 : decode b_LW_law 1214 = .ok (.iload 5, 2) := by decide +kernel
theorem d_LW_law_1216 : decode b_LW_law 1216 = .ok (.ifCond .ne 15, 3) := by decide +kernel
theorem d_LW_law_1219 : decode b_LW_law 1219 = .ok (.aload_n 3, 1) := by decide +kernel
theorem d_LW_law_1220 : decode b_LW_law 1220 = .ok (.iconst 0, 1) := by decide +kernel
theorem d_LW_law_1221 : decode b_LW_law 1221 = .ok (.laload, 1) := by decide +kernel
theorem d_LW_law_1222 : decode b_LW_law 1222 = .ok (.iload 6, 2) := by decide +kernel
theorem d_LW_law_1224 : decode b_LW_law 1224 = .ok (.i2l, 1) := by decide +kernel
theorem d_LW_law_1225 : decode b_LW_law 1225 = .ok (.lcmp, 1) := by decide +kernel
theorem d_LW_law_1226 : decode b_LW_law 1226 = .ok (.ifCond .eq 5, 3) := by decide +kernel
theorem d_LW_law_1229 : decode b_LW_law 1229 = .ok (.iconst 0, 1) := by decide +kernel
theorem d_LW_law_1230 : decode b_LW_law 1230 = .ok (.ireturn, 1) := by decide +kernel
theorem d_LW_law_1231 : decode b_LW_law 1231 = .ok (.goto 171, 3) := by decide +kernel
theorem d_LW_law_1234 : decode b_LW_law 1234 = .ok (.aload_n 1, 1) := by decide +kernel
theorem d_LW_law_1235 : decode b_LW_law 1235 = .ok (.aload_n 0, 1) := by decide +kernel
theorem d_LW_law_1236 : decode b_LW_law 1236 = .ok (.iload 4, 2) := by decide +kernel
theorem d_LW_law_1238 : decode b_LW_law 1238 = .ok (.iconst 1, 1) := by decide +kernel
theorem d_LW_law_1239 : decode b_LW_law 1239 = .ok (.iadd, 1) := by decide +kernel
theorem d_LW_law_1240 : decode b_LW_law 1240 = .ok (.iaload, 1) := by decide +kernel
theorem d_LW_law_1241 : decode b_LW_law 1241 = .ok (.aload_n 3, 1) := by decide +kernel
theorem d_LW_law_1242 : decode b_LW_law 1242 = .ok (.invokestatic 147, 3) := by decide +kernel
theorem d_LW_law_1245 : decode b_LW_law 1245 = .ok (.istore 5, 2) := by decide +kernel
theorem d_LW_law_1247 : decode b_LW_law 1247 = .ok (.aload_n 2, 1) := by decide +kernel
theorem d_LW_law_1248 : decode b_LW_law 1248 = .ok (.aload_n 0, 1) := by decide +kernel
theorem d_LW_law_1249 : decode b_LW_law 1249 = .ok (.iload 4, 2) := by decide +kernel
theorem d_LW_law_1251 : decode b_LW_law 1251 = .ok (.iconst 1, 1) := by decide +kernel
theorem d_LW_law_1252 : decode b_LW_law 1252 = .ok (.iadd, 1) := by decide +kernel
theorem d_LW_law_1253 : decode b_LW_law 1253 = .ok (.iaload, 1) := by decide +kernel
theorem d_LW_law_1254 : decode b_LW_law 1254 = .ok (.invokevirtual 149, 3) := by decide +kernel
theorem d_LW_law_1257 : decode b_LW_law 1257 = .ok (.istore 6, 2) := by decide +kernel
theorem d_LW_law_1259 : decode b_LW_law 1259 = .ok (.aload_n 2, 1) := by decide +kernel
theorem d_LW_law_1260 : decode b_LW_law 1260 = .ok (.invokevirtual 87, 3) := by decide +kernel
theorem d_LW_law_1263 : decode b_LW_law 1263 = .ok (.iload 5, 2) := by decide +kernel
theorem d_LW_law_1265 : decode b_LW_law 1265 = .ok (.if_icmp .eq 5, 3) := by decide +kernel
theorem d_LW_law_1268 : decode b_LW_law 1268 = .ok (.iconst 0, 1) := by decide +kernel
theorem d_LW_law_1269 : decode b_LW_law 1269 = .ok (.ireturn, 1) := by decide +kernel
theorem d_LW_law_1270 : decode b_LW_law 1270 = .ok (.iload 5, 2) := by decide +kernel
theorem d_LW_law_1272 : decode b_LW_law 1272 = .ok (.ifCond .ne 15, 3) := by decide +kernel
theorem d_LW_law_1275 : decode b_LW_law 1275 = .ok (.aload_n 3, 1) := by decide +kernel
theorem d_LW_law_1276 : decode b_LW_law 1276 = .ok (.iconst 0, 1) := by decide +kernel
theorem d_LW_law_1277 : decode b_LW_law 1277 = .ok (.laload, 1) := by decide +kernel
theorem d_LW_law_1278 : decode b_LW_law 1278 = .ok (.iload 6, 2) := by decide +kernel
theorem d_LW_law_1280 : decode b_LW_law 1280 = .ok (.i2l, 1) := by decide +kernel
theorem d_LW_law_1281 : decode b_LW_law 1281 = .ok (.lcmp, 1) := by decide +kernel
theorem d_LW_law_1282 : decode b_LW_law 1282 = .ok (.ifCond .eq 5, 3) := by decide +kernel
theorem d_LW_law_1285 : decode b_LW_law 1285 = .ok (.iconst 0, 1) := by decide +kernel
theorem d_LW_law_1286 : decode b_LW_law 1286 = .ok (.ireturn, 1) := by decide +kernel
theorem d_LW_law_1287 : decode b_LW_law 1287 = .ok (.goto 115, 3) := by decide +kernel
theorem d_LW_law_1290 : decode b_LW_law 1290 = .ok (.aload_n 1, 1) := by decide +kernel
theorem d_LW_law_1291 : decode b_LW_law 1291 = .ok (.aload_n 0, 1) := by decide +kernel
theorem d_LW_law_1292 : decode b_LW_law 1292 = .ok (.iload 4, 2) := by decide +kernel
theorem d_LW_law_1294 : decode b_LW_law 1294 = .ok (.iconst 1, 1) := by decide +kernel
theorem d_LW_law_1295 : decode b_LW_law 1295 = .ok (.iadd, 1) := by decide +kernel
theorem d_LW_law_1296 : decode b_LW_law 1296 = .ok (.iaload, 1) := by decide +kernel
theorem d_LW_law_1297 : decode b_LW_law 1297 = .ok (.aload_n 3, 1) := by decide +kernel
theorem d_LW_law_1298 : decode b_LW_law 1298 = .ok (.invokestatic 150, 3) := by decide +kernel
theorem d_LW_law_1301 : decode b_LW_law 1301 = .ok (.istore 5, 2) := by decide +kernel
theorem d_LW_law_1303 : decode b_LW_law 1303 = .ok (.aload_n 2, 1) := by decide +kernel
theorem d_LW_law_1304 : decode b_LW_law 1304 = .ok (.aload_n 0, 1) := by decide +kernel
theorem d_LW_law_1305 : decode b_LW_law 1305 = .ok (.iload 4, 2) := by decide +kernel
theorem d_LW_law_1307 : decode b_LW_law 1307 = .ok (.iconst 1, 1) := by decide +kernel
theorem d_LW_law_1308 : decode b_LW_law 1308 = .ok (.iadd, 1) := by decide +kernel
theorem d_LW_law_1309 : decode b_LW_law 1309 = .ok (.iaload, 1) := by decide +kernel
theorem d_LW_law_1310 : decode b_LW_law 1310 = .ok (.invokevirtual 152, 3) := by decide +kernel
theorem d_LW_law_1313 : decode b_LW_law 1313 = .ok (.istore 6, 2) := by decide +kernel
theorem d_LW_law_1315 : decode b_LW_law 1315 = .ok (.aload_n 2, 1) := by decide +kernel
theorem d_LW_law_1316 : decode b_LW_law 1316 = .ok (.invokevirtual 87, 3) := by decide +kernel
theorem d_LW_law_1319 : decode b_LW_law 1319 = .ok (.iload 5, 2) := by decide +kernel
theorem d_LW_law_1321 : decode b_LW_law 1321 = .ok (.if_icmp .eq 5, 3) := by decide +kernel
theorem d_LW_law_1324 : decode b_LW_law 1324 = .ok (.iconst 0, 1) := by decide +kernel
theorem d_LW_law_1325 : decode b_LW_law 1325 = .ok (.ireturn, 1) := by decide +kernel
theorem d_LW_law_1326 : decode b_LW_law 1326 = .ok (.iload 5, 2) := by decide +kernel
theorem d_LW_law_1328 : decode b_LW_law 1328 = .ok (.ifCond .ne 15, 3) := by decide +kernel
theorem d_LW_law_1331 : decode b_LW_law 1331 = .ok (.aload_n 3, 1) := by decide +kernel
theorem d_LW_law_1332 : decode b_LW_law 1332 = .ok (.iconst 0, 1) := by decide +kernel
theorem d_LW_law_1333 : decode b_LW_law 1333 = .ok (.laload, 1) := by decide +kernel
theorem d_LW_law_1334 : decode b_LW_law 1334 = .ok (.iload 6, 2) := by decide +kernel
theorem d_LW_law_1336 : decode b_LW_law 1336 = .ok (.i2l, 1) := by decide +kernel
theorem d_LW_law_1337 : decode b_LW_law 1337 = .ok (.lcmp, 1) := by decide +kernel
theorem d_LW_law_1338 : decode b_LW_law 1338 = .ok (.ifCond .eq 5, 3) := by decide +kernel
theorem d_LW_law_1341 : decode b_LW_law 1341 = .ok (.iconst 0, 1) := by decide +kernel
theorem d_LW_law_1342 : decode b_LW_law 1342 = .ok (.ireturn, 1) := by decide +kernel
theorem d_LW_law_1343 : decode b_LW_law 1343 = .ok (.goto 59, 3) := by decide +kernel
theorem d_LW_law_1346 : decode b_LW_law 1346 = .ok (.aload_n 1, 1) := by decide +kernel
theorem d_LW_law_1347 : decode b_LW_law 1347 = .ok (.aload_n 0, 1) := by decide +kernel
theorem d_LW_law_1348 : decode b_LW_law 1348 = .ok (.iload 4, 2) := by decide +kernel
theorem d_LW_law_1350 : decode b_LW_law 1350 = .ok (.iconst 1, 1) := by decide +kernel
theorem d_LW_law_1351 : decode b_LW_law 1351 = .ok (.iadd, 1) := by decide +kernel
theorem d_LW_law_1352 : decode b_LW_law 1352 = .ok (.iaload, 1) := by decide +kernel
theorem d_LW_law_1353 : decode b_LW_law 1353 = .ok (.aload_n 3, 1) := by decide +kernel
theorem d_LW_law_1354 : decode b_LW_law 1354 = .ok (.invokestatic 153, 3) := by decide +kernel
theorem d_LW_law_1357 : decode b_LW_law 1357 = .ok (.istore 5, 2) := by decide +kernel
theorem d_LW_law_1359 : decode b_LW_law 1359 = .ok (.aload_n 2, 1) := by decide +kernel
theorem d_LW_law_1360 : decode b_LW_law 1360 = .ok (.aload_n 0, 1) := by decide +kernel
theorem d_LW_law_1361 : decode b_LW_law 1361 = .ok (.iload 4, 2) := by decide +kernel
theorem d_LW_law_1363 : decode b_LW_law 1363 = .ok (.iconst 1, 1) := by decide +kernel
theorem d_LW_law_1364 : decode b_LW_law 1364 = .ok (.iadd, 1) := by decide +kernel
theorem d_LW_law_1365 : decode b_LW_law 1365 = .ok (.iaload, 1) := by decide +kernel
theorem d_LW_law_1366 : decode b_LW_law 1366 = .ok (.invokevirtual 155, 3) := by decide +kernel
theorem d_LW_law_1369 : decode b_LW_law 1369 = .ok (.istore 6, 2) := by decide +kernel
theorem d_LW_law_1371 : decode b_LW_law 1371 = .ok (.aload_n 2, 1) := by decide +kernel
theorem d_LW_law_1372 : decode b_LW_law 1372 = .ok (.invokevirtual 87, 3) := by decide +kernel
theorem d_LW_law_1375 : decode b_LW_law 1375 = .ok (.iload 5, 2) := by decide +kernel
theorem d_LW_law_1377 : decode b_LW_law 1377 = .ok (.if_icmp .eq 5, 3) := by decide +kernel
theorem d_LW_law_1380 : decode b_LW_law 1380 = .ok (.iconst 0, 1) := by decide +kernel
theorem d_LW_law_1381 : decode b_LW_law 1381 = .ok (.ireturn, 1) := by decide +kernel
theorem d_LW_law_1382 : decode b_LW_law 1382 = .ok (.iload 5, 2) := by decide +kernel
theorem d_LW_law_1384 : decode b_LW_law 1384 = .ok (.ifCond .ne 15, 3) := by decide +kernel
theorem d_LW_law_1387 : decode b_LW_law 1387 = .ok (.aload_n 3, 1) := by decide +kernel
theorem d_LW_law_1388 : decode b_LW_law 1388 = .ok (.iconst 0, 1) := by decide +kernel
theorem d_LW_law_1389 : decode b_LW_law 1389 = .ok (.laload, 1) := by decide +kernel
theorem d_LW_law_1390 : decode b_LW_law 1390 = .ok (.iload 6, 2) := by decide +kernel
theorem d_LW_law_1392 : decode b_LW_law 1392 = .ok (.i2l, 1) := by decide +kernel
theorem d_LW_law_1393 : decode b_LW_law 1393 = .ok (.lcmp, 1) := by decide +kernel
theorem d_LW_law_1394 : decode b_LW_law 1394 = .ok (.ifCond .eq 5, 3) := by decide +kernel
theorem d_LW_law_1397 : decode b_LW_law 1397 = .ok (.iconst 0, 1) := by decide +kernel
theorem d_LW_law_1398 : decode b_LW_law 1398 = .ok (.ireturn, 1) := by decide +kernel
theorem d_LW_law_1399 : decode b_LW_law 1399 = .ok (.goto 3, 3) := by decide +kernel
theorem d_LW_law_1402 : decode b_LW_law 1402 = .ok (.iinc 4 5, 3) := by decide +kernel
theorem d_LW_law_1405 : decode b_LW_law 1405 = .ok (.goto (-1382), 3) := by decide +kernel
theorem d_LW_law_1408 : decode b_LW_law 1408 = .ok (.iconst 1, 1) := by decide +kernel
theorem d_LW_law_1409 : decode b_LW_law 1409 = .ok (.ireturn, 1) := by decide +kernel
