/-! Decode rows by program. -/
theorem d_Law_law_915 : decode b_Law_law 915 = .ok (.aload_n 0, 1) := by decide +kernel
theorem d_Law_law_916 : decode b_Law_law 916 = .ok (.iload 4, 2) := by decide +kernel
theorem d_Law_law_918 : decode b_Law_law 918 = .ok (.iconst 1, 1) := by decide +kernel
theorem d_Law_law_919 : decode b_Law_law 919 = .ok (.iadd, 1) := by decide +kernel
theorem d_Law_law_920 : decode b_Law_law 920 = .ok (.iaload, 1) := by decide +kernel
theorem d_Law_law_921 : decode b_Law_law 921 = .ok (.invokevirtual 138, 3) := by decide +kernel
theorem d_Law_law_924 : decode b_Law_law 924 = .ok (.istore 6, 2) := by decide +kernel
theorem d_Law_law_926 : decode b_Law_law 926 = .ok (.aload_n 2, 1) := by decide +kernel
theorem d_Law_law_927 : decode b_Law_law 927 = .ok (.invokevirtual 86, 3) := by decide +kernel
theorem d_Law_law_930 : decode b_Law_law 930 = .ok (.iload 5, 2) := by decide +kernel
theorem d_Law_law_932 : decode b_Law_law 932 = .ok (.if_icmp .eq 5, 3) := by decide +kernel
theorem d_Law_law_935 : decode b_Law_law 935 = .ok (.iconst 0, 1) := by decide +kernel
theorem d_Law_law_936 : decode b_Law_law 936 = .ok (.ireturn, 1) := by decide +kernel
theorem d_Law_law_937 : decode b_Law_law 937 = .ok (.iload 5, 2) := by decide +kernel
theorem d_Law_law_939 : decode b_Law_law 939 = .ok (.ifCond .ne 15, 3) := by decide +kernel
theorem d_Law_law_942 : decode b_Law_law 942 = .ok (.aload_n 3, 1) := by decide +kernel
theorem d_Law_law_943 : decode b_Law_law 943 = .ok (.iconst 0, 1) := by decide +kernel
theorem d_Law_law_944 : decode b_Law_law 944 = .ok (.laload, 1) := by decide +kernel
theorem d_Law_law_945 : decode b_Law_law 945 = .ok (.iload 6, 2) := by decide +kernel
theorem d_Law_law_947 : decode b_Law_law 947 = .ok (.i2l, 1) := by decide +kernel
theorem d_Law_law_948 : decode b_Law_law 948 = .ok (.lcmp, 1) := by decide +kernel
theorem d_Law_law_949 : decode b_Law_law 949 = .ok (.ifCond .eq 5, 3) := by decide +kernel
theorem d_Law_law_952 : decode b_Law_law 952 = .ok (.iconst 0, 1) := by decide +kernel
theorem d_Law_law_953 : decode b_Law_law 953 = .ok (.ireturn, 1) := by decide +kernel
theorem d_Law_law_954 : decode b_Law_law 954 = .ok (.goto 332, 3) := by decide +kernel
theorem d_Law_law_957 : decode b_Law_law 957 = .ok (.aload_n 1, 1) := by decide +kernel
theorem d_Law_law_958 : decode b_Law_law 958 = .ok (.aload_n 0, 1) := by decide +kernel
theorem d_Law_law_959 : decode b_Law_law 959 = .ok (.iload 4, 2) := by decide +kernel
theorem d_Law_law_961 : decode b_Law_law 961 = .ok (.iconst 1, 1) := by decide +kernel
theorem d_Law_law_962 : decode b_Law_law 962 = .ok (.iadd, 1) := by decide +kernel
theorem d_Law_law_963 : decode b_Law_law 963 = .ok (.iaload, 1) := by decide +kernel
theorem d_Law_law_964 : decode b_Law_law 964 = .ok (.aload_n 0, 1) := by decide +kernel
theorem d_Law_law_965 : decode b_Law_law 965 = .ok (.iload 4, 2) := by decide +kernel
theorem d_Law_law_967 : decode b_Law_law 967 = .ok (.iconst 2, 1) := by decide +kernel
theorem d_Law_law_968 : decode b_Law_law 968 = .ok (.iadd, 1) := by decide +kernel
theorem d_Law_law_969 : decode b_Law_law 969 = .ok (.iaload, 1) := by decide +kernel
theorem d_Law_law_970 : decode b_Law_law 970 = .ok (.aload_n 3, 1) := by decide +kernel
theorem d_Law_law_971 : decode b_Law_law 971 = .ok (.invokestatic 139, 3) := by decide +kernel
theorem d_Law_law_974 : decode b_Law_law 974 = .ok (.istore 5, 2) := by decide +kernel
theorem d_Law_law_976 : decode b_Law_law 976 = .ok (.aload_n 2, 1) := by decide +kernel
theorem d_Law_law_977 : decode b_Law_law 977 = .ok (.aload_n 0, 1) := by decide +kernel
theorem d_Law_law_978 : decode b_Law_law 978 = .ok (.iload 4, 2) := by decide +kernel
theorem d_Law_law_980 : decode b_Law_law 980 = .ok (.iconst 1, 1) := by decide +kernel
theorem d_Law_law_981 : decode b_Law_law 981 = .ok (.iadd, 1) := by decide +kernel
theorem d_Law_law_982 : decode b_Law_law 982 = .ok (.iaload, 1) := by decide +kernel
theorem d_Law_law_983 : decode b_Law_law 983 = .ok (.aload_n 0, 1) := by decide +kernel
theorem d_Law_law_984 : decode b_Law_law 984 = .ok (.iload 4, 2) := by decide +kernel
theorem d_Law_law_986 : decode b_Law_law 986 = .ok (.iconst 2, 1) := by decide +kernel
theorem d_Law_law_987 : decode b_Law_law 987 = .ok (.iadd, 1) := by decide +kernel
theorem d_Law_law_988 : decode b_Law_law 988 = .ok (.iaload, 1) := by decide +kernel
theorem d_Law_law_989 : decode b_Law_law 989 = .ok (.invokevirtual 141, 3) := by decide +kernel
theorem d_Law_law_992 : decode b_Law_law 992 = .ok (.istore 6, 2) := by decide +kernel
theorem d_Law_law_994 : decode b_Law_law 994 = .ok (.aload_n 2, 1) := by decide +kernel
theorem d_Law_law_995 : decode b_Law_law 995 = .ok (.invokevirtual 86, 3) := by decide +kernel
theorem d_Law_law_998 : decode b_Law_law 998 = .ok (.iload 5, 2) := by decide +kernel
theorem d_Law_law_1000 : decode b_Law_law 1000 = .ok (.if_icmp .eq 5, 3) := by decide +kernel
theorem d_Law_law_1003 : decode b_Law_law 1003 = .ok (.iconst 0, 1) := by decide +kernel
theorem d_Law_law_1004 : decode b_Law_law 1004 = .ok (.ireturn, 1) := by decide +kernel
theorem d_Law_law_1005 : decode b_Law_law 1005 = .ok (.iload 5, 2) := by decide +kernel
theorem d_Law_law_1007 : decode b_Law_law 1007 = .ok (.ifCond .ne 15, 3) := by decide +kernel
theorem d_Law_law_1010 : decode b_Law_law 1010 = .ok (.aload_n 3, 1) := by decide +kernel
theorem d_Law_law_1011 : decode b_Law_law 1011 = .ok (.iconst 0, 1) := by decide +kernel
theorem d_Law_law_1012 : decode b_Law_law 1012 = .ok (.laload, 1) := by decide +kernel
theorem d_Law_law_1013 : decode b_Law_law 1013 = .ok (.iload 6, 2) := by decide +kernel
theorem d_Law_law_1015 : decode b_Law_law 1015 = .ok (.i2l, 1) := by decide +kernel
theorem d_Law_law_1016 : decode b_Law_law 1016 = .ok (.lcmp, 1) := by decide +kernel
theorem d_Law_law_1017 : decode b_Law_law 1017 = .ok (.ifCond .eq 5, 3) := by decide +kernel
theorem d_Law_law_1020 : decode b_Law_law 1020 = .ok (.iconst 0, 1) := by decide +kernel
theorem d_Law_law_1021 : decode b_Law_law 1021 = .ok (.ireturn, 1) := by decide +kernel
theorem d_Law_law_1022 : decode b_Law_law 1022 = .ok (.goto 264, 3) := by decide +kernel
theorem d_Law_law_1025 : decode b_Law_law 1025 = .ok (.aload_n 1, 1) := by decide +kernel
theorem d_Law_law_1026 : decode b_Law_law 1026 = .ok (.aload_n 0, 1) := by decide +kernel
theorem d_Law_law_1027 : decode b_Law_law 1027 = .ok (.iload 4, 2) := by decide +kernel
theorem d_Law_law_1029 : decode b_Law_law 1029 = .ok (.iconst 1, 1) := by decide +kernel
theorem d_Law_law_1030 : decode b_Law_law 1030 = .ok (.iadd, 1) := by decide +kernel
theorem d_Law_law_1031 : decode b_Law_law 1031 = .ok (.iaload, 1) := by decide +kernel
theorem d_Law_law_1032 : decode b_Law_law 1032 = .ok (.aload_n 0, 1) := by decide +kernel
theorem d_Law_law_1033 : decode b_Law_law 1033 = .ok (.iload 4, 2) := by decide +kernel
theorem d_Law_law_1035 : decode b_Law_law 1035 = .ok (.iconst 2, 1) := by decide +kernel
theorem d_Law_law_1036 : decode b_Law_law 1036 = .ok (.iadd, 1) := by decide +kernel
theorem d_Law_law_1037 : decode b_Law_law 1037 = .ok (.iaload, 1) := by decide +kernel
theorem d_Law_law_1038 : decode b_Law_law 1038 = .ok (.aload_n 3, 1) := by decide +kernel
theorem d_Law_law_1039 : decode b_Law_law 1039 = .ok (.invokestatic 142, 3) := by decide +kernel
theorem d_Law_law_1042 : decode b_Law_law 1042 = .ok (.istore 5, 2) := by decide +kernel
theorem d_Law_law_1044 : decode b_Law_law 1044 = .ok (.aload_n 2, 1) := by decide +kernel
theorem d_Law_law_1045 : decode b_Law_law 1045 = .ok (.aload_n 0, 1) := by decide +kernel
theorem d_Law_law_1046 : decode b_Law_law 1046 = .ok (.iload 4, 2) := by decide +kernel
theorem d_Law_law_1048 : decode b_Law_law 1048 = .ok (.iconst 1, 1) := by decide +kernel
theorem d_Law_law_1049 : decode b_Law_law 1049 = .ok (.iadd, 1) := by decide +kernel
theorem d_Law_law_1050 : decode b_Law_law 1050 = .ok (.iaload, 1) := by decide +kernel
theorem d_Law_law_1051 : decode b_Law_law 1051 = .ok (.aload_n 0, 1) := by decide +kernel
theorem d_Law_law_1052 : decode b_Law_law 1052 = .ok (.iload 4, 2) := by decide +kernel
theorem d_Law_law_1054 : decode b_Law_law 1054 = .ok (.iconst 2, 1) := by decide +kernel
theorem d_Law_law_1055 : decode b_Law_law 1055 = .ok (.iadd, 1) := by decide +kernel
theorem d_Law_law_1056 : decode b_Law_law 1056 = .ok (.iaload, 1) := by decide +kernel
theorem d_Law_law_1057 : decode b_Law_law 1057 = .ok (.invokevirtual 144, 3) := by decide +kernel
theorem d_Law_law_1060 : decode b_Law_law 1060 = .ok (.istore 6, 2) := by decide +kernel
theorem d_Law_law_1062 : decode b_Law_law 1062 = .ok (.aload_n 2, 1) := by decide +kernel
theorem d_Law_law_1063 : decode b_Law_law 1063 = .ok (.invokevirtual 86, 3) := by decide +kernel
theorem d_Law_law_1066 : decode b_Law_law 1066 = .ok (.iload 5, 2) := by decide +kernel
theorem d_Law_law_1068 : decode b_Law_law 1068 = .ok (.if_icmp .eq 5, 3) := by decide +kernel
theorem d_Law_law_1071 : decode b_Law_law 1071 = .ok (.iconst 0, 1) := by decide +kernel
theorem d_Law_law_1072 : decode b_Law_law 1072 = .ok (.ireturn, 1) := by decide +kernel
theorem d_Law_law_1073 : decode b_Law_law 1073 = .ok (.iload 5, 2) := by decide +kernel
theorem d_Law_law_1075 : decode b_Law_law 1075 = .ok (.ifCond .ne 15, 3) := by decide +kernel
theorem d_Law_law_1078 : decode b_Law_law 1078 = .ok (.aload_n 3, 1) := by decide +kernel
theorem d_Law_law_1079 : decode b_Law_law 1079 = .ok (.iconst 0, 1) := by decide +kernel
theorem d_Law_law_1080 : decode b_Law_law 1080 = .ok (.laload, 1) := by decide +kernel
theorem d_Law_law_1081 : decode b_Law_law 1081 = .ok (.iload 6, 2) := by decide +kernel
theorem d_Law_law_1083 : decode b_Law_law 1083 = .ok (.i2l, 1) := by decide +kernel
theorem d_Law_law_1084 : decode b_Law_law 1084 = .ok (.lcmp, 1) := by decide +kernel
theorem d_Law_law_1085 : decode b_Law_law 1085 = .ok (.ifCond .eq 5, 3) := by decide +kernel
theorem d_Law_law_1088 : decode b_Law_law 1088 = .ok (.iconst 0, 1) := by decide +kernel
theorem d_Law_law_1089 : decode b_Law_law 1089 = .ok (.ireturn, 1) := by decide +kernel
theorem d_Law_law_1090 : decode b_Law_law 1090 = .ok (.goto 196, 3) := by decide +kernel
theorem d_Law_law_1093 : decode b_Law_law 1093 = .ok (.aload_n 1, 1) := by decide +kernel
theorem d_Law_law_1094 : decode b_Law_law 1094 = .ok (.aload_n 0, 1) := by decide +kernel
theorem d_Law_law_1095 : decode b_Law_law 1095 = .ok (.iload 4, 2) := by decide +kernel
theorem d_Law_law_1097 : decode b_Law_law 1097 = .ok (.iconst 1, 1) := by decide +kernel
theorem d_Law_law_1098 : decode b_Law_law 1098 = .ok (.iadd, 1) := by decide +kernel
theorem d_Law_law_1099 : decode b_Law_law 1099 = .ok (.iaload, 1) := by decide +kernel
theorem d_Law_law_1100 : decode b_Law_law 1100 = .ok (.aload_n 3, 1) := by decide +kernel
theorem d_Law_law_1101 : decode b_Law_law 1101 = .ok (.invokestatic 145, 3) := by decide +kernel
theorem d_Law_law_1104 : decode b_Law_law 1104 = .ok (.istore 5, 2) := by decide +kernel
theorem d_Law_law_1106 : decode b_Law_law 1106 = .ok (.aload_n 2, 1) := by decide +kernel
theorem d_Law_law_1107 : decode b_Law_law 1107 = .ok (.aload_n 0, 1) := by decide +kernel
theorem d_Law_law_1108 : decode b_Law_law 1108 = .ok (.iload 4, 2) := by decide +kernel
theorem d_Law_law_1110 : decode b_Law_law 1110 = .ok (.iconst 1, 1) := by decide +kernel
theorem d_Law_law_1111 : decode b_Law_law 1111 = .ok (.iadd, 1) := by decide +kernel
theorem d_Law_law_1112 : decode b_Law_law 1112 = .ok (.iaload, 1) := by decide +kernel
theorem d_Law_law_1113 : decode b_Law_law 1113 = .ok (.invokevirtual 147, 3) := by decide +kernel
theorem d_Law_law_1116 : decode b_Law_law 1116 = .ok (.istore 6, 2) := by decide +kernel
theorem d_Law_law_1118 : decode b_Law_law 1118 = .ok (.aload_n 2, 1) := by decide +kernel
theorem d_Law_law_1119 : decode b_Law_law 1119 = .ok (.invokevirtual 86, 3) := by decide +kernel
theorem d_Law_law_1122 : decode b_Law_law 1122 = .ok (.iload 5, 2) := by decide +kernel
theorem d_Law_law_1124 : decode b_Law_law 1124 = .ok (.if_icmp .eq 5, 3) := by decide +kernel
theorem d_Law_law_1127 : decode b_Law_law 1127 = .ok (.iconst 0, 1) := by decide +kernel
theorem d_Law_law_1128 : decode b_Law_law 1128 = .ok (.ireturn, 1) := by decide +kernel
theorem d_Law_law_1129 : decode b_Law_law 1129 = .ok (.iload 5, 2) := by decide +kernel
theorem d_Law_law_1131 : decode b_Law_law 1131 = .ok (.ifCond .ne 15, 3) := by decide +kernel
theorem d_Law_law_1134 : decode b_Law_law 1134 = .ok (.aload_n 3, 1) := by decide +kernel
theorem d_Law_law_1135 : decode b_Law_law 1135 = .ok (.iconst 0, 1) := by decide +kernel
theorem d_Law_law_1136 : decode b_Law_law 1136 = .ok (.laload, 1) := by decide +kernel
theorem d_Law_law_1137 : decode b_Law_law 1137 = .ok (.iload 6, 2) := by decide +kernel
theorem d_Law_law_1139 : decode b_Law_law 1139 = .ok (.i2l, 1) := by decide +kernel
theorem d_Law_law_1140 : decode b_Law_law 1140 = .ok (.lcmp, 1) := by decide +kernel
theorem d_Law_law_1141 : decode b_Law_law 1141 = .ok (.ifCond .eq 5, 3) := by decide +kernel
theorem d_Law_law_1144 : decode b_Law_law 1144 = .ok (.iconst 0, 1) := by decide +kernel
theorem d_Law_law_1145 : decode b_Law_law 1145 = .ok (.ireturn, 1) := by decide +kernel
theorem d_Law_law_1146 : decode b_Law_law 1146 = .ok (.goto 140, 3) := by decide +kernel
theorem d_Law_law_1149 : decode b_Law_law 1149 = .ok (.aload_n 1, 1) := by decide +kernel
theorem d_Law_law_1150 : decode b_Law_law 1150 = .ok (.aload_n 0, 1) := by decide +kernel
theorem d_Law_law_1151 : decode b_Law_law 1151 = .ok (.iload 4, 2) := by decide +kernel
theorem d_Law_law_1153 : decode b_Law_law 1153 = .ok (.iconst 1, 1) := by decide +kernel
theorem d_Law_law_1154 : decode b_Law_law 1154 = .ok (.iadd, 1) := by decide +kernel
theorem d_Law_law_1155 : decode b_Law_law 1155 = .ok (.iaload, 1) := by decide +kernel
theorem d_Law_law_1156 : decode b_Law_law 1156 = .ok (.aload_n 3, 1) := by decide +kernel
theorem d_Law_law_1157 : decode b_Law_law 1157 = .ok (.invokestatic 148, 3) := by decide +kernel
theorem d_Law_law_1160 : decode b_Law_law 1160 = .ok (.istore 5, 2) := by decide +kernel
theorem d_Law_law_1162 : decode b_Law_law 1162 = .ok (.aload_n 2, 1) := by decide +kernel
theorem d_Law_law_1163 : decode b_Law_law 1163 = .ok (.aload_n 0, 1) := by decide +kernel
theorem d_Law_law_1164 : decode b_Law_law 1164 = .ok (.iload 4, 2) := by decide +kernel
theorem d_Law_law_1166 : decode b_Law_law 1166 = .ok (.iconst 1, 1) := by decide +kernel
theorem d_Law_law_1167 : decode b_Law_law 1167 = .ok (.iadd, 1) := by decide +kernel
theorem d_Law_law_1168 : decode b_Law_law 1168 = .ok (.iaload, 1) := by decide +kernel
theorem d_Law_law_1169 : decode b_Law_law 1169 = .ok (.invokevirtual 150, 3) := by decide +kernel
theorem d_Law_law_1172 : decode b_Law_law 1172 = .ok (.istore 6, 2) := by decide +kernel
theorem d_Law_law_1174 : decode b_Law_law 1174 = .ok (.aload_n 2, 1) := by decide +kernel
theorem d_Law_law_1175 : decode b_Law_law 1175 = .ok (.invokevirtual 86, 3) := by decide +kernel
theorem d_Law_law_1178 : decode b_Law_law 1178 = .ok (.iload 5, 2) := by decide +kernel
theorem d_Law_law_1180 : decode b_Law_law 1180 = .ok (.if_icmp .eq 5, 3) := by decide +kernel
theorem d_Law_law_1183 : decode b_Law_law 1183 = .ok (.iconst 0, 1) := by decide +kernel
theorem d_Law_law_1184 : decode b_Law_law 1184 = .ok (.ireturn, 1) := by decide +kernel
theorem d_Law_law_1185 : decode b_Law_law 1185 = .ok (.iload 5, 2) := by decide +kernel
theorem d_Law_law_1187 : decode b_Law_law 1187 = .ok (.ifCond .ne 15, 3) := by decide +kernel
theorem d_Law_law_1190 : decode b_Law_law 1190 = .ok (.aload_n 3, 1) := by decide +kernel
theorem d_Law_law_1191 : decode b_Law_law 1191 = .ok (.iconst 0, 1) := by decide +kernel
theorem d_Law_law_1192 : decode b_Law_law 1192 = .ok (.laload, 1) := by decide +kernel
theorem d_Law_law_1193 : decode b_Law_law 1193 = .ok (.iload 6, 2) := by decide +kernel
theorem d_Law_law_1195 : decode b_Law_law 1195 = .ok (.i2l, 1) := by decide +kernel
theorem d_Law_law_1196 : decode b_Law_law 1196 = .ok (.lcmp, 1) := by decide +kernel
theorem d_Law_law_1197 : decode b_Law_law 1197 = .ok (.ifCond .eq 5, 3) := by decide +kernel
theorem d_Law_law_1200 : decode b_Law_law 1200 = .ok (.iconst 0, 1) := by decide +kernel
theorem d_Law_law_1201 : decode b_Law_law 1201 = .ok (.ireturn, 1) := by decide +kernel
theorem d_Law_law_1202 : decode b_Law_law 1202 = .ok (.goto 84, 3) := by decide +kernel
theorem d_Law_law_1205 : decode b_Law_law 1205 = .ok (.aload_n 1, 1) := by decide +kernel
theorem d_Law_law_1206 : decode b_Law_law 1206 = .ok (.aload_n 0, 1) := by decide +kernel
theorem d_Law_law_1207 : decode b_Law_law 1207 = .ok (.iload 4, 2) := by decide +kernel
theorem d_Law_law_1209 : decode b_Law_law 1209 = .ok (.iconst 1, 1) := by decide +kernel
theorem d_Law_law_1210 : decode b_Law_law 1210 = .ok (.iadd, 1) := by decide +kernel
theorem d_Law_law_1211 : decode b_Law_law 1211 = .ok (.iaload, 1) := by decide +kernel
theorem d_Law_law_1212 : decode b_Law_law 1212 = .ok (.aload_n 3, 1) := by decide +kernel
theorem d_Law_law_1213 : decode b_Law_law 1213 = .ok (.invokestatic 151, 3) := by decide +kernel
theorem d_Law_law_1216 : decode b_Law_law 1216 = .ok (.istore 5, 2) := by decide +kernel
theorem d_Law_law_1218 : decode b_Law_law 1218 = .ok (.aload_n 2, 1) := by decide +kernel
theorem d_Law_law_1219 : decode b_Law_law 1219 = .ok (.aload_n 0, 1) := by decide +kernel
theorem d_Law_law_1220 : decode b_Law_law 1220 = .ok (.iload 4, 2) := by decide +kernel
theorem d_Law_law_1222 : decode b_Law_law 1222 = .ok (.iconst 1, 1) := by decide +kernel
theorem d_Law_law_1223 : decode b_Law_law 1223 = .ok (.iadd, 1) := by decide +kernel
theorem d_Law_law_1224 : decode b_Law_law 1224 = .ok (.iaload, 1) := by decide +kernel
theorem d_Law_law_1225 : decode b_Law_law 1225 = .ok (.invokevirtual 153, 3) := by decide +kernel
theorem d_Law_law_1228 : decode b_Law_law 1228 = .ok (.istore 6, 2) := by decide +kernel
theorem d_Law_law_1230 : decode b_Law_law 1230 = .ok (.aload_n 2, 1) := by decide +kernel
theorem d_Law_law_1231 : decode b_Law_law 1231 = .ok (.invokevirtual 86, 3) := by decide +kernel
theorem d_Law_law_1234 : decode b_Law_law 1234 = .ok (.iload 5, 2) := by decide +kernel
theorem d_Law_law_1236 : decode b_Law_law 1236 = .ok (.if_icmp .eq 5, 3) := by decide +kernel
theorem d_Law_law_1239 : decode b_Law_law 1239 = .ok (.iconst 0, 1) := by decide +kernel
theorem d_Law_law_1240 : decode b_Law_law 1240 = .ok (.ireturn, 1) := by decide +kernel
theorem d_Law_law_1241 : decode b_Law_law 1241 = .ok (.iload 5, 2) := by decide +kernel
theorem d_Law_law_1243 : decode b_Law_law 1243 = .ok (.ifCond .ne 15, 3) := by decide +kernel
theorem d_Law_law_1246 : decode b_Law_law 1246 = .ok (.aload_n 3, 1) := by decide +kernel
theorem d_Law_law_1247 : decode b_Law_law 1247 = .ok (.iconst 0, 1) := by decide +kernel
theorem d_Law_law_1248 : decode b_Law_law 1248 = .ok (.laload, 1) := by decide +kernel
theorem d_Law_law_1249 : decode b_Law_law 1249 = .ok (.iload 6, 2) := by decide +kernel
theorem d_Law_law_1251 : decode b_Law_law 1251 = .ok (.i2l, 1) := by decide +kernel
theorem d_Law_law_1252 : decode b_Law_law 1252 = .ok (.lcmp, 1) := by decide +kernel
theorem d_Law_law_1253 : decode b_Law_law 1253 = .ok (.ifCond .eq 5, 3) := by decide +kernel
theorem d_Law_law_1256 : decode b_Law_law 1256 = .ok (.iconst 0, 1) := by decide +kernel
theorem d_Law_law_1257 : decode b_Law_law 1257 = .ok (.ireturn, 1) := by decide +kernel
theorem d_Law_law_1258 : decode b_Law_law 1258 = .ok (.goto 28, 3) := by decide +kernel
theorem d_Law_law_1261 : decode b_Law_law 1261 = .ok (.aload_n 1, 1) := by decide +kernel
theorem d_Law_law_1262 : decode b_Law_law 1262 = .ok (.aload_n 0, 1) := by decide +kernel
theorem d_Law_law_1263 : decode b_Law_law 1263 = .ok (.iload 4, 2) := by decide +kernel
theorem d_Law_law_1265 : decode b_Law_law 1265 = .ok (.iconst 1, 1) := by decide +kernel
theorem d_Law_law_1266 : decode b_Law_law 1266 = .ok (.iadd, 1) := by decide +kernel
theorem d_Law_law_1267 : decode b_Law_law 1267 = .ok (.iaload, 1) := by decide +kernel
theorem d_Law_law_1268 : decode b_Law_law 1268 = .ok (.invokevirtual 154, 3) := by decide +kernel
theorem d_Law_law_1271 : decode b_Law_law 1271 = .ok (.aload_n 2, 1) := by decide +kernel
theorem d_Law_law_1272 : decode b_Law_law 1272 = .ok (.aload_n 0, 1) := by decide +kernel
theorem d_Law_law_1273 : decode b_Law_law 1273 = .ok (.iload 4, 2) := by decide +kernel
theorem d_Law_law_1275 : decode b_Law_law 1275 = .ok (.iconst 1, 1) := by decide +kernel
theorem d_Law_law_1276 : decode b_Law_law 1276 = .ok (.iadd, 1) := by decide +kernel
theorem d_Law_law_1277 : decode b_Law_law 1277 = .ok (.iaload, 1) := by decide +kernel
theorem d_Law_law_1278 : decode b_Law_law 1278 = .ok (.invokevirtual 157, 3) := by decide +kernel
theorem d_Law_law_1281 : decode b_Law_law 1281 = .ok (.if_icmp .eq 5, 3) := by decide +kernel
theorem d_Law_law_1284 : decode b_Law_law 1284 = .ok (.iconst 0, 1) := by decide +kernel
theorem d_Law_law_1285 : decode b_Law_law 1285 = .ok (.ireturn, 1) := by decide +kernel
theorem d_Law_law_1286 : decode b_Law_law 1286 = .ok (.iinc 4 4, 3) := by decide +kernel
theorem d_Law_law_1289 : decode b_Law_law 1289 = .ok (.goto (-1266), 3) := by decide +kernel
theorem d_Law_law_1292 : decode b_Law_law 1292 = .ok (.iconst 1, 1) := by decide +kernel
theorem d_Law_law_1293 : decode b_Law_law 1293 = .ok (.ireturn, 1) := by decide +kernel
