/-! rows of the law's own code -/
theorem dL_law__884 : decode cL_law_ 884 = .ok (.iaload, 1) := by decide +kernel
theorem dL_law__885 : decode cL_law_ 885 = .ok (.invokevirtual 166, 3) := by decide +kernel
theorem dL_law__888 : decode cL_law_ 888 = .ok (.istore 6, 2) := by decide +kernel
theorem dL_law__890 : decode cL_law_ 890 = .ok (.aload_n 2, 1) := by decide +kernel
theorem dL_law__891 : decode cL_law_ 891 = .ok (.invokevirtual 125, 3) := by decide +kernel
theorem dL_law__894 : decode cL_law_ 894 = .ok (.iload 5, 2) := by decide +kernel
theorem dL_law__896 : decode cL_law_ 896 = .ok (.if_icmp .eq 5, 3) := by decide +kernel
theorem dL_law__899 : decode cL_law_ 899 = .ok (.iconst 0, 1) := by decide +kernel
theorem dL_law__900 : decode cL_law_ 900 = .ok (.ireturn, 1) := by decide +kernel
theorem dL_law__901 : decode cL_law_ 901 = .ok (.iload 5, 2) := by decide +kernel
theorem dL_law__903 : decode cL_law_ 903 = .ok (.ifCond .ne 15, 3) := by decide +kernel
theorem dL_law__906 : decode cL_law_ 906 = .ok (.aload_n 3, 1) := by decide +kernel
theorem dL_law__907 : decode cL_law_ 907 = .ok (.iconst 0, 1) := by decide +kernel
theorem dL_law__908 : decode cL_law_ 908 = .ok (.laload, 1) := by decide +kernel
theorem dL_law__909 : decode cL_law_ 909 = .ok (.iload 6, 2) := by decide +kernel
theorem dL_law__911 : decode cL_law_ 911 = .ok (.i2l, 1) := by decide +kernel
theorem dL_law__912 : decode cL_law_ 912 = .ok (.lcmp, 1) := by decide +kernel
theorem dL_law__913 : decode cL_law_ 913 = .ok (.ifCond .eq 5, 3) := by decide +kernel
theorem dL_law__916 : decode cL_law_ 916 = .ok (.iconst 0, 1) := by decide +kernel
theorem dL_law__917 : decode cL_law_ 917 = .ok (.ireturn, 1) := by decide +kernel
theorem dL_law__918 : decode cL_law_ 918 = .ok (.goto 1400, 3) := by decide +kernel
theorem dL_law__921 : decode cL_law_ 921 = .ok (.aload_n 1, 1) := by decide +kernel
theorem dL_law__922 : decode cL_law_ 922 = .ok (.aload_n 3, 1) := by decide +kernel
theorem dL_law__923 : decode cL_law_ 923 = .ok (.invokestatic 167, 3) := by decide +kernel
theorem dL_law__926 : decode cL_law_ 926 = .ok (.istore 5, 2) := by decide +kernel
theorem dL_law__928 : decode cL_law_ 928 = .ok (.aload_n 2, 1) := by decide +kernel
theorem dL_law__929 : decode cL_law_ 929 = .ok (.invokevirtual 169, 3) := by decide +kernel
theorem dL_law__932 : decode cL_law_ 932 = .ok (.istore 6, 2) := by decide +kernel
theorem dL_law__934 : decode cL_law_ 934 = .ok (.aload_n 2, 1) := by decide +kernel
theorem dL_law__935 : decode cL_law_ 935 = .ok (.invokevirtual 125, 3) := by decide +kernel
theorem dL_law__938 : decode cL_law_ 938 = .ok (.iload 5, 2) := by decide +kernel
theorem dL_law__940 : decode cL_law_ 940 = .ok (.if_icmp .eq 5, 3) := by decide +kernel
theorem dL_law__943 : decode cL_law_ 943 = .ok (.iconst 0, 1) := by decide +kernel
theorem dL_law__944 : decode cL_law_ 944 = .ok (.ireturn, 1) := by decide +kernel
theorem dL_law__945 : decode cL_law_ 945 = .ok (.iload 5, 2) := by decide +kernel
theorem dL_law__947 : decode cL_law_ 947 = .ok (.ifCond .ne 15, 3) := by decide +kernel
theorem dL_law__950 : decode cL_law_ 950 = .ok (.aload_n 3, 1) := by decide +kernel
theorem dL_law__951 : decode cL_law_ 951 = .ok (.iconst 0, 1) := by decide +kernel
theorem dL_law__952 : decode cL_law_ 952 = .ok (.laload, 1) := by decide +kernel
theorem dL_law__953 : decode cL_law_ 953 = .ok (.iload 6, 2) := by decide +kernel
theorem dL_law__955 : decode cL_law_ 955 = .ok (.i2l, 1) := by decide +kernel
theorem dL_law__956 : decode cL_law_ 956 = .ok (.lcmp, 1) := by decide +kernel
theorem dL_law__957 : decode cL_law_ 957 = .ok (.ifCond .eq 5, 3) := by decide +kernel
theorem dL_law__960 : decode cL_law_ 960 = .ok (.iconst 0, 1) := by decide +kernel
theorem dL_law__961 : decode cL_law_ 961 = .ok (.ireturn, 1) := by decide +kernel
theorem dL_law__962 : decode cL_law_ 962 = .ok (.goto 1356, 3) := by decide +kernel
theorem dL_law__965 : decode cL_law_ 965 = .ok (.aload_n 1, 1) := by decide +kernel
theorem dL_law__966 : decode cL_law_ 966 = .ok (.aload_n 3, 1) := by decide +kernel
theorem dL_law__967 : decode cL_law_ 967 = .ok (.invokestatic 170, 3) := by decide +kernel
theorem dL_law__970 : decode cL_law_ 970 = .ok (.istore 5, 2) := by decide +kernel
theorem dL_law__972 : decode cL_law_ 972 = .ok (.aload_n 2, 1) := by decide +kernel
theorem dL_law__973 : decode cL_law_ 973 = .ok (.invokevirtual 172, 3) := by decide +kernel
theorem dL_law__976 : decode cL_law_ 976 = .ok (.istore 6, 2) := by decide +kernel
theorem dL_law__978 : decode cL_law_ 978 = .ok (.aload_n 2, 1) := by decide +kernel
theorem dL_law__979 : decode cL_law_ 979 = .ok (.invokevirtual 125, 3) := by decide +kernel
theorem dL_law__982 : decode cL_law_ 982 = .ok (.iload 5, 2) := by decide +kernel
theorem dL_law__984 : decode cL_law_ 984 = .ok (.if_icmp .eq 5, 3) := by decide +kernel
theorem dL_law__987 : decode cL_law_ 987 = .ok (.iconst 0, 1) := by decide +kernel
theorem dL_law__988 : decode cL_law_ 988 = .ok (.ireturn, 1) := by decide +kernel
theorem dL_law__989 : decode cL_law_ 989 = .ok (.iload 5, 2) := by decide +kernel
theorem dL_law__991 : decode cL_law_ 991 = .ok (.ifCond .ne 15, 3) := by decide +kernel
theorem dL_law__994 : decode cL_law_ 994 = .ok (.aload_n 3, 1) := by decide +kernel
theorem dL_law__995 : decode cL_law_ 995 = .ok (.iconst 0, 1) := by decide +kernel
theorem dL_law__996 : decode cL_law_ 996 = .ok (.laload, 1) := by decide +kernel
theorem dL_law__997 : decode cL_law_ 997 = .ok (.iload 6, 2) := by decide +kernel
theorem dL_law__999 : decode cL_law_ 999 = .ok (.i2l, 1) := by decide +kernel
theorem dL_law__1000 : decode cL_law_ 1000 = .ok (.lcmp, 1) := by decide +kernel
theorem dL_law__1001 : decode cL_law_ 1001 = .ok (.ifCond .eq 5, 3) := by decide +kernel
theorem dL_law__1004 : decode cL_law_ 1004 = .ok (.iconst 0, 1) := by decide +kernel
theorem dL_law__1005 : decode cL_law_ 1005 = .ok (.ireturn, 1) := by decide +kernel
theorem dL_law__1006 : decode cL_law_ 1006 = .ok (.goto 1312, 3) := by decide +kernel
theorem dL_law__1009 : decode cL_law_ 1009 = .ok (.aload_n 1, 1) := by decide +kernel
theorem dL_law__1010 : decode cL_law_ 1010 = .ok (.aload_n 3, 1) := by decide +kernel
theorem dL_law__1011 : decode cL_law_ 1011 = .ok (.invokestatic 173, 3) := by decide +kernel
theorem dL_law__1014 : decode cL_law_ 1014 = .ok (.istore 5, 2) := by decide +kernel
theorem dL_law__1016 : decode cL_law_ 1016 = .ok (.aload_n 2, 1) := by decide +kernel
theorem dL_law__1017 : decode cL_law_ 1017 = .ok (.invokevirtual 175, 3) := by decide +kernel
theorem dL_law__1020 : decode cL_law_ 1020 = .ok (.istore 6, 2) := by decide +kernel
theorem dL_law__1022 : decode cL_law_ 1022 = .ok (.aload_n 2, 1) := by decide +kernel
theorem dL_law__1023 : decode cL_law_ 1023 = .ok (.invokevirtual 125, 3) := by decide +kernel
theorem dL_law__1026 : decode cL_law_ 1026 = .ok (.iload 5, 2) := by decide +kernel
theorem dL_law__1028 : decode cL_law_ 1028 = .ok (.if_icmp .eq 5, 3) := by decide +kernel
theorem dL_law__1031 : decode cL_law_ 1031 = .ok (.iconst 0, 1) := by decide +kernel
theorem dL_law__1032 : decode cL_law_ 1032 = .ok (.ireturn, 1) := by decide +kernel
theorem dL_law__1033 : decode cL_law_ 1033 = .ok (.iload 5, 2) := by decide +kernel
theorem dL_law__1035 : decode cL_law_ 1035 = .ok (.ifCond .ne 15, 3) := by decide +kernel
theorem dL_law__1038 : decode cL_law_ 1038 = .ok (.aload_n 3, 1) := by decide +kernel
theorem dL_law__1039 : decode cL_law_ 1039 = .ok (.iconst 0, 1) := by decide +kernel
theorem dL_law__1040 : decode cL_law_ 1040 = .ok (.laload, 1) := by decide +kernel
theorem dL_law__1041 : decode cL_law_ 1041 = .ok (.iload 6, 2) := by decide +kernel
theorem dL_law__1043 : decode cL_law_ 1043 = .ok (.i2l, 1) := by decide +kernel
theorem dL_law__1044 : decode cL_law_ 1044 = .ok (.lcmp, 1) := by decide +kernel
theorem dL_law__1045 : decode cL_law_ 1045 = .ok (.ifCond .eq 5, 3) := by decide +kernel
theorem dL_law__1048 : decode cL_law_ 1048 = .ok (.iconst 0, 1) := by decide +kernel
theorem dL_law__1049 : decode cL_law_ 1049 = .ok (.ireturn, 1) := by decide +kernel
theorem dL_law__1050 : decode cL_law_ 1050 = .ok (.goto 1268, 3) := by decide +kernel
theorem dL_law__1053 : decode cL_law_ 1053 = .ok (.aload_n 1, 1) := by decide +kernel
theorem dL_law__1054 : decode cL_law_ 1054 = .ok (.aload_n 0, 1) := by decide +kernel
theorem dL_law__1055 : decode cL_law_ 1055 = .ok (.iload 4, 2) := by decide +kernel
theorem dL_law__1057 : decode cL_law_ 1057 = .ok (.iconst 1, 1) := by decide +kernel
theorem dL_law__1058 : decode cL_law_ 1058 = .ok (.iadd, 1) := by decide +kernel
theorem dL_law__1059 : decode cL_law_ 1059 = .ok (.iaload, 1) := by decide +kernel
theorem dL_law__1060 : decode cL_law_ 1060 = .ok (.ifCond .eq 7, 3) := by decide +kernel
theorem dL_law__1063 : decode cL_law_ 1063 = .ok (.iconst 1, 1) := by decide +kernel
theorem dL_law__1064 : decode cL_law_ 1064 = .ok (.goto 4, 3) := by decide +kernel
theorem dL_law__1067 : decode cL_law_ 1067 = .ok (.iconst 0, 1) := by decide +kernel
theorem dL_law__1068 : decode cL_law_ 1068 = .ok (.invokevirtual 176, 3) := by decide +kernel
theorem dL_law__1071 : decode cL_law_ 1071 = .ok (.aload_n 2, 1) := by decide +kernel
theorem dL_law__1072 : decode cL_law_ 1072 = .ok (.aload_n 0, 1) := by decide +kernel
theorem dL_law__1073 : decode cL_law_ 1073 = .ok (.iload 4, 2) := by decide +kernel
theorem dL_law__1075 : decode cL_law_ 1075 = .ok (.iconst 1, 1) := by decide +kernel
theorem dL_law__1076 : decode cL_law_ 1076 = .ok (.iadd, 1) := by decide +kernel
theorem dL_law__1077 : decode cL_law_ 1077 = .ok (.iaload, 1) := by decide +kernel
theorem dL_law__1078 : decode cL_law_ 1078 = .ok (.ifCond .eq 7, 3) := by decide +kernel
theorem dL_law__1081 : decode cL_law_ 1081 = .ok (.iconst 1, 1) := by decide +kernel
theorem dL_law__1082 : decode cL_law_ 1082 = .ok (.goto 4, 3) := by decide +kernel
theorem dL_law__1085 : decode cL_law_ 1085 = .ok (.iconst 0, 1) := by decide +kernel
theorem dL_law__1086 : decode cL_law_ 1086 = .ok (.invokevirtual 180, 3) := by decide +kernel
theorem dL_law__1089 : decode cL_law_ 1089 = .ok (.if_icmp .eq 1229, 3) := by decide +kernel
theorem dL_law__1092 : decode cL_law_ 1092 = .ok (.iconst 0, 1) := by decide +kernel
theorem dL_law__1093 : decode cL_law_ 1093 = .ok (.ireturn, 1) := by decide +kernel
theorem dL_law__1094 : decode cL_law_ 1094 = .ok (.aload_n 1, 1) := by decide +kernel
theorem dL_law__1095 : decode cL_law_ 1095 = .ok (.aload_n 0, 1) := by decide +kernel
theorem dL_law__1096 : decode cL_law_ 1096 = .ok (.iload 4, 2) := by decide +kernel
theorem dL_law__1098 : decode cL_law_ 1098 = .ok (.iconst 1, 1) := by decide +kernel
theorem dL_law__1099 : decode cL_law_ 1099 = .ok (.iadd, 1) := by decide +kernel
theorem dL_law__1100 : decode cL_law_ 1100 = .ok (.iaload, 1) := by decide +kernel
theorem dL_law__1101 : decode cL_law_ 1101 = .ok (.aload_n 0, 1) := by decide +kernel
theorem dL_law__1102 : decode cL_law_ 1102 = .ok (.iload 4, 2) := by decide +kernel
theorem dL_law__1104 : decode cL_law_ 1104 = .ok (.iconst 2, 1) := by decide +kernel
theorem dL_law__1105 : decode cL_law_ 1105 = .ok (.iadd, 1) := by decide +kernel
theorem dL_law__1106 : decode cL_law_ 1106 = .ok (.iaload, 1) := by decide +kernel
theorem dL_law__1107 : decode cL_law_ 1107 = .ok (.aload_n 3, 1) := by decide +kernel
theorem dL_law__1108 : decode cL_law_ 1108 = .ok (.invokestatic 181, 3) := by decide +kernel
theorem dL_law__1111 : decode cL_law_ 1111 = .ok (.istore 5, 2) := by decide +kernel
theorem dL_law__1113 : decode cL_law_ 1113 = .ok (.aload_n 2, 1) := by decide +kernel
theorem dL_law__1114 : decode cL_law_ 1114 = .ok (.aload_n 0, 1) := by decide +kernel
theorem dL_law__1115 : decode cL_law_ 1115 = .ok (.iload 4, 2) := by decide +kernel
theorem dL_law__1117 : decode cL_law_ 1117 = .ok (.iconst 1, 1) := by decide +kernel
theorem dL_law__1118 : decode cL_law_ 1118 = .ok (.iadd, 1) := by decide +kernel
theorem dL_law__1119 : decode cL_law_ 1119 = .ok (.iaload, 1) := by decide +kernel
theorem dL_law__1120 : decode cL_law_ 1120 = .ok (.aload_n 0, 1) := by decide +kernel
theorem dL_law__1121 : decode cL_law_ 1121 = .ok (.iload 4, 2) := by decide +kernel
theorem dL_law__1123 : decode cL_law_ 1123 = .ok (.iconst 2, 1) := by decide +kernel
theorem dL_law__1124 : decode cL_law_ 1124 = .ok (.iadd, 1) := by decide +kernel
theorem dL_law__1125 : decode cL_law_ 1125 = .ok (.iaload, 1) := by decide +kernel
theorem dL_law__1126 : decode cL_law_ 1126 = .ok (.invokevirtual 183, 3) := by decide +kernel
theorem dL_law__1129 : decode cL_law_ 1129 = .ok (.istore 6, 2) := by decide +kernel
theorem dL_law__1131 : decode cL_law_ 1131 = .ok (.aload_n 2, 1) := by decide +kernel
theorem dL_law__1132 : decode cL_law_ 1132 = .ok (.invokevirtual 125, 3) := by decide +kernel
theorem dL_law__1135 : decode cL_law_ 1135 = .ok (.iload 5, 2) := by decide +kernel
theorem dL_law__1137 : decode cL_law_ 1137 = .ok (.if_icmp .eq 5, 3) := by decide +kernel
theorem dL_law__1140 : decode cL_law_ 1140 = .ok (.iconst 0, 1) := by decide +kernel
theorem dL_law__1141 : decode cL_law_ 1141 = .ok (.ireturn, 1) := by decide +kernel
theorem dL_law__1142 : decode cL_law_ 1142 = .ok (.iload 5, 2) := by decide +kernel
theorem dL_law__1144 : decode cL_law_ 1144 = .ok (.ifCond .ne 15, 3) := by decide +kernel
theorem dL_law__1147 : decode cL_law_ 1147 = .ok (.aload_n 3, 1) := by decide +kernel
theorem dL_law__1148 : decode cL_law_ 1148 = .ok (.iconst 0, 1) := by decide +kernel
theorem dL_law__1149 : decode cL_law_ 1149 = .ok (.laload, 1) := by decide +kernel
theorem dL_law__1150 : decode cL_law_ 1150 = .ok (.iload 6, 2) := by decide +kernel
theorem dL_law__1152 : decode cL_law_ 1152 = .ok (.i2l, 1) := by decide +kernel
theorem dL_law__1153 : decode cL_law_ 1153 = .ok (.lcmp, 1) := by decide +kernel
theorem dL_law__1154 : decode cL_law_ 1154 = .ok (.ifCond .eq 5, 3) := by decide +kernel
theorem dL_law__1157 : decode cL_law_ 1157 = .ok (.iconst 0, 1) := by decide +kernel
theorem dL_law__1158 : decode cL_law_ 1158 = .ok (.ireturn, 1) := by decide +kernel
theorem dL_law__1159 : decode cL_law_ 1159 = .ok (.goto 1159, 3) := by decide +kernel
theorem dL_law__1162 : decode cL_law_ 1162 = .ok (.aload_n 1, 1) := by decide +kernel
theorem dL_law__1163 : decode cL_law_ 1163 = .ok (.aload_n 0, 1) := by decide +kernel
theorem dL_law__1164 : decode cL_law_ 1164 = .ok (.iload 4, 2) := by decide +kernel
theorem dL_law__1166 : decode cL_law_ 1166 = .ok (.iconst 1, 1) := by decide +kernel
theorem dL_law__1167 : decode cL_law_ 1167 = .ok (.iadd, 1) := by decide +kernel
theorem dL_law__1168 : decode cL_law_ 1168 = .ok (.iaload, 1) := by decide +kernel
theorem dL_law__1169 : decode cL_law_ 1169 = .ok (.aload_n 3, 1) := by decide +kernel
theorem dL_law__1170 : decode cL_law_ 1170 = .ok (.invokestatic 184, 3) := by decide +kernel
theorem dL_law__1173 : decode cL_law_ 1173 = .ok (.istore 5, 2) := by decide +kernel
theorem dL_law__1175 : decode cL_law_ 1175 = .ok (.aload_n 2, 1) := by decide +kernel
theorem dL_law__1176 : decode cL_law_ 1176 = .ok (.aload_n 0, 1) := by decide +kernel
theorem dL_law__1177 : decode cL_law_ 1177 = .ok (.iload 4, 2) := by decide +kernel
theorem dL_law__1179 : decode cL_law_ 1179 = .ok (.iconst 1, 1) := by decide +kernel
theorem dL_law__1180 : decode cL_law_ 1180 = .ok (.iadd, 1) := by decide +kernel
theorem dL_law__1181 : decode cL_law_ 1181 = .ok (.iaload, 1) := by decide +kernel
theorem dL_law__1182 : decode cL_law_ 1182 = .ok (.invokevirtual 186, 3) := by decide +kernel
theorem dL_law__1185 : decode cL_law_ 1185 = .ok (.istore 6, 2) := by decide +kernel
theorem dL_law__1187 : decode cL_law_ 1187 = .ok (.aload_n 2, 1) := by decide +kernel
theorem dL_law__1188 : decode cL_law_ 1188 = .ok (.invokevirtual 125, 3) := by decide +kernel
theorem dL_law__1191 : decode cL_law_ 1191 = .ok (.iload 5, 2) := by decide +kernel
theorem dL_law__1193 : decode cL_law_ 1193 = .ok (.if_icmp .eq 5, 3) := by decide +kernel
theorem dL_law__1196 : decode cL_law_ 1196 = .ok (.iconst 0, 1) := by decide +kernel
theorem dL_law__1197 : decode cL_law_ 1197 = .ok (.ireturn, 1) := by decide +kernel
theorem dL_law__1198 : decode cL_law_ 1198 = .ok (.iload 5, 2) := by decide +kernel
theorem dL_law__1200 : decode cL_law_ 1200 = .ok (.ifCond .ne 15, 3) := by decide +kernel
theorem dL_law__1203 : decode cL_law_ 1203 = .ok (.aload_n 3, 1) := by decide +kernel
theorem dL_law__1204 : decode cL_law_ 1204 = .ok (.iconst 0, 1) := by decide +kernel
theorem dL_law__1205 : decode cL_law_ 1205 = .ok (.laload, 1) := by decide +kernel
theorem dL_law__1206 : decode cL_law_ 1206 = .ok (.iload 6, 2) := by decide +kernel
theorem dL_law__1208 : decode cL_law_ 1208 = .ok (.i2l, 1) := by decide +kernel
theorem dL_law__1209 : decode cL_law_ 1209 = .ok (.lcmp, 1) := by decide +kernel
theorem dL_law__1210 : decode cL_law_ 1210 = .ok (.ifCond .eq 5, 3) := by decide +kernel
theorem dL_law__1213 : decode cL_law_ 1213 = .ok (.iconst 0, 1) := by decide +kernel
theorem dL_law__1214 : decode cL_law_ 1214 = .ok (.ireturn, 1) := by decide +kernel
theorem dL_law__1215 : decode cL_law_ 1215 = .ok (.goto 1103, 3) := by decide +kernel
theorem dL_law__1218 : decode cL_law_ 1218 = .ok (.aload_n 1, 1) := by decide +kernel
theorem dL_law__1219 : decode cL_law_ 1219 = .ok (.aload_n 0, 1) := by decide +kernel
theorem dL_law__1220 : decode cL_law_ 1220 = .ok (.iload 4, 2) := by decide +kernel
theorem dL_law__1222 : decode cL_law_ 1222 = .ok (.iconst 1, 1) := by decide +kernel
theorem dL_law__1223 : decode cL_law_ 1223 = .ok (.iadd, 1) := by decide +kernel
theorem dL_law__1224 : decode cL_law_ 1224 = .ok (.iaload, 1) := by decide +kernel
theorem dL_law__1225 : decode cL_law_ 1225 = .ok (.aload_n 3, 1) := by decide +kernel
theorem dL_law__1226 : decode cL_law_ 1226 = .ok (.invokestatic 187, 3) := by decide +kernel
theorem dL_law__1229 : decode cL_law_ 1229 = .ok (.istore 5, 2) := by decide +kernel
theorem dL_law__1231 : decode cL_law_ 1231 = .ok (.aload_n 2, 1) := by decide +kernel
theorem dL_law__1232 : decode cL_law_ 1232 = .ok (.aload_n 0, 1) := by decide +kernel
theorem dL_law__1233 : decode cL_law_ 1233 = .ok (.iload 4, 2) := by decide +kernel
theorem dL_law__1235 : decode cL_law_ 1235 = .ok (.iconst 1, 1) := by decide +kernel
theorem dL_law__1236 : decode cL_law_ 1236 = .ok (.iadd, 1) := by decide +kernel
theorem dL_law__1237 : decode cL_law_ 1237 = .ok (.iaload, 1) := by decide +kernel
theorem dL_law__1238 : decode cL_law_ 1238 = .ok (.invokevirtual 189, 3) := by decide +kernel
theorem dL_law__1241 : decode cL_law_ 1241 = .ok (.istore 6, 2) := by decide +kernel
theorem dL_law__1243 : decode cL_law_ 1243 = .ok (.aload_n 2, 1) := by decide +kernel
theorem dL_law__1244 : decode cL_law_ 1244 = .ok (.invokevirtual 125, 3) := by decide +kernel
theorem dL_law__1247 : decode cL_law_ 1247 = .ok (.iload 5, 2) := by decide +kernel
theorem dL_law__1249 : decode cL_law_ 1249 = .ok (.if_icmp .eq 5, 3) := by decide +kernel
