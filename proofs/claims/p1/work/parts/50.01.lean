theorem dL_law_909 : decode cL_law 909 = .ok (.aload_n 1, 1) := by decide +kernel
theorem dL_law_910 : decode cL_law 910 = .ok (.aload_n 0, 1) := by decide +kernel
theorem dL_law_911 : decode cL_law 911 = .ok (.iload 4, 2) := by decide +kernel
theorem dL_law_913 : decode cL_law 913 = .ok (.iconst 1, 1) := by decide +kernel
theorem dL_law_914 : decode cL_law 914 = .ok (.iadd, 1) := by decide +kernel
theorem dL_law_915 : decode cL_law 915 = .ok (.iaload, 1) := by decide +kernel
theorem dL_law_916 : decode cL_law 916 = .ok (.aload_n 3, 1) := by decide +kernel
theorem dL_law_917 : decode cL_law 917 = .ok (.invokestatic 175, 3) := by decide +kernel
theorem dL_law_920 : decode cL_law 920 = .ok (.istore 5, 2) := by decide +kernel
theorem dL_law_922 : decode cL_law 922 = .ok (.aload_n 2, 1) := by decide +kernel
theorem dL_law_923 : decode cL_law 923 = .ok (.aload_n 0, 1) := by decide +kernel
theorem dL_law_924 : decode cL_law 924 = .ok (.iload 4, 2) := by decide +kernel
theorem dL_law_926 : decode cL_law 926 = .ok (.iconst 1, 1) := by decide +kernel
theorem dL_law_927 : decode cL_law 927 = .ok (.iadd, 1) := by decide +kernel
theorem dL_law_928 : decode cL_law 928 = .ok (.iaload, 1) := by decide +kernel
theorem dL_law_929 : decode cL_law 929 = .ok (.invokevirtual 177, 3) := by decide +kernel
theorem dL_law_932 : decode cL_law 932 = .ok (.istore 6, 2) := by decide +kernel
theorem dL_law_934 : decode cL_law 934 = .ok (.aload_n 2, 1) := by decide +kernel
theorem dL_law_935 : decode cL_law 935 = .ok (.invokevirtual 132, 3) := by decide +kernel
theorem dL_law_938 : decode cL_law 938 = .ok (.iload 5, 2) := by decide +kernel
theorem dL_law_940 : decode cL_law 940 = .ok (.if_icmp .eq 5, 3) := by decide +kernel
theorem dL_law_945 : decode cL_law 945 = .ok (.iload 5, 2) := by decide +kernel
theorem dL_law_947 : decode cL_law 947 = .ok (.ifCond .ne 15, 3) := by decide +kernel
theorem dL_law_962 : decode cL_law 962 = .ok (.goto 1496, 3) := by decide +kernel
theorem dL_law_965 : decode cL_law 965 = .ok (.aload_n 1, 1) := by decide +kernel
theorem dL_law_966 : decode cL_law 966 = .ok (.aload_n 0, 1) := by decide +kernel
theorem dL_law_967 : decode cL_law 967 = .ok (.iload 4, 2) := by decide +kernel
theorem dL_law_969 : decode cL_law 969 = .ok (.iconst 1, 1) := by decide +kernel
theorem dL_law_970 : decode cL_law 970 = .ok (.iadd, 1) := by decide +kernel
theorem dL_law_971 : decode cL_law 971 = .ok (.iaload, 1) := by decide +kernel
theorem dL_law_972 : decode cL_law 972 = .ok (.aload_n 0, 1) := by decide +kernel
theorem dL_law_973 : decode cL_law 973 = .ok (.iload 4, 2) := by decide +kernel
theorem dL_law_975 : decode cL_law 975 = .ok (.iconst 2, 1) := by decide +kernel
theorem dL_law_976 : decode cL_law 976 = .ok (.iadd, 1) := by decide +kernel
theorem dL_law_977 : decode cL_law 977 = .ok (.iaload, 1) := by decide +kernel
theorem dL_law_978 : decode cL_law 978 = .ok (.aload_n 3, 1) := by decide +kernel
theorem dL_law_979 : decode cL_law 979 = .ok (.invokestatic 178, 3) := by decide +kernel
theorem dL_law_982 : decode cL_law 982 = .ok (.istore 5, 2) := by decide +kernel
theorem dL_law_984 : decode cL_law 984 = .ok (.aload_n 2, 1) := by decide +kernel
theorem dL_law_985 : decode cL_law 985 = .ok (.aload_n 0, 1) := by decide +kernel
theorem dL_law_986 : decode cL_law 986 = .ok (.iload 4, 2) := by decide +kernel
theorem dL_law_988 : decode cL_law 988 = .ok (.iconst 1, 1) := by decide +kernel
theorem dL_law_989 : decode cL_law 989 = .ok (.iadd, 1) := by decide +kernel
theorem dL_law_990 : decode cL_law 990 = .ok (.iaload, 1) := by decide +kernel
theorem dL_law_991 : decode cL_law 991 = .ok (.aload_n 0, 1) := by decide +kernel
theorem dL_law_992 : decode cL_law 992 = .ok (.iload 4, 2) := by decide +kernel
theorem dL_law_994 : decode cL_law 994 = .ok (.iconst 2, 1) := by decide +kernel
theorem dL_law_995 : decode cL_law 995 = .ok (.iadd, 1) := by decide +kernel
theorem dL_law_996 : decode cL_law 996 = .ok (.iaload, 1) := by decide +kernel
theorem dL_law_997 : decode cL_law 997 = .ok (.invokevirtual 180, 3) := by decide +kernel
theorem dL_law_1000 : decode cL_law 1000 = .ok (.istore 6, 2) := by decide +kernel
theorem dL_law_1002 : decode cL_law 1002 = .ok (.aload_n 2, 1) := by decide +kernel
theorem dL_law_1003 : decode cL_law 1003 = .ok (.invokevirtual 132, 3) := by decide +kernel
theorem dL_law_1006 : decode cL_law 1006 = .ok (.iload 5, 2) := by decide +kernel
theorem dL_law_1008 : decode cL_law 1008 = .ok (.if_icmp .eq 5, 3) := by decide +kernel
theorem dL_law_1013 : decode cL_law 1013 = .ok (.iload 5, 2) := by decide +kernel
theorem dL_law_1015 : decode cL_law 1015 = .ok (.ifCond .ne 15, 3) := by decide +kernel
theorem dL_law_1030 : decode cL_law 1030 = .ok (.goto 1428, 3) := by decide +kernel
theorem dL_law_1033 : decode cL_law 1033 = .ok (.aload_n 1, 1) := by decide +kernel
theorem dL_law_1034 : decode cL_law 1034 = .ok (.aload_n 0, 1) := by decide +kernel
theorem dL_law_1035 : decode cL_law 1035 = .ok (.iload 4, 2) := by decide +kernel
theorem dL_law_1037 : decode cL_law 1037 = .ok (.iconst 1, 1) := by decide +kernel
theorem dL_law_1038 : decode cL_law 1038 = .ok (.iadd, 1) := by decide +kernel
theorem dL_law_1039 : decode cL_law 1039 = .ok (.iaload, 1) := by decide +kernel
theorem dL_law_1040 : decode cL_law 1040 = .ok (.aload_n 3, 1) := by decide +kernel
theorem dL_law_1041 : decode cL_law 1041 = .ok (.invokestatic 181, 3) := by decide +kernel
theorem dL_law_1044 : decode cL_law 1044 = .ok (.istore 5, 2) := by decide +kernel
theorem dL_law_1046 : decode cL_law 1046 = .ok (.aload_n 2, 1) := by decide +kernel
theorem dL_law_1047 : decode cL_law 1047 = .ok (.aload_n 0, 1) := by decide +kernel
theorem dL_law_1048 : decode cL_law 1048 = .ok (.iload 4, 2) := by decide +kernel
theorem dL_law_1050 : decode cL_law 1050 = .ok (.iconst 1, 1) := by decide +kernel
theorem dL_law_1051 : decode cL_law 1051 = .ok (.iadd, 1) := by decide +kernel
theorem dL_law_1052 : decode cL_law 1052 = .ok (.iaload, 1) := by decide +kernel
theorem dL_law_1053 : decode cL_law 1053 = .ok (.invokevirtual 183, 3) := by decide +kernel
theorem dL_law_1056 : decode cL_law 1056 = .ok (.istore 6, 2) := by decide +kernel
theorem dL_law_1058 : decode cL_law 1058 = .ok (.aload_n 2, 1) := by decide +kernel
theorem dL_law_1059 : decode cL_law 1059 = .ok (.invokevirtual 132, 3) := by decide +kernel
theorem dL_law_1062 : decode cL_law 1062 = .ok (.iload 5, 2) := by decide +kernel
theorem dL_law_1064 : decode cL_law 1064 = .ok (.if_icmp .eq 5, 3) := by decide +kernel
theorem dL_law_1069 : decode cL_law 1069 = .ok (.iload 5, 2) := by decide +kernel
theorem dL_law_1071 : decode cL_law 1071 = .ok (.ifCond .ne 15, 3) := by decide +kernel
theorem dL_law_1086 : decode cL_law 1086 = .ok (.goto 1372, 3) := by decide +kernel
theorem dL_law_1089 : decode cL_law 1089 = .ok (.aload_n 1, 1) := by decide +kernel
theorem dL_law_1090 : decode cL_law 1090 = .ok (.aload_n 0, 1) := by decide +kernel
theorem dL_law_1091 : decode cL_law 1091 = .ok (.iload 4, 2) := by decide +kernel
theorem dL_law_1093 : decode cL_law 1093 = .ok (.iconst 1, 1) := by decide +kernel
theorem dL_law_1094 : decode cL_law 1094 = .ok (.iadd, 1) := by decide +kernel
theorem dL_law_1095 : decode cL_law 1095 = .ok (.iaload, 1) := by decide +kernel
theorem dL_law_1096 : decode cL_law 1096 = .ok (.aload_n 0, 1) := by decide +kernel
theorem dL_law_1097 : decode cL_law 1097 = .ok (.iload 4, 2) := by decide +kernel
theorem dL_law_1099 : decode cL_law 1099 = .ok (.iconst 2, 1) := by decide +kernel
theorem dL_law_1100 : decode cL_law 1100 = .ok (.iadd, 1) := by decide +kernel
theorem dL_law_1101 : decode cL_law 1101 = .ok (.iaload, 1) := by decide +kernel
theorem dL_law_1102 : decode cL_law 1102 = .ok (.aload_n 3, 1) := by decide +kernel
theorem dL_law_1103 : decode cL_law 1103 = .ok (.invokestatic 184, 3) := by decide +kernel
theorem dL_law_1106 : decode cL_law 1106 = .ok (.istore 5, 2) := by decide +kernel
theorem dL_law_1108 : decode cL_law 1108 = .ok (.aload_n 2, 1) := by decide +kernel
theorem dL_law_1109 : decode cL_law 1109 = .ok (.aload_n 0, 1) := by decide +kernel
theorem dL_law_1110 : decode cL_law 1110 = .ok (.iload 4, 2) := by decide +kernel
theorem dL_law_1112 : decode cL_law 1112 = .ok (.iconst 1, 1) := by decide +kernel
theorem dL_law_1113 : decode cL_law 1113 = .ok (.iadd, 1) := by decide +kernel
theorem dL_law_1114 : decode cL_law 1114 = .ok (.iaload, 1) := by decide +kernel
theorem dL_law_1115 : decode cL_law 1115 = .ok (.aload_n 0, 1) := by decide +kernel
theorem dL_law_1116 : decode cL_law 1116 = .ok (.iload 4, 2) := by decide +kernel
theorem dL_law_1118 : decode cL_law 1118 = .ok (.iconst 2, 1) := by decide +kernel
theorem dL_law_1119 : decode cL_law 1119 = .ok (.iadd, 1) := by decide +kernel
theorem dL_law_1120 : decode cL_law 1120 = .ok (.iaload, 1) := by decide +kernel
theorem dL_law_1121 : decode cL_law 1121 = .ok (.invokevirtual 186, 3) := by decide +kernel
theorem dL_law_1124 : decode cL_law 1124 = .ok (.istore 6, 2) := by decide +kernel
theorem dL_law_1126 : decode cL_law 1126 = .ok (.aload_n 2, 1) := by decide +kernel
theorem dL_law_1127 : decode cL_law 1127 = .ok (.invokevirtual 132, 3) := by decide +kernel
theorem dL_law_1130 : decode cL_law 1130 = .ok (.iload 5, 2) := by decide +kernel
theorem dL_law_1132 : decode cL_law 1132 = .ok (.if_icmp .eq 5, 3) := by decide +kernel
theorem dL_law_1137 : decode cL_law 1137 = .ok (.iload 5, 2) := by decide +kernel
theorem dL_law_1139 : decode cL_law 1139 = .ok (.ifCond .ne 15, 3) := by decide +kernel
theorem dL_law_1154 : decode cL_law 1154 = .ok (.goto 1304, 3) := by decide +kernel
theorem dL_law_1157 : decode cL_law 1157 = .ok (.aload_n 1, 1) := by decide +kernel
theorem dL_law_1158 : decode cL_law 1158 = .ok (.aload_n 0, 1) := by decide +kernel
theorem dL_law_1159 : decode cL_law 1159 = .ok (.iload 4, 2) := by decide +kernel
theorem dL_law_1161 : decode cL_law 1161 = .ok (.iconst 1, 1) := by decide +kernel
theorem dL_law_1162 : decode cL_law 1162 = .ok (.iadd, 1) := by decide +kernel
theorem dL_law_1163 : decode cL_law 1163 = .ok (.iaload, 1) := by decide +kernel
theorem dL_law_1164 : decode cL_law 1164 = .ok (.aload_n 3, 1) := by decide +kernel
theorem dL_law_1165 : decode cL_law 1165 = .ok (.invokestatic 187, 3) := by decide +kernel
theorem dL_law_1168 : decode cL_law 1168 = .ok (.istore 5, 2) := by decide +kernel
theorem dL_law_1170 : decode cL_law 1170 = .ok (.aload_n 2, 1) := by decide +kernel
theorem dL_law_1171 : decode cL_law 1171 = .ok (.aload_n 0, 1) := by decide +kernel
theorem dL_law_1172 : decode cL_law 1172 = .ok (.iload 4, 2) := by decide +kernel
theorem dL_law_1174 : decode cL_law 1174 = .ok (.iconst 1, 1) := by decide +kernel
theorem dL_law_1175 : decode cL_law 1175 = .ok (.iadd, 1) := by decide +kernel
theorem dL_law_1176 : decode cL_law 1176 = .ok (.iaload, 1) := by decide +kernel
theorem dL_law_1177 : decode cL_law 1177 = .ok (.invokevirtual 189, 3) := by decide +kernel
theorem dL_law_1180 : decode cL_law 1180 = .ok (.istore 6, 2) := by decide +kernel
theorem dL_law_1182 : decode cL_law 1182 = .ok (.aload_n 2, 1) := by decide +kernel
theorem dL_law_1183 : decode cL_law 1183 = .ok (.invokevirtual 132, 3) := by decide +kernel
theorem dL_law_1186 : decode cL_law 1186 = .ok (.iload 5, 2) := by decide +kernel
theorem dL_law_1188 : decode cL_law 1188 = .ok (.if_icmp .eq 5, 3) := by decide +kernel
theorem dL_law_1193 : decode cL_law 1193 = .ok (.iload 5, 2) := by decide +kernel
theorem dL_law_1195 : decode cL_law 1195 = .ok (.ifCond .ne 15, 3) := by decide +kernel
theorem dL_law_1198 : decode cL_law 1198 = .ok (.aload_n 3, 1) := by decide +kernel
theorem dL_law_1199 : decode cL_law 1199 = .ok (.iconst 0, 1) := by decide +kernel
theorem dL_law_1200 : decode cL_law 1200 = .ok (.laload, 1) := by decide +kernel
theorem dL_law_1201 : decode cL_law 1201 = .ok (.iload 6, 2) := by decide +kernel
theorem dL_law_1203 : decode cL_law 1203 = .ok (.i2l, 1) := by decide +kernel
theorem dL_law_1204 : decode cL_law 1204 = .ok (.lcmp, 1) := by decide +kernel
theorem dL_law_1205 : decode cL_law 1205 = .ok (.ifCond .eq 5, 3) := by decide +kernel
theorem dL_law_1210 : decode cL_law 1210 = .ok (.goto 1248, 3) := by decide +kernel
theorem dL_law_1213 : decode cL_law 1213 = .ok (.aload_n 1, 1) := by decide +kernel
theorem dL_law_1214 : decode cL_law 1214 = .ok (.invokevirtual 190, 3) := by decide +kernel
theorem dL_law_1217 : decode cL_law 1217 = .ok (.aload_n 2, 1) := by decide +kernel
theorem dL_law_1218 : decode cL_law 1218 = .ok (.invokevirtual 193, 3) := by decide +kernel
theorem dL_law_1221 : decode cL_law 1221 = .ok (.if_icmp .eq 1237, 3) := by decide +kernel
theorem dL_law_1226 : decode cL_law 1226 = .ok (.aload_n 1, 1) := by decide +kernel
theorem dL_law_1227 : decode cL_law 1227 = .ok (.invokevirtual 194, 3) := by decide +kernel
theorem dL_law_1230 : decode cL_law 1230 = .ok (.aload_n 2, 1) := by decide +kernel
theorem dL_law_1231 : decode cL_law 1231 = .ok (.invokevirtual 197, 3) := by decide +kernel
theorem dL_law_1234 : decode cL_law 1234 = .ok (.if_icmp .eq 1224, 3) := by decide +kernel
theorem dL_law_1239 : decode cL_law 1239 = .ok (.aload_n 1, 1) := by decide +kernel
theorem dL_law_1240 : decode cL_law 1240 = .ok (.aload_n 0, 1) := by decide +kernel
theorem dL_law_1241 : decode cL_law 1241 = .ok (.iload 4, 2) := by decide +kernel
theorem dL_law_1243 : decode cL_law 1243 = .ok (.iconst 1, 1) := by decide +kernel
theorem dL_law_1244 : decode cL_law 1244 = .ok (.iadd, 1) := by decide +kernel
theorem dL_law_1245 : decode cL_law 1245 = .ok (.iaload, 1) := by decide +kernel
theorem dL_law_1246 : decode cL_law 1246 = .ok (.aload_n 0, 1) := by decide +kernel
theorem dL_law_1247 : decode cL_law 1247 = .ok (.iload 4, 2) := by decide +kernel
theorem dL_law_1249 : decode cL_law 1249 = .ok (.iconst 2, 1) := by decide +kernel
theorem dL_law_1250 : decode cL_law 1250 = .ok (.iadd, 1) := by decide +kernel
theorem dL_law_1251 : decode cL_law 1251 = .ok (.iaload, 1) := by decide +kernel
theorem dL_law_1252 : decode cL_law 1252 = .ok (.aload_n 3, 1) := by decide +kernel
theorem dL_law_1253 : decode cL_law 1253 = .ok (.invokestatic 198, 3) := by decide +kernel
theorem dL_law_1256 : decode cL_law 1256 = .ok (.istore 5, 2) := by decide +kernel
theorem dL_law_1258 : decode cL_law 1258 = .ok (.aload_n 2, 1) := by decide +kernel
theorem dL_law_1259 : decode cL_law 1259 = .ok (.aload_n 0, 1) := by decide +kernel
theorem dL_law_1260 : decode cL_law 1260 = .ok (.iload 4, 2) := by decide +kernel
theorem dL_law_1262 : decode cL_law 1262 = .ok (.iconst 1, 1) := by decide +kernel
theorem dL_law_1263 : decode cL_law 1263 = .ok (.iadd, 1) := by decide +kernel
theorem dL_law_1264 : decode cL_law 1264 = .ok (.iaload, 1) := by decide +kernel
theorem dL_law_1265 : decode cL_law 1265 = .ok (.aload_n 0, 1) := by decide +kernel
theorem dL_law_1266 : decode cL_law 1266 = .ok (.iload 4, 2) := by decide +kernel
theorem dL_law_1268 : decode cL_law 1268 = .ok (.iconst 2, 1) := by decide +kernel
theorem dL_law_1269 : decode cL_law 1269 = .ok (.iadd, 1) := by decide +kernel
theorem dL_law_1270 : decode cL_law 1270 = .ok (.iaload, 1) := by decide +kernel
theorem dL_law_1271 : decode cL_law 1271 = .ok (.invokevirtual 200, 3) := by decide +kernel
theorem dL_law_1274 : decode cL_law 1274 = .ok (.istore 6, 2) := by decide +kernel
theorem dL_law_1276 : decode cL_law 1276 = .ok (.aload_n 2, 1) := by decide +kernel
theorem dL_law_1277 : decode cL_law 1277 = .ok (.invokevirtual 132, 3) := by decide +kernel
theorem dL_law_1280 : decode cL_law 1280 = .ok (.iload 5, 2) := by decide +kernel
theorem dL_law_1282 : decode cL_law 1282 = .ok (.if_icmp .eq 5, 3) := by decide +kernel
theorem dL_law_1287 : decode cL_law 1287 = .ok (.iload 5, 2) := by decide +kernel
theorem dL_law_1289 : decode cL_law 1289 = .ok (.ifCond .ne 15, 3) := by decide +kernel
theorem dL_law_1304 : decode cL_law 1304 = .ok (.goto 1154, 3) := by decide +kernel
set_option maxHeartbeats 4000000 in
set_option maxRecDepth 100000 in
theorem law_c13 {p : Program} {l : Launch} {e : Env} {s : State} {m : MethodId} {below : List Frame} {meth : Method} {c : Code} {b : Nat} {xs : Nat → Int32} {D : va_G} {cy : Nat → ClassId} {A : Nat → Prop} (hlT : l.stackTraces = false) (F : Fx D cy p m c cL_law 8 s #[Value.ref b] lw_tbl RL A) (hr : meth.sig.returnType = ret) (hlk : meth.locks = false) (hX : va_X b 6 xs s s.heap) (hbl : b < s.heap.size) (hbA : ¬ A b) (hAq : ∀ q, A q → s.heap.size ≤ q) {H : Heap} {locs : List Loc} {ls : Array Slot} (n1900 n1000 n1001 n1017 n1034 n1039 n1041 n1042 n1043 n1044 n1048 n1056 n1057 n1040 n3900 n3000 n3001 n3002 n3003 n3004 n3005 n3006 n3007 n3008 n3009 n3010 n3011 n3012 n3013 n3014 n3015 n3016 n3017 n3018 n5000 : Nat) (hP : va_P D vwCl [(n1900, .inr (11, [.ref n1000, .int 0, .ref n1001, .ref n1017, .ref n1034, .ref n1039, .ref n1041, .ref n1042, .ref n1043, .ref n1044, .ref n1048, .ref n1056, .ref n1057, .int 0])), (n1039, .inr (4, [.int 0, .int 0, .ref n1040])), (n3900, .inr (12, [.ref n3000, .ref n3001, .ref n3002, .ref n3003, .int 0, .ref n3004, .int 0, .int 0, .int 0, .int 0, .int 0, .int 0, .int 0, .int 0, .int 0, .int (-1), .int 0, .ref n3005, .ref n3006, .int 0, .ref n3007, .ref n3008, .int 0, .int 0, .int 0, .int 0, .int 0, .int 0, .int 0, .ref n3009, .ref n3010, .int 0, .int 0, .ref n3011, .ref n3012, .int 0, .int 0, .ref n3013, .ref n3014, .ref n3015, .int 0, .ref n3016, .ref n3017, .ref n3018])), (n3000, .inl (cy 1, 1300, .inl (fun _ => 0)))] H) (hD : va_D A [(n1900, .inr (11, [.ref n1000, .int 0, .ref n1001, .ref n1017, .ref n1034, .ref n1039, .ref n1041, .ref n1042, .ref n1043, .ref n1044, .ref n1048, .ref n1056, .ref n1057, .int 0])), (n1039, .inr (4, [.int 0, .int 0, .ref n1040])), (n3900, .inr (12, [.ref n3000, .ref n3001, .ref n3002, .ref n3003, .int 0, .ref n3004, .int 0, .int 0, .int 0, .int 0, .int 0, .int 0, .int 0, .int 0, .int 0, .int (-1), .int 0, .ref n3005, .ref n3006, .int 0, .ref n3007, .ref n3008, .int 0, .int 0, .int 0, .int 0, .int 0, .int 0, .int 0, .ref n3009, .ref n3010, .int 0, .int 0, .ref n3011, .ref n3012, .int 0, .int 0, .ref n3013, .ref n3014, .ref n3015, .int 0, .ref n3016, .ref n3017, .ref n3018])), (n3000, .inl (cy 1, 1300, .inl (fun _ => 0)))]) (hS : va_S A s.heap H locs) (hl : lv_has ls 8 [(4, .int 0), (3, .ref n5000), (2, .ref n3900), (1, .ref n1900), (0, .ref b)]) : W p l e room_1 s m #[Value.ref b] below meth c H locs 152 18765 (lw_Z below #[Value.ref b] s) (F0 m 909 ls []) := by
  obtain ⟨⟨hx, hb, hml, hown, hts⟩, hK, hG, hZ, hA⟩ := id F
  obtain ⟨z1, ez1⟩ : ∃ z, xs 1 = z := ⟨_, rfl⟩
  obtain ⟨z2, ez2⟩ : ∃ z, xs 2 = z := ⟨_, rfl⟩
  obtain ⟨z3, ez3⟩ : ∃ z, xs 3 = z := ⟨_, rfl⟩
  obtain ⟨z4, ez4⟩ : ∃ z, xs 4 = z := ⟨_, rfl⟩
  obtain ⟨z5, ez5⟩ : ∃ z, xs 5 = z := ⟨_, rfl⟩
  refine lv_aload_n hx hb dL_law_909 rfl (lv_at hl 3 rfl) ?_
  refine lv_aload_n hx hb dL_law_910 rfl (lv_at hl 4 rfl) ?_
  refine lv_iload hx hb dL_law_911 (lv_at hl 0 rfl) ?_
  refine lv_iconst (v := 1) hx hb dL_law_913 (by decide +kernel) ?_
  refine lv_iadd hx hb dL_law_914 ?_
  refine top_i (v := 1) (by decide +kernel) ?_
  refine va_sld hx hb hX hbl hbA hS (i := 1) (vin (by decide +kernel)) dL_law_915 ?_
  refine top_i (v := z1) ez1 ?_
  refine lv_aload_n hx hb dL_law_916 rfl (lv_at hl 1 rfl) ?_
  refine call_i (av := [.ref n1900, .int z1, .ref n5000]) F hP hD hS [(n1900, .inr (11, [.ref n1000, .int 0, .ref n1001, .ref n1017, .ref n1034, .ref n1039, .ref n1041, .ref n1042, .ref n1043, .ref n1044, .ref n1048, .ref n1056, .ref n1057, .int 0])), (n1039, .inr (4, [.int 0, .int 0, .ref n1040]))] [(n3900, .inr (12, [.ref n3000, .ref n3001, .ref n3002, .ref n3003, .int 0, .ref n3004, .int 0, .int 0, .int 0, .int 0, .int 0, .int 0, .int 0, .int 0, .int 0, .int (-1), .int 0, .ref n3005, .ref n3006, .int 0, .ref n3007, .ref n3008, .int 0, .int 0, .int 0, .int 0, .int 0, .int 0, .int 0, .ref n3009, .ref n3010, .int 0, .int 0, .ref n3011, .ref n3012, .int 0, .int 0, .ref n3013, .ref n3014, .ref n3015, .int 0, .ref n3016, .ref n3017, .ref n3018])), (n3000, .inl (cy 1, 1300, .inl (fun _ => 0)))] [0, 1] [2, 3] rfl rfl (by decide +kernel) (fun pr => vx_runSW (As := [.ref n1900, .int z1, .ref n5000]) (rest := []) ⟨hx, hb, hml, hown, hts⟩ (k310_L_undo l hlT D cy H.size n1900 z1 n5000 n1039 n1000 n1001 n1017 n1034 n1041 n1042 n1043 n1044 n1048 n1056 n1057 n1040) (vx_cwSW 3 hts gw_L_undo rfl rfl rfl (by decide +kernel) ⟨(by decide +kernel), (by decide +kernel)⟩) pr rfl rfl hl.1 rfl (lv_room (Nat.le_of_ble_eq_true rfl)) dL_law_917 ⟨(by decide +kernel), (by decide +kernel)⟩) (fun r u H locs hw hP hD hS => ?_)
  rcases hw with ⟨rfl, rfl⟩
  have hP : va_P D vwCl [(n3900, .inr (12, [.ref n3000, .ref n3001, .ref n3002, .ref n3003, .int 0, .ref n3004, .int 0, .int 0, .int 0, .int 0, .int 0, .int 0, .int 0, .int 0, .int 0, .int (-1), .int 0, .ref n3005, .ref n3006, .int 0, .ref n3007, .ref n3008, .int 0, .int 0, .int 0, .int 0, .int 0, .int 0, .int 0, .ref n3009, .ref n3010, .int 0, .int 0, .ref n3011, .ref n3012, .int 0, .int 0, .ref n3013, .ref n3014, .ref n3015, .int 0, .ref n3016, .ref n3017, .ref n3018])), (n3000, .inl (cy 1, 1300, .inl (fun _ => 0)))] H := hP
  have hD : va_D A [(n3900, .inr (12, [.ref n3000, .ref n3001, .ref n3002, .ref n3003, .int 0, .ref n3004, .int 0, .int 0, .int 0, .int 0, .int 0, .int 0, .int 0, .int 0, .int 0, .int (-1), .int 0, .ref n3005, .ref n3006, .int 0, .ref n3007, .ref n3008, .int 0, .int 0, .int 0, .int 0, .int 0, .int 0, .int 0, .ref n3009, .ref n3010, .int 0, .int 0, .ref n3011, .ref n3012, .int 0, .int 0, .ref n3013, .ref n3014, .ref n3015, .int 0, .ref n3016, .ref n3017, .ref n3018])), (n3000, .inl (cy 1, 1300, .inl (fun _ => 0)))] := hD
  refine lv_istore (lv' := [(5, .int 1), (4, .int 0), (3, .ref n5000), (2, .ref n3900), (1, .ref n1900), (0, .ref b)]) hx hb dL_law_920 hl (by decide +kernel) rfl (fun ls hl => ?_)
  refine lv_aload_n hx hb dL_law_922 rfl (lv_at hl 3 rfl) ?_
  refine lv_aload_n hx hb dL_law_923 rfl (lv_at hl 5 rfl) ?_
  refine lv_iload hx hb dL_law_924 (lv_at hl 1 rfl) ?_
  refine lv_iconst (v := 1) hx hb dL_law_926 (by decide +kernel) ?_
  refine lv_iadd hx hb dL_law_927 ?_
  refine top_i (v := 1) (by decide +kernel) ?_
  refine va_sld hx hb hX hbl hbA hS (i := 1) (vin (by decide +kernel)) dL_law_928 ?_
  refine top_i (v := z1) ez1 ?_
  refine call_i (av := [.ref n3900, .int z1]) F hP hD hS [(n3900, .inr (12, [.ref n3000, .ref n3001, .ref n3002, .ref n3003, .int 0, .ref n3004, .int 0, .int 0, .int 0, .int 0, .int 0, .int 0, .int 0, .int 0, .int 0, .int (-1), .int 0, .ref n3005, .ref n3006, .int 0, .ref n3007, .ref n3008, .int 0, .int 0, .int 0, .int 0, .int 0, .int 0, .int 0, .ref n3009, .ref n3010, .int 0, .int 0, .ref n3011, .ref n3012, .int 0, .int 0, .ref n3013, .ref n3014, .ref n3015, .int 0, .ref n3016, .ref n3017, .ref n3018])), (n3000, .inl (cy 1, 1300, .inl (fun _ => 0)))] [] [0, 1] [] rfl rfl (by decide +kernel) (fun pr => va_runV (As := [.int z1]) (rest := []) ⟨hx, hb, hml, hown, hts⟩ (k195_X12_undo l D cy H.size n3900 z1 n3000 n3001 n3002 n3003 n3004 n3005 n3006 n3007 n3008 n3009 n3010 n3011 n3012 n3013 n3014 n3015 n3016 n3017 n3018) (cwV 1 hts gw_X12_undo rfl rfl rfl (by decide +kernel) ⟨(by decide +kernel), (by decide +kernel)⟩) ⟨pr.1, va_recv hK hP (ci := 12) (q0 := 0) rfl rfl, pr.2⟩ rfl rfl hl.1 rfl (lv_room (Nat.le_of_ble_eq_true rfl)) dL_law_929 ⟨(by decide +kernel), (by decide +kernel)⟩) (fun r u H locs hw hP hD hS => ?_)
  rcases hw with ⟨rfl, rfl⟩
  have hP : va_P D vwCl [(n3000, .inl (cy 1, 1300, .inl (fun _ => 0))), (n3900, .inr (12, [.ref n3000, .ref n3001, .ref n3002, .ref n3003, .int 1, .ref n3004, .int 0, .int 0, .int 0, .int 0, .int 0, .int 0, .int 0, .int 0, .int 0, .int (-1), .int 0, .ref n3005, .ref n3006, .int 0, .ref n3007, .ref n3008, .int 0, .int 0, .int 0, .int 0, .int 0, .int 0, .int 0, .ref n3009, .ref n3010, .int 0, .int 0, .ref n3011, .ref n3012, .int 0, .int 0, .ref n3013, .ref n3014, .ref n3015, .int 0, .ref n3016, .ref n3017, .ref n3018]))] H := hP
  have hD : va_D A [(n3000, .inl (cy 1, 1300, .inl (fun _ => 0))), (n3900, .inr (12, [.ref n3000, .ref n3001, .ref n3002, .ref n3003, .int 1, .ref n3004, .int 0, .int 0, .int 0, .int 0, .int 0, .int 0, .int 0, .int 0, .int 0, .int (-1), .int 0, .ref n3005, .ref n3006, .int 0, .ref n3007, .ref n3008, .int 0, .int 0, .int 0, .int 0, .int 0, .int 0, .int 0, .ref n3009, .ref n3010, .int 0, .int 0, .ref n3011, .ref n3012, .int 0, .int 0, .ref n3013, .ref n3014, .ref n3015, .int 0, .ref n3016, .ref n3017, .ref n3018]))] := hD
  refine lv_istore (lv' := [(6, .int 0), (5, .int 1), (4, .int 0), (3, .ref n5000), (2, .ref n3900), (1, .ref n1900), (0, .ref b)]) hx hb dL_law_932 hl (by decide +kernel) rfl (fun ls hl => ?_)
  refine lv_aload_n hx hb dL_law_934 rfl (lv_at hl 4 rfl) ?_
  refine call_i (av := [.ref n3900]) F hP hD hS [(n3900, .inr (12, [.ref n3000, .ref n3001, .ref n3002, .ref n3003, .int 1, .ref n3004, .int 0, .int 0, .int 0, .int 0, .int 0, .int 0, .int 0, .int 0, .int 0, .int (-1), .int 0, .ref n3005, .ref n3006, .int 0, .ref n3007, .ref n3008, .int 0, .int 0, .int 0, .int 0, .int 0, .int 0, .int 0, .ref n3009, .ref n3010, .int 0, .int 0, .ref n3011, .ref n3012, .int 0, .int 0, .ref n3013, .ref n3014, .ref n3015, .int 0, .ref n3016, .ref n3017, .ref n3018]))] [(n3000, .inl (cy 1, 1300, .inl (fun _ => 0)))] [1] [0] rfl rfl (by decide +kernel) (fun pr => va_runV (As := []) (rest := []) ⟨hx, hb, hml, hown, hts⟩ (k333_X12_thrown l D cy H.size n3900 n3000 n3001 n3002 n3003 n3004 n3005 n3006 n3007 n3008 n3009 n3010 n3011 n3012 n3013 n3014 n3015 n3016 n3017 n3018) (cwV 0 hts gw_X12_thrown rfl rfl rfl (by decide +kernel) ⟨(by decide +kernel), (by decide +kernel)⟩) ⟨pr.1, va_recv hK hP (ci := 12) (q0 := 1) rfl rfl, pr.2⟩ rfl rfl hl.1 rfl (lv_room (Nat.le_of_ble_eq_true rfl)) dL_law_935 ⟨(by decide +kernel), (by decide +kernel)⟩) (fun r u H locs hw hP hD hS => ?_)
  rcases hw with ⟨rfl, rfl⟩
  have hP : va_P D vwCl [(n3000, .inl (cy 1, 1300, .inl (fun _ => 0))), (n3900, .inr (12, [.ref n3000, .ref n3001, .ref n3002, .ref n3003, .int 1, .ref n3004, .int 0, .int 0, .int 0, .int 0, .int 0, .int 0, .int 0, .int 0, .int 0, .int (-1), .int 0, .ref n3005, .ref n3006, .int 0, .ref n3007, .ref n3008, .int 0, .int 0, .int 0, .int 0, .int 0, .int 0, .int 0, .ref n3009, .ref n3010, .int 0, .int 0, .ref n3011, .ref n3012, .int 0, .int 0, .ref n3013, .ref n3014, .ref n3015, .int 0, .ref n3016, .ref n3017, .ref n3018]))] H := hP
  have hD : va_D A [(n3000, .inl (cy 1, 1300, .inl (fun _ => 0))), (n3900, .inr (12, [.ref n3000, .ref n3001, .ref n3002, .ref n3003, .int 1, .ref n3004, .int 0, .int 0, .int 0, .int 0, .int 0, .int 0, .int 0, .int 0, .int 0, .int (-1), .int 0, .ref n3005, .ref n3006, .int 0, .ref n3007, .ref n3008, .int 0, .int 0, .int 0, .int 0, .int 0, .int 0, .int 0, .ref n3009, .ref n3010, .int 0, .int 0, .ref n3011, .ref n3012, .int 0, .int 0, .ref n3013, .ref n3014, .ref n3015, .int 0, .ref n3016, .ref n3017, .ref n3018]))] := hD
  refine lv_iload hx hb dL_law_938 (lv_at hl 1 rfl) ?_
  refine lv_icmp_eq (tgt := 945) hx hb dL_law_940 (by decide +kernel) (fun _ => ?_) (fun h => absurd (by decide +kernel) h)
  refine lv_iload hx hb dL_law_945 (lv_at hl 1 rfl) ?_
  refine lv_if_ne (tgt := 962) hx hb dL_law_947 (by decide +kernel) (fun _ => ?_) (fun h => absurd h (by decide +kernel))
  refine lv_goto (tgt := 2458) hx hb dL_law_962 (by decide +kernel) ?_
  refine lv_iinc (v := 6) (lv' := [(4, .int 6), (6, .int 0), (5, .int 1), (3, .ref n5000), (2, .ref n3900), (1, .ref n1900), (0, .ref b)]) hx hb dL_law_2458 hl (k := 2) rfl (by decide) (by decide +kernel) rfl (fun ls hl => ?_)
  refine lv_goto (tgt := 23) hx hb dL_law_2461 (by decide +kernel) ?_
  refine lv_iload hx hb dL_law_23 (lv_at hl 0 rfl) ?_
  refine lv_aload_n hx hb dL_law_25 rfl (lv_at hl 6 rfl) ?_
  refine va_slen hx hb hX hbl hbA hS dL_law_26 ?_
  refine top_i (v := 6) rfl ?_
  refine lv_bipush (v := 6) hx hb dL_law_27 (by decide +kernel) ?_
  refine lv_isub hx hb dL_law_29 ?_
  refine top_i (v := 0) (by decide +kernel) ?_
  refine lv_icmp_gt (tgt := 2464) hx hb dL_law_30 (by decide +kernel) (fun _ => ?_) (fun h => absurd (by decide +kernel) h)
  refine lv_iconst (v := 1) hx hb dL_law_2464 (by decide +kernel) ?_
  refine va_forget (fun q hq => hAq _ (hS.2.2 q hq)) ?_
  refine W.widen (k := 600002) (n := 7302232) (by decide +kernel) (by decide +kernel) ?_
  exact lw_ret hx hb hr hlk dL_law_2465
set_option maxHeartbeats 4000000 in
set_option maxRecDepth 100000 in
theorem law_c14 {p : Program} {l : Launch} {e : Env} {s : State} {m : MethodId} {below : List Frame} {meth : Method} {c : Code} {b : Nat} {xs : Nat → Int32} {D : va_G} {cy : Nat → ClassId} {A : Nat → Prop} (hlT : l.stackTraces = false) (F : Fx D cy p m c cL_law 8 s #[Value.ref b] lw_tbl RL A) (hr : meth.sig.returnType = ret) (hlk : meth.locks = false) (hX : va_X b 6 xs s s.heap) (hbl : b < s.heap.size) (hbA : ¬ A b) (hAq : ∀ q, A q → s.heap.size ≤ q) {H : Heap} {locs : List Loc} {ls : Array Slot} (n1900 n1000 n1001 n1017 n1034 n1039 n1041 n1042 n1043 n1044 n1048 n1056 n1057 n1122 n1124 n1126 n1128 n1123 n1125 n1127 n1129 n3900 n3000 n3001 n3002 n3003 n3004 n3005 n3006 n3007 n3008 n3009 n3010 n3011 n3012 n3013 n3014 n3015 n3016 n3017 n3018 n5000 : Nat) (hP : va_P D vwCl [(n1900, .inr (11, [.ref n1000, .int 0, .ref n1001, .ref n1017, .ref n1034, .ref n1039, .ref n1041, .ref n1042, .ref n1043, .ref n1044, .ref n1048, .ref n1056, .ref n1057, .int 0])), (n1043, .inl (cy 5, 4, .inr (.inr (.inr (.inr (va_up (va_up (va_up (va_up (fun _ => none) 0 (some n1122)) 1 (some n1124)) 2 (some n1126)) 3 (some n1128))))))), (n1122, .inr (10, [.int (-1), .int 0, .ref n1123])), (n1124, .inr (10, [.int (-1), .int 0, .ref n1125])), (n1126, .inr (10, [.int (-1), .int 0, .ref n1127])), (n1128, .inr (10, [.int (-1), .int 0, .ref n1129])), (n3900, .inr (12, [.ref n3000, .ref n3001, .ref n3002, .ref n3003, .int 0, .ref n3004, .int 0, .int 0, .int 0, .int 0, .int 0, .int 0, .int 0, .int 0, .int 0, .int (-1), .int 0, .ref n3005, .ref n3006, .int 0, .ref n3007, .ref n3008, .int 0, .int 0, .int 0, .int 0, .int 0, .int 0, .int 0, .ref n3009, .ref n3010, .int 0, .int 0, .ref n3011, .ref n3012, .int 0, .int 0, .ref n3013, .ref n3014, .ref n3015, .int 0, .ref n3016, .ref n3017, .ref n3018])), (n3016, .inl (cy 1, 4, .inl (upd (upd (upd (upd (fun _ => 0) 0 (-1)) 1 (-1)) 2 (-1)) 3 (-1))))] H) (hD : va_D A [(n1900, .inr (11, [.ref n1000, .int 0, .ref n1001, .ref n1017, .ref n1034, .ref n1039, .ref n1041, .ref n1042, .ref n1043, .ref n1044, .ref n1048, .ref n1056, .ref n1057, .int 0])), (n1043, .inl (cy 5, 4, .inr (.inr (.inr (.inr (va_up (va_up (va_up (va_up (fun _ => none) 0 (some n1122)) 1 (some n1124)) 2 (some n1126)) 3 (some n1128))))))), (n1122, .inr (10, [.int (-1), .int 0, .ref n1123])), (n1124, .inr (10, [.int (-1), .int 0, .ref n1125])), (n1126, .inr (10, [.int (-1), .int 0, .ref n1127])), (n1128, .inr (10, [.int (-1), .int 0, .ref n1129])), (n3900, .inr (12, [.ref n3000, .ref n3001, .ref n3002, .ref n3003, .int 0, .ref n3004, .int 0, .int 0, .int 0, .int 0, .int 0, .int 0, .int 0, .int 0, .int 0, .int (-1), .int 0, .ref n3005, .ref n3006, .int 0, .ref n3007, .ref n3008, .int 0, .int 0, .int 0, .int 0, .int 0, .int 0, .int 0, .ref n3009, .ref n3010, .int 0, .int 0, .ref n3011, .ref n3012, .int 0, .int 0, .ref n3013, .ref n3014, .ref n3015, .int 0, .ref n3016, .ref n3017, .ref n3018])), (n3016, .inl (cy 1, 4, .inl (upd (upd (upd (upd (fun _ => 0) 0 (-1)) 1 (-1)) 2 (-1)) 3 (-1))))]) (hS : va_S A s.heap H locs) (hl : lv_has ls 8 [(4, .int 0), (3, .ref n5000), (2, .ref n3900), (1, .ref n1900), (0, .ref b)]) : W p l e room_1 s m #[Value.ref b] below meth c H locs 152 18765 (lw_Z below #[Value.ref b] s) (F0 m 965 ls []) := by
  obtain ⟨⟨hx, hb, hml, hown, hts⟩, hK, hG, hZ, hA⟩ := id F
  obtain ⟨z1, ez1⟩ : ∃ z, xs 1 = z := ⟨_, rfl⟩
  obtain ⟨z2, ez2⟩ : ∃ z, xs 2 = z := ⟨_, rfl⟩
  obtain ⟨z3, ez3⟩ : ∃ z, xs 3 = z := ⟨_, rfl⟩
  obtain ⟨z4, ez4⟩ : ∃ z, xs 4 = z := ⟨_, rfl⟩
  obtain ⟨z5, ez5⟩ : ∃ z, xs 5 = z := ⟨_, rfl⟩
  refine lv_aload_n hx hb dL_law_965 rfl (lv_at hl 3 rfl) ?_
  refine lv_aload_n hx hb dL_law_966 rfl (lv_at hl 4 rfl) ?_
  refine lv_iload hx hb dL_law_967 (lv_at hl 0 rfl) ?_
  refine lv_iconst (v := 1) hx hb dL_law_969 (by decide +kernel) ?_
  refine lv_iadd hx hb dL_law_970 ?_
  refine top_i (v := 1) (by decide +kernel) ?_
  refine va_sld hx hb hX hbl hbA hS (i := 1) (vin (by decide +kernel)) dL_law_971 ?_
  refine top_i (v := z1) ez1 ?_
  refine lv_aload_n hx hb dL_law_972 rfl (lv_at hl 4 rfl) ?_
  refine lv_iload hx hb dL_law_973 (lv_at hl 0 rfl) ?_
  refine lv_iconst (v := 2) hx hb dL_law_975 (by decide +kernel) ?_
  refine lv_iadd hx hb dL_law_976 ?_
  refine top_i (v := 2) (by decide +kernel) ?_
  refine va_sld hx hb hX hbl hbA hS (i := 2) (vin (by decide +kernel)) dL_law_977 ?_
  refine top_i (v := z2) ez2 ?_
  refine lv_aload_n hx hb dL_law_978 rfl (lv_at hl 1 rfl) ?_
  refine call_i (av := [.ref n1900, .int z1, .int z2, .ref n5000]) F hP hD hS [(n1900, .inr (11, [.ref n1000, .int 0, .ref n1001, .ref n1017, .ref n1034, .ref n1039, .ref n1041, .ref n1042, .ref n1043, .ref n1044, .ref n1048, .ref n1056, .ref n1057, .int 0])), (n1043, .inl (cy 5, 4, .inr (.inr (.inr (.inr (va_up (va_up (va_up (va_up (fun _ => none) 0 (some n1122)) 1 (some n1124)) 2 (some n1126)) 3 (some n1128))))))), (n1122, .inr (10, [.int (-1), .int 0, .ref n1123])), (n1124, .inr (10, [.int (-1), .int 0, .ref n1125])), (n1126, .inr (10, [.int (-1), .int 0, .ref n1127])), (n1128, .inr (10, [.int (-1), .int 0, .ref n1129]))] [(n3900, .inr (12, [.ref n3000, .ref n3001, .ref n3002, .ref n3003, .int 0, .ref n3004, .int 0, .int 0, .int 0, .int 0, .int 0, .int 0, .int 0, .int 0, .int 0, .int (-1), .int 0, .ref n3005, .ref n3006, .int 0, .ref n3007, .ref n3008, .int 0, .int 0, .int 0, .int 0, .int 0, .int 0, .int 0, .ref n3009, .ref n3010, .int 0, .int 0, .ref n3011, .ref n3012, .int 0, .int 0, .ref n3013, .ref n3014, .ref n3015, .int 0, .ref n3016, .ref n3017, .ref n3018])), (n3016, .inl (cy 1, 4, .inl (upd (upd (upd (upd (fun _ => 0) 0 (-1)) 1 (-1)) 2 (-1)) 3 (-1))))] [0, 1, 2, 3, 4, 5] [6, 7] rfl rfl (by decide +kernel) (fun pr => vx_runSW (As := [.ref n1900, .int z1, .int z2, .ref n5000]) (rest := []) ⟨hx, hb, hml, hown, hts⟩ (k311_L_judge l hlT D cy H.size n1900 z1 z2 n5000 n1043 n1122 n1124 n1126 n1128 n1000 n1001 n1017 n1034 n1039 n1041 n1042 n1044 n1048 n1056 n1057 n1123 n1125 n1127 n1129) (vx_cwSW 4 hts gw_L_judge rfl rfl rfl (by decide +kernel) ⟨(by decide +kernel), (by decide +kernel)⟩) pr rfl rfl hl.1 rfl (lv_room (Nat.le_of_ble_eq_true rfl)) dL_law_979 ⟨(by decide +kernel), (by decide +kernel)⟩) (fun r u H locs hw hP hD hS => ?_)
  rcases hw with ⟨c800001, rfl, rfl⟩ | ⟨c800002, c800003, rfl, rfl⟩ | ⟨c800004, c800005, c800006, rfl, rfl⟩ | ⟨c800007, c800008, c800009, rfl, rfl⟩ | ⟨c800010, c800011, c800012, rfl, rfl⟩ | ⟨c800013, c800014, c800015, rfl, rfl⟩
  · have hP : va_P D vwCl [(n3900, .inr (12, [.ref n3000, .ref n3001, .ref n3002, .ref n3003, .int 0, .ref n3004, .int 0, .int 0, .int 0, .int 0, .int 0, .int 0, .int 0, .int 0, .int 0, .int (-1), .int 0, .ref n3005, .ref n3006, .int 0, .ref n3007, .ref n3008, .int 0, .int 0, .int 0, .int 0, .int 0, .int 0, .int 0, .ref n3009, .ref n3010, .int 0, .int 0, .ref n3011, .ref n3012, .int 0, .int 0, .ref n3013, .ref n3014, .ref n3015, .int 0, .ref n3016, .ref n3017, .ref n3018])), (n3016, .inl (cy 1, 4, .inl (upd (upd (upd (upd (fun _ => 0) 0 (-1)) 1 (-1)) 2 (-1)) 3 (-1))))] H := hP
    have hD : va_D A [(n3900, .inr (12, [.ref n3000, .ref n3001, .ref n3002, .ref n3003, .int 0, .ref n3004, .int 0, .int 0, .int 0, .int 0, .int 0, .int 0, .int 0, .int 0, .int 0, .int (-1), .int 0, .ref n3005, .ref n3006, .int 0, .ref n3007, .ref n3008, .int 0, .int 0, .int 0, .int 0, .int 0, .int 0, .int 0, .ref n3009, .ref n3010, .int 0, .int 0, .ref n3011, .ref n3012, .int 0, .int 0, .ref n3013, .ref n3014, .ref n3015, .int 0, .ref n3016, .ref n3017, .ref n3018])), (n3016, .inl (cy 1, 4, .inl (upd (upd (upd (upd (fun _ => 0) 0 (-1)) 1 (-1)) 2 (-1)) 3 (-1))))] := hD
    refine lv_istore (lv' := [(5, .int 1), (4, .int 0), (3, .ref n5000), (2, .ref n3900), (1, .ref n1900), (0, .ref b)]) hx hb dL_law_982 hl (by decide +kernel) rfl (fun ls hl => ?_)
    refine lv_aload_n hx hb dL_law_984 rfl (lv_at hl 3 rfl) ?_
    refine lv_aload_n hx hb dL_law_985 rfl (lv_at hl 5 rfl) ?_
    refine lv_iload hx hb dL_law_986 (lv_at hl 1 rfl) ?_
    refine lv_iconst (v := 1) hx hb dL_law_988 (by decide +kernel) ?_
    refine lv_iadd hx hb dL_law_989 ?_
    refine top_i (v := 1) (by decide +kernel) ?_
    refine va_sld hx hb hX hbl hbA hS (i := 1) (vin (by decide +kernel)) dL_law_990 ?_
    refine top_i (v := z1) ez1 ?_
    refine lv_aload_n hx hb dL_law_991 rfl (lv_at hl 5 rfl) ?_
    refine lv_iload hx hb dL_law_992 (lv_at hl 1 rfl) ?_
    refine lv_iconst (v := 2) hx hb dL_law_994 (by decide +kernel) ?_
    refine lv_iadd hx hb dL_law_995 ?_
    refine top_i (v := 2) (by decide +kernel) ?_
    refine va_sld hx hb hX hbl hbA hS (i := 2) (vin (by decide +kernel)) dL_law_996 ?_
    refine top_i (v := z2) ez2 ?_
    refine call_i (av := [.ref n3900, .int z1, .int z2]) F hP hD hS [(n3900, .inr (12, [.ref n3000, .ref n3001, .ref n3002, .ref n3003, .int 0, .ref n3004, .int 0, .int 0, .int 0, .int 0, .int 0, .int 0, .int 0, .int 0, .int 0, .int (-1), .int 0, .ref n3005, .ref n3006, .int 0, .ref n3007, .ref n3008, .int 0, .int 0, .int 0, .int 0, .int 0, .int 0, .int 0, .ref n3009, .ref n3010, .int 0, .int 0, .ref n3011, .ref n3012, .int 0, .int 0, .ref n3013, .ref n3014, .ref n3015, .int 0, .ref n3016, .ref n3017, .ref n3018])), (n3016, .inl (cy 1, 4, .inl (upd (upd (upd (upd (fun _ => 0) 0 (-1)) 1 (-1)) 2 (-1)) 3 (-1))))] [] [0, 1] [] rfl rfl (by decide +kernel) (fun pr => va_runV (As := [.int z1, .int z2]) (rest := []) ⟨hx, hb, hml, hown, hts⟩ (k198_X12_judge l D cy H.size n3900 z1 z2 n3016 n3000 n3001 n3002 n3003 n3004 n3005 n3006 n3007 n3008 n3009 n3010 n3011 n3012 n3013 n3014 n3015 n3017 n3018) (cwV 2 hts gw_X12_judge rfl rfl rfl (by decide +kernel) ⟨(by decide +kernel), (by decide +kernel)⟩) ⟨pr.1, va_recv hK hP (ci := 12) (q0 := 0) rfl rfl, pr.2⟩ rfl rfl hl.1 rfl (lv_room (Nat.le_of_ble_eq_true rfl)) dL_law_997 ⟨(by decide +kernel), (by decide +kernel)⟩) (fun r u H locs hw hP hD hS => ?_)
    rcases hw with ⟨c800016, rfl, rfl⟩ | ⟨c800017, c800018, rfl, rfl⟩ | ⟨c800019, c800020, c800021, rfl, rfl⟩ | ⟨c800022, c800023, c800024, rfl, rfl⟩ | ⟨c800025, c800026, c800027, rfl, rfl⟩ | ⟨c800028, c800029, c800030, rfl, rfl⟩
    · have hP : va_P D vwCl [(n3900, .inr (12, [.ref n3000, .ref n3001, .ref n3002, .ref n3003, .int 1, .ref n3004, .int 0, .int 0, .int 0, .int 0, .int 0, .int 0, .int 0, .int 0, .int 0, .int (-1), .int 0, .ref n3005, .ref n3006, .int 0, .ref n3007, .ref n3008, .int 0, .int 0, .int 0, .int 0, .int 0, .int 0, .int 0, .ref n3009, .ref n3010, .int 0, .int 0, .ref n3011, .ref n3012, .int 0, .int 0, .ref n3013, .ref n3014, .ref n3015, .int 0, .ref n3016, .ref n3017, .ref n3018])), (n3016, .inl (cy 1, 4, .inl (upd (upd (upd (upd (fun _ => 0) 0 (-1)) 1 (-1)) 2 (-1)) 3 (-1))))] H := hP
      have hD : va_D A [(n3900, .inr (12, [.ref n3000, .ref n3001, .ref n3002, .ref n3003, .int 1, .ref n3004, .int 0, .int 0, .int 0, .int 0, .int 0, .int 0, .int 0, .int 0, .int 0, .int (-1), .int 0, .ref n3005, .ref n3006, .int 0, .ref n3007, .ref n3008, .int 0, .int 0, .int 0, .int 0, .int 0, .int 0, .int 0, .ref n3009, .ref n3010, .int 0, .int 0, .ref n3011, .ref n3012, .int 0, .int 0, .ref n3013, .ref n3014, .ref n3015, .int 0, .ref n3016, .ref n3017, .ref n3018])), (n3016, .inl (cy 1, 4, .inl (upd (upd (upd (upd (fun _ => 0) 0 (-1)) 1 (-1)) 2 (-1)) 3 (-1))))] := hD
      refine lv_istore (lv' := [(6, .int 0), (5, .int 1), (4, .int 0), (3, .ref n5000), (2, .ref n3900), (1, .ref n1900), (0, .ref b)]) hx hb dL_law_1000 hl (by decide +kernel) rfl (fun ls hl => ?_)
      refine lv_aload_n hx hb dL_law_1002 rfl (lv_at hl 4 rfl) ?_
      refine call_i (av := [.ref n3900]) F hP hD hS [(n3900, .inr (12, [.ref n3000, .ref n3001, .ref n3002, .ref n3003, .int 1, .ref n3004, .int 0, .int 0, .int 0, .int 0, .int 0, .int 0, .int 0, .int 0, .int 0, .int (-1), .int 0, .ref n3005, .ref n3006, .int 0, .ref n3007, .ref n3008, .int 0, .int 0, .int 0, .int 0, .int 0, .int 0, .int 0, .ref n3009, .ref n3010, .int 0, .int 0, .ref n3011, .ref n3012, .int 0, .int 0, .ref n3013, .ref n3014, .ref n3015, .int 0, .ref n3016, .ref n3017, .ref n3018]))] [(n3016, .inl (cy 1, 4, .inl (upd (upd (upd (upd (fun _ => 0) 0 (-1)) 1 (-1)) 2 (-1)) 3 (-1))))] [0] [1] rfl rfl (by decide +kernel) (fun pr => va_runV (As := []) (rest := []) ⟨hx, hb, hml, hown, hts⟩ (k333_X12_thrown l D cy H.size n3900 n3000 n3001 n3002 n3003 n3004 n3005 n3006 n3007 n3008 n3009 n3010 n3011 n3012 n3013 n3014 n3015 n3016 n3017 n3018) (cwV 0 hts gw_X12_thrown rfl rfl rfl (by decide +kernel) ⟨(by decide +kernel), (by decide +kernel)⟩) ⟨pr.1, va_recv hK hP (ci := 12) (q0 := 0) rfl rfl, pr.2⟩ rfl rfl hl.1 rfl (lv_room (Nat.le_of_ble_eq_true rfl)) dL_law_1003 ⟨(by decide +kernel), (by decide +kernel)⟩) (fun r u H locs hw hP hD hS => ?_)
      rcases hw with ⟨rfl, rfl⟩
      have hP : va_P D vwCl [(n3016, .inl (cy 1, 4, .inl (upd (upd (upd (upd (fun _ => 0) 0 (-1)) 1 (-1)) 2 (-1)) 3 (-1)))), (n3900, .inr (12, [.ref n3000, .ref n3001, .ref n3002, .ref n3003, .int 1, .ref n3004, .int 0, .int 0, .int 0, .int 0, .int 0, .int 0, .int 0, .int 0, .int 0, .int (-1), .int 0, .ref n3005, .ref n3006, .int 0, .ref n3007, .ref n3008, .int 0, .int 0, .int 0, .int 0, .int 0, .int 0, .int 0, .ref n3009, .ref n3010, .int 0, .int 0, .ref n3011, .ref n3012, .int 0, .int 0, .ref n3013, .ref n3014, .ref n3015, .int 0, .ref n3016, .ref n3017, .ref n3018]))] H := hP
      have hD : va_D A [(n3016, .inl (cy 1, 4, .inl (upd (upd (upd (upd (fun _ => 0) 0 (-1)) 1 (-1)) 2 (-1)) 3 (-1)))), (n3900, .inr (12, [.ref n3000, .ref n3001, .ref n3002, .ref n3003, .int 1, .ref n3004, .int 0, .int 0, .int 0, .int 0, .int 0, .int 0, .int 0, .int 0, .int 0, .int (-1), .int 0, .ref n3005, .ref n3006, .int 0, .ref n3007, .ref n3008, .int 0, .int 0, .int 0, .int 0, .int 0, .int 0, .int 0, .ref n3009, .ref n3010, .int 0, .int 0, .ref n3011, .ref n3012, .int 0, .int 0, .ref n3013, .ref n3014, .ref n3015, .int 0, .ref n3016, .ref n3017, .ref n3018]))] := hD
      refine lv_iload hx hb dL_law_1006 (lv_at hl 1 rfl) ?_
      refine lv_icmp_eq (tgt := 1013) hx hb dL_law_1008 (by decide +kernel) (fun _ => ?_) (fun h => absurd (by decide +kernel) h)
      refine lv_iload hx hb dL_law_1013 (lv_at hl 1 rfl) ?_
      refine lv_if_ne (tgt := 1030) hx hb dL_law_1015 (by decide +kernel) (fun _ => ?_) (fun h => absurd h (by decide +kernel))
      refine lv_goto (tgt := 2458) hx hb dL_law_1030 (by decide +kernel) ?_
      refine lv_iinc (v := 6) (lv' := [(4, .int 6), (6, .int 0), (5, .int 1), (3, .ref n5000), (2, .ref n3900), (1, .ref n1900), (0, .ref b)]) hx hb dL_law_2458 hl (k := 2) rfl (by decide) (by decide +kernel) rfl (fun ls hl => ?_)
      refine lv_goto (tgt := 23) hx hb dL_law_2461 (by decide +kernel) ?_
      refine lv_iload hx hb dL_law_23 (lv_at hl 0 rfl) ?_
      refine lv_aload_n hx hb dL_law_25 rfl (lv_at hl 6 rfl) ?_
      refine va_slen hx hb hX hbl hbA hS dL_law_26 ?_
      refine top_i (v := 6) rfl ?_
      refine lv_bipush (v := 6) hx hb dL_law_27 (by decide +kernel) ?_
      refine lv_isub hx hb dL_law_29 ?_
      refine top_i (v := 0) (by decide +kernel) ?_
      refine lv_icmp_gt (tgt := 2464) hx hb dL_law_30 (by decide +kernel) (fun _ => ?_) (fun h => absurd (by decide +kernel) h)
      refine lv_iconst (v := 1) hx hb dL_law_2464 (by decide +kernel) ?_
      refine va_forget (fun q hq => hAq _ (hS.2.2 q hq)) ?_
      refine W.widen (k := 600002) (n := 7302232) (by decide +kernel) (by decide +kernel) ?_
      exact lw_ret hx hb hr hlk dL_law_2465
    · exact (no_b (lo_nlt_w c800017) (up_lt c800001) (by decide +kernel)).elim
    · exact (no_b (lo_nlt_w c800019) (up_lt c800001) (by decide +kernel)).elim
    · exact (no_b (lo_nlt_w c800022) (up_lt c800001) (by decide +kernel)).elim
    · exact (no_b (lo_nlt_w c800025) (up_lt c800001) (by decide +kernel)).elim
    · exact (no_b (lo_nlt_w c800028) (up_lt c800001) (by decide +kernel)).elim
  · have hP : va_P D vwCl [(n3900, .inr (12, [.ref n3000, .ref n3001, .ref n3002, .ref n3003, .int 0, .ref n3004, .int 0, .int 0, .int 0, .int 0, .int 0, .int 0, .int 0, .int 0, .int 0, .int (-1), .int 0, .ref n3005, .ref n3006, .int 0, .ref n3007, .ref n3008, .int 0, .int 0, .int 0, .int 0, .int 0, .int 0, .int 0, .ref n3009, .ref n3010, .int 0, .int 0, .ref n3011, .ref n3012, .int 0, .int 0, .ref n3013, .ref n3014, .ref n3015, .int 0, .ref n3016, .ref n3017, .ref n3018])), (n3016, .inl (cy 1, 4, .inl (upd (upd (upd (upd (fun _ => 0) 0 (-1)) 1 (-1)) 2 (-1)) 3 (-1))))] H := hP
    have hD : va_D A [(n3900, .inr (12, [.ref n3000, .ref n3001, .ref n3002, .ref n3003, .int 0, .ref n3004, .int 0, .int 0, .int 0, .int 0, .int 0, .int 0, .int 0, .int 0, .int 0, .int (-1), .int 0, .ref n3005, .ref n3006, .int 0, .ref n3007, .ref n3008, .int 0, .int 0, .int 0, .int 0, .int 0, .int 0, .int 0, .ref n3009, .ref n3010, .int 0, .int 0, .ref n3011, .ref n3012, .int 0, .int 0, .ref n3013, .ref n3014, .ref n3015, .int 0, .ref n3016, .ref n3017, .ref n3018])), (n3016, .inl (cy 1, 4, .inl (upd (upd (upd (upd (fun _ => 0) 0 (-1)) 1 (-1)) 2 (-1)) 3 (-1))))] := hD
    refine lv_istore (lv' := [(5, .int 1), (4, .int 0), (3, .ref n5000), (2, .ref n3900), (1, .ref n1900), (0, .ref b)]) hx hb dL_law_982 hl (by decide +kernel) rfl (fun ls hl => ?_)
    refine lv_aload_n hx hb dL_law_984 rfl (lv_at hl 3 rfl) ?_
    refine lv_aload_n hx hb dL_law_985 rfl (lv_at hl 5 rfl) ?_
    refine lv_iload hx hb dL_law_986 (lv_at hl 1 rfl) ?_
    refine lv_iconst (v := 1) hx hb dL_law_988 (by decide +kernel) ?_
    refine lv_iadd hx hb dL_law_989 ?_
    refine top_i (v := 1) (by decide +kernel) ?_
    refine va_sld hx hb hX hbl hbA hS (i := 1) (vin (by decide +kernel)) dL_law_990 ?_
    refine top_i (v := z1) ez1 ?_
    refine lv_aload_n hx hb dL_law_991 rfl (lv_at hl 5 rfl) ?_
    refine lv_iload hx hb dL_law_992 (lv_at hl 1 rfl) ?_
    refine lv_iconst (v := 2) hx hb dL_law_994 (by decide +kernel) ?_
    refine lv_iadd hx hb dL_law_995 ?_
    refine top_i (v := 2) (by decide +kernel) ?_
    refine va_sld hx hb hX hbl hbA hS (i := 2) (vin (by decide +kernel)) dL_law_996 ?_
    refine top_i (v := z2) ez2 ?_
    refine call_i (av := [.ref n3900, .int z1, .int z2]) F hP hD hS [(n3900, .inr (12, [.ref n3000, .ref n3001, .ref n3002, .ref n3003, .int 0, .ref n3004, .int 0, .int 0, .int 0, .int 0, .int 0, .int 0, .int 0, .int 0, .int 0, .int (-1), .int 0, .ref n3005, .ref n3006, .int 0, .ref n3007, .ref n3008, .int 0, .int 0, .int 0, .int 0, .int 0, .int 0, .int 0, .ref n3009, .ref n3010, .int 0, .int 0, .ref n3011, .ref n3012, .int 0, .int 0, .ref n3013, .ref n3014, .ref n3015, .int 0, .ref n3016, .ref n3017, .ref n3018])), (n3016, .inl (cy 1, 4, .inl (upd (upd (upd (upd (fun _ => 0) 0 (-1)) 1 (-1)) 2 (-1)) 3 (-1))))] [] [0, 1] [] rfl rfl (by decide +kernel) (fun pr => va_runV (As := [.int z1, .int z2]) (rest := []) ⟨hx, hb, hml, hown, hts⟩ (k198_X12_judge l D cy H.size n3900 z1 z2 n3016 n3000 n3001 n3002 n3003 n3004 n3005 n3006 n3007 n3008 n3009 n3010 n3011 n3012 n3013 n3014 n3015 n3017 n3018) (cwV 2 hts gw_X12_judge rfl rfl rfl (by decide +kernel) ⟨(by decide +kernel), (by decide +kernel)⟩) ⟨pr.1, va_recv hK hP (ci := 12) (q0 := 0) rfl rfl, pr.2⟩ rfl rfl hl.1 rfl (lv_room (Nat.le_of_ble_eq_true rfl)) dL_law_997 ⟨(by decide +kernel), (by decide +kernel)⟩) (fun r u H locs hw hP hD hS => ?_)
    rcases hw with ⟨c800034, rfl, rfl⟩ | ⟨c800035, c800036, rfl, rfl⟩ | ⟨c800037, c800038, c800039, rfl, rfl⟩ | ⟨c800040, c800041, c800042, rfl, rfl⟩ | ⟨c800043, c800044, c800045, rfl, rfl⟩ | ⟨c800046, c800047, c800048, rfl, rfl⟩
    · exact (no_b (lo_nlt c800003) (up_lt_w c800034) (by decide +kernel)).elim
    · have hP : va_P D vwCl [(n3900, .inr (12, [.ref n3000, .ref n3001, .ref n3002, .ref n3003, .int 1, .ref n3004, .int 0, .int 0, .int 0, .int 0, .int 0, .int 0, .int 0, .int 0, .int 0, .int (-1), .int 0, .ref n3005, .ref n3006, .int 0, .ref n3007, .ref n3008, .int 0, .int 0, .int 0, .int 0, .int 0, .int 0, .int 0, .ref n3009, .ref n3010, .int 0, .int 0, .ref n3011, .ref n3012, .int 0, .int 0, .ref n3013, .ref n3014, .ref n3015, .int 0, .ref n3016, .ref n3017, .ref n3018])), (n3016, .inl (cy 1, 4, .inl (upd (upd (upd (upd (fun _ => 0) 0 (-1)) 1 (-1)) 2 (-1)) 3 (-1))))] H := hP
      have hD : va_D A [(n3900, .inr (12, [.ref n3000, .ref n3001, .ref n3002, .ref n3003, .int 1, .ref n3004, .int 0, .int 0, .int 0, .int 0, .int 0, .int 0, .int 0, .int 0, .int 0, .int (-1), .int 0, .ref n3005, .ref n3006, .int 0, .ref n3007, .ref n3008, .int 0, .int 0, .int 0, .int 0, .int 0, .int 0, .int 0, .ref n3009, .ref n3010, .int 0, .int 0, .ref n3011, .ref n3012, .int 0, .int 0, .ref n3013, .ref n3014, .ref n3015, .int 0, .ref n3016, .ref n3017, .ref n3018])), (n3016, .inl (cy 1, 4, .inl (upd (upd (upd (upd (fun _ => 0) 0 (-1)) 1 (-1)) 2 (-1)) 3 (-1))))] := hD
      refine lv_istore (lv' := [(6, .int 0), (5, .int 1), (4, .int 0), (3, .ref n5000), (2, .ref n3900), (1, .ref n1900), (0, .ref b)]) hx hb dL_law_1000 hl (by decide +kernel) rfl (fun ls hl => ?_)
      refine lv_aload_n hx hb dL_law_1002 rfl (lv_at hl 4 rfl) ?_
      refine call_i (av := [.ref n3900]) F hP hD hS [(n3900, .inr (12, [.ref n3000, .ref n3001, .ref n3002, .ref n3003, .int 1, .ref n3004, .int 0, .int 0, .int 0, .int 0, .int 0, .int 0, .int 0, .int 0, .int 0, .int (-1), .int 0, .ref n3005, .ref n3006, .int 0, .ref n3007, .ref n3008, .int 0, .int 0, .int 0, .int 0, .int 0, .int 0, .int 0, .ref n3009, .ref n3010, .int 0, .int 0, .ref n3011, .ref n3012, .int 0, .int 0, .ref n3013, .ref n3014, .ref n3015, .int 0, .ref n3016, .ref n3017, .ref n3018]))] [(n3016, .inl (cy 1, 4, .inl (upd (upd (upd (upd (fun _ => 0) 0 (-1)) 1 (-1)) 2 (-1)) 3 (-1))))] [0] [1] rfl rfl (by decide +kernel) (fun pr => va_runV (As := []) (rest := []) ⟨hx, hb, hml, hown, hts⟩ (k333_X12_thrown l D cy H.size n3900 n3000 n3001 n3002 n3003 n3004 n3005 n3006 n3007 n3008 n3009 n3010 n3011 n3012 n3013 n3014 n3015 n3016 n3017 n3018) (cwV 0 hts gw_X12_thrown rfl rfl rfl (by decide +kernel) ⟨(by decide +kernel), (by decide +kernel)⟩) ⟨pr.1, va_recv hK hP (ci := 12) (q0 := 0) rfl rfl, pr.2⟩ rfl rfl hl.1 rfl (lv_room (Nat.le_of_ble_eq_true rfl)) dL_law_1003 ⟨(by decide +kernel), (by decide +kernel)⟩) (fun r u H locs hw hP hD hS => ?_)
      rcases hw with ⟨rfl, rfl⟩
      have hP : va_P D vwCl [(n3016, .inl (cy 1, 4, .inl (upd (upd (upd (upd (fun _ => 0) 0 (-1)) 1 (-1)) 2 (-1)) 3 (-1)))), (n3900, .inr (12, [.ref n3000, .ref n3001, .ref n3002, .ref n3003, .int 1, .ref n3004, .int 0, .int 0, .int 0, .int 0, .int 0, .int 0, .int 0, .int 0, .int 0, .int (-1), .int 0, .ref n3005, .ref n3006, .int 0, .ref n3007, .ref n3008, .int 0, .int 0, .int 0, .int 0, .int 0, .int 0, .int 0, .ref n3009, .ref n3010, .int 0, .int 0, .ref n3011, .ref n3012, .int 0, .int 0, .ref n3013, .ref n3014, .ref n3015, .int 0, .ref n3016, .ref n3017, .ref n3018]))] H := hP
      have hD : va_D A [(n3016, .inl (cy 1, 4, .inl (upd (upd (upd (upd (fun _ => 0) 0 (-1)) 1 (-1)) 2 (-1)) 3 (-1)))), (n3900, .inr (12, [.ref n3000, .ref n3001, .ref n3002, .ref n3003, .int 1, .ref n3004, .int 0, .int 0, .int 0, .int 0, .int 0, .int 0, .int 0, .int 0, .int 0, .int (-1), .int 0, .ref n3005, .ref n3006, .int 0, .ref n3007, .ref n3008, .int 0, .int 0, .int 0, .int 0, .int 0, .int 0, .int 0, .ref n3009, .ref n3010, .int 0, .int 0, .ref n3011, .ref n3012, .int 0, .int 0, .ref n3013, .ref n3014, .ref n3015, .int 0, .ref n3016, .ref n3017, .ref n3018]))] := hD
      refine lv_iload hx hb dL_law_1006 (lv_at hl 1 rfl) ?_
      refine lv_icmp_eq (tgt := 1013) hx hb dL_law_1008 (by decide +kernel) (fun _ => ?_) (fun h => absurd (by decide +kernel) h)
      refine lv_iload hx hb dL_law_1013 (lv_at hl 1 rfl) ?_
      refine lv_if_ne (tgt := 1030) hx hb dL_law_1015 (by decide +kernel) (fun _ => ?_) (fun h => absurd h (by decide +kernel))
      refine lv_goto (tgt := 2458) hx hb dL_law_1030 (by decide +kernel) ?_
      refine lv_iinc (v := 6) (lv' := [(4, .int 6), (6, .int 0), (5, .int 1), (3, .ref n5000), (2, .ref n3900), (1, .ref n1900), (0, .ref b)]) hx hb dL_law_2458 hl (k := 2) rfl (by decide) (by decide +kernel) rfl (fun ls hl => ?_)
      refine lv_goto (tgt := 23) hx hb dL_law_2461 (by decide +kernel) ?_
      refine lv_iload hx hb dL_law_23 (lv_at hl 0 rfl) ?_
      refine lv_aload_n hx hb dL_law_25 rfl (lv_at hl 6 rfl) ?_
      refine va_slen hx hb hX hbl hbA hS dL_law_26 ?_
      refine top_i (v := 6) rfl ?_
      refine lv_bipush (v := 6) hx hb dL_law_27 (by decide +kernel) ?_
      refine lv_isub hx hb dL_law_29 ?_
      refine top_i (v := 0) (by decide +kernel) ?_
      refine lv_icmp_gt (tgt := 2464) hx hb dL_law_30 (by decide +kernel) (fun _ => ?_) (fun h => absurd (by decide +kernel) h)
      refine lv_iconst (v := 1) hx hb dL_law_2464 (by decide +kernel) ?_
      refine va_forget (fun q hq => hAq _ (hS.2.2 q hq)) ?_
      refine W.widen (k := 600002) (n := 7302232) (by decide +kernel) (by decide +kernel) ?_
      exact lw_ret hx hb hr hlk dL_law_2465
    · exact (no_b (lo_nlt c800003) (up_nlt_w c800038) (by decide +kernel)).elim
    · exact (no_b (lo_nlt c800003) (up_nlt_w c800041) (by decide +kernel)).elim
    · exact (no_b (lo_nlt c800003) (up_nlt_w c800044) (by decide +kernel)).elim
    · exact (no_b (lo_nlt c800003) (up_nlt_w c800047) (by decide +kernel)).elim
  · subst c800006
    have hP : va_P D vwCl [(n3900, .inr (12, [.ref n3000, .ref n3001, .ref n3002, .ref n3003, .int 0, .ref n3004, .int 0, .int 0, .int 0, .int 0, .int 0, .int 0, .int 0, .int 0, .int 0, .int (-1), .int 0, .ref n3005, .ref n3006, .int 0, .ref n3007, .ref n3008, .int 0, .int 0, .int 0, .int 0, .int 0, .int 0, .int 0, .ref n3009, .ref n3010, .int 0, .int 0, .ref n3011, .ref n3012, .int 0, .int 0, .ref n3013, .ref n3014, .ref n3015, .int 0, .ref n3016, .ref n3017, .ref n3018])), (n3016, .inl (cy 1, 4, .inl (upd (upd (upd (upd (fun _ => 0) 0 (-1)) 1 (-1)) 2 (-1)) 3 (-1))))] H := hP
    have hD : va_D A [(n3900, .inr (12, [.ref n3000, .ref n3001, .ref n3002, .ref n3003, .int 0, .ref n3004, .int 0, .int 0, .int 0, .int 0, .int 0, .int 0, .int 0, .int 0, .int 0, .int (-1), .int 0, .ref n3005, .ref n3006, .int 0, .ref n3007, .ref n3008, .int 0, .int 0, .int 0, .int 0, .int 0, .int 0, .int 0, .ref n3009, .ref n3010, .int 0, .int 0, .ref n3011, .ref n3012, .int 0, .int 0, .ref n3013, .ref n3014, .ref n3015, .int 0, .ref n3016, .ref n3017, .ref n3018])), (n3016, .inl (cy 1, 4, .inl (upd (upd (upd (upd (fun _ => 0) 0 (-1)) 1 (-1)) 2 (-1)) 3 (-1))))] := hD
    refine lv_istore (lv' := [(5, .int 2), (4, .int 0), (3, .ref n5000), (2, .ref n3900), (1, .ref n1900), (0, .ref b)]) hx hb dL_law_982 hl (by decide +kernel) rfl (fun ls hl => ?_)
    refine lv_aload_n hx hb dL_law_984 rfl (lv_at hl 3 rfl) ?_
    refine lv_aload_n hx hb dL_law_985 rfl (lv_at hl 5 rfl) ?_
    refine lv_iload hx hb dL_law_986 (lv_at hl 1 rfl) ?_
    refine lv_iconst (v := 1) hx hb dL_law_988 (by decide +kernel) ?_
    refine lv_iadd hx hb dL_law_989 ?_
    refine top_i (v := 1) (by decide +kernel) ?_
    refine va_sld hx hb hX hbl hbA hS (i := 1) (vin (by decide +kernel)) dL_law_990 ?_
    refine top_i (v := 0) ez1 ?_
    refine lv_aload_n hx hb dL_law_991 rfl (lv_at hl 5 rfl) ?_
    refine lv_iload hx hb dL_law_992 (lv_at hl 1 rfl) ?_
    refine lv_iconst (v := 2) hx hb dL_law_994 (by decide +kernel) ?_
    refine lv_iadd hx hb dL_law_995 ?_
    refine top_i (v := 2) (by decide +kernel) ?_
    refine va_sld hx hb hX hbl hbA hS (i := 2) (vin (by decide +kernel)) dL_law_996 ?_
    refine top_i (v := z2) ez2 ?_
    refine call_i (av := [.ref n3900, .int 0, .int z2]) F hP hD hS [(n3900, .inr (12, [.ref n3000, .ref n3001, .ref n3002, .ref n3003, .int 0, .ref n3004, .int 0, .int 0, .int 0, .int 0, .int 0, .int 0, .int 0, .int 0, .int 0, .int (-1), .int 0, .ref n3005, .ref n3006, .int 0, .ref n3007, .ref n3008, .int 0, .int 0, .int 0, .int 0, .int 0, .int 0, .int 0, .ref n3009, .ref n3010, .int 0, .int 0, .ref n3011, .ref n3012, .int 0, .int 0, .ref n3013, .ref n3014, .ref n3015, .int 0, .ref n3016, .ref n3017, .ref n3018])), (n3016, .inl (cy 1, 4, .inl (upd (upd (upd (upd (fun _ => 0) 0 (-1)) 1 (-1)) 2 (-1)) 3 (-1))))] [] [0, 1] [] rfl rfl (by decide +kernel) (fun pr => va_runV (As := [.int 0, .int z2]) (rest := []) ⟨hx, hb, hml, hown, hts⟩ (k198_X12_judge l D cy H.size n3900 0 z2 n3016 n3000 n3001 n3002 n3003 n3004 n3005 n3006 n3007 n3008 n3009 n3010 n3011 n3012 n3013 n3014 n3015 n3017 n3018) (cwV 2 hts gw_X12_judge rfl rfl rfl (by decide +kernel) ⟨(by decide +kernel), (by decide +kernel)⟩) ⟨pr.1, va_recv hK hP (ci := 12) (q0 := 0) rfl rfl, pr.2⟩ rfl rfl hl.1 rfl (lv_room (Nat.le_of_ble_eq_true rfl)) dL_law_997 ⟨(by decide +kernel), (by decide +kernel)⟩) (fun r u H locs hw hP hD hS => ?_)
    rcases hw with ⟨c800052, rfl, rfl⟩ | ⟨c800053, c800054, rfl, rfl⟩ | ⟨c800055, c800056, c800057, rfl, rfl⟩ | ⟨c800058, c800059, c800060, rfl, rfl⟩ | ⟨c800061, c800062, c800063, rfl, rfl⟩ | ⟨c800064, c800065, c800066, rfl, rfl⟩
    · exact absurd c800052 (by decide +kernel)
    · exact absurd c800054 (by decide +kernel)
    · have hP : va_P D vwCl [(n3900, .inr (12, [.ref n3000, .ref n3001, .ref n3002, .ref n3003, .int 2, .ref n3004, .int 0, .int 0, .int 0, .int 0, .int 0, .int 0, .int 0, .int 0, .int 0, .int (-1), .int 0, .ref n3005, .ref n3006, .int 0, .ref n3007, .ref n3008, .int 0, .int 0, .int 0, .int 0, .int 0, .int 0, .int 0, .ref n3009, .ref n3010, .int 0, .int 0, .ref n3011, .ref n3012, .int 0, .int 0, .ref n3013, .ref n3014, .ref n3015, .int 0, .ref n3016, .ref n3017, .ref n3018])), (n3016, .inl (cy 1, 4, .inl (upd (upd (upd (upd (fun _ => 0) 0 (-1)) 1 (-1)) 2 (-1)) 3 (-1))))] H := hP
      have hD : va_D A [(n3900, .inr (12, [.ref n3000, .ref n3001, .ref n3002, .ref n3003, .int 2, .ref n3004, .int 0, .int 0, .int 0, .int 0, .int 0, .int 0, .int 0, .int 0, .int 0, .int (-1), .int 0, .ref n3005, .ref n3006, .int 0, .ref n3007, .ref n3008, .int 0, .int 0, .int 0, .int 0, .int 0, .int 0, .int 0, .ref n3009, .ref n3010, .int 0, .int 0, .ref n3011, .ref n3012, .int 0, .int 0, .ref n3013, .ref n3014, .ref n3015, .int 0, .ref n3016, .ref n3017, .ref n3018])), (n3016, .inl (cy 1, 4, .inl (upd (upd (upd (upd (fun _ => 0) 0 (-1)) 1 (-1)) 2 (-1)) 3 (-1))))] := hD
      refine lv_istore (lv' := [(6, .int 0), (5, .int 2), (4, .int 0), (3, .ref n5000), (2, .ref n3900), (1, .ref n1900), (0, .ref b)]) hx hb dL_law_1000 hl (by decide +kernel) rfl (fun ls hl => ?_)
      refine lv_aload_n hx hb dL_law_1002 rfl (lv_at hl 4 rfl) ?_
      refine call_i (av := [.ref n3900]) F hP hD hS [(n3900, .inr (12, [.ref n3000, .ref n3001, .ref n3002, .ref n3003, .int 2, .ref n3004, .int 0, .int 0, .int 0, .int 0, .int 0, .int 0, .int 0, .int 0, .int 0, .int (-1), .int 0, .ref n3005, .ref n3006, .int 0, .ref n3007, .ref n3008, .int 0, .int 0, .int 0, .int 0, .int 0, .int 0, .int 0, .ref n3009, .ref n3010, .int 0, .int 0, .ref n3011, .ref n3012, .int 0, .int 0, .ref n3013, .ref n3014, .ref n3015, .int 0, .ref n3016, .ref n3017, .ref n3018]))] [(n3016, .inl (cy 1, 4, .inl (upd (upd (upd (upd (fun _ => 0) 0 (-1)) 1 (-1)) 2 (-1)) 3 (-1))))] [0] [1] rfl rfl (by decide +kernel) (fun pr => va_runV (As := []) (rest := []) ⟨hx, hb, hml, hown, hts⟩ (k335_X12_thrown l D cy H.size n3900 n3000 n3001 n3002 n3003 n3004 n3005 n3006 n3007 n3008 n3009 n3010 n3011 n3012 n3013 n3014 n3015 n3016 n3017 n3018) (cwV 0 hts gw_X12_thrown rfl rfl rfl (by decide +kernel) ⟨(by decide +kernel), (by decide +kernel)⟩) ⟨pr.1, va_recv hK hP (ci := 12) (q0 := 0) rfl rfl, pr.2⟩ rfl rfl hl.1 rfl (lv_room (Nat.le_of_ble_eq_true rfl)) dL_law_1003 ⟨(by decide +kernel), (by decide +kernel)⟩) (fun r u H locs hw hP hD hS => ?_)
      rcases hw with ⟨rfl, rfl⟩
      have hP : va_P D vwCl [(n3016, .inl (cy 1, 4, .inl (upd (upd (upd (upd (fun _ => 0) 0 (-1)) 1 (-1)) 2 (-1)) 3 (-1)))), (n3900, .inr (12, [.ref n3000, .ref n3001, .ref n3002, .ref n3003, .int 2, .ref n3004, .int 0, .int 0, .int 0, .int 0, .int 0, .int 0, .int 0, .int 0, .int 0, .int (-1), .int 0, .ref n3005, .ref n3006, .int 0, .ref n3007, .ref n3008, .int 0, .int 0, .int 0, .int 0, .int 0, .int 0, .int 0, .ref n3009, .ref n3010, .int 0, .int 0, .ref n3011, .ref n3012, .int 0, .int 0, .ref n3013, .ref n3014, .ref n3015, .int 0, .ref n3016, .ref n3017, .ref n3018]))] H := hP
      have hD : va_D A [(n3016, .inl (cy 1, 4, .inl (upd (upd (upd (upd (fun _ => 0) 0 (-1)) 1 (-1)) 2 (-1)) 3 (-1)))), (n3900, .inr (12, [.ref n3000, .ref n3001, .ref n3002, .ref n3003, .int 2, .ref n3004, .int 0, .int 0, .int 0, .int 0, .int 0, .int 0, .int 0, .int 0, .int 0, .int (-1), .int 0, .ref n3005, .ref n3006, .int 0, .ref n3007, .ref n3008, .int 0, .int 0, .int 0, .int 0, .int 0, .int 0, .int 0, .ref n3009, .ref n3010, .int 0, .int 0, .ref n3011, .ref n3012, .int 0, .int 0, .ref n3013, .ref n3014, .ref n3015, .int 0, .ref n3016, .ref n3017, .ref n3018]))] := hD
      refine lv_iload hx hb dL_law_1006 (lv_at hl 1 rfl) ?_
      refine lv_icmp_eq (tgt := 1013) hx hb dL_law_1008 (by decide +kernel) (fun _ => ?_) (fun h => absurd (by decide +kernel) h)
      refine lv_iload hx hb dL_law_1013 (lv_at hl 1 rfl) ?_
      refine lv_if_ne (tgt := 1030) hx hb dL_law_1015 (by decide +kernel) (fun _ => ?_) (fun h => absurd h (by decide +kernel))
      refine lv_goto (tgt := 2458) hx hb dL_law_1030 (by decide +kernel) ?_
      refine lv_iinc (v := 6) (lv' := [(4, .int 6), (6, .int 0), (5, .int 2), (3, .ref n5000), (2, .ref n3900), (1, .ref n1900), (0, .ref b)]) hx hb dL_law_2458 hl (k := 2) rfl (by decide) (by decide +kernel) rfl (fun ls hl => ?_)
      refine lv_goto (tgt := 23) hx hb dL_law_2461 (by decide +kernel) ?_
      refine lv_iload hx hb dL_law_23 (lv_at hl 0 rfl) ?_
      refine lv_aload_n hx hb dL_law_25 rfl (lv_at hl 6 rfl) ?_
      refine va_slen hx hb hX hbl hbA hS dL_law_26 ?_
      refine top_i (v := 6) rfl ?_
      refine lv_bipush (v := 6) hx hb dL_law_27 (by decide +kernel) ?_
      refine lv_isub hx hb dL_law_29 ?_
      refine top_i (v := 0) (by decide +kernel) ?_
      refine lv_icmp_gt (tgt := 2464) hx hb dL_law_30 (by decide +kernel) (fun _ => ?_) (fun h => absurd (by decide +kernel) h)
      refine lv_iconst (v := 1) hx hb dL_law_2464 (by decide +kernel) ?_
      refine va_forget (fun q hq => hAq _ (hS.2.2 q hq)) ?_
      refine W.widen (k := 600002) (n := 7302232) (by decide +kernel) (by decide +kernel) ?_
      exact lw_ret hx hb hr hlk dL_law_2465
    · exact absurd c800060 (by decide +kernel)
    · exact absurd c800063 (by decide +kernel)
    · exact absurd c800066 (by decide +kernel)
  · subst c800009
    have hP : va_P D vwCl [(n3900, .inr (12, [.ref n3000, .ref n3001, .ref n3002, .ref n3003, .int 0, .ref n3004, .int 0, .int 0, .int 0, .int 0, .int 0, .int 0, .int 0, .int 0, .int 0, .int (-1), .int 0, .ref n3005, .ref n3006, .int 0, .ref n3007, .ref n3008, .int 0, .int 0, .int 0, .int 0, .int 0, .int 0, .int 0, .ref n3009, .ref n3010, .int 0, .int 0, .ref n3011, .ref n3012, .int 0, .int 0, .ref n3013, .ref n3014, .ref n3015, .int 0, .ref n3016, .ref n3017, .ref n3018])), (n3016, .inl (cy 1, 4, .inl (upd (upd (upd (upd (fun _ => 0) 0 (-1)) 1 (-1)) 2 (-1)) 3 (-1))))] H := hP
    have hD : va_D A [(n3900, .inr (12, [.ref n3000, .ref n3001, .ref n3002, .ref n3003, .int 0, .ref n3004, .int 0, .int 0, .int 0, .int 0, .int 0, .int 0, .int 0, .int 0, .int 0, .int (-1), .int 0, .ref n3005, .ref n3006, .int 0, .ref n3007, .ref n3008, .int 0, .int 0, .int 0, .int 0, .int 0, .int 0, .int 0, .ref n3009, .ref n3010, .int 0, .int 0, .ref n3011, .ref n3012, .int 0, .int 0, .ref n3013, .ref n3014, .ref n3015, .int 0, .ref n3016, .ref n3017, .ref n3018])), (n3016, .inl (cy 1, 4, .inl (upd (upd (upd (upd (fun _ => 0) 0 (-1)) 1 (-1)) 2 (-1)) 3 (-1))))] := hD
    refine lv_istore (lv' := [(5, .int 2), (4, .int 0), (3, .ref n5000), (2, .ref n3900), (1, .ref n1900), (0, .ref b)]) hx hb dL_law_982 hl (by decide +kernel) rfl (fun ls hl => ?_)
    refine lv_aload_n hx hb dL_law_984 rfl (lv_at hl 3 rfl) ?_
    refine lv_aload_n hx hb dL_law_985 rfl (lv_at hl 5 rfl) ?_
    refine lv_iload hx hb dL_law_986 (lv_at hl 1 rfl) ?_
    refine lv_iconst (v := 1) hx hb dL_law_988 (by decide +kernel) ?_
    refine lv_iadd hx hb dL_law_989 ?_
    refine top_i (v := 1) (by decide +kernel) ?_
    refine va_sld hx hb hX hbl hbA hS (i := 1) (vin (by decide +kernel)) dL_law_990 ?_
    refine top_i (v := 1) ez1 ?_
    refine lv_aload_n hx hb dL_law_991 rfl (lv_at hl 5 rfl) ?_
    refine lv_iload hx hb dL_law_992 (lv_at hl 1 rfl) ?_
    refine lv_iconst (v := 2) hx hb dL_law_994 (by decide +kernel) ?_
    refine lv_iadd hx hb dL_law_995 ?_
    refine top_i (v := 2) (by decide +kernel) ?_
    refine va_sld hx hb hX hbl hbA hS (i := 2) (vin (by decide +kernel)) dL_law_996 ?_
    refine top_i (v := z2) ez2 ?_
    refine call_i (av := [.ref n3900, .int 1, .int z2]) F hP hD hS [(n3900, .inr (12, [.ref n3000, .ref n3001, .ref n3002, .ref n3003, .int 0, .ref n3004, .int 0, .int 0, .int 0, .int 0, .int 0, .int 0, .int 0, .int 0, .int 0, .int (-1), .int 0, .ref n3005, .ref n3006, .int 0, .ref n3007, .ref n3008, .int 0, .int 0, .int 0, .int 0, .int 0, .int 0, .int 0, .ref n3009, .ref n3010, .int 0, .int 0, .ref n3011, .ref n3012, .int 0, .int 0, .ref n3013, .ref n3014, .ref n3015, .int 0, .ref n3016, .ref n3017, .ref n3018])), (n3016, .inl (cy 1, 4, .inl (upd (upd (upd (upd (fun _ => 0) 0 (-1)) 1 (-1)) 2 (-1)) 3 (-1))))] [] [0, 1] [] rfl rfl (by decide +kernel) (fun pr => va_runV (As := [.int 1, .int z2]) (rest := []) ⟨hx, hb, hml, hown, hts⟩ (k198_X12_judge l D cy H.size n3900 1 z2 n3016 n3000 n3001 n3002 n3003 n3004 n3005 n3006 n3007 n3008 n3009 n3010 n3011 n3012 n3013 n3014 n3015 n3017 n3018) (cwV 2 hts gw_X12_judge rfl rfl rfl (by decide +kernel) ⟨(by decide +kernel), (by decide +kernel)⟩) ⟨pr.1, va_recv hK hP (ci := 12) (q0 := 0) rfl rfl, pr.2⟩ rfl rfl hl.1 rfl (lv_room (Nat.le_of_ble_eq_true rfl)) dL_law_997 ⟨(by decide +kernel), (by decide +kernel)⟩) (fun r u H locs hw hP hD hS => ?_)
    rcases hw with ⟨c800070, rfl, rfl⟩ | ⟨c800071, c800072, rfl, rfl⟩ | ⟨c800073, c800074, c800075, rfl, rfl⟩ | ⟨c800076, c800077, c800078, rfl, rfl⟩ | ⟨c800079, c800080, c800081, rfl, rfl⟩ | ⟨c800082, c800083, c800084, rfl, rfl⟩
    · exact absurd c800070 (by decide +kernel)
    · exact absurd c800072 (by decide +kernel)
    · exact absurd c800075 (by decide +kernel)
    · have hP : va_P D vwCl [(n3900, .inr (12, [.ref n3000, .ref n3001, .ref n3002, .ref n3003, .int 2, .ref n3004, .int 0, .int 0, .int 0, .int 0, .int 0, .int 0, .int 0, .int 0, .int 0, .int (-1), .int 0, .ref n3005, .ref n3006, .int 0, .ref n3007, .ref n3008, .int 0, .int 0, .int 0, .int 0, .int 0, .int 0, .int 0, .ref n3009, .ref n3010, .int 0, .int 0, .ref n3011, .ref n3012, .int 0, .int 0, .ref n3013, .ref n3014, .ref n3015, .int 0, .ref n3016, .ref n3017, .ref n3018])), (n3016, .inl (cy 1, 4, .inl (upd (upd (upd (upd (fun _ => 0) 0 (-1)) 1 (-1)) 2 (-1)) 3 (-1))))] H := hP
      have hD : va_D A [(n3900, .inr (12, [.ref n3000, .ref n3001, .ref n3002, .ref n3003, .int 2, .ref n3004, .int 0, .int 0, .int 0, .int 0, .int 0, .int 0, .int 0, .int 0, .int 0, .int (-1), .int 0, .ref n3005, .ref n3006, .int 0, .ref n3007, .ref n3008, .int 0, .int 0, .int 0, .int 0, .int 0, .int 0, .int 0, .ref n3009, .ref n3010, .int 0, .int 0, .ref n3011, .ref n3012, .int 0, .int 0, .ref n3013, .ref n3014, .ref n3015, .int 0, .ref n3016, .ref n3017, .ref n3018])), (n3016, .inl (cy 1, 4, .inl (upd (upd (upd (upd (fun _ => 0) 0 (-1)) 1 (-1)) 2 (-1)) 3 (-1))))] := hD
      refine lv_istore (lv' := [(6, .int 0), (5, .int 2), (4, .int 0), (3, .ref n5000), (2, .ref n3900), (1, .ref n1900), (0, .ref b)]) hx hb dL_law_1000 hl (by decide +kernel) rfl (fun ls hl => ?_)
      refine lv_aload_n hx hb dL_law_1002 rfl (lv_at hl 4 rfl) ?_
      refine call_i (av := [.ref n3900]) F hP hD hS [(n3900, .inr (12, [.ref n3000, .ref n3001, .ref n3002, .ref n3003, .int 2, .ref n3004, .int 0, .int 0, .int 0, .int 0, .int 0, .int 0, .int 0, .int 0, .int 0, .int (-1), .int 0, .ref n3005, .ref n3006, .int 0, .ref n3007, .ref n3008, .int 0, .int 0, .int 0, .int 0, .int 0, .int 0, .int 0, .ref n3009, .ref n3010, .int 0, .int 0, .ref n3011, .ref n3012, .int 0, .int 0, .ref n3013, .ref n3014, .ref n3015, .int 0, .ref n3016, .ref n3017, .ref n3018]))] [(n3016, .inl (cy 1, 4, .inl (upd (upd (upd (upd (fun _ => 0) 0 (-1)) 1 (-1)) 2 (-1)) 3 (-1))))] [0] [1] rfl rfl (by decide +kernel) (fun pr => va_runV (As := []) (rest := []) ⟨hx, hb, hml, hown, hts⟩ (k335_X12_thrown l D cy H.size n3900 n3000 n3001 n3002 n3003 n3004 n3005 n3006 n3007 n3008 n3009 n3010 n3011 n3012 n3013 n3014 n3015 n3016 n3017 n3018) (cwV 0 hts gw_X12_thrown rfl rfl rfl (by decide +kernel) ⟨(by decide +kernel), (by decide +kernel)⟩) ⟨pr.1, va_recv hK hP (ci := 12) (q0 := 0) rfl rfl, pr.2⟩ rfl rfl hl.1 rfl (lv_room (Nat.le_of_ble_eq_true rfl)) dL_law_1003 ⟨(by decide +kernel), (by decide +kernel)⟩) (fun r u H locs hw hP hD hS => ?_)
      rcases hw with ⟨rfl, rfl⟩
      have hP : va_P D vwCl [(n3016, .inl (cy 1, 4, .inl (upd (upd (upd (upd (fun _ => 0) 0 (-1)) 1 (-1)) 2 (-1)) 3 (-1)))), (n3900, .inr (12, [.ref n3000, .ref n3001, .ref n3002, .ref n3003, .int 2, .ref n3004, .int 0, .int 0, .int 0, .int 0, .int 0, .int 0, .int 0, .int 0, .int 0, .int (-1), .int 0, .ref n3005, .ref n3006, .int 0, .ref n3007, .ref n3008, .int 0, .int 0, .int 0, .int 0, .int 0, .int 0, .int 0, .ref n3009, .ref n3010, .int 0, .int 0, .ref n3011, .ref n3012, .int 0, .int 0, .ref n3013, .ref n3014, .ref n3015, .int 0, .ref n3016, .ref n3017, .ref n3018]))] H := hP
      have hD : va_D A [(n3016, .inl (cy 1, 4, .inl (upd (upd (upd (upd (fun _ => 0) 0 (-1)) 1 (-1)) 2 (-1)) 3 (-1)))), (n3900, .inr (12, [.ref n3000, .ref n3001, .ref n3002, .ref n3003, .int 2, .ref n3004, .int 0, .int 0, .int 0, .int 0, .int 0, .int 0, .int 0, .int 0, .int 0, .int (-1), .int 0, .ref n3005, .ref n3006, .int 0, .ref n3007, .ref n3008, .int 0, .int 0, .int 0, .int 0, .int 0, .int 0, .int 0, .ref n3009, .ref n3010, .int 0, .int 0, .ref n3011, .ref n3012, .int 0, .int 0, .ref n3013, .ref n3014, .ref n3015, .int 0, .ref n3016, .ref n3017, .ref n3018]))] := hD
      refine lv_iload hx hb dL_law_1006 (lv_at hl 1 rfl) ?_
      refine lv_icmp_eq (tgt := 1013) hx hb dL_law_1008 (by decide +kernel) (fun _ => ?_) (fun h => absurd (by decide +kernel) h)
      refine lv_iload hx hb dL_law_1013 (lv_at hl 1 rfl) ?_
      refine lv_if_ne (tgt := 1030) hx hb dL_law_1015 (by decide +kernel) (fun _ => ?_) (fun h => absurd h (by decide +kernel))
      refine lv_goto (tgt := 2458) hx hb dL_law_1030 (by decide +kernel) ?_
      refine lv_iinc (v := 6) (lv' := [(4, .int 6), (6, .int 0), (5, .int 2), (3, .ref n5000), (2, .ref n3900), (1, .ref n1900), (0, .ref b)]) hx hb dL_law_2458 hl (k := 2) rfl (by decide) (by decide +kernel) rfl (fun ls hl => ?_)
      refine lv_goto (tgt := 23) hx hb dL_law_2461 (by decide +kernel) ?_
      refine lv_iload hx hb dL_law_23 (lv_at hl 0 rfl) ?_
      refine lv_aload_n hx hb dL_law_25 rfl (lv_at hl 6 rfl) ?_
      refine va_slen hx hb hX hbl hbA hS dL_law_26 ?_
      refine top_i (v := 6) rfl ?_
      refine lv_bipush (v := 6) hx hb dL_law_27 (by decide +kernel) ?_
      refine lv_isub hx hb dL_law_29 ?_
      refine top_i (v := 0) (by decide +kernel) ?_
      refine lv_icmp_gt (tgt := 2464) hx hb dL_law_30 (by decide +kernel) (fun _ => ?_) (fun h => absurd (by decide +kernel) h)
      refine lv_iconst (v := 1) hx hb dL_law_2464 (by decide +kernel) ?_
      refine va_forget (fun q hq => hAq _ (hS.2.2 q hq)) ?_
      refine W.widen (k := 600002) (n := 7302232) (by decide +kernel) (by decide +kernel) ?_
      exact lw_ret hx hb hr hlk dL_law_2465
    · exact absurd c800081 (by decide +kernel)
    · exact absurd c800084 (by decide +kernel)
  · subst c800012
    have hP : va_P D vwCl [(n3900, .inr (12, [.ref n3000, .ref n3001, .ref n3002, .ref n3003, .int 0, .ref n3004, .int 0, .int 0, .int 0, .int 0, .int 0, .int 0, .int 0, .int 0, .int 0, .int (-1), .int 0, .ref n3005, .ref n3006, .int 0, .ref n3007, .ref n3008, .int 0, .int 0, .int 0, .int 0, .int 0, .int 0, .int 0, .ref n3009, .ref n3010, .int 0, .int 0, .ref n3011, .ref n3012, .int 0, .int 0, .ref n3013, .ref n3014, .ref n3015, .int 0, .ref n3016, .ref n3017, .ref n3018])), (n3016, .inl (cy 1, 4, .inl (upd (upd (upd (upd (fun _ => 0) 0 (-1)) 1 (-1)) 2 (-1)) 3 (-1))))] H := hP
    have hD : va_D A [(n3900, .inr (12, [.ref n3000, .ref n3001, .ref n3002, .ref n3003, .int 0, .ref n3004, .int 0, .int 0, .int 0, .int 0, .int 0, .int 0, .int 0, .int 0, .int 0, .int (-1), .int 0, .ref n3005, .ref n3006, .int 0, .ref n3007, .ref n3008, .int 0, .int 0, .int 0, .int 0, .int 0, .int 0, .int 0, .ref n3009, .ref n3010, .int 0, .int 0, .ref n3011, .ref n3012, .int 0, .int 0, .ref n3013, .ref n3014, .ref n3015, .int 0, .ref n3016, .ref n3017, .ref n3018])), (n3016, .inl (cy 1, 4, .inl (upd (upd (upd (upd (fun _ => 0) 0 (-1)) 1 (-1)) 2 (-1)) 3 (-1))))] := hD
    refine lv_istore (lv' := [(5, .int 2), (4, .int 0), (3, .ref n5000), (2, .ref n3900), (1, .ref n1900), (0, .ref b)]) hx hb dL_law_982 hl (by decide +kernel) rfl (fun ls hl => ?_)
    refine lv_aload_n hx hb dL_law_984 rfl (lv_at hl 3 rfl) ?_
    refine lv_aload_n hx hb dL_law_985 rfl (lv_at hl 5 rfl) ?_
    refine lv_iload hx hb dL_law_986 (lv_at hl 1 rfl) ?_
    refine lv_iconst (v := 1) hx hb dL_law_988 (by decide +kernel) ?_
    refine lv_iadd hx hb dL_law_989 ?_
    refine top_i (v := 1) (by decide +kernel) ?_
    refine va_sld hx hb hX hbl hbA hS (i := 1) (vin (by decide +kernel)) dL_law_990 ?_
    refine top_i (v := 2) ez1 ?_
    refine lv_aload_n hx hb dL_law_991 rfl (lv_at hl 5 rfl) ?_
    refine lv_iload hx hb dL_law_992 (lv_at hl 1 rfl) ?_
    refine lv_iconst (v := 2) hx hb dL_law_994 (by decide +kernel) ?_
    refine lv_iadd hx hb dL_law_995 ?_
    refine top_i (v := 2) (by decide +kernel) ?_
    refine va_sld hx hb hX hbl hbA hS (i := 2) (vin (by decide +kernel)) dL_law_996 ?_
    refine top_i (v := z2) ez2 ?_
    refine call_i (av := [.ref n3900, .int 2, .int z2]) F hP hD hS [(n3900, .inr (12, [.ref n3000, .ref n3001, .ref n3002, .ref n3003, .int 0, .ref n3004, .int 0, .int 0, .int 0, .int 0, .int 0, .int 0, .int 0, .int 0, .int 0, .int (-1), .int 0, .ref n3005, .ref n3006, .int 0, .ref n3007, .ref n3008, .int 0, .int 0, .int 0, .int 0, .int 0, .int 0, .int 0, .ref n3009, .ref n3010, .int 0, .int 0, .ref n3011, .ref n3012, .int 0, .int 0, .ref n3013, .ref n3014, .ref n3015, .int 0, .ref n3016, .ref n3017, .ref n3018])), (n3016, .inl (cy 1, 4, .inl (upd (upd (upd (upd (fun _ => 0) 0 (-1)) 1 (-1)) 2 (-1)) 3 (-1))))] [] [0, 1] [] rfl rfl (by decide +kernel) (fun pr => va_runV (As := [.int 2, .int z2]) (rest := []) ⟨hx, hb, hml, hown, hts⟩ (k198_X12_judge l D cy H.size n3900 2 z2 n3016 n3000 n3001 n3002 n3003 n3004 n3005 n3006 n3007 n3008 n3009 n3010 n3011 n3012 n3013 n3014 n3015 n3017 n3018) (cwV 2 hts gw_X12_judge rfl rfl rfl (by decide +kernel) ⟨(by decide +kernel), (by decide +kernel)⟩) ⟨pr.1, va_recv hK hP (ci := 12) (q0 := 0) rfl rfl, pr.2⟩ rfl rfl hl.1 rfl (lv_room (Nat.le_of_ble_eq_true rfl)) dL_law_997 ⟨(by decide +kernel), (by decide +kernel)⟩) (fun r u H locs hw hP hD hS => ?_)
    rcases hw with ⟨c800088, rfl, rfl⟩ | ⟨c800089, c800090, rfl, rfl⟩ | ⟨c800091, c800092, c800093, rfl, rfl⟩ | ⟨c800094, c800095, c800096, rfl, rfl⟩ | ⟨c800097, c800098, c800099, rfl, rfl⟩ | ⟨c800100, c800101, c800102, rfl, rfl⟩
    · exact absurd c800088 (by decide +kernel)
    · exact absurd c800090 (by decide +kernel)
    · exact absurd c800093 (by decide +kernel)
    · exact absurd c800096 (by decide +kernel)
    · have hP : va_P D vwCl [(n3900, .inr (12, [.ref n3000, .ref n3001, .ref n3002, .ref n3003, .int 2, .ref n3004, .int 0, .int 0, .int 0, .int 0, .int 0, .int 0, .int 0, .int 0, .int 0, .int (-1), .int 0, .ref n3005, .ref n3006, .int 0, .ref n3007, .ref n3008, .int 0, .int 0, .int 0, .int 0, .int 0, .int 0, .int 0, .ref n3009, .ref n3010, .int 0, .int 0, .ref n3011, .ref n3012, .int 0, .int 0, .ref n3013, .ref n3014, .ref n3015, .int 0, .ref n3016, .ref n3017, .ref n3018])), (n3016, .inl (cy 1, 4, .inl (upd (upd (upd (upd (fun _ => 0) 0 (-1)) 1 (-1)) 2 (-1)) 3 (-1))))] H := hP
      have hD : va_D A [(n3900, .inr (12, [.ref n3000, .ref n3001, .ref n3002, .ref n3003, .int 2, .ref n3004, .int 0, .int 0, .int 0, .int 0, .int 0, .int 0, .int 0, .int 0, .int 0, .int (-1), .int 0, .ref n3005, .ref n3006, .int 0, .ref n3007, .ref n3008, .int 0, .int 0, .int 0, .int 0, .int 0, .int 0, .int 0, .ref n3009, .ref n3010, .int 0, .int 0, .ref n3011, .ref n3012, .int 0, .int 0, .ref n3013, .ref n3014, .ref n3015, .int 0, .ref n3016, .ref n3017, .ref n3018])), (n3016, .inl (cy 1, 4, .inl (upd (upd (upd (upd (fun _ => 0) 0 (-1)) 1 (-1)) 2 (-1)) 3 (-1))))] := hD
      refine lv_istore (lv' := [(6, .int 0), (5, .int 2), (4, .int 0), (3, .ref n5000), (2, .ref n3900), (1, .ref n1900), (0, .ref b)]) hx hb dL_law_1000 hl (by decide +kernel) rfl (fun ls hl => ?_)
      refine lv_aload_n hx hb dL_law_1002 rfl (lv_at hl 4 rfl) ?_
      refine call_i (av := [.ref n3900]) F hP hD hS [(n3900, .inr (12, [.ref n3000, .ref n3001, .ref n3002, .ref n3003, .int 2, .ref n3004, .int 0, .int 0, .int 0, .int 0, .int 0, .int 0, .int 0, .int 0, .int 0, .int (-1), .int 0, .ref n3005, .ref n3006, .int 0, .ref n3007, .ref n3008, .int 0, .int 0, .int 0, .int 0, .int 0, .int 0, .int 0, .ref n3009, .ref n3010, .int 0, .int 0, .ref n3011, .ref n3012, .int 0, .int 0, .ref n3013, .ref n3014, .ref n3015, .int 0, .ref n3016, .ref n3017, .ref n3018]))] [(n3016, .inl (cy 1, 4, .inl (upd (upd (upd (upd (fun _ => 0) 0 (-1)) 1 (-1)) 2 (-1)) 3 (-1))))] [0] [1] rfl rfl (by decide +kernel) (fun pr => va_runV (As := []) (rest := []) ⟨hx, hb, hml, hown, hts⟩ (k335_X12_thrown l D cy H.size n3900 n3000 n3001 n3002 n3003 n3004 n3005 n3006 n3007 n3008 n3009 n3010 n3011 n3012 n3013 n3014 n3015 n3016 n3017 n3018) (cwV 0 hts gw_X12_thrown rfl rfl rfl (by decide +kernel) ⟨(by decide +kernel), (by decide +kernel)⟩) ⟨pr.1, va_recv hK hP (ci := 12) (q0 := 0) rfl rfl, pr.2⟩ rfl rfl hl.1 rfl (lv_room (Nat.le_of_ble_eq_true rfl)) dL_law_1003 ⟨(by decide +kernel), (by decide +kernel)⟩) (fun r u H locs hw hP hD hS => ?_)
      rcases hw with ⟨rfl, rfl⟩
      have hP : va_P D vwCl [(n3016, .inl (cy 1, 4, .inl (upd (upd (upd (upd (fun _ => 0) 0 (-1)) 1 (-1)) 2 (-1)) 3 (-1)))), (n3900, .inr (12, [.ref n3000, .ref n3001, .ref n3002, .ref n3003, .int 2, .ref n3004, .int 0, .int 0, .int 0, .int 0, .int 0, .int 0, .int 0, .int 0, .int 0, .int (-1), .int 0, .ref n3005, .ref n3006, .int 0, .ref n3007, .ref n3008, .int 0, .int 0, .int 0, .int 0, .int 0, .int 0, .int 0, .ref n3009, .ref n3010, .int 0, .int 0, .ref n3011, .ref n3012, .int 0, .int 0, .ref n3013, .ref n3014, .ref n3015, .int 0, .ref n3016, .ref n3017, .ref n3018]))] H := hP
      have hD : va_D A [(n3016, .inl (cy 1, 4, .inl (upd (upd (upd (upd (fun _ => 0) 0 (-1)) 1 (-1)) 2 (-1)) 3 (-1)))), (n3900, .inr (12, [.ref n3000, .ref n3001, .ref n3002, .ref n3003, .int 2, .ref n3004, .int 0, .int 0, .int 0, .int 0, .int 0, .int 0, .int 0, .int 0, .int 0, .int (-1), .int 0, .ref n3005, .ref n3006, .int 0, .ref n3007, .ref n3008, .int 0, .int 0, .int 0, .int 0, .int 0, .int 0, .int 0, .ref n3009, .ref n3010, .int 0, .int 0, .ref n3011, .ref n3012, .int 0, .int 0, .ref n3013, .ref n3014, .ref n3015, .int 0, .ref n3016, .ref n3017, .ref n3018]))] := hD
      refine lv_iload hx hb dL_law_1006 (lv_at hl 1 rfl) ?_
      refine lv_icmp_eq (tgt := 1013) hx hb dL_law_1008 (by decide +kernel) (fun _ => ?_) (fun h => absurd (by decide +kernel) h)
      refine lv_iload hx hb dL_law_1013 (lv_at hl 1 rfl) ?_
      refine lv_if_ne (tgt := 1030) hx hb dL_law_1015 (by decide +kernel) (fun _ => ?_) (fun h => absurd h (by decide +kernel))
      refine lv_goto (tgt := 2458) hx hb dL_law_1030 (by decide +kernel) ?_
      refine lv_iinc (v := 6) (lv' := [(4, .int 6), (6, .int 0), (5, .int 2), (3, .ref n5000), (2, .ref n3900), (1, .ref n1900), (0, .ref b)]) hx hb dL_law_2458 hl (k := 2) rfl (by decide) (by decide +kernel) rfl (fun ls hl => ?_)
      refine lv_goto (tgt := 23) hx hb dL_law_2461 (by decide +kernel) ?_
      refine lv_iload hx hb dL_law_23 (lv_at hl 0 rfl) ?_
      refine lv_aload_n hx hb dL_law_25 rfl (lv_at hl 6 rfl) ?_
      refine va_slen hx hb hX hbl hbA hS dL_law_26 ?_
      refine top_i (v := 6) rfl ?_
      refine lv_bipush (v := 6) hx hb dL_law_27 (by decide +kernel) ?_
      refine lv_isub hx hb dL_law_29 ?_
      refine top_i (v := 0) (by decide +kernel) ?_
      refine lv_icmp_gt (tgt := 2464) hx hb dL_law_30 (by decide +kernel) (fun _ => ?_) (fun h => absurd (by decide +kernel) h)
      refine lv_iconst (v := 1) hx hb dL_law_2464 (by decide +kernel) ?_
      refine va_forget (fun q hq => hAq _ (hS.2.2 q hq)) ?_
      refine W.widen (k := 600002) (n := 7302232) (by decide +kernel) (by decide +kernel) ?_
      exact lw_ret hx hb hr hlk dL_law_2465
    · exact absurd c800102 (by decide +kernel)
  · subst c800015
    have hP : va_P D vwCl [(n3900, .inr (12, [.ref n3000, .ref n3001, .ref n3002, .ref n3003, .int 0, .ref n3004, .int 0, .int 0, .int 0, .int 0, .int 0, .int 0, .int 0, .int 0, .int 0, .int (-1), .int 0, .ref n3005, .ref n3006, .int 0, .ref n3007, .ref n3008, .int 0, .int 0, .int 0, .int 0, .int 0, .int 0, .int 0, .ref n3009, .ref n3010, .int 0, .int 0, .ref n3011, .ref n3012, .int 0, .int 0, .ref n3013, .ref n3014, .ref n3015, .int 0, .ref n3016, .ref n3017, .ref n3018])), (n3016, .inl (cy 1, 4, .inl (upd (upd (upd (upd (fun _ => 0) 0 (-1)) 1 (-1)) 2 (-1)) 3 (-1))))] H := hP
    have hD : va_D A [(n3900, .inr (12, [.ref n3000, .ref n3001, .ref n3002, .ref n3003, .int 0, .ref n3004, .int 0, .int 0, .int 0, .int 0, .int 0, .int 0, .int 0, .int 0, .int 0, .int (-1), .int 0, .ref n3005, .ref n3006, .int 0, .ref n3007, .ref n3008, .int 0, .int 0, .int 0, .int 0, .int 0, .int 0, .int 0, .ref n3009, .ref n3010, .int 0, .int 0, .ref n3011, .ref n3012, .int 0, .int 0, .ref n3013, .ref n3014, .ref n3015, .int 0, .ref n3016, .ref n3017, .ref n3018])), (n3016, .inl (cy 1, 4, .inl (upd (upd (upd (upd (fun _ => 0) 0 (-1)) 1 (-1)) 2 (-1)) 3 (-1))))] := hD
    refine lv_istore (lv' := [(5, .int 2), (4, .int 0), (3, .ref n5000), (2, .ref n3900), (1, .ref n1900), (0, .ref b)]) hx hb dL_law_982 hl (by decide +kernel) rfl (fun ls hl => ?_)
    refine lv_aload_n hx hb dL_law_984 rfl (lv_at hl 3 rfl) ?_
    refine lv_aload_n hx hb dL_law_985 rfl (lv_at hl 5 rfl) ?_
    refine lv_iload hx hb dL_law_986 (lv_at hl 1 rfl) ?_
    refine lv_iconst (v := 1) hx hb dL_law_988 (by decide +kernel) ?_
    refine lv_iadd hx hb dL_law_989 ?_
    refine top_i (v := 1) (by decide +kernel) ?_
    refine va_sld hx hb hX hbl hbA hS (i := 1) (vin (by decide +kernel)) dL_law_990 ?_
    refine top_i (v := 3) ez1 ?_
    refine lv_aload_n hx hb dL_law_991 rfl (lv_at hl 5 rfl) ?_
    refine lv_iload hx hb dL_law_992 (lv_at hl 1 rfl) ?_
    refine lv_iconst (v := 2) hx hb dL_law_994 (by decide +kernel) ?_
    refine lv_iadd hx hb dL_law_995 ?_
    refine top_i (v := 2) (by decide +kernel) ?_
    refine va_sld hx hb hX hbl hbA hS (i := 2) (vin (by decide +kernel)) dL_law_996 ?_
    refine top_i (v := z2) ez2 ?_
    refine call_i (av := [.ref n3900, .int 3, .int z2]) F hP hD hS [(n3900, .inr (12, [.ref n3000, .ref n3001, .ref n3002, .ref n3003, .int 0, .ref n3004, .int 0, .int 0, .int 0, .int 0, .int 0, .int 0, .int 0, .int 0, .int 0, .int (-1), .int 0, .ref n3005, .ref n3006, .int 0, .ref n3007, .ref n3008, .int 0, .int 0, .int 0, .int 0, .int 0, .int 0, .int 0, .ref n3009, .ref n3010, .int 0, .int 0, .ref n3011, .ref n3012, .int 0, .int 0, .ref n3013, .ref n3014, .ref n3015, .int 0, .ref n3016, .ref n3017, .ref n3018])), (n3016, .inl (cy 1, 4, .inl (upd (upd (upd (upd (fun _ => 0) 0 (-1)) 1 (-1)) 2 (-1)) 3 (-1))))] [] [0, 1] [] rfl rfl (by decide +kernel) (fun pr => va_runV (As := [.int 3, .int z2]) (rest := []) ⟨hx, hb, hml, hown, hts⟩ (k198_X12_judge l D cy H.size n3900 3 z2 n3016 n3000 n3001 n3002 n3003 n3004 n3005 n3006 n3007 n3008 n3009 n3010 n3011 n3012 n3013 n3014 n3015 n3017 n3018) (cwV 2 hts gw_X12_judge rfl rfl rfl (by decide +kernel) ⟨(by decide +kernel), (by decide +kernel)⟩) ⟨pr.1, va_recv hK hP (ci := 12) (q0 := 0) rfl rfl, pr.2⟩ rfl rfl hl.1 rfl (lv_room (Nat.le_of_ble_eq_true rfl)) dL_law_997 ⟨(by decide +kernel), (by decide +kernel)⟩) (fun r u H locs hw hP hD hS => ?_)
    rcases hw with ⟨c800106, rfl, rfl⟩ | ⟨c800107, c800108, rfl, rfl⟩ | ⟨c800109, c800110, c800111, rfl, rfl⟩ | ⟨c800112, c800113, c800114, rfl, rfl⟩ | ⟨c800115, c800116, c800117, rfl, rfl⟩ | ⟨c800118, c800119, c800120, rfl, rfl⟩
    · exact absurd c800106 (by decide +kernel)
    · exact absurd c800108 (by decide +kernel)
    · exact absurd c800111 (by decide +kernel)
    · exact absurd c800114 (by decide +kernel)
    · exact absurd c800117 (by decide +kernel)
    · have hP : va_P D vwCl [(n3900, .inr (12, [.ref n3000, .ref n3001, .ref n3002, .ref n3003, .int 2, .ref n3004, .int 0, .int 0, .int 0, .int 0, .int 0, .int 0, .int 0, .int 0, .int 0, .int (-1), .int 0, .ref n3005, .ref n3006, .int 0, .ref n3007, .ref n3008, .int 0, .int 0, .int 0, .int 0, .int 0, .int 0, .int 0, .ref n3009, .ref n3010, .int 0, .int 0, .ref n3011, .ref n3012, .int 0, .int 0, .ref n3013, .ref n3014, .ref n3015, .int 0, .ref n3016, .ref n3017, .ref n3018])), (n3016, .inl (cy 1, 4, .inl (upd (upd (upd (upd (fun _ => 0) 0 (-1)) 1 (-1)) 2 (-1)) 3 (-1))))] H := hP
      have hD : va_D A [(n3900, .inr (12, [.ref n3000, .ref n3001, .ref n3002, .ref n3003, .int 2, .ref n3004, .int 0, .int 0, .int 0, .int 0, .int 0, .int 0, .int 0, .int 0, .int 0, .int (-1), .int 0, .ref n3005, .ref n3006, .int 0, .ref n3007, .ref n3008, .int 0, .int 0, .int 0, .int 0, .int 0, .int 0, .int 0, .ref n3009, .ref n3010, .int 0, .int 0, .ref n3011, .ref n3012, .int 0, .int 0, .ref n3013, .ref n3014, .ref n3015, .int 0, .ref n3016, .ref n3017, .ref n3018])), (n3016, .inl (cy 1, 4, .inl (upd (upd (upd (upd (fun _ => 0) 0 (-1)) 1 (-1)) 2 (-1)) 3 (-1))))] := hD
      refine lv_istore (lv' := [(6, .int 0), (5, .int 2), (4, .int 0), (3, .ref n5000), (2, .ref n3900), (1, .ref n1900), (0, .ref b)]) hx hb dL_law_1000 hl (by decide +kernel) rfl (fun ls hl => ?_)
      refine lv_aload_n hx hb dL_law_1002 rfl (lv_at hl 4 rfl) ?_
      refine call_i (av := [.ref n3900]) F hP hD hS [(n3900, .inr (12, [.ref n3000, .ref n3001, .ref n3002, .ref n3003, .int 2, .ref n3004, .int 0, .int 0, .int 0, .int 0, .int 0, .int 0, .int 0, .int 0, .int 0, .int (-1), .int 0, .ref n3005, .ref n3006, .int 0, .ref n3007, .ref n3008, .int 0, .int 0, .int 0, .int 0, .int 0, .int 0, .int 0, .ref n3009, .ref n3010, .int 0, .int 0, .ref n3011, .ref n3012, .int 0, .int 0, .ref n3013, .ref n3014, .ref n3015, .int 0, .ref n3016, .ref n3017, .ref n3018]))] [(n3016, .inl (cy 1, 4, .inl (upd (upd (upd (upd (fun _ => 0) 0 (-1)) 1 (-1)) 2 (-1)) 3 (-1))))] [0] [1] rfl rfl (by decide +kernel) (fun pr => va_runV (As := []) (rest := []) ⟨hx, hb, hml, hown, hts⟩ (k335_X12_thrown l D cy H.size n3900 n3000 n3001 n3002 n3003 n3004 n3005 n3006 n3007 n3008 n3009 n3010 n3011 n3012 n3013 n3014 n3015 n3016 n3017 n3018) (cwV 0 hts gw_X12_thrown rfl rfl rfl (by decide +kernel) ⟨(by decide +kernel), (by decide +kernel)⟩) ⟨pr.1, va_recv hK hP (ci := 12) (q0 := 0) rfl rfl, pr.2⟩ rfl rfl hl.1 rfl (lv_room (Nat.le_of_ble_eq_true rfl)) dL_law_1003 ⟨(by decide +kernel), (by decide +kernel)⟩) (fun r u H locs hw hP hD hS => ?_)
      rcases hw with ⟨rfl, rfl⟩
      have hP : va_P D vwCl [(n3016, .inl (cy 1, 4, .inl (upd (upd (upd (upd (fun _ => 0) 0 (-1)) 1 (-1)) 2 (-1)) 3 (-1)))), (n3900, .inr (12, [.ref n3000, .ref n3001, .ref n3002, .ref n3003, .int 2, .ref n3004, .int 0, .int 0, .int 0, .int 0, .int 0, .int 0, .int 0, .int 0, .int 0, .int (-1), .int 0, .ref n3005, .ref n3006, .int 0, .ref n3007, .ref n3008, .int 0, .int 0, .int 0, .int 0, .int 0, .int 0, .int 0, .ref n3009, .ref n3010, .int 0, .int 0, .ref n3011, .ref n3012, .int 0, .int 0, .ref n3013, .ref n3014, .ref n3015, .int 0, .ref n3016, .ref n3017, .ref n3018]))] H := hP
      have hD : va_D A [(n3016, .inl (cy 1, 4, .inl (upd (upd (upd (upd (fun _ => 0) 0 (-1)) 1 (-1)) 2 (-1)) 3 (-1)))), (n3900, .inr (12, [.ref n3000, .ref n3001, .ref n3002, .ref n3003, .int 2, .ref n3004, .int 0, .int 0, .int 0, .int 0, .int 0, .int 0, .int 0, .int 0, .int 0, .int (-1), .int 0, .ref n3005, .ref n3006, .int 0, .ref n3007, .ref n3008, .int 0, .int 0, .int 0, .int 0, .int 0, .int 0, .int 0, .ref n3009, .ref n3010, .int 0, .int 0, .ref n3011, .ref n3012, .int 0, .int 0, .ref n3013, .ref n3014, .ref n3015, .int 0, .ref n3016, .ref n3017, .ref n3018]))] := hD
      refine lv_iload hx hb dL_law_1006 (lv_at hl 1 rfl) ?_
      refine lv_icmp_eq (tgt := 1013) hx hb dL_law_1008 (by decide +kernel) (fun _ => ?_) (fun h => absurd (by decide +kernel) h)
      refine lv_iload hx hb dL_law_1013 (lv_at hl 1 rfl) ?_
      refine lv_if_ne (tgt := 1030) hx hb dL_law_1015 (by decide +kernel) (fun _ => ?_) (fun h => absurd h (by decide +kernel))
      refine lv_goto (tgt := 2458) hx hb dL_law_1030 (by decide +kernel) ?_
      refine lv_iinc (v := 6) (lv' := [(4, .int 6), (6, .int 0), (5, .int 2), (3, .ref n5000), (2, .ref n3900), (1, .ref n1900), (0, .ref b)]) hx hb dL_law_2458 hl (k := 2) rfl (by decide) (by decide +kernel) rfl (fun ls hl => ?_)
      refine lv_goto (tgt := 23) hx hb dL_law_2461 (by decide +kernel) ?_
      refine lv_iload hx hb dL_law_23 (lv_at hl 0 rfl) ?_
      refine lv_aload_n hx hb dL_law_25 rfl (lv_at hl 6 rfl) ?_
      refine va_slen hx hb hX hbl hbA hS dL_law_26 ?_
      refine top_i (v := 6) rfl ?_
      refine lv_bipush (v := 6) hx hb dL_law_27 (by decide +kernel) ?_
      refine lv_isub hx hb dL_law_29 ?_
      refine top_i (v := 0) (by decide +kernel) ?_
      refine lv_icmp_gt (tgt := 2464) hx hb dL_law_30 (by decide +kernel) (fun _ => ?_) (fun h => absurd (by decide +kernel) h)
      refine lv_iconst (v := 1) hx hb dL_law_2464 (by decide +kernel) ?_
      refine va_forget (fun q hq => hAq _ (hS.2.2 q hq)) ?_
      refine W.widen (k := 600002) (n := 7302232) (by decide +kernel) (by decide +kernel) ?_
      exact lw_ret hx hb hr hlk dL_law_2465
set_option maxHeartbeats 4000000 in
set_option maxRecDepth 100000 in
theorem law_c15 {p : Program} {l : Launch} {e : Env} {s : State} {m : MethodId} {below : List Frame} {meth : Method} {c : Code} {b : Nat} {xs : Nat → Int32} {D : va_G} {cy : Nat → ClassId} {A : Nat → Prop} (hlT : l.stackTraces = false) (F : Fx D cy p m c cL_law 8 s #[Value.ref b] lw_tbl RL A) (hr : meth.sig.returnType = ret) (hlk : meth.locks = false) (hX : va_X b 6 xs s s.heap) (hbl : b < s.heap.size) (hbA : ¬ A b) (hAq : ∀ q, A q → s.heap.size ≤ q) {H : Heap} {locs : List Loc} {ls : Array Slot} (n1900 n1000 n1001 n1017 n1034 n1039 n1041 n1042 n1043 n1044 n1048 n1056 n1057 n1122 n1124 n1126 n1128 n1123 n1125 n1127 n1129 n3900 n3000 n3001 n3002 n3003 n3004 n3005 n3006 n3007 n3008 n3009 n3010 n3011 n3012 n3013 n3014 n3015 n3016 n3017 n3018 n5000 : Nat) (hP : va_P D vwCl [(n1900, .inr (11, [.ref n1000, .int 0, .ref n1001, .ref n1017, .ref n1034, .ref n1039, .ref n1041, .ref n1042, .ref n1043, .ref n1044, .ref n1048, .ref n1056, .ref n1057, .int 0])), (n1043, .inl (cy 5, 4, .inr (.inr (.inr (.inr (va_up (va_up (va_up (va_up (fun _ => none) 0 (some n1122)) 1 (some n1124)) 2 (some n1126)) 3 (some n1128))))))), (n1122, .inr (10, [.int (-1), .int 0, .ref n1123])), (n1124, .inr (10, [.int (-1), .int 0, .ref n1125])), (n1126, .inr (10, [.int (-1), .int 0, .ref n1127])), (n1128, .inr (10, [.int (-1), .int 0, .ref n1129])), (n3900, .inr (12, [.ref n3000, .ref n3001, .ref n3002, .ref n3003, .int 0, .ref n3004, .int 0, .int 0, .int 0, .int 0, .int 0, .int 0, .int 0, .int 0, .int 0, .int (-1), .int 0, .ref n3005, .ref n3006, .int 0, .ref n3007, .ref n3008, .int 0, .int 0, .int 0, .int 0, .int 0, .int 0, .int 0, .ref n3009, .ref n3010, .int 0, .int 0, .ref n3011, .ref n3012, .int 0, .int 0, .ref n3013, .ref n3014, .ref n3015, .int 0, .ref n3016, .ref n3017, .ref n3018])), (n3016, .inl (cy 1, 4, .inl (upd (upd (upd (upd (fun _ => 0) 0 (-1)) 1 (-1)) 2 (-1)) 3 (-1))))] H) (hD : va_D A [(n1900, .inr (11, [.ref n1000, .int 0, .ref n1001, .ref n1017, .ref n1034, .ref n1039, .ref n1041, .ref n1042, .ref n1043, .ref n1044, .ref n1048, .ref n1056, .ref n1057, .int 0])), (n1043, .inl (cy 5, 4, .inr (.inr (.inr (.inr (va_up (va_up (va_up (va_up (fun _ => none) 0 (some n1122)) 1 (some n1124)) 2 (some n1126)) 3 (some n1128))))))), (n1122, .inr (10, [.int (-1), .int 0, .ref n1123])), (n1124, .inr (10, [.int (-1), .int 0, .ref n1125])), (n1126, .inr (10, [.int (-1), .int 0, .ref n1127])), (n1128, .inr (10, [.int (-1), .int 0, .ref n1129])), (n3900, .inr (12, [.ref n3000, .ref n3001, .ref n3002, .ref n3003, .int 0, .ref n3004, .int 0, .int 0, .int 0, .int 0, .int 0, .int 0, .int 0, .int 0, .int 0, .int (-1), .int 0, .ref n3005, .ref n3006, .int 0, .ref n3007, .ref n3008, .int 0, .int 0, .int 0, .int 0, .int 0, .int 0, .int 0, .ref n3009, .ref n3010, .int 0, .int 0, .ref n3011, .ref n3012, .int 0, .int 0, .ref n3013, .ref n3014, .ref n3015, .int 0, .ref n3016, .ref n3017, .ref n3018])), (n3016, .inl (cy 1, 4, .inl (upd (upd (upd (upd (fun _ => 0) 0 (-1)) 1 (-1)) 2 (-1)) 3 (-1))))]) (hS : va_S A s.heap H locs) (hl : lv_has ls 8 [(4, .int 0), (3, .ref n5000), (2, .ref n3900), (1, .ref n1900), (0, .ref b)]) : W p l e room_1 s m #[Value.ref b] below meth c H locs 152 18765 (lw_Z below #[Value.ref b] s) (F0 m 1033 ls []) := by
  obtain ⟨⟨hx, hb, hml, hown, hts⟩, hK, hG, hZ, hA⟩ := id F
  obtain ⟨z1, ez1⟩ : ∃ z, xs 1 = z := ⟨_, rfl⟩
  obtain ⟨z2, ez2⟩ : ∃ z, xs 2 = z := ⟨_, rfl⟩
  obtain ⟨z3, ez3⟩ : ∃ z, xs 3 = z := ⟨_, rfl⟩
  obtain ⟨z4, ez4⟩ : ∃ z, xs 4 = z := ⟨_, rfl⟩
  obtain ⟨z5, ez5⟩ : ∃ z, xs 5 = z := ⟨_, rfl⟩
  refine lv_aload_n hx hb dL_law_1033 rfl (lv_at hl 3 rfl) ?_
  refine lv_aload_n hx hb dL_law_1034 rfl (lv_at hl 4 rfl) ?_
  refine lv_iload hx hb dL_law_1035 (lv_at hl 0 rfl) ?_
  refine lv_iconst (v := 1) hx hb dL_law_1037 (by decide +kernel) ?_
  refine lv_iadd hx hb dL_law_1038 ?_
  refine top_i (v := 1) (by decide +kernel) ?_
  refine va_sld hx hb hX hbl hbA hS (i := 1) (vin (by decide +kernel)) dL_law_1039 ?_
  refine top_i (v := z1) ez1 ?_
  refine lv_aload_n hx hb dL_law_1040 rfl (lv_at hl 1 rfl) ?_
  refine call_i (av := [.ref n1900, .int z1, .ref n5000]) F hP hD hS [(n1900, .inr (11, [.ref n1000, .int 0, .ref n1001, .ref n1017, .ref n1034, .ref n1039, .ref n1041, .ref n1042, .ref n1043, .ref n1044, .ref n1048, .ref n1056, .ref n1057, .int 0])), (n1043, .inl (cy 5, 4, .inr (.inr (.inr (.inr (va_up (va_up (va_up (va_up (fun _ => none) 0 (some n1122)) 1 (some n1124)) 2 (some n1126)) 3 (some n1128))))))), (n1122, .inr (10, [.int (-1), .int 0, .ref n1123])), (n1124, .inr (10, [.int (-1), .int 0, .ref n1125])), (n1126, .inr (10, [.int (-1), .int 0, .ref n1127])), (n1128, .inr (10, [.int (-1), .int 0, .ref n1129]))] [(n3900, .inr (12, [.ref n3000, .ref n3001, .ref n3002, .ref n3003, .int 0, .ref n3004, .int 0, .int 0, .int 0, .int 0, .int 0, .int 0, .int 0, .int 0, .int 0, .int (-1), .int 0, .ref n3005, .ref n3006, .int 0, .ref n3007, .ref n3008, .int 0, .int 0, .int 0, .int 0, .int 0, .int 0, .int 0, .ref n3009, .ref n3010, .int 0, .int 0, .ref n3011, .ref n3012, .int 0, .int 0, .ref n3013, .ref n3014, .ref n3015, .int 0, .ref n3016, .ref n3017, .ref n3018])), (n3016, .inl (cy 1, 4, .inl (upd (upd (upd (upd (fun _ => 0) 0 (-1)) 1 (-1)) 2 (-1)) 3 (-1))))] [0, 1, 2, 3, 4, 5] [6, 7] rfl rfl (by decide +kernel) (fun pr => vx_runSW (As := [.ref n1900, .int z1, .ref n5000]) (rest := []) ⟨hx, hb, hml, hown, hts⟩ (k312_L_perform l hlT D cy H.size n1900 z1 n5000 n1043 n1122 n1124 n1126 n1128 n1000 n1001 n1017 n1034 n1039 n1041 n1042 n1044 n1048 n1056 n1057 n1123 n1125 n1127 n1129) (vx_cwSW 3 hts gw_L_perform rfl rfl rfl (by decide +kernel) ⟨(by decide +kernel), (by decide +kernel)⟩) pr rfl rfl hl.1 rfl (lv_room (Nat.le_of_ble_eq_true rfl)) dL_law_1041 ⟨(by decide +kernel), (by decide +kernel)⟩) (fun r u H locs hw hP hD hS => ?_)
  rcases hw with ⟨c800001, rfl, rfl⟩ | ⟨c800002, c800003, rfl, rfl⟩ | ⟨c800004, c800005, c800006, rfl, rfl⟩ | ⟨c800007, c800008, c800009, rfl, rfl⟩ | ⟨c800010, c800011, c800012, rfl, rfl⟩ | ⟨c800013, c800014, c800015, rfl, rfl⟩
  · have hP : va_P D vwCl [(n3900, .inr (12, [.ref n3000, .ref n3001, .ref n3002, .ref n3003, .int 0, .ref n3004, .int 0, .int 0, .int 0, .int 0, .int 0, .int 0, .int 0, .int 0, .int 0, .int (-1), .int 0, .ref n3005, .ref n3006, .int 0, .ref n3007, .ref n3008, .int 0, .int 0, .int 0, .int 0, .int 0, .int 0, .int 0, .ref n3009, .ref n3010, .int 0, .int 0, .ref n3011, .ref n3012, .int 0, .int 0, .ref n3013, .ref n3014, .ref n3015, .int 0, .ref n3016, .ref n3017, .ref n3018])), (n3016, .inl (cy 1, 4, .inl (upd (upd (upd (upd (fun _ => 0) 0 (-1)) 1 (-1)) 2 (-1)) 3 (-1))))] H := hP
    have hD : va_D A [(n3900, .inr (12, [.ref n3000, .ref n3001, .ref n3002, .ref n3003, .int 0, .ref n3004, .int 0, .int 0, .int 0, .int 0, .int 0, .int 0, .int 0, .int 0, .int 0, .int (-1), .int 0, .ref n3005, .ref n3006, .int 0, .ref n3007, .ref n3008, .int 0, .int 0, .int 0, .int 0, .int 0, .int 0, .int 0, .ref n3009, .ref n3010, .int 0, .int 0, .ref n3011, .ref n3012, .int 0, .int 0, .ref n3013, .ref n3014, .ref n3015, .int 0, .ref n3016, .ref n3017, .ref n3018])), (n3016, .inl (cy 1, 4, .inl (upd (upd (upd (upd (fun _ => 0) 0 (-1)) 1 (-1)) 2 (-1)) 3 (-1))))] := hD
    refine lv_istore (lv' := [(5, .int 1), (4, .int 0), (3, .ref n5000), (2, .ref n3900), (1, .ref n1900), (0, .ref b)]) hx hb dL_law_1044 hl (by decide +kernel) rfl (fun ls hl => ?_)
    refine lv_aload_n hx hb dL_law_1046 rfl (lv_at hl 3 rfl) ?_
    refine lv_aload_n hx hb dL_law_1047 rfl (lv_at hl 5 rfl) ?_
    refine lv_iload hx hb dL_law_1048 (lv_at hl 1 rfl) ?_
    refine lv_iconst (v := 1) hx hb dL_law_1050 (by decide +kernel) ?_
    refine lv_iadd hx hb dL_law_1051 ?_
    refine top_i (v := 1) (by decide +kernel) ?_
    refine va_sld hx hb hX hbl hbA hS (i := 1) (vin (by decide +kernel)) dL_law_1052 ?_
    refine top_i (v := z1) ez1 ?_
    refine call_i (av := [.ref n3900, .int z1]) F hP hD hS [(n3900, .inr (12, [.ref n3000, .ref n3001, .ref n3002, .ref n3003, .int 0, .ref n3004, .int 0, .int 0, .int 0, .int 0, .int 0, .int 0, .int 0, .int 0, .int 0, .int (-1), .int 0, .ref n3005, .ref n3006, .int 0, .ref n3007, .ref n3008, .int 0, .int 0, .int 0, .int 0, .int 0, .int 0, .int 0, .ref n3009, .ref n3010, .int 0, .int 0, .ref n3011, .ref n3012, .int 0, .int 0, .ref n3013, .ref n3014, .ref n3015, .int 0, .ref n3016, .ref n3017, .ref n3018])), (n3016, .inl (cy 1, 4, .inl (upd (upd (upd (upd (fun _ => 0) 0 (-1)) 1 (-1)) 2 (-1)) 3 (-1))))] [] [0, 1] [] rfl rfl (by decide +kernel) (fun pr => va_runV (As := [.int z1]) (rest := []) ⟨hx, hb, hml, hown, hts⟩ (k199_X12_perform l D cy H.size n3900 z1 n3016 n3000 n3001 n3002 n3003 n3004 n3005 n3006 n3007 n3008 n3009 n3010 n3011 n3012 n3013 n3014 n3015 n3017 n3018) (cwV 1 hts gw_X12_perform rfl rfl rfl (by decide +kernel) ⟨(by decide +kernel), (by decide +kernel)⟩) ⟨pr.1, va_recv hK hP (ci := 12) (q0 := 0) rfl rfl, pr.2⟩ rfl rfl hl.1 rfl (lv_room (Nat.le_of_ble_eq_true rfl)) dL_law_1053 ⟨(by decide +kernel), (by decide +kernel)⟩) (fun r u H locs hw hP hD hS => ?_)
    rcases hw with ⟨c800016, rfl, rfl⟩ | ⟨c800017, c800018, rfl, rfl⟩ | ⟨c800019, c800020, c800021, rfl, rfl⟩ | ⟨c800022, c800023, c800024, rfl, rfl⟩ | ⟨c800025, c800026, c800027, rfl, rfl⟩ | ⟨c800028, c800029, c800030, rfl, rfl⟩
    · have hP : va_P D vwCl [(n3900, .inr (12, [.ref n3000, .ref n3001, .ref n3002, .ref n3003, .int 1, .ref n3004, .int 0, .int 0, .int 0, .int 0, .int 0, .int 0, .int 0, .int 0, .int 0, .int (-1), .int 0, .ref n3005, .ref n3006, .int 0, .ref n3007, .ref n3008, .int 0, .int 0, .int 0, .int 0, .int 0, .int 0, .int 0, .ref n3009, .ref n3010, .int 0, .int 0, .ref n3011, .ref n3012, .int 0, .int 0, .ref n3013, .ref n3014, .ref n3015, .int 0, .ref n3016, .ref n3017, .ref n3018])), (n3016, .inl (cy 1, 4, .inl (upd (upd (upd (upd (fun _ => 0) 0 (-1)) 1 (-1)) 2 (-1)) 3 (-1))))] H := hP
      have hD : va_D A [(n3900, .inr (12, [.ref n3000, .ref n3001, .ref n3002, .ref n3003, .int 1, .ref n3004, .int 0, .int 0, .int 0, .int 0, .int 0, .int 0, .int 0, .int 0, .int 0, .int (-1), .int 0, .ref n3005, .ref n3006, .int 0, .ref n3007, .ref n3008, .int 0, .int 0, .int 0, .int 0, .int 0, .int 0, .int 0, .ref n3009, .ref n3010, .int 0, .int 0, .ref n3011, .ref n3012, .int 0, .int 0, .ref n3013, .ref n3014, .ref n3015, .int 0, .ref n3016, .ref n3017, .ref n3018])), (n3016, .inl (cy 1, 4, .inl (upd (upd (upd (upd (fun _ => 0) 0 (-1)) 1 (-1)) 2 (-1)) 3 (-1))))] := hD
      refine lv_istore (lv' := [(6, .int 0), (5, .int 1), (4, .int 0), (3, .ref n5000), (2, .ref n3900), (1, .ref n1900), (0, .ref b)]) hx hb dL_law_1056 hl (by decide +kernel) rfl (fun ls hl => ?_)
      refine lv_aload_n hx hb dL_law_1058 rfl (lv_at hl 4 rfl) ?_
      refine call_i (av := [.ref n3900]) F hP hD hS [(n3900, .inr (12, [.ref n3000, .ref n3001, .ref n3002, .ref n3003, .int 1, .ref n3004, .int 0, .int 0, .int 0, .int 0, .int 0, .int 0, .int 0, .int 0, .int 0, .int (-1), .int 0, .ref n3005, .ref n3006, .int 0, .ref n3007, .ref n3008, .int 0, .int 0, .int 0, .int 0, .int 0, .int 0, .int 0, .ref n3009, .ref n3010, .int 0, .int 0, .ref n3011, .ref n3012, .int 0, .int 0, .ref n3013, .ref n3014, .ref n3015, .int 0, .ref n3016, .ref n3017, .ref n3018]))] [(n3016, .inl (cy 1, 4, .inl (upd (upd (upd (upd (fun _ => 0) 0 (-1)) 1 (-1)) 2 (-1)) 3 (-1))))] [0] [1] rfl rfl (by decide +kernel) (fun pr => va_runV (As := []) (rest := []) ⟨hx, hb, hml, hown, hts⟩ (k333_X12_thrown l D cy H.size n3900 n3000 n3001 n3002 n3003 n3004 n3005 n3006 n3007 n3008 n3009 n3010 n3011 n3012 n3013 n3014 n3015 n3016 n3017 n3018) (cwV 0 hts gw_X12_thrown rfl rfl rfl (by decide +kernel) ⟨(by decide +kernel), (by decide +kernel)⟩) ⟨pr.1, va_recv hK hP (ci := 12) (q0 := 0) rfl rfl, pr.2⟩ rfl rfl hl.1 rfl (lv_room (Nat.le_of_ble_eq_true rfl)) dL_law_1059 ⟨(by decide +kernel), (by decide +kernel)⟩) (fun r u H locs hw hP hD hS => ?_)
      rcases hw with ⟨rfl, rfl⟩
      have hP : va_P D vwCl [(n3016, .inl (cy 1, 4, .inl (upd (upd (upd (upd (fun _ => 0) 0 (-1)) 1 (-1)) 2 (-1)) 3 (-1)))), (n3900, .inr (12, [.ref n3000, .ref n3001, .ref n3002, .ref n3003, .int 1, .ref n3004, .int 0, .int 0, .int 0, .int 0, .int 0, .int 0, .int 0, .int 0, .int 0, .int (-1), .int 0, .ref n3005, .ref n3006, .int 0, .ref n3007, .ref n3008, .int 0, .int 0, .int 0, .int 0, .int 0, .int 0, .int 0, .ref n3009, .ref n3010, .int 0, .int 0, .ref n3011, .ref n3012, .int 0, .int 0, .ref n3013, .ref n3014, .ref n3015, .int 0, .ref n3016, .ref n3017, .ref n3018]))] H := hP
      have hD : va_D A [(n3016, .inl (cy 1, 4, .inl (upd (upd (upd (upd (fun _ => 0) 0 (-1)) 1 (-1)) 2 (-1)) 3 (-1)))), (n3900, .inr (12, [.ref n3000, .ref n3001, .ref n3002, .ref n3003, .int 1, .ref n3004, .int 0, .int 0, .int 0, .int 0, .int 0, .int 0, .int 0, .int 0, .int 0, .int (-1), .int 0, .ref n3005, .ref n3006, .int 0, .ref n3007, .ref n3008, .int 0, .int 0, .int 0, .int 0, .int 0, .int 0, .int 0, .ref n3009, .ref n3010, .int 0, .int 0, .ref n3011, .ref n3012, .int 0, .int 0, .ref n3013, .ref n3014, .ref n3015, .int 0, .ref n3016, .ref n3017, .ref n3018]))] := hD
      refine lv_iload hx hb dL_law_1062 (lv_at hl 1 rfl) ?_
      refine lv_icmp_eq (tgt := 1069) hx hb dL_law_1064 (by decide +kernel) (fun _ => ?_) (fun h => absurd (by decide +kernel) h)
      refine lv_iload hx hb dL_law_1069 (lv_at hl 1 rfl) ?_
      refine lv_if_ne (tgt := 1086) hx hb dL_law_1071 (by decide +kernel) (fun _ => ?_) (fun h => absurd h (by decide +kernel))
      refine lv_goto (tgt := 2458) hx hb dL_law_1086 (by decide +kernel) ?_
      refine lv_iinc (v := 6) (lv' := [(4, .int 6), (6, .int 0), (5, .int 1), (3, .ref n5000), (2, .ref n3900), (1, .ref n1900), (0, .ref b)]) hx hb dL_law_2458 hl (k := 2) rfl (by decide) (by decide +kernel) rfl (fun ls hl => ?_)
      refine lv_goto (tgt := 23) hx hb dL_law_2461 (by decide +kernel) ?_
      refine lv_iload hx hb dL_law_23 (lv_at hl 0 rfl) ?_
      refine lv_aload_n hx hb dL_law_25 rfl (lv_at hl 6 rfl) ?_
      refine va_slen hx hb hX hbl hbA hS dL_law_26 ?_
      refine top_i (v := 6) rfl ?_
      refine lv_bipush (v := 6) hx hb dL_law_27 (by decide +kernel) ?_
      refine lv_isub hx hb dL_law_29 ?_
      refine top_i (v := 0) (by decide +kernel) ?_
      refine lv_icmp_gt (tgt := 2464) hx hb dL_law_30 (by decide +kernel) (fun _ => ?_) (fun h => absurd (by decide +kernel) h)
      refine lv_iconst (v := 1) hx hb dL_law_2464 (by decide +kernel) ?_
      refine va_forget (fun q hq => hAq _ (hS.2.2 q hq)) ?_
      refine W.widen (k := 600002) (n := 7302232) (by decide +kernel) (by decide +kernel) ?_
      exact lw_ret hx hb hr hlk dL_law_2465
    · exact (no_b (lo_nlt_w c800017) (up_lt c800001) (by decide +kernel)).elim
    · exact (no_b (lo_nlt_w c800019) (up_lt c800001) (by decide +kernel)).elim
    · exact (no_b (lo_nlt_w c800022) (up_lt c800001) (by decide +kernel)).elim
    · exact (no_b (lo_nlt_w c800025) (up_lt c800001) (by decide +kernel)).elim
    · exact (no_b (lo_nlt_w c800028) (up_lt c800001) (by decide +kernel)).elim
  · have hP : va_P D vwCl [(n3900, .inr (12, [.ref n3000, .ref n3001, .ref n3002, .ref n3003, .int 0, .ref n3004, .int 0, .int 0, .int 0, .int 0, .int 0, .int 0, .int 0, .int 0, .int 0, .int (-1), .int 0, .ref n3005, .ref n3006, .int 0, .ref n3007, .ref n3008, .int 0, .int 0, .int 0, .int 0, .int 0, .int 0, .int 0, .ref n3009, .ref n3010, .int 0, .int 0, .ref n3011, .ref n3012, .int 0, .int 0, .ref n3013, .ref n3014, .ref n3015, .int 0, .ref n3016, .ref n3017, .ref n3018])), (n3016, .inl (cy 1, 4, .inl (upd (upd (upd (upd (fun _ => 0) 0 (-1)) 1 (-1)) 2 (-1)) 3 (-1))))] H := hP
    have hD : va_D A [(n3900, .inr (12, [.ref n3000, .ref n3001, .ref n3002, .ref n3003, .int 0, .ref n3004, .int 0, .int 0, .int 0, .int 0, .int 0, .int 0, .int 0, .int 0, .int 0, .int (-1), .int 0, .ref n3005, .ref n3006, .int 0, .ref n3007, .ref n3008, .int 0, .int 0, .int 0, .int 0, .int 0, .int 0, .int 0, .ref n3009, .ref n3010, .int 0, .int 0, .ref n3011, .ref n3012, .int 0, .int 0, .ref n3013, .ref n3014, .ref n3015, .int 0, .ref n3016, .ref n3017, .ref n3018])), (n3016, .inl (cy 1, 4, .inl (upd (upd (upd (upd (fun _ => 0) 0 (-1)) 1 (-1)) 2 (-1)) 3 (-1))))] := hD
    refine lv_istore (lv' := [(5, .int 1), (4, .int 0), (3, .ref n5000), (2, .ref n3900), (1, .ref n1900), (0, .ref b)]) hx hb dL_law_1044 hl (by decide +kernel) rfl (fun ls hl => ?_)
    refine lv_aload_n hx hb dL_law_1046 rfl (lv_at hl 3 rfl) ?_
    refine lv_aload_n hx hb dL_law_1047 rfl (lv_at hl 5 rfl) ?_
    refine lv_iload hx hb dL_law_1048 (lv_at hl 1 rfl) ?_
    refine lv_iconst (v := 1) hx hb dL_law_1050 (by decide +kernel) ?_
    refine lv_iadd hx hb dL_law_1051 ?_
    refine top_i (v := 1) (by decide +kernel) ?_
    refine va_sld hx hb hX hbl hbA hS (i := 1) (vin (by decide +kernel)) dL_law_1052 ?_
    refine top_i (v := z1) ez1 ?_
    refine call_i (av := [.ref n3900, .int z1]) F hP hD hS [(n3900, .inr (12, [.ref n3000, .ref n3001, .ref n3002, .ref n3003, .int 0, .ref n3004, .int 0, .int 0, .int 0, .int 0, .int 0, .int 0, .int 0, .int 0, .int 0, .int (-1), .int 0, .ref n3005, .ref n3006, .int 0, .ref n3007, .ref n3008, .int 0, .int 0, .int 0, .int 0, .int 0, .int 0, .int 0, .ref n3009, .ref n3010, .int 0, .int 0, .ref n3011, .ref n3012, .int 0, .int 0, .ref n3013, .ref n3014, .ref n3015, .int 0, .ref n3016, .ref n3017, .ref n3018])), (n3016, .inl (cy 1, 4, .inl (upd (upd (upd (upd (fun _ => 0) 0 (-1)) 1 (-1)) 2 (-1)) 3 (-1))))] [] [0, 1] [] rfl rfl (by decide +kernel) (fun pr => va_runV (As := [.int z1]) (rest := []) ⟨hx, hb, hml, hown, hts⟩ (k199_X12_perform l D cy H.size n3900 z1 n3016 n3000 n3001 n3002 n3003 n3004 n3005 n3006 n3007 n3008 n3009 n3010 n3011 n3012 n3013 n3014 n3015 n3017 n3018) (cwV 1 hts gw_X12_perform rfl rfl rfl (by decide +kernel) ⟨(by decide +kernel), (by decide +kernel)⟩) ⟨pr.1, va_recv hK hP (ci := 12) (q0 := 0) rfl rfl, pr.2⟩ rfl rfl hl.1 rfl (lv_room (Nat.le_of_ble_eq_true rfl)) dL_law_1053 ⟨(by decide +kernel), (by decide +kernel)⟩) (fun r u H locs hw hP hD hS => ?_)
    rcases hw with ⟨c800034, rfl, rfl⟩ | ⟨c800035, c800036, rfl, rfl⟩ | ⟨c800037, c800038, c800039, rfl, rfl⟩ | ⟨c800040, c800041, c800042, rfl, rfl⟩ | ⟨c800043, c800044, c800045, rfl, rfl⟩ | ⟨c800046, c800047, c800048, rfl, rfl⟩
    · exact (no_b (lo_nlt c800003) (up_lt_w c800034) (by decide +kernel)).elim
    · have hP : va_P D vwCl [(n3900, .inr (12, [.ref n3000, .ref n3001, .ref n3002, .ref n3003, .int 1, .ref n3004, .int 0, .int 0, .int 0, .int 0, .int 0, .int 0, .int 0, .int 0, .int 0, .int (-1), .int 0, .ref n3005, .ref n3006, .int 0, .ref n3007, .ref n3008, .int 0, .int 0, .int 0, .int 0, .int 0, .int 0, .int 0, .ref n3009, .ref n3010, .int 0, .int 0, .ref n3011, .ref n3012, .int 0, .int 0, .ref n3013, .ref n3014, .ref n3015, .int 0, .ref n3016, .ref n3017, .ref n3018])), (n3016, .inl (cy 1, 4, .inl (upd (upd (upd (upd (fun _ => 0) 0 (-1)) 1 (-1)) 2 (-1)) 3 (-1))))] H := hP
      have hD : va_D A [(n3900, .inr (12, [.ref n3000, .ref n3001, .ref n3002, .ref n3003, .int 1, .ref n3004, .int 0, .int 0, .int 0, .int 0, .int 0, .int 0, .int 0, .int 0, .int 0, .int (-1), .int 0, .ref n3005, .ref n3006, .int 0, .ref n3007, .ref n3008, .int 0, .int 0, .int 0, .int 0, .int 0, .int 0, .int 0, .ref n3009, .ref n3010, .int 0, .int 0, .ref n3011, .ref n3012, .int 0, .int 0, .ref n3013, .ref n3014, .ref n3015, .int 0, .ref n3016, .ref n3017, .ref n3018])), (n3016, .inl (cy 1, 4, .inl (upd (upd (upd (upd (fun _ => 0) 0 (-1)) 1 (-1)) 2 (-1)) 3 (-1))))] := hD
      refine lv_istore (lv' := [(6, .int 0), (5, .int 1), (4, .int 0), (3, .ref n5000), (2, .ref n3900), (1, .ref n1900), (0, .ref b)]) hx hb dL_law_1056 hl (by decide +kernel) rfl (fun ls hl => ?_)
      refine lv_aload_n hx hb dL_law_1058 rfl (lv_at hl 4 rfl) ?_
      refine call_i (av := [.ref n3900]) F hP hD hS [(n3900, .inr (12, [.ref n3000, .ref n3001, .ref n3002, .ref n3003, .int 1, .ref n3004, .int 0, .int 0, .int 0, .int 0, .int 0, .int 0, .int 0, .int 0, .int 0, .int (-1), .int 0, .ref n3005, .ref n3006, .int 0, .ref n3007, .ref n3008, .int 0, .int 0, .int 0, .int 0, .int 0, .int 0, .int 0, .ref n3009, .ref n3010, .int 0, .int 0, .ref n3011, .ref n3012, .int 0, .int 0, .ref n3013, .ref n3014, .ref n3015, .int 0, .ref n3016, .ref n3017, .ref n3018]))] [(n3016, .inl (cy 1, 4, .inl (upd (upd (upd (upd (fun _ => 0) 0 (-1)) 1 (-1)) 2 (-1)) 3 (-1))))] [0] [1] rfl rfl (by decide +kernel) (fun pr => va_runV (As := []) (rest := []) ⟨hx, hb, hml, hown, hts⟩ (k333_X12_thrown l D cy H.size n3900 n3000 n3001 n3002 n3003 n3004 n3005 n3006 n3007 n3008 n3009 n3010 n3011 n3012 n3013 n3014 n3015 n3016 n3017 n3018) (cwV 0 hts gw_X12_thrown rfl rfl rfl (by decide +kernel) ⟨(by decide +kernel), (by decide +kernel)⟩) ⟨pr.1, va_recv hK hP (ci := 12) (q0 := 0) rfl rfl, pr.2⟩ rfl rfl hl.1 rfl (lv_room (Nat.le_of_ble_eq_true rfl)) dL_law_1059 ⟨(by decide +kernel), (by decide +kernel)⟩) (fun r u H locs hw hP hD hS => ?_)
      rcases hw with ⟨rfl, rfl⟩
      have hP : va_P D vwCl [(n3016, .inl (cy 1, 4, .inl (upd (upd (upd (upd (fun _ => 0) 0 (-1)) 1 (-1)) 2 (-1)) 3 (-1)))), (n3900, .inr (12, [.ref n3000, .ref n3001, .ref n3002, .ref n3003, .int 1, .ref n3004, .int 0, .int 0, .int 0, .int 0, .int 0, .int 0, .int 0, .int 0, .int 0, .int (-1), .int 0, .ref n3005, .ref n3006, .int 0, .ref n3007, .ref n3008, .int 0, .int 0, .int 0, .int 0, .int 0, .int 0, .int 0, .ref n3009, .ref n3010, .int 0, .int 0, .ref n3011, .ref n3012, .int 0, .int 0, .ref n3013, .ref n3014, .ref n3015, .int 0, .ref n3016, .ref n3017, .ref n3018]))] H := hP
      have hD : va_D A [(n3016, .inl (cy 1, 4, .inl (upd (upd (upd (upd (fun _ => 0) 0 (-1)) 1 (-1)) 2 (-1)) 3 (-1)))), (n3900, .inr (12, [.ref n3000, .ref n3001, .ref n3002, .ref n3003, .int 1, .ref n3004, .int 0, .int 0, .int 0, .int 0, .int 0, .int 0, .int 0, .int 0, .int 0, .int (-1), .int 0, .ref n3005, .ref n3006, .int 0, .ref n3007, .ref n3008, .int 0, .int 0, .int 0, .int 0, .int 0, .int 0, .int 0, .ref n3009, .ref n3010, .int 0, .int 0, .ref n3011, .ref n3012, .int 0, .int 0, .ref n3013, .ref n3014, .ref n3015, .int 0, .ref n3016, .ref n3017, .ref n3018]))] := hD
      refine lv_iload hx hb dL_law_1062 (lv_at hl 1 rfl) ?_
      refine lv_icmp_eq (tgt := 1069) hx hb dL_law_1064 (by decide +kernel) (fun _ => ?_) (fun h => absurd (by decide +kernel) h)
      refine lv_iload hx hb dL_law_1069 (lv_at hl 1 rfl) ?_
      refine lv_if_ne (tgt := 1086) hx hb dL_law_1071 (by decide +kernel) (fun _ => ?_) (fun h => absurd h (by decide +kernel))
      refine lv_goto (tgt := 2458) hx hb dL_law_1086 (by decide +kernel) ?_
      refine lv_iinc (v := 6) (lv' := [(4, .int 6), (6, .int 0), (5, .int 1), (3, .ref n5000), (2, .ref n3900), (1, .ref n1900), (0, .ref b)]) hx hb dL_law_2458 hl (k := 2) rfl (by decide) (by decide +kernel) rfl (fun ls hl => ?_)
      refine lv_goto (tgt := 23) hx hb dL_law_2461 (by decide +kernel) ?_
      refine lv_iload hx hb dL_law_23 (lv_at hl 0 rfl) ?_
      refine lv_aload_n hx hb dL_law_25 rfl (lv_at hl 6 rfl) ?_
      refine va_slen hx hb hX hbl hbA hS dL_law_26 ?_
      refine top_i (v := 6) rfl ?_
      refine lv_bipush (v := 6) hx hb dL_law_27 (by decide +kernel) ?_
      refine lv_isub hx hb dL_law_29 ?_
      refine top_i (v := 0) (by decide +kernel) ?_
      refine lv_icmp_gt (tgt := 2464) hx hb dL_law_30 (by decide +kernel) (fun _ => ?_) (fun h => absurd (by decide +kernel) h)
      refine lv_iconst (v := 1) hx hb dL_law_2464 (by decide +kernel) ?_
      refine va_forget (fun q hq => hAq _ (hS.2.2 q hq)) ?_
      refine W.widen (k := 600002) (n := 7302232) (by decide +kernel) (by decide +kernel) ?_
      exact lw_ret hx hb hr hlk dL_law_2465
    · exact (no_b (lo_nlt c800003) (up_nlt_w c800038) (by decide +kernel)).elim
    · exact (no_b (lo_nlt c800003) (up_nlt_w c800041) (by decide +kernel)).elim
    · exact (no_b (lo_nlt c800003) (up_nlt_w c800044) (by decide +kernel)).elim
    · exact (no_b (lo_nlt c800003) (up_nlt_w c800047) (by decide +kernel)).elim
  · subst c800006
    have hP : va_P D vwCl [(n3900, .inr (12, [.ref n3000, .ref n3001, .ref n3002, .ref n3003, .int 0, .ref n3004, .int 0, .int 0, .int 0, .int 0, .int 0, .int 0, .int 0, .int 0, .int 0, .int (-1), .int 0, .ref n3005, .ref n3006, .int 0, .ref n3007, .ref n3008, .int 0, .int 0, .int 0, .int 0, .int 0, .int 0, .int 0, .ref n3009, .ref n3010, .int 0, .int 0, .ref n3011, .ref n3012, .int 0, .int 0, .ref n3013, .ref n3014, .ref n3015, .int 0, .ref n3016, .ref n3017, .ref n3018])), (n3016, .inl (cy 1, 4, .inl (upd (upd (upd (upd (fun _ => 0) 0 (-1)) 1 (-1)) 2 (-1)) 3 (-1))))] H := hP
    have hD : va_D A [(n3900, .inr (12, [.ref n3000, .ref n3001, .ref n3002, .ref n3003, .int 0, .ref n3004, .int 0, .int 0, .int 0, .int 0, .int 0, .int 0, .int 0, .int 0, .int 0, .int (-1), .int 0, .ref n3005, .ref n3006, .int 0, .ref n3007, .ref n3008, .int 0, .int 0, .int 0, .int 0, .int 0, .int 0, .int 0, .ref n3009, .ref n3010, .int 0, .int 0, .ref n3011, .ref n3012, .int 0, .int 0, .ref n3013, .ref n3014, .ref n3015, .int 0, .ref n3016, .ref n3017, .ref n3018])), (n3016, .inl (cy 1, 4, .inl (upd (upd (upd (upd (fun _ => 0) 0 (-1)) 1 (-1)) 2 (-1)) 3 (-1))))] := hD
    refine lv_istore (lv' := [(5, .int 2), (4, .int 0), (3, .ref n5000), (2, .ref n3900), (1, .ref n1900), (0, .ref b)]) hx hb dL_law_1044 hl (by decide +kernel) rfl (fun ls hl => ?_)
    refine lv_aload_n hx hb dL_law_1046 rfl (lv_at hl 3 rfl) ?_
    refine lv_aload_n hx hb dL_law_1047 rfl (lv_at hl 5 rfl) ?_
    refine lv_iload hx hb dL_law_1048 (lv_at hl 1 rfl) ?_
    refine lv_iconst (v := 1) hx hb dL_law_1050 (by decide +kernel) ?_
    refine lv_iadd hx hb dL_law_1051 ?_
    refine top_i (v := 1) (by decide +kernel) ?_
    refine va_sld hx hb hX hbl hbA hS (i := 1) (vin (by decide +kernel)) dL_law_1052 ?_
    refine top_i (v := 0) ez1 ?_
    refine call_i (av := [.ref n3900, .int 0]) F hP hD hS [(n3900, .inr (12, [.ref n3000, .ref n3001, .ref n3002, .ref n3003, .int 0, .ref n3004, .int 0, .int 0, .int 0, .int 0, .int 0, .int 0, .int 0, .int 0, .int 0, .int (-1), .int 0, .ref n3005, .ref n3006, .int 0, .ref n3007, .ref n3008, .int 0, .int 0, .int 0, .int 0, .int 0, .int 0, .int 0, .ref n3009, .ref n3010, .int 0, .int 0, .ref n3011, .ref n3012, .int 0, .int 0, .ref n3013, .ref n3014, .ref n3015, .int 0, .ref n3016, .ref n3017, .ref n3018])), (n3016, .inl (cy 1, 4, .inl (upd (upd (upd (upd (fun _ => 0) 0 (-1)) 1 (-1)) 2 (-1)) 3 (-1))))] [] [0, 1] [] rfl rfl (by decide +kernel) (fun pr => va_runV (As := [.int 0]) (rest := []) ⟨hx, hb, hml, hown, hts⟩ (k199_X12_perform l D cy H.size n3900 0 n3016 n3000 n3001 n3002 n3003 n3004 n3005 n3006 n3007 n3008 n3009 n3010 n3011 n3012 n3013 n3014 n3015 n3017 n3018) (cwV 1 hts gw_X12_perform rfl rfl rfl (by decide +kernel) ⟨(by decide +kernel), (by decide +kernel)⟩) ⟨pr.1, va_recv hK hP (ci := 12) (q0 := 0) rfl rfl, pr.2⟩ rfl rfl hl.1 rfl (lv_room (Nat.le_of_ble_eq_true rfl)) dL_law_1053 ⟨(by decide +kernel), (by decide +kernel)⟩) (fun r u H locs hw hP hD hS => ?_)
    rcases hw with ⟨c800052, rfl, rfl⟩ | ⟨c800053, c800054, rfl, rfl⟩ | ⟨c800055, c800056, c800057, rfl, rfl⟩ | ⟨c800058, c800059, c800060, rfl, rfl⟩ | ⟨c800061, c800062, c800063, rfl, rfl⟩ | ⟨c800064, c800065, c800066, rfl, rfl⟩
    · exact absurd c800052 (by decide +kernel)
    · exact absurd c800054 (by decide +kernel)
    · have hP : va_P D vwCl [(n3900, .inr (12, [.ref n3000, .ref n3001, .ref n3002, .ref n3003, .int 2, .ref n3004, .int 0, .int 0, .int 0, .int 0, .int 0, .int 0, .int 0, .int 0, .int 0, .int (-1), .int 0, .ref n3005, .ref n3006, .int 0, .ref n3007, .ref n3008, .int 0, .int 0, .int 0, .int 0, .int 0, .int 0, .int 0, .ref n3009, .ref n3010, .int 0, .int 0, .ref n3011, .ref n3012, .int 0, .int 0, .ref n3013, .ref n3014, .ref n3015, .int 0, .ref n3016, .ref n3017, .ref n3018])), (n3016, .inl (cy 1, 4, .inl (upd (upd (upd (upd (fun _ => 0) 0 (-1)) 1 (-1)) 2 (-1)) 3 (-1))))] H := hP
      have hD : va_D A [(n3900, .inr (12, [.ref n3000, .ref n3001, .ref n3002, .ref n3003, .int 2, .ref n3004, .int 0, .int 0, .int 0, .int 0, .int 0, .int 0, .int 0, .int 0, .int 0, .int (-1), .int 0, .ref n3005, .ref n3006, .int 0, .ref n3007, .ref n3008, .int 0, .int 0, .int 0, .int 0, .int 0, .int 0, .int 0, .ref n3009, .ref n3010, .int 0, .int 0, .ref n3011, .ref n3012, .int 0, .int 0, .ref n3013, .ref n3014, .ref n3015, .int 0, .ref n3016, .ref n3017, .ref n3018])), (n3016, .inl (cy 1, 4, .inl (upd (upd (upd (upd (fun _ => 0) 0 (-1)) 1 (-1)) 2 (-1)) 3 (-1))))] := hD
      refine lv_istore (lv' := [(6, .int 0), (5, .int 2), (4, .int 0), (3, .ref n5000), (2, .ref n3900), (1, .ref n1900), (0, .ref b)]) hx hb dL_law_1056 hl (by decide +kernel) rfl (fun ls hl => ?_)
      refine lv_aload_n hx hb dL_law_1058 rfl (lv_at hl 4 rfl) ?_
      refine call_i (av := [.ref n3900]) F hP hD hS [(n3900, .inr (12, [.ref n3000, .ref n3001, .ref n3002, .ref n3003, .int 2, .ref n3004, .int 0, .int 0, .int 0, .int 0, .int 0, .int 0, .int 0, .int 0, .int 0, .int (-1), .int 0, .ref n3005, .ref n3006, .int 0, .ref n3007, .ref n3008, .int 0, .int 0, .int 0, .int 0, .int 0, .int 0, .int 0, .ref n3009, .ref n3010, .int 0, .int 0, .ref n3011, .ref n3012, .int 0, .int 0, .ref n3013, .ref n3014, .ref n3015, .int 0, .ref n3016, .ref n3017, .ref n3018]))] [(n3016, .inl (cy 1, 4, .inl (upd (upd (upd (upd (fun _ => 0) 0 (-1)) 1 (-1)) 2 (-1)) 3 (-1))))] [0] [1] rfl rfl (by decide +kernel) (fun pr => va_runV (As := []) (rest := []) ⟨hx, hb, hml, hown, hts⟩ (k335_X12_thrown l D cy H.size n3900 n3000 n3001 n3002 n3003 n3004 n3005 n3006 n3007 n3008 n3009 n3010 n3011 n3012 n3013 n3014 n3015 n3016 n3017 n3018) (cwV 0 hts gw_X12_thrown rfl rfl rfl (by decide +kernel) ⟨(by decide +kernel), (by decide +kernel)⟩) ⟨pr.1, va_recv hK hP (ci := 12) (q0 := 0) rfl rfl, pr.2⟩ rfl rfl hl.1 rfl (lv_room (Nat.le_of_ble_eq_true rfl)) dL_law_1059 ⟨(by decide +kernel), (by decide +kernel)⟩) (fun r u H locs hw hP hD hS => ?_)
      rcases hw with ⟨rfl, rfl⟩
      have hP : va_P D vwCl [(n3016, .inl (cy 1, 4, .inl (upd (upd (upd (upd (fun _ => 0) 0 (-1)) 1 (-1)) 2 (-1)) 3 (-1)))), (n3900, .inr (12, [.ref n3000, .ref n3001, .ref n3002, .ref n3003, .int 2, .ref n3004, .int 0, .int 0, .int 0, .int 0, .int 0, .int 0, .int 0, .int 0, .int 0, .int (-1), .int 0, .ref n3005, .ref n3006, .int 0, .ref n3007, .ref n3008, .int 0, .int 0, .int 0, .int 0, .int 0, .int 0, .int 0, .ref n3009, .ref n3010, .int 0, .int 0, .ref n3011, .ref n3012, .int 0, .int 0, .ref n3013, .ref n3014, .ref n3015, .int 0, .ref n3016, .ref n3017, .ref n3018]))] H := hP
      have hD : va_D A [(n3016, .inl (cy 1, 4, .inl (upd (upd (upd (upd (fun _ => 0) 0 (-1)) 1 (-1)) 2 (-1)) 3 (-1)))), (n3900, .inr (12, [.ref n3000, .ref n3001, .ref n3002, .ref n3003, .int 2, .ref n3004, .int 0, .int 0, .int 0, .int 0, .int 0, .int 0, .int 0, .int 0, .int 0, .int (-1), .int 0, .ref n3005, .ref n3006, .int 0, .ref n3007, .ref n3008, .int 0, .int 0, .int 0, .int 0, .int 0, .int 0, .int 0, .ref n3009, .ref n3010, .int 0, .int 0, .ref n3011, .ref n3012, .int 0, .int 0, .ref n3013, .ref n3014, .ref n3015, .int 0, .ref n3016, .ref n3017, .ref n3018]))] := hD
      refine lv_iload hx hb dL_law_1062 (lv_at hl 1 rfl) ?_
      refine lv_icmp_eq (tgt := 1069) hx hb dL_law_1064 (by decide +kernel) (fun _ => ?_) (fun h => absurd (by decide +kernel) h)
      refine lv_iload hx hb dL_law_1069 (lv_at hl 1 rfl) ?_
      refine lv_if_ne (tgt := 1086) hx hb dL_law_1071 (by decide +kernel) (fun _ => ?_) (fun h => absurd h (by decide +kernel))
      refine lv_goto (tgt := 2458) hx hb dL_law_1086 (by decide +kernel) ?_
      refine lv_iinc (v := 6) (lv' := [(4, .int 6), (6, .int 0), (5, .int 2), (3, .ref n5000), (2, .ref n3900), (1, .ref n1900), (0, .ref b)]) hx hb dL_law_2458 hl (k := 2) rfl (by decide) (by decide +kernel) rfl (fun ls hl => ?_)
      refine lv_goto (tgt := 23) hx hb dL_law_2461 (by decide +kernel) ?_
      refine lv_iload hx hb dL_law_23 (lv_at hl 0 rfl) ?_
      refine lv_aload_n hx hb dL_law_25 rfl (lv_at hl 6 rfl) ?_
      refine va_slen hx hb hX hbl hbA hS dL_law_26 ?_
      refine top_i (v := 6) rfl ?_
      refine lv_bipush (v := 6) hx hb dL_law_27 (by decide +kernel) ?_
      refine lv_isub hx hb dL_law_29 ?_
      refine top_i (v := 0) (by decide +kernel) ?_
      refine lv_icmp_gt (tgt := 2464) hx hb dL_law_30 (by decide +kernel) (fun _ => ?_) (fun h => absurd (by decide +kernel) h)
      refine lv_iconst (v := 1) hx hb dL_law_2464 (by decide +kernel) ?_
      refine va_forget (fun q hq => hAq _ (hS.2.2 q hq)) ?_
      refine W.widen (k := 600002) (n := 7302232) (by decide +kernel) (by decide +kernel) ?_
      exact lw_ret hx hb hr hlk dL_law_2465
    · exact absurd c800060 (by decide +kernel)
    · exact absurd c800063 (by decide +kernel)
    · exact absurd c800066 (by decide +kernel)
  · subst c800009
    have hP : va_P D vwCl [(n3900, .inr (12, [.ref n3000, .ref n3001, .ref n3002, .ref n3003, .int 0, .ref n3004, .int 0, .int 0, .int 0, .int 0, .int 0, .int 0, .int 0, .int 0, .int 0, .int (-1), .int 0, .ref n3005, .ref n3006, .int 0, .ref n3007, .ref n3008, .int 0, .int 0, .int 0, .int 0, .int 0, .int 0, .int 0, .ref n3009, .ref n3010, .int 0, .int 0, .ref n3011, .ref n3012, .int 0, .int 0, .ref n3013, .ref n3014, .ref n3015, .int 0, .ref n3016, .ref n3017, .ref n3018])), (n3016, .inl (cy 1, 4, .inl (upd (upd (upd (upd (fun _ => 0) 0 (-1)) 1 (-1)) 2 (-1)) 3 (-1))))] H := hP
    have hD : va_D A [(n3900, .inr (12, [.ref n3000, .ref n3001, .ref n3002, .ref n3003, .int 0, .ref n3004, .int 0, .int 0, .int 0, .int 0, .int 0, .int 0, .int 0, .int 0, .int 0, .int (-1), .int 0, .ref n3005, .ref n3006, .int 0, .ref n3007, .ref n3008, .int 0, .int 0, .int 0, .int 0, .int 0, .int 0, .int 0, .ref n3009, .ref n3010, .int 0, .int 0, .ref n3011, .ref n3012, .int 0, .int 0, .ref n3013, .ref n3014, .ref n3015, .int 0, .ref n3016, .ref n3017, .ref n3018])), (n3016, .inl (cy 1, 4, .inl (upd (upd (upd (upd (fun _ => 0) 0 (-1)) 1 (-1)) 2 (-1)) 3 (-1))))] := hD
    refine lv_istore (lv' := [(5, .int 2), (4, .int 0), (3, .ref n5000), (2, .ref n3900), (1, .ref n1900), (0, .ref b)]) hx hb dL_law_1044 hl (by decide +kernel) rfl (fun ls hl => ?_)
    refine lv_aload_n hx hb dL_law_1046 rfl (lv_at hl 3 rfl) ?_
    refine lv_aload_n hx hb dL_law_1047 rfl (lv_at hl 5 rfl) ?_
    refine lv_iload hx hb dL_law_1048 (lv_at hl 1 rfl) ?_
    refine lv_iconst (v := 1) hx hb dL_law_1050 (by decide +kernel) ?_
    refine lv_iadd hx hb dL_law_1051 ?_
    refine top_i (v := 1) (by decide +kernel) ?_
    refine va_sld hx hb hX hbl hbA hS (i := 1) (vin (by decide +kernel)) dL_law_1052 ?_
    refine top_i (v := 1) ez1 ?_
    refine call_i (av := [.ref n3900, .int 1]) F hP hD hS [(n3900, .inr (12, [.ref n3000, .ref n3001, .ref n3002, .ref n3003, .int 0, .ref n3004, .int 0, .int 0, .int 0, .int 0, .int 0, .int 0, .int 0, .int 0, .int 0, .int (-1), .int 0, .ref n3005, .ref n3006, .int 0, .ref n3007, .ref n3008, .int 0, .int 0, .int 0, .int 0, .int 0, .int 0, .int 0, .ref n3009, .ref n3010, .int 0, .int 0, .ref n3011, .ref n3012, .int 0, .int 0, .ref n3013, .ref n3014, .ref n3015, .int 0, .ref n3016, .ref n3017, .ref n3018])), (n3016, .inl (cy 1, 4, .inl (upd (upd (upd (upd (fun _ => 0) 0 (-1)) 1 (-1)) 2 (-1)) 3 (-1))))] [] [0, 1] [] rfl rfl (by decide +kernel) (fun pr => va_runV (As := [.int 1]) (rest := []) ⟨hx, hb, hml, hown, hts⟩ (k199_X12_perform l D cy H.size n3900 1 n3016 n3000 n3001 n3002 n3003 n3004 n3005 n3006 n3007 n3008 n3009 n3010 n3011 n3012 n3013 n3014 n3015 n3017 n3018) (cwV 1 hts gw_X12_perform rfl rfl rfl (by decide +kernel) ⟨(by decide +kernel), (by decide +kernel)⟩) ⟨pr.1, va_recv hK hP (ci := 12) (q0 := 0) rfl rfl, pr.2⟩ rfl rfl hl.1 rfl (lv_room (Nat.le_of_ble_eq_true rfl)) dL_law_1053 ⟨(by decide +kernel), (by decide +kernel)⟩) (fun r u H locs hw hP hD hS => ?_)
    rcases hw with ⟨c800070, rfl, rfl⟩ | ⟨c800071, c800072, rfl, rfl⟩ | ⟨c800073, c800074, c800075, rfl, rfl⟩ | ⟨c800076, c800077, c800078, rfl, rfl⟩ | ⟨c800079, c800080, c800081, rfl, rfl⟩ | ⟨c800082, c800083, c800084, rfl, rfl⟩
    · exact absurd c800070 (by decide +kernel)
    · exact absurd c800072 (by decide +kernel)
    · exact absurd c800075 (by decide +kernel)
    · have hP : va_P D vwCl [(n3900, .inr (12, [.ref n3000, .ref n3001, .ref n3002, .ref n3003, .int 2, .ref n3004, .int 0, .int 0, .int 0, .int 0, .int 0, .int 0, .int 0, .int 0, .int 0, .int (-1), .int 0, .ref n3005, .ref n3006, .int 0, .ref n3007, .ref n3008, .int 0, .int 0, .int 0, .int 0, .int 0, .int 0, .int 0, .ref n3009, .ref n3010, .int 0, .int 0, .ref n3011, .ref n3012, .int 0, .int 0, .ref n3013, .ref n3014, .ref n3015, .int 0, .ref n3016, .ref n3017, .ref n3018])), (n3016, .inl (cy 1, 4, .inl (upd (upd (upd (upd (fun _ => 0) 0 (-1)) 1 (-1)) 2 (-1)) 3 (-1))))] H := hP
      have hD : va_D A [(n3900, .inr (12, [.ref n3000, .ref n3001, .ref n3002, .ref n3003, .int 2, .ref n3004, .int 0, .int 0, .int 0, .int 0, .int 0, .int 0, .int 0, .int 0, .int 0, .int (-1), .int 0, .ref n3005, .ref n3006, .int 0, .ref n3007, .ref n3008, .int 0, .int 0, .int 0, .int 0, .int 0, .int 0, .int 0, .ref n3009, .ref n3010, .int 0, .int 0, .ref n3011, .ref n3012, .int 0, .int 0, .ref n3013, .ref n3014, .ref n3015, .int 0, .ref n3016, .ref n3017, .ref n3018])), (n3016, .inl (cy 1, 4, .inl (upd (upd (upd (upd (fun _ => 0) 0 (-1)) 1 (-1)) 2 (-1)) 3 (-1))))] := hD
      refine lv_istore (lv' := [(6, .int 0), (5, .int 2), (4, .int 0), (3, .ref n5000), (2, .ref n3900), (1, .ref n1900), (0, .ref b)]) hx hb dL_law_1056 hl (by decide +kernel) rfl (fun ls hl => ?_)
      refine lv_aload_n hx hb dL_law_1058 rfl (lv_at hl 4 rfl) ?_
      refine call_i (av := [.ref n3900]) F hP hD hS [(n3900, .inr (12, [.ref n3000, .ref n3001, .ref n3002, .ref n3003, .int 2, .ref n3004, .int 0, .int 0, .int 0, .int 0, .int 0, .int 0, .int 0, .int 0, .int 0, .int (-1), .int 0, .ref n3005, .ref n3006, .int 0, .ref n3007, .ref n3008, .int 0, .int 0, .int 0, .int 0, .int 0, .int 0, .int 0, .ref n3009, .ref n3010, .int 0, .int 0, .ref n3011, .ref n3012, .int 0, .int 0, .ref n3013, .ref n3014, .ref n3015, .int 0, .ref n3016, .ref n3017, .ref n3018]))] [(n3016, .inl (cy 1, 4, .inl (upd (upd (upd (upd (fun _ => 0) 0 (-1)) 1 (-1)) 2 (-1)) 3 (-1))))] [0] [1] rfl rfl (by decide +kernel) (fun pr => va_runV (As := []) (rest := []) ⟨hx, hb, hml, hown, hts⟩ (k335_X12_thrown l D cy H.size n3900 n3000 n3001 n3002 n3003 n3004 n3005 n3006 n3007 n3008 n3009 n3010 n3011 n3012 n3013 n3014 n3015 n3016 n3017 n3018) (cwV 0 hts gw_X12_thrown rfl rfl rfl (by decide +kernel) ⟨(by decide +kernel), (by decide +kernel)⟩) ⟨pr.1, va_recv hK hP (ci := 12) (q0 := 0) rfl rfl, pr.2⟩ rfl rfl hl.1 rfl (lv_room (Nat.le_of_ble_eq_true rfl)) dL_law_1059 ⟨(by decide +kernel), (by decide +kernel)⟩) (fun r u H locs hw hP hD hS => ?_)
      rcases hw with ⟨rfl, rfl⟩
      have hP : va_P D vwCl [(n3016, .inl (cy 1, 4, .inl (upd (upd (upd (upd (fun _ => 0) 0 (-1)) 1 (-1)) 2 (-1)) 3 (-1)))), (n3900, .inr (12, [.ref n3000, .ref n3001, .ref n3002, .ref n3003, .int 2, .ref n3004, .int 0, .int 0, .int 0, .int 0, .int 0, .int 0, .int 0, .int 0, .int 0, .int (-1), .int 0, .ref n3005, .ref n3006, .int 0, .ref n3007, .ref n3008, .int 0, .int 0, .int 0, .int 0, .int 0, .int 0, .int 0, .ref n3009, .ref n3010, .int 0, .int 0, .ref n3011, .ref n3012, .int 0, .int 0, .ref n3013, .ref n3014, .ref n3015, .int 0, .ref n3016, .ref n3017, .ref n3018]))] H := hP
      have hD : va_D A [(n3016, .inl (cy 1, 4, .inl (upd (upd (upd (upd (fun _ => 0) 0 (-1)) 1 (-1)) 2 (-1)) 3 (-1)))), (n3900, .inr (12, [.ref n3000, .ref n3001, .ref n3002, .ref n3003, .int 2, .ref n3004, .int 0, .int 0, .int 0, .int 0, .int 0, .int 0, .int 0, .int 0, .int 0, .int (-1), .int 0, .ref n3005, .ref n3006, .int 0, .ref n3007, .ref n3008, .int 0, .int 0, .int 0, .int 0, .int 0, .int 0, .int 0, .ref n3009, .ref n3010, .int 0, .int 0, .ref n3011, .ref n3012, .int 0, .int 0, .ref n3013, .ref n3014, .ref n3015, .int 0, .ref n3016, .ref n3017, .ref n3018]))] := hD
      refine lv_iload hx hb dL_law_1062 (lv_at hl 1 rfl) ?_
      refine lv_icmp_eq (tgt := 1069) hx hb dL_law_1064 (by decide +kernel) (fun _ => ?_) (fun h => absurd (by decide +kernel) h)
      refine lv_iload hx hb dL_law_1069 (lv_at hl 1 rfl) ?_
      refine lv_if_ne (tgt := 1086) hx hb dL_law_1071 (by decide +kernel) (fun _ => ?_) (fun h => absurd h (by decide +kernel))
      refine lv_goto (tgt := 2458) hx hb dL_law_1086 (by decide +kernel) ?_
      refine lv_iinc (v := 6) (lv' := [(4, .int 6), (6, .int 0), (5, .int 2), (3, .ref n5000), (2, .ref n3900), (1, .ref n1900), (0, .ref b)]) hx hb dL_law_2458 hl (k := 2) rfl (by decide) (by decide +kernel) rfl (fun ls hl => ?_)
      refine lv_goto (tgt := 23) hx hb dL_law_2461 (by decide +kernel) ?_
      refine lv_iload hx hb dL_law_23 (lv_at hl 0 rfl) ?_
      refine lv_aload_n hx hb dL_law_25 rfl (lv_at hl 6 rfl) ?_
      refine va_slen hx hb hX hbl hbA hS dL_law_26 ?_
      refine top_i (v := 6) rfl ?_
      refine lv_bipush (v := 6) hx hb dL_law_27 (by decide +kernel) ?_
      refine lv_isub hx hb dL_law_29 ?_
      refine top_i (v := 0) (by decide +kernel) ?_
      refine lv_icmp_gt (tgt := 2464) hx hb dL_law_30 (by decide +kernel) (fun _ => ?_) (fun h => absurd (by decide +kernel) h)
      refine lv_iconst (v := 1) hx hb dL_law_2464 (by decide +kernel) ?_
      refine va_forget (fun q hq => hAq _ (hS.2.2 q hq)) ?_
      refine W.widen (k := 600002) (n := 7302232) (by decide +kernel) (by decide +kernel) ?_
      exact lw_ret hx hb hr hlk dL_law_2465
    · exact absurd c800081 (by decide +kernel)
    · exact absurd c800084 (by decide +kernel)
  · subst c800012
    have hP : va_P D vwCl [(n3900, .inr (12, [.ref n3000, .ref n3001, .ref n3002, .ref n3003, .int 0, .ref n3004, .int 0, .int 0, .int 0, .int 0, .int 0, .int 0, .int 0, .int 0, .int 0, .int (-1), .int 0, .ref n3005, .ref n3006, .int 0, .ref n3007, .ref n3008, .int 0, .int 0, .int 0, .int 0, .int 0, .int 0, .int 0, .ref n3009, .ref n3010, .int 0, .int 0, .ref n3011, .ref n3012, .int 0, .int 0, .ref n3013, .ref n3014, .ref n3015, .int 0, .ref n3016, .ref n3017, .ref n3018])), (n3016, .inl (cy 1, 4, .inl (upd (upd (upd (upd (fun _ => 0) 0 (-1)) 1 (-1)) 2 (-1)) 3 (-1))))] H := hP
    have hD : va_D A [(n3900, .inr (12, [.ref n3000, .ref n3001, .ref n3002, .ref n3003, .int 0, .ref n3004, .int 0, .int 0, .int 0, .int 0, .int 0, .int 0, .int 0, .int 0, .int 0, .int (-1), .int 0, .ref n3005, .ref n3006, .int 0, .ref n3007, .ref n3008, .int 0, .int 0, .int 0, .int 0, .int 0, .int 0, .int 0, .ref n3009, .ref n3010, .int 0, .int 0, .ref n3011, .ref n3012, .int 0, .int 0, .ref n3013, .ref n3014, .ref n3015, .int 0, .ref n3016, .ref n3017, .ref n3018])), (n3016, .inl (cy 1, 4, .inl (upd (upd (upd (upd (fun _ => 0) 0 (-1)) 1 (-1)) 2 (-1)) 3 (-1))))] := hD
    refine lv_istore (lv' := [(5, .int 2), (4, .int 0), (3, .ref n5000), (2, .ref n3900), (1, .ref n1900), (0, .ref b)]) hx hb dL_law_1044 hl (by decide +kernel) rfl (fun ls hl => ?_)
    refine lv_aload_n hx hb dL_law_1046 rfl (lv_at hl 3 rfl) ?_
    refine lv_aload_n hx hb dL_law_1047 rfl (lv_at hl 5 rfl) ?_
    refine lv_iload hx hb dL_law_1048 (lv_at hl 1 rfl) ?_
    refine lv_iconst (v := 1) hx hb dL_law_1050 (by decide +kernel) ?_
    refine lv_iadd hx hb dL_law_1051 ?_
    refine top_i (v := 1) (by decide +kernel) ?_
    refine va_sld hx hb hX hbl hbA hS (i := 1) (vin (by decide +kernel)) dL_law_1052 ?_
    refine top_i (v := 2) ez1 ?_
    refine call_i (av := [.ref n3900, .int 2]) F hP hD hS [(n3900, .inr (12, [.ref n3000, .ref n3001, .ref n3002, .ref n3003, .int 0, .ref n3004, .int 0, .int 0, .int 0, .int 0, .int 0, .int 0, .int 0, .int 0, .int 0, .int (-1), .int 0, .ref n3005, .ref n3006, .int 0, .ref n3007, .ref n3008, .int 0, .int 0, .int 0, .int 0, .int 0, .int 0, .int 0, .ref n3009, .ref n3010, .int 0, .int 0, .ref n3011, .ref n3012, .int 0, .int 0, .ref n3013, .ref n3014, .ref n3015, .int 0, .ref n3016, .ref n3017, .ref n3018])), (n3016, .inl (cy 1, 4, .inl (upd (upd (upd (upd (fun _ => 0) 0 (-1)) 1 (-1)) 2 (-1)) 3 (-1))))] [] [0, 1] [] rfl rfl (by decide +kernel) (fun pr => va_runV (As := [.int 2]) (rest := []) ⟨hx, hb, hml, hown, hts⟩ (k199_X12_perform l D cy H.size n3900 2 n3016 n3000 n3001 n3002 n3003 n3004 n3005 n3006 n3007 n3008 n3009 n3010 n3011 n3012 n3013 n3014 n3015 n3017 n3018) (cwV 1 hts gw_X12_perform rfl rfl rfl (by decide +kernel) ⟨(by decide +kernel), (by decide +kernel)⟩) ⟨pr.1, va_recv hK hP (ci := 12) (q0 := 0) rfl rfl, pr.2⟩ rfl rfl hl.1 rfl (lv_room (Nat.le_of_ble_eq_true rfl)) dL_law_1053 ⟨(by decide +kernel), (by decide +kernel)⟩) (fun r u H locs hw hP hD hS => ?_)
    rcases hw with ⟨c800088, rfl, rfl⟩ | ⟨c800089, c800090, rfl, rfl⟩ | ⟨c800091, c800092, c800093, rfl, rfl⟩ | ⟨c800094, c800095, c800096, rfl, rfl⟩ | ⟨c800097, c800098, c800099, rfl, rfl⟩ | ⟨c800100, c800101, c800102, rfl, rfl⟩
    · exact absurd c800088 (by decide +kernel)
    · exact absurd c800090 (by decide +kernel)
    · exact absurd c800093 (by decide +kernel)
    · exact absurd c800096 (by decide +kernel)
    · have hP : va_P D vwCl [(n3900, .inr (12, [.ref n3000, .ref n3001, .ref n3002, .ref n3003, .int 2, .ref n3004, .int 0, .int 0, .int 0, .int 0, .int 0, .int 0, .int 0, .int 0, .int 0, .int (-1), .int 0, .ref n3005, .ref n3006, .int 0, .ref n3007, .ref n3008, .int 0, .int 0, .int 0, .int 0, .int 0, .int 0, .int 0, .ref n3009, .ref n3010, .int 0, .int 0, .ref n3011, .ref n3012, .int 0, .int 0, .ref n3013, .ref n3014, .ref n3015, .int 0, .ref n3016, .ref n3017, .ref n3018])), (n3016, .inl (cy 1, 4, .inl (upd (upd (upd (upd (fun _ => 0) 0 (-1)) 1 (-1)) 2 (-1)) 3 (-1))))] H := hP
      have hD : va_D A [(n3900, .inr (12, [.ref n3000, .ref n3001, .ref n3002, .ref n3003, .int 2, .ref n3004, .int 0, .int 0, .int 0, .int 0, .int 0, .int 0, .int 0, .int 0, .int 0, .int (-1), .int 0, .ref n3005, .ref n3006, .int 0, .ref n3007, .ref n3008, .int 0, .int 0, .int 0, .int 0, .int 0, .int 0, .int 0, .ref n3009, .ref n3010, .int 0, .int 0, .ref n3011, .ref n3012, .int 0, .int 0, .ref n3013, .ref n3014, .ref n3015, .int 0, .ref n3016, .ref n3017, .ref n3018])), (n3016, .inl (cy 1, 4, .inl (upd (upd (upd (upd (fun _ => 0) 0 (-1)) 1 (-1)) 2 (-1)) 3 (-1))))] := hD
      refine lv_istore (lv' := [(6, .int 0), (5, .int 2), (4, .int 0), (3, .ref n5000), (2, .ref n3900), (1, .ref n1900), (0, .ref b)]) hx hb dL_law_1056 hl (by decide +kernel) rfl (fun ls hl => ?_)
      refine lv_aload_n hx hb dL_law_1058 rfl (lv_at hl 4 rfl) ?_
      refine call_i (av := [.ref n3900]) F hP hD hS [(n3900, .inr (12, [.ref n3000, .ref n3001, .ref n3002, .ref n3003, .int 2, .ref n3004, .int 0, .int 0, .int 0, .int 0, .int 0, .int 0, .int 0, .int 0, .int 0, .int (-1), .int 0, .ref n3005, .ref n3006, .int 0, .ref n3007, .ref n3008, .int 0, .int 0, .int 0, .int 0, .int 0, .int 0, .int 0, .ref n3009, .ref n3010, .int 0, .int 0, .ref n3011, .ref n3012, .int 0, .int 0, .ref n3013, .ref n3014, .ref n3015, .int 0, .ref n3016, .ref n3017, .ref n3018]))] [(n3016, .inl (cy 1, 4, .inl (upd (upd (upd (upd (fun _ => 0) 0 (-1)) 1 (-1)) 2 (-1)) 3 (-1))))] [0] [1] rfl rfl (by decide +kernel) (fun pr => va_runV (As := []) (rest := []) ⟨hx, hb, hml, hown, hts⟩ (k335_X12_thrown l D cy H.size n3900 n3000 n3001 n3002 n3003 n3004 n3005 n3006 n3007 n3008 n3009 n3010 n3011 n3012 n3013 n3014 n3015 n3016 n3017 n3018) (cwV 0 hts gw_X12_thrown rfl rfl rfl (by decide +kernel) ⟨(by decide +kernel), (by decide +kernel)⟩) ⟨pr.1, va_recv hK hP (ci := 12) (q0 := 0) rfl rfl, pr.2⟩ rfl rfl hl.1 rfl (lv_room (Nat.le_of_ble_eq_true rfl)) dL_law_1059 ⟨(by decide +kernel), (by decide +kernel)⟩) (fun r u H locs hw hP hD hS => ?_)
      rcases hw with ⟨rfl, rfl⟩
      have hP : va_P D vwCl [(n3016, .inl (cy 1, 4, .inl (upd (upd (upd (upd (fun _ => 0) 0 (-1)) 1 (-1)) 2 (-1)) 3 (-1)))), (n3900, .inr (12, [.ref n3000, .ref n3001, .ref n3002, .ref n3003, .int 2, .ref n3004, .int 0, .int 0, .int 0, .int 0, .int 0, .int 0, .int 0, .int 0, .int 0, .int (-1), .int 0, .ref n3005, .ref n3006, .int 0, .ref n3007, .ref n3008, .int 0, .int 0, .int 0, .int 0, .int 0, .int 0, .int 0, .ref n3009, .ref n3010, .int 0, .int 0, .ref n3011, .ref n3012, .int 0, .int 0, .ref n3013, .ref n3014, .ref n3015, .int 0, .ref n3016, .ref n3017, .ref n3018]))] H := hP
      have hD : va_D A [(n3016, .inl (cy 1, 4, .inl (upd (upd (upd (upd (fun _ => 0) 0 (-1)) 1 (-1)) 2 (-1)) 3 (-1)))), (n3900, .inr (12, [.ref n3000, .ref n3001, .ref n3002, .ref n3003, .int 2, .ref n3004, .int 0, .int 0, .int 0, .int 0, .int 0, .int 0, .int 0, .int 0, .int 0, .int (-1), .int 0, .ref n3005, .ref n3006, .int 0, .ref n3007, .ref n3008, .int 0, .int 0, .int 0, .int 0, .int 0, .int 0, .int 0, .ref n3009, .ref n3010, .int 0, .int 0, .ref n3011, .ref n3012, .int 0, .int 0, .ref n3013, .ref n3014, .ref n3015, .int 0, .ref n3016, .ref n3017, .ref n3018]))] := hD
      refine lv_iload hx hb dL_law_1062 (lv_at hl 1 rfl) ?_
      refine lv_icmp_eq (tgt := 1069) hx hb dL_law_1064 (by decide +kernel) (fun _ => ?_) (fun h => absurd (by decide +kernel) h)
      refine lv_iload hx hb dL_law_1069 (lv_at hl 1 rfl) ?_
      refine lv_if_ne (tgt := 1086) hx hb dL_law_1071 (by decide +kernel) (fun _ => ?_) (fun h => absurd h (by decide +kernel))
      refine lv_goto (tgt := 2458) hx hb dL_law_1086 (by decide +kernel) ?_
      refine lv_iinc (v := 6) (lv' := [(4, .int 6), (6, .int 0), (5, .int 2), (3, .ref n5000), (2, .ref n3900), (1, .ref n1900), (0, .ref b)]) hx hb dL_law_2458 hl (k := 2) rfl (by decide) (by decide +kernel) rfl (fun ls hl => ?_)
      refine lv_goto (tgt := 23) hx hb dL_law_2461 (by decide +kernel) ?_
      refine lv_iload hx hb dL_law_23 (lv_at hl 0 rfl) ?_
      refine lv_aload_n hx hb dL_law_25 rfl (lv_at hl 6 rfl) ?_
      refine va_slen hx hb hX hbl hbA hS dL_law_26 ?_
      refine top_i (v := 6) rfl ?_
      refine lv_bipush (v := 6) hx hb dL_law_27 (by decide +kernel) ?_
      refine lv_isub hx hb dL_law_29 ?_
      refine top_i (v := 0) (by decide +kernel) ?_
      refine lv_icmp_gt (tgt := 2464) hx hb dL_law_30 (by decide +kernel) (fun _ => ?_) (fun h => absurd (by decide +kernel) h)
      refine lv_iconst (v := 1) hx hb dL_law_2464 (by decide +kernel) ?_
      refine va_forget (fun q hq => hAq _ (hS.2.2 q hq)) ?_
      refine W.widen (k := 600002) (n := 7302232) (by decide +kernel) (by decide +kernel) ?_
      exact lw_ret hx hb hr hlk dL_law_2465
    · exact absurd c800102 (by decide +kernel)
  · subst c800015
    have hP : va_P D vwCl [(n3900, .inr (12, [.ref n3000, .ref n3001, .ref n3002, .ref n3003, .int 0, .ref n3004, .int 0, .int 0, .int 0, .int 0, .int 0, .int 0, .int 0, .int 0, .int 0, .int (-1), .int 0, .ref n3005, .ref n3006, .int 0, .ref n3007, .ref n3008, .int 0, .int 0, .int 0, .int 0, .int 0, .int 0, .int 0, .ref n3009, .ref n3010, .int 0, .int 0, .ref n3011, .ref n3012, .int 0, .int 0, .ref n3013, .ref n3014, .ref n3015, .int 0, .ref n3016, .ref n3017, .ref n3018])), (n3016, .inl (cy 1, 4, .inl (upd (upd (upd (upd (fun _ => 0) 0 (-1)) 1 (-1)) 2 (-1)) 3 (-1))))] H := hP
    have hD : va_D A [(n3900, .inr (12, [.ref n3000, .ref n3001, .ref n3002, .ref n3003, .int 0, .ref n3004, .int 0, .int 0, .int 0, .int 0, .int 0, .int 0, .int 0, .int 0, .int 0, .int (-1), .int 0, .ref n3005, .ref n3006, .int 0, .ref n3007, .ref n3008, .int 0, .int 0, .int 0, .int 0, .int 0, .int 0, .int 0, .ref n3009, .ref n3010, .int 0, .int 0, .ref n3011, .ref n3012, .int 0, .int 0, .ref n3013, .ref n3014, .ref n3015, .int 0, .ref n3016, .ref n3017, .ref n3018])), (n3016, .inl (cy 1, 4, .inl (upd (upd (upd (upd (fun _ => 0) 0 (-1)) 1 (-1)) 2 (-1)) 3 (-1))))] := hD
    refine lv_istore (lv' := [(5, .int 2), (4, .int 0), (3, .ref n5000), (2, .ref n3900), (1, .ref n1900), (0, .ref b)]) hx hb dL_law_1044 hl (by decide +kernel) rfl (fun ls hl => ?_)
    refine lv_aload_n hx hb dL_law_1046 rfl (lv_at hl 3 rfl) ?_
    refine lv_aload_n hx hb dL_law_1047 rfl (lv_at hl 5 rfl) ?_
    refine lv_iload hx hb dL_law_1048 (lv_at hl 1 rfl) ?_
    refine lv_iconst (v := 1) hx hb dL_law_1050 (by decide +kernel) ?_
    refine lv_iadd hx hb dL_law_1051 ?_
    refine top_i (v := 1) (by decide +kernel) ?_
    refine va_sld hx hb hX hbl hbA hS (i := 1) (vin (by decide +kernel)) dL_law_1052 ?_
    refine top_i (v := 3) ez1 ?_
    refine call_i (av := [.ref n3900, .int 3]) F hP hD hS [(n3900, .inr (12, [.ref n3000, .ref n3001, .ref n3002, .ref n3003, .int 0, .ref n3004, .int 0, .int 0, .int 0, .int 0, .int 0, .int 0, .int 0, .int 0, .int 0, .int (-1), .int 0, .ref n3005, .ref n3006, .int 0, .ref n3007, .ref n3008, .int 0, .int 0, .int 0, .int 0, .int 0, .int 0, .int 0, .ref n3009, .ref n3010, .int 0, .int 0, .ref n3011, .ref n3012, .int 0, .int 0, .ref n3013, .ref n3014, .ref n3015, .int 0, .ref n3016, .ref n3017, .ref n3018])), (n3016, .inl (cy 1, 4, .inl (upd (upd (upd (upd (fun _ => 0) 0 (-1)) 1 (-1)) 2 (-1)) 3 (-1))))] [] [0, 1] [] rfl rfl (by decide +kernel) (fun pr => va_runV (As := [.int 3]) (rest := []) ⟨hx, hb, hml, hown, hts⟩ (k199_X12_perform l D cy H.size n3900 3 n3016 n3000 n3001 n3002 n3003 n3004 n3005 n3006 n3007 n3008 n3009 n3010 n3011 n3012 n3013 n3014 n3015 n3017 n3018) (cwV 1 hts gw_X12_perform rfl rfl rfl (by decide +kernel) ⟨(by decide +kernel), (by decide +kernel)⟩) ⟨pr.1, va_recv hK hP (ci := 12) (q0 := 0) rfl rfl, pr.2⟩ rfl rfl hl.1 rfl (lv_room (Nat.le_of_ble_eq_true rfl)) dL_law_1053 ⟨(by decide +kernel), (by decide +kernel)⟩) (fun r u H locs hw hP hD hS => ?_)
    rcases hw with ⟨c800106, rfl, rfl⟩ | ⟨c800107, c800108, rfl, rfl⟩ | ⟨c800109, c800110, c800111, rfl, rfl⟩ | ⟨c800112, c800113, c800114, rfl, rfl⟩ | ⟨c800115, c800116, c800117, rfl, rfl⟩ | ⟨c800118, c800119, c800120, rfl, rfl⟩
    · exact absurd c800106 (by decide +kernel)
    · exact absurd c800108 (by decide +kernel)
    · exact absurd c800111 (by decide +kernel)
    · exact absurd c800114 (by decide +kernel)
    · exact absurd c800117 (by decide +kernel)
    · have hP : va_P D vwCl [(n3900, .inr (12, [.ref n3000, .ref n3001, .ref n3002, .ref n3003, .int 2, .ref n3004, .int 0, .int 0, .int 0, .int 0, .int 0, .int 0, .int 0, .int 0, .int 0, .int (-1), .int 0, .ref n3005, .ref n3006, .int 0, .ref n3007, .ref n3008, .int 0, .int 0, .int 0, .int 0, .int 0, .int 0, .int 0, .ref n3009, .ref n3010, .int 0, .int 0, .ref n3011, .ref n3012, .int 0, .int 0, .ref n3013, .ref n3014, .ref n3015, .int 0, .ref n3016, .ref n3017, .ref n3018])), (n3016, .inl (cy 1, 4, .inl (upd (upd (upd (upd (fun _ => 0) 0 (-1)) 1 (-1)) 2 (-1)) 3 (-1))))] H := hP
      have hD : va_D A [(n3900, .inr (12, [.ref n3000, .ref n3001, .ref n3002, .ref n3003, .int 2, .ref n3004, .int 0, .int 0, .int 0, .int 0, .int 0, .int 0, .int 0, .int 0, .int 0, .int (-1), .int 0, .ref n3005, .ref n3006, .int 0, .ref n3007, .ref n3008, .int 0, .int 0, .int 0, .int 0, .int 0, .int 0, .int 0, .ref n3009, .ref n3010, .int 0, .int 0, .ref n3011, .ref n3012, .int 0, .int 0, .ref n3013, .ref n3014, .ref n3015, .int 0, .ref n3016, .ref n3017, .ref n3018])), (n3016, .inl (cy 1, 4, .inl (upd (upd (upd (upd (fun _ => 0) 0 (-1)) 1 (-1)) 2 (-1)) 3 (-1))))] := hD
      refine lv_istore (lv' := [(6, .int 0), (5, .int 2), (4, .int 0), (3, .ref n5000), (2, .ref n3900), (1, .ref n1900), (0, .ref b)]) hx hb dL_law_1056 hl (by decide +kernel) rfl (fun ls hl => ?_)
      refine lv_aload_n hx hb dL_law_1058 rfl (lv_at hl 4 rfl) ?_
      refine call_i (av := [.ref n3900]) F hP hD hS [(n3900, .inr (12, [.ref n3000, .ref n3001, .ref n3002, .ref n3003, .int 2, .ref n3004, .int 0, .int 0, .int 0, .int 0, .int 0, .int 0, .int 0, .int 0, .int 0, .int (-1), .int 0, .ref n3005, .ref n3006, .int 0, .ref n3007, .ref n3008, .int 0, .int 0, .int 0, .int 0, .int 0, .int 0, .int 0, .ref n3009, .ref n3010, .int 0, .int 0, .ref n3011, .ref n3012, .int 0, .int 0, .ref n3013, .ref n3014, .ref n3015, .int 0, .ref n3016, .ref n3017, .ref n3018]))] [(n3016, .inl (cy 1, 4, .inl (upd (upd (upd (upd (fun _ => 0) 0 (-1)) 1 (-1)) 2 (-1)) 3 (-1))))] [0] [1] rfl rfl (by decide +kernel) (fun pr => va_runV (As := []) (rest := []) ⟨hx, hb, hml, hown, hts⟩ (k335_X12_thrown l D cy H.size n3900 n3000 n3001 n3002 n3003 n3004 n3005 n3006 n3007 n3008 n3009 n3010 n3011 n3012 n3013 n3014 n3015 n3016 n3017 n3018) (cwV 0 hts gw_X12_thrown rfl rfl rfl (by decide +kernel) ⟨(by decide +kernel), (by decide +kernel)⟩) ⟨pr.1, va_recv hK hP (ci := 12) (q0 := 0) rfl rfl, pr.2⟩ rfl rfl hl.1 rfl (lv_room (Nat.le_of_ble_eq_true rfl)) dL_law_1059 ⟨(by decide +kernel), (by decide +kernel)⟩) (fun r u H locs hw hP hD hS => ?_)
      rcases hw with ⟨rfl, rfl⟩
      have hP : va_P D vwCl [(n3016, .inl (cy 1, 4, .inl (upd (upd (upd (upd (fun _ => 0) 0 (-1)) 1 (-1)) 2 (-1)) 3 (-1)))), (n3900, .inr (12, [.ref n3000, .ref n3001, .ref n3002, .ref n3003, .int 2, .ref n3004, .int 0, .int 0, .int 0, .int 0, .int 0, .int 0, .int 0, .int 0, .int 0, .int (-1), .int 0, .ref n3005, .ref n3006, .int 0, .ref n3007, .ref n3008, .int 0, .int 0, .int 0, .int 0, .int 0, .int 0, .int 0, .ref n3009, .ref n3010, .int 0, .int 0, .ref n3011, .ref n3012, .int 0, .int 0, .ref n3013, .ref n3014, .ref n3015, .int 0, .ref n3016, .ref n3017, .ref n3018]))] H := hP
      have hD : va_D A [(n3016, .inl (cy 1, 4, .inl (upd (upd (upd (upd (fun _ => 0) 0 (-1)) 1 (-1)) 2 (-1)) 3 (-1)))), (n3900, .inr (12, [.ref n3000, .ref n3001, .ref n3002, .ref n3003, .int 2, .ref n3004, .int 0, .int 0, .int 0, .int 0, .int 0, .int 0, .int 0, .int 0, .int 0, .int (-1), .int 0, .ref n3005, .ref n3006, .int 0, .ref n3007, .ref n3008, .int 0, .int 0, .int 0, .int 0, .int 0, .int 0, .int 0, .ref n3009, .ref n3010, .int 0, .int 0, .ref n3011, .ref n3012, .int 0, .int 0, .ref n3013, .ref n3014, .ref n3015, .int 0, .ref n3016, .ref n3017, .ref n3018]))] := hD
      refine lv_iload hx hb dL_law_1062 (lv_at hl 1 rfl) ?_
      refine lv_icmp_eq (tgt := 1069) hx hb dL_law_1064 (by decide +kernel) (fun _ => ?_) (fun h => absurd (by decide +kernel) h)
      refine lv_iload hx hb dL_law_1069 (lv_at hl 1 rfl) ?_
      refine lv_if_ne (tgt := 1086) hx hb dL_law_1071 (by decide +kernel) (fun _ => ?_) (fun h => absurd h (by decide +kernel))
      refine lv_goto (tgt := 2458) hx hb dL_law_1086 (by decide +kernel) ?_
      refine lv_iinc (v := 6) (lv' := [(4, .int 6), (6, .int 0), (5, .int 2), (3, .ref n5000), (2, .ref n3900), (1, .ref n1900), (0, .ref b)]) hx hb dL_law_2458 hl (k := 2) rfl (by decide) (by decide +kernel) rfl (fun ls hl => ?_)
      refine lv_goto (tgt := 23) hx hb dL_law_2461 (by decide +kernel) ?_
      refine lv_iload hx hb dL_law_23 (lv_at hl 0 rfl) ?_
      refine lv_aload_n hx hb dL_law_25 rfl (lv_at hl 6 rfl) ?_
      refine va_slen hx hb hX hbl hbA hS dL_law_26 ?_
      refine top_i (v := 6) rfl ?_
      refine lv_bipush (v := 6) hx hb dL_law_27 (by decide +kernel) ?_
      refine lv_isub hx hb dL_law_29 ?_
      refine top_i (v := 0) (by decide +kernel) ?_
      refine lv_icmp_gt (tgt := 2464) hx hb dL_law_30 (by decide +kernel) (fun _ => ?_) (fun h => absurd (by decide +kernel) h)
      refine lv_iconst (v := 1) hx hb dL_law_2464 (by decide +kernel) ?_
      refine va_forget (fun q hq => hAq _ (hS.2.2 q hq)) ?_
      refine W.widen (k := 600002) (n := 7302232) (by decide +kernel) (by decide +kernel) ?_
      exact lw_ret hx hb hr hlk dL_law_2465
set_option maxHeartbeats 4000000 in
set_option maxRecDepth 100000 in
theorem law_c16 {p : Program} {l : Launch} {e : Env} {s : State} {m : MethodId} {below : List Frame} {meth : Method} {c : Code} {b : Nat} {xs : Nat → Int32} {D : va_G} {cy : Nat → ClassId} {A : Nat → Prop} (hlT : l.stackTraces = false) (F : Fx D cy p m c cL_law 8 s #[Value.ref b] lw_tbl RL A) (hr : meth.sig.returnType = ret) (hlk : meth.locks = false) (hX : va_X b 6 xs s s.heap) (hbl : b < s.heap.size) (hbA : ¬ A b) (hAq : ∀ q, A q → s.heap.size ≤ q) {H : Heap} {locs : List Loc} {ls : Array Slot} (n1900 n1000 n1001 n1017 n1034 n1039 n1041 n1042 n1043 n1044 n1048 n1056 n1057 n1002 n1003 n1004 n1005 n1006 n1007 n1008 n1009 n1010 n1011 n1012 n1013 n3900 n3000 n3001 n3002 n3003 n3004 n3005 n3006 n3007 n3008 n3009 n3010 n3011 n3012 n3013 n3014 n3015 n3016 n3017 n3018 n5000 : Nat) (hP : va_P D vwCl [(n1900, .inr (11, [.ref n1000, .int 0, .ref n1001, .ref n1017, .ref n1034, .ref n1039, .ref n1041, .ref n1042, .ref n1043, .ref n1044, .ref n1048, .ref n1056, .ref n1057, .int 0])), (n1001, .inr (9, [.int 0, .int 0, .int 0, .int 0, .int 0, .ref n1002, .ref n1003, .ref n1004, .ref n1005, .ref n1006, .ref n1007, .ref n1008, .int 0, .ref n1009, .ref n1010, .ref n1011, .ref n1012, .ref n1013])), (n3900, .inr (12, [.ref n3000, .ref n3001, .ref n3002, .ref n3003, .int 0, .ref n3004, .int 0, .int 0, .int 0, .int 0, .int 0, .int 0, .int 0, .int 0, .int 0, .int (-1), .int 0, .ref n3005, .ref n3006, .int 0, .ref n3007, .ref n3008, .int 0, .int 0, .int 0, .int 0, .int 0, .int 0, .int 0, .ref n3009, .ref n3010, .int 0, .int 0, .ref n3011, .ref n3012, .int 0, .int 0, .ref n3013, .ref n3014, .ref n3015, .int 0, .ref n3016, .ref n3017, .ref n3018])), (n3000, .inl (cy 1, 1300, .inl (fun _ => 0)))] H) (hD : va_D A [(n1900, .inr (11, [.ref n1000, .int 0, .ref n1001, .ref n1017, .ref n1034, .ref n1039, .ref n1041, .ref n1042, .ref n1043, .ref n1044, .ref n1048, .ref n1056, .ref n1057, .int 0])), (n1001, .inr (9, [.int 0, .int 0, .int 0, .int 0, .int 0, .ref n1002, .ref n1003, .ref n1004, .ref n1005, .ref n1006, .ref n1007, .ref n1008, .int 0, .ref n1009, .ref n1010, .ref n1011, .ref n1012, .ref n1013])), (n3900, .inr (12, [.ref n3000, .ref n3001, .ref n3002, .ref n3003, .int 0, .ref n3004, .int 0, .int 0, .int 0, .int 0, .int 0, .int 0, .int 0, .int 0, .int 0, .int (-1), .int 0, .ref n3005, .ref n3006, .int 0, .ref n3007, .ref n3008, .int 0, .int 0, .int 0, .int 0, .int 0, .int 0, .int 0, .ref n3009, .ref n3010, .int 0, .int 0, .ref n3011, .ref n3012, .int 0, .int 0, .ref n3013, .ref n3014, .ref n3015, .int 0, .ref n3016, .ref n3017, .ref n3018])), (n3000, .inl (cy 1, 1300, .inl (fun _ => 0)))]) (hS : va_S A s.heap H locs) (hl : lv_has ls 8 [(4, .int 0), (3, .ref n5000), (2, .ref n3900), (1, .ref n1900), (0, .ref b)]) : W p l e room_1 s m #[Value.ref b] below meth c H locs 152 18765 (lw_Z below #[Value.ref b] s) (F0 m 1089 ls []) := by
  obtain ⟨⟨hx, hb, hml, hown, hts⟩, hK, hG, hZ, hA⟩ := id F
  obtain ⟨z1, ez1⟩ : ∃ z, xs 1 = z := ⟨_, rfl⟩
  obtain ⟨z2, ez2⟩ : ∃ z, xs 2 = z := ⟨_, rfl⟩
  obtain ⟨z3, ez3⟩ : ∃ z, xs 3 = z := ⟨_, rfl⟩
  obtain ⟨z4, ez4⟩ : ∃ z, xs 4 = z := ⟨_, rfl⟩
  obtain ⟨z5, ez5⟩ : ∃ z, xs 5 = z := ⟨_, rfl⟩
  refine lv_aload_n hx hb dL_law_1089 rfl (lv_at hl 3 rfl) ?_
  refine lv_aload_n hx hb dL_law_1090 rfl (lv_at hl 4 rfl) ?_
  refine lv_iload hx hb dL_law_1091 (lv_at hl 0 rfl) ?_
  refine lv_iconst (v := 1) hx hb dL_law_1093 (by decide +kernel) ?_
  refine lv_iadd hx hb dL_law_1094 ?_
  refine top_i (v := 1) (by decide +kernel) ?_
  refine va_sld hx hb hX hbl hbA hS (i := 1) (vin (by decide +kernel)) dL_law_1095 ?_
  refine top_i (v := z1) ez1 ?_
  refine lv_aload_n hx hb dL_law_1096 rfl (lv_at hl 4 rfl) ?_
  refine lv_iload hx hb dL_law_1097 (lv_at hl 0 rfl) ?_
  refine lv_iconst (v := 2) hx hb dL_law_1099 (by decide +kernel) ?_
  refine lv_iadd hx hb dL_law_1100 ?_
  refine top_i (v := 2) (by decide +kernel) ?_
  refine va_sld hx hb hX hbl hbA hS (i := 2) (vin (by decide +kernel)) dL_law_1101 ?_
  refine top_i (v := z2) ez2 ?_
  refine lv_aload_n hx hb dL_law_1102 rfl (lv_at hl 1 rfl) ?_
  refine call_i (av := [.ref n1900, .int z1, .int z2, .ref n5000]) F hP hD hS [(n1900, .inr (11, [.ref n1000, .int 0, .ref n1001, .ref n1017, .ref n1034, .ref n1039, .ref n1041, .ref n1042, .ref n1043, .ref n1044, .ref n1048, .ref n1056, .ref n1057, .int 0])), (n1001, .inr (9, [.int 0, .int 0, .int 0, .int 0, .int 0, .ref n1002, .ref n1003, .ref n1004, .ref n1005, .ref n1006, .ref n1007, .ref n1008, .int 0, .ref n1009, .ref n1010, .ref n1011, .ref n1012, .ref n1013]))] [(n3900, .inr (12, [.ref n3000, .ref n3001, .ref n3002, .ref n3003, .int 0, .ref n3004, .int 0, .int 0, .int 0, .int 0, .int 0, .int 0, .int 0, .int 0, .int 0, .int (-1), .int 0, .ref n3005, .ref n3006, .int 0, .ref n3007, .ref n3008, .int 0, .int 0, .int 0, .int 0, .int 0, .int 0, .int 0, .ref n3009, .ref n3010, .int 0, .int 0, .ref n3011, .ref n3012, .int 0, .int 0, .ref n3013, .ref n3014, .ref n3015, .int 0, .ref n3016, .ref n3017, .ref n3018])), (n3000, .inl (cy 1, 1300, .inl (fun _ => 0)))] [0, 1] [2, 3] rfl rfl (by decide +kernel) (fun pr => vx_runSW (As := [.ref n1900, .int z1, .int z2, .ref n5000]) (rest := []) ⟨hx, hb, hml, hown, hts⟩ (k313_L_season l hlT D cy H.size n1900 z1 z2 n5000 n1001 n1000 n1017 n1034 n1039 n1041 n1042 n1043 n1044 n1048 n1056 n1057 n1002 n1003 n1004 n1005 n1006 n1007 n1008 n1009 n1010 n1011 n1012 n1013) (vx_cwSW 4 hts gw_L_season rfl rfl rfl (by decide +kernel) ⟨(by decide +kernel), (by decide +kernel)⟩) pr rfl rfl hl.1 rfl (lv_room (Nat.le_of_ble_eq_true rfl)) dL_law_1103 ⟨(by decide +kernel), (by decide +kernel)⟩) (fun r u H locs hw hP hD hS => ?_)
  rcases hw with ⟨c800001, rfl, rfl⟩ | ⟨c800002, c800003, rfl, rfl⟩ | ⟨c800004, c800005, rfl, rfl⟩
  · have hP : va_P D vwCl [(n3900, .inr (12, [.ref n3000, .ref n3001, .ref n3002, .ref n3003, .int 0, .ref n3004, .int 0, .int 0, .int 0, .int 0, .int 0, .int 0, .int 0, .int 0, .int 0, .int (-1), .int 0, .ref n3005, .ref n3006, .int 0, .ref n3007, .ref n3008, .int 0, .int 0, .int 0, .int 0, .int 0, .int 0, .int 0, .ref n3009, .ref n3010, .int 0, .int 0, .ref n3011, .ref n3012, .int 0, .int 0, .ref n3013, .ref n3014, .ref n3015, .int 0, .ref n3016, .ref n3017, .ref n3018])), (n3000, .inl (cy 1, 1300, .inl (fun _ => 0)))] H := hP
    have hD : va_D A [(n3900, .inr (12, [.ref n3000, .ref n3001, .ref n3002, .ref n3003, .int 0, .ref n3004, .int 0, .int 0, .int 0, .int 0, .int 0, .int 0, .int 0, .int 0, .int 0, .int (-1), .int 0, .ref n3005, .ref n3006, .int 0, .ref n3007, .ref n3008, .int 0, .int 0, .int 0, .int 0, .int 0, .int 0, .int 0, .ref n3009, .ref n3010, .int 0, .int 0, .ref n3011, .ref n3012, .int 0, .int 0, .ref n3013, .ref n3014, .ref n3015, .int 0, .ref n3016, .ref n3017, .ref n3018])), (n3000, .inl (cy 1, 1300, .inl (fun _ => 0)))] := hD
    refine lv_istore (lv' := [(5, .int 1), (4, .int 0), (3, .ref n5000), (2, .ref n3900), (1, .ref n1900), (0, .ref b)]) hx hb dL_law_1106 hl (by decide +kernel) rfl (fun ls hl => ?_)
    refine lv_aload_n hx hb dL_law_1108 rfl (lv_at hl 3 rfl) ?_
    refine lv_aload_n hx hb dL_law_1109 rfl (lv_at hl 5 rfl) ?_
    refine lv_iload hx hb dL_law_1110 (lv_at hl 1 rfl) ?_
    refine lv_iconst (v := 1) hx hb dL_law_1112 (by decide +kernel) ?_
    refine lv_iadd hx hb dL_law_1113 ?_
    refine top_i (v := 1) (by decide +kernel) ?_
    refine va_sld hx hb hX hbl hbA hS (i := 1) (vin (by decide +kernel)) dL_law_1114 ?_
    refine top_i (v := z1) ez1 ?_
    refine lv_aload_n hx hb dL_law_1115 rfl (lv_at hl 5 rfl) ?_
    refine lv_iload hx hb dL_law_1116 (lv_at hl 1 rfl) ?_
    refine lv_iconst (v := 2) hx hb dL_law_1118 (by decide +kernel) ?_
    refine lv_iadd hx hb dL_law_1119 ?_
    refine top_i (v := 2) (by decide +kernel) ?_
    refine va_sld hx hb hX hbl hbA hS (i := 2) (vin (by decide +kernel)) dL_law_1120 ?_
    refine top_i (v := z2) ez2 ?_
    refine call_i (av := [.ref n3900, .int z1, .int z2]) F hP hD hS [(n3900, .inr (12, [.ref n3000, .ref n3001, .ref n3002, .ref n3003, .int 0, .ref n3004, .int 0, .int 0, .int 0, .int 0, .int 0, .int 0, .int 0, .int 0, .int 0, .int (-1), .int 0, .ref n3005, .ref n3006, .int 0, .ref n3007, .ref n3008, .int 0, .int 0, .int 0, .int 0, .int 0, .int 0, .int 0, .ref n3009, .ref n3010, .int 0, .int 0, .ref n3011, .ref n3012, .int 0, .int 0, .ref n3013, .ref n3014, .ref n3015, .int 0, .ref n3016, .ref n3017, .ref n3018])), (n3000, .inl (cy 1, 1300, .inl (fun _ => 0)))] [] [0, 1] [] rfl rfl (by decide +kernel) (fun pr => va_runV (As := [.int z1, .int z2]) (rest := []) ⟨hx, hb, hml, hown, hts⟩ (k200_X12_season l D cy H.size n3900 z1 z2 n3000 n3001 n3002 n3003 n3004 n3005 n3006 n3007 n3008 n3009 n3010 n3011 n3012 n3013 n3014 n3015 n3016 n3017 n3018) (cwV 2 hts gw_X12_season rfl rfl rfl (by decide +kernel) ⟨(by decide +kernel), (by decide +kernel)⟩) ⟨pr.1, va_recv hK hP (ci := 12) (q0 := 0) rfl rfl, pr.2⟩ rfl rfl hl.1 rfl (lv_room (Nat.le_of_ble_eq_true rfl)) dL_law_1121 ⟨(by decide +kernel), (by decide +kernel)⟩) (fun r u H locs hw hP hD hS => ?_)
    rcases hw with ⟨c800006, rfl, rfl⟩ | ⟨c800007, c800008, rfl, rfl⟩ | ⟨c800009, c800010, rfl, rfl⟩
    · have hP : va_P D vwCl [(n3900, .inr (12, [.ref n3000, .ref n3001, .ref n3002, .ref n3003, .int 1, .ref n3004, .int 0, .int 0, .int 0, .int 0, .int 0, .int 0, .int 0, .int 0, .int 0, .int (-1), .int 0, .ref n3005, .ref n3006, .int 0, .ref n3007, .ref n3008, .int 0, .int 0, .int 0, .int 0, .int 0, .int 0, .int 0, .ref n3009, .ref n3010, .int 0, .int 0, .ref n3011, .ref n3012, .int 0, .int 0, .ref n3013, .ref n3014, .ref n3015, .int 0, .ref n3016, .ref n3017, .ref n3018])), (n3000, .inl (cy 1, 1300, .inl (fun _ => 0)))] H := hP
      have hD : va_D A [(n3900, .inr (12, [.ref n3000, .ref n3001, .ref n3002, .ref n3003, .int 1, .ref n3004, .int 0, .int 0, .int 0, .int 0, .int 0, .int 0, .int 0, .int 0, .int 0, .int (-1), .int 0, .ref n3005, .ref n3006, .int 0, .ref n3007, .ref n3008, .int 0, .int 0, .int 0, .int 0, .int 0, .int 0, .int 0, .ref n3009, .ref n3010, .int 0, .int 0, .ref n3011, .ref n3012, .int 0, .int 0, .ref n3013, .ref n3014, .ref n3015, .int 0, .ref n3016, .ref n3017, .ref n3018])), (n3000, .inl (cy 1, 1300, .inl (fun _ => 0)))] := hD
      refine lv_istore (lv' := [(6, .int 0), (5, .int 1), (4, .int 0), (3, .ref n5000), (2, .ref n3900), (1, .ref n1900), (0, .ref b)]) hx hb dL_law_1124 hl (by decide +kernel) rfl (fun ls hl => ?_)
      refine lv_aload_n hx hb dL_law_1126 rfl (lv_at hl 4 rfl) ?_
      refine call_i (av := [.ref n3900]) F hP hD hS [(n3900, .inr (12, [.ref n3000, .ref n3001, .ref n3002, .ref n3003, .int 1, .ref n3004, .int 0, .int 0, .int 0, .int 0, .int 0, .int 0, .int 0, .int 0, .int 0, .int (-1), .int 0, .ref n3005, .ref n3006, .int 0, .ref n3007, .ref n3008, .int 0, .int 0, .int 0, .int 0, .int 0, .int 0, .int 0, .ref n3009, .ref n3010, .int 0, .int 0, .ref n3011, .ref n3012, .int 0, .int 0, .ref n3013, .ref n3014, .ref n3015, .int 0, .ref n3016, .ref n3017, .ref n3018]))] [(n3000, .inl (cy 1, 1300, .inl (fun _ => 0)))] [0] [1] rfl rfl (by decide +kernel) (fun pr => va_runV (As := []) (rest := []) ⟨hx, hb, hml, hown, hts⟩ (k333_X12_thrown l D cy H.size n3900 n3000 n3001 n3002 n3003 n3004 n3005 n3006 n3007 n3008 n3009 n3010 n3011 n3012 n3013 n3014 n3015 n3016 n3017 n3018) (cwV 0 hts gw_X12_thrown rfl rfl rfl (by decide +kernel) ⟨(by decide +kernel), (by decide +kernel)⟩) ⟨pr.1, va_recv hK hP (ci := 12) (q0 := 0) rfl rfl, pr.2⟩ rfl rfl hl.1 rfl (lv_room (Nat.le_of_ble_eq_true rfl)) dL_law_1127 ⟨(by decide +kernel), (by decide +kernel)⟩) (fun r u H locs hw hP hD hS => ?_)
      rcases hw with ⟨rfl, rfl⟩
      have hP : va_P D vwCl [(n3000, .inl (cy 1, 1300, .inl (fun _ => 0))), (n3900, .inr (12, [.ref n3000, .ref n3001, .ref n3002, .ref n3003, .int 1, .ref n3004, .int 0, .int 0, .int 0, .int 0, .int 0, .int 0, .int 0, .int 0, .int 0, .int (-1), .int 0, .ref n3005, .ref n3006, .int 0, .ref n3007, .ref n3008, .int 0, .int 0, .int 0, .int 0, .int 0, .int 0, .int 0, .ref n3009, .ref n3010, .int 0, .int 0, .ref n3011, .ref n3012, .int 0, .int 0, .ref n3013, .ref n3014, .ref n3015, .int 0, .ref n3016, .ref n3017, .ref n3018]))] H := hP
      have hD : va_D A [(n3000, .inl (cy 1, 1300, .inl (fun _ => 0))), (n3900, .inr (12, [.ref n3000, .ref n3001, .ref n3002, .ref n3003, .int 1, .ref n3004, .int 0, .int 0, .int 0, .int 0, .int 0, .int 0, .int 0, .int 0, .int 0, .int (-1), .int 0, .ref n3005, .ref n3006, .int 0, .ref n3007, .ref n3008, .int 0, .int 0, .int 0, .int 0, .int 0, .int 0, .int 0, .ref n3009, .ref n3010, .int 0, .int 0, .ref n3011, .ref n3012, .int 0, .int 0, .ref n3013, .ref n3014, .ref n3015, .int 0, .ref n3016, .ref n3017, .ref n3018]))] := hD
      refine lv_iload hx hb dL_law_1130 (lv_at hl 1 rfl) ?_
      refine lv_icmp_eq (tgt := 1137) hx hb dL_law_1132 (by decide +kernel) (fun _ => ?_) (fun h => absurd (by decide +kernel) h)
      refine lv_iload hx hb dL_law_1137 (lv_at hl 1 rfl) ?_
      refine lv_if_ne (tgt := 1154) hx hb dL_law_1139 (by decide +kernel) (fun _ => ?_) (fun h => absurd h (by decide +kernel))
      refine lv_goto (tgt := 2458) hx hb dL_law_1154 (by decide +kernel) ?_
      refine lv_iinc (v := 6) (lv' := [(4, .int 6), (6, .int 0), (5, .int 1), (3, .ref n5000), (2, .ref n3900), (1, .ref n1900), (0, .ref b)]) hx hb dL_law_2458 hl (k := 2) rfl (by decide) (by decide +kernel) rfl (fun ls hl => ?_)
      refine lv_goto (tgt := 23) hx hb dL_law_2461 (by decide +kernel) ?_
      refine lv_iload hx hb dL_law_23 (lv_at hl 0 rfl) ?_
      refine lv_aload_n hx hb dL_law_25 rfl (lv_at hl 6 rfl) ?_
      refine va_slen hx hb hX hbl hbA hS dL_law_26 ?_
      refine top_i (v := 6) rfl ?_
      refine lv_bipush (v := 6) hx hb dL_law_27 (by decide +kernel) ?_
      refine lv_isub hx hb dL_law_29 ?_
      refine top_i (v := 0) (by decide +kernel) ?_
      refine lv_icmp_gt (tgt := 2464) hx hb dL_law_30 (by decide +kernel) (fun _ => ?_) (fun h => absurd (by decide +kernel) h)
      refine lv_iconst (v := 1) hx hb dL_law_2464 (by decide +kernel) ?_
      refine va_forget (fun q hq => hAq _ (hS.2.2 q hq)) ?_
      refine W.widen (k := 600002) (n := 7302232) (by decide +kernel) (by decide +kernel) ?_
      exact lw_ret hx hb hr hlk dL_law_2465
    · exact (no_b (lo_nlt_w c800007) (up_lt c800001) (by decide +kernel)).elim
    · exact (no_b (lo_nlt_w c800009) (up_lt c800001) (by decide +kernel)).elim
  · have hP : va_P D vwCl [(n3900, .inr (12, [.ref n3000, .ref n3001, .ref n3002, .ref n3003, .int 0, .ref n3004, .int 0, .int 0, .int 0, .int 0, .int 0, .int 0, .int 0, .int 0, .int 0, .int (-1), .int 0, .ref n3005, .ref n3006, .int 0, .ref n3007, .ref n3008, .int 0, .int 0, .int 0, .int 0, .int 0, .int 0, .int 0, .ref n3009, .ref n3010, .int 0, .int 0, .ref n3011, .ref n3012, .int 0, .int 0, .ref n3013, .ref n3014, .ref n3015, .int 0, .ref n3016, .ref n3017, .ref n3018])), (n3000, .inl (cy 1, 1300, .inl (fun _ => 0)))] H := hP
    have hD : va_D A [(n3900, .inr (12, [.ref n3000, .ref n3001, .ref n3002, .ref n3003, .int 0, .ref n3004, .int 0, .int 0, .int 0, .int 0, .int 0, .int 0, .int 0, .int 0, .int 0, .int (-1), .int 0, .ref n3005, .ref n3006, .int 0, .ref n3007, .ref n3008, .int 0, .int 0, .int 0, .int 0, .int 0, .int 0, .int 0, .ref n3009, .ref n3010, .int 0, .int 0, .ref n3011, .ref n3012, .int 0, .int 0, .ref n3013, .ref n3014, .ref n3015, .int 0, .ref n3016, .ref n3017, .ref n3018])), (n3000, .inl (cy 1, 1300, .inl (fun _ => 0)))] := hD
    refine lv_istore (lv' := [(5, .int 2), (4, .int 0), (3, .ref n5000), (2, .ref n3900), (1, .ref n1900), (0, .ref b)]) hx hb dL_law_1106 hl (by decide +kernel) rfl (fun ls hl => ?_)
    refine lv_aload_n hx hb dL_law_1108 rfl (lv_at hl 3 rfl) ?_
    refine lv_aload_n hx hb dL_law_1109 rfl (lv_at hl 5 rfl) ?_
    refine lv_iload hx hb dL_law_1110 (lv_at hl 1 rfl) ?_
    refine lv_iconst (v := 1) hx hb dL_law_1112 (by decide +kernel) ?_
    refine lv_iadd hx hb dL_law_1113 ?_
    refine top_i (v := 1) (by decide +kernel) ?_
    refine va_sld hx hb hX hbl hbA hS (i := 1) (vin (by decide +kernel)) dL_law_1114 ?_
    refine top_i (v := z1) ez1 ?_
    refine lv_aload_n hx hb dL_law_1115 rfl (lv_at hl 5 rfl) ?_
    refine lv_iload hx hb dL_law_1116 (lv_at hl 1 rfl) ?_
    refine lv_iconst (v := 2) hx hb dL_law_1118 (by decide +kernel) ?_
    refine lv_iadd hx hb dL_law_1119 ?_
    refine top_i (v := 2) (by decide +kernel) ?_
    refine va_sld hx hb hX hbl hbA hS (i := 2) (vin (by decide +kernel)) dL_law_1120 ?_
    refine top_i (v := z2) ez2 ?_
    refine call_i (av := [.ref n3900, .int z1, .int z2]) F hP hD hS [(n3900, .inr (12, [.ref n3000, .ref n3001, .ref n3002, .ref n3003, .int 0, .ref n3004, .int 0, .int 0, .int 0, .int 0, .int 0, .int 0, .int 0, .int 0, .int 0, .int (-1), .int 0, .ref n3005, .ref n3006, .int 0, .ref n3007, .ref n3008, .int 0, .int 0, .int 0, .int 0, .int 0, .int 0, .int 0, .ref n3009, .ref n3010, .int 0, .int 0, .ref n3011, .ref n3012, .int 0, .int 0, .ref n3013, .ref n3014, .ref n3015, .int 0, .ref n3016, .ref n3017, .ref n3018])), (n3000, .inl (cy 1, 1300, .inl (fun _ => 0)))] [] [0, 1] [] rfl rfl (by decide +kernel) (fun pr => va_runV (As := [.int z1, .int z2]) (rest := []) ⟨hx, hb, hml, hown, hts⟩ (k200_X12_season l D cy H.size n3900 z1 z2 n3000 n3001 n3002 n3003 n3004 n3005 n3006 n3007 n3008 n3009 n3010 n3011 n3012 n3013 n3014 n3015 n3016 n3017 n3018) (cwV 2 hts gw_X12_season rfl rfl rfl (by decide +kernel) ⟨(by decide +kernel), (by decide +kernel)⟩) ⟨pr.1, va_recv hK hP (ci := 12) (q0 := 0) rfl rfl, pr.2⟩ rfl rfl hl.1 rfl (lv_room (Nat.le_of_ble_eq_true rfl)) dL_law_1121 ⟨(by decide +kernel), (by decide +kernel)⟩) (fun r u H locs hw hP hD hS => ?_)
    rcases hw with ⟨c800014, rfl, rfl⟩ | ⟨c800015, c800016, rfl, rfl⟩ | ⟨c800017, c800018, rfl, rfl⟩
    · exact (no_b (lo_nlt c800002) (up_lt_w c800014) (by decide +kernel)).elim
    · exact (no_b (lo_lt_w c800016) (up_le c800003) (by decide +kernel)).elim
    · have hP : va_P D vwCl [(n3900, .inr (12, [.ref n3000, .ref n3001, .ref n3002, .ref n3003, .int 2, .ref n3004, .int 0, .int 0, .int 0, .int 0, .int 0, .int 0, .int 0, .int 0, .int 0, .int (-1), .int 0, .ref n3005, .ref n3006, .int 0, .ref n3007, .ref n3008, .int 0, .int 0, .int 0, .int 0, .int 0, .int 0, .int 0, .ref n3009, .ref n3010, .int 0, .int 0, .ref n3011, .ref n3012, .int 0, .int 0, .ref n3013, .ref n3014, .ref n3015, .int 0, .ref n3016, .ref n3017, .ref n3018])), (n3000, .inl (cy 1, 1300, .inl (fun _ => 0)))] H := hP
      have hD : va_D A [(n3900, .inr (12, [.ref n3000, .ref n3001, .ref n3002, .ref n3003, .int 2, .ref n3004, .int 0, .int 0, .int 0, .int 0, .int 0, .int 0, .int 0, .int 0, .int 0, .int (-1), .int 0, .ref n3005, .ref n3006, .int 0, .ref n3007, .ref n3008, .int 0, .int 0, .int 0, .int 0, .int 0, .int 0, .int 0, .ref n3009, .ref n3010, .int 0, .int 0, .ref n3011, .ref n3012, .int 0, .int 0, .ref n3013, .ref n3014, .ref n3015, .int 0, .ref n3016, .ref n3017, .ref n3018])), (n3000, .inl (cy 1, 1300, .inl (fun _ => 0)))] := hD
      refine lv_istore (lv' := [(6, .int 0), (5, .int 2), (4, .int 0), (3, .ref n5000), (2, .ref n3900), (1, .ref n1900), (0, .ref b)]) hx hb dL_law_1124 hl (by decide +kernel) rfl (fun ls hl => ?_)
      refine lv_aload_n hx hb dL_law_1126 rfl (lv_at hl 4 rfl) ?_
      refine call_i (av := [.ref n3900]) F hP hD hS [(n3900, .inr (12, [.ref n3000, .ref n3001, .ref n3002, .ref n3003, .int 2, .ref n3004, .int 0, .int 0, .int 0, .int 0, .int 0, .int 0, .int 0, .int 0, .int 0, .int (-1), .int 0, .ref n3005, .ref n3006, .int 0, .ref n3007, .ref n3008, .int 0, .int 0, .int 0, .int 0, .int 0, .int 0, .int 0, .ref n3009, .ref n3010, .int 0, .int 0, .ref n3011, .ref n3012, .int 0, .int 0, .ref n3013, .ref n3014, .ref n3015, .int 0, .ref n3016, .ref n3017, .ref n3018]))] [(n3000, .inl (cy 1, 1300, .inl (fun _ => 0)))] [0] [1] rfl rfl (by decide +kernel) (fun pr => va_runV (As := []) (rest := []) ⟨hx, hb, hml, hown, hts⟩ (k335_X12_thrown l D cy H.size n3900 n3000 n3001 n3002 n3003 n3004 n3005 n3006 n3007 n3008 n3009 n3010 n3011 n3012 n3013 n3014 n3015 n3016 n3017 n3018) (cwV 0 hts gw_X12_thrown rfl rfl rfl (by decide +kernel) ⟨(by decide +kernel), (by decide +kernel)⟩) ⟨pr.1, va_recv hK hP (ci := 12) (q0 := 0) rfl rfl, pr.2⟩ rfl rfl hl.1 rfl (lv_room (Nat.le_of_ble_eq_true rfl)) dL_law_1127 ⟨(by decide +kernel), (by decide +kernel)⟩) (fun r u H locs hw hP hD hS => ?_)
      rcases hw with ⟨rfl, rfl⟩
      have hP : va_P D vwCl [(n3000, .inl (cy 1, 1300, .inl (fun _ => 0))), (n3900, .inr (12, [.ref n3000, .ref n3001, .ref n3002, .ref n3003, .int 2, .ref n3004, .int 0, .int 0, .int 0, .int 0, .int 0, .int 0, .int 0, .int 0, .int 0, .int (-1), .int 0, .ref n3005, .ref n3006, .int 0, .ref n3007, .ref n3008, .int 0, .int 0, .int 0, .int 0, .int 0, .int 0, .int 0, .ref n3009, .ref n3010, .int 0, .int 0, .ref n3011, .ref n3012, .int 0, .int 0, .ref n3013, .ref n3014, .ref n3015, .int 0, .ref n3016, .ref n3017, .ref n3018]))] H := hP
      have hD : va_D A [(n3000, .inl (cy 1, 1300, .inl (fun _ => 0))), (n3900, .inr (12, [.ref n3000, .ref n3001, .ref n3002, .ref n3003, .int 2, .ref n3004, .int 0, .int 0, .int 0, .int 0, .int 0, .int 0, .int 0, .int 0, .int 0, .int (-1), .int 0, .ref n3005, .ref n3006, .int 0, .ref n3007, .ref n3008, .int 0, .int 0, .int 0, .int 0, .int 0, .int 0, .int 0, .ref n3009, .ref n3010, .int 0, .int 0, .ref n3011, .ref n3012, .int 0, .int 0, .ref n3013, .ref n3014, .ref n3015, .int 0, .ref n3016, .ref n3017, .ref n3018]))] := hD
      refine lv_iload hx hb dL_law_1130 (lv_at hl 1 rfl) ?_
      refine lv_icmp_eq (tgt := 1137) hx hb dL_law_1132 (by decide +kernel) (fun _ => ?_) (fun h => absurd (by decide +kernel) h)
      refine lv_iload hx hb dL_law_1137 (lv_at hl 1 rfl) ?_
      refine lv_if_ne (tgt := 1154) hx hb dL_law_1139 (by decide +kernel) (fun _ => ?_) (fun h => absurd h (by decide +kernel))
      refine lv_goto (tgt := 2458) hx hb dL_law_1154 (by decide +kernel) ?_
      refine lv_iinc (v := 6) (lv' := [(4, .int 6), (6, .int 0), (5, .int 2), (3, .ref n5000), (2, .ref n3900), (1, .ref n1900), (0, .ref b)]) hx hb dL_law_2458 hl (k := 2) rfl (by decide) (by decide +kernel) rfl (fun ls hl => ?_)
      refine lv_goto (tgt := 23) hx hb dL_law_2461 (by decide +kernel) ?_
      refine lv_iload hx hb dL_law_23 (lv_at hl 0 rfl) ?_
      refine lv_aload_n hx hb dL_law_25 rfl (lv_at hl 6 rfl) ?_
      refine va_slen hx hb hX hbl hbA hS dL_law_26 ?_
      refine top_i (v := 6) rfl ?_
      refine lv_bipush (v := 6) hx hb dL_law_27 (by decide +kernel) ?_
      refine lv_isub hx hb dL_law_29 ?_
      refine top_i (v := 0) (by decide +kernel) ?_
      refine lv_icmp_gt (tgt := 2464) hx hb dL_law_30 (by decide +kernel) (fun _ => ?_) (fun h => absurd (by decide +kernel) h)
      refine lv_iconst (v := 1) hx hb dL_law_2464 (by decide +kernel) ?_
      refine va_forget (fun q hq => hAq _ (hS.2.2 q hq)) ?_
      refine W.widen (k := 600002) (n := 7302232) (by decide +kernel) (by decide +kernel) ?_
      exact lw_ret hx hb hr hlk dL_law_2465
  · have hP : va_P D vwCl [(n3900, .inr (12, [.ref n3000, .ref n3001, .ref n3002, .ref n3003, .int 0, .ref n3004, .int 0, .int 0, .int 0, .int 0, .int 0, .int 0, .int 0, .int 0, .int 0, .int (-1), .int 0, .ref n3005, .ref n3006, .int 0, .ref n3007, .ref n3008, .int 0, .int 0, .int 0, .int 0, .int 0, .int 0, .int 0, .ref n3009, .ref n3010, .int 0, .int 0, .ref n3011, .ref n3012, .int 0, .int 0, .ref n3013, .ref n3014, .ref n3015, .int 0, .ref n3016, .ref n3017, .ref n3018])), (n3000, .inl (cy 1, 1300, .inl (fun _ => 0)))] H := hP
    have hD : va_D A [(n3900, .inr (12, [.ref n3000, .ref n3001, .ref n3002, .ref n3003, .int 0, .ref n3004, .int 0, .int 0, .int 0, .int 0, .int 0, .int 0, .int 0, .int 0, .int 0, .int (-1), .int 0, .ref n3005, .ref n3006, .int 0, .ref n3007, .ref n3008, .int 0, .int 0, .int 0, .int 0, .int 0, .int 0, .int 0, .ref n3009, .ref n3010, .int 0, .int 0, .ref n3011, .ref n3012, .int 0, .int 0, .ref n3013, .ref n3014, .ref n3015, .int 0, .ref n3016, .ref n3017, .ref n3018])), (n3000, .inl (cy 1, 1300, .inl (fun _ => 0)))] := hD
    refine lv_istore (lv' := [(5, .int 1), (4, .int 0), (3, .ref n5000), (2, .ref n3900), (1, .ref n1900), (0, .ref b)]) hx hb dL_law_1106 hl (by decide +kernel) rfl (fun ls hl => ?_)
    refine lv_aload_n hx hb dL_law_1108 rfl (lv_at hl 3 rfl) ?_
    refine lv_aload_n hx hb dL_law_1109 rfl (lv_at hl 5 rfl) ?_
    refine lv_iload hx hb dL_law_1110 (lv_at hl 1 rfl) ?_
    refine lv_iconst (v := 1) hx hb dL_law_1112 (by decide +kernel) ?_
    refine lv_iadd hx hb dL_law_1113 ?_
    refine top_i (v := 1) (by decide +kernel) ?_
    refine va_sld hx hb hX hbl hbA hS (i := 1) (vin (by decide +kernel)) dL_law_1114 ?_
    refine top_i (v := z1) ez1 ?_
    refine lv_aload_n hx hb dL_law_1115 rfl (lv_at hl 5 rfl) ?_
    refine lv_iload hx hb dL_law_1116 (lv_at hl 1 rfl) ?_
    refine lv_iconst (v := 2) hx hb dL_law_1118 (by decide +kernel) ?_
    refine lv_iadd hx hb dL_law_1119 ?_
    refine top_i (v := 2) (by decide +kernel) ?_
    refine va_sld hx hb hX hbl hbA hS (i := 2) (vin (by decide +kernel)) dL_law_1120 ?_
    refine top_i (v := z2) ez2 ?_
    refine call_i (av := [.ref n3900, .int z1, .int z2]) F hP hD hS [(n3900, .inr (12, [.ref n3000, .ref n3001, .ref n3002, .ref n3003, .int 0, .ref n3004, .int 0, .int 0, .int 0, .int 0, .int 0, .int 0, .int 0, .int 0, .int 0, .int (-1), .int 0, .ref n3005, .ref n3006, .int 0, .ref n3007, .ref n3008, .int 0, .int 0, .int 0, .int 0, .int 0, .int 0, .int 0, .ref n3009, .ref n3010, .int 0, .int 0, .ref n3011, .ref n3012, .int 0, .int 0, .ref n3013, .ref n3014, .ref n3015, .int 0, .ref n3016, .ref n3017, .ref n3018])), (n3000, .inl (cy 1, 1300, .inl (fun _ => 0)))] [] [0, 1] [] rfl rfl (by decide +kernel) (fun pr => va_runV (As := [.int z1, .int z2]) (rest := []) ⟨hx, hb, hml, hown, hts⟩ (k200_X12_season l D cy H.size n3900 z1 z2 n3000 n3001 n3002 n3003 n3004 n3005 n3006 n3007 n3008 n3009 n3010 n3011 n3012 n3013 n3014 n3015 n3016 n3017 n3018) (cwV 2 hts gw_X12_season rfl rfl rfl (by decide +kernel) ⟨(by decide +kernel), (by decide +kernel)⟩) ⟨pr.1, va_recv hK hP (ci := 12) (q0 := 0) rfl rfl, pr.2⟩ rfl rfl hl.1 rfl (lv_room (Nat.le_of_ble_eq_true rfl)) dL_law_1121 ⟨(by decide +kernel), (by decide +kernel)⟩) (fun r u H locs hw hP hD hS => ?_)
    rcases hw with ⟨c800022, rfl, rfl⟩ | ⟨c800023, c800024, rfl, rfl⟩ | ⟨c800025, c800026, rfl, rfl⟩
    · exact (no_b (lo_nle c800005) (up_lt_w c800022) (by decide +kernel)).elim
    · have hP : va_P D vwCl [(n3900, .inr (12, [.ref n3000, .ref n3001, .ref n3002, .ref n3003, .int 1, .ref n3004, .int 0, .int 0, .int 0, .int 0, .int 0, .int 0, .int 0, .int 0, .int 0, .int (-1), .int 0, .ref n3005, .ref n3006, .int 0, .ref n3007, .ref n3008, .int 0, .int 0, .int 0, .int 0, .int 0, .int 0, .int 0, .ref n3009, .ref n3010, .int 0, .int 0, .ref n3011, .ref n3012, .int 0, .int 0, .ref n3013, .ref n3014, .ref n3015, .int 0, .ref n3016, .ref n3017, .ref n3018])), (n3000, .inl (cy 1, 1300, .inl (fun _ => 0)))] H := hP
      have hD : va_D A [(n3900, .inr (12, [.ref n3000, .ref n3001, .ref n3002, .ref n3003, .int 1, .ref n3004, .int 0, .int 0, .int 0, .int 0, .int 0, .int 0, .int 0, .int 0, .int 0, .int (-1), .int 0, .ref n3005, .ref n3006, .int 0, .ref n3007, .ref n3008, .int 0, .int 0, .int 0, .int 0, .int 0, .int 0, .int 0, .ref n3009, .ref n3010, .int 0, .int 0, .ref n3011, .ref n3012, .int 0, .int 0, .ref n3013, .ref n3014, .ref n3015, .int 0, .ref n3016, .ref n3017, .ref n3018])), (n3000, .inl (cy 1, 1300, .inl (fun _ => 0)))] := hD
      refine lv_istore (lv' := [(6, .int 0), (5, .int 1), (4, .int 0), (3, .ref n5000), (2, .ref n3900), (1, .ref n1900), (0, .ref b)]) hx hb dL_law_1124 hl (by decide +kernel) rfl (fun ls hl => ?_)
      refine lv_aload_n hx hb dL_law_1126 rfl (lv_at hl 4 rfl) ?_
      refine call_i (av := [.ref n3900]) F hP hD hS [(n3900, .inr (12, [.ref n3000, .ref n3001, .ref n3002, .ref n3003, .int 1, .ref n3004, .int 0, .int 0, .int 0, .int 0, .int 0, .int 0, .int 0, .int 0, .int 0, .int (-1), .int 0, .ref n3005, .ref n3006, .int 0, .ref n3007, .ref n3008, .int 0, .int 0, .int 0, .int 0, .int 0, .int 0, .int 0, .ref n3009, .ref n3010, .int 0, .int 0, .ref n3011, .ref n3012, .int 0, .int 0, .ref n3013, .ref n3014, .ref n3015, .int 0, .ref n3016, .ref n3017, .ref n3018]))] [(n3000, .inl (cy 1, 1300, .inl (fun _ => 0)))] [0] [1] rfl rfl (by decide +kernel) (fun pr => va_runV (As := []) (rest := []) ⟨hx, hb, hml, hown, hts⟩ (k333_X12_thrown l D cy H.size n3900 n3000 n3001 n3002 n3003 n3004 n3005 n3006 n3007 n3008 n3009 n3010 n3011 n3012 n3013 n3014 n3015 n3016 n3017 n3018) (cwV 0 hts gw_X12_thrown rfl rfl rfl (by decide +kernel) ⟨(by decide +kernel), (by decide +kernel)⟩) ⟨pr.1, va_recv hK hP (ci := 12) (q0 := 0) rfl rfl, pr.2⟩ rfl rfl hl.1 rfl (lv_room (Nat.le_of_ble_eq_true rfl)) dL_law_1127 ⟨(by decide +kernel), (by decide +kernel)⟩) (fun r u H locs hw hP hD hS => ?_)
      rcases hw with ⟨rfl, rfl⟩
      have hP : va_P D vwCl [(n3000, .inl (cy 1, 1300, .inl (fun _ => 0))), (n3900, .inr (12, [.ref n3000, .ref n3001, .ref n3002, .ref n3003, .int 1, .ref n3004, .int 0, .int 0, .int 0, .int 0, .int 0, .int 0, .int 0, .int 0, .int 0, .int (-1), .int 0, .ref n3005, .ref n3006, .int 0, .ref n3007, .ref n3008, .int 0, .int 0, .int 0, .int 0, .int 0, .int 0, .int 0, .ref n3009, .ref n3010, .int 0, .int 0, .ref n3011, .ref n3012, .int 0, .int 0, .ref n3013, .ref n3014, .ref n3015, .int 0, .ref n3016, .ref n3017, .ref n3018]))] H := hP
      have hD : va_D A [(n3000, .inl (cy 1, 1300, .inl (fun _ => 0))), (n3900, .inr (12, [.ref n3000, .ref n3001, .ref n3002, .ref n3003, .int 1, .ref n3004, .int 0, .int 0, .int 0, .int 0, .int 0, .int 0, .int 0, .int 0, .int 0, .int (-1), .int 0, .ref n3005, .ref n3006, .int 0, .ref n3007, .ref n3008, .int 0, .int 0, .int 0, .int 0, .int 0, .int 0, .int 0, .ref n3009, .ref n3010, .int 0, .int 0, .ref n3011, .ref n3012, .int 0, .int 0, .ref n3013, .ref n3014, .ref n3015, .int 0, .ref n3016, .ref n3017, .ref n3018]))] := hD
      refine lv_iload hx hb dL_law_1130 (lv_at hl 1 rfl) ?_
      refine lv_icmp_eq (tgt := 1137) hx hb dL_law_1132 (by decide +kernel) (fun _ => ?_) (fun h => absurd (by decide +kernel) h)
      refine lv_iload hx hb dL_law_1137 (lv_at hl 1 rfl) ?_
      refine lv_if_ne (tgt := 1154) hx hb dL_law_1139 (by decide +kernel) (fun _ => ?_) (fun h => absurd h (by decide +kernel))
      refine lv_goto (tgt := 2458) hx hb dL_law_1154 (by decide +kernel) ?_
      refine lv_iinc (v := 6) (lv' := [(4, .int 6), (6, .int 0), (5, .int 1), (3, .ref n5000), (2, .ref n3900), (1, .ref n1900), (0, .ref b)]) hx hb dL_law_2458 hl (k := 2) rfl (by decide) (by decide +kernel) rfl (fun ls hl => ?_)
      refine lv_goto (tgt := 23) hx hb dL_law_2461 (by decide +kernel) ?_
      refine lv_iload hx hb dL_law_23 (lv_at hl 0 rfl) ?_
      refine lv_aload_n hx hb dL_law_25 rfl (lv_at hl 6 rfl) ?_
      refine va_slen hx hb hX hbl hbA hS dL_law_26 ?_
      refine top_i (v := 6) rfl ?_
      refine lv_bipush (v := 6) hx hb dL_law_27 (by decide +kernel) ?_
      refine lv_isub hx hb dL_law_29 ?_
      refine top_i (v := 0) (by decide +kernel) ?_
      refine lv_icmp_gt (tgt := 2464) hx hb dL_law_30 (by decide +kernel) (fun _ => ?_) (fun h => absurd (by decide +kernel) h)
      refine lv_iconst (v := 1) hx hb dL_law_2464 (by decide +kernel) ?_
      refine va_forget (fun q hq => hAq _ (hS.2.2 q hq)) ?_
      refine W.widen (k := 600002) (n := 7302232) (by decide +kernel) (by decide +kernel) ?_
      exact lw_ret hx hb hr hlk dL_law_2465
    · exact (no_b (lo_nle c800005) (up_nlt_w c800026) (by decide +kernel)).elim
set_option maxHeartbeats 4000000 in
set_option maxRecDepth 100000 in
theorem law_c17 {p : Program} {l : Launch} {e : Env} {s : State} {m : MethodId} {below : List Frame} {meth : Method} {c : Code} {b : Nat} {xs : Nat → Int32} {D : va_G} {cy : Nat → ClassId} {A : Nat → Prop} (hlT : l.stackTraces = false) (F : Fx D cy p m c cL_law 8 s #[Value.ref b] lw_tbl RL A) (hr : meth.sig.returnType = ret) (hlk : meth.locks = false) (hX : va_X b 6 xs s s.heap) (hbl : b < s.heap.size) (hbA : ¬ A b) (hAq : ∀ q, A q → s.heap.size ≤ q) {H : Heap} {locs : List Loc} {ls : Array Slot} (n1900 n1000 n1001 n1017 n1034 n1039 n1041 n1042 n1043 n1044 n1048 n1056 n1057 n1002 n1003 n1004 n1005 n1006 n1007 n1008 n1009 n1010 n1011 n1012 n1013 n3900 n3000 n3001 n3002 n3003 n3004 n3005 n3006 n3007 n3008 n3009 n3010 n3011 n3012 n3013 n3014 n3015 n3016 n3017 n3018 n5000 : Nat) (hP : va_P D vwCl [(n1900, .inr (11, [.ref n1000, .int 0, .ref n1001, .ref n1017, .ref n1034, .ref n1039, .ref n1041, .ref n1042, .ref n1043, .ref n1044, .ref n1048, .ref n1056, .ref n1057, .int 0])), (n1001, .inr (9, [.int 0, .int 0, .int 0, .int 0, .int 0, .ref n1002, .ref n1003, .ref n1004, .ref n1005, .ref n1006, .ref n1007, .ref n1008, .int 0, .ref n1009, .ref n1010, .ref n1011, .ref n1012, .ref n1013])), (n3900, .inr (12, [.ref n3000, .ref n3001, .ref n3002, .ref n3003, .int 0, .ref n3004, .int 0, .int 0, .int 0, .int 0, .int 0, .int 0, .int 0, .int 0, .int 0, .int (-1), .int 0, .ref n3005, .ref n3006, .int 0, .ref n3007, .ref n3008, .int 0, .int 0, .int 0, .int 0, .int 0, .int 0, .int 0, .ref n3009, .ref n3010, .int 0, .int 0, .ref n3011, .ref n3012, .int 0, .int 0, .ref n3013, .ref n3014, .ref n3015, .int 0, .ref n3016, .ref n3017, .ref n3018])), (n3000, .inl (cy 1, 1300, .inl (fun _ => 0))), (n5000, .inl (cy 2, 1, .inr (.inl (fun _ => 0))))] H) (hD : va_D A [(n1900, .inr (11, [.ref n1000, .int 0, .ref n1001, .ref n1017, .ref n1034, .ref n1039, .ref n1041, .ref n1042, .ref n1043, .ref n1044, .ref n1048, .ref n1056, .ref n1057, .int 0])), (n1001, .inr (9, [.int 0, .int 0, .int 0, .int 0, .int 0, .ref n1002, .ref n1003, .ref n1004, .ref n1005, .ref n1006, .ref n1007, .ref n1008, .int 0, .ref n1009, .ref n1010, .ref n1011, .ref n1012, .ref n1013])), (n3900, .inr (12, [.ref n3000, .ref n3001, .ref n3002, .ref n3003, .int 0, .ref n3004, .int 0, .int 0, .int 0, .int 0, .int 0, .int 0, .int 0, .int 0, .int 0, .int (-1), .int 0, .ref n3005, .ref n3006, .int 0, .ref n3007, .ref n3008, .int 0, .int 0, .int 0, .int 0, .int 0, .int 0, .int 0, .ref n3009, .ref n3010, .int 0, .int 0, .ref n3011, .ref n3012, .int 0, .int 0, .ref n3013, .ref n3014, .ref n3015, .int 0, .ref n3016, .ref n3017, .ref n3018])), (n3000, .inl (cy 1, 1300, .inl (fun _ => 0))), (n5000, .inl (cy 2, 1, .inr (.inl (fun _ => 0))))]) (hS : va_S A s.heap H locs) (hl : lv_has ls 8 [(4, .int 0), (3, .ref n5000), (2, .ref n3900), (1, .ref n1900), (0, .ref b)]) : W p l e room_1 s m #[Value.ref b] below meth c H locs 152 18765 (lw_Z below #[Value.ref b] s) (F0 m 1157 ls []) := by
  obtain ⟨⟨hx, hb, hml, hown, hts⟩, hK, hG, hZ, hA⟩ := id F
  obtain ⟨z1, ez1⟩ : ∃ z, xs 1 = z := ⟨_, rfl⟩
  obtain ⟨z2, ez2⟩ : ∃ z, xs 2 = z := ⟨_, rfl⟩
  obtain ⟨z3, ez3⟩ : ∃ z, xs 3 = z := ⟨_, rfl⟩
  obtain ⟨z4, ez4⟩ : ∃ z, xs 4 = z := ⟨_, rfl⟩
  obtain ⟨z5, ez5⟩ : ∃ z, xs 5 = z := ⟨_, rfl⟩
  refine lv_aload_n hx hb dL_law_1157 rfl (lv_at hl 3 rfl) ?_
  refine lv_aload_n hx hb dL_law_1158 rfl (lv_at hl 4 rfl) ?_
  refine lv_iload hx hb dL_law_1159 (lv_at hl 0 rfl) ?_
  refine lv_iconst (v := 1) hx hb dL_law_1161 (by decide +kernel) ?_
  refine lv_iadd hx hb dL_law_1162 ?_
  refine top_i (v := 1) (by decide +kernel) ?_
  refine va_sld hx hb hX hbl hbA hS (i := 1) (vin (by decide +kernel)) dL_law_1163 ?_
  refine top_i (v := z1) ez1 ?_
  refine lv_aload_n hx hb dL_law_1164 rfl (lv_at hl 1 rfl) ?_
  refine call_i (av := [.ref n1900, .int z1, .ref n5000]) F hP hD hS [(n1900, .inr (11, [.ref n1000, .int 0, .ref n1001, .ref n1017, .ref n1034, .ref n1039, .ref n1041, .ref n1042, .ref n1043, .ref n1044, .ref n1048, .ref n1056, .ref n1057, .int 0])), (n1001, .inr (9, [.int 0, .int 0, .int 0, .int 0, .int 0, .ref n1002, .ref n1003, .ref n1004, .ref n1005, .ref n1006, .ref n1007, .ref n1008, .int 0, .ref n1009, .ref n1010, .ref n1011, .ref n1012, .ref n1013])), (n5000, .inl (cy 2, 1, .inr (.inl (fun _ => 0))))] [(n3900, .inr (12, [.ref n3000, .ref n3001, .ref n3002, .ref n3003, .int 0, .ref n3004, .int 0, .int 0, .int 0, .int 0, .int 0, .int 0, .int 0, .int 0, .int 0, .int (-1), .int 0, .ref n3005, .ref n3006, .int 0, .ref n3007, .ref n3008, .int 0, .int 0, .int 0, .int 0, .int 0, .int 0, .int 0, .ref n3009, .ref n3010, .int 0, .int 0, .ref n3011, .ref n3012, .int 0, .int 0, .ref n3013, .ref n3014, .ref n3015, .int 0, .ref n3016, .ref n3017, .ref n3018])), (n3000, .inl (cy 1, 1300, .inl (fun _ => 0)))] [0, 1, 4] [2, 3] rfl rfl (by decide +kernel) (fun pr => vx_runSW (As := [.ref n1900, .int z1, .ref n5000]) (rest := []) ⟨hx, hb, hml, hown, hts⟩ (k314_L_oddRing l hlT D cy H.size n1900 z1 n5000 n1001 n1000 n1017 n1034 n1039 n1041 n1042 n1043 n1044 n1048 n1056 n1057 n1002 n1003 n1004 n1005 n1006 n1007 n1008 n1009 n1010 n1011 n1012 n1013) (vx_cwSW 3 hts gw_L_oddRing rfl rfl rfl (by decide +kernel) ⟨(by decide +kernel), (by decide +kernel)⟩) pr rfl rfl hl.1 rfl (lv_room (Nat.le_of_ble_eq_true rfl)) dL_law_1165 ⟨(by decide +kernel), (by decide +kernel)⟩) (fun r u H locs hw hP hD hS => ?_)
  rcases hw with ⟨c800001, rfl, rfl⟩ | ⟨c800002, c800003, rfl, rfl⟩ | ⟨c800004, c800005, rfl, rfl⟩
  · have hP : va_P D vwCl [(n3900, .inr (12, [.ref n3000, .ref n3001, .ref n3002, .ref n3003, .int 0, .ref n3004, .int 0, .int 0, .int 0, .int 0, .int 0, .int 0, .int 0, .int 0, .int 0, .int (-1), .int 0, .ref n3005, .ref n3006, .int 0, .ref n3007, .ref n3008, .int 0, .int 0, .int 0, .int 0, .int 0, .int 0, .int 0, .ref n3009, .ref n3010, .int 0, .int 0, .ref n3011, .ref n3012, .int 0, .int 0, .ref n3013, .ref n3014, .ref n3015, .int 0, .ref n3016, .ref n3017, .ref n3018])), (n3000, .inl (cy 1, 1300, .inl (fun _ => 0))), (n5000, .inl (cy 2, 1, .inr (.inl (fun _ => 0))))] H := hP
    have hD : va_D A [(n3900, .inr (12, [.ref n3000, .ref n3001, .ref n3002, .ref n3003, .int 0, .ref n3004, .int 0, .int 0, .int 0, .int 0, .int 0, .int 0, .int 0, .int 0, .int 0, .int (-1), .int 0, .ref n3005, .ref n3006, .int 0, .ref n3007, .ref n3008, .int 0, .int 0, .int 0, .int 0, .int 0, .int 0, .int 0, .ref n3009, .ref n3010, .int 0, .int 0, .ref n3011, .ref n3012, .int 0, .int 0, .ref n3013, .ref n3014, .ref n3015, .int 0, .ref n3016, .ref n3017, .ref n3018])), (n3000, .inl (cy 1, 1300, .inl (fun _ => 0))), (n5000, .inl (cy 2, 1, .inr (.inl (fun _ => 0))))] := hD
    refine lv_istore (lv' := [(5, .int 1), (4, .int 0), (3, .ref n5000), (2, .ref n3900), (1, .ref n1900), (0, .ref b)]) hx hb dL_law_1168 hl (by decide +kernel) rfl (fun ls hl => ?_)
    refine lv_aload_n hx hb dL_law_1170 rfl (lv_at hl 3 rfl) ?_
    refine lv_aload_n hx hb dL_law_1171 rfl (lv_at hl 5 rfl) ?_
    refine lv_iload hx hb dL_law_1172 (lv_at hl 1 rfl) ?_
    refine lv_iconst (v := 1) hx hb dL_law_1174 (by decide +kernel) ?_
    refine lv_iadd hx hb dL_law_1175 ?_
    refine top_i (v := 1) (by decide +kernel) ?_
    refine va_sld hx hb hX hbl hbA hS (i := 1) (vin (by decide +kernel)) dL_law_1176 ?_
    refine top_i (v := z1) ez1 ?_
    refine call_i (av := [.ref n3900, .int z1]) F hP hD hS [(n3900, .inr (12, [.ref n3000, .ref n3001, .ref n3002, .ref n3003, .int 0, .ref n3004, .int 0, .int 0, .int 0, .int 0, .int 0, .int 0, .int 0, .int 0, .int 0, .int (-1), .int 0, .ref n3005, .ref n3006, .int 0, .ref n3007, .ref n3008, .int 0, .int 0, .int 0, .int 0, .int 0, .int 0, .int 0, .ref n3009, .ref n3010, .int 0, .int 0, .ref n3011, .ref n3012, .int 0, .int 0, .ref n3013, .ref n3014, .ref n3015, .int 0, .ref n3016, .ref n3017, .ref n3018])), (n3000, .inl (cy 1, 1300, .inl (fun _ => 0)))] [(n5000, .inl (cy 2, 1, .inr (.inl (fun _ => 0))))] [0, 1] [2] rfl rfl (by decide +kernel) (fun pr => va_runV (As := [.int z1]) (rest := []) ⟨hx, hb, hml, hown, hts⟩ (k214_X12_oddRing l D cy H.size n3900 z1 n3000 n3001 n3002 n3003 n3004 n3005 n3006 n3007 n3008 n3009 n3010 n3011 n3012 n3013 n3014 n3015 n3016 n3017 n3018) (cwV 1 hts gw_X12_oddRing rfl rfl rfl (by decide +kernel) ⟨(by decide +kernel), (by decide +kernel)⟩) ⟨pr.1, va_recv hK hP (ci := 12) (q0 := 0) rfl rfl, pr.2⟩ rfl rfl hl.1 rfl (lv_room (Nat.le_of_ble_eq_true rfl)) dL_law_1177 ⟨(by decide +kernel), (by decide +kernel)⟩) (fun r u H locs hw hP hD hS => ?_)
    rcases hw with ⟨c800006, rfl, rfl⟩ | ⟨c800007, c800008, rfl, rfl⟩ | ⟨c800009, c800010, rfl, rfl⟩
    · have hP : va_P D vwCl [(n5000, .inl (cy 2, 1, .inr (.inl (fun _ => 0)))), (n3000, .inl (cy 1, 1300, .inl (fun _ => 0))), (n3900, .inr (12, [.ref n3000, .ref n3001, .ref n3002, .ref n3003, .int 1, .ref n3004, .int 0, .int 0, .int 0, .int 0, .int 0, .int 0, .int 0, .int 0, .int 0, .int (-1), .int 0, .ref n3005, .ref n3006, .int 0, .ref n3007, .ref n3008, .int 0, .int 0, .int 0, .int 0, .int 0, .int 0, .int 0, .ref n3009, .ref n3010, .int 0, .int 0, .ref n3011, .ref n3012, .int 0, .int 0, .ref n3013, .ref n3014, .ref n3015, .int 0, .ref n3016, .ref n3017, .ref n3018]))] H := hP
      have hD : va_D A [(n5000, .inl (cy 2, 1, .inr (.inl (fun _ => 0)))), (n3000, .inl (cy 1, 1300, .inl (fun _ => 0))), (n3900, .inr (12, [.ref n3000, .ref n3001, .ref n3002, .ref n3003, .int 1, .ref n3004, .int 0, .int 0, .int 0, .int 0, .int 0, .int 0, .int 0, .int 0, .int 0, .int (-1), .int 0, .ref n3005, .ref n3006, .int 0, .ref n3007, .ref n3008, .int 0, .int 0, .int 0, .int 0, .int 0, .int 0, .int 0, .ref n3009, .ref n3010, .int 0, .int 0, .ref n3011, .ref n3012, .int 0, .int 0, .ref n3013, .ref n3014, .ref n3015, .int 0, .ref n3016, .ref n3017, .ref n3018]))] := hD
      refine lv_istore (lv' := [(6, .int 0), (5, .int 1), (4, .int 0), (3, .ref n5000), (2, .ref n3900), (1, .ref n1900), (0, .ref b)]) hx hb dL_law_1180 hl (by decide +kernel) rfl (fun ls hl => ?_)
      refine lv_aload_n hx hb dL_law_1182 rfl (lv_at hl 4 rfl) ?_
      refine call_i (av := [.ref n3900]) F hP hD hS [(n3900, .inr (12, [.ref n3000, .ref n3001, .ref n3002, .ref n3003, .int 1, .ref n3004, .int 0, .int 0, .int 0, .int 0, .int 0, .int 0, .int 0, .int 0, .int 0, .int (-1), .int 0, .ref n3005, .ref n3006, .int 0, .ref n3007, .ref n3008, .int 0, .int 0, .int 0, .int 0, .int 0, .int 0, .int 0, .ref n3009, .ref n3010, .int 0, .int 0, .ref n3011, .ref n3012, .int 0, .int 0, .ref n3013, .ref n3014, .ref n3015, .int 0, .ref n3016, .ref n3017, .ref n3018]))] [(n5000, .inl (cy 2, 1, .inr (.inl (fun _ => 0)))), (n3000, .inl (cy 1, 1300, .inl (fun _ => 0)))] [2] [0, 1] rfl rfl (by decide +kernel) (fun pr => va_runV (As := []) (rest := []) ⟨hx, hb, hml, hown, hts⟩ (k333_X12_thrown l D cy H.size n3900 n3000 n3001 n3002 n3003 n3004 n3005 n3006 n3007 n3008 n3009 n3010 n3011 n3012 n3013 n3014 n3015 n3016 n3017 n3018) (cwV 0 hts gw_X12_thrown rfl rfl rfl (by decide +kernel) ⟨(by decide +kernel), (by decide +kernel)⟩) ⟨pr.1, va_recv hK hP (ci := 12) (q0 := 2) rfl rfl, pr.2⟩ rfl rfl hl.1 rfl (lv_room (Nat.le_of_ble_eq_true rfl)) dL_law_1183 ⟨(by decide +kernel), (by decide +kernel)⟩) (fun r u H locs hw hP hD hS => ?_)
      rcases hw with ⟨rfl, rfl⟩
      have hP : va_P D vwCl [(n5000, .inl (cy 2, 1, .inr (.inl (fun _ => 0)))), (n3000, .inl (cy 1, 1300, .inl (fun _ => 0))), (n3900, .inr (12, [.ref n3000, .ref n3001, .ref n3002, .ref n3003, .int 1, .ref n3004, .int 0, .int 0, .int 0, .int 0, .int 0, .int 0, .int 0, .int 0, .int 0, .int (-1), .int 0, .ref n3005, .ref n3006, .int 0, .ref n3007, .ref n3008, .int 0, .int 0, .int 0, .int 0, .int 0, .int 0, .int 0, .ref n3009, .ref n3010, .int 0, .int 0, .ref n3011, .ref n3012, .int 0, .int 0, .ref n3013, .ref n3014, .ref n3015, .int 0, .ref n3016, .ref n3017, .ref n3018]))] H := hP
      have hD : va_D A [(n5000, .inl (cy 2, 1, .inr (.inl (fun _ => 0)))), (n3000, .inl (cy 1, 1300, .inl (fun _ => 0))), (n3900, .inr (12, [.ref n3000, .ref n3001, .ref n3002, .ref n3003, .int 1, .ref n3004, .int 0, .int 0, .int 0, .int 0, .int 0, .int 0, .int 0, .int 0, .int 0, .int (-1), .int 0, .ref n3005, .ref n3006, .int 0, .ref n3007, .ref n3008, .int 0, .int 0, .int 0, .int 0, .int 0, .int 0, .int 0, .ref n3009, .ref n3010, .int 0, .int 0, .ref n3011, .ref n3012, .int 0, .int 0, .ref n3013, .ref n3014, .ref n3015, .int 0, .ref n3016, .ref n3017, .ref n3018]))] := hD
      refine lv_iload hx hb dL_law_1186 (lv_at hl 1 rfl) ?_
      refine lv_icmp_eq (tgt := 1193) hx hb dL_law_1188 (by decide +kernel) (fun _ => ?_) (fun h => absurd (by decide +kernel) h)
      refine lv_iload hx hb dL_law_1193 (lv_at hl 1 rfl) ?_
      refine lv_if_ne (tgt := 1210) hx hb dL_law_1195 (by decide +kernel) (fun _ => ?_) (fun h => absurd h (by decide +kernel))
      refine lv_goto (tgt := 2458) hx hb dL_law_1210 (by decide +kernel) ?_
      refine lv_iinc (v := 6) (lv' := [(4, .int 6), (6, .int 0), (5, .int 1), (3, .ref n5000), (2, .ref n3900), (1, .ref n1900), (0, .ref b)]) hx hb dL_law_2458 hl (k := 2) rfl (by decide) (by decide +kernel) rfl (fun ls hl => ?_)
      refine lv_goto (tgt := 23) hx hb dL_law_2461 (by decide +kernel) ?_
      refine lv_iload hx hb dL_law_23 (lv_at hl 0 rfl) ?_
      refine lv_aload_n hx hb dL_law_25 rfl (lv_at hl 6 rfl) ?_
      refine va_slen hx hb hX hbl hbA hS dL_law_26 ?_
      refine top_i (v := 6) rfl ?_
      refine lv_bipush (v := 6) hx hb dL_law_27 (by decide +kernel) ?_
      refine lv_isub hx hb dL_law_29 ?_
      refine top_i (v := 0) (by decide +kernel) ?_
      refine lv_icmp_gt (tgt := 2464) hx hb dL_law_30 (by decide +kernel) (fun _ => ?_) (fun h => absurd (by decide +kernel) h)
      refine lv_iconst (v := 1) hx hb dL_law_2464 (by decide +kernel) ?_
      refine va_forget (fun q hq => hAq _ (hS.2.2 q hq)) ?_
      refine W.widen (k := 600002) (n := 7302232) (by decide +kernel) (by decide +kernel) ?_
      exact lw_ret hx hb hr hlk dL_law_2465
    · exact (no_b (lo_nlt_w c800007) (up_lt c800001) (by decide +kernel)).elim
    · exact (no_b (lo_nlt_w c800009) (up_lt c800001) (by decide +kernel)).elim
  · have hP : va_P D vwCl [(n3900, .inr (12, [.ref n3000, .ref n3001, .ref n3002, .ref n3003, .int 0, .ref n3004, .int 0, .int 0, .int 0, .int 0, .int 0, .int 0, .int 0, .int 0, .int 0, .int (-1), .int 0, .ref n3005, .ref n3006, .int 0, .ref n3007, .ref n3008, .int 0, .int 0, .int 0, .int 0, .int 0, .int 0, .int 0, .ref n3009, .ref n3010, .int 0, .int 0, .ref n3011, .ref n3012, .int 0, .int 0, .ref n3013, .ref n3014, .ref n3015, .int 0, .ref n3016, .ref n3017, .ref n3018])), (n3000, .inl (cy 1, 1300, .inl (fun _ => 0))), (n5000, .inl (cy 2, 1, .inr (.inl (fun _ => 0))))] H := hP
    have hD : va_D A [(n3900, .inr (12, [.ref n3000, .ref n3001, .ref n3002, .ref n3003, .int 0, .ref n3004, .int 0, .int 0, .int 0, .int 0, .int 0, .int 0, .int 0, .int 0, .int 0, .int (-1), .int 0, .ref n3005, .ref n3006, .int 0, .ref n3007, .ref n3008, .int 0, .int 0, .int 0, .int 0, .int 0, .int 0, .int 0, .ref n3009, .ref n3010, .int 0, .int 0, .ref n3011, .ref n3012, .int 0, .int 0, .ref n3013, .ref n3014, .ref n3015, .int 0, .ref n3016, .ref n3017, .ref n3018])), (n3000, .inl (cy 1, 1300, .inl (fun _ => 0))), (n5000, .inl (cy 2, 1, .inr (.inl (fun _ => 0))))] := hD
    refine lv_istore (lv' := [(5, .int 1), (4, .int 0), (3, .ref n5000), (2, .ref n3900), (1, .ref n1900), (0, .ref b)]) hx hb dL_law_1168 hl (by decide +kernel) rfl (fun ls hl => ?_)
    refine lv_aload_n hx hb dL_law_1170 rfl (lv_at hl 3 rfl) ?_
    refine lv_aload_n hx hb dL_law_1171 rfl (lv_at hl 5 rfl) ?_
    refine lv_iload hx hb dL_law_1172 (lv_at hl 1 rfl) ?_
    refine lv_iconst (v := 1) hx hb dL_law_1174 (by decide +kernel) ?_
    refine lv_iadd hx hb dL_law_1175 ?_
    refine top_i (v := 1) (by decide +kernel) ?_
    refine va_sld hx hb hX hbl hbA hS (i := 1) (vin (by decide +kernel)) dL_law_1176 ?_
    refine top_i (v := z1) ez1 ?_
    refine call_i (av := [.ref n3900, .int z1]) F hP hD hS [(n3900, .inr (12, [.ref n3000, .ref n3001, .ref n3002, .ref n3003, .int 0, .ref n3004, .int 0, .int 0, .int 0, .int 0, .int 0, .int 0, .int 0, .int 0, .int 0, .int (-1), .int 0, .ref n3005, .ref n3006, .int 0, .ref n3007, .ref n3008, .int 0, .int 0, .int 0, .int 0, .int 0, .int 0, .int 0, .ref n3009, .ref n3010, .int 0, .int 0, .ref n3011, .ref n3012, .int 0, .int 0, .ref n3013, .ref n3014, .ref n3015, .int 0, .ref n3016, .ref n3017, .ref n3018])), (n3000, .inl (cy 1, 1300, .inl (fun _ => 0)))] [(n5000, .inl (cy 2, 1, .inr (.inl (fun _ => 0))))] [0, 1] [2] rfl rfl (by decide +kernel) (fun pr => va_runV (As := [.int z1]) (rest := []) ⟨hx, hb, hml, hown, hts⟩ (k214_X12_oddRing l D cy H.size n3900 z1 n3000 n3001 n3002 n3003 n3004 n3005 n3006 n3007 n3008 n3009 n3010 n3011 n3012 n3013 n3014 n3015 n3016 n3017 n3018) (cwV 1 hts gw_X12_oddRing rfl rfl rfl (by decide +kernel) ⟨(by decide +kernel), (by decide +kernel)⟩) ⟨pr.1, va_recv hK hP (ci := 12) (q0 := 0) rfl rfl, pr.2⟩ rfl rfl hl.1 rfl (lv_room (Nat.le_of_ble_eq_true rfl)) dL_law_1177 ⟨(by decide +kernel), (by decide +kernel)⟩) (fun r u H locs hw hP hD hS => ?_)
    rcases hw with ⟨c800014, rfl, rfl⟩ | ⟨c800015, c800016, rfl, rfl⟩ | ⟨c800017, c800018, rfl, rfl⟩
    · exact (no_b (lo_nle c800003) (up_lt_w c800014) (by decide +kernel)).elim
    · have hP : va_P D vwCl [(n5000, .inl (cy 2, 1, .inr (.inl (fun _ => 0)))), (n3000, .inl (cy 1, 1300, .inl (fun _ => 0))), (n3900, .inr (12, [.ref n3000, .ref n3001, .ref n3002, .ref n3003, .int 1, .ref n3004, .int 0, .int 0, .int 0, .int 0, .int 0, .int 0, .int 0, .int 0, .int 0, .int (-1), .int 0, .ref n3005, .ref n3006, .int 0, .ref n3007, .ref n3008, .int 0, .int 0, .int 0, .int 0, .int 0, .int 0, .int 0, .ref n3009, .ref n3010, .int 0, .int 0, .ref n3011, .ref n3012, .int 0, .int 0, .ref n3013, .ref n3014, .ref n3015, .int 0, .ref n3016, .ref n3017, .ref n3018]))] H := hP
      have hD : va_D A [(n5000, .inl (cy 2, 1, .inr (.inl (fun _ => 0)))), (n3000, .inl (cy 1, 1300, .inl (fun _ => 0))), (n3900, .inr (12, [.ref n3000, .ref n3001, .ref n3002, .ref n3003, .int 1, .ref n3004, .int 0, .int 0, .int 0, .int 0, .int 0, .int 0, .int 0, .int 0, .int 0, .int (-1), .int 0, .ref n3005, .ref n3006, .int 0, .ref n3007, .ref n3008, .int 0, .int 0, .int 0, .int 0, .int 0, .int 0, .int 0, .ref n3009, .ref n3010, .int 0, .int 0, .ref n3011, .ref n3012, .int 0, .int 0, .ref n3013, .ref n3014, .ref n3015, .int 0, .ref n3016, .ref n3017, .ref n3018]))] := hD
      refine lv_istore (lv' := [(6, .int 0), (5, .int 1), (4, .int 0), (3, .ref n5000), (2, .ref n3900), (1, .ref n1900), (0, .ref b)]) hx hb dL_law_1180 hl (by decide +kernel) rfl (fun ls hl => ?_)
      refine lv_aload_n hx hb dL_law_1182 rfl (lv_at hl 4 rfl) ?_
      refine call_i (av := [.ref n3900]) F hP hD hS [(n3900, .inr (12, [.ref n3000, .ref n3001, .ref n3002, .ref n3003, .int 1, .ref n3004, .int 0, .int 0, .int 0, .int 0, .int 0, .int 0, .int 0, .int 0, .int 0, .int (-1), .int 0, .ref n3005, .ref n3006, .int 0, .ref n3007, .ref n3008, .int 0, .int 0, .int 0, .int 0, .int 0, .int 0, .int 0, .ref n3009, .ref n3010, .int 0, .int 0, .ref n3011, .ref n3012, .int 0, .int 0, .ref n3013, .ref n3014, .ref n3015, .int 0, .ref n3016, .ref n3017, .ref n3018]))] [(n5000, .inl (cy 2, 1, .inr (.inl (fun _ => 0)))), (n3000, .inl (cy 1, 1300, .inl (fun _ => 0)))] [2] [0, 1] rfl rfl (by decide +kernel) (fun pr => va_runV (As := []) (rest := []) ⟨hx, hb, hml, hown, hts⟩ (k333_X12_thrown l D cy H.size n3900 n3000 n3001 n3002 n3003 n3004 n3005 n3006 n3007 n3008 n3009 n3010 n3011 n3012 n3013 n3014 n3015 n3016 n3017 n3018) (cwV 0 hts gw_X12_thrown rfl rfl rfl (by decide +kernel) ⟨(by decide +kernel), (by decide +kernel)⟩) ⟨pr.1, va_recv hK hP (ci := 12) (q0 := 2) rfl rfl, pr.2⟩ rfl rfl hl.1 rfl (lv_room (Nat.le_of_ble_eq_true rfl)) dL_law_1183 ⟨(by decide +kernel), (by decide +kernel)⟩) (fun r u H locs hw hP hD hS => ?_)
      rcases hw with ⟨rfl, rfl⟩
      have hP : va_P D vwCl [(n5000, .inl (cy 2, 1, .inr (.inl (fun _ => 0)))), (n3000, .inl (cy 1, 1300, .inl (fun _ => 0))), (n3900, .inr (12, [.ref n3000, .ref n3001, .ref n3002, .ref n3003, .int 1, .ref n3004, .int 0, .int 0, .int 0, .int 0, .int 0, .int 0, .int 0, .int 0, .int 0, .int (-1), .int 0, .ref n3005, .ref n3006, .int 0, .ref n3007, .ref n3008, .int 0, .int 0, .int 0, .int 0, .int 0, .int 0, .int 0, .ref n3009, .ref n3010, .int 0, .int 0, .ref n3011, .ref n3012, .int 0, .int 0, .ref n3013, .ref n3014, .ref n3015, .int 0, .ref n3016, .ref n3017, .ref n3018]))] H := hP
      have hD : va_D A [(n5000, .inl (cy 2, 1, .inr (.inl (fun _ => 0)))), (n3000, .inl (cy 1, 1300, .inl (fun _ => 0))), (n3900, .inr (12, [.ref n3000, .ref n3001, .ref n3002, .ref n3003, .int 1, .ref n3004, .int 0, .int 0, .int 0, .int 0, .int 0, .int 0, .int 0, .int 0, .int 0, .int (-1), .int 0, .ref n3005, .ref n3006, .int 0, .ref n3007, .ref n3008, .int 0, .int 0, .int 0, .int 0, .int 0, .int 0, .int 0, .ref n3009, .ref n3010, .int 0, .int 0, .ref n3011, .ref n3012, .int 0, .int 0, .ref n3013, .ref n3014, .ref n3015, .int 0, .ref n3016, .ref n3017, .ref n3018]))] := hD
      refine lv_iload hx hb dL_law_1186 (lv_at hl 1 rfl) ?_
      refine lv_icmp_eq (tgt := 1193) hx hb dL_law_1188 (by decide +kernel) (fun _ => ?_) (fun h => absurd (by decide +kernel) h)
      refine lv_iload hx hb dL_law_1193 (lv_at hl 1 rfl) ?_
      refine lv_if_ne (tgt := 1210) hx hb dL_law_1195 (by decide +kernel) (fun _ => ?_) (fun h => absurd h (by decide +kernel))
      refine lv_goto (tgt := 2458) hx hb dL_law_1210 (by decide +kernel) ?_
      refine lv_iinc (v := 6) (lv' := [(4, .int 6), (6, .int 0), (5, .int 1), (3, .ref n5000), (2, .ref n3900), (1, .ref n1900), (0, .ref b)]) hx hb dL_law_2458 hl (k := 2) rfl (by decide) (by decide +kernel) rfl (fun ls hl => ?_)
      refine lv_goto (tgt := 23) hx hb dL_law_2461 (by decide +kernel) ?_
      refine lv_iload hx hb dL_law_23 (lv_at hl 0 rfl) ?_
      refine lv_aload_n hx hb dL_law_25 rfl (lv_at hl 6 rfl) ?_
      refine va_slen hx hb hX hbl hbA hS dL_law_26 ?_
      refine top_i (v := 6) rfl ?_
      refine lv_bipush (v := 6) hx hb dL_law_27 (by decide +kernel) ?_
      refine lv_isub hx hb dL_law_29 ?_
      refine top_i (v := 0) (by decide +kernel) ?_
      refine lv_icmp_gt (tgt := 2464) hx hb dL_law_30 (by decide +kernel) (fun _ => ?_) (fun h => absurd (by decide +kernel) h)
      refine lv_iconst (v := 1) hx hb dL_law_2464 (by decide +kernel) ?_
      refine va_forget (fun q hq => hAq _ (hS.2.2 q hq)) ?_
      refine W.widen (k := 600002) (n := 7302232) (by decide +kernel) (by decide +kernel) ?_
      exact lw_ret hx hb hr hlk dL_law_2465
    · exact (no_b (lo_nle c800003) (up_nlt_w c800018) (by decide +kernel)).elim
  · have hP : va_P D vwCl [(n3900, .inr (12, [.ref n3000, .ref n3001, .ref n3002, .ref n3003, .int 0, .ref n3004, .int 0, .int 0, .int 0, .int 0, .int 0, .int 0, .int 0, .int 0, .int 0, .int (-1), .int 0, .ref n3005, .ref n3006, .int 0, .ref n3007, .ref n3008, .int 0, .int 0, .int 0, .int 0, .int 0, .int 0, .int 0, .ref n3009, .ref n3010, .int 0, .int 0, .ref n3011, .ref n3012, .int 0, .int 0, .ref n3013, .ref n3014, .ref n3015, .int 0, .ref n3016, .ref n3017, .ref n3018])), (n3000, .inl (cy 1, 1300, .inl (fun _ => 0))), (n5000, .inl (cy 2, 1, .inr (.inl (vp_updL (fun _ => 0) 0 (-1)))))] H := hP
    have hD : va_D A [(n3900, .inr (12, [.ref n3000, .ref n3001, .ref n3002, .ref n3003, .int 0, .ref n3004, .int 0, .int 0, .int 0, .int 0, .int 0, .int 0, .int 0, .int 0, .int 0, .int (-1), .int 0, .ref n3005, .ref n3006, .int 0, .ref n3007, .ref n3008, .int 0, .int 0, .int 0, .int 0, .int 0, .int 0, .int 0, .ref n3009, .ref n3010, .int 0, .int 0, .ref n3011, .ref n3012, .int 0, .int 0, .ref n3013, .ref n3014, .ref n3015, .int 0, .ref n3016, .ref n3017, .ref n3018])), (n3000, .inl (cy 1, 1300, .inl (fun _ => 0))), (n5000, .inl (cy 2, 1, .inr (.inl (vp_updL (fun _ => 0) 0 (-1)))))] := hD
    refine lv_istore (lv' := [(5, .int 0), (4, .int 0), (3, .ref n5000), (2, .ref n3900), (1, .ref n1900), (0, .ref b)]) hx hb dL_law_1168 hl (by decide +kernel) rfl (fun ls hl => ?_)
    refine lv_aload_n hx hb dL_law_1170 rfl (lv_at hl 3 rfl) ?_
    refine lv_aload_n hx hb dL_law_1171 rfl (lv_at hl 5 rfl) ?_
    refine lv_iload hx hb dL_law_1172 (lv_at hl 1 rfl) ?_
    refine lv_iconst (v := 1) hx hb dL_law_1174 (by decide +kernel) ?_
    refine lv_iadd hx hb dL_law_1175 ?_
    refine top_i (v := 1) (by decide +kernel) ?_
    refine va_sld hx hb hX hbl hbA hS (i := 1) (vin (by decide +kernel)) dL_law_1176 ?_
    refine top_i (v := z1) ez1 ?_
    refine call_i (av := [.ref n3900, .int z1]) F hP hD hS [(n3900, .inr (12, [.ref n3000, .ref n3001, .ref n3002, .ref n3003, .int 0, .ref n3004, .int 0, .int 0, .int 0, .int 0, .int 0, .int 0, .int 0, .int 0, .int 0, .int (-1), .int 0, .ref n3005, .ref n3006, .int 0, .ref n3007, .ref n3008, .int 0, .int 0, .int 0, .int 0, .int 0, .int 0, .int 0, .ref n3009, .ref n3010, .int 0, .int 0, .ref n3011, .ref n3012, .int 0, .int 0, .ref n3013, .ref n3014, .ref n3015, .int 0, .ref n3016, .ref n3017, .ref n3018])), (n3000, .inl (cy 1, 1300, .inl (fun _ => 0)))] [(n5000, .inl (cy 2, 1, .inr (.inl (vp_updL (fun _ => 0) 0 (-1)))))] [0, 1] [2] rfl rfl (by decide +kernel) (fun pr => va_runV (As := [.int z1]) (rest := []) ⟨hx, hb, hml, hown, hts⟩ (k214_X12_oddRing l D cy H.size n3900 z1 n3000 n3001 n3002 n3003 n3004 n3005 n3006 n3007 n3008 n3009 n3010 n3011 n3012 n3013 n3014 n3015 n3016 n3017 n3018) (cwV 1 hts gw_X12_oddRing rfl rfl rfl (by decide +kernel) ⟨(by decide +kernel), (by decide +kernel)⟩) ⟨pr.1, va_recv hK hP (ci := 12) (q0 := 0) rfl rfl, pr.2⟩ rfl rfl hl.1 rfl (lv_room (Nat.le_of_ble_eq_true rfl)) dL_law_1177 ⟨(by decide +kernel), (by decide +kernel)⟩) (fun r u H locs hw hP hD hS => ?_)
    rcases hw with ⟨c800022, rfl, rfl⟩ | ⟨c800023, c800024, rfl, rfl⟩ | ⟨c800025, c800026, rfl, rfl⟩
    · exact (no_b (lo_nlt c800004) (up_lt_w c800022) (by decide +kernel)).elim
    · exact (no_b (lo_lt_w c800024) (up_le c800005) (by decide +kernel)).elim
    · have hP : va_P D vwCl [(n5000, .inl (cy 2, 1, .inr (.inl (vp_updL (fun _ => 0) 0 (-1))))), (n3900, .inr (12, [.ref n3000, .ref n3001, .ref n3002, .ref n3003, .int 0, .ref n3004, .int 0, .int 0, .int 0, .int 0, .int 0, .int 0, .int 0, .int 0, .int 0, .int (-1), .int 0, .ref n3005, .ref n3006, .int 0, .ref n3007, .ref n3008, .int 0, .int 0, .int 0, .int 0, .int 0, .int 0, .int 0, .ref n3009, .ref n3010, .int 0, .int 0, .ref n3011, .ref n3012, .int 0, .int 0, .ref n3013, .ref n3014, .ref n3015, .int 0, .ref n3016, .ref n3017, .ref n3018])), (n3000, .inl (cy 1, 1300, .inl (fun _ => 0)))] H := hP
      have hD : va_D A [(n5000, .inl (cy 2, 1, .inr (.inl (vp_updL (fun _ => 0) 0 (-1))))), (n3900, .inr (12, [.ref n3000, .ref n3001, .ref n3002, .ref n3003, .int 0, .ref n3004, .int 0, .int 0, .int 0, .int 0, .int 0, .int 0, .int 0, .int 0, .int 0, .int (-1), .int 0, .ref n3005, .ref n3006, .int 0, .ref n3007, .ref n3008, .int 0, .int 0, .int 0, .int 0, .int 0, .int 0, .int 0, .ref n3009, .ref n3010, .int 0, .int 0, .ref n3011, .ref n3012, .int 0, .int 0, .ref n3013, .ref n3014, .ref n3015, .int 0, .ref n3016, .ref n3017, .ref n3018])), (n3000, .inl (cy 1, 1300, .inl (fun _ => 0)))] := hD
      refine lv_istore (lv' := [(6, .int (-1)), (5, .int 0), (4, .int 0), (3, .ref n5000), (2, .ref n3900), (1, .ref n1900), (0, .ref b)]) hx hb dL_law_1180 hl (by decide +kernel) rfl (fun ls hl => ?_)
      refine lv_aload_n hx hb dL_law_1182 rfl (lv_at hl 4 rfl) ?_
      refine call_i (av := [.ref n3900]) F hP hD hS [(n3900, .inr (12, [.ref n3000, .ref n3001, .ref n3002, .ref n3003, .int 0, .ref n3004, .int 0, .int 0, .int 0, .int 0, .int 0, .int 0, .int 0, .int 0, .int 0, .int (-1), .int 0, .ref n3005, .ref n3006, .int 0, .ref n3007, .ref n3008, .int 0, .int 0, .int 0, .int 0, .int 0, .int 0, .int 0, .ref n3009, .ref n3010, .int 0, .int 0, .ref n3011, .ref n3012, .int 0, .int 0, .ref n3013, .ref n3014, .ref n3015, .int 0, .ref n3016, .ref n3017, .ref n3018]))] [(n5000, .inl (cy 2, 1, .inr (.inl (vp_updL (fun _ => 0) 0 (-1))))), (n3000, .inl (cy 1, 1300, .inl (fun _ => 0)))] [1] [0, 2] rfl rfl (by decide +kernel) (fun pr => va_runV (As := []) (rest := []) ⟨hx, hb, hml, hown, hts⟩ (k175_X12_thrown l D cy H.size n3900 n3000 n3001 n3002 n3003 n3004 n3005 n3006 n3007 n3008 n3009 n3010 n3011 n3012 n3013 n3014 n3015 n3016 n3017 n3018) (cwV 0 hts gw_X12_thrown rfl rfl rfl (by decide +kernel) ⟨(by decide +kernel), (by decide +kernel)⟩) ⟨pr.1, va_recv hK hP (ci := 12) (q0 := 1) rfl rfl, pr.2⟩ rfl rfl hl.1 rfl (lv_room (Nat.le_of_ble_eq_true rfl)) dL_law_1183 ⟨(by decide +kernel), (by decide +kernel)⟩) (fun r u H locs hw hP hD hS => ?_)
      rcases hw with ⟨rfl, rfl⟩
      have hP : va_P D vwCl [(n5000, .inl (cy 2, 1, .inr (.inl (vp_updL (fun _ => 0) 0 (-1))))), (n3000, .inl (cy 1, 1300, .inl (fun _ => 0))), (n3900, .inr (12, [.ref n3000, .ref n3001, .ref n3002, .ref n3003, .int 0, .ref n3004, .int 0, .int 0, .int 0, .int 0, .int 0, .int 0, .int 0, .int 0, .int 0, .int (-1), .int 0, .ref n3005, .ref n3006, .int 0, .ref n3007, .ref n3008, .int 0, .int 0, .int 0, .int 0, .int 0, .int 0, .int 0, .ref n3009, .ref n3010, .int 0, .int 0, .ref n3011, .ref n3012, .int 0, .int 0, .ref n3013, .ref n3014, .ref n3015, .int 0, .ref n3016, .ref n3017, .ref n3018]))] H := hP
      have hD : va_D A [(n5000, .inl (cy 2, 1, .inr (.inl (vp_updL (fun _ => 0) 0 (-1))))), (n3000, .inl (cy 1, 1300, .inl (fun _ => 0))), (n3900, .inr (12, [.ref n3000, .ref n3001, .ref n3002, .ref n3003, .int 0, .ref n3004, .int 0, .int 0, .int 0, .int 0, .int 0, .int 0, .int 0, .int 0, .int 0, .int (-1), .int 0, .ref n3005, .ref n3006, .int 0, .ref n3007, .ref n3008, .int 0, .int 0, .int 0, .int 0, .int 0, .int 0, .int 0, .ref n3009, .ref n3010, .int 0, .int 0, .ref n3011, .ref n3012, .int 0, .int 0, .ref n3013, .ref n3014, .ref n3015, .int 0, .ref n3016, .ref n3017, .ref n3018]))] := hD
      refine lv_iload hx hb dL_law_1186 (lv_at hl 1 rfl) ?_
      refine lv_icmp_eq (tgt := 1193) hx hb dL_law_1188 (by decide +kernel) (fun _ => ?_) (fun h => absurd (by decide +kernel) h)
      refine lv_iload hx hb dL_law_1193 (lv_at hl 1 rfl) ?_
      refine lv_if_ne (tgt := 1210) hx hb dL_law_1195 (by decide +kernel) (fun h => absurd (by decide +kernel) h) (fun _ => ?_)
      refine lv_aload_n hx hb dL_law_1198 rfl (lv_at hl 3 rfl) ?_
      refine lv_iconst (v := 0) hx hb dL_law_1199 (by decide +kernel) ?_
      refine va_lald hx hb hK hP 0 2 rfl rfl (i := 0) (vin (by decide +kernel)) dL_law_1200 ?_
      refine top_l (v := (-1)) (by decide +kernel) ?_
      refine lv_iload hx hb dL_law_1201 (lv_at hl 0 rfl) ?_
      refine lv_i2l (v := (-1)) hx hb dL_law_1203 (by decide +kernel) ?_
      refine W.lcmp hx hb dL_law_1204 ?_
      refine top_i (v := 0) (by decide +kernel) ?_
      refine lv_if_eq (tgt := 1210) hx hb dL_law_1205 (by decide +kernel) (fun _ => ?_) (fun h => absurd (by decide +kernel) h)
      refine lv_goto (tgt := 2458) hx hb dL_law_1210 (by decide +kernel) ?_
      refine lv_iinc (v := 6) (lv' := [(4, .int 6), (6, .int (-1)), (5, .int 0), (3, .ref n5000), (2, .ref n3900), (1, .ref n1900), (0, .ref b)]) hx hb dL_law_2458 hl (k := 2) rfl (by decide) (by decide +kernel) rfl (fun ls hl => ?_)
      refine lv_goto (tgt := 23) hx hb dL_law_2461 (by decide +kernel) ?_
      refine lv_iload hx hb dL_law_23 (lv_at hl 0 rfl) ?_
      refine lv_aload_n hx hb dL_law_25 rfl (lv_at hl 6 rfl) ?_
      refine va_slen hx hb hX hbl hbA hS dL_law_26 ?_
      refine top_i (v := 6) rfl ?_
      refine lv_bipush (v := 6) hx hb dL_law_27 (by decide +kernel) ?_
      refine lv_isub hx hb dL_law_29 ?_
      refine top_i (v := 0) (by decide +kernel) ?_
      refine lv_icmp_gt (tgt := 2464) hx hb dL_law_30 (by decide +kernel) (fun _ => ?_) (fun h => absurd (by decide +kernel) h)
      refine lv_iconst (v := 1) hx hb dL_law_2464 (by decide +kernel) ?_
      refine va_forget (fun q hq => hAq _ (hS.2.2 q hq)) ?_
      refine W.widen (k := 600002) (n := 7302232) (by decide +kernel) (by decide +kernel) ?_
      exact lw_ret hx hb hr hlk dL_law_2465
set_option maxHeartbeats 4000000 in
set_option maxRecDepth 100000 in
theorem law_c18 {p : Program} {l : Launch} {e : Env} {s : State} {m : MethodId} {below : List Frame} {meth : Method} {c : Code} {b : Nat} {xs : Nat → Int32} {D : va_G} {cy : Nat → ClassId} {A : Nat → Prop} (hlT : l.stackTraces = false) (F : Fx D cy p m c cL_law 8 s #[Value.ref b] lw_tbl RL A) (hr : meth.sig.returnType = ret) (hlk : meth.locks = false) (hX : va_X b 6 xs s s.heap) (hbl : b < s.heap.size) (hbA : ¬ A b) (hAq : ∀ q, A q → s.heap.size ≤ q) {H : Heap} {locs : List Loc} {ls : Array Slot} (n1900 n1000 n1001 n1017 n1034 n1039 n1041 n1042 n1043 n1044 n1048 n1056 n1057 n1002 n1003 n1004 n1005 n1006 n1007 n1008 n1009 n1010 n1011 n1012 n1013 n3900 n3000 n3001 n3002 n3003 n3004 n3005 n3006 n3007 n3008 n3009 n3010 n3011 n3012 n3013 n3014 n3015 n3016 n3017 n3018 n5000 : Nat) (hP : va_P D vwCl [(n1900, .inr (11, [.ref n1000, .int 0, .ref n1001, .ref n1017, .ref n1034, .ref n1039, .ref n1041, .ref n1042, .ref n1043, .ref n1044, .ref n1048, .ref n1056, .ref n1057, .int 0])), (n1001, .inr (9, [.int 0, .int 0, .int 0, .int 0, .int 0, .ref n1002, .ref n1003, .ref n1004, .ref n1005, .ref n1006, .ref n1007, .ref n1008, .int 0, .ref n1009, .ref n1010, .ref n1011, .ref n1012, .ref n1013])), (n3900, .inr (12, [.ref n3000, .ref n3001, .ref n3002, .ref n3003, .int 0, .ref n3004, .int 0, .int 0, .int 0, .int 0, .int 0, .int 0, .int 0, .int 0, .int 0, .int (-1), .int 0, .ref n3005, .ref n3006, .int 0, .ref n3007, .ref n3008, .int 0, .int 0, .int 0, .int 0, .int 0, .int 0, .int 0, .ref n3009, .ref n3010, .int 0, .int 0, .ref n3011, .ref n3012, .int 0, .int 0, .ref n3013, .ref n3014, .ref n3015, .int 0, .ref n3016, .ref n3017, .ref n3018])), (n3000, .inl (cy 1, 1300, .inl (fun _ => 0)))] H) (hD : va_D A [(n1900, .inr (11, [.ref n1000, .int 0, .ref n1001, .ref n1017, .ref n1034, .ref n1039, .ref n1041, .ref n1042, .ref n1043, .ref n1044, .ref n1048, .ref n1056, .ref n1057, .int 0])), (n1001, .inr (9, [.int 0, .int 0, .int 0, .int 0, .int 0, .ref n1002, .ref n1003, .ref n1004, .ref n1005, .ref n1006, .ref n1007, .ref n1008, .int 0, .ref n1009, .ref n1010, .ref n1011, .ref n1012, .ref n1013])), (n3900, .inr (12, [.ref n3000, .ref n3001, .ref n3002, .ref n3003, .int 0, .ref n3004, .int 0, .int 0, .int 0, .int 0, .int 0, .int 0, .int 0, .int 0, .int 0, .int (-1), .int 0, .ref n3005, .ref n3006, .int 0, .ref n3007, .ref n3008, .int 0, .int 0, .int 0, .int 0, .int 0, .int 0, .int 0, .ref n3009, .ref n3010, .int 0, .int 0, .ref n3011, .ref n3012, .int 0, .int 0, .ref n3013, .ref n3014, .ref n3015, .int 0, .ref n3016, .ref n3017, .ref n3018])), (n3000, .inl (cy 1, 1300, .inl (fun _ => 0)))]) (hS : va_S A s.heap H locs) (hl : lv_has ls 8 [(4, .int 0), (3, .ref n5000), (2, .ref n3900), (1, .ref n1900), (0, .ref b)]) : W p l e room_1 s m #[Value.ref b] below meth c H locs 152 18765 (lw_Z below #[Value.ref b] s) (F0 m 1213 ls []) := by
  obtain ⟨⟨hx, hb, hml, hown, hts⟩, hK, hG, hZ, hA⟩ := id F
  obtain ⟨z1, ez1⟩ : ∃ z, xs 1 = z := ⟨_, rfl⟩
  obtain ⟨z2, ez2⟩ : ∃ z, xs 2 = z := ⟨_, rfl⟩
  obtain ⟨z3, ez3⟩ : ∃ z, xs 3 = z := ⟨_, rfl⟩
  obtain ⟨z4, ez4⟩ : ∃ z, xs 4 = z := ⟨_, rfl⟩
  obtain ⟨z5, ez5⟩ : ∃ z, xs 5 = z := ⟨_, rfl⟩
  refine lv_aload_n hx hb dL_law_1213 rfl (lv_at hl 3 rfl) ?_
  refine call_i (av := [.ref n1900]) F hP hD hS [(n1900, .inr (11, [.ref n1000, .int 0, .ref n1001, .ref n1017, .ref n1034, .ref n1039, .ref n1041, .ref n1042, .ref n1043, .ref n1044, .ref n1048, .ref n1056, .ref n1057, .int 0])), (n1001, .inr (9, [.int 0, .int 0, .int 0, .int 0, .int 0, .ref n1002, .ref n1003, .ref n1004, .ref n1005, .ref n1006, .ref n1007, .ref n1008, .int 0, .ref n1009, .ref n1010, .ref n1011, .ref n1012, .ref n1013]))] [(n3900, .inr (12, [.ref n3000, .ref n3001, .ref n3002, .ref n3003, .int 0, .ref n3004, .int 0, .int 0, .int 0, .int 0, .int 0, .int 0, .int 0, .int 0, .int 0, .int (-1), .int 0, .ref n3005, .ref n3006, .int 0, .ref n3007, .ref n3008, .int 0, .int 0, .int 0, .int 0, .int 0, .int 0, .int 0, .ref n3009, .ref n3010, .int 0, .int 0, .ref n3011, .ref n3012, .int 0, .int 0, .ref n3013, .ref n3014, .ref n3015, .int 0, .ref n3016, .ref n3017, .ref n3018])), (n3000, .inl (cy 1, 1300, .inl (fun _ => 0)))] [0, 1] [2, 3] rfl rfl (by decide +kernel) (fun pr => va_runV (As := []) (rest := []) ⟨hx, hb, hml, hown, hts⟩ (k50_X11_sides l D cy H.size n1900 n1001 n1000 n1017 n1034 n1039 n1041 n1042 n1043 n1044 n1048 n1056 n1057 n1002 n1003 n1004 n1005 n1006 n1007 n1008 n1009 n1010 n1011 n1012 n1013) (cwV 0 hts gw_X11_sides rfl rfl rfl (by decide +kernel) ⟨(by decide +kernel), (by decide +kernel)⟩) ⟨pr.1, va_recv hK hP (ci := 11) (q0 := 0) rfl rfl, pr.2⟩ rfl rfl hl.1 rfl (lv_room (Nat.le_of_ble_eq_true rfl)) dL_law_1214 ⟨(by decide +kernel), (by decide +kernel)⟩) (fun r u H locs hw hP hD hS => ?_)
  rcases hw with ⟨rfl, -⟩
  have hP := left_P hP
  have hD := left_D hD
  have hP : va_P D vwCl [(n3900, .inr (12, [.ref n3000, .ref n3001, .ref n3002, .ref n3003, .int 0, .ref n3004, .int 0, .int 0, .int 0, .int 0, .int 0, .int 0, .int 0, .int 0, .int 0, .int (-1), .int 0, .ref n3005, .ref n3006, .int 0, .ref n3007, .ref n3008, .int 0, .int 0, .int 0, .int 0, .int 0, .int 0, .int 0, .ref n3009, .ref n3010, .int 0, .int 0, .ref n3011, .ref n3012, .int 0, .int 0, .ref n3013, .ref n3014, .ref n3015, .int 0, .ref n3016, .ref n3017, .ref n3018])), (n3000, .inl (cy 1, 1300, .inl (fun _ => 0)))] H := hP
  have hD : va_D A [(n3900, .inr (12, [.ref n3000, .ref n3001, .ref n3002, .ref n3003, .int 0, .ref n3004, .int 0, .int 0, .int 0, .int 0, .int 0, .int 0, .int 0, .int 0, .int 0, .int (-1), .int 0, .ref n3005, .ref n3006, .int 0, .ref n3007, .ref n3008, .int 0, .int 0, .int 0, .int 0, .int 0, .int 0, .int 0, .ref n3009, .ref n3010, .int 0, .int 0, .ref n3011, .ref n3012, .int 0, .int 0, .ref n3013, .ref n3014, .ref n3015, .int 0, .ref n3016, .ref n3017, .ref n3018])), (n3000, .inl (cy 1, 1300, .inl (fun _ => 0)))] := hD
  refine lv_aload_n hx hb dL_law_1217 rfl (lv_at hl 2 rfl) ?_
  refine call_i (av := [.ref n3900]) F hP hD hS [(n3900, .inr (12, [.ref n3000, .ref n3001, .ref n3002, .ref n3003, .int 0, .ref n3004, .int 0, .int 0, .int 0, .int 0, .int 0, .int 0, .int 0, .int 0, .int 0, .int (-1), .int 0, .ref n3005, .ref n3006, .int 0, .ref n3007, .ref n3008, .int 0, .int 0, .int 0, .int 0, .int 0, .int 0, .int 0, .ref n3009, .ref n3010, .int 0, .int 0, .ref n3011, .ref n3012, .int 0, .int 0, .ref n3013, .ref n3014, .ref n3015, .int 0, .ref n3016, .ref n3017, .ref n3018])), (n3000, .inl (cy 1, 1300, .inl (fun _ => 0)))] [] [0, 1] [] rfl rfl (by decide +kernel) (fun pr => va_runV (As := []) (rest := [.int 0]) ⟨hx, hb, hml, hown, hts⟩ (k212_X12_sides l D cy H.size n3900 n3000 n3001 n3002 n3003 n3004 n3005 n3006 n3007 n3008 n3009 n3010 n3011 n3012 n3013 n3014 n3015 n3016 n3017 n3018) (cwV 0 hts gw_X12_sides rfl rfl rfl (by decide +kernel) ⟨(by decide +kernel), (by decide +kernel)⟩) ⟨pr.1, va_recv hK hP (ci := 12) (q0 := 0) rfl rfl, pr.2⟩ rfl rfl hl.1 rfl (lv_room (Nat.le_of_ble_eq_true rfl)) dL_law_1218 ⟨(by decide +kernel), (by decide +kernel)⟩) (fun r u H locs hw hP hD hS => ?_)
  rcases hw with ⟨rfl, rfl⟩
  have hP : va_P D vwCl [(n3900, .inr (12, [.ref n3000, .ref n3001, .ref n3002, .ref n3003, .int 0, .ref n3004, .int 0, .int 0, .int 0, .int 0, .int 0, .int 0, .int 0, .int 0, .int 0, .int (-1), .int 0, .ref n3005, .ref n3006, .int 0, .ref n3007, .ref n3008, .int 0, .int 0, .int 0, .int 0, .int 0, .int 0, .int 0, .ref n3009, .ref n3010, .int 0, .int 0, .ref n3011, .ref n3012, .int 0, .int 0, .ref n3013, .ref n3014, .ref n3015, .int 0, .ref n3016, .ref n3017, .ref n3018])), (n3000, .inl (cy 1, 1300, .inl (fun _ => 0)))] H := hP
  have hD : va_D A [(n3900, .inr (12, [.ref n3000, .ref n3001, .ref n3002, .ref n3003, .int 0, .ref n3004, .int 0, .int 0, .int 0, .int 0, .int 0, .int 0, .int 0, .int 0, .int 0, .int (-1), .int 0, .ref n3005, .ref n3006, .int 0, .ref n3007, .ref n3008, .int 0, .int 0, .int 0, .int 0, .int 0, .int 0, .int 0, .ref n3009, .ref n3010, .int 0, .int 0, .ref n3011, .ref n3012, .int 0, .int 0, .ref n3013, .ref n3014, .ref n3015, .int 0, .ref n3016, .ref n3017, .ref n3018])), (n3000, .inl (cy 1, 1300, .inl (fun _ => 0)))] := hD
  refine lv_icmp_eq (tgt := 2458) hx hb dL_law_1221 (by decide +kernel) (fun _ => ?_) (fun h => absurd (by decide +kernel) h)
  refine lv_iinc (v := 6) (lv' := [(4, .int 6), (3, .ref n5000), (2, .ref n3900), (1, .ref n1900), (0, .ref b)]) hx hb dL_law_2458 hl (k := 0) rfl (by decide) (by decide +kernel) rfl (fun ls hl => ?_)
  refine lv_goto (tgt := 23) hx hb dL_law_2461 (by decide +kernel) ?_
  refine lv_iload hx hb dL_law_23 (lv_at hl 0 rfl) ?_
  refine lv_aload_n hx hb dL_law_25 rfl (lv_at hl 4 rfl) ?_
  refine va_slen hx hb hX hbl hbA hS dL_law_26 ?_
  refine top_i (v := 6) rfl ?_
  refine lv_bipush (v := 6) hx hb dL_law_27 (by decide +kernel) ?_
  refine lv_isub hx hb dL_law_29 ?_
  refine top_i (v := 0) (by decide +kernel) ?_
  refine lv_icmp_gt (tgt := 2464) hx hb dL_law_30 (by decide +kernel) (fun _ => ?_) (fun h => absurd (by decide +kernel) h)
  refine lv_iconst (v := 1) hx hb dL_law_2464 (by decide +kernel) ?_
  refine va_forget (fun q hq => hAq _ (hS.2.2 q hq)) ?_
  refine W.widen (k := 600002) (n := 7302232) (by decide +kernel) (by decide +kernel) ?_
  exact lw_ret hx hb hr hlk dL_law_2465
set_option maxHeartbeats 4000000 in
set_option maxRecDepth 100000 in
theorem law_c19 {p : Program} {l : Launch} {e : Env} {s : State} {m : MethodId} {below : List Frame} {meth : Method} {c : Code} {b : Nat} {xs : Nat → Int32} {D : va_G} {cy : Nat → ClassId} {A : Nat → Prop} (hlT : l.stackTraces = false) (F : Fx D cy p m c cL_law 8 s #[Value.ref b] lw_tbl RL A) (hr : meth.sig.returnType = ret) (hlk : meth.locks = false) (hX : va_X b 6 xs s s.heap) (hbl : b < s.heap.size) (hbA : ¬ A b) (hAq : ∀ q, A q → s.heap.size ≤ q) {H : Heap} {locs : List Loc} {ls : Array Slot} (n1900 n1000 n1001 n1017 n1034 n1039 n1041 n1042 n1043 n1044 n1048 n1056 n1057 n1002 n1003 n1004 n1005 n1006 n1007 n1008 n1009 n1010 n1011 n1012 n1013 n1045 n1046 n1047 n3900 n3000 n3001 n3002 n3003 n3004 n3005 n3006 n3007 n3008 n3009 n3010 n3011 n3012 n3013 n3014 n3015 n3016 n3017 n3018 n5000 : Nat) (hP : va_P D vwCl [(n1900, .inr (11, [.ref n1000, .int 0, .ref n1001, .ref n1017, .ref n1034, .ref n1039, .ref n1041, .ref n1042, .ref n1043, .ref n1044, .ref n1048, .ref n1056, .ref n1057, .int 0])), (n1001, .inr (9, [.int 0, .int 0, .int 0, .int 0, .int 0, .ref n1002, .ref n1003, .ref n1004, .ref n1005, .ref n1006, .ref n1007, .ref n1008, .int 0, .ref n1009, .ref n1010, .ref n1011, .ref n1012, .ref n1013])), (n1044, .inr (5, [.ref n1001, .ref n1034, .ref n1045, .int 0, .int 0, .ref n1046, .ref n1047, .int 0, .int 0])), (n3900, .inr (12, [.ref n3000, .ref n3001, .ref n3002, .ref n3003, .int 0, .ref n3004, .int 0, .int 0, .int 0, .int 0, .int 0, .int 0, .int 0, .int 0, .int 0, .int (-1), .int 0, .ref n3005, .ref n3006, .int 0, .ref n3007, .ref n3008, .int 0, .int 0, .int 0, .int 0, .int 0, .int 0, .int 0, .ref n3009, .ref n3010, .int 0, .int 0, .ref n3011, .ref n3012, .int 0, .int 0, .ref n3013, .ref n3014, .ref n3015, .int 0, .ref n3016, .ref n3017, .ref n3018])), (n3000, .inl (cy 1, 1300, .inl (fun _ => 0))), (n3006, .inl (cy 1, 18, .inl (fun _ => 0)))] H) (hD : va_D A [(n1900, .inr (11, [.ref n1000, .int 0, .ref n1001, .ref n1017, .ref n1034, .ref n1039, .ref n1041, .ref n1042, .ref n1043, .ref n1044, .ref n1048, .ref n1056, .ref n1057, .int 0])), (n1001, .inr (9, [.int 0, .int 0, .int 0, .int 0, .int 0, .ref n1002, .ref n1003, .ref n1004, .ref n1005, .ref n1006, .ref n1007, .ref n1008, .int 0, .ref n1009, .ref n1010, .ref n1011, .ref n1012, .ref n1013])), (n1044, .inr (5, [.ref n1001, .ref n1034, .ref n1045, .int 0, .int 0, .ref n1046, .ref n1047, .int 0, .int 0])), (n3900, .inr (12, [.ref n3000, .ref n3001, .ref n3002, .ref n3003, .int 0, .ref n3004, .int 0, .int 0, .int 0, .int 0, .int 0, .int 0, .int 0, .int 0, .int 0, .int (-1), .int 0, .ref n3005, .ref n3006, .int 0, .ref n3007, .ref n3008, .int 0, .int 0, .int 0, .int 0, .int 0, .int 0, .int 0, .ref n3009, .ref n3010, .int 0, .int 0, .ref n3011, .ref n3012, .int 0, .int 0, .ref n3013, .ref n3014, .ref n3015, .int 0, .ref n3016, .ref n3017, .ref n3018])), (n3000, .inl (cy 1, 1300, .inl (fun _ => 0))), (n3006, .inl (cy 1, 18, .inl (fun _ => 0)))]) (hS : va_S A s.heap H locs) (hl : lv_has ls 8 [(4, .int 0), (3, .ref n5000), (2, .ref n3900), (1, .ref n1900), (0, .ref b)]) : W p l e room_1 s m #[Value.ref b] below meth c H locs 152 18765 (lw_Z below #[Value.ref b] s) (F0 m 1226 ls []) := by
  obtain ⟨⟨hx, hb, hml, hown, hts⟩, hK, hG, hZ, hA⟩ := id F
  obtain ⟨z1, ez1⟩ : ∃ z, xs 1 = z := ⟨_, rfl⟩
  obtain ⟨z2, ez2⟩ : ∃ z, xs 2 = z := ⟨_, rfl⟩
  obtain ⟨z3, ez3⟩ : ∃ z, xs 3 = z := ⟨_, rfl⟩
  obtain ⟨z4, ez4⟩ : ∃ z, xs 4 = z := ⟨_, rfl⟩
  obtain ⟨z5, ez5⟩ : ∃ z, xs 5 = z := ⟨_, rfl⟩
  refine lv_aload_n hx hb dL_law_1226 rfl (lv_at hl 3 rfl) ?_
  refine call_i (av := [.ref n1900]) F hP hD hS [(n1900, .inr (11, [.ref n1000, .int 0, .ref n1001, .ref n1017, .ref n1034, .ref n1039, .ref n1041, .ref n1042, .ref n1043, .ref n1044, .ref n1048, .ref n1056, .ref n1057, .int 0])), (n1001, .inr (9, [.int 0, .int 0, .int 0, .int 0, .int 0, .ref n1002, .ref n1003, .ref n1004, .ref n1005, .ref n1006, .ref n1007, .ref n1008, .int 0, .ref n1009, .ref n1010, .ref n1011, .ref n1012, .ref n1013])), (n1044, .inr (5, [.ref n1001, .ref n1034, .ref n1045, .int 0, .int 0, .ref n1046, .ref n1047, .int 0, .int 0]))] [(n3900, .inr (12, [.ref n3000, .ref n3001, .ref n3002, .ref n3003, .int 0, .ref n3004, .int 0, .int 0, .int 0, .int 0, .int 0, .int 0, .int 0, .int 0, .int 0, .int (-1), .int 0, .ref n3005, .ref n3006, .int 0, .ref n3007, .ref n3008, .int 0, .int 0, .int 0, .int 0, .int 0, .int 0, .int 0, .ref n3009, .ref n3010, .int 0, .int 0, .ref n3011, .ref n3012, .int 0, .int 0, .ref n3013, .ref n3014, .ref n3015, .int 0, .ref n3016, .ref n3017, .ref n3018])), (n3000, .inl (cy 1, 1300, .inl (fun _ => 0))), (n3006, .inl (cy 1, 18, .inl (fun _ => 0)))] [0, 1, 2] [3, 4, 5] rfl rfl (by decide +kernel) (fun pr => va_runV (As := []) (rest := []) ⟨hx, hb, hml, hown, hts⟩ (k88_X11_placings l D cy H.size n1900 n1001 n1044 n1000 n1017 n1034 n1039 n1041 n1042 n1043 n1048 n1056 n1057 n1002 n1003 n1004 n1005 n1006 n1007 n1008 n1009 n1010 n1011 n1012 n1013 n1045 n1046 n1047) (cwV 0 hts gw_X11_placings rfl rfl rfl (by decide +kernel) ⟨(by decide +kernel), (by decide +kernel)⟩) ⟨pr.1, va_recv hK hP (ci := 11) (q0 := 0) rfl rfl, pr.2⟩ rfl rfl hl.1 rfl (lv_room (Nat.le_of_ble_eq_true rfl)) dL_law_1227 ⟨(by decide +kernel), (by decide +kernel)⟩) (fun r u H locs hw hP hD hS => ?_)
  rcases hw with ⟨rfl, -⟩
  have hP := left_P hP
  have hD := left_D hD
  have hP : va_P D vwCl [(n3900, .inr (12, [.ref n3000, .ref n3001, .ref n3002, .ref n3003, .int 0, .ref n3004, .int 0, .int 0, .int 0, .int 0, .int 0, .int 0, .int 0, .int 0, .int 0, .int (-1), .int 0, .ref n3005, .ref n3006, .int 0, .ref n3007, .ref n3008, .int 0, .int 0, .int 0, .int 0, .int 0, .int 0, .int 0, .ref n3009, .ref n3010, .int 0, .int 0, .ref n3011, .ref n3012, .int 0, .int 0, .ref n3013, .ref n3014, .ref n3015, .int 0, .ref n3016, .ref n3017, .ref n3018])), (n3000, .inl (cy 1, 1300, .inl (fun _ => 0))), (n3006, .inl (cy 1, 18, .inl (fun _ => 0)))] H := hP
  have hD : va_D A [(n3900, .inr (12, [.ref n3000, .ref n3001, .ref n3002, .ref n3003, .int 0, .ref n3004, .int 0, .int 0, .int 0, .int 0, .int 0, .int 0, .int 0, .int 0, .int 0, .int (-1), .int 0, .ref n3005, .ref n3006, .int 0, .ref n3007, .ref n3008, .int 0, .int 0, .int 0, .int 0, .int 0, .int 0, .int 0, .ref n3009, .ref n3010, .int 0, .int 0, .ref n3011, .ref n3012, .int 0, .int 0, .ref n3013, .ref n3014, .ref n3015, .int 0, .ref n3016, .ref n3017, .ref n3018])), (n3000, .inl (cy 1, 1300, .inl (fun _ => 0))), (n3006, .inl (cy 1, 18, .inl (fun _ => 0)))] := hD
  refine lv_aload_n hx hb dL_law_1230 rfl (lv_at hl 2 rfl) ?_
  refine call_i (av := [.ref n3900]) F hP hD hS [(n3900, .inr (12, [.ref n3000, .ref n3001, .ref n3002, .ref n3003, .int 0, .ref n3004, .int 0, .int 0, .int 0, .int 0, .int 0, .int 0, .int 0, .int 0, .int 0, .int (-1), .int 0, .ref n3005, .ref n3006, .int 0, .ref n3007, .ref n3008, .int 0, .int 0, .int 0, .int 0, .int 0, .int 0, .int 0, .ref n3009, .ref n3010, .int 0, .int 0, .ref n3011, .ref n3012, .int 0, .int 0, .ref n3013, .ref n3014, .ref n3015, .int 0, .ref n3016, .ref n3017, .ref n3018])), (n3000, .inl (cy 1, 1300, .inl (fun _ => 0))), (n3006, .inl (cy 1, 18, .inl (fun _ => 0)))] [] [0, 1, 2] [] rfl rfl (by decide +kernel) (fun pr => va_runV (As := []) (rest := [.int 1]) ⟨hx, hb, hml, hown, hts⟩ (k232_X12_placings l D cy H.size n3900 n3000 n3006 n3001 n3002 n3003 n3004 n3005 n3007 n3008 n3009 n3010 n3011 n3012 n3013 n3014 n3015 n3016 n3017 n3018) (cwV 0 hts gw_X12_placings rfl rfl rfl (by decide +kernel) ⟨(by decide +kernel), (by decide +kernel)⟩) ⟨pr.1, va_recv hK hP (ci := 12) (q0 := 0) rfl rfl, pr.2⟩ rfl rfl hl.1 rfl (lv_room (Nat.le_of_ble_eq_true rfl)) dL_law_1231 ⟨(by decide +kernel), (by decide +kernel)⟩) (fun r u H locs hw hP hD hS => ?_)
  rcases hw with ⟨rfl, rfl⟩
  have hP : va_P D vwCl [(n3006, .inl (cy 1, 18, .inl (fun _ => 0))), (n3900, .inr (12, [.ref n3000, .ref n3001, .ref n3002, .ref n3003, .int 0, .ref n3004, .int 0, .int 0, .int 0, .int 0, .int 0, .int 0, .int 0, .int 0, .int 0, .int (-1), .int 0, .ref n3005, .ref n3006, .int 0, .ref n3007, .ref n3008, .int 1, .int (-1), .int 0, .int 0, .int 0, .int 0, .int 0, .ref n3009, .ref n3010, .int 0, .int 0, .ref n3011, .ref n3012, .int 0, .int 0, .ref n3013, .ref n3014, .ref n3015, .int 0, .ref n3016, .ref n3017, .ref n3018])), (n3000, .inl (cy 1, 1300, .inl (fun _ => 0)))] H := hP
  have hD : va_D A [(n3006, .inl (cy 1, 18, .inl (fun _ => 0))), (n3900, .inr (12, [.ref n3000, .ref n3001, .ref n3002, .ref n3003, .int 0, .ref n3004, .int 0, .int 0, .int 0, .int 0, .int 0, .int 0, .int 0, .int 0, .int 0, .int (-1), .int 0, .ref n3005, .ref n3006, .int 0, .ref n3007, .ref n3008, .int 1, .int (-1), .int 0, .int 0, .int 0, .int 0, .int 0, .ref n3009, .ref n3010, .int 0, .int 0, .ref n3011, .ref n3012, .int 0, .int 0, .ref n3013, .ref n3014, .ref n3015, .int 0, .ref n3016, .ref n3017, .ref n3018])), (n3000, .inl (cy 1, 1300, .inl (fun _ => 0)))] := hD
  refine lv_icmp_eq (tgt := 2458) hx hb dL_law_1234 (by decide +kernel) (fun _ => ?_) (fun h => absurd (by decide +kernel) h)
  refine lv_iinc (v := 6) (lv' := [(4, .int 6), (3, .ref n5000), (2, .ref n3900), (1, .ref n1900), (0, .ref b)]) hx hb dL_law_2458 hl (k := 0) rfl (by decide) (by decide +kernel) rfl (fun ls hl => ?_)
  refine lv_goto (tgt := 23) hx hb dL_law_2461 (by decide +kernel) ?_
  refine lv_iload hx hb dL_law_23 (lv_at hl 0 rfl) ?_
  refine lv_aload_n hx hb dL_law_25 rfl (lv_at hl 4 rfl) ?_
  refine va_slen hx hb hX hbl hbA hS dL_law_26 ?_
  refine top_i (v := 6) rfl ?_
  refine lv_bipush (v := 6) hx hb dL_law_27 (by decide +kernel) ?_
  refine lv_isub hx hb dL_law_29 ?_
  refine top_i (v := 0) (by decide +kernel) ?_
  refine lv_icmp_gt (tgt := 2464) hx hb dL_law_30 (by decide +kernel) (fun _ => ?_) (fun h => absurd (by decide +kernel) h)
  refine lv_iconst (v := 1) hx hb dL_law_2464 (by decide +kernel) ?_
  refine va_forget (fun q hq => hAq _ (hS.2.2 q hq)) ?_
  refine W.widen (k := 600002) (n := 7302232) (by decide +kernel) (by decide +kernel) ?_
  exact lw_ret hx hb hr hlk dL_law_2465
set_option maxHeartbeats 4000000 in
set_option maxRecDepth 100000 in
theorem law_c20 {p : Program} {l : Launch} {e : Env} {s : State} {m : MethodId} {below : List Frame} {meth : Method} {c : Code} {b : Nat} {xs : Nat → Int32} {D : va_G} {cy : Nat → ClassId} {A : Nat → Prop} (hlT : l.stackTraces = false) (F : Fx D cy p m c cL_law 8 s #[Value.ref b] lw_tbl RL A) (hr : meth.sig.returnType = ret) (hlk : meth.locks = false) (hX : va_X b 6 xs s s.heap) (hbl : b < s.heap.size) (hbA : ¬ A b) (hAq : ∀ q, A q → s.heap.size ≤ q) {H : Heap} {locs : List Loc} {ls : Array Slot} (n1900 n1000 n1001 n1017 n1034 n1039 n1041 n1042 n1043 n1044 n1048 n1056 n1057 n1002 n1003 n1004 n1005 n1006 n1007 n1008 n1009 n1010 n1011 n1012 n1013 n3900 n3000 n3001 n3002 n3003 n3004 n3005 n3006 n3007 n3008 n3009 n3010 n3011 n3012 n3013 n3014 n3015 n3016 n3017 n3018 n5000 : Nat) (hP : va_P D vwCl [(n1900, .inr (11, [.ref n1000, .int 0, .ref n1001, .ref n1017, .ref n1034, .ref n1039, .ref n1041, .ref n1042, .ref n1043, .ref n1044, .ref n1048, .ref n1056, .ref n1057, .int 0])), (n1001, .inr (9, [.int 0, .int 0, .int 0, .int 0, .int 0, .ref n1002, .ref n1003, .ref n1004, .ref n1005, .ref n1006, .ref n1007, .ref n1008, .int 0, .ref n1009, .ref n1010, .ref n1011, .ref n1012, .ref n1013])), (n3900, .inr (12, [.ref n3000, .ref n3001, .ref n3002, .ref n3003, .int 0, .ref n3004, .int 0, .int 0, .int 0, .int 0, .int 0, .int 0, .int 0, .int 0, .int 0, .int (-1), .int 0, .ref n3005, .ref n3006, .int 0, .ref n3007, .ref n3008, .int 0, .int 0, .int 0, .int 0, .int 0, .int 0, .int 0, .ref n3009, .ref n3010, .int 0, .int 0, .ref n3011, .ref n3012, .int 0, .int 0, .ref n3013, .ref n3014, .ref n3015, .int 0, .ref n3016, .ref n3017, .ref n3018])), (n3000, .inl (cy 1, 1300, .inl (fun _ => 0)))] H) (hD : va_D A [(n1900, .inr (11, [.ref n1000, .int 0, .ref n1001, .ref n1017, .ref n1034, .ref n1039, .ref n1041, .ref n1042, .ref n1043, .ref n1044, .ref n1048, .ref n1056, .ref n1057, .int 0])), (n1001, .inr (9, [.int 0, .int 0, .int 0, .int 0, .int 0, .ref n1002, .ref n1003, .ref n1004, .ref n1005, .ref n1006, .ref n1007, .ref n1008, .int 0, .ref n1009, .ref n1010, .ref n1011, .ref n1012, .ref n1013])), (n3900, .inr (12, [.ref n3000, .ref n3001, .ref n3002, .ref n3003, .int 0, .ref n3004, .int 0, .int 0, .int 0, .int 0, .int 0, .int 0, .int 0, .int 0, .int 0, .int (-1), .int 0, .ref n3005, .ref n3006, .int 0, .ref n3007, .ref n3008, .int 0, .int 0, .int 0, .int 0, .int 0, .int 0, .int 0, .ref n3009, .ref n3010, .int 0, .int 0, .ref n3011, .ref n3012, .int 0, .int 0, .ref n3013, .ref n3014, .ref n3015, .int 0, .ref n3016, .ref n3017, .ref n3018])), (n3000, .inl (cy 1, 1300, .inl (fun _ => 0)))]) (hS : va_S A s.heap H locs) (hl : lv_has ls 8 [(4, .int 0), (3, .ref n5000), (2, .ref n3900), (1, .ref n1900), (0, .ref b)]) : W p l e room_1 s m #[Value.ref b] below meth c H locs 152 18765 (lw_Z below #[Value.ref b] s) (F0 m 1239 ls []) := by
  obtain ⟨⟨hx, hb, hml, hown, hts⟩, hK, hG, hZ, hA⟩ := id F
  obtain ⟨z1, ez1⟩ : ∃ z, xs 1 = z := ⟨_, rfl⟩
  obtain ⟨z2, ez2⟩ : ∃ z, xs 2 = z := ⟨_, rfl⟩
  obtain ⟨z3, ez3⟩ : ∃ z, xs 3 = z := ⟨_, rfl⟩
  obtain ⟨z4, ez4⟩ : ∃ z, xs 4 = z := ⟨_, rfl⟩
  obtain ⟨z5, ez5⟩ : ∃ z, xs 5 = z := ⟨_, rfl⟩
  refine lv_aload_n hx hb dL_law_1239 rfl (lv_at hl 3 rfl) ?_
  refine lv_aload_n hx hb dL_law_1240 rfl (lv_at hl 4 rfl) ?_
  refine lv_iload hx hb dL_law_1241 (lv_at hl 0 rfl) ?_
  refine lv_iconst (v := 1) hx hb dL_law_1243 (by decide +kernel) ?_
  refine lv_iadd hx hb dL_law_1244 ?_
  refine top_i (v := 1) (by decide +kernel) ?_
  refine va_sld hx hb hX hbl hbA hS (i := 1) (vin (by decide +kernel)) dL_law_1245 ?_
  refine top_i (v := z1) ez1 ?_
  refine lv_aload_n hx hb dL_law_1246 rfl (lv_at hl 4 rfl) ?_
  refine lv_iload hx hb dL_law_1247 (lv_at hl 0 rfl) ?_
  refine lv_iconst (v := 2) hx hb dL_law_1249 (by decide +kernel) ?_
  refine lv_iadd hx hb dL_law_1250 ?_
  refine top_i (v := 2) (by decide +kernel) ?_
  refine va_sld hx hb hX hbl hbA hS (i := 2) (vin (by decide +kernel)) dL_law_1251 ?_
  refine top_i (v := z2) ez2 ?_
  refine lv_aload_n hx hb dL_law_1252 rfl (lv_at hl 1 rfl) ?_
  refine call_i (av := [.ref n1900, .int z1, .int z2, .ref n5000]) F hP hD hS [(n1900, .inr (11, [.ref n1000, .int 0, .ref n1001, .ref n1017, .ref n1034, .ref n1039, .ref n1041, .ref n1042, .ref n1043, .ref n1044, .ref n1048, .ref n1056, .ref n1057, .int 0])), (n1001, .inr (9, [.int 0, .int 0, .int 0, .int 0, .int 0, .ref n1002, .ref n1003, .ref n1004, .ref n1005, .ref n1006, .ref n1007, .ref n1008, .int 0, .ref n1009, .ref n1010, .ref n1011, .ref n1012, .ref n1013]))] [(n3900, .inr (12, [.ref n3000, .ref n3001, .ref n3002, .ref n3003, .int 0, .ref n3004, .int 0, .int 0, .int 0, .int 0, .int 0, .int 0, .int 0, .int 0, .int 0, .int (-1), .int 0, .ref n3005, .ref n3006, .int 0, .ref n3007, .ref n3008, .int 0, .int 0, .int 0, .int 0, .int 0, .int 0, .int 0, .ref n3009, .ref n3010, .int 0, .int 0, .ref n3011, .ref n3012, .int 0, .int 0, .ref n3013, .ref n3014, .ref n3015, .int 0, .ref n3016, .ref n3017, .ref n3018])), (n3000, .inl (cy 1, 1300, .inl (fun _ => 0)))] [0, 1] [2, 3] rfl rfl (by decide +kernel) (fun pr => vx_runSW (As := [.ref n1900, .int z1, .int z2, .ref n5000]) (rest := []) ⟨hx, hb, hml, hown, hts⟩ (k315_L_placing l hlT D cy H.size n1900 z1 z2 n5000 n1001 n1000 n1017 n1034 n1039 n1041 n1042 n1043 n1044 n1048 n1056 n1057 n1002 n1003 n1004 n1005 n1006 n1007 n1008 n1009 n1010 n1011 n1012 n1013) (vx_cwSW 4 hts gw_L_placing rfl rfl rfl (by decide +kernel) ⟨(by decide +kernel), (by decide +kernel)⟩) pr rfl rfl hl.1 rfl (lv_room (Nat.le_of_ble_eq_true rfl)) dL_law_1253 ⟨(by decide +kernel), (by decide +kernel)⟩) (fun r u H locs hw hP hD hS => ?_)
  rcases hw with ⟨rfl, rfl⟩
  have hP : va_P D vwCl [(n3900, .inr (12, [.ref n3000, .ref n3001, .ref n3002, .ref n3003, .int 0, .ref n3004, .int 0, .int 0, .int 0, .int 0, .int 0, .int 0, .int 0, .int 0, .int 0, .int (-1), .int 0, .ref n3005, .ref n3006, .int 0, .ref n3007, .ref n3008, .int 0, .int 0, .int 0, .int 0, .int 0, .int 0, .int 0, .ref n3009, .ref n3010, .int 0, .int 0, .ref n3011, .ref n3012, .int 0, .int 0, .ref n3013, .ref n3014, .ref n3015, .int 0, .ref n3016, .ref n3017, .ref n3018])), (n3000, .inl (cy 1, 1300, .inl (fun _ => 0)))] H := hP
  have hD : va_D A [(n3900, .inr (12, [.ref n3000, .ref n3001, .ref n3002, .ref n3003, .int 0, .ref n3004, .int 0, .int 0, .int 0, .int 0, .int 0, .int 0, .int 0, .int 0, .int 0, .int (-1), .int 0, .ref n3005, .ref n3006, .int 0, .ref n3007, .ref n3008, .int 0, .int 0, .int 0, .int 0, .int 0, .int 0, .int 0, .ref n3009, .ref n3010, .int 0, .int 0, .ref n3011, .ref n3012, .int 0, .int 0, .ref n3013, .ref n3014, .ref n3015, .int 0, .ref n3016, .ref n3017, .ref n3018])), (n3000, .inl (cy 1, 1300, .inl (fun _ => 0)))] := hD
  refine lv_istore (lv' := [(5, .int 1), (4, .int 0), (3, .ref n5000), (2, .ref n3900), (1, .ref n1900), (0, .ref b)]) hx hb dL_law_1256 hl (by decide +kernel) rfl (fun ls hl => ?_)
  refine lv_aload_n hx hb dL_law_1258 rfl (lv_at hl 3 rfl) ?_
  refine lv_aload_n hx hb dL_law_1259 rfl (lv_at hl 5 rfl) ?_
  refine lv_iload hx hb dL_law_1260 (lv_at hl 1 rfl) ?_
  refine lv_iconst (v := 1) hx hb dL_law_1262 (by decide +kernel) ?_
  refine lv_iadd hx hb dL_law_1263 ?_
  refine top_i (v := 1) (by decide +kernel) ?_
  refine va_sld hx hb hX hbl hbA hS (i := 1) (vin (by decide +kernel)) dL_law_1264 ?_
  refine top_i (v := z1) ez1 ?_
  refine lv_aload_n hx hb dL_law_1265 rfl (lv_at hl 5 rfl) ?_
  refine lv_iload hx hb dL_law_1266 (lv_at hl 1 rfl) ?_
  refine lv_iconst (v := 2) hx hb dL_law_1268 (by decide +kernel) ?_
  refine lv_iadd hx hb dL_law_1269 ?_
  refine top_i (v := 2) (by decide +kernel) ?_
  refine va_sld hx hb hX hbl hbA hS (i := 2) (vin (by decide +kernel)) dL_law_1270 ?_
  refine top_i (v := z2) ez2 ?_
  refine call_i (av := [.ref n3900, .int z1, .int z2]) F hP hD hS [(n3900, .inr (12, [.ref n3000, .ref n3001, .ref n3002, .ref n3003, .int 0, .ref n3004, .int 0, .int 0, .int 0, .int 0, .int 0, .int 0, .int 0, .int 0, .int 0, .int (-1), .int 0, .ref n3005, .ref n3006, .int 0, .ref n3007, .ref n3008, .int 0, .int 0, .int 0, .int 0, .int 0, .int 0, .int 0, .ref n3009, .ref n3010, .int 0, .int 0, .ref n3011, .ref n3012, .int 0, .int 0, .ref n3013, .ref n3014, .ref n3015, .int 0, .ref n3016, .ref n3017, .ref n3018])), (n3000, .inl (cy 1, 1300, .inl (fun _ => 0)))] [] [0, 1] [] rfl rfl (by decide +kernel) (fun pr => va_runV (As := [.int z1, .int z2]) (rest := []) ⟨hx, hb, hml, hown, hts⟩ (k233_X12_placing l D cy H.size n3900 z1 z2 n3000 n3001 n3002 n3003 n3004 n3005 n3006 n3007 n3008 n3009 n3010 n3011 n3012 n3013 n3014 n3015 n3016 n3017 n3018) (cwV 2 hts gw_X12_placing rfl rfl rfl (by decide +kernel) ⟨(by decide +kernel), (by decide +kernel)⟩) ⟨pr.1, va_recv hK hP (ci := 12) (q0 := 0) rfl rfl, pr.2⟩ rfl rfl hl.1 rfl (lv_room (Nat.le_of_ble_eq_true rfl)) dL_law_1271 ⟨(by decide +kernel), (by decide +kernel)⟩) (fun r u H locs hw hP hD hS => ?_)
  rcases hw with ⟨rfl, rfl⟩
  have hP : va_P D vwCl [(n3900, .inr (12, [.ref n3000, .ref n3001, .ref n3002, .ref n3003, .int 1, .ref n3004, .int 0, .int 0, .int 0, .int 0, .int 0, .int 0, .int 0, .int 0, .int 0, .int (-1), .int 0, .ref n3005, .ref n3006, .int 0, .ref n3007, .ref n3008, .int 0, .int 0, .int 0, .int 0, .int 0, .int 0, .int 0, .ref n3009, .ref n3010, .int 0, .int 0, .ref n3011, .ref n3012, .int 0, .int 0, .ref n3013, .ref n3014, .ref n3015, .int 0, .ref n3016, .ref n3017, .ref n3018])), (n3000, .inl (cy 1, 1300, .inl (fun _ => 0)))] H := hP
  have hD : va_D A [(n3900, .inr (12, [.ref n3000, .ref n3001, .ref n3002, .ref n3003, .int 1, .ref n3004, .int 0, .int 0, .int 0, .int 0, .int 0, .int 0, .int 0, .int 0, .int 0, .int (-1), .int 0, .ref n3005, .ref n3006, .int 0, .ref n3007, .ref n3008, .int 0, .int 0, .int 0, .int 0, .int 0, .int 0, .int 0, .ref n3009, .ref n3010, .int 0, .int 0, .ref n3011, .ref n3012, .int 0, .int 0, .ref n3013, .ref n3014, .ref n3015, .int 0, .ref n3016, .ref n3017, .ref n3018])), (n3000, .inl (cy 1, 1300, .inl (fun _ => 0)))] := hD
  refine lv_istore (lv' := [(6, .int 0), (5, .int 1), (4, .int 0), (3, .ref n5000), (2, .ref n3900), (1, .ref n1900), (0, .ref b)]) hx hb dL_law_1274 hl (by decide +kernel) rfl (fun ls hl => ?_)
  refine lv_aload_n hx hb dL_law_1276 rfl (lv_at hl 4 rfl) ?_
  refine call_i (av := [.ref n3900]) F hP hD hS [(n3900, .inr (12, [.ref n3000, .ref n3001, .ref n3002, .ref n3003, .int 1, .ref n3004, .int 0, .int 0, .int 0, .int 0, .int 0, .int 0, .int 0, .int 0, .int 0, .int (-1), .int 0, .ref n3005, .ref n3006, .int 0, .ref n3007, .ref n3008, .int 0, .int 0, .int 0, .int 0, .int 0, .int 0, .int 0, .ref n3009, .ref n3010, .int 0, .int 0, .ref n3011, .ref n3012, .int 0, .int 0, .ref n3013, .ref n3014, .ref n3015, .int 0, .ref n3016, .ref n3017, .ref n3018]))] [(n3000, .inl (cy 1, 1300, .inl (fun _ => 0)))] [0] [1] rfl rfl (by decide +kernel) (fun pr => va_runV (As := []) (rest := []) ⟨hx, hb, hml, hown, hts⟩ (k333_X12_thrown l D cy H.size n3900 n3000 n3001 n3002 n3003 n3004 n3005 n3006 n3007 n3008 n3009 n3010 n3011 n3012 n3013 n3014 n3015 n3016 n3017 n3018) (cwV 0 hts gw_X12_thrown rfl rfl rfl (by decide +kernel) ⟨(by decide +kernel), (by decide +kernel)⟩) ⟨pr.1, va_recv hK hP (ci := 12) (q0 := 0) rfl rfl, pr.2⟩ rfl rfl hl.1 rfl (lv_room (Nat.le_of_ble_eq_true rfl)) dL_law_1277 ⟨(by decide +kernel), (by decide +kernel)⟩) (fun r u H locs hw hP hD hS => ?_)
  rcases hw with ⟨rfl, rfl⟩
  have hP : va_P D vwCl [(n3000, .inl (cy 1, 1300, .inl (fun _ => 0))), (n3900, .inr (12, [.ref n3000, .ref n3001, .ref n3002, .ref n3003, .int 1, .ref n3004, .int 0, .int 0, .int 0, .int 0, .int 0, .int 0, .int 0, .int 0, .int 0, .int (-1), .int 0, .ref n3005, .ref n3006, .int 0, .ref n3007, .ref n3008, .int 0, .int 0, .int 0, .int 0, .int 0, .int 0, .int 0, .ref n3009, .ref n3010, .int 0, .int 0, .ref n3011, .ref n3012, .int 0, .int 0, .ref n3013, .ref n3014, .ref n3015, .int 0, .ref n3016, .ref n3017, .ref n3018]))] H := hP
  have hD : va_D A [(n3000, .inl (cy 1, 1300, .inl (fun _ => 0))), (n3900, .inr (12, [.ref n3000, .ref n3001, .ref n3002, .ref n3003, .int 1, .ref n3004, .int 0, .int 0, .int 0, .int 0, .int 0, .int 0, .int 0, .int 0, .int 0, .int (-1), .int 0, .ref n3005, .ref n3006, .int 0, .ref n3007, .ref n3008, .int 0, .int 0, .int 0, .int 0, .int 0, .int 0, .int 0, .ref n3009, .ref n3010, .int 0, .int 0, .ref n3011, .ref n3012, .int 0, .int 0, .ref n3013, .ref n3014, .ref n3015, .int 0, .ref n3016, .ref n3017, .ref n3018]))] := hD
  refine lv_iload hx hb dL_law_1280 (lv_at hl 1 rfl) ?_
  refine lv_icmp_eq (tgt := 1287) hx hb dL_law_1282 (by decide +kernel) (fun _ => ?_) (fun h => absurd (by decide +kernel) h)
  refine lv_iload hx hb dL_law_1287 (lv_at hl 1 rfl) ?_
  refine lv_if_ne (tgt := 1304) hx hb dL_law_1289 (by decide +kernel) (fun _ => ?_) (fun h => absurd h (by decide +kernel))
  refine lv_goto (tgt := 2458) hx hb dL_law_1304 (by decide +kernel) ?_
  refine lv_iinc (v := 6) (lv' := [(4, .int 6), (6, .int 0), (5, .int 1), (3, .ref n5000), (2, .ref n3900), (1, .ref n1900), (0, .ref b)]) hx hb dL_law_2458 hl (k := 2) rfl (by decide) (by decide +kernel) rfl (fun ls hl => ?_)
  refine lv_goto (tgt := 23) hx hb dL_law_2461 (by decide +kernel) ?_
  refine lv_iload hx hb dL_law_23 (lv_at hl 0 rfl) ?_
  refine lv_aload_n hx hb dL_law_25 rfl (lv_at hl 6 rfl) ?_
  refine va_slen hx hb hX hbl hbA hS dL_law_26 ?_
  refine top_i (v := 6) rfl ?_
  refine lv_bipush (v := 6) hx hb dL_law_27 (by decide +kernel) ?_
  refine lv_isub hx hb dL_law_29 ?_
  refine top_i (v := 0) (by decide +kernel) ?_
  refine lv_icmp_gt (tgt := 2464) hx hb dL_law_30 (by decide +kernel) (fun _ => ?_) (fun h => absurd (by decide +kernel) h)
  refine lv_iconst (v := 1) hx hb dL_law_2464 (by decide +kernel) ?_
  refine va_forget (fun q hq => hAq _ (hS.2.2 q hq)) ?_
  refine W.widen (k := 600002) (n := 7302232) (by decide +kernel) (by decide +kernel) ?_
  exact lw_ret hx hb hr hlk dL_law_2465
