theorem dL_law_968 : decode cL_law 968 = .ok (.aload_n 1, 1) := by decide +kernel
set_option maxRecDepth 20000 in
theorem ggL_law_X7_levels : GoodIn wsL_law wsX7_levels := goodIn_r _ [584, 25, 854, 855, 856, 857, 858, 859, 860] (by decide +kernel) (by decide +kernel)
set_option maxRecDepth 20000 in
theorem gL_law_X7_levels : GoodIn wsL_law (wsV RL 164 RX7 yX7_levels wsX7_levels) := goodIn_app (goodIn_of _ (by decide +kernel)) ggL_law_X7_levels
theorem dL_law_969 : decode cL_law 969 = .ok (.invokevirtual 164, 3) := by decide +kernel
theorem dL_law_972 : decode cL_law 972 = .ok (.aload_n 2, 1) := by decide +kernel
set_option maxRecDepth 20000 in
theorem ggL_law_X8_levels : GoodIn wsL_law wsX8_levels := goodIn_r _ [588, 164, 165, 861, 862, 863, 864, 865, 866, 867, 868, 869, 870, 871, 872, 873, 874, 875, 876, 877, 878, 879, 880, 881, 882, 883, 884, 885, 886, 887, 888, 889, 890, 891, 892, 893, 894, 895, 896, 897, 898] (by decide +kernel) (by decide +kernel)
set_option maxRecDepth 20000 in
theorem gL_law_X8_levels : GoodIn wsL_law (wsV RL 167 RX8 yX8_levels wsX8_levels) := goodIn_app (goodIn_of _ (by decide +kernel)) ggL_law_X8_levels
theorem dL_law_973 : decode cL_law 973 = .ok (.invokevirtual 167, 3) := by decide +kernel
theorem dL_law_976 : decode cL_law 976 = .ok (.if_icmp .eq 1190, 3) := by decide +kernel
theorem dL_law_981 : decode cL_law 981 = .ok (.aload_n 1, 1) := by decide +kernel
theorem dL_law_982 : decode cL_law 982 = .ok (.aload_n 0, 1) := by decide +kernel
theorem dL_law_983 : decode cL_law 983 = .ok (.iload 4, 2) := by decide +kernel
theorem dL_law_985 : decode cL_law 985 = .ok (.iconst 1, 1) := by decide +kernel
theorem dL_law_986 : decode cL_law 986 = .ok (.iadd, 1) := by decide +kernel
theorem dL_law_987 : decode cL_law 987 = .ok (.iaload, 1) := by decide +kernel
theorem dL_law_988 : decode cL_law 988 = .ok (.aload_n 0, 1) := by decide +kernel
theorem dL_law_989 : decode cL_law 989 = .ok (.iload 4, 2) := by decide +kernel
theorem dL_law_991 : decode cL_law 991 = .ok (.iconst 2, 1) := by decide +kernel
theorem dL_law_992 : decode cL_law 992 = .ok (.iadd, 1) := by decide +kernel
theorem dL_law_993 : decode cL_law 993 = .ok (.iaload, 1) := by decide +kernel
theorem dL_law_994 : decode cL_law 994 = .ok (.aload_n 3, 1) := by decide +kernel
set_option maxRecDepth 20000 in
theorem ggL_law_L_at : GoodIn wsL_law wsL_at := goodIn_ca (goodIn_r _ [591, 101, 592, 593, 594, 2, 595, 194, 195, 196, 197, 110, 111, 16, 198, 199, 200, 201, 154, 155, 202, 203, 204, 126, 205, 139, 915, 916, 917, 918, 919, 920, 854, 855, 856, 857, 858, 859, 860, 921, 922, 923] (by decide +kernel) (by decide +kernel)) (goodIn_sub (fun _ h => List.mem_append_left _ (List.mem_append_left _ (List.mem_append_right _ h))) (by decide +kernel))
set_option maxRecDepth 20000 in
theorem gL_law_L_at : GoodIn wsL_law (va_wsS RL 168 yL_at wsL_at) := goodIn_app (goodIn_of _ (by decide +kernel)) ggL_law_L_at
theorem dL_law_995 : decode cL_law 995 = .ok (.invokestatic 168, 3) := by decide +kernel
theorem dL_law_998 : decode cL_law 998 = .ok (.istore 5, 2) := by decide +kernel
theorem dL_law_1000 : decode cL_law 1000 = .ok (.aload_n 2, 1) := by decide +kernel
theorem dL_law_1001 : decode cL_law 1001 = .ok (.aload_n 0, 1) := by decide +kernel
theorem dL_law_1002 : decode cL_law 1002 = .ok (.iload 4, 2) := by decide +kernel
theorem dL_law_1004 : decode cL_law 1004 = .ok (.iconst 1, 1) := by decide +kernel
theorem dL_law_1005 : decode cL_law 1005 = .ok (.iadd, 1) := by decide +kernel
theorem dL_law_1006 : decode cL_law 1006 = .ok (.iaload, 1) := by decide +kernel
theorem dL_law_1007 : decode cL_law 1007 = .ok (.aload_n 0, 1) := by decide +kernel
theorem dL_law_1008 : decode cL_law 1008 = .ok (.iload 4, 2) := by decide +kernel
theorem dL_law_1010 : decode cL_law 1010 = .ok (.iconst 2, 1) := by decide +kernel
theorem dL_law_1011 : decode cL_law 1011 = .ok (.iadd, 1) := by decide +kernel
theorem dL_law_1012 : decode cL_law 1012 = .ok (.iaload, 1) := by decide +kernel
set_option maxRecDepth 20000 in
theorem ggL_law_X8_at : GoodIn wsL_law wsX8_at := goodIn_r _ [599, 164, 69, 234, 235, 236, 5, 237, 165, 169, 170, 171, 238, 239, 240, 172, 173, 174, 175, 861, 862, 863, 864, 865, 866, 867, 868, 869, 870, 871, 872, 873, 874, 875, 876, 877, 878, 879, 880, 881, 882, 883, 884, 885, 886, 887, 888, 889, 890, 891, 892, 893, 894, 895, 896, 897, 898] (by decide +kernel) (by decide +kernel)
set_option maxRecDepth 20000 in
theorem gL_law_X8_at : GoodIn wsL_law (wsV RL 170 RX8 yX8_at wsX8_at) := goodIn_app (goodIn_of _ (by decide +kernel)) ggL_law_X8_at
theorem dL_law_1013 : decode cL_law 1013 = .ok (.invokevirtual 170, 3) := by decide +kernel
theorem dL_law_1016 : decode cL_law 1016 = .ok (.istore 6, 2) := by decide +kernel
theorem dL_law_1018 : decode cL_law 1018 = .ok (.aload_n 2, 1) := by decide +kernel
theorem dL_law_1019 : decode cL_law 1019 = .ok (.invokevirtual 125, 3) := by decide +kernel
theorem dL_law_1022 : decode cL_law 1022 = .ok (.iload 5, 2) := by decide +kernel
theorem dL_law_1024 : decode cL_law 1024 = .ok (.if_icmp .eq 5, 3) := by decide +kernel
theorem dL_law_1029 : decode cL_law 1029 = .ok (.iload 5, 2) := by decide +kernel
theorem dL_law_1031 : decode cL_law 1031 = .ok (.ifCond .ne 15, 3) := by decide +kernel
theorem dL_law_1046 : decode cL_law 1046 = .ok (.goto 1120, 3) := by decide +kernel
theorem dL_law_1034 : decode cL_law 1034 = .ok (.aload_n 3, 1) := by decide +kernel
theorem dL_law_1035 : decode cL_law 1035 = .ok (.iconst 0, 1) := by decide +kernel
theorem dL_law_1036 : decode cL_law 1036 = .ok (.laload, 1) := by decide +kernel
theorem dL_law_1037 : decode cL_law 1037 = .ok (.iload 6, 2) := by decide +kernel
theorem dL_law_1039 : decode cL_law 1039 = .ok (.i2l, 1) := by decide +kernel
theorem dL_law_1040 : decode cL_law 1040 = .ok (.lcmp, 1) := by decide +kernel
theorem dL_law_1041 : decode cL_law 1041 = .ok (.ifCond .eq 5, 3) := by decide +kernel
theorem dL_law_1049 : decode cL_law 1049 = .ok (.aload_n 1, 1) := by decide +kernel
theorem dL_law_1050 : decode cL_law 1050 = .ok (.aload_n 0, 1) := by decide +kernel
theorem dL_law_1051 : decode cL_law 1051 = .ok (.iload 4, 2) := by decide +kernel
theorem dL_law_1053 : decode cL_law 1053 = .ok (.iconst 1, 1) := by decide +kernel
theorem dL_law_1054 : decode cL_law 1054 = .ok (.iadd, 1) := by decide +kernel
theorem dL_law_1055 : decode cL_law 1055 = .ok (.iaload, 1) := by decide +kernel
theorem dL_law_1056 : decode cL_law 1056 = .ok (.aload_n 3, 1) := by decide +kernel
set_option maxRecDepth 20000 in
theorem ggL_law_L_start : GoodIn wsL_law wsL_start := goodIn_ca (goodIn_r _ [602, 101, 603, 604, 605, 2, 606, 194, 195, 196, 197, 110, 111, 16, 915, 916, 917, 918, 919, 920, 854, 855, 856, 857, 858, 859, 860] (by decide +kernel) (by decide +kernel)) (goodIn_sub (fun _ h => List.mem_append_left _ (List.mem_append_left _ (List.mem_append_right _ h))) (by decide +kernel))
set_option maxRecDepth 20000 in
theorem gL_law_L_start : GoodIn wsL_law (va_wsS RL 171 yL_start wsL_start) := goodIn_app (goodIn_of _ (by decide +kernel)) ggL_law_L_start
theorem dL_law_1057 : decode cL_law 1057 = .ok (.invokestatic 171, 3) := by decide +kernel
theorem dL_law_1060 : decode cL_law 1060 = .ok (.istore 5, 2) := by decide +kernel
theorem dL_law_1062 : decode cL_law 1062 = .ok (.aload_n 2, 1) := by decide +kernel
theorem dL_law_1063 : decode cL_law 1063 = .ok (.aload_n 0, 1) := by decide +kernel
theorem dL_law_1064 : decode cL_law 1064 = .ok (.iload 4, 2) := by decide +kernel
theorem dL_law_1066 : decode cL_law 1066 = .ok (.iconst 1, 1) := by decide +kernel
theorem dL_law_1067 : decode cL_law 1067 = .ok (.iadd, 1) := by decide +kernel
theorem dL_law_1068 : decode cL_law 1068 = .ok (.iaload, 1) := by decide +kernel
set_option maxRecDepth 20000 in
theorem ggL_law_X8_start : GoodIn wsL_law wsX8_start := goodIn_r _ [610, 164, 70, 234, 235, 236, 5, 237, 165, 169, 170, 171, 172, 173, 174, 175, 861, 862, 863, 864, 865, 866, 867, 868, 869, 870, 871, 872, 873, 874, 875, 876, 877, 878, 879, 880, 881, 882, 883, 884, 885, 886, 887, 888, 889, 890, 891, 892, 893, 894, 895, 896, 897, 898] (by decide +kernel) (by decide +kernel)
set_option maxRecDepth 20000 in
theorem gL_law_X8_start : GoodIn wsL_law (wsV RL 173 RX8 yX8_start wsX8_start) := goodIn_app (goodIn_of _ (by decide +kernel)) ggL_law_X8_start
theorem dL_law_1069 : decode cL_law 1069 = .ok (.invokevirtual 173, 3) := by decide +kernel
theorem dL_law_1072 : decode cL_law 1072 = .ok (.istore 6, 2) := by decide +kernel
theorem dL_law_1074 : decode cL_law 1074 = .ok (.aload_n 2, 1) := by decide +kernel
theorem dL_law_1075 : decode cL_law 1075 = .ok (.invokevirtual 125, 3) := by decide +kernel
theorem dL_law_1078 : decode cL_law 1078 = .ok (.iload 5, 2) := by decide +kernel
theorem dL_law_1080 : decode cL_law 1080 = .ok (.if_icmp .eq 5, 3) := by decide +kernel
theorem dL_law_1085 : decode cL_law 1085 = .ok (.iload 5, 2) := by decide +kernel
theorem dL_law_1087 : decode cL_law 1087 = .ok (.ifCond .ne 15, 3) := by decide +kernel
theorem dL_law_1102 : decode cL_law 1102 = .ok (.goto 1064, 3) := by decide +kernel
theorem dL_law_1090 : decode cL_law 1090 = .ok (.aload_n 3, 1) := by decide +kernel
theorem dL_law_1091 : decode cL_law 1091 = .ok (.iconst 0, 1) := by decide +kernel
theorem dL_law_1092 : decode cL_law 1092 = .ok (.laload, 1) := by decide +kernel
theorem dL_law_1093 : decode cL_law 1093 = .ok (.iload 6, 2) := by decide +kernel
theorem dL_law_1095 : decode cL_law 1095 = .ok (.i2l, 1) := by decide +kernel
theorem dL_law_1096 : decode cL_law 1096 = .ok (.lcmp, 1) := by decide +kernel
theorem dL_law_1097 : decode cL_law 1097 = .ok (.ifCond .eq 5, 3) := by decide +kernel
theorem dL_law_1105 : decode cL_law 1105 = .ok (.aload_n 1, 1) := by decide +kernel
theorem dL_law_1106 : decode cL_law 1106 = .ok (.aload_n 0, 1) := by decide +kernel
theorem dL_law_1107 : decode cL_law 1107 = .ok (.iload 4, 2) := by decide +kernel
theorem dL_law_1109 : decode cL_law 1109 = .ok (.iconst 1, 1) := by decide +kernel
theorem dL_law_1110 : decode cL_law 1110 = .ok (.iadd, 1) := by decide +kernel
theorem dL_law_1111 : decode cL_law 1111 = .ok (.iaload, 1) := by decide +kernel
theorem dL_law_1112 : decode cL_law 1112 = .ok (.aload_n 0, 1) := by decide +kernel
theorem dL_law_1113 : decode cL_law 1113 = .ok (.iload 4, 2) := by decide +kernel
theorem dL_law_1115 : decode cL_law 1115 = .ok (.iconst 2, 1) := by decide +kernel
theorem dL_law_1116 : decode cL_law 1116 = .ok (.iadd, 1) := by decide +kernel
theorem dL_law_1117 : decode cL_law 1117 = .ok (.iaload, 1) := by decide +kernel
theorem dL_law_1118 : decode cL_law 1118 = .ok (.ifCond .eq 7, 3) := by decide +kernel
theorem dL_law_1125 : decode cL_law 1125 = .ok (.iconst 0, 1) := by decide +kernel
theorem dL_law_1126 : decode cL_law 1126 = .ok (.aload_n 3, 1) := by decide +kernel
set_option maxRecDepth 20000 in
theorem ggL_law_L_edits : GoodIn wsL_law wsL_edits := goodIn_ca (goodIn_r _ [613, 101, 614, 615, 616, 2, 617, 194, 195, 196, 197, 110, 111, 16, 915, 916, 917, 918, 919, 920, 924, 925, 926, 927, 928, 854, 855, 856, 857, 858, 859, 860] (by decide +kernel) (by decide +kernel)) (goodIn_sub (fun _ h => List.mem_append_left _ (List.mem_append_left _ (List.mem_append_right _ h))) (by decide +kernel))
set_option maxRecDepth 20000 in
theorem gL_law_L_edits : GoodIn wsL_law (va_wsS RL 174 yL_edits wsL_edits) := goodIn_app (goodIn_of _ (by decide +kernel)) ggL_law_L_edits
theorem dL_law_1127 : decode cL_law 1127 = .ok (.invokestatic 174, 3) := by decide +kernel
theorem dL_law_1130 : decode cL_law 1130 = .ok (.istore 5, 2) := by decide +kernel
theorem dL_law_1132 : decode cL_law 1132 = .ok (.aload_n 2, 1) := by decide +kernel
theorem dL_law_1133 : decode cL_law 1133 = .ok (.aload_n 0, 1) := by decide +kernel
theorem dL_law_1134 : decode cL_law 1134 = .ok (.iload 4, 2) := by decide +kernel
theorem dL_law_1136 : decode cL_law 1136 = .ok (.iconst 1, 1) := by decide +kernel
theorem dL_law_1137 : decode cL_law 1137 = .ok (.iadd, 1) := by decide +kernel
theorem dL_law_1138 : decode cL_law 1138 = .ok (.iaload, 1) := by decide +kernel
theorem dL_law_1139 : decode cL_law 1139 = .ok (.aload_n 0, 1) := by decide +kernel
theorem dL_law_1140 : decode cL_law 1140 = .ok (.iload 4, 2) := by decide +kernel
theorem dL_law_1142 : decode cL_law 1142 = .ok (.iconst 2, 1) := by decide +kernel
theorem dL_law_1143 : decode cL_law 1143 = .ok (.iadd, 1) := by decide +kernel
theorem dL_law_1144 : decode cL_law 1144 = .ok (.iaload, 1) := by decide +kernel
theorem dL_law_1145 : decode cL_law 1145 = .ok (.ifCond .eq 7, 3) := by decide +kernel
theorem dL_law_1152 : decode cL_law 1152 = .ok (.iconst 0, 1) := by decide +kernel
set_option maxRecDepth 20000 in
theorem ggL_law_X8_edits : GoodIn wsL_law wsX8_edits := goodIn_r _ [621, 164, 73, 76, 234, 235, 236, 5, 237, 165, 169, 170, 171, 172, 173, 174, 175, 861, 862, 863, 864, 865, 866, 867, 868, 869, 870, 871, 872, 873, 874, 875, 876, 877, 878, 879, 880, 881, 882, 883, 884, 885, 886, 887, 888, 889, 890, 891, 892, 893, 894, 895, 896, 897, 898] (by decide +kernel) (by decide +kernel)
set_option maxRecDepth 20000 in
theorem gL_law_X8_edits : GoodIn wsL_law (wsV RL 177 RX8 yX8_edits wsX8_edits) := goodIn_app (goodIn_of _ (by decide +kernel)) ggL_law_X8_edits
theorem dL_law_1153 : decode cL_law 1153 = .ok (.invokevirtual 177, 3) := by decide +kernel
theorem dL_law_1156 : decode cL_law 1156 = .ok (.istore 6, 2) := by decide +kernel
theorem dL_law_1158 : decode cL_law 1158 = .ok (.aload_n 2, 1) := by decide +kernel
theorem dL_law_1159 : decode cL_law 1159 = .ok (.invokevirtual 125, 3) := by decide +kernel
theorem dL_law_1162 : decode cL_law 1162 = .ok (.iload 5, 2) := by decide +kernel
theorem dL_law_1164 : decode cL_law 1164 = .ok (.if_icmp .eq 5, 3) := by decide +kernel
theorem dL_law_1169 : decode cL_law 1169 = .ok (.iload 5, 2) := by decide +kernel
theorem dL_law_1171 : decode cL_law 1171 = .ok (.ifCond .ne 15, 3) := by decide +kernel
theorem dL_law_1186 : decode cL_law 1186 = .ok (.goto 980, 3) := by decide +kernel
theorem dL_law_1174 : decode cL_law 1174 = .ok (.aload_n 3, 1) := by decide +kernel
theorem dL_law_1175 : decode cL_law 1175 = .ok (.iconst 0, 1) := by decide +kernel
theorem dL_law_1176 : decode cL_law 1176 = .ok (.laload, 1) := by decide +kernel
theorem dL_law_1177 : decode cL_law 1177 = .ok (.iload 6, 2) := by decide +kernel
theorem dL_law_1179 : decode cL_law 1179 = .ok (.i2l, 1) := by decide +kernel
theorem dL_law_1180 : decode cL_law 1180 = .ok (.lcmp, 1) := by decide +kernel
theorem dL_law_1181 : decode cL_law 1181 = .ok (.ifCond .eq 5, 3) := by decide +kernel
theorem dL_law_1148 : decode cL_law 1148 = .ok (.iconst 1, 1) := by decide +kernel
theorem dL_law_1149 : decode cL_law 1149 = .ok (.goto 4, 3) := by decide +kernel
theorem dL_law_1121 : decode cL_law 1121 = .ok (.iconst 1, 1) := by decide +kernel
theorem dL_law_1122 : decode cL_law 1122 = .ok (.goto 4, 3) := by decide +kernel
theorem dL_law_1189 : decode cL_law 1189 = .ok (.aload_n 1, 1) := by decide +kernel
theorem dL_law_1190 : decode cL_law 1190 = .ok (.aload_n 0, 1) := by decide +kernel
theorem dL_law_1191 : decode cL_law 1191 = .ok (.iload 4, 2) := by decide +kernel
theorem dL_law_1193 : decode cL_law 1193 = .ok (.iconst 1, 1) := by decide +kernel
theorem dL_law_1194 : decode cL_law 1194 = .ok (.iadd, 1) := by decide +kernel
theorem dL_law_1195 : decode cL_law 1195 = .ok (.iaload, 1) := by decide +kernel
theorem dL_law_1196 : decode cL_law 1196 = .ok (.aload_n 3, 1) := by decide +kernel
set_option maxRecDepth 20000 in
theorem ggL_law_L_proof : GoodIn wsL_law wsL_proof := goodIn_ca (goodIn_r _ [624, 101, 625, 626, 627, 2, 628, 194, 195, 196, 197, 110, 111, 16, 915, 916, 917, 918, 919, 920, 854, 855, 856, 857, 858, 859, 860] (by decide +kernel) (by decide +kernel)) (goodIn_sub (fun _ h => List.mem_append_left _ (List.mem_append_left _ (List.mem_append_right _ h))) (by decide +kernel))
set_option maxRecDepth 20000 in
theorem gL_law_L_proof : GoodIn wsL_law (va_wsS RL 178 yL_proof wsL_proof) := goodIn_app (goodIn_of _ (by decide +kernel)) ggL_law_L_proof
theorem dL_law_1197 : decode cL_law 1197 = .ok (.invokestatic 178, 3) := by decide +kernel
theorem dL_law_1200 : decode cL_law 1200 = .ok (.istore 5, 2) := by decide +kernel
theorem dL_law_1202 : decode cL_law 1202 = .ok (.aload_n 2, 1) := by decide +kernel
theorem dL_law_1203 : decode cL_law 1203 = .ok (.aload_n 0, 1) := by decide +kernel
theorem dL_law_1204 : decode cL_law 1204 = .ok (.iload 4, 2) := by decide +kernel
theorem dL_law_1206 : decode cL_law 1206 = .ok (.iconst 1, 1) := by decide +kernel
theorem dL_law_1207 : decode cL_law 1207 = .ok (.iadd, 1) := by decide +kernel
theorem dL_law_1208 : decode cL_law 1208 = .ok (.iaload, 1) := by decide +kernel
set_option maxRecDepth 20000 in
theorem ggL_law_X8_proof : GoodIn wsL_law wsX8_proof := goodIn_r _ [632, 164, 71, 234, 235, 236, 5, 237, 165, 169, 170, 171, 172, 173, 174, 175, 861, 862, 863, 864, 865, 866, 867, 868, 869, 870, 871, 872, 873, 874, 875, 876, 877, 878, 879, 880, 881, 882, 883, 884, 885, 886, 887, 888, 889, 890, 891, 892, 893, 894, 895, 896, 897, 898] (by decide +kernel) (by decide +kernel)
set_option maxRecDepth 20000 in
theorem gL_law_X8_proof : GoodIn wsL_law (wsV RL 180 RX8 yX8_proof wsX8_proof) := goodIn_app (goodIn_of _ (by decide +kernel)) ggL_law_X8_proof
theorem dL_law_1209 : decode cL_law 1209 = .ok (.invokevirtual 180, 3) := by decide +kernel
theorem dL_law_1212 : decode cL_law 1212 = .ok (.istore 6, 2) := by decide +kernel
theorem dL_law_1214 : decode cL_law 1214 = .ok (.aload_n 2, 1) := by decide +kernel
theorem dL_law_1215 : decode cL_law 1215 = .ok (.invokevirtual 125, 3) := by decide +kernel
theorem dL_law_1218 : decode cL_law 1218 = .ok (.iload 5, 2) := by decide +kernel
theorem dL_law_1220 : decode cL_law 1220 = .ok (.if_icmp .eq 5, 3) := by decide +kernel
theorem dL_law_1225 : decode cL_law 1225 = .ok (.iload 5, 2) := by decide +kernel
theorem dL_law_1227 : decode cL_law 1227 = .ok (.ifCond .ne 15, 3) := by decide +kernel
theorem dL_law_1242 : decode cL_law 1242 = .ok (.goto 924, 3) := by decide +kernel
theorem dL_law_1230 : decode cL_law 1230 = .ok (.aload_n 3, 1) := by decide +kernel
theorem dL_law_1231 : decode cL_law 1231 = .ok (.iconst 0, 1) := by decide +kernel
theorem dL_law_1232 : decode cL_law 1232 = .ok (.laload, 1) := by decide +kernel
theorem dL_law_1233 : decode cL_law 1233 = .ok (.iload 6, 2) := by decide +kernel
theorem dL_law_1235 : decode cL_law 1235 = .ok (.i2l, 1) := by decide +kernel
theorem dL_law_1236 : decode cL_law 1236 = .ok (.lcmp, 1) := by decide +kernel
theorem dL_law_1237 : decode cL_law 1237 = .ok (.ifCond .eq 5, 3) := by decide +kernel
theorem dL_law_1245 : decode cL_law 1245 = .ok (.aload_n 1, 1) := by decide +kernel
theorem dL_law_1246 : decode cL_law 1246 = .ok (.aload_n 0, 1) := by decide +kernel
theorem dL_law_1247 : decode cL_law 1247 = .ok (.iload 4, 2) := by decide +kernel
theorem dL_law_1249 : decode cL_law 1249 = .ok (.iconst 1, 1) := by decide +kernel
theorem dL_law_1250 : decode cL_law 1250 = .ok (.iadd, 1) := by decide +kernel
theorem dL_law_1251 : decode cL_law 1251 = .ok (.iaload, 1) := by decide +kernel
theorem dL_law_1252 : decode cL_law 1252 = .ok (.aload_n 0, 1) := by decide +kernel
theorem dL_law_1253 : decode cL_law 1253 = .ok (.iload 4, 2) := by decide +kernel
theorem dL_law_1255 : decode cL_law 1255 = .ok (.iconst 2, 1) := by decide +kernel
theorem dL_law_1256 : decode cL_law 1256 = .ok (.iadd, 1) := by decide +kernel
theorem dL_law_1257 : decode cL_law 1257 = .ok (.iaload, 1) := by decide +kernel
theorem dL_law_1258 : decode cL_law 1258 = .ok (.aload_n 3, 1) := by decide +kernel
set_option maxRecDepth 20000 in
theorem ggL_law_L_shortest : GoodIn wsL_law wsL_shortest := goodIn_ca (goodIn_ca (goodIn_r _ [635, 101, 187, 636, 637, 638, 2, 639, 192, 193, 24, 194, 195, 196, 197, 110, 111, 16, 640, 641, 642, 23, 643, 43, 38, 328, 329, 330, 331, 37, 39, 36, 332, 333, 334, 42, 335, 49, 50, 51, 336, 337, 338, 339, 48, 154, 155, 340, 203, 204, 126, 205, 139, 341, 342, 343, 344, 140, 349, 350, 351, 352, 357, 358, 359, 360, 33, 361, 362, 363, 364, 644, 645, 646, 647, 369, 370, 371, 372, 381, 382, 383, 384, 385, 374, 375, 376, 377, 378, 379, 380, 386, 387, 388, 389, 390, 391, 392, 393, 394, 395, 396, 397, 52, 854, 855, 856, 857, 858, 859, 860, 915, 916, 917, 918, 919, 920, 899, 900, 901, 902, 903, 904, 905, 910, 911, 912, 913, 914, 921, 922, 923] (by decide +kernel) (by decide +kernel)) (goodIn_sub (fun _ h => List.mem_append_right _ h) (by decide +kernel))) (goodIn_sub (fun _ h => List.mem_append_left _ (List.mem_append_left _ (List.mem_append_right _ h))) (by decide +kernel))
set_option maxRecDepth 20000 in
theorem gL_law_L_shortest : GoodIn wsL_law (va_wsS RL 181 yL_shortest wsL_shortest) := goodIn_app (goodIn_of _ (by decide +kernel)) ggL_law_L_shortest
theorem dL_law_1259 : decode cL_law 1259 = .ok (.invokestatic 181, 3) := by decide +kernel
theorem dL_law_1262 : decode cL_law 1262 = .ok (.istore 5, 2) := by decide +kernel
theorem dL_law_1264 : decode cL_law 1264 = .ok (.aload_n 2, 1) := by decide +kernel
theorem dL_law_1265 : decode cL_law 1265 = .ok (.aload_n 0, 1) := by decide +kernel
theorem dL_law_1266 : decode cL_law 1266 = .ok (.iload 4, 2) := by decide +kernel
theorem dL_law_1268 : decode cL_law 1268 = .ok (.iconst 1, 1) := by decide +kernel
theorem dL_law_1269 : decode cL_law 1269 = .ok (.iadd, 1) := by decide +kernel
theorem dL_law_1270 : decode cL_law 1270 = .ok (.iaload, 1) := by decide +kernel
theorem dL_law_1271 : decode cL_law 1271 = .ok (.aload_n 0, 1) := by decide +kernel
theorem dL_law_1272 : decode cL_law 1272 = .ok (.iload 4, 2) := by decide +kernel
theorem dL_law_1274 : decode cL_law 1274 = .ok (.iconst 2, 1) := by decide +kernel
theorem dL_law_1275 : decode cL_law 1275 = .ok (.iadd, 1) := by decide +kernel
theorem dL_law_1276 : decode cL_law 1276 = .ok (.iaload, 1) := by decide +kernel
set_option maxRecDepth 20000 in
theorem ggL_law_X8_shortest : GoodIn wsL_law wsX8_shortest := goodIn_r _ [651, 164, 70, 234, 235, 236, 5, 237, 165, 169, 170, 171, 172, 173, 174, 175, 427, 428, 429, 430, 431, 92, 80, 69, 93, 432, 433, 434, 435, 95, 96, 436, 94, 437, 438, 439, 440, 441, 442, 443, 444, 445, 446, 447, 448, 449, 450, 451, 452, 453, 454, 455, 67, 456, 457, 458, 459, 861, 862, 863, 864, 865, 866, 867, 868, 869, 870, 871, 872, 873, 874, 875, 876, 877, 878, 879, 880, 881, 882, 883, 884, 885, 886, 887, 888, 889, 890, 891, 892, 893, 894, 895, 896, 897, 898] (by decide +kernel) (by decide +kernel)
set_option maxRecDepth 20000 in
theorem gL_law_X8_shortest : GoodIn wsL_law (wsV RL 183 RX8 yX8_shortest wsX8_shortest) := goodIn_app (goodIn_of _ (by decide +kernel)) ggL_law_X8_shortest
theorem dL_law_1277 : decode cL_law 1277 = .ok (.invokevirtual 183, 3) := by decide +kernel
theorem dL_law_1280 : decode cL_law 1280 = .ok (.istore 6, 2) := by decide +kernel
theorem dL_law_1282 : decode cL_law 1282 = .ok (.aload_n 2, 1) := by decide +kernel
theorem dL_law_1283 : decode cL_law 1283 = .ok (.invokevirtual 125, 3) := by decide +kernel
theorem dL_law_1286 : decode cL_law 1286 = .ok (.iload 5, 2) := by decide +kernel
theorem dL_law_1288 : decode cL_law 1288 = .ok (.if_icmp .eq 5, 3) := by decide +kernel
theorem dL_law_1293 : decode cL_law 1293 = .ok (.iload 5, 2) := by decide +kernel
theorem dL_law_1295 : decode cL_law 1295 = .ok (.ifCond .ne 15, 3) := by decide +kernel
theorem dL_law_1310 : decode cL_law 1310 = .ok (.goto 856, 3) := by decide +kernel
theorem dL_law_1298 : decode cL_law 1298 = .ok (.aload_n 3, 1) := by decide +kernel
theorem dL_law_1299 : decode cL_law 1299 = .ok (.iconst 0, 1) := by decide +kernel
theorem dL_law_1300 : decode cL_law 1300 = .ok (.laload, 1) := by decide +kernel
theorem dL_law_1301 : decode cL_law 1301 = .ok (.iload 6, 2) := by decide +kernel
theorem dL_law_1303 : decode cL_law 1303 = .ok (.i2l, 1) := by decide +kernel
theorem dL_law_1304 : decode cL_law 1304 = .ok (.lcmp, 1) := by decide +kernel
theorem dL_law_1305 : decode cL_law 1305 = .ok (.ifCond .eq 5, 3) := by decide +kernel

set_option maxRecDepth 100000 in
set_option maxHeartbeats 4000000 in
theorem lc_levels {κ : KX} {D : va_G} {A : Nat → Prop} {nm : String} (C : CX κ "LedgeLevelsLaw" nm cL_law wsL_law { frames := 12, cells := 601024, slots := 7293034, locals := 438 } D A 7) (kn : KN κ) {b x mm ao nS : Nat} {sc : Nat → Int} (xs0 : XS κ b nS sc) {h : vh} {t i n1 n2 : Nat} (hS : Sy D x mm ao h t) (ht : t < 512) (hi : i + 3 < nS) (hnS : nS ≤ 2048) (hsc : ∀ j, -2147483648 ≤ sc j ∧ sc j ≤ 2147483647) (hn : n1 + 500 ≤ 601024 ∧ n2 + 3000 ≤ 7293034) (K : ∀ h9, Sy D x mm ao h9 (t + 1) → X κ (n1 + 500) (n2 + 3000) h9 [(0, .ref b), (1, .ref x), (2, .ref mm), (3, .ref ao), (4, vI ((i : Nat) : Int))] 2166 []) : X κ n1 n2 h [(0, .ref b), (1, .ref x), (2, .ref mm), (3, .ref ao), (4, vI ((i : Nat) : Int))] 968 [] := by
  obtain ⟨ad, c, L, W, am, m, fo, hR, hO, rfl, rfl, hC, hSi, hB⟩ := hS
  obtain ⟨o1, o2, o3, o4, o5, o6, o7⟩ := id hC.1
  obtain ⟨⟨a1, a2⟩, _⟩ := id hSi
  refine x_aload_n C dL_law_968 1 rfl ?_
  refine x_callV C (n := 0) (qc := (RX7, TX7, 7)) (As := []) (rest := []) (c_X7_levels hR) gL_law_X7_levels (by decide +kernel) (hR.1 0 0 (lv0 (by decide))) rfl rfl rfl rfl (Nat.le_of_ble_eq_true rfl) ⟨by decide, by decide⟩ ⟨by dsimp only; omega, by dsimp only; omega⟩ dL_law_969 (fun rv h1 hp => ?_)
  obtain ⟨rfl, rfl⟩ := hp
  refine x_aload_n C dL_law_972 2 rfl ?_
  refine x_callV C (n := 0) (qc := (RX8, TX8, 38)) (As := []) (rest := [vI (c 0 0 5)]) (c_X8_levels hO.1) gL_law_X8_levels (by decide +kernel) (hO.1.1 0 0 (lm0 (by decide))) rfl rfl rfl rfl (Nat.le_of_ble_eq_true rfl) ⟨by decide, by decide⟩ ⟨by dsimp only; omega, by dsimp only; omega⟩ dL_law_973 (fun rv2 h2 hp2 => ?_)
  obtain ⟨rfl, hM⟩ := hp2
  obtain ⟨hR2, hO2⟩ := hO.mp hR hM
  refine x_icmp_eq (tgt := 2166) C dL_law_976 (by decide) (by omega) (by omega) (fun _ => ?_) (fun z1 => by exfalso; omega)
  refine x_widen (m1 := n1 + 500) (m2 := n2 + 3000) (by dsimp only; omega) (by dsimp only; omega) ?_
  exact K _ ⟨ad, c, L, W, am, _, fo, hR2, hO2, rfl, rfl, hC, hSi.sm (SM.th SM.rf), hB.le (by omega)⟩

set_option maxRecDepth 100000 in
set_option maxHeartbeats 4000000 in
theorem lc_at {κ : KX} {D : va_G} {A : Nat → Prop} {nm : String} (C : CX κ "LedgeLevelsLaw" nm cL_law wsL_law { frames := 12, cells := 601024, slots := 7293034, locals := 438 } D A 7) (kn : KN κ) {b x mm ao nS : Nat} {sc : Nat → Int} (xs0 : XS κ b nS sc) {h : vh} {t i n1 n2 : Nat} (hS : Sy D x mm ao h t) (ht : t < 512) (hi : i + 3 < nS) (hnS : nS ≤ 2048) (hsc : ∀ j, -2147483648 ≤ sc j ∧ sc j ≤ 2147483647) (hn : n1 + 500 ≤ 601024 ∧ n2 + 3000 ≤ 7293034) (K : ∀ h9, Sy D x mm ao h9 (t + 1) → X κ (n1 + 500) (n2 + 3000) h9 [(0, .ref b), (1, .ref x), (2, .ref mm), (3, .ref ao), (4, vI ((i : Nat) : Int))] 2166 []) : X κ n1 n2 h [(0, .ref b), (1, .ref x), (2, .ref mm), (3, .ref ao), (4, vI ((i : Nat) : Int))] 981 [] := by
  obtain ⟨ad, c, L, W, am, m, fo, hR, hO, rfl, rfl, hC, hSi, hB⟩ := hS
  obtain ⟨p1, hp1⟩ : ∃ p9, p9 = sc (Int.toNat (((i : Nat) : Int) + 1)) := ⟨_, rfl⟩
  have hr1 : -2147483648 ≤ p1 ∧ p1 ≤ 2147483647 := by rw [hp1]; exact hsc _
  obtain ⟨p2, hp2⟩ : ∃ p9, p9 = sc (Int.toNat (((i : Nat) : Int) + 2)) := ⟨_, rfl⟩
  have hr2 : -2147483648 ≤ p2 ∧ p2 ≤ 2147483647 := by rw [hp2]; exact hsc _
  have hb3 := hB.2.2
  refine x_aload_n C dL_law_981 1 rfl ?_
  refine x_aload_n C dL_law_982 0 rfl ?_
  refine x_iload C dL_law_983 4 rfl ?_
  refine x_iconst C dL_law_985 1 (by decide) ?_
  refine x_iadd C dL_law_986 ?_
  refine x_sld C xs0 ⟨by omega, by omega⟩ (by omega) dL_law_987 ?_
  refine x_topv (show sc (Int.toNat (((i : Nat) : Int) + 1)) = p1 from hp1.symm) ?_
  refine x_aload_n C dL_law_988 0 rfl ?_
  refine x_iload C dL_law_989 4 rfl ?_
  refine x_iconst C dL_law_991 2 (by decide) ?_
  refine x_iadd C dL_law_992 ?_
  refine x_sld C xs0 ⟨by omega, by omega⟩ (by omega) dL_law_993 ?_
  refine x_topv (show sc (Int.toNat (((i : Nat) : Int) + 2)) = p2 from hp2.symm) ?_
  refine x_aload_n C dL_law_994 3 rfl ?_
  refine x_callSh C (n := 4) (As := [.ref (ad 0 0), vI p1, vI p2, .ref ao]) (rest := []) (c_L_at (ao := ao) (fo := fo) (c_X7_at hR hC (by omega) (by omega)) (hR.1 0 0 (lv0 (by decide))) (fun rv h9 hp => by obtain ⟨rfl, rfl, _⟩ := hp; exact ⟨_, rfl, hO.2.1⟩) (fun E h9 hx => by obtain ⟨_, hx⟩ := hx; rcases hx with ⟨rfl, q⟩ | ⟨rfl, q⟩ | ⟨rfl, q⟩ <;> first | exact q.elim | exact rfl | exact Or.inl rfl | exact Or.inr rfl | exact Or.inr (Or.inl rfl) | exact Or.inr (Or.inr rfl))) kn gL_law_L_at (by decide +kernel) rfl rfl rfl (Nat.le_of_ble_eq_true rfl) ⟨by decide, by decide⟩ ⟨by dsimp only; omega, by dsimp only; omega⟩ dL_law_995 (fun rv h1 hp => ?_)
  obtain ⟨k, ad1, c1, L1, W1, fo1, rfl, hk, hR1, hO1, hx1, hB1, hA⟩ := hr_at hO rfl hR hC hSi hB rv h1 hp
  refine x_istore C (ls' := [(0, .ref b), (1, .ref (ad 0 0)), (2, .ref (am 0 0)), (3, .ref ao), (4, vI ((i : Nat) : Int))] ++ [(5, vI k)]) dL_law_998 (by decide) rfl ?_
  refine x_aload_n C dL_law_1000 2 rfl ?_
  refine x_aload_n C dL_law_1001 0 rfl ?_
  refine x_iload C dL_law_1002 4 rfl ?_
  refine x_iconst C dL_law_1004 1 (by decide) ?_
  refine x_iadd C dL_law_1005 ?_
  refine x_sld C xs0 ⟨by omega, by omega⟩ (by omega) dL_law_1006 ?_
  refine x_topv (show sc (Int.toNat (((i : Nat) : Int) + 1)) = p1 from hp1.symm) ?_
  refine x_aload_n C dL_law_1007 0 rfl ?_
  refine x_iload C dL_law_1008 4 rfl ?_
  refine x_iconst C dL_law_1010 2 (by decide) ?_
  refine x_iadd C dL_law_1011 ?_
  refine x_sld C xs0 ⟨by omega, by omega⟩ (by omega) dL_law_1012 ?_
  refine x_topv (show sc (Int.toNat (((i : Nat) : Int) + 2)) = p2 from hp2.symm) ?_
  refine x_callV C (n := 2) (qc := (RX8, TX8, 38)) (As := [vI p1, vI p2]) (rest := []) (c_X8_at hO1.1 (hSi.mk1 hC) (by omega) (by omega)) gL_law_X8_at (by decide +kernel) (hO1.1.1 0 0 (lm0 (by decide))) rfl rfl rfl rfl (Nat.le_of_ble_eq_true rfl) ⟨by decide, by decide⟩ ⟨by dsimp only; omega, by dsimp only; omega⟩ dL_law_1013 (fun rv2 h2 hp2 => ?_)
  obtain ⟨r, m1, rfl, hM, hPR⟩ := hp2
  obtain ⟨a1, a2, a3, a4⟩ := hA r m1 hPR
  obtain ⟨hR2, hO2⟩ := hO1.mp hR1 hM
  refine x_istore C (ls' := [(0, .ref b), (1, .ref (ad 0 0)), (2, .ref (am 0 0)), (3, .ref ao), (4, vI ((i : Nat) : Int))] ++ [(5, vI k), (6, vI r)]) dL_law_1016 (by decide) rfl ?_
  refine x_aload_n C dL_law_1018 2 rfl ?_
  refine x_callV C (n := 0) (qc := (RX8, TX8, 38)) (As := []) (rest := []) (c_X8_thrown hO2.1) gL_law_X8_thrown (by decide +kernel) (hO2.1.1 0 0 (lm0 (by decide))) rfl rfl rfl rfl (Nat.le_of_ble_eq_true rfl) ⟨by decide, by decide⟩ ⟨by dsimp only; omega, by dsimp only; omega⟩ dL_law_1019 (fun rv3 h3 hp3 => ?_)
  obtain ⟨rfl, rfl⟩ := hp3
  refine x_topv (show m1 0 0 0 = k from a1) ?_
  refine x_iload C dL_law_1022 5 rfl ?_
  refine x_icmp_eq (tgt := 1029) C dL_law_1024 (by decide) (by omega) (by omega) (fun _ => ?_) (fun z1 => absurd rfl z1)
  refine x_iload C dL_law_1029 5 rfl ?_
  refine x_if_ne (tgt := 1046) C dL_law_1031 (by decide) (by omega) (fun z1 => ?_) (fun z1 => ?_)
  · refine x_goto (tgt := 2166) C dL_law_1046 (by decide) ?_
    refine x_sub [0, 1, 2, 3, 4] (ls' := [(0, .ref b), (1, .ref (ad 0 0)), (2, .ref (am 0 0)), (3, .ref ao), (4, vI ((i : Nat) : Int))]) rfl ?_
    refine x_widen (m1 := n1 + 500) (m2 := n2 + 3000) (by dsimp only; omega) (by dsimp only; omega) ?_
    exact K _ ⟨ad1, c1, L1, W1, am, m1, fo1, hR2, hO2, hx1, rfl, a4, a2, hB1⟩
  · refine x_aload_n C dL_law_1034 3 rfl ?_
    refine x_iconst C dL_law_1035 0 (by decide) ?_
    refine x_lald C hO2.2.1 ⟨by decide, by decide⟩ (by decide) dL_law_1036 ?_
    refine x_iload C dL_law_1037 6 rfl ?_
    refine x_i2l C dL_law_1039 ?_
    refine x_lcmp C dL_law_1040 (a3 (by omega)) ?_
    refine x_if_eq (tgt := 1046) C dL_law_1041 (by decide) (by omega) (fun _ => ?_) (fun z2 => absurd rfl z2)
    refine x_goto (tgt := 2166) C dL_law_1046 (by decide) ?_
    refine x_sub [0, 1, 2, 3, 4] (ls' := [(0, .ref b), (1, .ref (ad 0 0)), (2, .ref (am 0 0)), (3, .ref ao), (4, vI ((i : Nat) : Int))]) rfl ?_
    refine x_widen (m1 := n1 + 500) (m2 := n2 + 3000) (by dsimp only; omega) (by dsimp only; omega) ?_
    exact K _ ⟨ad1, c1, L1, W1, am, m1, fo1, hR2, hO2, hx1, rfl, a4, a2, hB1⟩

set_option maxRecDepth 100000 in
set_option maxHeartbeats 4000000 in
theorem lc_start {κ : KX} {D : va_G} {A : Nat → Prop} {nm : String} (C : CX κ "LedgeLevelsLaw" nm cL_law wsL_law { frames := 12, cells := 601024, slots := 7293034, locals := 438 } D A 7) (kn : KN κ) {b x mm ao nS : Nat} {sc : Nat → Int} (xs0 : XS κ b nS sc) {h : vh} {t i n1 n2 : Nat} (hS : Sy D x mm ao h t) (ht : t < 512) (hi : i + 3 < nS) (hnS : nS ≤ 2048) (hsc : ∀ j, -2147483648 ≤ sc j ∧ sc j ≤ 2147483647) (hn : n1 + 500 ≤ 601024 ∧ n2 + 3000 ≤ 7293034) (K : ∀ h9, Sy D x mm ao h9 (t + 1) → X κ (n1 + 500) (n2 + 3000) h9 [(0, .ref b), (1, .ref x), (2, .ref mm), (3, .ref ao), (4, vI ((i : Nat) : Int))] 2166 []) : X κ n1 n2 h [(0, .ref b), (1, .ref x), (2, .ref mm), (3, .ref ao), (4, vI ((i : Nat) : Int))] 1049 [] := by
  obtain ⟨ad, c, L, W, am, m, fo, hR, hO, rfl, rfl, hC, hSi, hB⟩ := hS
  obtain ⟨p1, hp1⟩ : ∃ p9, p9 = sc (Int.toNat (((i : Nat) : Int) + 1)) := ⟨_, rfl⟩
  have hr1 : -2147483648 ≤ p1 ∧ p1 ≤ 2147483647 := by rw [hp1]; exact hsc _
  have hb3 := hB.2.2
  refine x_aload_n C dL_law_1049 1 rfl ?_
  refine x_aload_n C dL_law_1050 0 rfl ?_
  refine x_iload C dL_law_1051 4 rfl ?_
  refine x_iconst C dL_law_1053 1 (by decide) ?_
  refine x_iadd C dL_law_1054 ?_
  refine x_sld C xs0 ⟨by omega, by omega⟩ (by omega) dL_law_1055 ?_
  refine x_topv (show sc (Int.toNat (((i : Nat) : Int) + 1)) = p1 from hp1.symm) ?_
  refine x_aload_n C dL_law_1056 3 rfl ?_
  refine x_callSh C (n := 3) (As := [.ref (ad 0 0), vI p1, .ref ao]) (rest := []) (c_L_start (ao := ao) (fo := fo) (c_X7_start hR hC (by omega)) (hR.1 0 0 (lv0 (by decide))) (fun rv h9 hp => by obtain ⟨rfl, rfl, _⟩ := hp; exact ⟨_, rfl, hO.2.1⟩) (fun E h9 hx => by obtain ⟨_, hx⟩ := hx; rcases hx with ⟨rfl, q⟩ | ⟨rfl, q⟩ | ⟨rfl, q⟩ <;> first | exact q.elim | exact rfl | exact Or.inl rfl | exact Or.inr rfl | exact Or.inr (Or.inl rfl) | exact Or.inr (Or.inr rfl))) kn gL_law_L_start (by decide +kernel) rfl rfl rfl (Nat.le_of_ble_eq_true rfl) ⟨by decide, by decide⟩ ⟨by dsimp only; omega, by dsimp only; omega⟩ dL_law_1057 (fun rv h1 hp => ?_)
  obtain ⟨k, ad1, c1, L1, W1, fo1, rfl, hk, hR1, hO1, hx1, hB1, hA⟩ := hr_start hO rfl hR hC hSi hB rv h1 hp
  refine x_istore C (ls' := [(0, .ref b), (1, .ref (ad 0 0)), (2, .ref (am 0 0)), (3, .ref ao), (4, vI ((i : Nat) : Int))] ++ [(5, vI k)]) dL_law_1060 (by decide) rfl ?_
  refine x_aload_n C dL_law_1062 2 rfl ?_
  refine x_aload_n C dL_law_1063 0 rfl ?_
  refine x_iload C dL_law_1064 4 rfl ?_
  refine x_iconst C dL_law_1066 1 (by decide) ?_
  refine x_iadd C dL_law_1067 ?_
  refine x_sld C xs0 ⟨by omega, by omega⟩ (by omega) dL_law_1068 ?_
  refine x_topv (show sc (Int.toNat (((i : Nat) : Int) + 1)) = p1 from hp1.symm) ?_
  refine x_callV C (n := 1) (qc := (RX8, TX8, 38)) (As := [vI p1]) (rest := []) (c_X8_start hO1.1 (hSi.mk1 hC) (by omega)) gL_law_X8_start (by decide +kernel) (hO1.1.1 0 0 (lm0 (by decide))) rfl rfl rfl rfl (Nat.le_of_ble_eq_true rfl) ⟨by decide, by decide⟩ ⟨by dsimp only; omega, by dsimp only; omega⟩ dL_law_1069 (fun rv2 h2 hp2 => ?_)
  obtain ⟨r, m1, rfl, hM, hPR⟩ := hp2
  obtain ⟨a1, a2, a3, a4⟩ := hA r m1 hPR
  obtain ⟨hR2, hO2⟩ := hO1.mp hR1 hM
  refine x_istore C (ls' := [(0, .ref b), (1, .ref (ad 0 0)), (2, .ref (am 0 0)), (3, .ref ao), (4, vI ((i : Nat) : Int))] ++ [(5, vI k), (6, vI r)]) dL_law_1072 (by decide) rfl ?_
  refine x_aload_n C dL_law_1074 2 rfl ?_
  refine x_callV C (n := 0) (qc := (RX8, TX8, 38)) (As := []) (rest := []) (c_X8_thrown hO2.1) gL_law_X8_thrown (by decide +kernel) (hO2.1.1 0 0 (lm0 (by decide))) rfl rfl rfl rfl (Nat.le_of_ble_eq_true rfl) ⟨by decide, by decide⟩ ⟨by dsimp only; omega, by dsimp only; omega⟩ dL_law_1075 (fun rv3 h3 hp3 => ?_)
  obtain ⟨rfl, rfl⟩ := hp3
  refine x_topv (show m1 0 0 0 = k from a1) ?_
  refine x_iload C dL_law_1078 5 rfl ?_
  refine x_icmp_eq (tgt := 1085) C dL_law_1080 (by decide) (by omega) (by omega) (fun _ => ?_) (fun z1 => absurd rfl z1)
  refine x_iload C dL_law_1085 5 rfl ?_
  refine x_if_ne (tgt := 1102) C dL_law_1087 (by decide) (by omega) (fun z1 => ?_) (fun z1 => ?_)
  · refine x_goto (tgt := 2166) C dL_law_1102 (by decide) ?_
    refine x_sub [0, 1, 2, 3, 4] (ls' := [(0, .ref b), (1, .ref (ad 0 0)), (2, .ref (am 0 0)), (3, .ref ao), (4, vI ((i : Nat) : Int))]) rfl ?_
    refine x_widen (m1 := n1 + 500) (m2 := n2 + 3000) (by dsimp only; omega) (by dsimp only; omega) ?_
    exact K _ ⟨ad1, c1, L1, W1, am, m1, fo1, hR2, hO2, hx1, rfl, a4, a2, hB1⟩
  · refine x_aload_n C dL_law_1090 3 rfl ?_
    refine x_iconst C dL_law_1091 0 (by decide) ?_
    refine x_lald C hO2.2.1 ⟨by decide, by decide⟩ (by decide) dL_law_1092 ?_
    refine x_iload C dL_law_1093 6 rfl ?_
    refine x_i2l C dL_law_1095 ?_
    refine x_lcmp C dL_law_1096 (a3 (by omega)) ?_
    refine x_if_eq (tgt := 1102) C dL_law_1097 (by decide) (by omega) (fun _ => ?_) (fun z2 => absurd rfl z2)
    refine x_goto (tgt := 2166) C dL_law_1102 (by decide) ?_
    refine x_sub [0, 1, 2, 3, 4] (ls' := [(0, .ref b), (1, .ref (ad 0 0)), (2, .ref (am 0 0)), (3, .ref ao), (4, vI ((i : Nat) : Int))]) rfl ?_
    refine x_widen (m1 := n1 + 500) (m2 := n2 + 3000) (by dsimp only; omega) (by dsimp only; omega) ?_
    exact K _ ⟨ad1, c1, L1, W1, am, m1, fo1, hR2, hO2, hx1, rfl, a4, a2, hB1⟩

set_option maxRecDepth 100000 in
set_option maxHeartbeats 4000000 in
theorem lc_edits {κ : KX} {D : va_G} {A : Nat → Prop} {nm : String} (C : CX κ "LedgeLevelsLaw" nm cL_law wsL_law { frames := 12, cells := 601024, slots := 7293034, locals := 438 } D A 7) (kn : KN κ) {b x mm ao nS : Nat} {sc : Nat → Int} (xs0 : XS κ b nS sc) {h : vh} {t i n1 n2 : Nat} (hS : Sy D x mm ao h t) (ht : t < 512) (hi : i + 3 < nS) (hnS : nS ≤ 2048) (hsc : ∀ j, -2147483648 ≤ sc j ∧ sc j ≤ 2147483647) (hn : n1 + 500 ≤ 601024 ∧ n2 + 3000 ≤ 7293034) (K : ∀ h9, Sy D x mm ao h9 (t + 1) → X κ (n1 + 500) (n2 + 3000) h9 [(0, .ref b), (1, .ref x), (2, .ref mm), (3, .ref ao), (4, vI ((i : Nat) : Int))] 2166 []) : X κ n1 n2 h [(0, .ref b), (1, .ref x), (2, .ref mm), (3, .ref ao), (4, vI ((i : Nat) : Int))] 1105 [] := by
  obtain ⟨ad, c, L, W, am, m, fo, hR, hO, rfl, rfl, hC, hSi, hB⟩ := hS
  obtain ⟨p1, hp1⟩ : ∃ p9, p9 = sc (Int.toNat (((i : Nat) : Int) + 1)) := ⟨_, rfl⟩
  have hr1 : -2147483648 ≤ p1 ∧ p1 ≤ 2147483647 := by rw [hp1]; exact hsc _
  obtain ⟨p2, hp2⟩ : ∃ p9, p9 = sc (Int.toNat (((i : Nat) : Int) + 2)) := ⟨_, rfl⟩
  have hr2 : -2147483648 ≤ p2 ∧ p2 ≤ 2147483647 := by rw [hp2]; exact hsc _
  have hb3 := hB.2.2
  refine x_aload_n C dL_law_1105 1 rfl ?_
  refine x_aload_n C dL_law_1106 0 rfl ?_
  refine x_iload C dL_law_1107 4 rfl ?_
  refine x_iconst C dL_law_1109 1 (by decide) ?_
  refine x_iadd C dL_law_1110 ?_
  refine x_sld C xs0 ⟨by omega, by omega⟩ (by omega) dL_law_1111 ?_
  refine x_topv (show sc (Int.toNat (((i : Nat) : Int) + 1)) = p1 from hp1.symm) ?_
  refine x_aload_n C dL_law_1112 0 rfl ?_
  refine x_iload C dL_law_1113 4 rfl ?_
  refine x_iconst C dL_law_1115 2 (by decide) ?_
  refine x_iadd C dL_law_1116 ?_
  refine x_sld C xs0 ⟨by omega, by omega⟩ (by omega) dL_law_1117 ?_
  refine x_topv (show sc (Int.toNat (((i : Nat) : Int) + 2)) = p2 from hp2.symm) ?_
  refine x_if_eq (tgt := 1125) C dL_law_1118 (by decide) (by omega) (fun z0 => ?_) (fun z0 => ?_)
  · skip
    refine x_iconst C dL_law_1125 0 (by decide) ?_
    refine x_aload_n C dL_law_1126 3 rfl ?_
    refine x_callSh C (n := 4) (As := [.ref (ad 0 0), vI p1, vI 0, .ref ao]) (rest := []) (c_L_edits (ao := ao) (fo := fo) (c_X7_edits hR hC (by omega) (by decide)) (hR.1 0 0 (lv0 (by decide))) (fun rv h9 hp => by obtain ⟨rfl, rfl, _⟩ := hp; exact ⟨_, rfl, hO.2.1⟩) (fun E h9 hx => by obtain ⟨_, hx⟩ := hx; rcases hx with ⟨rfl, q⟩ | ⟨rfl, q⟩ | ⟨rfl, q⟩ <;> first | exact q.elim | exact rfl | exact Or.inl rfl | exact Or.inr rfl | exact Or.inr (Or.inl rfl) | exact Or.inr (Or.inr rfl))) kn gL_law_L_edits (by decide +kernel) rfl rfl rfl (Nat.le_of_ble_eq_true rfl) ⟨by decide, by decide⟩ ⟨by dsimp only; omega, by dsimp only; omega⟩ dL_law_1127 (fun rv h1 hp => ?_)
    obtain ⟨k, ad1, c1, L1, W1, fo1, rfl, hk, hR1, hO1, hx1, hB1, hA⟩ := hr_edits hO rfl hR hC hSi hB rv h1 hp
    refine x_istore C (ls' := [(0, .ref b), (1, .ref (ad 0 0)), (2, .ref (am 0 0)), (3, .ref ao), (4, vI ((i : Nat) : Int))] ++ [(5, vI k)]) dL_law_1130 (by decide) rfl ?_
    refine x_aload_n C dL_law_1132 2 rfl ?_
    refine x_aload_n C dL_law_1133 0 rfl ?_
    refine x_iload C dL_law_1134 4 rfl ?_
    refine x_iconst C dL_law_1136 1 (by decide) ?_
    refine x_iadd C dL_law_1137 ?_
    refine x_sld C xs0 ⟨by omega, by omega⟩ (by omega) dL_law_1138 ?_
    refine x_topv (show sc (Int.toNat (((i : Nat) : Int) + 1)) = p1 from hp1.symm) ?_
    refine x_aload_n C dL_law_1139 0 rfl ?_
    refine x_iload C dL_law_1140 4 rfl ?_
    refine x_iconst C dL_law_1142 2 (by decide) ?_
    refine x_iadd C dL_law_1143 ?_
    refine x_sld C xs0 ⟨by omega, by omega⟩ (by omega) dL_law_1144 ?_
    refine x_topv (show sc (Int.toNat (((i : Nat) : Int) + 2)) = p2 from hp2.symm) ?_
    refine x_if_eq (tgt := 1152) C dL_law_1145 (by decide) (by omega) (fun z0 => ?_) (fun z0 => ?_)
    · skip
      refine x_iconst C dL_law_1152 0 (by decide) ?_
      refine x_callV C (n := 2) (qc := (RX8, TX8, 38)) (As := [vI p1, vI 0]) (rest := []) (c_X8_edits hO1.1 (hSi.mk1 hC) (by omega) (by decide)) gL_law_X8_edits (by decide +kernel) (hO1.1.1 0 0 (lm0 (by decide))) rfl rfl rfl rfl (Nat.le_of_ble_eq_true rfl) ⟨by decide, by decide⟩ ⟨by dsimp only; omega, by dsimp only; omega⟩ dL_law_1153 (fun rv2 h2 hp2 => ?_)
      obtain ⟨r, m1, rfl, hM, hPR⟩ := hp2
      obtain ⟨a1, a2, a3, a4⟩ := hA r m1 hPR
      obtain ⟨hR2, hO2⟩ := hO1.mp hR1 hM
      refine x_istore C (ls' := [(0, .ref b), (1, .ref (ad 0 0)), (2, .ref (am 0 0)), (3, .ref ao), (4, vI ((i : Nat) : Int))] ++ [(5, vI k), (6, vI r)]) dL_law_1156 (by decide) rfl ?_
      refine x_aload_n C dL_law_1158 2 rfl ?_
      refine x_callV C (n := 0) (qc := (RX8, TX8, 38)) (As := []) (rest := []) (c_X8_thrown hO2.1) gL_law_X8_thrown (by decide +kernel) (hO2.1.1 0 0 (lm0 (by decide))) rfl rfl rfl rfl (Nat.le_of_ble_eq_true rfl) ⟨by decide, by decide⟩ ⟨by dsimp only; omega, by dsimp only; omega⟩ dL_law_1159 (fun rv3 h3 hp3 => ?_)
      obtain ⟨rfl, rfl⟩ := hp3
      refine x_topv (show m1 0 0 0 = k from a1) ?_
      refine x_iload C dL_law_1162 5 rfl ?_
      refine x_icmp_eq (tgt := 1169) C dL_law_1164 (by decide) (by omega) (by omega) (fun _ => ?_) (fun z1 => absurd rfl z1)
      refine x_iload C dL_law_1169 5 rfl ?_
      refine x_if_ne (tgt := 1186) C dL_law_1171 (by decide) (by omega) (fun z1 => ?_) (fun z1 => ?_)
      · refine x_goto (tgt := 2166) C dL_law_1186 (by decide) ?_
        refine x_sub [0, 1, 2, 3, 4] (ls' := [(0, .ref b), (1, .ref (ad 0 0)), (2, .ref (am 0 0)), (3, .ref ao), (4, vI ((i : Nat) : Int))]) rfl ?_
        refine x_widen (m1 := n1 + 500) (m2 := n2 + 3000) (by dsimp only; omega) (by dsimp only; omega) ?_
        exact K _ ⟨ad1, c1, L1, W1, am, m1, fo1, hR2, hO2, hx1, rfl, a4, a2, hB1⟩
      · refine x_aload_n C dL_law_1174 3 rfl ?_
        refine x_iconst C dL_law_1175 0 (by decide) ?_
        refine x_lald C hO2.2.1 ⟨by decide, by decide⟩ (by decide) dL_law_1176 ?_
        refine x_iload C dL_law_1177 6 rfl ?_
        refine x_i2l C dL_law_1179 ?_
        refine x_lcmp C dL_law_1180 (a3 (by omega)) ?_
        refine x_if_eq (tgt := 1186) C dL_law_1181 (by decide) (by omega) (fun _ => ?_) (fun z2 => absurd rfl z2)
        refine x_goto (tgt := 2166) C dL_law_1186 (by decide) ?_
        refine x_sub [0, 1, 2, 3, 4] (ls' := [(0, .ref b), (1, .ref (ad 0 0)), (2, .ref (am 0 0)), (3, .ref ao), (4, vI ((i : Nat) : Int))]) rfl ?_
        refine x_widen (m1 := n1 + 500) (m2 := n2 + 3000) (by dsimp only; omega) (by dsimp only; omega) ?_
        exact K _ ⟨ad1, c1, L1, W1, am, m1, fo1, hR2, hO2, hx1, rfl, a4, a2, hB1⟩
    · skip
      refine x_iconst C dL_law_1148 1 (by decide) ?_
      refine x_goto (tgt := 1153) C dL_law_1149 (by decide) ?_
      exfalso; omega
  · skip
    refine x_iconst C dL_law_1121 1 (by decide) ?_
    refine x_goto (tgt := 1126) C dL_law_1122 (by decide) ?_
    refine x_aload_n C dL_law_1126 3 rfl ?_
    refine x_callSh C (n := 4) (As := [.ref (ad 0 0), vI p1, vI 1, .ref ao]) (rest := []) (c_L_edits (ao := ao) (fo := fo) (c_X7_edits hR hC (by omega) (by decide)) (hR.1 0 0 (lv0 (by decide))) (fun rv h9 hp => by obtain ⟨rfl, rfl, _⟩ := hp; exact ⟨_, rfl, hO.2.1⟩) (fun E h9 hx => by obtain ⟨_, hx⟩ := hx; rcases hx with ⟨rfl, q⟩ | ⟨rfl, q⟩ | ⟨rfl, q⟩ <;> first | exact q.elim | exact rfl | exact Or.inl rfl | exact Or.inr rfl | exact Or.inr (Or.inl rfl) | exact Or.inr (Or.inr rfl))) kn gL_law_L_edits (by decide +kernel) rfl rfl rfl (Nat.le_of_ble_eq_true rfl) ⟨by decide, by decide⟩ ⟨by dsimp only; omega, by dsimp only; omega⟩ dL_law_1127 (fun rv h1 hp => ?_)
    obtain ⟨k, ad1, c1, L1, W1, fo1, rfl, hk, hR1, hO1, hx1, hB1, hA⟩ := hr_edits hO rfl hR hC hSi hB rv h1 hp
    refine x_istore C (ls' := [(0, .ref b), (1, .ref (ad 0 0)), (2, .ref (am 0 0)), (3, .ref ao), (4, vI ((i : Nat) : Int))] ++ [(5, vI k)]) dL_law_1130 (by decide) rfl ?_
    refine x_aload_n C dL_law_1132 2 rfl ?_
    refine x_aload_n C dL_law_1133 0 rfl ?_
    refine x_iload C dL_law_1134 4 rfl ?_
    refine x_iconst C dL_law_1136 1 (by decide) ?_
    refine x_iadd C dL_law_1137 ?_
    refine x_sld C xs0 ⟨by omega, by omega⟩ (by omega) dL_law_1138 ?_
    refine x_topv (show sc (Int.toNat (((i : Nat) : Int) + 1)) = p1 from hp1.symm) ?_
    refine x_aload_n C dL_law_1139 0 rfl ?_
    refine x_iload C dL_law_1140 4 rfl ?_
    refine x_iconst C dL_law_1142 2 (by decide) ?_
    refine x_iadd C dL_law_1143 ?_
    refine x_sld C xs0 ⟨by omega, by omega⟩ (by omega) dL_law_1144 ?_
    refine x_topv (show sc (Int.toNat (((i : Nat) : Int) + 2)) = p2 from hp2.symm) ?_
    refine x_if_eq (tgt := 1152) C dL_law_1145 (by decide) (by omega) (fun z0 => ?_) (fun z0 => ?_)
    · skip
      refine x_iconst C dL_law_1152 0 (by decide) ?_
      exfalso; omega
    · skip
      refine x_iconst C dL_law_1148 1 (by decide) ?_
      refine x_goto (tgt := 1153) C dL_law_1149 (by decide) ?_
      refine x_callV C (n := 2) (qc := (RX8, TX8, 38)) (As := [vI p1, vI 1]) (rest := []) (c_X8_edits hO1.1 (hSi.mk1 hC) (by omega) (by decide)) gL_law_X8_edits (by decide +kernel) (hO1.1.1 0 0 (lm0 (by decide))) rfl rfl rfl rfl (Nat.le_of_ble_eq_true rfl) ⟨by decide, by decide⟩ ⟨by dsimp only; omega, by dsimp only; omega⟩ dL_law_1153 (fun rv2 h2 hp2 => ?_)
      obtain ⟨r, m1, rfl, hM, hPR⟩ := hp2
      obtain ⟨a1, a2, a3, a4⟩ := hA r m1 hPR
      obtain ⟨hR2, hO2⟩ := hO1.mp hR1 hM
      refine x_istore C (ls' := [(0, .ref b), (1, .ref (ad 0 0)), (2, .ref (am 0 0)), (3, .ref ao), (4, vI ((i : Nat) : Int))] ++ [(5, vI k), (6, vI r)]) dL_law_1156 (by decide) rfl ?_
      refine x_aload_n C dL_law_1158 2 rfl ?_
      refine x_callV C (n := 0) (qc := (RX8, TX8, 38)) (As := []) (rest := []) (c_X8_thrown hO2.1) gL_law_X8_thrown (by decide +kernel) (hO2.1.1 0 0 (lm0 (by decide))) rfl rfl rfl rfl (Nat.le_of_ble_eq_true rfl) ⟨by decide, by decide⟩ ⟨by dsimp only; omega, by dsimp only; omega⟩ dL_law_1159 (fun rv3 h3 hp3 => ?_)
      obtain ⟨rfl, rfl⟩ := hp3
      refine x_topv (show m1 0 0 0 = k from a1) ?_
      refine x_iload C dL_law_1162 5 rfl ?_
      refine x_icmp_eq (tgt := 1169) C dL_law_1164 (by decide) (by omega) (by omega) (fun _ => ?_) (fun z1 => absurd rfl z1)
      refine x_iload C dL_law_1169 5 rfl ?_
      refine x_if_ne (tgt := 1186) C dL_law_1171 (by decide) (by omega) (fun z1 => ?_) (fun z1 => ?_)
      · refine x_goto (tgt := 2166) C dL_law_1186 (by decide) ?_
        refine x_sub [0, 1, 2, 3, 4] (ls' := [(0, .ref b), (1, .ref (ad 0 0)), (2, .ref (am 0 0)), (3, .ref ao), (4, vI ((i : Nat) : Int))]) rfl ?_
        refine x_widen (m1 := n1 + 500) (m2 := n2 + 3000) (by dsimp only; omega) (by dsimp only; omega) ?_
        exact K _ ⟨ad1, c1, L1, W1, am, m1, fo1, hR2, hO2, hx1, rfl, a4, a2, hB1⟩
      · refine x_aload_n C dL_law_1174 3 rfl ?_
        refine x_iconst C dL_law_1175 0 (by decide) ?_
        refine x_lald C hO2.2.1 ⟨by decide, by decide⟩ (by decide) dL_law_1176 ?_
        refine x_iload C dL_law_1177 6 rfl ?_
        refine x_i2l C dL_law_1179 ?_
        refine x_lcmp C dL_law_1180 (a3 (by omega)) ?_
        refine x_if_eq (tgt := 1186) C dL_law_1181 (by decide) (by omega) (fun _ => ?_) (fun z2 => absurd rfl z2)
        refine x_goto (tgt := 2166) C dL_law_1186 (by decide) ?_
        refine x_sub [0, 1, 2, 3, 4] (ls' := [(0, .ref b), (1, .ref (ad 0 0)), (2, .ref (am 0 0)), (3, .ref ao), (4, vI ((i : Nat) : Int))]) rfl ?_
        refine x_widen (m1 := n1 + 500) (m2 := n2 + 3000) (by dsimp only; omega) (by dsimp only; omega) ?_
        exact K _ ⟨ad1, c1, L1, W1, am, m1, fo1, hR2, hO2, hx1, rfl, a4, a2, hB1⟩

set_option maxRecDepth 100000 in
set_option maxHeartbeats 4000000 in
theorem lc_proof {κ : KX} {D : va_G} {A : Nat → Prop} {nm : String} (C : CX κ "LedgeLevelsLaw" nm cL_law wsL_law { frames := 12, cells := 601024, slots := 7293034, locals := 438 } D A 7) (kn : KN κ) {b x mm ao nS : Nat} {sc : Nat → Int} (xs0 : XS κ b nS sc) {h : vh} {t i n1 n2 : Nat} (hS : Sy D x mm ao h t) (ht : t < 512) (hi : i + 3 < nS) (hnS : nS ≤ 2048) (hsc : ∀ j, -2147483648 ≤ sc j ∧ sc j ≤ 2147483647) (hn : n1 + 500 ≤ 601024 ∧ n2 + 3000 ≤ 7293034) (K : ∀ h9, Sy D x mm ao h9 (t + 1) → X κ (n1 + 500) (n2 + 3000) h9 [(0, .ref b), (1, .ref x), (2, .ref mm), (3, .ref ao), (4, vI ((i : Nat) : Int))] 2166 []) : X κ n1 n2 h [(0, .ref b), (1, .ref x), (2, .ref mm), (3, .ref ao), (4, vI ((i : Nat) : Int))] 1189 [] := by
  obtain ⟨ad, c, L, W, am, m, fo, hR, hO, rfl, rfl, hC, hSi, hB⟩ := hS
  obtain ⟨p1, hp1⟩ : ∃ p9, p9 = sc (Int.toNat (((i : Nat) : Int) + 1)) := ⟨_, rfl⟩
  have hr1 : -2147483648 ≤ p1 ∧ p1 ≤ 2147483647 := by rw [hp1]; exact hsc _
  have hb3 := hB.2.2
  refine x_aload_n C dL_law_1189 1 rfl ?_
  refine x_aload_n C dL_law_1190 0 rfl ?_
  refine x_iload C dL_law_1191 4 rfl ?_
  refine x_iconst C dL_law_1193 1 (by decide) ?_
  refine x_iadd C dL_law_1194 ?_
  refine x_sld C xs0 ⟨by omega, by omega⟩ (by omega) dL_law_1195 ?_
  refine x_topv (show sc (Int.toNat (((i : Nat) : Int) + 1)) = p1 from hp1.symm) ?_
  refine x_aload_n C dL_law_1196 3 rfl ?_
  refine x_callSh C (n := 3) (As := [.ref (ad 0 0), vI p1, .ref ao]) (rest := []) (c_L_proof (ao := ao) (fo := fo) (c_X7_proof hR hC (by omega)) (hR.1 0 0 (lv0 (by decide))) (fun rv h9 hp => by obtain ⟨rfl, rfl, _⟩ := hp; exact ⟨_, rfl, hO.2.1⟩) (fun E h9 hx => by obtain ⟨_, hx⟩ := hx; rcases hx with ⟨rfl, q⟩ | ⟨rfl, q⟩ | ⟨rfl, q⟩ <;> first | exact q.elim | exact rfl | exact Or.inl rfl | exact Or.inr rfl | exact Or.inr (Or.inl rfl) | exact Or.inr (Or.inr rfl))) kn gL_law_L_proof (by decide +kernel) rfl rfl rfl (Nat.le_of_ble_eq_true rfl) ⟨by decide, by decide⟩ ⟨by dsimp only; omega, by dsimp only; omega⟩ dL_law_1197 (fun rv h1 hp => ?_)
  obtain ⟨k, ad1, c1, L1, W1, fo1, rfl, hk, hR1, hO1, hx1, hB1, hA⟩ := hr_proof hO rfl hR hC hSi hB rv h1 hp
  refine x_istore C (ls' := [(0, .ref b), (1, .ref (ad 0 0)), (2, .ref (am 0 0)), (3, .ref ao), (4, vI ((i : Nat) : Int))] ++ [(5, vI k)]) dL_law_1200 (by decide) rfl ?_
  refine x_aload_n C dL_law_1202 2 rfl ?_
  refine x_aload_n C dL_law_1203 0 rfl ?_
  refine x_iload C dL_law_1204 4 rfl ?_
  refine x_iconst C dL_law_1206 1 (by decide) ?_
  refine x_iadd C dL_law_1207 ?_
  refine x_sld C xs0 ⟨by omega, by omega⟩ (by omega) dL_law_1208 ?_
  refine x_topv (show sc (Int.toNat (((i : Nat) : Int) + 1)) = p1 from hp1.symm) ?_
  refine x_callV C (n := 1) (qc := (RX8, TX8, 38)) (As := [vI p1]) (rest := []) (c_X8_proof hO1.1 (hSi.mk1 hC) (by omega)) gL_law_X8_proof (by decide +kernel) (hO1.1.1 0 0 (lm0 (by decide))) rfl rfl rfl rfl (Nat.le_of_ble_eq_true rfl) ⟨by decide, by decide⟩ ⟨by dsimp only; omega, by dsimp only; omega⟩ dL_law_1209 (fun rv2 h2 hp2 => ?_)
  obtain ⟨r, m1, rfl, hM, hPR⟩ := hp2
  obtain ⟨a1, a2, a3, a4⟩ := hA r m1 hPR
  obtain ⟨hR2, hO2⟩ := hO1.mp hR1 hM
  refine x_istore C (ls' := [(0, .ref b), (1, .ref (ad 0 0)), (2, .ref (am 0 0)), (3, .ref ao), (4, vI ((i : Nat) : Int))] ++ [(5, vI k), (6, vI r)]) dL_law_1212 (by decide) rfl ?_
  refine x_aload_n C dL_law_1214 2 rfl ?_
  refine x_callV C (n := 0) (qc := (RX8, TX8, 38)) (As := []) (rest := []) (c_X8_thrown hO2.1) gL_law_X8_thrown (by decide +kernel) (hO2.1.1 0 0 (lm0 (by decide))) rfl rfl rfl rfl (Nat.le_of_ble_eq_true rfl) ⟨by decide, by decide⟩ ⟨by dsimp only; omega, by dsimp only; omega⟩ dL_law_1215 (fun rv3 h3 hp3 => ?_)
  obtain ⟨rfl, rfl⟩ := hp3
  refine x_topv (show m1 0 0 0 = k from a1) ?_
  refine x_iload C dL_law_1218 5 rfl ?_
  refine x_icmp_eq (tgt := 1225) C dL_law_1220 (by decide) (by omega) (by omega) (fun _ => ?_) (fun z1 => absurd rfl z1)
  refine x_iload C dL_law_1225 5 rfl ?_
  refine x_if_ne (tgt := 1242) C dL_law_1227 (by decide) (by omega) (fun z1 => ?_) (fun z1 => ?_)
  · refine x_goto (tgt := 2166) C dL_law_1242 (by decide) ?_
    refine x_sub [0, 1, 2, 3, 4] (ls' := [(0, .ref b), (1, .ref (ad 0 0)), (2, .ref (am 0 0)), (3, .ref ao), (4, vI ((i : Nat) : Int))]) rfl ?_
    refine x_widen (m1 := n1 + 500) (m2 := n2 + 3000) (by dsimp only; omega) (by dsimp only; omega) ?_
    exact K _ ⟨ad1, c1, L1, W1, am, m1, fo1, hR2, hO2, hx1, rfl, a4, a2, hB1⟩
  · refine x_aload_n C dL_law_1230 3 rfl ?_
    refine x_iconst C dL_law_1231 0 (by decide) ?_
    refine x_lald C hO2.2.1 ⟨by decide, by decide⟩ (by decide) dL_law_1232 ?_
    refine x_iload C dL_law_1233 6 rfl ?_
    refine x_i2l C dL_law_1235 ?_
    refine x_lcmp C dL_law_1236 (a3 (by omega)) ?_
    refine x_if_eq (tgt := 1242) C dL_law_1237 (by decide) (by omega) (fun _ => ?_) (fun z2 => absurd rfl z2)
    refine x_goto (tgt := 2166) C dL_law_1242 (by decide) ?_
    refine x_sub [0, 1, 2, 3, 4] (ls' := [(0, .ref b), (1, .ref (ad 0 0)), (2, .ref (am 0 0)), (3, .ref ao), (4, vI ((i : Nat) : Int))]) rfl ?_
    refine x_widen (m1 := n1 + 500) (m2 := n2 + 3000) (by dsimp only; omega) (by dsimp only; omega) ?_
    exact K _ ⟨ad1, c1, L1, W1, am, m1, fo1, hR2, hO2, hx1, rfl, a4, a2, hB1⟩

set_option maxRecDepth 100000 in
set_option maxHeartbeats 4000000 in
theorem lc_shortest {κ : KX} {D : va_G} {A : Nat → Prop} {nm : String} (C : CX κ "LedgeLevelsLaw" nm cL_law wsL_law { frames := 12, cells := 601024, slots := 7293034, locals := 438 } D A 7) (kn : KN κ) {b x mm ao nS : Nat} {sc : Nat → Int} (xs0 : XS κ b nS sc) {h : vh} {t i n1 n2 : Nat} (hS : Sy D x mm ao h t) (ht : t < 512) (hi : i + 3 < nS) (hnS : nS ≤ 2048) (hsc : ∀ j, -2147483648 ≤ sc j ∧ sc j ≤ 2147483647) (hn : n1 + 500 ≤ 601024 ∧ n2 + 3000 ≤ 7293034) (K : ∀ h9, Sy D x mm ao h9 (t + 1) → X κ (n1 + 500) (n2 + 3000) h9 [(0, .ref b), (1, .ref x), (2, .ref mm), (3, .ref ao), (4, vI ((i : Nat) : Int))] 2166 []) : X κ n1 n2 h [(0, .ref b), (1, .ref x), (2, .ref mm), (3, .ref ao), (4, vI ((i : Nat) : Int))] 1245 [] := by
  obtain ⟨ad, c, L, W, am, m, fo, hR, hO, rfl, rfl, hC, hSi, hB⟩ := hS
  obtain ⟨p1, hp1⟩ : ∃ p9, p9 = sc (Int.toNat (((i : Nat) : Int) + 1)) := ⟨_, rfl⟩
  have hr1 : -2147483648 ≤ p1 ∧ p1 ≤ 2147483647 := by rw [hp1]; exact hsc _
  obtain ⟨p2, hp2⟩ : ∃ p9, p9 = sc (Int.toNat (((i : Nat) : Int) + 2)) := ⟨_, rfl⟩
  have hr2 : -2147483648 ≤ p2 ∧ p2 ≤ 2147483647 := by rw [hp2]; exact hsc _
  have hb3 := hB.2.2
  refine x_aload_n C dL_law_1245 1 rfl ?_
  refine x_aload_n C dL_law_1246 0 rfl ?_
  refine x_iload C dL_law_1247 4 rfl ?_
  refine x_iconst C dL_law_1249 1 (by decide) ?_
  refine x_iadd C dL_law_1250 ?_
  refine x_sld C xs0 ⟨by omega, by omega⟩ (by omega) dL_law_1251 ?_
  refine x_topv (show sc (Int.toNat (((i : Nat) : Int) + 1)) = p1 from hp1.symm) ?_
  refine x_aload_n C dL_law_1252 0 rfl ?_
  refine x_iload C dL_law_1253 4 rfl ?_
  refine x_iconst C dL_law_1255 2 (by decide) ?_
  refine x_iadd C dL_law_1256 ?_
  refine x_sld C xs0 ⟨by omega, by omega⟩ (by omega) dL_law_1257 ?_
  refine x_topv (show sc (Int.toNat (((i : Nat) : Int) + 2)) = p2 from hp2.symm) ?_
  refine x_aload_n C dL_law_1258 3 rfl ?_
  refine x_callSh C (n := 4) (As := [.ref (ad 0 0), vI p1, vI p2, .ref ao]) (rest := []) (c_L_shortest (ao := ao) (fo := fo) (c_X7_shortest hR hC (hB.oks (by omega)) (by omega) (by omega)) (hR.1 0 0 (lv0 (by decide))) (fun rv h9 hp => by obtain ⟨y0, y1, rfl, hcp, _⟩ := hp; exact ⟨_, rfl, (hO.fr hcp.2).2.1⟩) (fun E h9 hx => by obtain ⟨_, hx⟩ := hx; rcases hx with ⟨rfl, q⟩ | ⟨rfl, q⟩ | ⟨rfl, q⟩ <;> first | exact q.elim | exact rfl | exact Or.inl rfl | exact Or.inr rfl | exact Or.inr (Or.inl rfl) | exact Or.inr (Or.inr rfl))) kn gL_law_L_shortest (by decide +kernel) rfl rfl rfl (Nat.le_of_ble_eq_true rfl) ⟨by decide, by decide⟩ ⟨by dsimp only; omega, by dsimp only; omega⟩ dL_law_1259 (fun rv h1 hp => ?_)
  obtain ⟨k, ad1, c1, L1, W1, fo1, rfl, hk, hR1, hO1, hx1, hB1, hA⟩ := hr_shortest hO rfl hR hC hSi hB rv h1 hp
  refine x_istore C (ls' := [(0, .ref b), (1, .ref (ad 0 0)), (2, .ref (am 0 0)), (3, .ref ao), (4, vI ((i : Nat) : Int))] ++ [(5, vI k)]) dL_law_1262 (by decide) rfl ?_
  refine x_aload_n C dL_law_1264 2 rfl ?_
  refine x_aload_n C dL_law_1265 0 rfl ?_
  refine x_iload C dL_law_1266 4 rfl ?_
  refine x_iconst C dL_law_1268 1 (by decide) ?_
  refine x_iadd C dL_law_1269 ?_
  refine x_sld C xs0 ⟨by omega, by omega⟩ (by omega) dL_law_1270 ?_
  refine x_topv (show sc (Int.toNat (((i : Nat) : Int) + 1)) = p1 from hp1.symm) ?_
  refine x_aload_n C dL_law_1271 0 rfl ?_
  refine x_iload C dL_law_1272 4 rfl ?_
  refine x_iconst C dL_law_1274 2 (by decide) ?_
  refine x_iadd C dL_law_1275 ?_
  refine x_sld C xs0 ⟨by omega, by omega⟩ (by omega) dL_law_1276 ?_
  refine x_topv (show sc (Int.toNat (((i : Nat) : Int) + 2)) = p2 from hp2.symm) ?_
  refine x_callV C (n := 2) (qc := (RX8, TX8, 38)) (As := [vI p1, vI p2]) (rest := []) (c_X8_shortest hO1.1 (hSi.mk1 hC) (by omega) (by omega) (hSi.g4 hC) hSi.ke hSi.gk (hSi.ss hC) (hSi.bg hC)) gL_law_X8_shortest (by decide +kernel) (hO1.1.1 0 0 (lm0 (by decide))) rfl rfl rfl rfl (Nat.le_of_ble_eq_true rfl) ⟨by decide, by decide⟩ ⟨by dsimp only; omega, by dsimp only; omega⟩ dL_law_1277 (fun rv2 h2 hp2 => ?_)
  obtain ⟨r, m1, rfl, hM, hPR⟩ := hp2
  obtain ⟨a1, a2, a3, a4⟩ := hA r m1 hPR
  obtain ⟨hR2, hO2⟩ := hO1.mp hR1 hM
  refine x_istore C (ls' := [(0, .ref b), (1, .ref (ad 0 0)), (2, .ref (am 0 0)), (3, .ref ao), (4, vI ((i : Nat) : Int))] ++ [(5, vI k), (6, vI r)]) dL_law_1280 (by decide) rfl ?_
  refine x_aload_n C dL_law_1282 2 rfl ?_
  refine x_callV C (n := 0) (qc := (RX8, TX8, 38)) (As := []) (rest := []) (c_X8_thrown hO2.1) gL_law_X8_thrown (by decide +kernel) (hO2.1.1 0 0 (lm0 (by decide))) rfl rfl rfl rfl (Nat.le_of_ble_eq_true rfl) ⟨by decide, by decide⟩ ⟨by dsimp only; omega, by dsimp only; omega⟩ dL_law_1283 (fun rv3 h3 hp3 => ?_)
  obtain ⟨rfl, rfl⟩ := hp3
  refine x_topv (show m1 0 0 0 = k from a1) ?_
  refine x_iload C dL_law_1286 5 rfl ?_
  refine x_icmp_eq (tgt := 1293) C dL_law_1288 (by decide) (by omega) (by omega) (fun _ => ?_) (fun z1 => absurd rfl z1)
  refine x_iload C dL_law_1293 5 rfl ?_
  refine x_if_ne (tgt := 1310) C dL_law_1295 (by decide) (by omega) (fun z1 => ?_) (fun z1 => ?_)
  · refine x_goto (tgt := 2166) C dL_law_1310 (by decide) ?_
    refine x_sub [0, 1, 2, 3, 4] (ls' := [(0, .ref b), (1, .ref (ad 0 0)), (2, .ref (am 0 0)), (3, .ref ao), (4, vI ((i : Nat) : Int))]) rfl ?_
    refine x_widen (m1 := n1 + 500) (m2 := n2 + 3000) (by dsimp only; omega) (by dsimp only; omega) ?_
    exact K _ ⟨ad1, c1, L1, W1, am, m1, fo1, hR2, hO2, hx1, rfl, a4, a2, hB1⟩
  · refine x_aload_n C dL_law_1298 3 rfl ?_
    refine x_iconst C dL_law_1299 0 (by decide) ?_
    refine x_lald C hO2.2.1 ⟨by decide, by decide⟩ (by decide) dL_law_1300 ?_
    refine x_iload C dL_law_1301 6 rfl ?_
    refine x_i2l C dL_law_1303 ?_
    refine x_lcmp C dL_law_1304 (a3 (by omega)) ?_
    refine x_if_eq (tgt := 1310) C dL_law_1305 (by decide) (by omega) (fun _ => ?_) (fun z2 => absurd rfl z2)
    refine x_goto (tgt := 2166) C dL_law_1310 (by decide) ?_
    refine x_sub [0, 1, 2, 3, 4] (ls' := [(0, .ref b), (1, .ref (ad 0 0)), (2, .ref (am 0 0)), (3, .ref ao), (4, vI ((i : Nat) : Int))]) rfl ?_
    refine x_widen (m1 := n1 + 500) (m2 := n2 + 3000) (by dsimp only; omega) (by dsimp only; omega) ?_
    exact K _ ⟨ad1, c1, L1, W1, am, m1, fo1, hR2, hO2, hx1, rfl, a4, a2, hB1⟩

