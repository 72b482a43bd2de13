theorem kw874 : Cond.instanceMethod yX8_truncateInput ∈ lwX := kw 874 (by decide +kernel) (by decide +kernel)
theorem kw875 : Cond.selects RX8 yX8_truncateInput yX8_truncateInput ∈ lwX := kw 875 (by decide +kernel) (by decide +kernel)
theorem kw876 : Cond.code yX8_truncateInput cX8_truncateInput 2 (some .int) ∈ lwX := kw 876 (by decide +kernel) (by decide +kernel)
theorem kw873 : Cond.methodLink RL 7 yX8_truncateInput ∈ lwX := kw 873 (by decide +kernel) (by decide +kernel)
theorem kw872 : Cond.classLink RL 13 "java/lang/IllegalArgumentException" ∈ lwX := kw 872 (by decide +kernel) (by decide +kernel)
theorem kw870 : Cond.static yL_truncateInput ∈ lwX := kw 870 (by decide +kernel) (by decide +kernel)
theorem kw115 : Cond.initialized RL ∈ lwX := kw 115 (by decide +kernel) (by decide +kernel)
theorem kw871 : Cond.codeWith yL_truncateInput cL_truncateInput 4 (some .int) [(0, 9, 12, 13)] ∈ lwX := kw 871 (by decide +kernel) (by decide +kernel)
theorem kw950 : Cond.instanceMethod yX8_addChimney ∈ lwX := kw 950 (by decide +kernel) (by decide +kernel)
theorem kw951 : Cond.selects RX8 yX8_addChimney yX8_addChimney ∈ lwX := kw 951 (by decide +kernel) (by decide +kernel)
theorem kw952 : Cond.code yX8_addChimney cX8_addChimney 2 (some .int) ∈ lwX := kw 952 (by decide +kernel) (by decide +kernel)
theorem kw949 : Cond.methodLink RL 15 yX8_addChimney ∈ lwX := kw 949 (by decide +kernel) (by decide +kernel)
theorem kw948 : Cond.classLink RL 18 "java/lang/IllegalStateException" ∈ lwX := kw 948 (by decide +kernel) (by decide +kernel)
theorem kw946 : Cond.static yL_addChimney ∈ lwX := kw 946 (by decide +kernel) (by decide +kernel)
theorem kw947 : Cond.codeWith yL_addChimney cL_addChimney 4 (some .int) [(0, 9, 12, 13), (0, 9, 15, 18)] ∈ lwX := kw 947 (by decide +kernel) (by decide +kernel)
theorem kw983 : Cond.instanceMethod yX8_addGutter ∈ lwX := kw 983 (by decide +kernel) (by decide +kernel)
theorem kw984 : Cond.selects RX8 yX8_addGutter yX8_addGutter ∈ lwX := kw 984 (by decide +kernel) (by decide +kernel)
theorem kw985 : Cond.code yX8_addGutter cX8_addGutter 4 (some .int) ∈ lwX := kw 985 (by decide +kernel) (by decide +kernel)
theorem kw982 : Cond.methodLink RL 20 yX8_addGutter ∈ lwX := kw 982 (by decide +kernel) (by decide +kernel)
theorem kw981 : Cond.classLink RL 24 "java/lang/IndexOutOfBoundsException" ∈ lwX := kw 981 (by decide +kernel) (by decide +kernel)
theorem kw979 : Cond.static yL_addGutter ∈ lwX := kw 979 (by decide +kernel) (by decide +kernel)
theorem kw980 : Cond.codeWith yL_addGutter cL_addGutter 6 (some .int) [(0, 12, 15, 24), (0, 12, 19, 13), (0, 12, 23, 18)] ∈ lwX := kw 980 (by decide +kernel) (by decide +kernel)
theorem kw1016 : Cond.instanceMethod yX8_addCat ∈ lwX := kw 1016 (by decide +kernel) (by decide +kernel)
theorem kw1017 : Cond.selects RX8 yX8_addCat yX8_addCat ∈ lwX := kw 1017 (by decide +kernel) (by decide +kernel)
theorem kw1018 : Cond.code yX8_addCat cX8_addCat 4 (some .int) ∈ lwX := kw 1018 (by decide +kernel) (by decide +kernel)
theorem kw1015 : Cond.methodLink RL 26 yX8_addCat ∈ lwX := kw 1015 (by decide +kernel) (by decide +kernel)
theorem kw1013 : Cond.static yL_addCat ∈ lwX := kw 1013 (by decide +kernel) (by decide +kernel)
theorem kw1014 : Cond.codeWith yL_addCat cL_addCat 6 (some .int) [(0, 12, 15, 24), (0, 12, 19, 13), (0, 12, 23, 18)] ∈ lwX := kw 1014 (by decide +kernel) (by decide +kernel)
theorem kw1024 : Cond.instanceMethod yX8_step ∈ lwX := kw 1024 (by decide +kernel) (by decide +kernel)
theorem kw1025 : Cond.selects RX8 yX8_step yX8_step ∈ lwX := kw 1025 (by decide +kernel) (by decide +kernel)
theorem kw1026 : Cond.code yX8_step cX8_step 3 (some .int) ∈ lwX := kw 1026 (by decide +kernel) (by decide +kernel)
theorem kw1023 : Cond.methodLink RL 29 yX8_step ∈ lwX := kw 1023 (by decide +kernel) (by decide +kernel)
theorem kw1021 : Cond.static yL_step ∈ lwX := kw 1021 (by decide +kernel) (by decide +kernel)
theorem kw1022 : Cond.codeWith yL_step cL_step 5 (some .int) [(0, 10, 13, 24), (0, 10, 17, 18)] ∈ lwX := kw 1022 (by decide +kernel) (by decide +kernel)
theorem kw1045 : Cond.instanceMethod yX8_claim ∈ lwX := kw 1045 (by decide +kernel) (by decide +kernel)
theorem kw1046 : Cond.selects RX8 yX8_claim yX8_claim ∈ lwX := kw 1046 (by decide +kernel) (by decide +kernel)
theorem kw1047 : Cond.code yX8_claim cX8_claim 2 (some .int) ∈ lwX := kw 1047 (by decide +kernel) (by decide +kernel)
theorem kw1044 : Cond.methodLink RL 33 yX8_claim ∈ lwX := kw 1044 (by decide +kernel) (by decide +kernel)
theorem kw1042 : Cond.static yL_claim ∈ lwX := kw 1042 (by decide +kernel) (by decide +kernel)
theorem kw1043 : Cond.codeWith yL_claim cL_claim 4 (some .int) [(0, 9, 12, 24), (0, 9, 15, 18)] ∈ lwX := kw 1043 (by decide +kernel) (by decide +kernel)
theorem kw1053 : Cond.instanceMethod yX8_abandon ∈ lwX := kw 1053 (by decide +kernel) (by decide +kernel)
theorem kw1054 : Cond.selects RX8 yX8_abandon yX8_abandon ∈ lwX := kw 1054 (by decide +kernel) (by decide +kernel)
theorem kw1055 : Cond.code yX8_abandon cX8_abandon 2 (some .int) ∈ lwX := kw 1055 (by decide +kernel) (by decide +kernel)
theorem kw1052 : Cond.methodLink RL 36 yX8_abandon ∈ lwX := kw 1052 (by decide +kernel) (by decide +kernel)
theorem kw1050 : Cond.static yL_abandon ∈ lwX := kw 1050 (by decide +kernel) (by decide +kernel)
theorem kw1051 : Cond.codeWith yL_abandon cL_abandon 4 (some .int) [(0, 9, 12, 24), (0, 9, 15, 18)] ∈ lwX := kw 1051 (by decide +kernel) (by decide +kernel)
theorem kw1061 : Cond.instanceMethod yX8_chase ∈ lwX := kw 1061 (by decide +kernel) (by decide +kernel)
theorem kw1062 : Cond.selects RX8 yX8_chase yX8_chase ∈ lwX := kw 1062 (by decide +kernel) (by decide +kernel)
theorem kw1063 : Cond.code yX8_chase cX8_chase 3 (some .boolean) ∈ lwX := kw 1063 (by decide +kernel) (by decide +kernel)
theorem kw1060 : Cond.methodLink RL 39 yX8_chase ∈ lwX := kw 1060 (by decide +kernel) (by decide +kernel)
theorem kw1058 : Cond.static yL_chase ∈ lwX := kw 1058 (by decide +kernel) (by decide +kernel)
theorem kw1059 : Cond.codeWith yL_chase cL_chase 5 (some .int) [(0, 17, 20, 24), (0, 17, 24, 13), (0, 17, 28, 18)] ∈ lwX := kw 1059 (by decide +kernel) (by decide +kernel)
theorem kw1070 : Cond.instanceMethod yX8_buyTruce ∈ lwX := kw 1070 (by decide +kernel) (by decide +kernel)
theorem kw1071 : Cond.selects RX8 yX8_buyTruce yX8_buyTruce ∈ lwX := kw 1071 (by decide +kernel) (by decide +kernel)
theorem kw1072 : Cond.code yX8_buyTruce cX8_buyTruce 5 (some .int) ∈ lwX := kw 1072 (by decide +kernel) (by decide +kernel)
theorem kw1069 : Cond.methodLink RL 43 yX8_buyTruce ∈ lwX := kw 1069 (by decide +kernel) (by decide +kernel)
theorem kw1067 : Cond.static yL_buyTruce ∈ lwX := kw 1067 (by decide +kernel) (by decide +kernel)
theorem kw1068 : Cond.codeWith yL_buyTruce cL_buyTruce 7 (some .int) [(0, 14, 17, 24), (0, 14, 21, 13), (0, 14, 25, 18)] ∈ lwX := kw 1068 (by decide +kernel) (by decide +kernel)
theorem kw1078 : Cond.instanceMethod yX8_nominate ∈ lwX := kw 1078 (by decide +kernel) (by decide +kernel)
theorem kw1079 : Cond.selects RX8 yX8_nominate yX8_nominate ∈ lwX := kw 1079 (by decide +kernel) (by decide +kernel)
theorem kw1080 : Cond.code yX8_nominate cX8_nominate 3 (some .int) ∈ lwX := kw 1080 (by decide +kernel) (by decide +kernel)
theorem kw1077 : Cond.methodLink RL 47 yX8_nominate ∈ lwX := kw 1077 (by decide +kernel) (by decide +kernel)
theorem kw1075 : Cond.static yL_nominate ∈ lwX := kw 1075 (by decide +kernel) (by decide +kernel)
theorem kw1076 : Cond.codeWith yL_nominate cL_nominate 5 (some .int) [(0, 10, 13, 13), (0, 10, 17, 18)] ∈ lwX := kw 1076 (by decide +kernel) (by decide +kernel)
theorem kw1087 : Cond.instanceMethod yX8_vote ∈ lwX := kw 1087 (by decide +kernel) (by decide +kernel)
theorem kw1088 : Cond.selects RX8 yX8_vote yX8_vote ∈ lwX := kw 1088 (by decide +kernel) (by decide +kernel)
theorem kw1089 : Cond.code yX8_vote cX8_vote 3 (some .boolean) ∈ lwX := kw 1089 (by decide +kernel) (by decide +kernel)
theorem kw1086 : Cond.methodLink RL 50 yX8_vote ∈ lwX := kw 1086 (by decide +kernel) (by decide +kernel)
theorem kw1084 : Cond.static yL_vote ∈ lwX := kw 1084 (by decide +kernel) (by decide +kernel)
theorem kw1085 : Cond.codeWith yL_vote cL_vote 5 (some .int) [(0, 17, 20, 24), (0, 17, 24, 18)] ∈ lwX := kw 1085 (by decide +kernel) (by decide +kernel)
theorem kw1096 : Cond.instanceMethod yX8_passNights ∈ lwX := kw 1096 (by decide +kernel) (by decide +kernel)
theorem kw1097 : Cond.selects RX8 yX8_passNights yX8_passNights ∈ lwX := kw 1097 (by decide +kernel) (by decide +kernel)
theorem kw1098 : Cond.code yX8_passNights cX8_passNights 2 (some .int) ∈ lwX := kw 1098 (by decide +kernel) (by decide +kernel)
theorem kw1095 : Cond.methodLink RL 54 yX8_passNights ∈ lwX := kw 1095 (by decide +kernel) (by decide +kernel)
theorem kw1093 : Cond.static yL_passNights ∈ lwX := kw 1093 (by decide +kernel) (by decide +kernel)
theorem kw1094 : Cond.codeWith yL_passNights cL_passNights 4 (some .int) [(0, 9, 12, 13), (0, 9, 15, 18)] ∈ lwX := kw 1094 (by decide +kernel) (by decide +kernel)
theorem kw1105 : Cond.instanceMethod yX8_restoreSnapshot ∈ lwX := kw 1105 (by decide +kernel) (by decide +kernel)
theorem kw1106 : Cond.selects RX8 yX8_restoreSnapshot yX8_restoreSnapshot ∈ lwX := kw 1106 (by decide +kernel) (by decide +kernel)
theorem kw1107 : Cond.code yX8_restoreSnapshot cX8_restoreSnapshot 1 (some .int) ∈ lwX := kw 1107 (by decide +kernel) (by decide +kernel)
theorem kw1104 : Cond.methodLink RL 57 yX8_restoreSnapshot ∈ lwX := kw 1104 (by decide +kernel) (by decide +kernel)
theorem kw1103 : Cond.classLink RL 61 "java/util/NoSuchElementException" ∈ lwX := kw 1103 (by decide +kernel) (by decide +kernel)
theorem kw1101 : Cond.static yL_restoreSnapshot ∈ lwX := kw 1101 (by decide +kernel) (by decide +kernel)
theorem kw1102 : Cond.codeWith yL_restoreSnapshot cL_restoreSnapshot 3 (some .int) [(0, 8, 11, 61)] ∈ lwX := kw 1102 (by decide +kernel) (by decide +kernel)
theorem kw1132 : Cond.instanceMethod yX8_warmth ∈ lwX := kw 1132 (by decide +kernel) (by decide +kernel)
theorem kw1133 : Cond.selects RX8 yX8_warmth yX8_warmth ∈ lwX := kw 1133 (by decide +kernel) (by decide +kernel)
theorem kw1134 : Cond.code yX8_warmth cX8_warmth 2 (some .int) ∈ lwX := kw 1134 (by decide +kernel) (by decide +kernel)
theorem kw1131 : Cond.methodLink RL 63 yX8_warmth ∈ lwX := kw 1131 (by decide +kernel) (by decide +kernel)
theorem kw1129 : Cond.static yL_warmth ∈ lwX := kw 1129 (by decide +kernel) (by decide +kernel)
theorem kw1130 : Cond.codeWith yL_warmth cL_warmth 4 (some .int) [(0, 9, 12, 24)] ∈ lwX := kw 1130 (by decide +kernel) (by decide +kernel)
theorem kw1139 : Cond.instanceMethod yX8_ownerOf ∈ lwX := kw 1139 (by decide +kernel) (by decide +kernel)
theorem kw1140 : Cond.selects RX8 yX8_ownerOf yX8_ownerOf ∈ lwX := kw 1140 (by decide +kernel) (by decide +kernel)
theorem kw1141 : Cond.code yX8_ownerOf cX8_ownerOf 2 (some .int) ∈ lwX := kw 1141 (by decide +kernel) (by decide +kernel)
theorem kw1138 : Cond.methodLink RL 66 yX8_ownerOf ∈ lwX := kw 1138 (by decide +kernel) (by decide +kernel)
theorem kw1136 : Cond.static yL_ownerOf ∈ lwX := kw 1136 (by decide +kernel) (by decide +kernel)
theorem kw1137 : Cond.codeWith yL_ownerOf cL_ownerOf 4 (some .int) [(0, 9, 12, 24)] ∈ lwX := kw 1137 (by decide +kernel) (by decide +kernel)
theorem kw1146 : Cond.instanceMethod yX8_catOn ∈ lwX := kw 1146 (by decide +kernel) (by decide +kernel)
theorem kw1147 : Cond.selects RX8 yX8_catOn yX8_catOn ∈ lwX := kw 1147 (by decide +kernel) (by decide +kernel)
theorem kw1148 : Cond.code yX8_catOn cX8_catOn 2 (some .int) ∈ lwX := kw 1148 (by decide +kernel) (by decide +kernel)
theorem kw1145 : Cond.methodLink RL 69 yX8_catOn ∈ lwX := kw 1145 (by decide +kernel) (by decide +kernel)
theorem kw1143 : Cond.static yL_catOn ∈ lwX := kw 1143 (by decide +kernel) (by decide +kernel)
theorem kw1144 : Cond.codeWith yL_catOn cL_catOn 4 (some .int) [(0, 9, 12, 24)] ∈ lwX := kw 1144 (by decide +kernel) (by decide +kernel)
theorem kw1154 : Cond.instanceMethod yX8_gutterEnds ∈ lwX := kw 1154 (by decide +kernel) (by decide +kernel)
theorem kw1155 : Cond.selects RX8 yX8_gutterEnds yX8_gutterEnds ∈ lwX := kw 1155 (by decide +kernel) (by decide +kernel)
theorem kw1156 : Cond.code yX8_gutterEnds cX8_gutterEnds 2 (some .int) ∈ lwX := kw 1156 (by decide +kernel) (by decide +kernel)
theorem kw1153 : Cond.methodLink RL 72 yX8_gutterEnds ∈ lwX := kw 1153 (by decide +kernel) (by decide +kernel)
theorem kw1151 : Cond.static yL_gutterEnds ∈ lwX := kw 1151 (by decide +kernel) (by decide +kernel)
theorem kw1152 : Cond.codeWith yL_gutterEnds cL_gutterEnds 4 (some .int) [(0, 9, 12, 24)] ∈ lwX := kw 1152 (by decide +kernel) (by decide +kernel)
theorem kw1161 : Cond.instanceMethod yX8_width ∈ lwX := kw 1161 (by decide +kernel) (by decide +kernel)
theorem kw1162 : Cond.selects RX8 yX8_width yX8_width ∈ lwX := kw 1162 (by decide +kernel) (by decide +kernel)
theorem kw1163 : Cond.code yX8_width cX8_width 2 (some .int) ∈ lwX := kw 1163 (by decide +kernel) (by decide +kernel)
theorem kw1160 : Cond.methodLink RL 75 yX8_width ∈ lwX := kw 1160 (by decide +kernel) (by decide +kernel)
theorem kw1158 : Cond.static yL_width ∈ lwX := kw 1158 (by decide +kernel) (by decide +kernel)
theorem kw1159 : Cond.codeWith yL_width cL_width 4 (some .int) [(0, 9, 12, 24)] ∈ lwX := kw 1159 (by decide +kernel) (by decide +kernel)
theorem kw1168 : Cond.instanceMethod yX8_widestWay ∈ lwX := kw 1168 (by decide +kernel) (by decide +kernel)
theorem kw1169 : Cond.selects RX8 yX8_widestWay yX8_widestWay ∈ lwX := kw 1169 (by decide +kernel) (by decide +kernel)
theorem kw1170 : Cond.code yX8_widestWay cX8_widestWay 3 (some .int) ∈ lwX := kw 1170 (by decide +kernel) (by decide +kernel)
theorem kw1167 : Cond.methodLink RL 78 yX8_widestWay ∈ lwX := kw 1167 (by decide +kernel) (by decide +kernel)
theorem kw1165 : Cond.static yL_widestWay ∈ lwX := kw 1165 (by decide +kernel) (by decide +kernel)
theorem kw1166 : Cond.codeWith yL_widestWay cL_widestWay 5 (some .int) [(0, 10, 13, 24)] ∈ lwX := kw 1166 (by decide +kernel) (by decide +kernel)
theorem kw1179 : Cond.instanceMethod yX8_girth ∈ lwX := kw 1179 (by decide +kernel) (by decide +kernel)
theorem kw1180 : Cond.selects RX8 yX8_girth yX8_girth ∈ lwX := kw 1180 (by decide +kernel) (by decide +kernel)
theorem kw1181 : Cond.code yX8_girth cX8_girth 2 (some .int) ∈ lwX := kw 1181 (by decide +kernel) (by decide +kernel)
theorem kw1178 : Cond.methodLink RL 81 yX8_girth ∈ lwX := kw 1178 (by decide +kernel) (by decide +kernel)
theorem kw1176 : Cond.static yL_girth ∈ lwX := kw 1176 (by decide +kernel) (by decide +kernel)
theorem kw1177 : Cond.codeWith yL_girth cL_girth 4 (some .int) [(0, 9, 12, 24)] ∈ lwX := kw 1177 (by decide +kernel) (by decide +kernel)
theorem kw1186 : Cond.instanceMethod yX8_power ∈ lwX := kw 1186 (by decide +kernel) (by decide +kernel)
theorem kw1187 : Cond.selects RX8 yX8_power yX8_power ∈ lwX := kw 1187 (by decide +kernel) (by decide +kernel)
theorem kw1188 : Cond.code yX8_power cX8_power 2 (some .int) ∈ lwX := kw 1188 (by decide +kernel) (by decide +kernel)
theorem kw1185 : Cond.methodLink RL 84 yX8_power ∈ lwX := kw 1185 (by decide +kernel) (by decide +kernel)
theorem kw1183 : Cond.static yL_power ∈ lwX := kw 1183 (by decide +kernel) (by decide +kernel)
theorem kw1184 : Cond.codeWith yL_power cL_power 4 (some .int) [(0, 9, 12, 24)] ∈ lwX := kw 1184 (by decide +kernel) (by decide +kernel)
theorem kw1194 : Cond.instanceMethod yX8_fish ∈ lwX := kw 1194 (by decide +kernel) (by decide +kernel)
theorem kw1195 : Cond.selects RX8 yX8_fish yX8_fish ∈ lwX := kw 1195 (by decide +kernel) (by decide +kernel)
theorem kw1196 : Cond.code yX8_fish cX8_fish 2 (some .int) ∈ lwX := kw 1196 (by decide +kernel) (by decide +kernel)
theorem kw1193 : Cond.methodLink RL 87 yX8_fish ∈ lwX := kw 1193 (by decide +kernel) (by decide +kernel)
theorem kw1191 : Cond.static yL_fish ∈ lwX := kw 1191 (by decide +kernel) (by decide +kernel)
theorem kw1192 : Cond.codeWith yL_fish cL_fish 4 (some .int) [(0, 9, 12, 24)] ∈ lwX := kw 1192 (by decide +kernel) (by decide +kernel)
theorem kw1201 : Cond.instanceMethod yX8_chimneyOf ∈ lwX := kw 1201 (by decide +kernel) (by decide +kernel)
theorem kw1202 : Cond.selects RX8 yX8_chimneyOf yX8_chimneyOf ∈ lwX := kw 1202 (by decide +kernel) (by decide +kernel)
theorem kw1203 : Cond.code yX8_chimneyOf cX8_chimneyOf 2 (some .int) ∈ lwX := kw 1203 (by decide +kernel) (by decide +kernel)
theorem kw1200 : Cond.methodLink RL 90 yX8_chimneyOf ∈ lwX := kw 1200 (by decide +kernel) (by decide +kernel)
theorem kw1198 : Cond.static yL_chimneyOf ∈ lwX := kw 1198 (by decide +kernel) (by decide +kernel)
theorem kw1199 : Cond.codeWith yL_chimneyOf cL_chimneyOf 4 (some .int) [(0, 9, 12, 24)] ∈ lwX := kw 1199 (by decide +kernel) (by decide +kernel)
theorem kw1208 : Cond.instanceMethod yX8_ownedChimneys ∈ lwX := kw 1208 (by decide +kernel) (by decide +kernel)
theorem kw1209 : Cond.selects RX8 yX8_ownedChimneys yX8_ownedChimneys ∈ lwX := kw 1209 (by decide +kernel) (by decide +kernel)
theorem kw1210 : Cond.code yX8_ownedChimneys cX8_ownedChimneys 2 (some .int) ∈ lwX := kw 1210 (by decide +kernel) (by decide +kernel)
theorem kw1207 : Cond.methodLink RL 93 yX8_ownedChimneys ∈ lwX := kw 1207 (by decide +kernel) (by decide +kernel)
theorem kw1205 : Cond.static yL_ownedChimneys ∈ lwX := kw 1205 (by decide +kernel) (by decide +kernel)
theorem kw1206 : Cond.codeWith yL_ownedChimneys cL_ownedChimneys 4 (some .int) [(0, 9, 12, 24)] ∈ lwX := kw 1206 (by decide +kernel) (by decide +kernel)
theorem kw1216 : Cond.instanceMethod yX8_truceNights ∈ lwX := kw 1216 (by decide +kernel) (by decide +kernel)
theorem kw1217 : Cond.selects RX8 yX8_truceNights yX8_truceNights ∈ lwX := kw 1217 (by decide +kernel) (by decide +kernel)
theorem kw1218 : Cond.code yX8_truceNights cX8_truceNights 3 (some .int) ∈ lwX := kw 1218 (by decide +kernel) (by decide +kernel)
theorem kw1215 : Cond.methodLink RL 96 yX8_truceNights ∈ lwX := kw 1215 (by decide +kernel) (by decide +kernel)
theorem kw1213 : Cond.static yL_truceNights ∈ lwX := kw 1213 (by decide +kernel) (by decide +kernel)
theorem kw1214 : Cond.codeWith yL_truceNights cL_truceNights 5 (some .int) [(0, 10, 13, 24), (0, 10, 17, 13)] ∈ lwX := kw 1214 (by decide +kernel) (by decide +kernel)
theorem kw1224 : Cond.instanceMethod yX8_reachable ∈ lwX := kw 1224 (by decide +kernel) (by decide +kernel)
theorem kw1225 : Cond.selects RX8 yX8_reachable yX8_reachable ∈ lwX := kw 1225 (by decide +kernel) (by decide +kernel)
theorem kw1226 : Cond.code yX8_reachable cX8_reachable 2 (some .int) ∈ lwX := kw 1226 (by decide +kernel) (by decide +kernel)
theorem kw1223 : Cond.methodLink RL 99 yX8_reachable ∈ lwX := kw 1223 (by decide +kernel) (by decide +kernel)
theorem kw1221 : Cond.static yL_reachable ∈ lwX := kw 1221 (by decide +kernel) (by decide +kernel)
theorem kw1222 : Cond.codeWith yL_reachable cL_reachable 4 (some .int) [(0, 9, 12, 24)] ∈ lwX := kw 1222 (by decide +kernel) (by decide +kernel)
theorem kw1235 : Cond.instanceMethod yX8_stepsTo ∈ lwX := kw 1235 (by decide +kernel) (by decide +kernel)
theorem kw1236 : Cond.selects RX8 yX8_stepsTo yX8_stepsTo ∈ lwX := kw 1236 (by decide +kernel) (by decide +kernel)
theorem kw1237 : Cond.code yX8_stepsTo cX8_stepsTo 3 (some .int) ∈ lwX := kw 1237 (by decide +kernel) (by decide +kernel)
theorem kw1234 : Cond.methodLink RL 102 yX8_stepsTo ∈ lwX := kw 1234 (by decide +kernel) (by decide +kernel)
theorem kw1232 : Cond.static yL_stepsTo ∈ lwX := kw 1232 (by decide +kernel) (by decide +kernel)
theorem kw1233 : Cond.codeWith yL_stepsTo cL_stepsTo 5 (some .int) [(0, 10, 13, 24)] ∈ lwX := kw 1233 (by decide +kernel) (by decide +kernel)
theorem kw1247 : Cond.instanceMethod yX8_openGutters ∈ lwX := kw 1247 (by decide +kernel) (by decide +kernel)
theorem kw1248 : Cond.selects RX8 yX8_openGutters yX8_openGutters ∈ lwX := kw 1248 (by decide +kernel) (by decide +kernel)
theorem kw1249 : Cond.code yX8_openGutters cX8_openGutters 4 (some .int) ∈ lwX := kw 1249 (by decide +kernel) (by decide +kernel)
theorem kw1246 : Cond.methodLink RL 105 yX8_openGutters ∈ lwX := kw 1246 (by decide +kernel) (by decide +kernel)
theorem kw1244 : Cond.static yL_openGutters ∈ lwX := kw 1244 (by decide +kernel) (by decide +kernel)
theorem kw1245 : Cond.codeWith yL_openGutters cL_openGutters 4 (some .int) [(0, 9, 12, 24)] ∈ lwX := kw 1245 (by decide +kernel) (by decide +kernel)
theorem kw1254 : Cond.instanceMethod yX8_whyNoStep ∈ lwX := kw 1254 (by decide +kernel) (by decide +kernel)
theorem kw1255 : Cond.selects RX8 yX8_whyNoStep yX8_whyNoStep ∈ lwX := kw 1255 (by decide +kernel) (by decide +kernel)
theorem kw1256 : Cond.code yX8_whyNoStep cX8_whyNoStep 3 (some .int) ∈ lwX := kw 1256 (by decide +kernel) (by decide +kernel)
theorem kw1253 : Cond.methodLink RL 108 yX8_whyNoStep ∈ lwX := kw 1253 (by decide +kernel) (by decide +kernel)
theorem kw1251 : Cond.static yL_whyNoStep ∈ lwX := kw 1251 (by decide +kernel) (by decide +kernel)
theorem kw1252 : Cond.codeWith yL_whyNoStep cL_whyNoStep 5 (some .int) [(0, 10, 13, 24)] ∈ lwX := kw 1252 (by decide +kernel) (by decide +kernel)
theorem kw1261 : Cond.instanceMethod yX8_whyNoClaim ∈ lwX := kw 1261 (by decide +kernel) (by decide +kernel)
theorem kw1262 : Cond.selects RX8 yX8_whyNoClaim yX8_whyNoClaim ∈ lwX := kw 1262 (by decide +kernel) (by decide +kernel)
theorem kw1263 : Cond.code yX8_whyNoClaim cX8_whyNoClaim 2 (some .int) ∈ lwX := kw 1263 (by decide +kernel) (by decide +kernel)
theorem kw1260 : Cond.methodLink RL 111 yX8_whyNoClaim ∈ lwX := kw 1260 (by decide +kernel) (by decide +kernel)
theorem kw1258 : Cond.static yL_whyNoClaim ∈ lwX := kw 1258 (by decide +kernel) (by decide +kernel)
theorem kw1259 : Cond.codeWith yL_whyNoClaim cL_whyNoClaim 4 (some .int) [(0, 9, 12, 24)] ∈ lwX := kw 1259 (by decide +kernel) (by decide +kernel)
theorem kw1268 : Cond.instanceMethod yX8_whyNoChase ∈ lwX := kw 1268 (by decide +kernel) (by decide +kernel)
theorem kw1269 : Cond.selects RX8 yX8_whyNoChase yX8_whyNoChase ∈ lwX := kw 1269 (by decide +kernel) (by decide +kernel)
theorem kw1270 : Cond.code yX8_whyNoChase cX8_whyNoChase 3 (some .int) ∈ lwX := kw 1270 (by decide +kernel) (by decide +kernel)
theorem kw1267 : Cond.methodLink RL 114 yX8_whyNoChase ∈ lwX := kw 1267 (by decide +kernel) (by decide +kernel)
theorem kw1265 : Cond.static yL_whyNoChase ∈ lwX := kw 1265 (by decide +kernel) (by decide +kernel)
theorem kw1266 : Cond.codeWith yL_whyNoChase cL_whyNoChase 5 (some .int) [(0, 10, 13, 24), (0, 10, 17, 13)] ∈ lwX := kw 1266 (by decide +kernel) (by decide +kernel)
theorem kw1275 : Cond.instanceMethod yX8_preyOf ∈ lwX := kw 1275 (by decide +kernel) (by decide +kernel)
theorem kw1276 : Cond.selects RX8 yX8_preyOf yX8_preyOf ∈ lwX := kw 1276 (by decide +kernel) (by decide +kernel)
theorem kw1277 : Cond.code yX8_preyOf cX8_preyOf 4 (some .int) ∈ lwX := kw 1277 (by decide +kernel) (by decide +kernel)
theorem kw1274 : Cond.methodLink RL 117 yX8_preyOf ∈ lwX := kw 1274 (by decide +kernel) (by decide +kernel)
theorem kw1272 : Cond.static yL_preyOf ∈ lwX := kw 1272 (by decide +kernel) (by decide +kernel)
theorem kw1273 : Cond.codeWith yL_preyOf cL_preyOf 4 (some .int) [(0, 9, 12, 24)] ∈ lwX := kw 1273 (by decide +kernel) (by decide +kernel)
theorem kw1282 : Cond.instanceMethod yX8_hasVoted ∈ lwX := kw 1282 (by decide +kernel) (by decide +kernel)
theorem kw1283 : Cond.selects RX8 yX8_hasVoted yX8_hasVoted ∈ lwX := kw 1283 (by decide +kernel) (by decide +kernel)
theorem kw1284 : Cond.code yX8_hasVoted cX8_hasVoted 2 (some .boolean) ∈ lwX := kw 1284 (by decide +kernel) (by decide +kernel)
theorem kw1281 : Cond.methodLink RL 120 yX8_hasVoted ∈ lwX := kw 1281 (by decide +kernel) (by decide +kernel)
theorem kw1279 : Cond.static yL_hasVoted ∈ lwX := kw 1279 (by decide +kernel) (by decide +kernel)
theorem kw1280 : Cond.codeWith yL_hasVoted cL_hasVoted 4 (some .int) [(0, 16, 19, 24)] ∈ lwX := kw 1280 (by decide +kernel) (by decide +kernel)
theorem kw1289 : Cond.instanceMethod yX8_choirOf ∈ lwX := kw 1289 (by decide +kernel) (by decide +kernel)
theorem kw1290 : Cond.selects RX8 yX8_choirOf yX8_choirOf ∈ lwX := kw 1290 (by decide +kernel) (by decide +kernel)
theorem kw1291 : Cond.code yX8_choirOf cX8_choirOf 2 (some .int) ∈ lwX := kw 1291 (by decide +kernel) (by decide +kernel)
theorem kw1288 : Cond.methodLink RL 124 yX8_choirOf ∈ lwX := kw 1288 (by decide +kernel) (by decide +kernel)
theorem kw1286 : Cond.static yL_choirOf ∈ lwX := kw 1286 (by decide +kernel) (by decide +kernel)
theorem kw1287 : Cond.codeWith yL_choirOf cL_choirOf 4 (some .int) [(0, 9, 12, 24)] ∈ lwX := kw 1287 (by decide +kernel) (by decide +kernel)
theorem kw1296 : Cond.instanceMethod yX8_fishAfter ∈ lwX := kw 1296 (by decide +kernel) (by decide +kernel)
theorem kw1297 : Cond.selects RX8 yX8_fishAfter yX8_fishAfter ∈ lwX := kw 1297 (by decide +kernel) (by decide +kernel)
theorem kw1298 : Cond.code yX8_fishAfter cX8_fishAfter 3 (some .int) ∈ lwX := kw 1298 (by decide +kernel) (by decide +kernel)
theorem kw1295 : Cond.methodLink RL 127 yX8_fishAfter ∈ lwX := kw 1295 (by decide +kernel) (by decide +kernel)
theorem kw1293 : Cond.static yL_fishAfter ∈ lwX := kw 1293 (by decide +kernel) (by decide +kernel)
theorem kw1294 : Cond.codeWith yL_fishAfter cL_fishAfter 5 (some .int) [(0, 10, 13, 24), (0, 10, 17, 13)] ∈ lwX := kw 1294 (by decide +kernel) (by decide +kernel)
theorem m_X8_truncateInput : xMem yX8_truncateInput RX8 cX8_truncateInput 2 (some .int) 1 := ⟨kw874, kw875, kw116, kw876, by decide +kernel, by decide +kernel, by decide +kernel, by decide +kernel⟩
theorem m_X8_addChimney : xMem yX8_addChimney RX8 cX8_addChimney 2 (some .int) 1 := ⟨kw950, kw951, kw116, kw952, by decide +kernel, by decide +kernel, by decide +kernel, by decide +kernel⟩
theorem m_X8_addGutter : xMem yX8_addGutter RX8 cX8_addGutter 4 (some .int) 3 := ⟨kw983, kw984, kw116, kw985, by decide +kernel, by decide +kernel, by decide +kernel, by decide +kernel⟩
theorem m_X8_addCat : xMem yX8_addCat RX8 cX8_addCat 4 (some .int) 3 := ⟨kw1016, kw1017, kw116, kw1018, by decide +kernel, by decide +kernel, by decide +kernel, by decide +kernel⟩
theorem m_X8_step : xMem yX8_step RX8 cX8_step 3 (some .int) 2 := ⟨kw1024, kw1025, kw116, kw1026, by decide +kernel, by decide +kernel, by decide +kernel, by decide +kernel⟩
theorem m_X8_claim : xMem yX8_claim RX8 cX8_claim 2 (some .int) 1 := ⟨kw1045, kw1046, kw116, kw1047, by decide +kernel, by decide +kernel, by decide +kernel, by decide +kernel⟩
theorem m_X8_abandon : xMem yX8_abandon RX8 cX8_abandon 2 (some .int) 1 := ⟨kw1053, kw1054, kw116, kw1055, by decide +kernel, by decide +kernel, by decide +kernel, by decide +kernel⟩
theorem m_X8_chase : xMem yX8_chase RX8 cX8_chase 3 (some .boolean) 2 := ⟨kw1061, kw1062, kw116, kw1063, by decide +kernel, by decide +kernel, by decide +kernel, by decide +kernel⟩
theorem m_X8_buyTruce : xMem yX8_buyTruce RX8 cX8_buyTruce 5 (some .int) 4 := ⟨kw1070, kw1071, kw116, kw1072, by decide +kernel, by decide +kernel, by decide +kernel, by decide +kernel⟩
theorem m_X8_nominate : xMem yX8_nominate RX8 cX8_nominate 3 (some .int) 2 := ⟨kw1078, kw1079, kw116, kw1080, by decide +kernel, by decide +kernel, by decide +kernel, by decide +kernel⟩
theorem m_X8_vote : xMem yX8_vote RX8 cX8_vote 3 (some .boolean) 2 := ⟨kw1087, kw1088, kw116, kw1089, by decide +kernel, by decide +kernel, by decide +kernel, by decide +kernel⟩
theorem m_X8_passNights : xMem yX8_passNights RX8 cX8_passNights 2 (some .int) 1 := ⟨kw1096, kw1097, kw116, kw1098, by decide +kernel, by decide +kernel, by decide +kernel, by decide +kernel⟩
theorem m_X8_restoreSnapshot : xMem yX8_restoreSnapshot RX8 cX8_restoreSnapshot 1 (some .int) 0 := ⟨kw1105, kw1106, kw116, kw1107, by decide +kernel, by decide +kernel, by decide +kernel, by decide +kernel⟩
theorem m_X8_warmth : xMem yX8_warmth RX8 cX8_warmth 2 (some .int) 1 := ⟨kw1132, kw1133, kw116, kw1134, by decide +kernel, by decide +kernel, by decide +kernel, by decide +kernel⟩
theorem m_X8_ownerOf : xMem yX8_ownerOf RX8 cX8_ownerOf 2 (some .int) 1 := ⟨kw1139, kw1140, kw116, kw1141, by decide +kernel, by decide +kernel, by decide +kernel, by decide +kernel⟩
theorem m_X8_catOn : xMem yX8_catOn RX8 cX8_catOn 2 (some .int) 1 := ⟨kw1146, kw1147, kw116, kw1148, by decide +kernel, by decide +kernel, by decide +kernel, by decide +kernel⟩
theorem m_X8_gutterEnds : xMem yX8_gutterEnds RX8 cX8_gutterEnds 2 (some .int) 1 := ⟨kw1154, kw1155, kw116, kw1156, by decide +kernel, by decide +kernel, by decide +kernel, by decide +kernel⟩
theorem m_X8_width : xMem yX8_width RX8 cX8_width 2 (some .int) 1 := ⟨kw1161, kw1162, kw116, kw1163, by decide +kernel, by decide +kernel, by decide +kernel, by decide +kernel⟩
theorem m_X8_widestWay : xMem yX8_widestWay RX8 cX8_widestWay 3 (some .int) 2 := ⟨kw1168, kw1169, kw116, kw1170, by decide +kernel, by decide +kernel, by decide +kernel, by decide +kernel⟩
theorem m_X8_girth : xMem yX8_girth RX8 cX8_girth 2 (some .int) 1 := ⟨kw1179, kw1180, kw116, kw1181, by decide +kernel, by decide +kernel, by decide +kernel, by decide +kernel⟩
theorem m_X8_power : xMem yX8_power RX8 cX8_power 2 (some .int) 1 := ⟨kw1186, kw1187, kw116, kw1188, by decide +kernel, by decide +kernel, by decide +kernel, by decide +kernel⟩
theorem m_X8_fish : xMem yX8_fish RX8 cX8_fish 2 (some .int) 1 := ⟨kw1194, kw1195, kw116, kw1196, by decide +kernel, by decide +kernel, by decide +kernel, by decide +kernel⟩
theorem m_X8_chimneyOf : xMem yX8_chimneyOf RX8 cX8_chimneyOf 2 (some .int) 1 := ⟨kw1201, kw1202, kw116, kw1203, by decide +kernel, by decide +kernel, by decide +kernel, by decide +kernel⟩
theorem m_X8_ownedChimneys : xMem yX8_ownedChimneys RX8 cX8_ownedChimneys 2 (some .int) 1 := ⟨kw1208, kw1209, kw116, kw1210, by decide +kernel, by decide +kernel, by decide +kernel, by decide +kernel⟩
theorem m_X8_truceNights : xMem yX8_truceNights RX8 cX8_truceNights 3 (some .int) 2 := ⟨kw1216, kw1217, kw116, kw1218, by decide +kernel, by decide +kernel, by decide +kernel, by decide +kernel⟩
theorem m_X8_reachable : xMem yX8_reachable RX8 cX8_reachable 2 (some .int) 1 := ⟨kw1224, kw1225, kw116, kw1226, by decide +kernel, by decide +kernel, by decide +kernel, by decide +kernel⟩
theorem m_X8_stepsTo : xMem yX8_stepsTo RX8 cX8_stepsTo 3 (some .int) 2 := ⟨kw1235, kw1236, kw116, kw1237, by decide +kernel, by decide +kernel, by decide +kernel, by decide +kernel⟩
theorem m_X8_openGutters : xMem yX8_openGutters RX8 cX8_openGutters 4 (some .int) 1 := ⟨kw1247, kw1248, kw116, kw1249, by decide +kernel, by decide +kernel, by decide +kernel, by decide +kernel⟩
theorem m_X8_whyNoStep : xMem yX8_whyNoStep RX8 cX8_whyNoStep 3 (some .int) 2 := ⟨kw1254, kw1255, kw116, kw1256, by decide +kernel, by decide +kernel, by decide +kernel, by decide +kernel⟩
theorem m_X8_whyNoClaim : xMem yX8_whyNoClaim RX8 cX8_whyNoClaim 2 (some .int) 1 := ⟨kw1261, kw1262, kw116, kw1263, by decide +kernel, by decide +kernel, by decide +kernel, by decide +kernel⟩
theorem m_X8_whyNoChase : xMem yX8_whyNoChase RX8 cX8_whyNoChase 3 (some .int) 2 := ⟨kw1268, kw1269, kw116, kw1270, by decide +kernel, by decide +kernel, by decide +kernel, by decide +kernel⟩
theorem m_X8_preyOf : xMem yX8_preyOf RX8 cX8_preyOf 4 (some .int) 1 := ⟨kw1275, kw1276, kw116, kw1277, by decide +kernel, by decide +kernel, by decide +kernel, by decide +kernel⟩
theorem m_X8_hasVoted : xMem yX8_hasVoted RX8 cX8_hasVoted 2 (some .boolean) 1 := ⟨kw1282, kw1283, kw116, kw1284, by decide +kernel, by decide +kernel, by decide +kernel, by decide +kernel⟩
theorem m_X8_choirOf : xMem yX8_choirOf RX8 cX8_choirOf 2 (some .int) 1 := ⟨kw1289, kw1290, kw116, kw1291, by decide +kernel, by decide +kernel, by decide +kernel, by decide +kernel⟩
theorem m_X8_fishAfter : xMem yX8_fishAfter RX8 cX8_fishAfter 3 (some .int) 2 := ⟨kw1296, kw1297, kw116, kw1298, by decide +kernel, by decide +kernel, by decide +kernel, by decide +kernel⟩
theorem mw_L_truncateInput : Cond.static yL_truncateInput ∈ lwX ∧ Cond.initialized yL_truncateInput.cls ∈ lwX ∧ Cond.codeWith yL_truncateInput cL_truncateInput 4 (some .int) [(0, 9, 12, 13)] ∈ lwX := ⟨kw870, kw115, kw871⟩
set_option maxHeartbeats 4000000 in
set_option maxRecDepth 100000 in
theorem c_L_truncateInput (l : Launch) (D : va_G) (cy : Nat → ClassId) (s00 : State) (ad : Nat → Nat) (hT : l.stackTraces = false ∧ XDW s00) (hG : XG s00) (hNc : XNc s00) (S : XS) (p1 : Int32) (r9 : Int32) (S9 : XS) (hf : f_L_truncateInput S p1 = some (r9, S9)) : XWr l yL_truncateInput cL_truncateInput 4 [(0, 9, 12, 13)] 7 1 D cy s00 shW ad S [.ref (ad 0), .int p1, .ref (ad 154)] r9 S9 := by
  refine XWr.of (by decide) [(0, .ref (ad 0)), (1, .int p1), (2, .ref (ad 154))] rfl (Nat.le_of_ble_eq_true rfl) (fun p e s m args below meth c A ls E h hl hex => ?_)
  unfold f_L_truncateInput at hf
  refine lv_aload_n E.1 E.2.1 dL_truncateInput_0 rfl (lv_at hl 2 rfl) ?_
  refine lv_iconst (v := 0) E.1 E.2.1 dL_truncateInput_1 (by decide) ?_
  refine lv_aload_n E.1 E.2.1 dL_truncateInput_2 rfl (lv_at hl 0 rfl) ?_
  refine lv_iload_n E.1 E.2.1 dL_truncateInput_3 rfl (lv_at hl 1 rfl) ?_
  refine x_xcallW E h hl 0 0 hf xsub_W (fun E8 r8 S8 hr => c_X8_truncateInput l D cy s00 _ hT hG (xs 0 S) p1 E8 r8 S8 hr) m_X8_truncateInput rfl rfl kw873 rfl rfl (Nat.le_of_ble_eq_true rfl) ⟨Nat.le_of_ble_eq_true rfl, Nat.le_of_ble_eq_true rfl⟩ ⟨Nat.le_of_ble_eq_true rfl, Nat.le_of_ble_eq_true rfl⟩ dL_truncateInput_4 (fun v S3 H locs hf h => ?_) (fun E1 S3 ce q H locs hf h hcell hv hcl => ?_)
  · refine lv_i2l E.1 E.2.1 dL_truncateInput_7 rfl ?_
    refine x_last1 E h 154 hf rfl rfl dL_truncateInput_8 (fun S4 H locs hf h => ?_)
    refine lv_goto (tgt := 15) E.1 E.2.1 dL_truncateInput_9 (by decide) ?_
    refine lv_iconst (v := 0) E.1 E.2.1 dL_truncateInput_15 (by decide) ?_
    exact x_wret E h hf ⟨Nat.le_of_ble_eq_true rfl, Nat.le_of_ble_eq_true rfl⟩ dL_truncateInput_16
  · refine x_case hf (fun c9 hf => ?_) (fun c9 hf => ?_)
    · refine x_catch hNc hT.2 E hex 0 2 rfl c9 (by decide) (by decide) (by decide +kernel) (fun z hz => by cases hz) (by decide +kernel) (by decide) kw872 (by simp [xDw, xEn, xEns]) hcell hv hcl ?_
      refine lv_astore_n (lv' := (3, .ref q) :: [(0, .ref (ad 0)), (1, .int p1), (2, .ref (ad 154))]) E.1 E.2.1 dL_truncateInput_12 rfl hl (by decide) rfl (fun ls hl => ?_)
      refine lv_iconst (v := 1) E.1 E.2.1 dL_truncateInput_13 (by decide) ?_
      exact x_wret E h hf ⟨Nat.le_of_ble_eq_true rfl, Nat.le_of_ble_eq_true rfl⟩ dL_truncateInput_14
    cases hf
theorem mw_L_addChimney : Cond.static yL_addChimney ∈ lwX ∧ Cond.initialized yL_addChimney.cls ∈ lwX ∧ Cond.codeWith yL_addChimney cL_addChimney 4 (some .int) [(0, 9, 12, 13), (0, 9, 15, 18)] ∈ lwX := ⟨kw946, kw115, kw947⟩
set_option maxHeartbeats 4000000 in
set_option maxRecDepth 100000 in
theorem c_L_addChimney (l : Launch) (D : va_G) (cy : Nat → ClassId) (s00 : State) (ad : Nat → Nat) (hT : l.stackTraces = false ∧ XDW s00) (hG : XG s00) (hNc : XNc s00) (S : XS) (p1 : Int32) (r9 : Int32) (S9 : XS) (hf : f_L_addChimney S p1 = some (r9, S9)) : XWr l yL_addChimney cL_addChimney 4 [(0, 9, 12, 13), (0, 9, 15, 18)] 8 2 D cy s00 shW ad S [.ref (ad 0), .int p1, .ref (ad 154)] r9 S9 := by
  refine XWr.of (by decide) [(0, .ref (ad 0)), (1, .int p1), (2, .ref (ad 154))] rfl (Nat.le_of_ble_eq_true rfl) (fun p e s m args below meth c A ls E h hl hex => ?_)
  unfold f_L_addChimney at hf
  refine lv_aload_n E.1 E.2.1 dL_addChimney_0 rfl (lv_at hl 2 rfl) ?_
  refine lv_iconst (v := 0) E.1 E.2.1 dL_addChimney_1 (by decide) ?_
  refine lv_aload_n E.1 E.2.1 dL_addChimney_2 rfl (lv_at hl 0 rfl) ?_
  refine lv_iload_n E.1 E.2.1 dL_addChimney_3 rfl (lv_at hl 1 rfl) ?_
  refine x_xcallW E h hl 0 0 hf xsub_W (fun E8 r8 S8 hr => c_X8_addChimney l D cy s00 _ hT hG (xs 0 S) p1 E8 r8 S8 hr) m_X8_addChimney rfl rfl kw949 rfl rfl (Nat.le_of_ble_eq_true rfl) ⟨Nat.le_of_ble_eq_true rfl, Nat.le_of_ble_eq_true rfl⟩ ⟨Nat.le_of_ble_eq_true rfl, Nat.le_of_ble_eq_true rfl⟩ dL_addChimney_4 (fun v S3 H locs hf h => ?_) (fun E1 S3 ce q H locs hf h hcell hv hcl => ?_)
  · refine lv_i2l E.1 E.2.1 dL_addChimney_7 rfl ?_
    refine x_last1 E h 154 hf rfl rfl dL_addChimney_8 (fun S4 H locs hf h => ?_)
    refine lv_goto (tgt := 18) E.1 E.2.1 dL_addChimney_9 (by decide) ?_
    refine lv_iconst (v := 0) E.1 E.2.1 dL_addChimney_18 (by decide) ?_
    exact x_wret E h hf ⟨Nat.le_of_ble_eq_true rfl, Nat.le_of_ble_eq_true rfl⟩ dL_addChimney_19
  · refine x_case hf (fun c9 hf => ?_) (fun c9 hf => ?_)
    · refine x_catch hNc hT.2 E hex 0 2 rfl c9 (by decide) (by decide) (by decide +kernel) (fun z hz => by cases hz) (by decide +kernel) (by decide) kw872 (by simp [xDw, xEn, xEns]) hcell hv hcl ?_
      refine lv_astore_n (lv' := (3, .ref q) :: [(0, .ref (ad 0)), (1, .int p1), (2, .ref (ad 154))]) E.1 E.2.1 dL_addChimney_12 rfl hl (by decide) rfl (fun ls hl => ?_)
      refine lv_iconst (v := 1) E.1 E.2.1 dL_addChimney_13 (by decide) ?_
      exact x_wret E h hf ⟨Nat.le_of_ble_eq_true rfl, Nat.le_of_ble_eq_true rfl⟩ dL_addChimney_14
    refine x_case hf (fun c9 hf => ?_) (fun c9 hf => ?_)
    · refine x_catch hNc hT.2 E hex 1 3 rfl c9 (by decide) (by decide) (by decide +kernel) (fun z hz => by
        rcases List.mem_cons.mp hz with rfl | hz
        · exact ⟨2, by decide, by decide, by decide, kw872⟩
        cases hz) (by decide +kernel) (by decide) kw948 (by simp [xDw, xEn, xEns]) hcell hv hcl ?_
      refine lv_astore_n (lv' := (3, .ref q) :: [(0, .ref (ad 0)), (1, .int p1), (2, .ref (ad 154))]) E.1 E.2.1 dL_addChimney_15 rfl hl (by decide) rfl (fun ls hl => ?_)
      refine lv_iconst (v := 2) E.1 E.2.1 dL_addChimney_16 (by decide) ?_
      exact x_wret E h hf ⟨Nat.le_of_ble_eq_true rfl, Nat.le_of_ble_eq_true rfl⟩ dL_addChimney_17
    cases hf
theorem mw_L_addGutter : Cond.static yL_addGutter ∈ lwX ∧ Cond.initialized yL_addGutter.cls ∈ lwX ∧ Cond.codeWith yL_addGutter cL_addGutter 6 (some .int) [(0, 12, 15, 24), (0, 12, 19, 13), (0, 12, 23, 18)] ∈ lwX := ⟨kw979, kw115, kw980⟩
set_option maxHeartbeats 4000000 in
set_option maxRecDepth 100000 in
theorem c_L_addGutter (l : Launch) (D : va_G) (cy : Nat → ClassId) (s00 : State) (ad : Nat → Nat) (hT : l.stackTraces = false ∧ XDW s00) (hG : XG s00) (hNc : XNc s00) (S : XS) (p1 p2 p3 : Int32) (r9 : Int32) (S9 : XS) (hf : f_L_addGutter S p1 p2 p3 = some (r9, S9)) : XWr l yL_addGutter cL_addGutter 6 [(0, 12, 15, 24), (0, 12, 19, 13), (0, 12, 23, 18)] 8 5 D cy s00 shW ad S [.ref (ad 0), .int p1, .int p2, .int p3, .ref (ad 154)] r9 S9 := by
  refine XWr.of (by decide) [(0, .ref (ad 0)), (1, .int p1), (2, .int p2), (3, .int p3), (4, .ref (ad 154))] rfl (Nat.le_of_ble_eq_true rfl) (fun p e s m args below meth c A ls E h hl hex => ?_)
  unfold f_L_addGutter at hf
  refine lv_aload E.1 E.2.1 dL_addGutter_0 (lv_at hl 4 rfl) ?_
  refine lv_iconst (v := 0) E.1 E.2.1 dL_addGutter_2 (by decide) ?_
  refine lv_aload_n E.1 E.2.1 dL_addGutter_3 rfl (lv_at hl 0 rfl) ?_
  refine lv_iload_n E.1 E.2.1 dL_addGutter_4 rfl (lv_at hl 1 rfl) ?_
  refine lv_iload_n E.1 E.2.1 dL_addGutter_5 rfl (lv_at hl 2 rfl) ?_
  refine lv_iload_n E.1 E.2.1 dL_addGutter_6 rfl (lv_at hl 3 rfl) ?_
  refine x_xcallW E h hl 0 0 hf xsub_W (fun E8 r8 S8 hr => c_X8_addGutter l D cy s00 _ hT hG (xs 0 S) p1 p2 p3 E8 r8 S8 hr) m_X8_addGutter rfl rfl kw982 rfl rfl (Nat.le_of_ble_eq_true rfl) ⟨Nat.le_of_ble_eq_true rfl, Nat.le_of_ble_eq_true rfl⟩ ⟨Nat.le_of_ble_eq_true rfl, Nat.le_of_ble_eq_true rfl⟩ dL_addGutter_7 (fun v S3 H locs hf h => ?_) (fun E1 S3 ce q H locs hf h hcell hv hcl => ?_)
  · refine lv_i2l E.1 E.2.1 dL_addGutter_10 rfl ?_
    refine x_last1 E h 154 hf rfl rfl dL_addGutter_11 (fun S4 H locs hf h => ?_)
    refine lv_goto (tgt := 27) E.1 E.2.1 dL_addGutter_12 (by decide) ?_
    refine lv_iconst (v := 0) E.1 E.2.1 dL_addGutter_27 (by decide) ?_
    exact x_wret E h hf ⟨Nat.le_of_ble_eq_true rfl, Nat.le_of_ble_eq_true rfl⟩ dL_addGutter_28
  · refine x_case hf (fun c9 hf => ?_) (fun c9 hf => ?_)
    · refine x_catch hNc hT.2 E hex 0 1 rfl c9 (by decide) (by decide) (by decide +kernel) (fun z hz => by cases hz) (by decide +kernel) (by decide) kw981 (by simp [xDw, xEn, xEns]) hcell hv hcl ?_
      refine lv_astore (lv' := (5, .ref q) :: [(0, .ref (ad 0)), (1, .int p1), (2, .int p2), (3, .int p3), (4, .ref (ad 154))]) E.1 E.2.1 dL_addGutter_15 hl (by decide) rfl (fun ls hl => ?_)
      refine lv_iconst (v := 1) E.1 E.2.1 dL_addGutter_17 (by decide) ?_
      exact x_wret E h hf ⟨Nat.le_of_ble_eq_true rfl, Nat.le_of_ble_eq_true rfl⟩ dL_addGutter_18
    refine x_case hf (fun c9 hf => ?_) (fun c9 hf => ?_)
    · refine x_catch hNc hT.2 E hex 1 2 rfl c9 (by decide) (by decide) (by decide +kernel) (fun z hz => by
        rcases List.mem_cons.mp hz with rfl | hz
        · exact ⟨1, by decide, by decide, by decide, kw981⟩
        cases hz) (by decide +kernel) (by decide) kw872 (by simp [xDw, xEn, xEns]) hcell hv hcl ?_
      refine lv_astore (lv' := (5, .ref q) :: [(0, .ref (ad 0)), (1, .int p1), (2, .int p2), (3, .int p3), (4, .ref (ad 154))]) E.1 E.2.1 dL_addGutter_19 hl (by decide) rfl (fun ls hl => ?_)
      refine lv_iconst (v := 2) E.1 E.2.1 dL_addGutter_21 (by decide) ?_
      exact x_wret E h hf ⟨Nat.le_of_ble_eq_true rfl, Nat.le_of_ble_eq_true rfl⟩ dL_addGutter_22
    refine x_case hf (fun c9 hf => ?_) (fun c9 hf => ?_)
    · refine x_catch hNc hT.2 E hex 2 3 rfl c9 (by decide) (by decide) (by decide +kernel) (fun z hz => by
        rcases List.mem_cons.mp hz with rfl | hz
        · exact ⟨1, by decide, by decide, by decide, kw981⟩
        rcases List.mem_cons.mp hz with rfl | hz
        · exact ⟨2, by decide, by decide, by decide, kw872⟩
        cases hz) (by decide +kernel) (by decide) kw948 (by simp [xDw, xEn, xEns]) hcell hv hcl ?_
      refine lv_astore (lv' := (5, .ref q) :: [(0, .ref (ad 0)), (1, .int p1), (2, .int p2), (3, .int p3), (4, .ref (ad 154))]) E.1 E.2.1 dL_addGutter_23 hl (by decide) rfl (fun ls hl => ?_)
      refine lv_iconst (v := 3) E.1 E.2.1 dL_addGutter_25 (by decide) ?_
      exact x_wret E h hf ⟨Nat.le_of_ble_eq_true rfl, Nat.le_of_ble_eq_true rfl⟩ dL_addGutter_26
    cases hf
theorem mw_L_addCat : Cond.static yL_addCat ∈ lwX ∧ Cond.initialized yL_addCat.cls ∈ lwX ∧ Cond.codeWith yL_addCat cL_addCat 6 (some .int) [(0, 12, 15, 24), (0, 12, 19, 13), (0, 12, 23, 18)] ∈ lwX := ⟨kw1013, kw115, kw1014⟩
set_option maxHeartbeats 4000000 in
set_option maxRecDepth 100000 in
theorem c_L_addCat (l : Launch) (D : va_G) (cy : Nat → ClassId) (s00 : State) (ad : Nat → Nat) (hT : l.stackTraces = false ∧ XDW s00) (hG : XG s00) (hNc : XNc s00) (S : XS) (p1 p2 p3 : Int32) (r9 : Int32) (S9 : XS) (hf : f_L_addCat S p1 p2 p3 = some (r9, S9)) : XWr l yL_addCat cL_addCat 6 [(0, 12, 15, 24), (0, 12, 19, 13), (0, 12, 23, 18)] 8 4 D cy s00 shW ad S [.ref (ad 0), .int p1, .int p2, .int p3, .ref (ad 154)] r9 S9 := by
  refine XWr.of (by decide) [(0, .ref (ad 0)), (1, .int p1), (2, .int p2), (3, .int p3), (4, .ref (ad 154))] rfl (Nat.le_of_ble_eq_true rfl) (fun p e s m args below meth c A ls E h hl hex => ?_)
  unfold f_L_addCat at hf
  refine lv_aload E.1 E.2.1 dL_addCat_0 (lv_at hl 4 rfl) ?_
  refine lv_iconst (v := 0) E.1 E.2.1 dL_addCat_2 (by decide) ?_
  refine lv_aload_n E.1 E.2.1 dL_addCat_3 rfl (lv_at hl 0 rfl) ?_
  refine lv_iload_n E.1 E.2.1 dL_addCat_4 rfl (lv_at hl 1 rfl) ?_
  refine lv_iload_n E.1 E.2.1 dL_addCat_5 rfl (lv_at hl 2 rfl) ?_
  refine lv_iload_n E.1 E.2.1 dL_addCat_6 rfl (lv_at hl 3 rfl) ?_
  refine x_xcallW E h hl 0 0 hf xsub_W (fun E8 r8 S8 hr => c_X8_addCat l D cy s00 _ hT hG (xs 0 S) p1 p2 p3 E8 r8 S8 hr) m_X8_addCat rfl rfl kw1015 rfl rfl (Nat.le_of_ble_eq_true rfl) ⟨Nat.le_of_ble_eq_true rfl, Nat.le_of_ble_eq_true rfl⟩ ⟨Nat.le_of_ble_eq_true rfl, Nat.le_of_ble_eq_true rfl⟩ dL_addCat_7 (fun v S3 H locs hf h => ?_) (fun E1 S3 ce q H locs hf h hcell hv hcl => ?_)
  · refine lv_i2l E.1 E.2.1 dL_addCat_10 rfl ?_
    refine x_last1 E h 154 hf rfl rfl dL_addCat_11 (fun S4 H locs hf h => ?_)
    refine lv_goto (tgt := 27) E.1 E.2.1 dL_addCat_12 (by decide) ?_
    refine lv_iconst (v := 0) E.1 E.2.1 dL_addCat_27 (by decide) ?_
    exact x_wret E h hf ⟨Nat.le_of_ble_eq_true rfl, Nat.le_of_ble_eq_true rfl⟩ dL_addCat_28
  · refine x_case hf (fun c9 hf => ?_) (fun c9 hf => ?_)
    · refine x_catch hNc hT.2 E hex 0 1 rfl c9 (by decide) (by decide) (by decide +kernel) (fun z hz => by cases hz) (by decide +kernel) (by decide) kw981 (by simp [xDw, xEn, xEns]) hcell hv hcl ?_
      refine lv_astore (lv' := (5, .ref q) :: [(0, .ref (ad 0)), (1, .int p1), (2, .int p2), (3, .int p3), (4, .ref (ad 154))]) E.1 E.2.1 dL_addCat_15 hl (by decide) rfl (fun ls hl => ?_)
      refine lv_iconst (v := 1) E.1 E.2.1 dL_addCat_17 (by decide) ?_
      exact x_wret E h hf ⟨Nat.le_of_ble_eq_true rfl, Nat.le_of_ble_eq_true rfl⟩ dL_addCat_18
    refine x_case hf (fun c9 hf => ?_) (fun c9 hf => ?_)
    · refine x_catch hNc hT.2 E hex 1 2 rfl c9 (by decide) (by decide) (by decide +kernel) (fun z hz => by
        rcases List.mem_cons.mp hz with rfl | hz
        · exact ⟨1, by decide, by decide, by decide, kw981⟩
        cases hz) (by decide +kernel) (by decide) kw872 (by simp [xDw, xEn, xEns]) hcell hv hcl ?_
      refine lv_astore (lv' := (5, .ref q) :: [(0, .ref (ad 0)), (1, .int p1), (2, .int p2), (3, .int p3), (4, .ref (ad 154))]) E.1 E.2.1 dL_addCat_19 hl (by decide) rfl (fun ls hl => ?_)
      refine lv_iconst (v := 2) E.1 E.2.1 dL_addCat_21 (by decide) ?_
      exact x_wret E h hf ⟨Nat.le_of_ble_eq_true rfl, Nat.le_of_ble_eq_true rfl⟩ dL_addCat_22
    refine x_case hf (fun c9 hf => ?_) (fun c9 hf => ?_)
    · refine x_catch hNc hT.2 E hex 2 3 rfl c9 (by decide) (by decide) (by decide +kernel) (fun z hz => by
        rcases List.mem_cons.mp hz with rfl | hz
        · exact ⟨1, by decide, by decide, by decide, kw981⟩
        rcases List.mem_cons.mp hz with rfl | hz
        · exact ⟨2, by decide, by decide, by decide, kw872⟩
        cases hz) (by decide +kernel) (by decide) kw948 (by simp [xDw, xEn, xEns]) hcell hv hcl ?_
      refine lv_astore (lv' := (5, .ref q) :: [(0, .ref (ad 0)), (1, .int p1), (2, .int p2), (3, .int p3), (4, .ref (ad 154))]) E.1 E.2.1 dL_addCat_23 hl (by decide) rfl (fun ls hl => ?_)
      refine lv_iconst (v := 3) E.1 E.2.1 dL_addCat_25 (by decide) ?_
      exact x_wret E h hf ⟨Nat.le_of_ble_eq_true rfl, Nat.le_of_ble_eq_true rfl⟩ dL_addCat_26
    cases hf
theorem mw_L_step : Cond.static yL_step ∈ lwX ∧ Cond.initialized yL_step.cls ∈ lwX ∧ Cond.codeWith yL_step cL_step 5 (some .int) [(0, 10, 13, 24), (0, 10, 17, 18)] ∈ lwX := ⟨kw1021, kw115, kw1022⟩
set_option maxHeartbeats 4000000 in
set_option maxRecDepth 100000 in
theorem c_L_step (l : Launch) (D : va_G) (cy : Nat → ClassId) (s00 : State) (ad : Nat → Nat) (hT : l.stackTraces = false ∧ XDW s00) (hG : XG s00) (hNc : XNc s00) (S : XS) (p1 p2 : Int32) (r9 : Int32) (S9 : XS) (hf : f_L_step S p1 p2 = some (r9, S9)) : XWr l yL_step cL_step 5 [(0, 10, 13, 24), (0, 10, 17, 18)] 8 3 D cy s00 shW ad S [.ref (ad 0), .int p1, .int p2, .ref (ad 154)] r9 S9 := by
  refine XWr.of (by decide) [(0, .ref (ad 0)), (1, .int p1), (2, .int p2), (3, .ref (ad 154))] rfl (Nat.le_of_ble_eq_true rfl) (fun p e s m args below meth c A ls E h hl hex => ?_)
  unfold f_L_step at hf
  refine lv_aload_n E.1 E.2.1 dL_step_0 rfl (lv_at hl 3 rfl) ?_
  refine lv_iconst (v := 0) E.1 E.2.1 dL_step_1 (by decide) ?_
  refine lv_aload_n E.1 E.2.1 dL_step_2 rfl (lv_at hl 0 rfl) ?_
  refine lv_iload_n E.1 E.2.1 dL_step_3 rfl (lv_at hl 1 rfl) ?_
  refine lv_iload_n E.1 E.2.1 dL_step_4 rfl (lv_at hl 2 rfl) ?_
  refine x_xcallW E h hl 0 0 hf xsub_W (fun E8 r8 S8 hr => c_X8_step l D cy s00 _ hT hG (xs 0 S) p1 p2 E8 r8 S8 hr) m_X8_step rfl rfl kw1023 rfl rfl (Nat.le_of_ble_eq_true rfl) ⟨Nat.le_of_ble_eq_true rfl, Nat.le_of_ble_eq_true rfl⟩ ⟨Nat.le_of_ble_eq_true rfl, Nat.le_of_ble_eq_true rfl⟩ dL_step_5 (fun v S3 H locs hf h => ?_) (fun E1 S3 ce q H locs hf h hcell hv hcl => ?_)
  · refine lv_i2l E.1 E.2.1 dL_step_8 rfl ?_
    refine x_last1 E h 154 hf rfl rfl dL_step_9 (fun S4 H locs hf h => ?_)
    refine lv_goto (tgt := 21) E.1 E.2.1 dL_step_10 (by decide) ?_
    refine lv_iconst (v := 0) E.1 E.2.1 dL_step_21 (by decide) ?_
    exact x_wret E h hf ⟨Nat.le_of_ble_eq_true rfl, Nat.le_of_ble_eq_true rfl⟩ dL_step_22
  · refine x_case hf (fun c9 hf => ?_) (fun c9 hf => ?_)
    · refine x_catch hNc hT.2 E hex 0 1 rfl c9 (by decide) (by decide) (by decide +kernel) (fun z hz => by cases hz) (by decide +kernel) (by decide) kw981 (by simp [xDw, xEn, xEns]) hcell hv hcl ?_
      refine lv_astore (lv' := (4, .ref q) :: [(0, .ref (ad 0)), (1, .int p1), (2, .int p2), (3, .ref (ad 154))]) E.1 E.2.1 dL_step_13 hl (by decide) rfl (fun ls hl => ?_)
      refine lv_iconst (v := 1) E.1 E.2.1 dL_step_15 (by decide) ?_
      exact x_wret E h hf ⟨Nat.le_of_ble_eq_true rfl, Nat.le_of_ble_eq_true rfl⟩ dL_step_16
    refine x_case hf (fun c9 hf => ?_) (fun c9 hf => ?_)
    · refine x_catch hNc hT.2 E hex 1 3 rfl c9 (by decide) (by decide) (by decide +kernel) (fun z hz => by
        rcases List.mem_cons.mp hz with rfl | hz
        · exact ⟨1, by decide, by decide, by decide, kw981⟩
        cases hz) (by decide +kernel) (by decide) kw948 (by simp [xDw, xEn, xEns]) hcell hv hcl ?_
      refine lv_astore (lv' := (4, .ref q) :: [(0, .ref (ad 0)), (1, .int p1), (2, .int p2), (3, .ref (ad 154))]) E.1 E.2.1 dL_step_17 hl (by decide) rfl (fun ls hl => ?_)
      refine lv_iconst (v := 2) E.1 E.2.1 dL_step_19 (by decide) ?_
      exact x_wret E h hf ⟨Nat.le_of_ble_eq_true rfl, Nat.le_of_ble_eq_true rfl⟩ dL_step_20
    cases hf
theorem mw_L_claim : Cond.static yL_claim ∈ lwX ∧ Cond.initialized yL_claim.cls ∈ lwX ∧ Cond.codeWith yL_claim cL_claim 4 (some .int) [(0, 9, 12, 24), (0, 9, 15, 18)] ∈ lwX := ⟨kw1042, kw115, kw1043⟩
set_option maxHeartbeats 4000000 in
set_option maxRecDepth 100000 in
theorem c_L_claim (l : Launch) (D : va_G) (cy : Nat → ClassId) (s00 : State) (ad : Nat → Nat) (hT : l.stackTraces = false ∧ XDW s00) (hG : XG s00) (hNc : XNc s00) (S : XS) (p1 : Int32) (r9 : Int32) (S9 : XS) (hf : f_L_claim S p1 = some (r9, S9)) : XWr l yL_claim cL_claim 4 [(0, 9, 12, 24), (0, 9, 15, 18)] 8 2 D cy s00 shW ad S [.ref (ad 0), .int p1, .ref (ad 154)] r9 S9 := by
  refine XWr.of (by decide) [(0, .ref (ad 0)), (1, .int p1), (2, .ref (ad 154))] rfl (Nat.le_of_ble_eq_true rfl) (fun p e s m args below meth c A ls E h hl hex => ?_)
  unfold f_L_claim at hf
  refine lv_aload_n E.1 E.2.1 dL_claim_0 rfl (lv_at hl 2 rfl) ?_
  refine lv_iconst (v := 0) E.1 E.2.1 dL_claim_1 (by decide) ?_
  refine lv_aload_n E.1 E.2.1 dL_claim_2 rfl (lv_at hl 0 rfl) ?_
  refine lv_iload_n E.1 E.2.1 dL_claim_3 rfl (lv_at hl 1 rfl) ?_
  refine x_xcallW E h hl 0 0 hf xsub_W (fun E8 r8 S8 hr => c_X8_claim l D cy s00 _ hT hG (xs 0 S) p1 E8 r8 S8 hr) m_X8_claim rfl rfl kw1044 rfl rfl (Nat.le_of_ble_eq_true rfl) ⟨Nat.le_of_ble_eq_true rfl, Nat.le_of_ble_eq_true rfl⟩ ⟨Nat.le_of_ble_eq_true rfl, Nat.le_of_ble_eq_true rfl⟩ dL_claim_4 (fun v S3 H locs hf h => ?_) (fun E1 S3 ce q H locs hf h hcell hv hcl => ?_)
  · refine lv_i2l E.1 E.2.1 dL_claim_7 rfl ?_
    refine x_last1 E h 154 hf rfl rfl dL_claim_8 (fun S4 H locs hf h => ?_)
    refine lv_goto (tgt := 18) E.1 E.2.1 dL_claim_9 (by decide) ?_
    refine lv_iconst (v := 0) E.1 E.2.1 dL_claim_18 (by decide) ?_
    exact x_wret E h hf ⟨Nat.le_of_ble_eq_true rfl, Nat.le_of_ble_eq_true rfl⟩ dL_claim_19
  · refine x_case hf (fun c9 hf => ?_) (fun c9 hf => ?_)
    · refine x_catch hNc hT.2 E hex 0 1 rfl c9 (by decide) (by decide) (by decide +kernel) (fun z hz => by cases hz) (by decide +kernel) (by decide) kw981 (by simp [xDw, xEn, xEns]) hcell hv hcl ?_
      refine lv_astore_n (lv' := (3, .ref q) :: [(0, .ref (ad 0)), (1, .int p1), (2, .ref (ad 154))]) E.1 E.2.1 dL_claim_12 rfl hl (by decide) rfl (fun ls hl => ?_)
      refine lv_iconst (v := 1) E.1 E.2.1 dL_claim_13 (by decide) ?_
      exact x_wret E h hf ⟨Nat.le_of_ble_eq_true rfl, Nat.le_of_ble_eq_true rfl⟩ dL_claim_14
    refine x_case hf (fun c9 hf => ?_) (fun c9 hf => ?_)
    · refine x_catch hNc hT.2 E hex 1 3 rfl c9 (by decide) (by decide) (by decide +kernel) (fun z hz => by
        rcases List.mem_cons.mp hz with rfl | hz
        · exact ⟨1, by decide, by decide, by decide, kw981⟩
        cases hz) (by decide +kernel) (by decide) kw948 (by simp [xDw, xEn, xEns]) hcell hv hcl ?_
      refine lv_astore_n (lv' := (3, .ref q) :: [(0, .ref (ad 0)), (1, .int p1), (2, .ref (ad 154))]) E.1 E.2.1 dL_claim_15 rfl hl (by decide) rfl (fun ls hl => ?_)
      refine lv_iconst (v := 2) E.1 E.2.1 dL_claim_16 (by decide) ?_
      exact x_wret E h hf ⟨Nat.le_of_ble_eq_true rfl, Nat.le_of_ble_eq_true rfl⟩ dL_claim_17
    cases hf
theorem mw_L_abandon : Cond.static yL_abandon ∈ lwX ∧ Cond.initialized yL_abandon.cls ∈ lwX ∧ Cond.codeWith yL_abandon cL_abandon 4 (some .int) [(0, 9, 12, 24), (0, 9, 15, 18)] ∈ lwX := ⟨kw1050, kw115, kw1051⟩
set_option maxHeartbeats 4000000 in
set_option maxRecDepth 100000 in
theorem c_L_abandon (l : Launch) (D : va_G) (cy : Nat → ClassId) (s00 : State) (ad : Nat → Nat) (hT : l.stackTraces = false ∧ XDW s00) (hG : XG s00) (hNc : XNc s00) (S : XS) (p1 : Int32) (r9 : Int32) (S9 : XS) (hf : f_L_abandon S p1 = some (r9, S9)) : XWr l yL_abandon cL_abandon 4 [(0, 9, 12, 24), (0, 9, 15, 18)] 8 2 D cy s00 shW ad S [.ref (ad 0), .int p1, .ref (ad 154)] r9 S9 := by
  refine XWr.of (by decide) [(0, .ref (ad 0)), (1, .int p1), (2, .ref (ad 154))] rfl (Nat.le_of_ble_eq_true rfl) (fun p e s m args below meth c A ls E h hl hex => ?_)
  unfold f_L_abandon at hf
  refine lv_aload_n E.1 E.2.1 dL_abandon_0 rfl (lv_at hl 2 rfl) ?_
  refine lv_iconst (v := 0) E.1 E.2.1 dL_abandon_1 (by decide) ?_
  refine lv_aload_n E.1 E.2.1 dL_abandon_2 rfl (lv_at hl 0 rfl) ?_
  refine lv_iload_n E.1 E.2.1 dL_abandon_3 rfl (lv_at hl 1 rfl) ?_
  refine x_xcallW E h hl 0 0 hf xsub_W (fun E8 r8 S8 hr => c_X8_abandon l D cy s00 _ hT hG (xs 0 S) p1 E8 r8 S8 hr) m_X8_abandon rfl rfl kw1052 rfl rfl (Nat.le_of_ble_eq_true rfl) ⟨Nat.le_of_ble_eq_true rfl, Nat.le_of_ble_eq_true rfl⟩ ⟨Nat.le_of_ble_eq_true rfl, Nat.le_of_ble_eq_true rfl⟩ dL_abandon_4 (fun v S3 H locs hf h => ?_) (fun E1 S3 ce q H locs hf h hcell hv hcl => ?_)
  · refine lv_i2l E.1 E.2.1 dL_abandon_7 rfl ?_
    refine x_last1 E h 154 hf rfl rfl dL_abandon_8 (fun S4 H locs hf h => ?_)
    refine lv_goto (tgt := 18) E.1 E.2.1 dL_abandon_9 (by decide) ?_
    refine lv_iconst (v := 0) E.1 E.2.1 dL_abandon_18 (by decide) ?_
    exact x_wret E h hf ⟨Nat.le_of_ble_eq_true rfl, Nat.le_of_ble_eq_true rfl⟩ dL_abandon_19
  · refine x_case hf (fun c9 hf => ?_) (fun c9 hf => ?_)
    · refine x_catch hNc hT.2 E hex 0 1 rfl c9 (by decide) (by decide) (by decide +kernel) (fun z hz => by cases hz) (by decide +kernel) (by decide) kw981 (by simp [xDw, xEn, xEns]) hcell hv hcl ?_
      refine lv_astore_n (lv' := (3, .ref q) :: [(0, .ref (ad 0)), (1, .int p1), (2, .ref (ad 154))]) E.1 E.2.1 dL_abandon_12 rfl hl (by decide) rfl (fun ls hl => ?_)
      refine lv_iconst (v := 1) E.1 E.2.1 dL_abandon_13 (by decide) ?_
      exact x_wret E h hf ⟨Nat.le_of_ble_eq_true rfl, Nat.le_of_ble_eq_true rfl⟩ dL_abandon_14
    refine x_case hf (fun c9 hf => ?_) (fun c9 hf => ?_)
    · refine x_catch hNc hT.2 E hex 1 3 rfl c9 (by decide) (by decide) (by decide +kernel) (fun z hz => by
        rcases List.mem_cons.mp hz with rfl | hz
        · exact ⟨1, by decide, by decide, by decide, kw981⟩
        cases hz) (by decide +kernel) (by decide) kw948 (by simp [xDw, xEn, xEns]) hcell hv hcl ?_
      refine lv_astore_n (lv' := (3, .ref q) :: [(0, .ref (ad 0)), (1, .int p1), (2, .ref (ad 154))]) E.1 E.2.1 dL_abandon_15 rfl hl (by decide) rfl (fun ls hl => ?_)
      refine lv_iconst (v := 2) E.1 E.2.1 dL_abandon_16 (by decide) ?_
      exact x_wret E h hf ⟨Nat.le_of_ble_eq_true rfl, Nat.le_of_ble_eq_true rfl⟩ dL_abandon_17
    cases hf
theorem mw_L_chase : Cond.static yL_chase ∈ lwX ∧ Cond.initialized yL_chase.cls ∈ lwX ∧ Cond.codeWith yL_chase cL_chase 5 (some .int) [(0, 17, 20, 24), (0, 17, 24, 13), (0, 17, 28, 18)] ∈ lwX := ⟨kw1058, kw115, kw1059⟩
set_option maxHeartbeats 4000000 in
set_option maxRecDepth 100000 in
theorem c_L_chase (l : Launch) (D : va_G) (cy : Nat → ClassId) (s00 : State) (ad : Nat → Nat) (hT : l.stackTraces = false ∧ XDW s00) (hG : XG s00) (hNc : XNc s00) (S : XS) (p1 p2 : Int32) (r9 : Int32) (S9 : XS) (hf : f_L_chase S p1 p2 = some (r9, S9)) : XWr l yL_chase cL_chase 5 [(0, 17, 20, 24), (0, 17, 24, 13), (0, 17, 28, 18)] 8 4 D cy s00 shW ad S [.ref (ad 0), .int p1, .int p2, .ref (ad 154)] r9 S9 := by
  refine XWr.of (by decide) [(0, .ref (ad 0)), (1, .int p1), (2, .int p2), (3, .ref (ad 154))] rfl (Nat.le_of_ble_eq_true rfl) (fun p e s m args below meth c A ls E h hl hex => ?_)
  unfold f_L_chase at hf
  refine lv_aload_n E.1 E.2.1 dL_chase_0 rfl (lv_at hl 3 rfl) ?_
  refine lv_iconst (v := 0) E.1 E.2.1 dL_chase_1 (by decide) ?_
  refine lv_aload_n E.1 E.2.1 dL_chase_2 rfl (lv_at hl 0 rfl) ?_
  refine lv_iload_n E.1 E.2.1 dL_chase_3 rfl (lv_at hl 1 rfl) ?_
  refine lv_iload_n E.1 E.2.1 dL_chase_4 rfl (lv_at hl 2 rfl) ?_
  refine x_xcallW E h hl 0 0 hf xsub_W (fun E8 r8 S8 hr => c_X8_chase l D cy s00 _ hT hG (xs 0 S) p1 p2 E8 r8 S8 hr) m_X8_chase rfl rfl kw1060 rfl rfl (Nat.le_of_ble_eq_true rfl) ⟨Nat.le_of_ble_eq_true rfl, Nat.le_of_ble_eq_true rfl⟩ ⟨Nat.le_of_ble_eq_true rfl, Nat.le_of_ble_eq_true rfl⟩ dL_chase_5 (fun v S3 H locs hf h => ?_) (fun E1 S3 ce q H locs hf h hcell hv hcl => ?_)
  · refine x_br hf (lv_if_eq (tgt := 15) E.1 E.2.1 dL_chase_8 (by decide)) (fun hf => ?_) (fun hf => ?_)
    · refine lv_lconst (v := (0 : Int32).toInt64) E.1 E.2.1 dL_chase_15 (by decide) ?_
      refine x_last1 E h 154 hf rfl rfl dL_chase_16 (fun S4 H locs hf h => ?_)
      refine lv_goto (tgt := 32) E.1 E.2.1 dL_chase_17 (by decide) ?_
      refine lv_iconst (v := 0) E.1 E.2.1 dL_chase_32 (by decide) ?_
      exact x_wret E h hf ⟨Nat.le_of_ble_eq_true rfl, Nat.le_of_ble_eq_true rfl⟩ dL_chase_33
    · refine lv_lconst (v := (1 : Int32).toInt64) E.1 E.2.1 dL_chase_11 (by decide) ?_
      refine lv_goto (tgt := 16) E.1 E.2.1 dL_chase_12 (by decide) ?_
      refine x_last1 E h 154 hf rfl rfl dL_chase_16 (fun S4 H locs hf h => ?_)
      refine lv_goto (tgt := 32) E.1 E.2.1 dL_chase_17 (by decide) ?_
      refine lv_iconst (v := 0) E.1 E.2.1 dL_chase_32 (by decide) ?_
      exact x_wret E h hf ⟨Nat.le_of_ble_eq_true rfl, Nat.le_of_ble_eq_true rfl⟩ dL_chase_33
  · refine x_case hf (fun c9 hf => ?_) (fun c9 hf => ?_)
    · refine x_catch hNc hT.2 E hex 0 1 rfl c9 (by decide) (by decide) (by decide +kernel) (fun z hz => by cases hz) (by decide +kernel) (by decide) kw981 (by simp [xDw, xEn, xEns]) hcell hv hcl ?_
      refine lv_astore (lv' := (4, .ref q) :: [(0, .ref (ad 0)), (1, .int p1), (2, .int p2), (3, .ref (ad 154))]) E.1 E.2.1 dL_chase_20 hl (by decide) rfl (fun ls hl => ?_)
      refine lv_iconst (v := 1) E.1 E.2.1 dL_chase_22 (by decide) ?_
      exact x_wret E h hf ⟨Nat.le_of_ble_eq_true rfl, Nat.le_of_ble_eq_true rfl⟩ dL_chase_23
    refine x_case hf (fun c9 hf => ?_) (fun c9 hf => ?_)
    · refine x_catch hNc hT.2 E hex 1 2 rfl c9 (by decide) (by decide) (by decide +kernel) (fun z hz => by
        rcases List.mem_cons.mp hz with rfl | hz
        · exact ⟨1, by decide, by decide, by decide, kw981⟩
        cases hz) (by decide +kernel) (by decide) kw872 (by simp [xDw, xEn, xEns]) hcell hv hcl ?_
      refine lv_astore (lv' := (4, .ref q) :: [(0, .ref (ad 0)), (1, .int p1), (2, .int p2), (3, .ref (ad 154))]) E.1 E.2.1 dL_chase_24 hl (by decide) rfl (fun ls hl => ?_)
      refine lv_iconst (v := 2) E.1 E.2.1 dL_chase_26 (by decide) ?_
      exact x_wret E h hf ⟨Nat.le_of_ble_eq_true rfl, Nat.le_of_ble_eq_true rfl⟩ dL_chase_27
    refine x_case hf (fun c9 hf => ?_) (fun c9 hf => ?_)
    · refine x_catch hNc hT.2 E hex 2 3 rfl c9 (by decide) (by decide) (by decide +kernel) (fun z hz => by
        rcases List.mem_cons.mp hz with rfl | hz
        · exact ⟨1, by decide, by decide, by decide, kw981⟩
        rcases List.mem_cons.mp hz with rfl | hz
        · exact ⟨2, by decide, by decide, by decide, kw872⟩
        cases hz) (by decide +kernel) (by decide) kw948 (by simp [xDw, xEn, xEns]) hcell hv hcl ?_
      refine lv_astore (lv' := (4, .ref q) :: [(0, .ref (ad 0)), (1, .int p1), (2, .int p2), (3, .ref (ad 154))]) E.1 E.2.1 dL_chase_28 hl (by decide) rfl (fun ls hl => ?_)
      refine lv_iconst (v := 3) E.1 E.2.1 dL_chase_30 (by decide) ?_
      exact x_wret E h hf ⟨Nat.le_of_ble_eq_true rfl, Nat.le_of_ble_eq_true rfl⟩ dL_chase_31
    cases hf
theorem mw_L_buyTruce : Cond.static yL_buyTruce ∈ lwX ∧ Cond.initialized yL_buyTruce.cls ∈ lwX ∧ Cond.codeWith yL_buyTruce cL_buyTruce 7 (some .int) [(0, 14, 17, 24), (0, 14, 21, 13), (0, 14, 25, 18)] ∈ lwX := ⟨kw1067, kw115, kw1068⟩
set_option maxHeartbeats 4000000 in
set_option maxRecDepth 100000 in
theorem c_L_buyTruce (l : Launch) (D : va_G) (cy : Nat → ClassId) (s00 : State) (ad : Nat → Nat) (hT : l.stackTraces = false ∧ XDW s00) (hG : XG s00) (hNc : XNc s00) (S : XS) (p1 p2 p3 p4 : Int32) (r9 : Int32) (S9 : XS) (hf : f_L_buyTruce S p1 p2 p3 p4 = some (r9, S9)) : XWr l yL_buyTruce cL_buyTruce 7 [(0, 14, 17, 24), (0, 14, 21, 13), (0, 14, 25, 18)] 8 6 D cy s00 shW ad S [.ref (ad 0), .int p1, .int p2, .int p3, .int p4, .ref (ad 154)] r9 S9 := by
  refine XWr.of (by decide) [(0, .ref (ad 0)), (1, .int p1), (2, .int p2), (3, .int p3), (4, .int p4), (5, .ref (ad 154))] rfl (Nat.le_of_ble_eq_true rfl) (fun p e s m args below meth c A ls E h hl hex => ?_)
  unfold f_L_buyTruce at hf
  refine lv_aload E.1 E.2.1 dL_buyTruce_0 (lv_at hl 5 rfl) ?_
  refine lv_iconst (v := 0) E.1 E.2.1 dL_buyTruce_2 (by decide) ?_
  refine lv_aload_n E.1 E.2.1 dL_buyTruce_3 rfl (lv_at hl 0 rfl) ?_
  refine lv_iload_n E.1 E.2.1 dL_buyTruce_4 rfl (lv_at hl 1 rfl) ?_
  refine lv_iload_n E.1 E.2.1 dL_buyTruce_5 rfl (lv_at hl 2 rfl) ?_
  refine lv_iload_n E.1 E.2.1 dL_buyTruce_6 rfl (lv_at hl 3 rfl) ?_
  refine lv_iload E.1 E.2.1 dL_buyTruce_7 (lv_at hl 4 rfl) ?_
  refine x_xcallW E h hl 0 0 hf xsub_W (fun E8 r8 S8 hr => c_X8_buyTruce l D cy s00 _ hT hG (xs 0 S) p1 p2 p3 p4 E8 r8 S8 hr) m_X8_buyTruce rfl rfl kw1069 rfl rfl (Nat.le_of_ble_eq_true rfl) ⟨Nat.le_of_ble_eq_true rfl, Nat.le_of_ble_eq_true rfl⟩ ⟨Nat.le_of_ble_eq_true rfl, Nat.le_of_ble_eq_true rfl⟩ dL_buyTruce_9 (fun v S3 H locs hf h => ?_) (fun E1 S3 ce q H locs hf h hcell hv hcl => ?_)
  · refine lv_i2l E.1 E.2.1 dL_buyTruce_12 rfl ?_
    refine x_last1 E h 154 hf rfl rfl dL_buyTruce_13 (fun S4 H locs hf h => ?_)
    refine lv_goto (tgt := 29) E.1 E.2.1 dL_buyTruce_14 (by decide) ?_
    refine lv_iconst (v := 0) E.1 E.2.1 dL_buyTruce_29 (by decide) ?_
    exact x_wret E h hf ⟨Nat.le_of_ble_eq_true rfl, Nat.le_of_ble_eq_true rfl⟩ dL_buyTruce_30
  · refine x_case hf (fun c9 hf => ?_) (fun c9 hf => ?_)
    · refine x_catch hNc hT.2 E hex 0 1 rfl c9 (by decide) (by decide) (by decide +kernel) (fun z hz => by cases hz) (by decide +kernel) (by decide) kw981 (by simp [xDw, xEn, xEns]) hcell hv hcl ?_
      refine lv_astore (lv' := (6, .ref q) :: [(0, .ref (ad 0)), (1, .int p1), (2, .int p2), (3, .int p3), (4, .int p4), (5, .ref (ad 154))]) E.1 E.2.1 dL_buyTruce_17 hl (by decide) rfl (fun ls hl => ?_)
      refine lv_iconst (v := 1) E.1 E.2.1 dL_buyTruce_19 (by decide) ?_
      exact x_wret E h hf ⟨Nat.le_of_ble_eq_true rfl, Nat.le_of_ble_eq_true rfl⟩ dL_buyTruce_20
    refine x_case hf (fun c9 hf => ?_) (fun c9 hf => ?_)
    · refine x_catch hNc hT.2 E hex 1 2 rfl c9 (by decide) (by decide) (by decide +kernel) (fun z hz => by
        rcases List.mem_cons.mp hz with rfl | hz
        · exact ⟨1, by decide, by decide, by decide, kw981⟩
        cases hz) (by decide +kernel) (by decide) kw872 (by simp [xDw, xEn, xEns]) hcell hv hcl ?_
      refine lv_astore (lv' := (6, .ref q) :: [(0, .ref (ad 0)), (1, .int p1), (2, .int p2), (3, .int p3), (4, .int p4), (5, .ref (ad 154))]) E.1 E.2.1 dL_buyTruce_21 hl (by decide) rfl (fun ls hl => ?_)
      refine lv_iconst (v := 2) E.1 E.2.1 dL_buyTruce_23 (by decide) ?_
      exact x_wret E h hf ⟨Nat.le_of_ble_eq_true rfl, Nat.le_of_ble_eq_true rfl⟩ dL_buyTruce_24
    refine x_case hf (fun c9 hf => ?_) (fun c9 hf => ?_)
    · refine x_catch hNc hT.2 E hex 2 3 rfl c9 (by decide) (by decide) (by decide +kernel) (fun z hz => by
        rcases List.mem_cons.mp hz with rfl | hz
        · exact ⟨1, by decide, by decide, by decide, kw981⟩
        rcases List.mem_cons.mp hz with rfl | hz
        · exact ⟨2, by decide, by decide, by decide, kw872⟩
        cases hz) (by decide +kernel) (by decide) kw948 (by simp [xDw, xEn, xEns]) hcell hv hcl ?_
      refine lv_astore (lv' := (6, .ref q) :: [(0, .ref (ad 0)), (1, .int p1), (2, .int p2), (3, .int p3), (4, .int p4), (5, .ref (ad 154))]) E.1 E.2.1 dL_buyTruce_25 hl (by decide) rfl (fun ls hl => ?_)
      refine lv_iconst (v := 3) E.1 E.2.1 dL_buyTruce_27 (by decide) ?_
      exact x_wret E h hf ⟨Nat.le_of_ble_eq_true rfl, Nat.le_of_ble_eq_true rfl⟩ dL_buyTruce_28
    cases hf
theorem mw_L_nominate : Cond.static yL_nominate ∈ lwX ∧ Cond.initialized yL_nominate.cls ∈ lwX ∧ Cond.codeWith yL_nominate cL_nominate 5 (some .int) [(0, 10, 13, 13), (0, 10, 17, 18)] ∈ lwX := ⟨kw1075, kw115, kw1076⟩
set_option maxHeartbeats 4000000 in
set_option maxRecDepth 100000 in
theorem c_L_nominate (l : Launch) (D : va_G) (cy : Nat → ClassId) (s00 : State) (ad : Nat → Nat) (hT : l.stackTraces = false ∧ XDW s00) (hG : XG s00) (hNc : XNc s00) (S : XS) (p1 p2 : Int32) (r9 : Int32) (S9 : XS) (hf : f_L_nominate S p1 p2 = some (r9, S9)) : XWr l yL_nominate cL_nominate 5 [(0, 10, 13, 13), (0, 10, 17, 18)] 8 3 D cy s00 shW ad S [.ref (ad 0), .int p1, .int p2, .ref (ad 154)] r9 S9 := by
  refine XWr.of (by decide) [(0, .ref (ad 0)), (1, .int p1), (2, .int p2), (3, .ref (ad 154))] rfl (Nat.le_of_ble_eq_true rfl) (fun p e s m args below meth c A ls E h hl hex => ?_)
  unfold f_L_nominate at hf
  refine lv_aload_n E.1 E.2.1 dL_nominate_0 rfl (lv_at hl 3 rfl) ?_
  refine lv_iconst (v := 0) E.1 E.2.1 dL_nominate_1 (by decide) ?_
  refine lv_aload_n E.1 E.2.1 dL_nominate_2 rfl (lv_at hl 0 rfl) ?_
  refine lv_iload_n E.1 E.2.1 dL_nominate_3 rfl (lv_at hl 1 rfl) ?_
  refine lv_iload_n E.1 E.2.1 dL_nominate_4 rfl (lv_at hl 2 rfl) ?_
  refine x_xcallW E h hl 0 0 hf xsub_W (fun E8 r8 S8 hr => c_X8_nominate l D cy s00 _ hT hG (xs 0 S) p1 p2 E8 r8 S8 hr) m_X8_nominate rfl rfl kw1077 rfl rfl (Nat.le_of_ble_eq_true rfl) ⟨Nat.le_of_ble_eq_true rfl, Nat.le_of_ble_eq_true rfl⟩ ⟨Nat.le_of_ble_eq_true rfl, Nat.le_of_ble_eq_true rfl⟩ dL_nominate_5 (fun v S3 H locs hf h => ?_) (fun E1 S3 ce q H locs hf h hcell hv hcl => ?_)
  · refine lv_i2l E.1 E.2.1 dL_nominate_8 rfl ?_
    refine x_last1 E h 154 hf rfl rfl dL_nominate_9 (fun S4 H locs hf h => ?_)
    refine lv_goto (tgt := 21) E.1 E.2.1 dL_nominate_10 (by decide) ?_
    refine lv_iconst (v := 0) E.1 E.2.1 dL_nominate_21 (by decide) ?_
    exact x_wret E h hf ⟨Nat.le_of_ble_eq_true rfl, Nat.le_of_ble_eq_true rfl⟩ dL_nominate_22
  · refine x_case hf (fun c9 hf => ?_) (fun c9 hf => ?_)
    · refine x_catch hNc hT.2 E hex 0 2 rfl c9 (by decide) (by decide) (by decide +kernel) (fun z hz => by cases hz) (by decide +kernel) (by decide) kw872 (by simp [xDw, xEn, xEns]) hcell hv hcl ?_
      refine lv_astore (lv' := (4, .ref q) :: [(0, .ref (ad 0)), (1, .int p1), (2, .int p2), (3, .ref (ad 154))]) E.1 E.2.1 dL_nominate_13 hl (by decide) rfl (fun ls hl => ?_)
      refine lv_iconst (v := 1) E.1 E.2.1 dL_nominate_15 (by decide) ?_
      exact x_wret E h hf ⟨Nat.le_of_ble_eq_true rfl, Nat.le_of_ble_eq_true rfl⟩ dL_nominate_16
    refine x_case hf (fun c9 hf => ?_) (fun c9 hf => ?_)
    · refine x_catch hNc hT.2 E hex 1 3 rfl c9 (by decide) (by decide) (by decide +kernel) (fun z hz => by
        rcases List.mem_cons.mp hz with rfl | hz
        · exact ⟨2, by decide, by decide, by decide, kw872⟩
        cases hz) (by decide +kernel) (by decide) kw948 (by simp [xDw, xEn, xEns]) hcell hv hcl ?_
      refine lv_astore (lv' := (4, .ref q) :: [(0, .ref (ad 0)), (1, .int p1), (2, .int p2), (3, .ref (ad 154))]) E.1 E.2.1 dL_nominate_17 hl (by decide) rfl (fun ls hl => ?_)
      refine lv_iconst (v := 2) E.1 E.2.1 dL_nominate_19 (by decide) ?_
      exact x_wret E h hf ⟨Nat.le_of_ble_eq_true rfl, Nat.le_of_ble_eq_true rfl⟩ dL_nominate_20
    cases hf
theorem mw_L_vote : Cond.static yL_vote ∈ lwX ∧ Cond.initialized yL_vote.cls ∈ lwX ∧ Cond.codeWith yL_vote cL_vote 5 (some .int) [(0, 17, 20, 24), (0, 17, 24, 18)] ∈ lwX := ⟨kw1084, kw115, kw1085⟩
set_option maxHeartbeats 4000000 in
set_option maxRecDepth 100000 in
theorem c_L_vote (l : Launch) (D : va_G) (cy : Nat → ClassId) (s00 : State) (ad : Nat → Nat) (hT : l.stackTraces = false ∧ XDW s00) (hG : XG s00) (hNc : XNc s00) (S : XS) (p1 p2 : Int32) (r9 : Int32) (S9 : XS) (hf : f_L_vote S p1 p2 = some (r9, S9)) : XWr l yL_vote cL_vote 5 [(0, 17, 20, 24), (0, 17, 24, 18)] 8 2 D cy s00 shW ad S [.ref (ad 0), .int p1, .int p2, .ref (ad 154)] r9 S9 := by
  refine XWr.of (by decide) [(0, .ref (ad 0)), (1, .int p1), (2, .int p2), (3, .ref (ad 154))] rfl (Nat.le_of_ble_eq_true rfl) (fun p e s m args below meth c A ls E h hl hex => ?_)
  unfold f_L_vote at hf
  refine lv_aload_n E.1 E.2.1 dL_vote_0 rfl (lv_at hl 3 rfl) ?_
  refine lv_iconst (v := 0) E.1 E.2.1 dL_vote_1 (by decide) ?_
  refine lv_aload_n E.1 E.2.1 dL_vote_2 rfl (lv_at hl 0 rfl) ?_
  refine lv_iload_n E.1 E.2.1 dL_vote_3 rfl (lv_at hl 1 rfl) ?_
  refine lv_iload_n E.1 E.2.1 dL_vote_4 rfl (lv_at hl 2 rfl) ?_
  refine x_xcallW E h hl 0 0 hf xsub_W (fun E8 r8 S8 hr => c_X8_vote l D cy s00 _ hT hG (xs 0 S) p1 p2 E8 r8 S8 hr) m_X8_vote rfl rfl kw1086 rfl rfl (Nat.le_of_ble_eq_true rfl) ⟨Nat.le_of_ble_eq_true rfl, Nat.le_of_ble_eq_true rfl⟩ ⟨Nat.le_of_ble_eq_true rfl, Nat.le_of_ble_eq_true rfl⟩ dL_vote_5 (fun v S3 H locs hf h => ?_) (fun E1 S3 ce q H locs hf h hcell hv hcl => ?_)
  · refine x_br hf (lv_if_eq (tgt := 15) E.1 E.2.1 dL_vote_8 (by decide)) (fun hf => ?_) (fun hf => ?_)
    · refine lv_lconst (v := (0 : Int32).toInt64) E.1 E.2.1 dL_vote_15 (by decide) ?_
      refine x_last1 E h 154 hf rfl rfl dL_vote_16 (fun S4 H locs hf h => ?_)
      refine lv_goto (tgt := 28) E.1 E.2.1 dL_vote_17 (by decide) ?_
      refine lv_iconst (v := 0) E.1 E.2.1 dL_vote_28 (by decide) ?_
      exact x_wret E h hf ⟨Nat.le_of_ble_eq_true rfl, Nat.le_of_ble_eq_true rfl⟩ dL_vote_29
    · refine lv_lconst (v := (1 : Int32).toInt64) E.1 E.2.1 dL_vote_11 (by decide) ?_
      refine lv_goto (tgt := 16) E.1 E.2.1 dL_vote_12 (by decide) ?_
      refine x_last1 E h 154 hf rfl rfl dL_vote_16 (fun S4 H locs hf h => ?_)
      refine lv_goto (tgt := 28) E.1 E.2.1 dL_vote_17 (by decide) ?_
      refine lv_iconst (v := 0) E.1 E.2.1 dL_vote_28 (by decide) ?_
      exact x_wret E h hf ⟨Nat.le_of_ble_eq_true rfl, Nat.le_of_ble_eq_true rfl⟩ dL_vote_29
  · refine x_case hf (fun c9 hf => ?_) (fun c9 hf => ?_)
    · refine x_catch hNc hT.2 E hex 0 1 rfl c9 (by decide) (by decide) (by decide +kernel) (fun z hz => by cases hz) (by decide +kernel) (by decide) kw981 (by simp [xDw, xEn, xEns]) hcell hv hcl ?_
      refine lv_astore (lv' := (4, .ref q) :: [(0, .ref (ad 0)), (1, .int p1), (2, .int p2), (3, .ref (ad 154))]) E.1 E.2.1 dL_vote_20 hl (by decide) rfl (fun ls hl => ?_)
      refine lv_iconst (v := 1) E.1 E.2.1 dL_vote_22 (by decide) ?_
      exact x_wret E h hf ⟨Nat.le_of_ble_eq_true rfl, Nat.le_of_ble_eq_true rfl⟩ dL_vote_23
    refine x_case hf (fun c9 hf => ?_) (fun c9 hf => ?_)
    · refine x_catch hNc hT.2 E hex 1 3 rfl c9 (by decide) (by decide) (by decide +kernel) (fun z hz => by
        rcases List.mem_cons.mp hz with rfl | hz
        · exact ⟨1, by decide, by decide, by decide, kw981⟩
        cases hz) (by decide +kernel) (by decide) kw948 (by simp [xDw, xEn, xEns]) hcell hv hcl ?_
      refine lv_astore (lv' := (4, .ref q) :: [(0, .ref (ad 0)), (1, .int p1), (2, .int p2), (3, .ref (ad 154))]) E.1 E.2.1 dL_vote_24 hl (by decide) rfl (fun ls hl => ?_)
      refine lv_iconst (v := 2) E.1 E.2.1 dL_vote_26 (by decide) ?_
      exact x_wret E h hf ⟨Nat.le_of_ble_eq_true rfl, Nat.le_of_ble_eq_true rfl⟩ dL_vote_27
    cases hf
theorem mw_L_passNights : Cond.static yL_passNights ∈ lwX ∧ Cond.initialized yL_passNights.cls ∈ lwX ∧ Cond.codeWith yL_passNights cL_passNights 4 (some .int) [(0, 9, 12, 13), (0, 9, 15, 18)] ∈ lwX := ⟨kw1093, kw115, kw1094⟩
set_option maxHeartbeats 4000000 in
set_option maxRecDepth 100000 in
theorem c_L_passNights (l : Launch) (D : va_G) (cy : Nat → ClassId) (s00 : State) (ad : Nat → Nat) (hT : l.stackTraces = false ∧ XDW s00) (hG : XG s00) (hNc : XNc s00) (S : XS) (p1 : Int32) (r9 : Int32) (S9 : XS) (hf : f_L_passNights S p1 = some (r9, S9)) : XWr l yL_passNights cL_passNights 4 [(0, 9, 12, 13), (0, 9, 15, 18)] 8 2 D cy s00 shW ad S [.ref (ad 0), .int p1, .ref (ad 154)] r9 S9 := by
  refine XWr.of (by decide) [(0, .ref (ad 0)), (1, .int p1), (2, .ref (ad 154))] rfl (Nat.le_of_ble_eq_true rfl) (fun p e s m args below meth c A ls E h hl hex => ?_)
  unfold f_L_passNights at hf
  refine lv_aload_n E.1 E.2.1 dL_passNights_0 rfl (lv_at hl 2 rfl) ?_
  refine lv_iconst (v := 0) E.1 E.2.1 dL_passNights_1 (by decide) ?_
  refine lv_aload_n E.1 E.2.1 dL_passNights_2 rfl (lv_at hl 0 rfl) ?_
  refine lv_iload_n E.1 E.2.1 dL_passNights_3 rfl (lv_at hl 1 rfl) ?_
  refine x_xcallW E h hl 0 0 hf xsub_W (fun E8 r8 S8 hr => c_X8_passNights l D cy s00 _ hT hG (xs 0 S) p1 E8 r8 S8 hr) m_X8_passNights rfl rfl kw1095 rfl rfl (Nat.le_of_ble_eq_true rfl) ⟨Nat.le_of_ble_eq_true rfl, Nat.le_of_ble_eq_true rfl⟩ ⟨Nat.le_of_ble_eq_true rfl, Nat.le_of_ble_eq_true rfl⟩ dL_passNights_4 (fun v S3 H locs hf h => ?_) (fun E1 S3 ce q H locs hf h hcell hv hcl => ?_)
  · refine lv_i2l E.1 E.2.1 dL_passNights_7 rfl ?_
    refine x_last1 E h 154 hf rfl rfl dL_passNights_8 (fun S4 H locs hf h => ?_)
    refine lv_goto (tgt := 18) E.1 E.2.1 dL_passNights_9 (by decide) ?_
    refine lv_iconst (v := 0) E.1 E.2.1 dL_passNights_18 (by decide) ?_
    exact x_wret E h hf ⟨Nat.le_of_ble_eq_true rfl, Nat.le_of_ble_eq_true rfl⟩ dL_passNights_19
  · refine x_case hf (fun c9 hf => ?_) (fun c9 hf => ?_)
    · refine x_catch hNc hT.2 E hex 0 2 rfl c9 (by decide) (by decide) (by decide +kernel) (fun z hz => by cases hz) (by decide +kernel) (by decide) kw872 (by simp [xDw, xEn, xEns]) hcell hv hcl ?_
      refine lv_astore_n (lv' := (3, .ref q) :: [(0, .ref (ad 0)), (1, .int p1), (2, .ref (ad 154))]) E.1 E.2.1 dL_passNights_12 rfl hl (by decide) rfl (fun ls hl => ?_)
      refine lv_iconst (v := 1) E.1 E.2.1 dL_passNights_13 (by decide) ?_
      exact x_wret E h hf ⟨Nat.le_of_ble_eq_true rfl, Nat.le_of_ble_eq_true rfl⟩ dL_passNights_14
    refine x_case hf (fun c9 hf => ?_) (fun c9 hf => ?_)
    · refine x_catch hNc hT.2 E hex 1 3 rfl c9 (by decide) (by decide) (by decide +kernel) (fun z hz => by
        rcases List.mem_cons.mp hz with rfl | hz
        · exact ⟨2, by decide, by decide, by decide, kw872⟩
        cases hz) (by decide +kernel) (by decide) kw948 (by simp [xDw, xEn, xEns]) hcell hv hcl ?_
      refine lv_astore_n (lv' := (3, .ref q) :: [(0, .ref (ad 0)), (1, .int p1), (2, .ref (ad 154))]) E.1 E.2.1 dL_passNights_15 rfl hl (by decide) rfl (fun ls hl => ?_)
      refine lv_iconst (v := 2) E.1 E.2.1 dL_passNights_16 (by decide) ?_
      exact x_wret E h hf ⟨Nat.le_of_ble_eq_true rfl, Nat.le_of_ble_eq_true rfl⟩ dL_passNights_17
    cases hf
theorem mw_L_restoreSnapshot : Cond.static yL_restoreSnapshot ∈ lwX ∧ Cond.initialized yL_restoreSnapshot.cls ∈ lwX ∧ Cond.codeWith yL_restoreSnapshot cL_restoreSnapshot 3 (some .int) [(0, 8, 11, 61)] ∈ lwX := ⟨kw1101, kw115, kw1102⟩
set_option maxHeartbeats 4000000 in
set_option maxRecDepth 100000 in
theorem c_L_restoreSnapshot (l : Launch) (D : va_G) (cy : Nat → ClassId) (s00 : State) (ad : Nat → Nat) (hT : l.stackTraces = false ∧ XDW s00) (hG : XG s00) (hNc : XNc s00) (S : XS) (r9 : Int32) (S9 : XS) (hf : f_L_restoreSnapshot S = some (r9, S9)) : XWr l yL_restoreSnapshot cL_restoreSnapshot 3 [(0, 8, 11, 61)] 7 1 D cy s00 shW ad S [.ref (ad 0), .ref (ad 154)] r9 S9 := by
  refine XWr.of (by decide) [(0, .ref (ad 0)), (1, .ref (ad 154))] rfl (Nat.le_of_ble_eq_true rfl) (fun p e s m args below meth c A ls E h hl hex => ?_)
  unfold f_L_restoreSnapshot at hf
  refine lv_aload_n E.1 E.2.1 dL_restoreSnapshot_0 rfl (lv_at hl 1 rfl) ?_
  refine lv_iconst (v := 0) E.1 E.2.1 dL_restoreSnapshot_1 (by decide) ?_
  refine lv_aload_n E.1 E.2.1 dL_restoreSnapshot_2 rfl (lv_at hl 0 rfl) ?_
  refine x_xcallW E h hl 0 0 hf xsub_W (fun E8 r8 S8 hr => c_X8_restoreSnapshot l D cy s00 _ hT hG (xs 0 S) E8 r8 S8 hr) m_X8_restoreSnapshot rfl rfl kw1104 rfl rfl (Nat.le_of_ble_eq_true rfl) ⟨Nat.le_of_ble_eq_true rfl, Nat.le_of_ble_eq_true rfl⟩ ⟨Nat.le_of_ble_eq_true rfl, Nat.le_of_ble_eq_true rfl⟩ dL_restoreSnapshot_3 (fun v S3 H locs hf h => ?_) (fun E1 S3 ce q H locs hf h hcell hv hcl => ?_)
  · refine lv_i2l E.1 E.2.1 dL_restoreSnapshot_6 rfl ?_
    refine x_last1 E h 154 hf rfl rfl dL_restoreSnapshot_7 (fun S4 H locs hf h => ?_)
    refine lv_goto (tgt := 14) E.1 E.2.1 dL_restoreSnapshot_8 (by decide) ?_
    refine lv_iconst (v := 0) E.1 E.2.1 dL_restoreSnapshot_14 (by decide) ?_
    exact x_wret E h hf ⟨Nat.le_of_ble_eq_true rfl, Nat.le_of_ble_eq_true rfl⟩ dL_restoreSnapshot_15
  · refine x_case hf (fun c9 hf => ?_) (fun c9 hf => ?_)
    · refine x_catch hNc hT.2 E hex 0 4 rfl c9 (by decide) (by decide) (by decide +kernel) (fun z hz => by cases hz) (by decide +kernel) (by decide) kw1103 (by simp [xDw, xEn, xEns]) hcell hv hcl ?_
      refine lv_astore_n (lv' := (2, .ref q) :: [(0, .ref (ad 0)), (1, .ref (ad 154))]) E.1 E.2.1 dL_restoreSnapshot_11 rfl hl (by decide) rfl (fun ls hl => ?_)
      refine lv_iconst (v := 1) E.1 E.2.1 dL_restoreSnapshot_12 (by decide) ?_
      exact x_wret E h hf ⟨Nat.le_of_ble_eq_true rfl, Nat.le_of_ble_eq_true rfl⟩ dL_restoreSnapshot_13
    cases hf
theorem mw_L_warmth : Cond.static yL_warmth ∈ lwX ∧ Cond.initialized yL_warmth.cls ∈ lwX ∧ Cond.codeWith yL_warmth cL_warmth 4 (some .int) [(0, 9, 12, 24)] ∈ lwX := ⟨kw1129, kw115, kw1130⟩
set_option maxHeartbeats 4000000 in
set_option maxRecDepth 100000 in
theorem c_L_warmth (l : Launch) (D : va_G) (cy : Nat → ClassId) (s00 : State) (ad : Nat → Nat) (hT : l.stackTraces = false ∧ XDW s00) (hG : XG s00) (hNc : XNc s00) (S : XS) (p1 : Int32) (r9 : Int32) (S9 : XS) (hf : f_L_warmth S p1 = some (r9, S9)) : XWr l yL_warmth cL_warmth 4 [(0, 9, 12, 24)] 8 1 D cy s00 shW ad S [.ref (ad 0), .int p1, .ref (ad 154)] r9 S9 := by
  refine XWr.of (by decide) [(0, .ref (ad 0)), (1, .int p1), (2, .ref (ad 154))] rfl (Nat.le_of_ble_eq_true rfl) (fun p e s m args below meth c A ls E h hl hex => ?_)
  unfold f_L_warmth at hf
  refine lv_aload_n E.1 E.2.1 dL_warmth_0 rfl (lv_at hl 2 rfl) ?_
  refine lv_iconst (v := 0) E.1 E.2.1 dL_warmth_1 (by decide) ?_
  refine lv_aload_n E.1 E.2.1 dL_warmth_2 rfl (lv_at hl 0 rfl) ?_
  refine lv_iload_n E.1 E.2.1 dL_warmth_3 rfl (lv_at hl 1 rfl) ?_
  refine x_xcallW E h hl 0 0 hf xsub_W (fun E8 r8 S8 hr => c_X8_warmth l D cy s00 _ hT hG (xs 0 S) p1 E8 r8 S8 hr) m_X8_warmth rfl rfl kw1131 rfl rfl (Nat.le_of_ble_eq_true rfl) ⟨Nat.le_of_ble_eq_true rfl, Nat.le_of_ble_eq_true rfl⟩ ⟨Nat.le_of_ble_eq_true rfl, Nat.le_of_ble_eq_true rfl⟩ dL_warmth_4 (fun v S3 H locs hf h => ?_) (fun E1 S3 ce q H locs hf h hcell hv hcl => ?_)
  · refine lv_i2l E.1 E.2.1 dL_warmth_7 rfl ?_
    refine x_last1 E h 154 hf rfl rfl dL_warmth_8 (fun S4 H locs hf h => ?_)
    refine lv_goto (tgt := 15) E.1 E.2.1 dL_warmth_9 (by decide) ?_
    refine lv_iconst (v := 0) E.1 E.2.1 dL_warmth_15 (by decide) ?_
    exact x_wret E h hf ⟨Nat.le_of_ble_eq_true rfl, Nat.le_of_ble_eq_true rfl⟩ dL_warmth_16
  · refine x_case hf (fun c9 hf => ?_) (fun c9 hf => ?_)
    · refine x_catch hNc hT.2 E hex 0 1 rfl c9 (by decide) (by decide) (by decide +kernel) (fun z hz => by cases hz) (by decide +kernel) (by decide) kw981 (by simp [xDw, xEn, xEns]) hcell hv hcl ?_
      refine lv_astore_n (lv' := (3, .ref q) :: [(0, .ref (ad 0)), (1, .int p1), (2, .ref (ad 154))]) E.1 E.2.1 dL_warmth_12 rfl hl (by decide) rfl (fun ls hl => ?_)
      refine lv_iconst (v := 1) E.1 E.2.1 dL_warmth_13 (by decide) ?_
      exact x_wret E h hf ⟨Nat.le_of_ble_eq_true rfl, Nat.le_of_ble_eq_true rfl⟩ dL_warmth_14
    cases hf
theorem mw_L_ownerOf : Cond.static yL_ownerOf ∈ lwX ∧ Cond.initialized yL_ownerOf.cls ∈ lwX ∧ Cond.codeWith yL_ownerOf cL_ownerOf 4 (some .int) [(0, 9, 12, 24)] ∈ lwX := ⟨kw1136, kw115, kw1137⟩
set_option maxHeartbeats 4000000 in
set_option maxRecDepth 100000 in
theorem c_L_ownerOf (l : Launch) (D : va_G) (cy : Nat → ClassId) (s00 : State) (ad : Nat → Nat) (hT : l.stackTraces = false ∧ XDW s00) (hG : XG s00) (hNc : XNc s00) (S : XS) (p1 : Int32) (r9 : Int32) (S9 : XS) (hf : f_L_ownerOf S p1 = some (r9, S9)) : XWr l yL_ownerOf cL_ownerOf 4 [(0, 9, 12, 24)] 8 1 D cy s00 shW ad S [.ref (ad 0), .int p1, .ref (ad 154)] r9 S9 := by
  refine XWr.of (by decide) [(0, .ref (ad 0)), (1, .int p1), (2, .ref (ad 154))] rfl (Nat.le_of_ble_eq_true rfl) (fun p e s m args below meth c A ls E h hl hex => ?_)
  unfold f_L_ownerOf at hf
  refine lv_aload_n E.1 E.2.1 dL_ownerOf_0 rfl (lv_at hl 2 rfl) ?_
  refine lv_iconst (v := 0) E.1 E.2.1 dL_ownerOf_1 (by decide) ?_
  refine lv_aload_n E.1 E.2.1 dL_ownerOf_2 rfl (lv_at hl 0 rfl) ?_
  refine lv_iload_n E.1 E.2.1 dL_ownerOf_3 rfl (lv_at hl 1 rfl) ?_
  refine x_xcallW E h hl 0 0 hf xsub_W (fun E8 r8 S8 hr => c_X8_ownerOf l D cy s00 _ hT hG (xs 0 S) p1 E8 r8 S8 hr) m_X8_ownerOf rfl rfl kw1138 rfl rfl (Nat.le_of_ble_eq_true rfl) ⟨Nat.le_of_ble_eq_true rfl, Nat.le_of_ble_eq_true rfl⟩ ⟨Nat.le_of_ble_eq_true rfl, Nat.le_of_ble_eq_true rfl⟩ dL_ownerOf_4 (fun v S3 H locs hf h => ?_) (fun E1 S3 ce q H locs hf h hcell hv hcl => ?_)
  · refine lv_i2l E.1 E.2.1 dL_ownerOf_7 rfl ?_
    refine x_last1 E h 154 hf rfl rfl dL_ownerOf_8 (fun S4 H locs hf h => ?_)
    refine lv_goto (tgt := 15) E.1 E.2.1 dL_ownerOf_9 (by decide) ?_
    refine lv_iconst (v := 0) E.1 E.2.1 dL_ownerOf_15 (by decide) ?_
    exact x_wret E h hf ⟨Nat.le_of_ble_eq_true rfl, Nat.le_of_ble_eq_true rfl⟩ dL_ownerOf_16
  · refine x_case hf (fun c9 hf => ?_) (fun c9 hf => ?_)
    · refine x_catch hNc hT.2 E hex 0 1 rfl c9 (by decide) (by decide) (by decide +kernel) (fun z hz => by cases hz) (by decide +kernel) (by decide) kw981 (by simp [xDw, xEn, xEns]) hcell hv hcl ?_
      refine lv_astore_n (lv' := (3, .ref q) :: [(0, .ref (ad 0)), (1, .int p1), (2, .ref (ad 154))]) E.1 E.2.1 dL_ownerOf_12 rfl hl (by decide) rfl (fun ls hl => ?_)
      refine lv_iconst (v := 1) E.1 E.2.1 dL_ownerOf_13 (by decide) ?_
      exact x_wret E h hf ⟨Nat.le_of_ble_eq_true rfl, Nat.le_of_ble_eq_true rfl⟩ dL_ownerOf_14
    cases hf
theorem mw_L_catOn : Cond.static yL_catOn ∈ lwX ∧ Cond.initialized yL_catOn.cls ∈ lwX ∧ Cond.codeWith yL_catOn cL_catOn 4 (some .int) [(0, 9, 12, 24)] ∈ lwX := ⟨kw1143, kw115, kw1144⟩
set_option maxHeartbeats 4000000 in
set_option maxRecDepth 100000 in
theorem c_L_catOn (l : Launch) (D : va_G) (cy : Nat → ClassId) (s00 : State) (ad : Nat → Nat) (hT : l.stackTraces = false ∧ XDW s00) (hG : XG s00) (hNc : XNc s00) (S : XS) (p1 : Int32) (r9 : Int32) (S9 : XS) (hf : f_L_catOn S p1 = some (r9, S9)) : XWr l yL_catOn cL_catOn 4 [(0, 9, 12, 24)] 8 1 D cy s00 shW ad S [.ref (ad 0), .int p1, .ref (ad 154)] r9 S9 := by
  refine XWr.of (by decide) [(0, .ref (ad 0)), (1, .int p1), (2, .ref (ad 154))] rfl (Nat.le_of_ble_eq_true rfl) (fun p e s m args below meth c A ls E h hl hex => ?_)
  unfold f_L_catOn at hf
  refine lv_aload_n E.1 E.2.1 dL_catOn_0 rfl (lv_at hl 2 rfl) ?_
  refine lv_iconst (v := 0) E.1 E.2.1 dL_catOn_1 (by decide) ?_
  refine lv_aload_n E.1 E.2.1 dL_catOn_2 rfl (lv_at hl 0 rfl) ?_
  refine lv_iload_n E.1 E.2.1 dL_catOn_3 rfl (lv_at hl 1 rfl) ?_
  refine x_xcallW E h hl 0 0 hf xsub_W (fun E8 r8 S8 hr => c_X8_catOn l D cy s00 _ hT hG (xs 0 S) p1 E8 r8 S8 hr) m_X8_catOn rfl rfl kw1145 rfl rfl (Nat.le_of_ble_eq_true rfl) ⟨Nat.le_of_ble_eq_true rfl, Nat.le_of_ble_eq_true rfl⟩ ⟨Nat.le_of_ble_eq_true rfl, Nat.le_of_ble_eq_true rfl⟩ dL_catOn_4 (fun v S3 H locs hf h => ?_) (fun E1 S3 ce q H locs hf h hcell hv hcl => ?_)
  · refine lv_i2l E.1 E.2.1 dL_catOn_7 rfl ?_
    refine x_last1 E h 154 hf rfl rfl dL_catOn_8 (fun S4 H locs hf h => ?_)
    refine lv_goto (tgt := 15) E.1 E.2.1 dL_catOn_9 (by decide) ?_
    refine lv_iconst (v := 0) E.1 E.2.1 dL_catOn_15 (by decide) ?_
    exact x_wret E h hf ⟨Nat.le_of_ble_eq_true rfl, Nat.le_of_ble_eq_true rfl⟩ dL_catOn_16
  · refine x_case hf (fun c9 hf => ?_) (fun c9 hf => ?_)
    · refine x_catch hNc hT.2 E hex 0 1 rfl c9 (by decide) (by decide) (by decide +kernel) (fun z hz => by cases hz) (by decide +kernel) (by decide) kw981 (by simp [xDw, xEn, xEns]) hcell hv hcl ?_
      refine lv_astore_n (lv' := (3, .ref q) :: [(0, .ref (ad 0)), (1, .int p1), (2, .ref (ad 154))]) E.1 E.2.1 dL_catOn_12 rfl hl (by decide) rfl (fun ls hl => ?_)
      refine lv_iconst (v := 1) E.1 E.2.1 dL_catOn_13 (by decide) ?_
      exact x_wret E h hf ⟨Nat.le_of_ble_eq_true rfl, Nat.le_of_ble_eq_true rfl⟩ dL_catOn_14
    cases hf
theorem mw_L_gutterEnds : Cond.static yL_gutterEnds ∈ lwX ∧ Cond.initialized yL_gutterEnds.cls ∈ lwX ∧ Cond.codeWith yL_gutterEnds cL_gutterEnds 4 (some .int) [(0, 9, 12, 24)] ∈ lwX := ⟨kw1151, kw115, kw1152⟩
set_option maxHeartbeats 4000000 in
set_option maxRecDepth 100000 in
theorem c_L_gutterEnds (l : Launch) (D : va_G) (cy : Nat → ClassId) (s00 : State) (ad : Nat → Nat) (hT : l.stackTraces = false ∧ XDW s00) (hG : XG s00) (hNc : XNc s00) (S : XS) (p1 : Int32) (r9 : Int32) (S9 : XS) (hf : f_L_gutterEnds S p1 = some (r9, S9)) : XWr l yL_gutterEnds cL_gutterEnds 4 [(0, 9, 12, 24)] 8 1 D cy s00 shW ad S [.ref (ad 0), .int p1, .ref (ad 154)] r9 S9 := by
  refine XWr.of (by decide) [(0, .ref (ad 0)), (1, .int p1), (2, .ref (ad 154))] rfl (Nat.le_of_ble_eq_true rfl) (fun p e s m args below meth c A ls E h hl hex => ?_)
  unfold f_L_gutterEnds at hf
  refine lv_aload_n E.1 E.2.1 dL_gutterEnds_0 rfl (lv_at hl 2 rfl) ?_
  refine lv_iconst (v := 0) E.1 E.2.1 dL_gutterEnds_1 (by decide) ?_
  refine lv_aload_n E.1 E.2.1 dL_gutterEnds_2 rfl (lv_at hl 0 rfl) ?_
  refine lv_iload_n E.1 E.2.1 dL_gutterEnds_3 rfl (lv_at hl 1 rfl) ?_
  refine x_xcallW E h hl 0 0 hf xsub_W (fun E8 r8 S8 hr => c_X8_gutterEnds l D cy s00 _ hT hG (xs 0 S) p1 E8 r8 S8 hr) m_X8_gutterEnds rfl rfl kw1153 rfl rfl (Nat.le_of_ble_eq_true rfl) ⟨Nat.le_of_ble_eq_true rfl, Nat.le_of_ble_eq_true rfl⟩ ⟨Nat.le_of_ble_eq_true rfl, Nat.le_of_ble_eq_true rfl⟩ dL_gutterEnds_4 (fun v S3 H locs hf h => ?_) (fun E1 S3 ce q H locs hf h hcell hv hcl => ?_)
  · refine lv_i2l E.1 E.2.1 dL_gutterEnds_7 rfl ?_
    refine x_last1 E h 154 hf rfl rfl dL_gutterEnds_8 (fun S4 H locs hf h => ?_)
    refine lv_goto (tgt := 15) E.1 E.2.1 dL_gutterEnds_9 (by decide) ?_
    refine lv_iconst (v := 0) E.1 E.2.1 dL_gutterEnds_15 (by decide) ?_
    exact x_wret E h hf ⟨Nat.le_of_ble_eq_true rfl, Nat.le_of_ble_eq_true rfl⟩ dL_gutterEnds_16
  · refine x_case hf (fun c9 hf => ?_) (fun c9 hf => ?_)
    · refine x_catch hNc hT.2 E hex 0 1 rfl c9 (by decide) (by decide) (by decide +kernel) (fun z hz => by cases hz) (by decide +kernel) (by decide) kw981 (by simp [xDw, xEn, xEns]) hcell hv hcl ?_
      refine lv_astore_n (lv' := (3, .ref q) :: [(0, .ref (ad 0)), (1, .int p1), (2, .ref (ad 154))]) E.1 E.2.1 dL_gutterEnds_12 rfl hl (by decide) rfl (fun ls hl => ?_)
      refine lv_iconst (v := 1) E.1 E.2.1 dL_gutterEnds_13 (by decide) ?_
      exact x_wret E h hf ⟨Nat.le_of_ble_eq_true rfl, Nat.le_of_ble_eq_true rfl⟩ dL_gutterEnds_14
    cases hf
theorem mw_L_width : Cond.static yL_width ∈ lwX ∧ Cond.initialized yL_width.cls ∈ lwX ∧ Cond.codeWith yL_width cL_width 4 (some .int) [(0, 9, 12, 24)] ∈ lwX := ⟨kw1158, kw115, kw1159⟩
set_option maxHeartbeats 4000000 in
set_option maxRecDepth 100000 in
theorem c_L_width (l : Launch) (D : va_G) (cy : Nat → ClassId) (s00 : State) (ad : Nat → Nat) (hT : l.stackTraces = false ∧ XDW s00) (hG : XG s00) (hNc : XNc s00) (S : XS) (p1 : Int32) (r9 : Int32) (S9 : XS) (hf : f_L_width S p1 = some (r9, S9)) : XWr l yL_width cL_width 4 [(0, 9, 12, 24)] 8 1 D cy s00 shW ad S [.ref (ad 0), .int p1, .ref (ad 154)] r9 S9 := by
  refine XWr.of (by decide) [(0, .ref (ad 0)), (1, .int p1), (2, .ref (ad 154))] rfl (Nat.le_of_ble_eq_true rfl) (fun p e s m args below meth c A ls E h hl hex => ?_)
  unfold f_L_width at hf
  refine lv_aload_n E.1 E.2.1 dL_width_0 rfl (lv_at hl 2 rfl) ?_
  refine lv_iconst (v := 0) E.1 E.2.1 dL_width_1 (by decide) ?_
  refine lv_aload_n E.1 E.2.1 dL_width_2 rfl (lv_at hl 0 rfl) ?_
  refine lv_iload_n E.1 E.2.1 dL_width_3 rfl (lv_at hl 1 rfl) ?_
  refine x_xcallW E h hl 0 0 hf xsub_W (fun E8 r8 S8 hr => c_X8_width l D cy s00 _ hT hG (xs 0 S) p1 E8 r8 S8 hr) m_X8_width rfl rfl kw1160 rfl rfl (Nat.le_of_ble_eq_true rfl) ⟨Nat.le_of_ble_eq_true rfl, Nat.le_of_ble_eq_true rfl⟩ ⟨Nat.le_of_ble_eq_true rfl, Nat.le_of_ble_eq_true rfl⟩ dL_width_4 (fun v S3 H locs hf h => ?_) (fun E1 S3 ce q H locs hf h hcell hv hcl => ?_)
  · refine lv_i2l E.1 E.2.1 dL_width_7 rfl ?_
    refine x_last1 E h 154 hf rfl rfl dL_width_8 (fun S4 H locs hf h => ?_)
    refine lv_goto (tgt := 15) E.1 E.2.1 dL_width_9 (by decide) ?_
    refine lv_iconst (v := 0) E.1 E.2.1 dL_width_15 (by decide) ?_
    exact x_wret E h hf ⟨Nat.le_of_ble_eq_true rfl, Nat.le_of_ble_eq_true rfl⟩ dL_width_16
  · refine x_case hf (fun c9 hf => ?_) (fun c9 hf => ?_)
    · refine x_catch hNc hT.2 E hex 0 1 rfl c9 (by decide) (by decide) (by decide +kernel) (fun z hz => by cases hz) (by decide +kernel) (by decide) kw981 (by simp [xDw, xEn, xEns]) hcell hv hcl ?_
      refine lv_astore_n (lv' := (3, .ref q) :: [(0, .ref (ad 0)), (1, .int p1), (2, .ref (ad 154))]) E.1 E.2.1 dL_width_12 rfl hl (by decide) rfl (fun ls hl => ?_)
      refine lv_iconst (v := 1) E.1 E.2.1 dL_width_13 (by decide) ?_
      exact x_wret E h hf ⟨Nat.le_of_ble_eq_true rfl, Nat.le_of_ble_eq_true rfl⟩ dL_width_14
    cases hf
theorem mw_L_widestWay : Cond.static yL_widestWay ∈ lwX ∧ Cond.initialized yL_widestWay.cls ∈ lwX ∧ Cond.codeWith yL_widestWay cL_widestWay 5 (some .int) [(0, 10, 13, 24)] ∈ lwX := ⟨kw1165, kw115, kw1166⟩
set_option maxHeartbeats 4000000 in
set_option maxRecDepth 100000 in
theorem c_L_widestWay (l : Launch) (D : va_G) (cy : Nat → ClassId) (s00 : State) (ad : Nat → Nat) (hT : l.stackTraces = false ∧ XDW s00) (hG : XG s00) (hNc : XNc s00) (S : XS) (p1 p2 : Int32) (r9 : Int32) (S9 : XS) (hf : f_L_widestWay S p1 p2 = some (r9, S9)) : XWr l yL_widestWay cL_widestWay 5 [(0, 10, 13, 24)] 8 2 D cy s00 shW ad S [.ref (ad 0), .int p1, .int p2, .ref (ad 154)] r9 S9 := by
  refine XWr.of (by decide) [(0, .ref (ad 0)), (1, .int p1), (2, .int p2), (3, .ref (ad 154))] rfl (Nat.le_of_ble_eq_true rfl) (fun p e s m args below meth c A ls E h hl hex => ?_)
  unfold f_L_widestWay at hf
  refine lv_aload_n E.1 E.2.1 dL_widestWay_0 rfl (lv_at hl 3 rfl) ?_
  refine lv_iconst (v := 0) E.1 E.2.1 dL_widestWay_1 (by decide) ?_
  refine lv_aload_n E.1 E.2.1 dL_widestWay_2 rfl (lv_at hl 0 rfl) ?_
  refine lv_iload_n E.1 E.2.1 dL_widestWay_3 rfl (lv_at hl 1 rfl) ?_
  refine lv_iload_n E.1 E.2.1 dL_widestWay_4 rfl (lv_at hl 2 rfl) ?_
  refine x_xcallW E h hl 0 0 hf xsub_W (fun E8 r8 S8 hr => c_X8_widestWay l D cy s00 _ hT hG (xs 0 S) p1 p2 E8 r8 S8 hr) m_X8_widestWay rfl rfl kw1167 rfl rfl (Nat.le_of_ble_eq_true rfl) ⟨Nat.le_of_ble_eq_true rfl, Nat.le_of_ble_eq_true rfl⟩ ⟨Nat.le_of_ble_eq_true rfl, Nat.le_of_ble_eq_true rfl⟩ dL_widestWay_5 (fun v S3 H locs hf h => ?_) (fun E1 S3 ce q H locs hf h hcell hv hcl => ?_)
  · refine lv_i2l E.1 E.2.1 dL_widestWay_8 rfl ?_
    refine x_last1 E h 154 hf rfl rfl dL_widestWay_9 (fun S4 H locs hf h => ?_)
    refine lv_goto (tgt := 17) E.1 E.2.1 dL_widestWay_10 (by decide) ?_
    refine lv_iconst (v := 0) E.1 E.2.1 dL_widestWay_17 (by decide) ?_
    exact x_wret E h hf ⟨Nat.le_of_ble_eq_true rfl, Nat.le_of_ble_eq_true rfl⟩ dL_widestWay_18
  · refine x_case hf (fun c9 hf => ?_) (fun c9 hf => ?_)
    · refine x_catch hNc hT.2 E hex 0 1 rfl c9 (by decide) (by decide) (by decide +kernel) (fun z hz => by cases hz) (by decide +kernel) (by decide) kw981 (by simp [xDw, xEn, xEns]) hcell hv hcl ?_
      refine lv_astore (lv' := (4, .ref q) :: [(0, .ref (ad 0)), (1, .int p1), (2, .int p2), (3, .ref (ad 154))]) E.1 E.2.1 dL_widestWay_13 hl (by decide) rfl (fun ls hl => ?_)
      refine lv_iconst (v := 1) E.1 E.2.1 dL_widestWay_15 (by decide) ?_
      exact x_wret E h hf ⟨Nat.le_of_ble_eq_true rfl, Nat.le_of_ble_eq_true rfl⟩ dL_widestWay_16
    cases hf
theorem mw_L_girth : Cond.static yL_girth ∈ lwX ∧ Cond.initialized yL_girth.cls ∈ lwX ∧ Cond.codeWith yL_girth cL_girth 4 (some .int) [(0, 9, 12, 24)] ∈ lwX := ⟨kw1176, kw115, kw1177⟩
set_option maxHeartbeats 4000000 in
set_option maxRecDepth 100000 in
theorem c_L_girth (l : Launch) (D : va_G) (cy : Nat → ClassId) (s00 : State) (ad : Nat → Nat) (hT : l.stackTraces = false ∧ XDW s00) (hG : XG s00) (hNc : XNc s00) (S : XS) (p1 : Int32) (r9 : Int32) (S9 : XS) (hf : f_L_girth S p1 = some (r9, S9)) : XWr l yL_girth cL_girth 4 [(0, 9, 12, 24)] 8 1 D cy s00 shW ad S [.ref (ad 0), .int p1, .ref (ad 154)] r9 S9 := by
  refine XWr.of (by decide) [(0, .ref (ad 0)), (1, .int p1), (2, .ref (ad 154))] rfl (Nat.le_of_ble_eq_true rfl) (fun p e s m args below meth c A ls E h hl hex => ?_)
  unfold f_L_girth at hf
  refine lv_aload_n E.1 E.2.1 dL_girth_0 rfl (lv_at hl 2 rfl) ?_
  refine lv_iconst (v := 0) E.1 E.2.1 dL_girth_1 (by decide) ?_
  refine lv_aload_n E.1 E.2.1 dL_girth_2 rfl (lv_at hl 0 rfl) ?_
  refine lv_iload_n E.1 E.2.1 dL_girth_3 rfl (lv_at hl 1 rfl) ?_
  refine x_xcallW E h hl 0 0 hf xsub_W (fun E8 r8 S8 hr => c_X8_girth l D cy s00 _ hT hG (xs 0 S) p1 E8 r8 S8 hr) m_X8_girth rfl rfl kw1178 rfl rfl (Nat.le_of_ble_eq_true rfl) ⟨Nat.le_of_ble_eq_true rfl, Nat.le_of_ble_eq_true rfl⟩ ⟨Nat.le_of_ble_eq_true rfl, Nat.le_of_ble_eq_true rfl⟩ dL_girth_4 (fun v S3 H locs hf h => ?_) (fun E1 S3 ce q H locs hf h hcell hv hcl => ?_)
  · refine lv_i2l E.1 E.2.1 dL_girth_7 rfl ?_
    refine x_last1 E h 154 hf rfl rfl dL_girth_8 (fun S4 H locs hf h => ?_)
    refine lv_goto (tgt := 15) E.1 E.2.1 dL_girth_9 (by decide) ?_
    refine lv_iconst (v := 0) E.1 E.2.1 dL_girth_15 (by decide) ?_
    exact x_wret E h hf ⟨Nat.le_of_ble_eq_true rfl, Nat.le_of_ble_eq_true rfl⟩ dL_girth_16
  · refine x_case hf (fun c9 hf => ?_) (fun c9 hf => ?_)
    · refine x_catch hNc hT.2 E hex 0 1 rfl c9 (by decide) (by decide) (by decide +kernel) (fun z hz => by cases hz) (by decide +kernel) (by decide) kw981 (by simp [xDw, xEn, xEns]) hcell hv hcl ?_
      refine lv_astore_n (lv' := (3, .ref q) :: [(0, .ref (ad 0)), (1, .int p1), (2, .ref (ad 154))]) E.1 E.2.1 dL_girth_12 rfl hl (by decide) rfl (fun ls hl => ?_)
      refine lv_iconst (v := 1) E.1 E.2.1 dL_girth_13 (by decide) ?_
      exact x_wret E h hf ⟨Nat.le_of_ble_eq_true rfl, Nat.le_of_ble_eq_true rfl⟩ dL_girth_14
    cases hf
theorem mw_L_power : Cond.static yL_power ∈ lwX ∧ Cond.initialized yL_power.cls ∈ lwX ∧ Cond.codeWith yL_power cL_power 4 (some .int) [(0, 9, 12, 24)] ∈ lwX := ⟨kw1183, kw115, kw1184⟩
set_option maxHeartbeats 4000000 in
set_option maxRecDepth 100000 in
theorem c_L_power (l : Launch) (D : va_G) (cy : Nat → ClassId) (s00 : State) (ad : Nat → Nat) (hT : l.stackTraces = false ∧ XDW s00) (hG : XG s00) (hNc : XNc s00) (S : XS) (p1 : Int32) (r9 : Int32) (S9 : XS) (hf : f_L_power S p1 = some (r9, S9)) : XWr l yL_power cL_power 4 [(0, 9, 12, 24)] 8 1 D cy s00 shW ad S [.ref (ad 0), .int p1, .ref (ad 154)] r9 S9 := by
  refine XWr.of (by decide) [(0, .ref (ad 0)), (1, .int p1), (2, .ref (ad 154))] rfl (Nat.le_of_ble_eq_true rfl) (fun p e s m args below meth c A ls E h hl hex => ?_)
  unfold f_L_power at hf
  refine lv_aload_n E.1 E.2.1 dL_power_0 rfl (lv_at hl 2 rfl) ?_
  refine lv_iconst (v := 0) E.1 E.2.1 dL_power_1 (by decide) ?_
  refine lv_aload_n E.1 E.2.1 dL_power_2 rfl (lv_at hl 0 rfl) ?_
  refine lv_iload_n E.1 E.2.1 dL_power_3 rfl (lv_at hl 1 rfl) ?_
  refine x_xcallW E h hl 0 0 hf xsub_W (fun E8 r8 S8 hr => c_X8_power l D cy s00 _ hT hG (xs 0 S) p1 E8 r8 S8 hr) m_X8_power rfl rfl kw1185 rfl rfl (Nat.le_of_ble_eq_true rfl) ⟨Nat.le_of_ble_eq_true rfl, Nat.le_of_ble_eq_true rfl⟩ ⟨Nat.le_of_ble_eq_true rfl, Nat.le_of_ble_eq_true rfl⟩ dL_power_4 (fun v S3 H locs hf h => ?_) (fun E1 S3 ce q H locs hf h hcell hv hcl => ?_)
  · refine lv_i2l E.1 E.2.1 dL_power_7 rfl ?_
    refine x_last1 E h 154 hf rfl rfl dL_power_8 (fun S4 H locs hf h => ?_)
    refine lv_goto (tgt := 15) E.1 E.2.1 dL_power_9 (by decide) ?_
    refine lv_iconst (v := 0) E.1 E.2.1 dL_power_15 (by decide) ?_
    exact x_wret E h hf ⟨Nat.le_of_ble_eq_true rfl, Nat.le_of_ble_eq_true rfl⟩ dL_power_16
  · refine x_case hf (fun c9 hf => ?_) (fun c9 hf => ?_)
    · refine x_catch hNc hT.2 E hex 0 1 rfl c9 (by decide) (by decide) (by decide +kernel) (fun z hz => by cases hz) (by decide +kernel) (by decide) kw981 (by simp [xDw, xEn, xEns]) hcell hv hcl ?_
      refine lv_astore_n (lv' := (3, .ref q) :: [(0, .ref (ad 0)), (1, .int p1), (2, .ref (ad 154))]) E.1 E.2.1 dL_power_12 rfl hl (by decide) rfl (fun ls hl => ?_)
      refine lv_iconst (v := 1) E.1 E.2.1 dL_power_13 (by decide) ?_
      exact x_wret E h hf ⟨Nat.le_of_ble_eq_true rfl, Nat.le_of_ble_eq_true rfl⟩ dL_power_14
    cases hf
theorem mw_L_fish : Cond.static yL_fish ∈ lwX ∧ Cond.initialized yL_fish.cls ∈ lwX ∧ Cond.codeWith yL_fish cL_fish 4 (some .int) [(0, 9, 12, 24)] ∈ lwX := ⟨kw1191, kw115, kw1192⟩
set_option maxHeartbeats 4000000 in
set_option maxRecDepth 100000 in
theorem c_L_fish (l : Launch) (D : va_G) (cy : Nat → ClassId) (s00 : State) (ad : Nat → Nat) (hT : l.stackTraces = false ∧ XDW s00) (hG : XG s00) (hNc : XNc s00) (S : XS) (p1 : Int32) (r9 : Int32) (S9 : XS) (hf : f_L_fish S p1 = some (r9, S9)) : XWr l yL_fish cL_fish 4 [(0, 9, 12, 24)] 8 1 D cy s00 shW ad S [.ref (ad 0), .int p1, .ref (ad 154)] r9 S9 := by
  refine XWr.of (by decide) [(0, .ref (ad 0)), (1, .int p1), (2, .ref (ad 154))] rfl (Nat.le_of_ble_eq_true rfl) (fun p e s m args below meth c A ls E h hl hex => ?_)
  unfold f_L_fish at hf
  refine lv_aload_n E.1 E.2.1 dL_fish_0 rfl (lv_at hl 2 rfl) ?_
  refine lv_iconst (v := 0) E.1 E.2.1 dL_fish_1 (by decide) ?_
  refine lv_aload_n E.1 E.2.1 dL_fish_2 rfl (lv_at hl 0 rfl) ?_
  refine lv_iload_n E.1 E.2.1 dL_fish_3 rfl (lv_at hl 1 rfl) ?_
  refine x_xcallW E h hl 0 0 hf xsub_W (fun E8 r8 S8 hr => c_X8_fish l D cy s00 _ hT hG (xs 0 S) p1 E8 r8 S8 hr) m_X8_fish rfl rfl kw1193 rfl rfl (Nat.le_of_ble_eq_true rfl) ⟨Nat.le_of_ble_eq_true rfl, Nat.le_of_ble_eq_true rfl⟩ ⟨Nat.le_of_ble_eq_true rfl, Nat.le_of_ble_eq_true rfl⟩ dL_fish_4 (fun v S3 H locs hf h => ?_) (fun E1 S3 ce q H locs hf h hcell hv hcl => ?_)
  · refine lv_i2l E.1 E.2.1 dL_fish_7 rfl ?_
    refine x_last1 E h 154 hf rfl rfl dL_fish_8 (fun S4 H locs hf h => ?_)
    refine lv_goto (tgt := 15) E.1 E.2.1 dL_fish_9 (by decide) ?_
    refine lv_iconst (v := 0) E.1 E.2.1 dL_fish_15 (by decide) ?_
    exact x_wret E h hf ⟨Nat.le_of_ble_eq_true rfl, Nat.le_of_ble_eq_true rfl⟩ dL_fish_16
  · refine x_case hf (fun c9 hf => ?_) (fun c9 hf => ?_)
    · refine x_catch hNc hT.2 E hex 0 1 rfl c9 (by decide) (by decide) (by decide +kernel) (fun z hz => by cases hz) (by decide +kernel) (by decide) kw981 (by simp [xDw, xEn, xEns]) hcell hv hcl ?_
      refine lv_astore_n (lv' := (3, .ref q) :: [(0, .ref (ad 0)), (1, .int p1), (2, .ref (ad 154))]) E.1 E.2.1 dL_fish_12 rfl hl (by decide) rfl (fun ls hl => ?_)
      refine lv_iconst (v := 1) E.1 E.2.1 dL_fish_13 (by decide) ?_
      exact x_wret E h hf ⟨Nat.le_of_ble_eq_true rfl, Nat.le_of_ble_eq_true rfl⟩ dL_fish_14
    cases hf
theorem mw_L_chimneyOf : Cond.static yL_chimneyOf ∈ lwX ∧ Cond.initialized yL_chimneyOf.cls ∈ lwX ∧ Cond.codeWith yL_chimneyOf cL_chimneyOf 4 (some .int) [(0, 9, 12, 24)] ∈ lwX := ⟨kw1198, kw115, kw1199⟩
set_option maxHeartbeats 4000000 in
set_option maxRecDepth 100000 in
theorem c_L_chimneyOf (l : Launch) (D : va_G) (cy : Nat → ClassId) (s00 : State) (ad : Nat → Nat) (hT : l.stackTraces = false ∧ XDW s00) (hG : XG s00) (hNc : XNc s00) (S : XS) (p1 : Int32) (r9 : Int32) (S9 : XS) (hf : f_L_chimneyOf S p1 = some (r9, S9)) : XWr l yL_chimneyOf cL_chimneyOf 4 [(0, 9, 12, 24)] 8 1 D cy s00 shW ad S [.ref (ad 0), .int p1, .ref (ad 154)] r9 S9 := by
  refine XWr.of (by decide) [(0, .ref (ad 0)), (1, .int p1), (2, .ref (ad 154))] rfl (Nat.le_of_ble_eq_true rfl) (fun p e s m args below meth c A ls E h hl hex => ?_)
  unfold f_L_chimneyOf at hf
  refine lv_aload_n E.1 E.2.1 dL_chimneyOf_0 rfl (lv_at hl 2 rfl) ?_
  refine lv_iconst (v := 0) E.1 E.2.1 dL_chimneyOf_1 (by decide) ?_
  refine lv_aload_n E.1 E.2.1 dL_chimneyOf_2 rfl (lv_at hl 0 rfl) ?_
  refine lv_iload_n E.1 E.2.1 dL_chimneyOf_3 rfl (lv_at hl 1 rfl) ?_
  refine x_xcallW E h hl 0 0 hf xsub_W (fun E8 r8 S8 hr => c_X8_chimneyOf l D cy s00 _ hT hG (xs 0 S) p1 E8 r8 S8 hr) m_X8_chimneyOf rfl rfl kw1200 rfl rfl (Nat.le_of_ble_eq_true rfl) ⟨Nat.le_of_ble_eq_true rfl, Nat.le_of_ble_eq_true rfl⟩ ⟨Nat.le_of_ble_eq_true rfl, Nat.le_of_ble_eq_true rfl⟩ dL_chimneyOf_4 (fun v S3 H locs hf h => ?_) (fun E1 S3 ce q H locs hf h hcell hv hcl => ?_)
  · refine lv_i2l E.1 E.2.1 dL_chimneyOf_7 rfl ?_
    refine x_last1 E h 154 hf rfl rfl dL_chimneyOf_8 (fun S4 H locs hf h => ?_)
    refine lv_goto (tgt := 15) E.1 E.2.1 dL_chimneyOf_9 (by decide) ?_
    refine lv_iconst (v := 0) E.1 E.2.1 dL_chimneyOf_15 (by decide) ?_
    exact x_wret E h hf ⟨Nat.le_of_ble_eq_true rfl, Nat.le_of_ble_eq_true rfl⟩ dL_chimneyOf_16
  · refine x_case hf (fun c9 hf => ?_) (fun c9 hf => ?_)
    · refine x_catch hNc hT.2 E hex 0 1 rfl c9 (by decide) (by decide) (by decide +kernel) (fun z hz => by cases hz) (by decide +kernel) (by decide) kw981 (by simp [xDw, xEn, xEns]) hcell hv hcl ?_
      refine lv_astore_n (lv' := (3, .ref q) :: [(0, .ref (ad 0)), (1, .int p1), (2, .ref (ad 154))]) E.1 E.2.1 dL_chimneyOf_12 rfl hl (by decide) rfl (fun ls hl => ?_)
      refine lv_iconst (v := 1) E.1 E.2.1 dL_chimneyOf_13 (by decide) ?_
      exact x_wret E h hf ⟨Nat.le_of_ble_eq_true rfl, Nat.le_of_ble_eq_true rfl⟩ dL_chimneyOf_14
    cases hf
theorem mw_L_ownedChimneys : Cond.static yL_ownedChimneys ∈ lwX ∧ Cond.initialized yL_ownedChimneys.cls ∈ lwX ∧ Cond.codeWith yL_ownedChimneys cL_ownedChimneys 4 (some .int) [(0, 9, 12, 24)] ∈ lwX := ⟨kw1205, kw115, kw1206⟩
set_option maxHeartbeats 4000000 in
set_option maxRecDepth 100000 in
theorem c_L_ownedChimneys (l : Launch) (D : va_G) (cy : Nat → ClassId) (s00 : State) (ad : Nat → Nat) (hT : l.stackTraces = false ∧ XDW s00) (hG : XG s00) (hNc : XNc s00) (S : XS) (p1 : Int32) (r9 : Int32) (S9 : XS) (hf : f_L_ownedChimneys S p1 = some (r9, S9)) : XWr l yL_ownedChimneys cL_ownedChimneys 4 [(0, 9, 12, 24)] 8 1 D cy s00 shW ad S [.ref (ad 0), .int p1, .ref (ad 154)] r9 S9 := by
  refine XWr.of (by decide) [(0, .ref (ad 0)), (1, .int p1), (2, .ref (ad 154))] rfl (Nat.le_of_ble_eq_true rfl) (fun p e s m args below meth c A ls E h hl hex => ?_)
  unfold f_L_ownedChimneys at hf
  refine lv_aload_n E.1 E.2.1 dL_ownedChimneys_0 rfl (lv_at hl 2 rfl) ?_
  refine lv_iconst (v := 0) E.1 E.2.1 dL_ownedChimneys_1 (by decide) ?_
  refine lv_aload_n E.1 E.2.1 dL_ownedChimneys_2 rfl (lv_at hl 0 rfl) ?_
  refine lv_iload_n E.1 E.2.1 dL_ownedChimneys_3 rfl (lv_at hl 1 rfl) ?_
  refine x_xcallW E h hl 0 0 hf xsub_W (fun E8 r8 S8 hr => c_X8_ownedChimneys l D cy s00 _ hT hG (xs 0 S) p1 E8 r8 S8 hr) m_X8_ownedChimneys rfl rfl kw1207 rfl rfl (Nat.le_of_ble_eq_true rfl) ⟨Nat.le_of_ble_eq_true rfl, Nat.le_of_ble_eq_true rfl⟩ ⟨Nat.le_of_ble_eq_true rfl, Nat.le_of_ble_eq_true rfl⟩ dL_ownedChimneys_4 (fun v S3 H locs hf h => ?_) (fun E1 S3 ce q H locs hf h hcell hv hcl => ?_)
  · refine lv_i2l E.1 E.2.1 dL_ownedChimneys_7 rfl ?_
    refine x_last1 E h 154 hf rfl rfl dL_ownedChimneys_8 (fun S4 H locs hf h => ?_)
    refine lv_goto (tgt := 15) E.1 E.2.1 dL_ownedChimneys_9 (by decide) ?_
    refine lv_iconst (v := 0) E.1 E.2.1 dL_ownedChimneys_15 (by decide) ?_
    exact x_wret E h hf ⟨Nat.le_of_ble_eq_true rfl, Nat.le_of_ble_eq_true rfl⟩ dL_ownedChimneys_16
  · refine x_case hf (fun c9 hf => ?_) (fun c9 hf => ?_)
    · refine x_catch hNc hT.2 E hex 0 1 rfl c9 (by decide) (by decide) (by decide +kernel) (fun z hz => by cases hz) (by decide +kernel) (by decide) kw981 (by simp [xDw, xEn, xEns]) hcell hv hcl ?_
      refine lv_astore_n (lv' := (3, .ref q) :: [(0, .ref (ad 0)), (1, .int p1), (2, .ref (ad 154))]) E.1 E.2.1 dL_ownedChimneys_12 rfl hl (by decide) rfl (fun ls hl => ?_)
      refine lv_iconst (v := 1) E.1 E.2.1 dL_ownedChimneys_13 (by decide) ?_
      exact x_wret E h hf ⟨Nat.le_of_ble_eq_true rfl, Nat.le_of_ble_eq_true rfl⟩ dL_ownedChimneys_14
    cases hf
theorem mw_L_truceNights : Cond.static yL_truceNights ∈ lwX ∧ Cond.initialized yL_truceNights.cls ∈ lwX ∧ Cond.codeWith yL_truceNights cL_truceNights 5 (some .int) [(0, 10, 13, 24), (0, 10, 17, 13)] ∈ lwX := ⟨kw1213, kw115, kw1214⟩
set_option maxHeartbeats 4000000 in
set_option maxRecDepth 100000 in
theorem c_L_truceNights (l : Launch) (D : va_G) (cy : Nat → ClassId) (s00 : State) (ad : Nat → Nat) (hT : l.stackTraces = false ∧ XDW s00) (hG : XG s00) (hNc : XNc s00) (S : XS) (p1 p2 : Int32) (r9 : Int32) (S9 : XS) (hf : f_L_truceNights S p1 p2 = some (r9, S9)) : XWr l yL_truceNights cL_truceNights 5 [(0, 10, 13, 24), (0, 10, 17, 13)] 8 3 D cy s00 shW ad S [.ref (ad 0), .int p1, .int p2, .ref (ad 154)] r9 S9 := by
  refine XWr.of (by decide) [(0, .ref (ad 0)), (1, .int p1), (2, .int p2), (3, .ref (ad 154))] rfl (Nat.le_of_ble_eq_true rfl) (fun p e s m args below meth c A ls E h hl hex => ?_)
  unfold f_L_truceNights at hf
  refine lv_aload_n E.1 E.2.1 dL_truceNights_0 rfl (lv_at hl 3 rfl) ?_
  refine lv_iconst (v := 0) E.1 E.2.1 dL_truceNights_1 (by decide) ?_
  refine lv_aload_n E.1 E.2.1 dL_truceNights_2 rfl (lv_at hl 0 rfl) ?_
  refine lv_iload_n E.1 E.2.1 dL_truceNights_3 rfl (lv_at hl 1 rfl) ?_
  refine lv_iload_n E.1 E.2.1 dL_truceNights_4 rfl (lv_at hl 2 rfl) ?_
  refine x_xcallW E h hl 0 0 hf xsub_W (fun E8 r8 S8 hr => c_X8_truceNights l D cy s00 _ hT hG (xs 0 S) p1 p2 E8 r8 S8 hr) m_X8_truceNights rfl rfl kw1215 rfl rfl (Nat.le_of_ble_eq_true rfl) ⟨Nat.le_of_ble_eq_true rfl, Nat.le_of_ble_eq_true rfl⟩ ⟨Nat.le_of_ble_eq_true rfl, Nat.le_of_ble_eq_true rfl⟩ dL_truceNights_5 (fun v S3 H locs hf h => ?_) (fun E1 S3 ce q H locs hf h hcell hv hcl => ?_)
  · refine lv_i2l E.1 E.2.1 dL_truceNights_8 rfl ?_
    refine x_last1 E h 154 hf rfl rfl dL_truceNights_9 (fun S4 H locs hf h => ?_)
    refine lv_goto (tgt := 21) E.1 E.2.1 dL_truceNights_10 (by decide) ?_
    refine lv_iconst (v := 0) E.1 E.2.1 dL_truceNights_21 (by decide) ?_
    exact x_wret E h hf ⟨Nat.le_of_ble_eq_true rfl, Nat.le_of_ble_eq_true rfl⟩ dL_truceNights_22
  · refine x_case hf (fun c9 hf => ?_) (fun c9 hf => ?_)
    · refine x_catch hNc hT.2 E hex 0 1 rfl c9 (by decide) (by decide) (by decide +kernel) (fun z hz => by cases hz) (by decide +kernel) (by decide) kw981 (by simp [xDw, xEn, xEns]) hcell hv hcl ?_
      refine lv_astore (lv' := (4, .ref q) :: [(0, .ref (ad 0)), (1, .int p1), (2, .int p2), (3, .ref (ad 154))]) E.1 E.2.1 dL_truceNights_13 hl (by decide) rfl (fun ls hl => ?_)
      refine lv_iconst (v := 1) E.1 E.2.1 dL_truceNights_15 (by decide) ?_
      exact x_wret E h hf ⟨Nat.le_of_ble_eq_true rfl, Nat.le_of_ble_eq_true rfl⟩ dL_truceNights_16
    refine x_case hf (fun c9 hf => ?_) (fun c9 hf => ?_)
    · refine x_catch hNc hT.2 E hex 1 2 rfl c9 (by decide) (by decide) (by decide +kernel) (fun z hz => by
        rcases List.mem_cons.mp hz with rfl | hz
        · exact ⟨1, by decide, by decide, by decide, kw981⟩
        cases hz) (by decide +kernel) (by decide) kw872 (by simp [xDw, xEn, xEns]) hcell hv hcl ?_
      refine lv_astore (lv' := (4, .ref q) :: [(0, .ref (ad 0)), (1, .int p1), (2, .int p2), (3, .ref (ad 154))]) E.1 E.2.1 dL_truceNights_17 hl (by decide) rfl (fun ls hl => ?_)
      refine lv_iconst (v := 2) E.1 E.2.1 dL_truceNights_19 (by decide) ?_
      exact x_wret E h hf ⟨Nat.le_of_ble_eq_true rfl, Nat.le_of_ble_eq_true rfl⟩ dL_truceNights_20
    cases hf
theorem mw_L_reachable : Cond.static yL_reachable ∈ lwX ∧ Cond.initialized yL_reachable.cls ∈ lwX ∧ Cond.codeWith yL_reachable cL_reachable 4 (some .int) [(0, 9, 12, 24)] ∈ lwX := ⟨kw1221, kw115, kw1222⟩
set_option maxHeartbeats 4000000 in
set_option maxRecDepth 100000 in
theorem c_L_reachable (l : Launch) (D : va_G) (cy : Nat → ClassId) (s00 : State) (ad : Nat → Nat) (hT : l.stackTraces = false ∧ XDW s00) (hG : XG s00) (hNc : XNc s00) (S : XS) (p1 : Int32) (r9 : Int32) (S9 : XS) (hf : f_L_reachable S p1 = some (r9, S9)) : XWr l yL_reachable cL_reachable 4 [(0, 9, 12, 24)] 8 1 D cy s00 shW ad S [.ref (ad 0), .int p1, .ref (ad 154)] r9 S9 := by
  refine XWr.of (by decide) [(0, .ref (ad 0)), (1, .int p1), (2, .ref (ad 154))] rfl (Nat.le_of_ble_eq_true rfl) (fun p e s m args below meth c A ls E h hl hex => ?_)
  unfold f_L_reachable at hf
  refine lv_aload_n E.1 E.2.1 dL_reachable_0 rfl (lv_at hl 2 rfl) ?_
  refine lv_iconst (v := 0) E.1 E.2.1 dL_reachable_1 (by decide) ?_
  refine lv_aload_n E.1 E.2.1 dL_reachable_2 rfl (lv_at hl 0 rfl) ?_
  refine lv_iload_n E.1 E.2.1 dL_reachable_3 rfl (lv_at hl 1 rfl) ?_
  refine x_xcallW E h hl 0 0 hf xsub_W (fun E8 r8 S8 hr => c_X8_reachable l D cy s00 _ hT hG (xs 0 S) p1 E8 r8 S8 hr) m_X8_reachable rfl rfl kw1223 rfl rfl (Nat.le_of_ble_eq_true rfl) ⟨Nat.le_of_ble_eq_true rfl, Nat.le_of_ble_eq_true rfl⟩ ⟨Nat.le_of_ble_eq_true rfl, Nat.le_of_ble_eq_true rfl⟩ dL_reachable_4 (fun v S3 H locs hf h => ?_) (fun E1 S3 ce q H locs hf h hcell hv hcl => ?_)
  · refine lv_i2l E.1 E.2.1 dL_reachable_7 rfl ?_
    refine x_last1 E h 154 hf rfl rfl dL_reachable_8 (fun S4 H locs hf h => ?_)
    refine lv_goto (tgt := 15) E.1 E.2.1 dL_reachable_9 (by decide) ?_
    refine lv_iconst (v := 0) E.1 E.2.1 dL_reachable_15 (by decide) ?_
    exact x_wret E h hf ⟨Nat.le_of_ble_eq_true rfl, Nat.le_of_ble_eq_true rfl⟩ dL_reachable_16
  · refine x_case hf (fun c9 hf => ?_) (fun c9 hf => ?_)
    · refine x_catch hNc hT.2 E hex 0 1 rfl c9 (by decide) (by decide) (by decide +kernel) (fun z hz => by cases hz) (by decide +kernel) (by decide) kw981 (by simp [xDw, xEn, xEns]) hcell hv hcl ?_
      refine lv_astore_n (lv' := (3, .ref q) :: [(0, .ref (ad 0)), (1, .int p1), (2, .ref (ad 154))]) E.1 E.2.1 dL_reachable_12 rfl hl (by decide) rfl (fun ls hl => ?_)
      refine lv_iconst (v := 1) E.1 E.2.1 dL_reachable_13 (by decide) ?_
      exact x_wret E h hf ⟨Nat.le_of_ble_eq_true rfl, Nat.le_of_ble_eq_true rfl⟩ dL_reachable_14
    cases hf
theorem mw_L_stepsTo : Cond.static yL_stepsTo ∈ lwX ∧ Cond.initialized yL_stepsTo.cls ∈ lwX ∧ Cond.codeWith yL_stepsTo cL_stepsTo 5 (some .int) [(0, 10, 13, 24)] ∈ lwX := ⟨kw1232, kw115, kw1233⟩
set_option maxHeartbeats 4000000 in
set_option maxRecDepth 100000 in
theorem c_L_stepsTo (l : Launch) (D : va_G) (cy : Nat → ClassId) (s00 : State) (ad : Nat → Nat) (hT : l.stackTraces = false ∧ XDW s00) (hG : XG s00) (hNc : XNc s00) (S : XS) (p1 p2 : Int32) (r9 : Int32) (S9 : XS) (hf : f_L_stepsTo S p1 p2 = some (r9, S9)) : XWr l yL_stepsTo cL_stepsTo 5 [(0, 10, 13, 24)] 8 2 D cy s00 shW ad S [.ref (ad 0), .int p1, .int p2, .ref (ad 154)] r9 S9 := by
  refine XWr.of (by decide) [(0, .ref (ad 0)), (1, .int p1), (2, .int p2), (3, .ref (ad 154))] rfl (Nat.le_of_ble_eq_true rfl) (fun p e s m args below meth c A ls E h hl hex => ?_)
  unfold f_L_stepsTo at hf
  refine lv_aload_n E.1 E.2.1 dL_stepsTo_0 rfl (lv_at hl 3 rfl) ?_
  refine lv_iconst (v := 0) E.1 E.2.1 dL_stepsTo_1 (by decide) ?_
  refine lv_aload_n E.1 E.2.1 dL_stepsTo_2 rfl (lv_at hl 0 rfl) ?_
  refine lv_iload_n E.1 E.2.1 dL_stepsTo_3 rfl (lv_at hl 1 rfl) ?_
  refine lv_iload_n E.1 E.2.1 dL_stepsTo_4 rfl (lv_at hl 2 rfl) ?_
  refine x_xcallW E h hl 0 0 hf xsub_W (fun E8 r8 S8 hr => c_X8_stepsTo l D cy s00 _ hT hG (xs 0 S) p1 p2 E8 r8 S8 hr) m_X8_stepsTo rfl rfl kw1234 rfl rfl (Nat.le_of_ble_eq_true rfl) ⟨Nat.le_of_ble_eq_true rfl, Nat.le_of_ble_eq_true rfl⟩ ⟨Nat.le_of_ble_eq_true rfl, Nat.le_of_ble_eq_true rfl⟩ dL_stepsTo_5 (fun v S3 H locs hf h => ?_) (fun E1 S3 ce q H locs hf h hcell hv hcl => ?_)
  · refine lv_i2l E.1 E.2.1 dL_stepsTo_8 rfl ?_
    refine x_last1 E h 154 hf rfl rfl dL_stepsTo_9 (fun S4 H locs hf h => ?_)
    refine lv_goto (tgt := 17) E.1 E.2.1 dL_stepsTo_10 (by decide) ?_
    refine lv_iconst (v := 0) E.1 E.2.1 dL_stepsTo_17 (by decide) ?_
    exact x_wret E h hf ⟨Nat.le_of_ble_eq_true rfl, Nat.le_of_ble_eq_true rfl⟩ dL_stepsTo_18
  · refine x_case hf (fun c9 hf => ?_) (fun c9 hf => ?_)
    · refine x_catch hNc hT.2 E hex 0 1 rfl c9 (by decide) (by decide) (by decide +kernel) (fun z hz => by cases hz) (by decide +kernel) (by decide) kw981 (by simp [xDw, xEn, xEns]) hcell hv hcl ?_
      refine lv_astore (lv' := (4, .ref q) :: [(0, .ref (ad 0)), (1, .int p1), (2, .int p2), (3, .ref (ad 154))]) E.1 E.2.1 dL_stepsTo_13 hl (by decide) rfl (fun ls hl => ?_)
      refine lv_iconst (v := 1) E.1 E.2.1 dL_stepsTo_15 (by decide) ?_
      exact x_wret E h hf ⟨Nat.le_of_ble_eq_true rfl, Nat.le_of_ble_eq_true rfl⟩ dL_stepsTo_16
    cases hf
theorem mw_L_openGutters : Cond.static yL_openGutters ∈ lwX ∧ Cond.initialized yL_openGutters.cls ∈ lwX ∧ Cond.codeWith yL_openGutters cL_openGutters 4 (some .int) [(0, 9, 12, 24)] ∈ lwX := ⟨kw1244, kw115, kw1245⟩
set_option maxHeartbeats 4000000 in
set_option maxRecDepth 100000 in
theorem c_L_openGutters (l : Launch) (D : va_G) (cy : Nat → ClassId) (s00 : State) (ad : Nat → Nat) (hT : l.stackTraces = false ∧ XDW s00) (hG : XG s00) (hNc : XNc s00) (S : XS) (p1 : Int32) (r9 : Int32) (S9 : XS) (hf : f_L_openGutters S p1 = some (r9, S9)) : XWr l yL_openGutters cL_openGutters 4 [(0, 9, 12, 24)] 8 1 D cy s00 shW ad S [.ref (ad 0), .int p1, .ref (ad 154)] r9 S9 := by
  refine XWr.of (by decide) [(0, .ref (ad 0)), (1, .int p1), (2, .ref (ad 154))] rfl (Nat.le_of_ble_eq_true rfl) (fun p e s m args below meth c A ls E h hl hex => ?_)
  unfold f_L_openGutters at hf
  refine lv_aload_n E.1 E.2.1 dL_openGutters_0 rfl (lv_at hl 2 rfl) ?_
  refine lv_iconst (v := 0) E.1 E.2.1 dL_openGutters_1 (by decide) ?_
  refine lv_aload_n E.1 E.2.1 dL_openGutters_2 rfl (lv_at hl 0 rfl) ?_
  refine lv_iload_n E.1 E.2.1 dL_openGutters_3 rfl (lv_at hl 1 rfl) ?_
  refine x_xcallW E h hl 0 0 hf xsub_W (fun E8 r8 S8 hr => c_X8_openGutters l D cy s00 _ hT hG (xs 0 S) p1 E8 r8 S8 hr) m_X8_openGutters rfl rfl kw1246 rfl rfl (Nat.le_of_ble_eq_true rfl) ⟨Nat.le_of_ble_eq_true rfl, Nat.le_of_ble_eq_true rfl⟩ ⟨Nat.le_of_ble_eq_true rfl, Nat.le_of_ble_eq_true rfl⟩ dL_openGutters_4 (fun v S3 H locs hf h => ?_) (fun E1 S3 ce q H locs hf h hcell hv hcl => ?_)
  · refine lv_i2l E.1 E.2.1 dL_openGutters_7 rfl ?_
    refine x_last1 E h 154 hf rfl rfl dL_openGutters_8 (fun S4 H locs hf h => ?_)
    refine lv_goto (tgt := 15) E.1 E.2.1 dL_openGutters_9 (by decide) ?_
    refine lv_iconst (v := 0) E.1 E.2.1 dL_openGutters_15 (by decide) ?_
    exact x_wret E h hf ⟨Nat.le_of_ble_eq_true rfl, Nat.le_of_ble_eq_true rfl⟩ dL_openGutters_16
  · refine x_case hf (fun c9 hf => ?_) (fun c9 hf => ?_)
    · refine x_catch hNc hT.2 E hex 0 1 rfl c9 (by decide) (by decide) (by decide +kernel) (fun z hz => by cases hz) (by decide +kernel) (by decide) kw981 (by simp [xDw, xEn, xEns]) hcell hv hcl ?_
      refine lv_astore_n (lv' := (3, .ref q) :: [(0, .ref (ad 0)), (1, .int p1), (2, .ref (ad 154))]) E.1 E.2.1 dL_openGutters_12 rfl hl (by decide) rfl (fun ls hl => ?_)
      refine lv_iconst (v := 1) E.1 E.2.1 dL_openGutters_13 (by decide) ?_
      exact x_wret E h hf ⟨Nat.le_of_ble_eq_true rfl, Nat.le_of_ble_eq_true rfl⟩ dL_openGutters_14
    cases hf
theorem mw_L_whyNoStep : Cond.static yL_whyNoStep ∈ lwX ∧ Cond.initialized yL_whyNoStep.cls ∈ lwX ∧ Cond.codeWith yL_whyNoStep cL_whyNoStep 5 (some .int) [(0, 10, 13, 24)] ∈ lwX := ⟨kw1251, kw115, kw1252⟩
set_option maxHeartbeats 4000000 in
set_option maxRecDepth 100000 in
theorem c_L_whyNoStep (l : Launch) (D : va_G) (cy : Nat → ClassId) (s00 : State) (ad : Nat → Nat) (hT : l.stackTraces = false ∧ XDW s00) (hG : XG s00) (hNc : XNc s00) (S : XS) (p1 p2 : Int32) (r9 : Int32) (S9 : XS) (hf : f_L_whyNoStep S p1 p2 = some (r9, S9)) : XWr l yL_whyNoStep cL_whyNoStep 5 [(0, 10, 13, 24)] 8 2 D cy s00 shW ad S [.ref (ad 0), .int p1, .int p2, .ref (ad 154)] r9 S9 := by
  refine XWr.of (by decide) [(0, .ref (ad 0)), (1, .int p1), (2, .int p2), (3, .ref (ad 154))] rfl (Nat.le_of_ble_eq_true rfl) (fun p e s m args below meth c A ls E h hl hex => ?_)
  unfold f_L_whyNoStep at hf
  refine lv_aload_n E.1 E.2.1 dL_whyNoStep_0 rfl (lv_at hl 3 rfl) ?_
  refine lv_iconst (v := 0) E.1 E.2.1 dL_whyNoStep_1 (by decide) ?_
  refine lv_aload_n E.1 E.2.1 dL_whyNoStep_2 rfl (lv_at hl 0 rfl) ?_
  refine lv_iload_n E.1 E.2.1 dL_whyNoStep_3 rfl (lv_at hl 1 rfl) ?_
  refine lv_iload_n E.1 E.2.1 dL_whyNoStep_4 rfl (lv_at hl 2 rfl) ?_
  refine x_xcallW E h hl 0 0 hf xsub_W (fun E8 r8 S8 hr => c_X8_whyNoStep l D cy s00 _ hT hG (xs 0 S) p1 p2 E8 r8 S8 hr) m_X8_whyNoStep rfl rfl kw1253 rfl rfl (Nat.le_of_ble_eq_true rfl) ⟨Nat.le_of_ble_eq_true rfl, Nat.le_of_ble_eq_true rfl⟩ ⟨Nat.le_of_ble_eq_true rfl, Nat.le_of_ble_eq_true rfl⟩ dL_whyNoStep_5 (fun v S3 H locs hf h => ?_) (fun E1 S3 ce q H locs hf h hcell hv hcl => ?_)
  · refine lv_i2l E.1 E.2.1 dL_whyNoStep_8 rfl ?_
    refine x_last1 E h 154 hf rfl rfl dL_whyNoStep_9 (fun S4 H locs hf h => ?_)
    refine lv_goto (tgt := 17) E.1 E.2.1 dL_whyNoStep_10 (by decide) ?_
    refine lv_iconst (v := 0) E.1 E.2.1 dL_whyNoStep_17 (by decide) ?_
    exact x_wret E h hf ⟨Nat.le_of_ble_eq_true rfl, Nat.le_of_ble_eq_true rfl⟩ dL_whyNoStep_18
  · refine x_case hf (fun c9 hf => ?_) (fun c9 hf => ?_)
    · refine x_catch hNc hT.2 E hex 0 1 rfl c9 (by decide) (by decide) (by decide +kernel) (fun z hz => by cases hz) (by decide +kernel) (by decide) kw981 (by simp [xDw, xEn, xEns]) hcell hv hcl ?_
      refine lv_astore (lv' := (4, .ref q) :: [(0, .ref (ad 0)), (1, .int p1), (2, .int p2), (3, .ref (ad 154))]) E.1 E.2.1 dL_whyNoStep_13 hl (by decide) rfl (fun ls hl => ?_)
      refine lv_iconst (v := 1) E.1 E.2.1 dL_whyNoStep_15 (by decide) ?_
      exact x_wret E h hf ⟨Nat.le_of_ble_eq_true rfl, Nat.le_of_ble_eq_true rfl⟩ dL_whyNoStep_16
    cases hf
theorem mw_L_whyNoClaim : Cond.static yL_whyNoClaim ∈ lwX ∧ Cond.initialized yL_whyNoClaim.cls ∈ lwX ∧ Cond.codeWith yL_whyNoClaim cL_whyNoClaim 4 (some .int) [(0, 9, 12, 24)] ∈ lwX := ⟨kw1258, kw115, kw1259⟩
set_option maxHeartbeats 4000000 in
set_option maxRecDepth 100000 in
theorem c_L_whyNoClaim (l : Launch) (D : va_G) (cy : Nat → ClassId) (s00 : State) (ad : Nat → Nat) (hT : l.stackTraces = false ∧ XDW s00) (hG : XG s00) (hNc : XNc s00) (S : XS) (p1 : Int32) (r9 : Int32) (S9 : XS) (hf : f_L_whyNoClaim S p1 = some (r9, S9)) : XWr l yL_whyNoClaim cL_whyNoClaim 4 [(0, 9, 12, 24)] 8 1 D cy s00 shW ad S [.ref (ad 0), .int p1, .ref (ad 154)] r9 S9 := by
  refine XWr.of (by decide) [(0, .ref (ad 0)), (1, .int p1), (2, .ref (ad 154))] rfl (Nat.le_of_ble_eq_true rfl) (fun p e s m args below meth c A ls E h hl hex => ?_)
  unfold f_L_whyNoClaim at hf
  refine lv_aload_n E.1 E.2.1 dL_whyNoClaim_0 rfl (lv_at hl 2 rfl) ?_
  refine lv_iconst (v := 0) E.1 E.2.1 dL_whyNoClaim_1 (by decide) ?_
  refine lv_aload_n E.1 E.2.1 dL_whyNoClaim_2 rfl (lv_at hl 0 rfl) ?_
  refine lv_iload_n E.1 E.2.1 dL_whyNoClaim_3 rfl (lv_at hl 1 rfl) ?_
  refine x_xcallW E h hl 0 0 hf xsub_W (fun E8 r8 S8 hr => c_X8_whyNoClaim l D cy s00 _ hT hG (xs 0 S) p1 E8 r8 S8 hr) m_X8_whyNoClaim rfl rfl kw1260 rfl rfl (Nat.le_of_ble_eq_true rfl) ⟨Nat.le_of_ble_eq_true rfl, Nat.le_of_ble_eq_true rfl⟩ ⟨Nat.le_of_ble_eq_true rfl, Nat.le_of_ble_eq_true rfl⟩ dL_whyNoClaim_4 (fun v S3 H locs hf h => ?_) (fun E1 S3 ce q H locs hf h hcell hv hcl => ?_)
  · refine lv_i2l E.1 E.2.1 dL_whyNoClaim_7 rfl ?_
    refine x_last1 E h 154 hf rfl rfl dL_whyNoClaim_8 (fun S4 H locs hf h => ?_)
    refine lv_goto (tgt := 15) E.1 E.2.1 dL_whyNoClaim_9 (by decide) ?_
    refine lv_iconst (v := 0) E.1 E.2.1 dL_whyNoClaim_15 (by decide) ?_
    exact x_wret E h hf ⟨Nat.le_of_ble_eq_true rfl, Nat.le_of_ble_eq_true rfl⟩ dL_whyNoClaim_16
  · refine x_case hf (fun c9 hf => ?_) (fun c9 hf => ?_)
    · refine x_catch hNc hT.2 E hex 0 1 rfl c9 (by decide) (by decide) (by decide +kernel) (fun z hz => by cases hz) (by decide +kernel) (by decide) kw981 (by simp [xDw, xEn, xEns]) hcell hv hcl ?_
      refine lv_astore_n (lv' := (3, .ref q) :: [(0, .ref (ad 0)), (1, .int p1), (2, .ref (ad 154))]) E.1 E.2.1 dL_whyNoClaim_12 rfl hl (by decide) rfl (fun ls hl => ?_)
      refine lv_iconst (v := 1) E.1 E.2.1 dL_whyNoClaim_13 (by decide) ?_
      exact x_wret E h hf ⟨Nat.le_of_ble_eq_true rfl, Nat.le_of_ble_eq_true rfl⟩ dL_whyNoClaim_14
    cases hf
theorem mw_L_whyNoChase : Cond.static yL_whyNoChase ∈ lwX ∧ Cond.initialized yL_whyNoChase.cls ∈ lwX ∧ Cond.codeWith yL_whyNoChase cL_whyNoChase 5 (some .int) [(0, 10, 13, 24), (0, 10, 17, 13)] ∈ lwX := ⟨kw1265, kw115, kw1266⟩
set_option maxHeartbeats 4000000 in
set_option maxRecDepth 100000 in
theorem c_L_whyNoChase (l : Launch) (D : va_G) (cy : Nat → ClassId) (s00 : State) (ad : Nat → Nat) (hT : l.stackTraces = false ∧ XDW s00) (hG : XG s00) (hNc : XNc s00) (S : XS) (p1 p2 : Int32) (r9 : Int32) (S9 : XS) (hf : f_L_whyNoChase S p1 p2 = some (r9, S9)) : XWr l yL_whyNoChase cL_whyNoChase 5 [(0, 10, 13, 24), (0, 10, 17, 13)] 8 3 D cy s00 shW ad S [.ref (ad 0), .int p1, .int p2, .ref (ad 154)] r9 S9 := by
  refine XWr.of (by decide) [(0, .ref (ad 0)), (1, .int p1), (2, .int p2), (3, .ref (ad 154))] rfl (Nat.le_of_ble_eq_true rfl) (fun p e s m args below meth c A ls E h hl hex => ?_)
  unfold f_L_whyNoChase at hf
  refine lv_aload_n E.1 E.2.1 dL_whyNoChase_0 rfl (lv_at hl 3 rfl) ?_
  refine lv_iconst (v := 0) E.1 E.2.1 dL_whyNoChase_1 (by decide) ?_
  refine lv_aload_n E.1 E.2.1 dL_whyNoChase_2 rfl (lv_at hl 0 rfl) ?_
  refine lv_iload_n E.1 E.2.1 dL_whyNoChase_3 rfl (lv_at hl 1 rfl) ?_
  refine lv_iload_n E.1 E.2.1 dL_whyNoChase_4 rfl (lv_at hl 2 rfl) ?_
  refine x_xcallW E h hl 0 0 hf xsub_W (fun E8 r8 S8 hr => c_X8_whyNoChase l D cy s00 _ hT hG (xs 0 S) p1 p2 E8 r8 S8 hr) m_X8_whyNoChase rfl rfl kw1267 rfl rfl (Nat.le_of_ble_eq_true rfl) ⟨Nat.le_of_ble_eq_true rfl, Nat.le_of_ble_eq_true rfl⟩ ⟨Nat.le_of_ble_eq_true rfl, Nat.le_of_ble_eq_true rfl⟩ dL_whyNoChase_5 (fun v S3 H locs hf h => ?_) (fun E1 S3 ce q H locs hf h hcell hv hcl => ?_)
  · refine lv_i2l E.1 E.2.1 dL_whyNoChase_8 rfl ?_
    refine x_last1 E h 154 hf rfl rfl dL_whyNoChase_9 (fun S4 H locs hf h => ?_)
    refine lv_goto (tgt := 21) E.1 E.2.1 dL_whyNoChase_10 (by decide) ?_
    refine lv_iconst (v := 0) E.1 E.2.1 dL_whyNoChase_21 (by decide) ?_
    exact x_wret E h hf ⟨Nat.le_of_ble_eq_true rfl, Nat.le_of_ble_eq_true rfl⟩ dL_whyNoChase_22
  · refine x_case hf (fun c9 hf => ?_) (fun c9 hf => ?_)
    · refine x_catch hNc hT.2 E hex 0 1 rfl c9 (by decide) (by decide) (by decide +kernel) (fun z hz => by cases hz) (by decide +kernel) (by decide) kw981 (by simp [xDw, xEn, xEns]) hcell hv hcl ?_
      refine lv_astore (lv' := (4, .ref q) :: [(0, .ref (ad 0)), (1, .int p1), (2, .int p2), (3, .ref (ad 154))]) E.1 E.2.1 dL_whyNoChase_13 hl (by decide) rfl (fun ls hl => ?_)
      refine lv_iconst (v := 1) E.1 E.2.1 dL_whyNoChase_15 (by decide) ?_
      exact x_wret E h hf ⟨Nat.le_of_ble_eq_true rfl, Nat.le_of_ble_eq_true rfl⟩ dL_whyNoChase_16
    refine x_case hf (fun c9 hf => ?_) (fun c9 hf => ?_)
    · refine x_catch hNc hT.2 E hex 1 2 rfl c9 (by decide) (by decide) (by decide +kernel) (fun z hz => by
        rcases List.mem_cons.mp hz with rfl | hz
        · exact ⟨1, by decide, by decide, by decide, kw981⟩
        cases hz) (by decide +kernel) (by decide) kw872 (by simp [xDw, xEn, xEns]) hcell hv hcl ?_
      refine lv_astore (lv' := (4, .ref q) :: [(0, .ref (ad 0)), (1, .int p1), (2, .int p2), (3, .ref (ad 154))]) E.1 E.2.1 dL_whyNoChase_17 hl (by decide) rfl (fun ls hl => ?_)
      refine lv_iconst (v := 2) E.1 E.2.1 dL_whyNoChase_19 (by decide) ?_
      exact x_wret E h hf ⟨Nat.le_of_ble_eq_true rfl, Nat.le_of_ble_eq_true rfl⟩ dL_whyNoChase_20
    cases hf
theorem mw_L_preyOf : Cond.static yL_preyOf ∈ lwX ∧ Cond.initialized yL_preyOf.cls ∈ lwX ∧ Cond.codeWith yL_preyOf cL_preyOf 4 (some .int) [(0, 9, 12, 24)] ∈ lwX := ⟨kw1272, kw115, kw1273⟩
set_option maxHeartbeats 4000000 in
set_option maxRecDepth 100000 in
theorem c_L_preyOf (l : Launch) (D : va_G) (cy : Nat → ClassId) (s00 : State) (ad : Nat → Nat) (hT : l.stackTraces = false ∧ XDW s00) (hG : XG s00) (hNc : XNc s00) (S : XS) (p1 : Int32) (r9 : Int32) (S9 : XS) (hf : f_L_preyOf S p1 = some (r9, S9)) : XWr l yL_preyOf cL_preyOf 4 [(0, 9, 12, 24)] 8 1 D cy s00 shW ad S [.ref (ad 0), .int p1, .ref (ad 154)] r9 S9 := by
  refine XWr.of (by decide) [(0, .ref (ad 0)), (1, .int p1), (2, .ref (ad 154))] rfl (Nat.le_of_ble_eq_true rfl) (fun p e s m args below meth c A ls E h hl hex => ?_)
  unfold f_L_preyOf at hf
  refine lv_aload_n E.1 E.2.1 dL_preyOf_0 rfl (lv_at hl 2 rfl) ?_
  refine lv_iconst (v := 0) E.1 E.2.1 dL_preyOf_1 (by decide) ?_
  refine lv_aload_n E.1 E.2.1 dL_preyOf_2 rfl (lv_at hl 0 rfl) ?_
  refine lv_iload_n E.1 E.2.1 dL_preyOf_3 rfl (lv_at hl 1 rfl) ?_
  refine x_xcallW E h hl 0 0 hf xsub_W (fun E8 r8 S8 hr => c_X8_preyOf l D cy s00 _ hT hG (xs 0 S) p1 E8 r8 S8 hr) m_X8_preyOf rfl rfl kw1274 rfl rfl (Nat.le_of_ble_eq_true rfl) ⟨Nat.le_of_ble_eq_true rfl, Nat.le_of_ble_eq_true rfl⟩ ⟨Nat.le_of_ble_eq_true rfl, Nat.le_of_ble_eq_true rfl⟩ dL_preyOf_4 (fun v S3 H locs hf h => ?_) (fun E1 S3 ce q H locs hf h hcell hv hcl => ?_)
  · refine lv_i2l E.1 E.2.1 dL_preyOf_7 rfl ?_
    refine x_last1 E h 154 hf rfl rfl dL_preyOf_8 (fun S4 H locs hf h => ?_)
    refine lv_goto (tgt := 15) E.1 E.2.1 dL_preyOf_9 (by decide) ?_
    refine lv_iconst (v := 0) E.1 E.2.1 dL_preyOf_15 (by decide) ?_
    exact x_wret E h hf ⟨Nat.le_of_ble_eq_true rfl, Nat.le_of_ble_eq_true rfl⟩ dL_preyOf_16
  · refine x_case hf (fun c9 hf => ?_) (fun c9 hf => ?_)
    · refine x_catch hNc hT.2 E hex 0 1 rfl c9 (by decide) (by decide) (by decide +kernel) (fun z hz => by cases hz) (by decide +kernel) (by decide) kw981 (by simp [xDw, xEn, xEns]) hcell hv hcl ?_
      refine lv_astore_n (lv' := (3, .ref q) :: [(0, .ref (ad 0)), (1, .int p1), (2, .ref (ad 154))]) E.1 E.2.1 dL_preyOf_12 rfl hl (by decide) rfl (fun ls hl => ?_)
      refine lv_iconst (v := 1) E.1 E.2.1 dL_preyOf_13 (by decide) ?_
      exact x_wret E h hf ⟨Nat.le_of_ble_eq_true rfl, Nat.le_of_ble_eq_true rfl⟩ dL_preyOf_14
    cases hf
theorem mw_L_hasVoted : Cond.static yL_hasVoted ∈ lwX ∧ Cond.initialized yL_hasVoted.cls ∈ lwX ∧ Cond.codeWith yL_hasVoted cL_hasVoted 4 (some .int) [(0, 16, 19, 24)] ∈ lwX := ⟨kw1279, kw115, kw1280⟩
set_option maxHeartbeats 4000000 in
set_option maxRecDepth 100000 in
theorem c_L_hasVoted (l : Launch) (D : va_G) (cy : Nat → ClassId) (s00 : State) (ad : Nat → Nat) (hT : l.stackTraces = false ∧ XDW s00) (hG : XG s00) (hNc : XNc s00) (S : XS) (p1 : Int32) (r9 : Int32) (S9 : XS) (hf : f_L_hasVoted S p1 = some (r9, S9)) : XWr l yL_hasVoted cL_hasVoted 4 [(0, 16, 19, 24)] 8 1 D cy s00 shW ad S [.ref (ad 0), .int p1, .ref (ad 154)] r9 S9 := by
  refine XWr.of (by decide) [(0, .ref (ad 0)), (1, .int p1), (2, .ref (ad 154))] rfl (Nat.le_of_ble_eq_true rfl) (fun p e s m args below meth c A ls E h hl hex => ?_)
  unfold f_L_hasVoted at hf
  refine lv_aload_n E.1 E.2.1 dL_hasVoted_0 rfl (lv_at hl 2 rfl) ?_
  refine lv_iconst (v := 0) E.1 E.2.1 dL_hasVoted_1 (by decide) ?_
  refine lv_aload_n E.1 E.2.1 dL_hasVoted_2 rfl (lv_at hl 0 rfl) ?_
  refine lv_iload_n E.1 E.2.1 dL_hasVoted_3 rfl (lv_at hl 1 rfl) ?_
  refine x_xcallW E h hl 0 0 hf xsub_W (fun E8 r8 S8 hr => c_X8_hasVoted l D cy s00 _ hT hG (xs 0 S) p1 E8 r8 S8 hr) m_X8_hasVoted rfl rfl kw1281 rfl rfl (Nat.le_of_ble_eq_true rfl) ⟨Nat.le_of_ble_eq_true rfl, Nat.le_of_ble_eq_true rfl⟩ ⟨Nat.le_of_ble_eq_true rfl, Nat.le_of_ble_eq_true rfl⟩ dL_hasVoted_4 (fun v S3 H locs hf h => ?_) (fun E1 S3 ce q H locs hf h hcell hv hcl => ?_)
  · refine x_br hf (lv_if_eq (tgt := 14) E.1 E.2.1 dL_hasVoted_7 (by decide)) (fun hf => ?_) (fun hf => ?_)
    · refine lv_lconst (v := (0 : Int32).toInt64) E.1 E.2.1 dL_hasVoted_14 (by decide) ?_
      refine x_last1 E h 154 hf rfl rfl dL_hasVoted_15 (fun S4 H locs hf h => ?_)
      refine lv_goto (tgt := 22) E.1 E.2.1 dL_hasVoted_16 (by decide) ?_
      refine lv_iconst (v := 0) E.1 E.2.1 dL_hasVoted_22 (by decide) ?_
      exact x_wret E h hf ⟨Nat.le_of_ble_eq_true rfl, Nat.le_of_ble_eq_true rfl⟩ dL_hasVoted_23
    · refine lv_lconst (v := (1 : Int32).toInt64) E.1 E.2.1 dL_hasVoted_10 (by decide) ?_
      refine lv_goto (tgt := 15) E.1 E.2.1 dL_hasVoted_11 (by decide) ?_
      refine x_last1 E h 154 hf rfl rfl dL_hasVoted_15 (fun S4 H locs hf h => ?_)
      refine lv_goto (tgt := 22) E.1 E.2.1 dL_hasVoted_16 (by decide) ?_
      refine lv_iconst (v := 0) E.1 E.2.1 dL_hasVoted_22 (by decide) ?_
      exact x_wret E h hf ⟨Nat.le_of_ble_eq_true rfl, Nat.le_of_ble_eq_true rfl⟩ dL_hasVoted_23
  · refine x_case hf (fun c9 hf => ?_) (fun c9 hf => ?_)
    · refine x_catch hNc hT.2 E hex 0 1 rfl c9 (by decide) (by decide) (by decide +kernel) (fun z hz => by cases hz) (by decide +kernel) (by decide) kw981 (by simp [xDw, xEn, xEns]) hcell hv hcl ?_
      refine lv_astore_n (lv' := (3, .ref q) :: [(0, .ref (ad 0)), (1, .int p1), (2, .ref (ad 154))]) E.1 E.2.1 dL_hasVoted_19 rfl hl (by decide) rfl (fun ls hl => ?_)
      refine lv_iconst (v := 1) E.1 E.2.1 dL_hasVoted_20 (by decide) ?_
      exact x_wret E h hf ⟨Nat.le_of_ble_eq_true rfl, Nat.le_of_ble_eq_true rfl⟩ dL_hasVoted_21
    cases hf
theorem mw_L_choirOf : Cond.static yL_choirOf ∈ lwX ∧ Cond.initialized yL_choirOf.cls ∈ lwX ∧ Cond.codeWith yL_choirOf cL_choirOf 4 (some .int) [(0, 9, 12, 24)] ∈ lwX := ⟨kw1286, kw115, kw1287⟩
set_option maxHeartbeats 4000000 in
set_option maxRecDepth 100000 in
theorem c_L_choirOf (l : Launch) (D : va_G) (cy : Nat → ClassId) (s00 : State) (ad : Nat → Nat) (hT : l.stackTraces = false ∧ XDW s00) (hG : XG s00) (hNc : XNc s00) (S : XS) (p1 : Int32) (r9 : Int32) (S9 : XS) (hf : f_L_choirOf S p1 = some (r9, S9)) : XWr l yL_choirOf cL_choirOf 4 [(0, 9, 12, 24)] 8 1 D cy s00 shW ad S [.ref (ad 0), .int p1, .ref (ad 154)] r9 S9 := by
  refine XWr.of (by decide) [(0, .ref (ad 0)), (1, .int p1), (2, .ref (ad 154))] rfl (Nat.le_of_ble_eq_true rfl) (fun p e s m args below meth c A ls E h hl hex => ?_)
  unfold f_L_choirOf at hf
  refine lv_aload_n E.1 E.2.1 dL_choirOf_0 rfl (lv_at hl 2 rfl) ?_
  refine lv_iconst (v := 0) E.1 E.2.1 dL_choirOf_1 (by decide) ?_
  refine lv_aload_n E.1 E.2.1 dL_choirOf_2 rfl (lv_at hl 0 rfl) ?_
  refine lv_iload_n E.1 E.2.1 dL_choirOf_3 rfl (lv_at hl 1 rfl) ?_
  refine x_xcallW E h hl 0 0 hf xsub_W (fun E8 r8 S8 hr => c_X8_choirOf l D cy s00 _ hT hG (xs 0 S) p1 E8 r8 S8 hr) m_X8_choirOf rfl rfl kw1288 rfl rfl (Nat.le_of_ble_eq_true rfl) ⟨Nat.le_of_ble_eq_true rfl, Nat.le_of_ble_eq_true rfl⟩ ⟨Nat.le_of_ble_eq_true rfl, Nat.le_of_ble_eq_true rfl⟩ dL_choirOf_4 (fun v S3 H locs hf h => ?_) (fun E1 S3 ce q H locs hf h hcell hv hcl => ?_)
  · refine lv_i2l E.1 E.2.1 dL_choirOf_7 rfl ?_
    refine x_last1 E h 154 hf rfl rfl dL_choirOf_8 (fun S4 H locs hf h => ?_)
    refine lv_goto (tgt := 15) E.1 E.2.1 dL_choirOf_9 (by decide) ?_
    refine lv_iconst (v := 0) E.1 E.2.1 dL_choirOf_15 (by decide) ?_
    exact x_wret E h hf ⟨Nat.le_of_ble_eq_true rfl, Nat.le_of_ble_eq_true rfl⟩ dL_choirOf_16
  · refine x_case hf (fun c9 hf => ?_) (fun c9 hf => ?_)
    · refine x_catch hNc hT.2 E hex 0 1 rfl c9 (by decide) (by decide) (by decide +kernel) (fun z hz => by cases hz) (by decide +kernel) (by decide) kw981 (by simp [xDw, xEn, xEns]) hcell hv hcl ?_
      refine lv_astore_n (lv' := (3, .ref q) :: [(0, .ref (ad 0)), (1, .int p1), (2, .ref (ad 154))]) E.1 E.2.1 dL_choirOf_12 rfl hl (by decide) rfl (fun ls hl => ?_)
      refine lv_iconst (v := 1) E.1 E.2.1 dL_choirOf_13 (by decide) ?_
      exact x_wret E h hf ⟨Nat.le_of_ble_eq_true rfl, Nat.le_of_ble_eq_true rfl⟩ dL_choirOf_14
    cases hf
theorem mw_L_fishAfter : Cond.static yL_fishAfter ∈ lwX ∧ Cond.initialized yL_fishAfter.cls ∈ lwX ∧ Cond.codeWith yL_fishAfter cL_fishAfter 5 (some .int) [(0, 10, 13, 24), (0, 10, 17, 13)] ∈ lwX := ⟨kw1293, kw115, kw1294⟩
set_option maxHeartbeats 4000000 in
set_option maxRecDepth 100000 in
theorem c_L_fishAfter (l : Launch) (D : va_G) (cy : Nat → ClassId) (s00 : State) (ad : Nat → Nat) (hT : l.stackTraces = false ∧ XDW s00) (hG : XG s00) (hNc : XNc s00) (S : XS) (p1 p2 : Int32) (r9 : Int32) (S9 : XS) (hf : f_L_fishAfter S p1 p2 = some (r9, S9)) : XWr l yL_fishAfter cL_fishAfter 5 [(0, 10, 13, 24), (0, 10, 17, 13)] 8 2 D cy s00 shW ad S [.ref (ad 0), .int p1, .int p2, .ref (ad 154)] r9 S9 := by
  refine XWr.of (by decide) [(0, .ref (ad 0)), (1, .int p1), (2, .int p2), (3, .ref (ad 154))] rfl (Nat.le_of_ble_eq_true rfl) (fun p e s m args below meth c A ls E h hl hex => ?_)
  unfold f_L_fishAfter at hf
  refine lv_aload_n E.1 E.2.1 dL_fishAfter_0 rfl (lv_at hl 3 rfl) ?_
  refine lv_iconst (v := 0) E.1 E.2.1 dL_fishAfter_1 (by decide) ?_
  refine lv_aload_n E.1 E.2.1 dL_fishAfter_2 rfl (lv_at hl 0 rfl) ?_
  refine lv_iload_n E.1 E.2.1 dL_fishAfter_3 rfl (lv_at hl 1 rfl) ?_
  refine lv_iload_n E.1 E.2.1 dL_fishAfter_4 rfl (lv_at hl 2 rfl) ?_
  refine x_xcallW E h hl 0 0 hf xsub_W (fun E8 r8 S8 hr => c_X8_fishAfter l D cy s00 _ hT hG (xs 0 S) p1 p2 E8 r8 S8 hr) m_X8_fishAfter rfl rfl kw1295 rfl rfl (Nat.le_of_ble_eq_true rfl) ⟨Nat.le_of_ble_eq_true rfl, Nat.le_of_ble_eq_true rfl⟩ ⟨Nat.le_of_ble_eq_true rfl, Nat.le_of_ble_eq_true rfl⟩ dL_fishAfter_5 (fun v S3 H locs hf h => ?_) (fun E1 S3 ce q H locs hf h hcell hv hcl => ?_)
  · refine lv_i2l E.1 E.2.1 dL_fishAfter_8 rfl ?_
    refine x_last1 E h 154 hf rfl rfl dL_fishAfter_9 (fun S4 H locs hf h => ?_)
    refine lv_goto (tgt := 21) E.1 E.2.1 dL_fishAfter_10 (by decide) ?_
    refine lv_iconst (v := 0) E.1 E.2.1 dL_fishAfter_21 (by decide) ?_
    exact x_wret E h hf ⟨Nat.le_of_ble_eq_true rfl, Nat.le_of_ble_eq_true rfl⟩ dL_fishAfter_22
  · refine x_case hf (fun c9 hf => ?_) (fun c9 hf => ?_)
    · refine x_catch hNc hT.2 E hex 0 1 rfl c9 (by decide) (by decide) (by decide +kernel) (fun z hz => by cases hz) (by decide +kernel) (by decide) kw981 (by simp [xDw, xEn, xEns]) hcell hv hcl ?_
      refine lv_astore (lv' := (4, .ref q) :: [(0, .ref (ad 0)), (1, .int p1), (2, .int p2), (3, .ref (ad 154))]) E.1 E.2.1 dL_fishAfter_13 hl (by decide) rfl (fun ls hl => ?_)
      refine lv_iconst (v := 1) E.1 E.2.1 dL_fishAfter_15 (by decide) ?_
      exact x_wret E h hf ⟨Nat.le_of_ble_eq_true rfl, Nat.le_of_ble_eq_true rfl⟩ dL_fishAfter_16
    refine x_case hf (fun c9 hf => ?_) (fun c9 hf => ?_)
    · refine x_catch hNc hT.2 E hex 1 2 rfl c9 (by decide) (by decide) (by decide +kernel) (fun z hz => by
        rcases List.mem_cons.mp hz with rfl | hz
        · exact ⟨1, by decide, by decide, by decide, kw981⟩
        cases hz) (by decide +kernel) (by decide) kw872 (by simp [xDw, xEn, xEns]) hcell hv hcl ?_
      refine lv_astore (lv' := (4, .ref q) :: [(0, .ref (ad 0)), (1, .int p1), (2, .int p2), (3, .ref (ad 154))]) E.1 E.2.1 dL_fishAfter_17 hl (by decide) rfl (fun ls hl => ?_)
      refine lv_iconst (v := 2) E.1 E.2.1 dL_fishAfter_19 (by decide) ?_
      exact x_wret E h hf ⟨Nat.le_of_ble_eq_true rfl, Nat.le_of_ble_eq_true rfl⟩ dL_fishAfter_20
    cases hf
