/-! TOTAL: written by vcg.py -/
set_option maxRecDepth 4000 in
set_option maxHeartbeats 8000000 in
theorem s_MO_ifSame {n : Nat} {L : Int32} (hn : 8589934592 ≤ n) {t : mz_St}  (ci : HI L t) (i0 : (((mz_gI t 0 34).toInt ≤ 1 ∧ (mz_gI t 0 48).toInt ≤ 0) ∨ (2 ≤ (mz_gI t 0 34).toInt ∧ (mz_gI t 0 48).toInt ≤ 2390 + 310 * (mz_gI t 0 34).toInt))) (i1 : (((mz_gI t 0 34).toInt ≤ 1 ∧ (mz_gI t 0 51).toInt ≤ 0) ∨ (2 ≤ (mz_gI t 0 34).toInt ∧ (mz_gI t 0 51).toInt ≤ 3310 * (mz_gI t 0 34).toInt - 610))) (i2 : 1 ≤ (mz_gI t 0 34).toInt) (i3 : (¬ (mz_gI t 0 34).toInt = 1 ∨ (mz_gI t 0 60).toInt ≤ 3000)) (i4 : ((mz_gI t 0 34).toInt ≤ 1 ∨ (mz_gI t 0 60).toInt ≤ 300)) (i5 : (mz_gI t 0 61).toInt ≤ (mz_gI t 0 60).toInt) : Tp (f_MO_ifSame n t) (fun r => HI L r ∧ (0 < (mz_gI r 0 6).toInt ∨ (((mz_gI r 0 34).toInt ≤ 1 ∧ (mz_gI r 0 48).toInt ≤ 0) ∨ (2 ≤ (mz_gI r 0 34).toInt ∧ (mz_gI r 0 48).toInt ≤ 2390 + 310 * (mz_gI r 0 34).toInt))) ∧ (0 < (mz_gI r 0 6).toInt ∨ (((mz_gI r 0 34).toInt ≤ 1 ∧ (mz_gI r 0 51).toInt ≤ 0) ∨ (2 ≤ (mz_gI r 0 34).toInt ∧ (mz_gI r 0 51).toInt ≤ 3310 * (mz_gI r 0 34).toInt - 610))) ∧ (0 < (mz_gI r 0 6).toInt ∨ (mz_gI t 0 8).toInt ≤ (mz_gI r 0 8).toInt)) := by
  unfold f_MO_ifSame
  have b1123 := FX_0_34 (HI_FX ci)
  have b1124 := FX_0_48 (HI_FX ci)
  have b1125 := FX_0_51 (HI_FX ci)
  have b1126 := HI_g23 ci (c := 0) (p := 60) rfl
  have b1127 := HI_g24 ci (c := 0) (p := 61) rfl
  have b1128 := FX_0_8 (HI_FX ci)
  refine Tp_mo (l_MO_ifSame_5 hn  n (mz_gI t 0 61) t ci (by omega) (by omega) (by omega) (by omega) (by omega) (by omega) (by omega) (by omega)) (fun q1129 h1130 => ?_)
  obtain ⟨ci1131, p1132, p1133, p1134⟩ := h1130
  have b1135 := HI_g29 ci1131 (c := 0) (p := 6) rfl
  have b1136 := HI_g29 ci (c := 0) (p := 6) rfl
  have b1137 := FX_0_8 (HI_FX ci1131)
  have b1138 := FX_0_34 (HI_FX ci1131)
  have b1139 := FX_0_48 (HI_FX ci1131)
  have b1140 := FX_0_51 (HI_FX ci1131)
  refine ⟨ci1131, ?_, ?_, ?_⟩
  · (try dsimp only) <;> first | omega | assumption
  · (try dsimp only) <;> first | omega | assumption
  · (try dsimp only) <;> first | omega | assumption
set_option maxRecDepth 4000 in
set_option maxHeartbeats 8000000 in
theorem s_MO_repeat {n : Nat} {L : Int32} (hn : 8589934592 ≤ n) {t : mz_St}  (ci : HI L t) (i0 : (((mz_gI t 0 34).toInt ≤ 1 ∧ (mz_gI t 0 48).toInt ≤ 0) ∨ (2 ≤ (mz_gI t 0 34).toInt ∧ (mz_gI t 0 48).toInt ≤ 2390 + 310 * (mz_gI t 0 34).toInt))) (i1 : (((mz_gI t 0 34).toInt ≤ 1 ∧ (mz_gI t 0 51).toInt ≤ 0) ∨ (2 ≤ (mz_gI t 0 34).toInt ∧ (mz_gI t 0 51).toInt ≤ 3310 * (mz_gI t 0 34).toInt - 610))) (i2 : 1 ≤ (mz_gI t 0 34).toInt) (i3 : ((mz_gI t 0 62).toInt = 0 ∨ (mz_gI t 0 61).toInt ≤ (mz_gI t 0 60).toInt)) : Tp (f_MO_repeat n t) (fun r => HI L r ∧ (0 < (mz_gI r 0 6).toInt ∨ (((mz_gI r 0 34).toInt ≤ 1 ∧ (mz_gI r 0 48).toInt ≤ 0) ∨ (2 ≤ (mz_gI r 0 34).toInt ∧ (mz_gI r 0 48).toInt ≤ 2390 + 310 * (mz_gI r 0 34).toInt))) ∧ (0 < (mz_gI r 0 6).toInt ∨ (((mz_gI r 0 34).toInt ≤ 1 ∧ (mz_gI r 0 51).toInt ≤ 0) ∨ (2 ≤ (mz_gI r 0 34).toInt ∧ (mz_gI r 0 51).toInt ≤ 3310 * (mz_gI r 0 34).toInt - 610))) ∧ (0 < (mz_gI r 0 6).toInt ∨ (mz_gI t 0 8).toInt ≤ (mz_gI r 0 8).toInt)) := by
  unfold f_MO_repeat
  have b1141 := FX_0_34 (HI_FX ci)
  have b1142 := FX_0_48 (HI_FX ci)
  have b1143 := FX_0_51 (HI_FX ci)
  have b1144 := HI_g2 ci (c := 0) (p := 62) rfl
  have b1145 := HI_g24 ci (c := 0) (p := 61) rfl
  have b1146 := HI_g23 ci (c := 0) (p := 60) rfl
  have b1147 := FX_0_8 (HI_FX ci)
  refine Tp_bi (s_MO_wholeValue hn (HI_MI ci) (by omega) (t := t)) (fun q1148 h1149 => ?_)
  have mi1151 := h1149
  have ci1150 := HI_tr ci mi1151
  refine Tp_if (fun h1152 => ?_) (fun h1152 => ?_)
  · have g1153 := ti_e h1152
    have b1154 := HI_g29 ci1150 (c := 0) (p := 6) rfl
    have l1155 : (0 : Int32).toInt = 0 := rfl
    have i1158 := ti_rg q1148.1
    have l1159 : ((0 : Int32)).toInt = 0 := rfl
    have l1160 : ((100 : Int32)).toInt = 100 := rfl
    refine Tp_bi (s_MO_in hn (HI_MI ci1150)  (t := q1148.2) (x0 := q1148.1) (x1 := (0 : Int32)) (x2 := (100 : Int32))) (fun q1156 h1157 => ?_)
    obtain ⟨mi1166, E1162, p1163, p1164, p1165⟩ := h1157
    have ci1161 := HI_tr ci1150 mi1166
    try rw [E1162]
    refine Tp_if (fun h1167 => ?_) (fun h1167 => ?_)
    · have g1168 := ti_q h1167
      have i1169 := ti_rg q1156.1
      have l1172 : ((4 : Int32)).toInt = 4 := rfl
      have i1173 := ti_rg (mz_gI q1148.2 0 63)
      refine Tp_bi (s_MO_failL hn ci1150 (by omega) (t := q1148.2) (x1 := (4 : Int32)) (x2 := mz_gI q1148.2 0 63)) (fun q1170 h1171 => ?_)
      obtain ⟨ci1174, E1175, p1176, p1177⟩ := h1171
      have b1178 := FX_0_8 (HI_FX ci1150)
      have e1179 : (mz_gI q1148.2 0 8).toInt = (mz_gI t 0 8).toInt := MI_13 mi1151 rfl
      have b1180 := HI_g29 ci1174 (c := 0) (p := 6) rfl
      have b1181 := FX_0_8 (HI_FX ci1174)
      have b1182 := HI_g23 ci1174 (c := 0) (p := 60) rfl
      have e1183 : (mz_gI q1170 0 60).toInt = (mz_gI q1148.2 0 60).toInt := by rw [E1175 _ _ (by simp)]
      have b1184 := HI_g23 ci1150 (c := 0) (p := 60) rfl
      refine Tp_so ?_
      have b1185 := HI_g29 ci (c := 0) (p := 6) rfl
      have b1186 := FX_0_34 (HI_FX ci1174)
      have e1187 : (mz_gI q1170 0 34).toInt = (mz_gI q1148.2 0 34).toInt := by rw [E1175 _ _ (by simp)]
      have b1188 := FX_0_34 (HI_FX ci1150)
      have e1189 : (mz_gI q1148.2 0 34).toInt = (mz_gI t 0 34).toInt := MI_13 mi1151 rfl
      have b1190 := FX_0_48 (HI_FX ci1174)
      have e1191 : (mz_gI q1170 0 48).toInt = (mz_gI q1148.2 0 48).toInt := by rw [E1175 _ _ (by simp)]
      have b1192 := FX_0_48 (HI_FX ci1150)
      have e1193 : (mz_gI q1148.2 0 48).toInt = (mz_gI t 0 48).toInt := MI_13 mi1151 rfl
      have b1194 := FX_0_51 (HI_FX ci1174)
      have e1195 : (mz_gI q1170 0 51).toInt = (mz_gI q1148.2 0 51).toInt := by rw [E1175 _ _ (by simp)]
      have b1196 := FX_0_51 (HI_FX ci1150)
      have e1197 : (mz_gI q1148.2 0 51).toInt = (mz_gI t 0 51).toInt := MI_13 mi1151 rfl
      refine ⟨ci1174, ?_, ?_, ?_⟩
      · (try dsimp only) <;> first | omega | assumption
      · (try dsimp only) <;> first | omega | assumption
      · (try dsimp only) <;> first | omega | assumption
    · have g1198 := ti_nq h1167
      have i1199 := ti_rg q1156.1
      have b1200 := FX_0_34 (HI_FX ci1150)
      have e1201 : (mz_gI q1148.2 0 34).toInt = (mz_gI t 0 34).toInt := MI_13 mi1151 rfl
      have l1202 : ((1 : Int32)).toInt = 1 := rfl
      first | (have a1203 : ((mz_gI q1148.2 0 34) - (1 : Int32)).toInt = (mz_gI q1148.2 0 34).toInt - ((1 : Int32)).toInt := ti_sub (by omega) (by omega)) | (have a1204 := ti_rg ((mz_gI q1148.2 0 34) - (1 : Int32)))
      refine Tp_gd (ti_ix (by omega) (by omega)) ?_
      refine Tp_bi (s_MO_bracketEnd hn ci1150 (by omega) (by omega) (t := q1148.2) (x1 := (mz_gI q1148.2 0 34) - (1 : Int32))) (fun q1205 h1206 => ?_)
      obtain ⟨ci1207, E1208, p1209⟩ := h1206
      have b1210 := FX_25 (HI_FX ci1150) ((mz_gI q1148.2 0 34) - (1 : Int32)).toNatClampNeg
      have z1211 := HI_at ci1150 ((mz_gI q1148.2 0 34) - (1 : Int32)).toNatClampNeg
      have e1212 : (mz_gI q1148.2 25 ((mz_gI q1148.2 0 34) - (1 : Int32)).toNatClampNeg).toInt = (mz_gI t 25 ((mz_gI q1148.2 0 34) - (1 : Int32)).toNatClampNeg).toInt := MI_13 mi1151 rfl
      have b1213 := FX_25 (HI_FX ci) ((mz_gI q1148.2 0 34) - (1 : Int32)).toNatClampNeg
      have z1214 := HI_at ci ((mz_gI q1148.2 0 34) - (1 : Int32)).toNatClampNeg
      have b1215 := FX_24 (HI_FX ci1150) ((mz_gI q1148.2 0 34) - (1 : Int32)).toNatClampNeg
      have z1216 := HI_at ci1150 ((mz_gI q1148.2 0 34) - (1 : Int32)).toNatClampNeg
      have e1217 : (mz_gI q1148.2 24 ((mz_gI q1148.2 0 34) - (1 : Int32)).toNatClampNeg).toInt = (mz_gI t 24 ((mz_gI q1148.2 0 34) - (1 : Int32)).toNatClampNeg).toInt := MI_13 mi1151 rfl
      have b1218 := FX_24 (HI_FX ci) ((mz_gI q1148.2 0 34) - (1 : Int32)).toNatClampNeg
      have z1219 := HI_at ci ((mz_gI q1148.2 0 34) - (1 : Int32)).toNatClampNeg
      have b1220 := FX_0_8 (HI_FX ci1150)
      have e1221 : (mz_gI q1148.2 0 8).toInt = (mz_gI t 0 8).toInt := MI_13 mi1151 rfl
      have b1222 := HI_g29 ci1207 (c := 0) (p := 6) rfl
      have b1223 := FX_0_8 (HI_FX ci1207)
      refine Tp_if (fun h1224 => ?_) (fun h1224 => ?_)
      · have g1225 := ti_e h1224
        have i1226 := ti_rg q1205.1
        refine Tp_gd (ti_ix (by omega) (by omega)) ?_
        refine Tp_le (fun t1227 E1228 => ?_)
        have b1230 := FX_23 (HI_FX ci1207) ((mz_gI q1148.2 0 34) - (1 : Int32)).toNatClampNeg
        have z1231 := HI_at ci1207 ((mz_gI q1148.2 0 34) - (1 : Int32)).toNatClampNeg
        have e1232 : (mz_gI q1205.2 23 ((mz_gI q1148.2 0 34) - (1 : Int32)).toNatClampNeg).toInt = (mz_gI q1148.2 23 ((mz_gI q1148.2 0 34) - (1 : Int32)).toNatClampNeg).toInt := by rw [E1208 _ _ (by simp)]
        have b1233 := FX_23 (HI_FX ci1150) ((mz_gI q1148.2 0 34) - (1 : Int32)).toNatClampNeg
        have z1234 := HI_at ci1150 ((mz_gI q1148.2 0 34) - (1 : Int32)).toNatClampNeg
        have e1235 : (mz_gI q1148.2 23 ((mz_gI q1148.2 0 34) - (1 : Int32)).toNatClampNeg).toInt = (mz_gI t 23 ((mz_gI q1148.2 0 34) - (1 : Int32)).toNatClampNeg).toInt := MI_13 mi1151 rfl
        have b1236 := FX_23 (HI_FX ci) ((mz_gI q1148.2 0 34) - (1 : Int32)).toNatClampNeg
        have z1237 := HI_at ci ((mz_gI q1148.2 0 34) - (1 : Int32)).toNatClampNeg
        have b1238 := FX_24 (HI_FX ci1207) ((mz_gI q1148.2 0 34) - (1 : Int32)).toNatClampNeg
        have z1239 := HI_at ci1207 ((mz_gI q1148.2 0 34) - (1 : Int32)).toNatClampNeg
        have e1240 : (mz_gI q1205.2 24 ((mz_gI q1148.2 0 34) - (1 : Int32)).toNatClampNeg).toInt = (mz_gI q1148.2 24 ((mz_gI q1148.2 0 34) - (1 : Int32)).toNatClampNeg).toInt := by rw [E1208 _ _ (by simp)]
        have ci1229 := HI_f25 ci1207 E1228 (by omega) (by omega)
        refine Tp_if (fun h1241 => ?_) (fun h1241 => ?_)
        · have g1242 := ti_e h1241
          unfold f_MO_repeat_94
          refine Tp_if (fun h1243 => ?_) (fun h1243 => ?_)
          · have g1244 := ti_e h1243
            refine Tp_so ?_
            have b1245 := HI_g29 ci1229 (c := 0) (p := 6) rfl
            have e1246 : (mz_gI t1227 0 6).toInt = (mz_gI q1205.2 0 6).toInt := by rw [E1228, gI_oth _ _ (by simp)]
            have b1247 := HI_g29 ci (c := 0) (p := 6) rfl
            have b1248 := FX_0_8 (HI_FX ci1229)
            have e1249 : (mz_gI t1227 0 8).toInt = (mz_gI q1205.2 0 8).toInt := by rw [E1228, gI_oth _ _ (by simp)]
            have b1250 := FX_0_34 (HI_FX ci1229)
            have e1251 : (mz_gI t1227 0 34).toInt = (mz_gI q1205.2 0 34).toInt := by rw [E1228, gI_oth _ _ (by simp)]
            have b1252 := FX_0_34 (HI_FX ci1207)
            have e1253 : (mz_gI q1205.2 0 34).toInt = (mz_gI q1148.2 0 34).toInt := by rw [E1208 _ _ (by simp)]
            have b1254 := FX_0_48 (HI_FX ci1229)
            have e1255 : (mz_gI t1227 0 48).toInt = (mz_gI q1205.2 0 48).toInt := by rw [E1228, gI_oth _ _ (by simp)]
            have b1256 := FX_0_48 (HI_FX ci1207)
            have e1257 : (mz_gI q1205.2 0 48).toInt = (mz_gI q1148.2 0 48).toInt := by rw [E1208 _ _ (by simp)]
            have b1258 := FX_0_48 (HI_FX ci1150)
            have e1259 : (mz_gI q1148.2 0 48).toInt = (mz_gI t 0 48).toInt := MI_13 mi1151 rfl
            have b1260 := FX_0_51 (HI_FX ci1229)
            have e1261 : (mz_gI t1227 0 51).toInt = (mz_gI q1205.2 0 51).toInt := by rw [E1228, gI_oth _ _ (by simp)]
            have b1262 := FX_0_51 (HI_FX ci1207)
            have e1263 : (mz_gI q1205.2 0 51).toInt = (mz_gI q1148.2 0 51).toInt := by rw [E1208 _ _ (by simp)]
            have b1264 := FX_0_51 (HI_FX ci1150)
            have e1265 : (mz_gI q1148.2 0 51).toInt = (mz_gI t 0 51).toInt := MI_13 mi1151 rfl
            refine ⟨ci1229, ?_, ?_, ?_⟩
            · (try dsimp only) <;> first | omega | assumption
            · (try dsimp only) <;> first | omega | assumption
            · (try dsimp only) <;> first | omega | assumption
          · have g1266 := ti_ne h1243
            have l1269 : ((2 : Int32)).toInt = 2 := rfl
            first | (have a1270 : (q1205.1 - (1 : Int32)).toInt = (q1205.1).toInt - ((1 : Int32)).toInt := ti_sub (by omega) (by omega)) | (have a1271 := ti_rg (q1205.1 - (1 : Int32)))
            have b1272 := FX_0_48 (HI_FX ci1229)
            have e1273 : (mz_gI t1227 0 48).toInt = (mz_gI q1205.2 0 48).toInt := by rw [E1228, gI_oth _ _ (by simp)]
            have b1274 := FX_0_48 (HI_FX ci1207)
            have e1275 : (mz_gI q1205.2 0 48).toInt = (mz_gI q1148.2 0 48).toInt := by rw [E1208 _ _ (by simp)]
            have b1276 := FX_0_48 (HI_FX ci1150)
            have e1277 : (mz_gI q1148.2 0 48).toInt = (mz_gI t 0 48).toInt := MI_13 mi1151 rfl
            have b1278 := FX_0_51 (HI_FX ci1229)
            have e1279 : (mz_gI t1227 0 51).toInt = (mz_gI q1205.2 0 51).toInt := by rw [E1228, gI_oth _ _ (by simp)]
            have b1280 := FX_0_51 (HI_FX ci1207)
            have e1281 : (mz_gI q1205.2 0 51).toInt = (mz_gI q1148.2 0 51).toInt := by rw [E1208 _ _ (by simp)]
            have b1282 := FX_0_51 (HI_FX ci1150)
            have e1283 : (mz_gI q1148.2 0 51).toInt = (mz_gI t 0 51).toInt := MI_13 mi1151 rfl
            have b1284 := FX_0_34 (HI_FX ci1229)
            have e1285 : (mz_gI t1227 0 34).toInt = (mz_gI q1205.2 0 34).toInt := by rw [E1228, gI_oth _ _ (by simp)]
            have b1286 := FX_0_34 (HI_FX ci1207)
            have e1287 : (mz_gI q1205.2 0 34).toInt = (mz_gI q1148.2 0 34).toInt := by rw [E1208 _ _ (by simp)]
            refine Tp_bi (s_MO_beginFrame hn ci1229 (by omega) (by omega) (by omega) (by omega) (by omega) (by omega) (by omega) (by omega) (by omega) (by omega) (by omega) (t := t1227) (x1 := (2 : Int32)) (x2 := mz_gI q1148.2 25 ((mz_gI q1148.2 0 34) - (1 : Int32)).toNatClampNeg) (x3 := q1205.1 - (1 : Int32)) (x4 := q1148.1) (x5 := mz_gI t1227 0 48) (x6 := mz_gI t1227 0 51)) (fun q1267 h1268 => ?_)
            obtain ⟨ci1288, p1289, p1290, p1291, p1292, p1293⟩ := h1268
            have b1294 := HI_g29 ci1229 (c := 0) (p := 6) rfl
            have e1295 : (mz_gI t1227 0 6).toInt = (mz_gI q1205.2 0 6).toInt := by rw [E1228, gI_oth _ _ (by simp)]
            have b1296 := FX_0_8 (HI_FX ci1229)
            have e1297 : (mz_gI t1227 0 8).toInt = (mz_gI q1205.2 0 8).toInt := by rw [E1228, gI_oth _ _ (by simp)]
            have b1298 := FX_0_34 (HI_FX ci1288)
            have b1299 := FX_0_48 (HI_FX ci1288)
            have b1300 := FX_0_51 (HI_FX ci1288)
            have b1301 := HI_g29 ci1288 (c := 0) (p := 6) rfl
            have b1302 := FX_0_8 (HI_FX ci1288)
            refine Tp_so ?_
            have b1303 := HI_g29 ci (c := 0) (p := 6) rfl
            refine ⟨ci1288, ?_, ?_, ?_⟩
            · (try dsimp only) <;> first | omega | assumption
            · (try dsimp only) <;> first | omega | assumption
            · (try dsimp only) <;> first | omega | assumption
        · have g1304 := ti_ne h1241
          refine Tp_if (fun h1305 => ?_) (fun h1305 => ?_)
          · have g1306 := ti_e h1305
            have b1307 := FX_0_34 (HI_FX ci1229)
            have e1308 : (mz_gI t1227 0 34).toInt = (mz_gI q1205.2 0 34).toInt := by rw [E1228, gI_oth _ _ (by simp)]
            have b1309 := FX_0_34 (HI_FX ci1207)
            have e1310 : (mz_gI q1205.2 0 34).toInt = (mz_gI q1148.2 0 34).toInt := by rw [E1208 _ _ (by simp)]
            have l1311 : ((12 : Int32)).toInt = 12 := rfl
            unfold f_MO_repeat_94
            refine Tp_if (fun h1312 => ?_) (fun h1312 => ?_)
            · have g1313 := ti_e h1312
              refine Tp_so ?_
              have b1314 := HI_g29 ci1229 (c := 0) (p := 6) rfl
              have e1315 : (mz_gI t1227 0 6).toInt = (mz_gI q1205.2 0 6).toInt := by rw [E1228, gI_oth _ _ (by simp)]
              have b1316 := HI_g29 ci (c := 0) (p := 6) rfl
              have b1317 := FX_0_8 (HI_FX ci1229)
              have e1318 : (mz_gI t1227 0 8).toInt = (mz_gI q1205.2 0 8).toInt := by rw [E1228, gI_oth _ _ (by simp)]
              have b1319 := FX_0_48 (HI_FX ci1229)
              have e1320 : (mz_gI t1227 0 48).toInt = (mz_gI q1205.2 0 48).toInt := by rw [E1228, gI_oth _ _ (by simp)]
              have b1321 := FX_0_48 (HI_FX ci1207)
              have e1322 : (mz_gI q1205.2 0 48).toInt = (mz_gI q1148.2 0 48).toInt := by rw [E1208 _ _ (by simp)]
              have b1323 := FX_0_48 (HI_FX ci1150)
              have e1324 : (mz_gI q1148.2 0 48).toInt = (mz_gI t 0 48).toInt := MI_13 mi1151 rfl
              have b1325 := FX_0_51 (HI_FX ci1229)
              have e1326 : (mz_gI t1227 0 51).toInt = (mz_gI q1205.2 0 51).toInt := by rw [E1228, gI_oth _ _ (by simp)]
              have b1327 := FX_0_51 (HI_FX ci1207)
              have e1328 : (mz_gI q1205.2 0 51).toInt = (mz_gI q1148.2 0 51).toInt := by rw [E1208 _ _ (by simp)]
              have b1329 := FX_0_51 (HI_FX ci1150)
              have e1330 : (mz_gI q1148.2 0 51).toInt = (mz_gI t 0 51).toInt := MI_13 mi1151 rfl
              refine ⟨ci1229, ?_, ?_, ?_⟩
              · (try dsimp only) <;> first | omega | assumption
              · (try dsimp only) <;> first | omega | assumption
              · (try dsimp only) <;> first | omega | assumption
            · have g1331 := ti_ne h1312
              have l1334 : ((2 : Int32)).toInt = 2 := rfl
              first | (have a1335 : (q1205.1 - (1 : Int32)).toInt = (q1205.1).toInt - ((1 : Int32)).toInt := ti_sub (by omega) (by omega)) | (have a1336 := ti_rg (q1205.1 - (1 : Int32)))
              have b1337 := FX_0_48 (HI_FX ci1229)
              have e1338 : (mz_gI t1227 0 48).toInt = (mz_gI q1205.2 0 48).toInt := by rw [E1228, gI_oth _ _ (by simp)]
              have b1339 := FX_0_48 (HI_FX ci1207)
              have e1340 : (mz_gI q1205.2 0 48).toInt = (mz_gI q1148.2 0 48).toInt := by rw [E1208 _ _ (by simp)]
              have b1341 := FX_0_48 (HI_FX ci1150)
              have e1342 : (mz_gI q1148.2 0 48).toInt = (mz_gI t 0 48).toInt := MI_13 mi1151 rfl
              have b1343 := FX_0_51 (HI_FX ci1229)
              have e1344 : (mz_gI t1227 0 51).toInt = (mz_gI q1205.2 0 51).toInt := by rw [E1228, gI_oth _ _ (by simp)]
              have b1345 := FX_0_51 (HI_FX ci1207)
              have e1346 : (mz_gI q1205.2 0 51).toInt = (mz_gI q1148.2 0 51).toInt := by rw [E1208 _ _ (by simp)]
              have b1347 := FX_0_51 (HI_FX ci1150)
              have e1348 : (mz_gI q1148.2 0 51).toInt = (mz_gI t 0 51).toInt := MI_13 mi1151 rfl
              refine Tp_bi (s_MO_beginFrame hn ci1229 (by omega) (by omega) (by omega) (by omega) (by omega) (by omega) (by omega) (by omega) (by omega) (by omega) (by omega) (t := t1227) (x1 := (2 : Int32)) (x2 := mz_gI q1148.2 25 ((mz_gI q1148.2 0 34) - (1 : Int32)).toNatClampNeg) (x3 := q1205.1 - (1 : Int32)) (x4 := q1148.1) (x5 := mz_gI t1227 0 48) (x6 := mz_gI t1227 0 51)) (fun q1332 h1333 => ?_)
              obtain ⟨ci1349, p1350, p1351, p1352, p1353, p1354⟩ := h1333
              have b1355 := HI_g29 ci1229 (c := 0) (p := 6) rfl
              have e1356 : (mz_gI t1227 0 6).toInt = (mz_gI q1205.2 0 6).toInt := by rw [E1228, gI_oth _ _ (by simp)]
              have b1357 := FX_0_8 (HI_FX ci1229)
              have e1358 : (mz_gI t1227 0 8).toInt = (mz_gI q1205.2 0 8).toInt := by rw [E1228, gI_oth _ _ (by simp)]
              have b1359 := FX_0_34 (HI_FX ci1349)
              have b1360 := FX_0_48 (HI_FX ci1349)
              have b1361 := FX_0_51 (HI_FX ci1349)
              have b1362 := HI_g29 ci1349 (c := 0) (p := 6) rfl
              have b1363 := FX_0_8 (HI_FX ci1349)
              refine Tp_so ?_
              have b1364 := HI_g29 ci (c := 0) (p := 6) rfl
              refine ⟨ci1349, ?_, ?_, ?_⟩
              · (try dsimp only) <;> first | omega | assumption
              · (try dsimp only) <;> first | omega | assumption
              · (try dsimp only) <;> first | omega | assumption
          · have g1365 := ti_ne h1305
            have b1366 := FX_0_34 (HI_FX ci1229)
            have e1367 : (mz_gI t1227 0 34).toInt = (mz_gI q1205.2 0 34).toInt := by rw [E1228, gI_oth _ _ (by simp)]
            have b1368 := FX_0_34 (HI_FX ci1207)
            have e1369 : (mz_gI q1205.2 0 34).toInt = (mz_gI q1148.2 0 34).toInt := by rw [E1208 _ _ (by simp)]
            have l1370 : ((12 : Int32)).toInt = 12 := rfl
            have l1373 : ((6 : Int32)).toInt = 6 := rfl
            have i1374 := ti_rg (mz_gI t1227 0 63)
            have e1375 : (mz_gI t1227 0 63).toInt = (mz_gI q1205.2 0 63).toInt := by rw [E1228, gI_oth _ _ (by simp)]
            have i1376 := ti_rg (mz_gI q1205.2 0 63)
            have e1377 : (mz_gI q1205.2 0 63).toInt = (mz_gI q1148.2 0 63).toInt := by rw [E1208 _ _ (by simp)]
            have i1378 := ti_rg (mz_gI q1148.2 0 63)
            refine Tp_bi (s_MO_failL hn ci1229 (by omega) (t := t1227) (x1 := (6 : Int32)) (x2 := mz_gI t1227 0 63)) (fun q1371 h1372 => ?_)
            obtain ⟨ci1379, E1380, p1381, p1382⟩ := h1372
            have b1383 := FX_0_8 (HI_FX ci1229)
            have e1384 : (mz_gI t1227 0 8).toInt = (mz_gI q1205.2 0 8).toInt := by rw [E1228, gI_oth _ _ (by simp)]
            have b1385 := HI_g29 ci1379 (c := 0) (p := 6) rfl
            have b1386 := FX_0_8 (HI_FX ci1379)
            have b1387 := HI_g29 ci1229 (c := 0) (p := 6) rfl
            have e1388 : (mz_gI t1227 0 6).toInt = (mz_gI q1205.2 0 6).toInt := by rw [E1228, gI_oth _ _ (by simp)]
            have b1389 := HI_g23 ci1379 (c := 0) (p := 60) rfl
            have e1390 : (mz_gI q1371 0 60).toInt = (mz_gI t1227 0 60).toInt := by rw [E1380 _ _ (by simp)]
            have b1391 := HI_g23 ci1229 (c := 0) (p := 60) rfl
            have e1392 : (mz_gI t1227 0 60).toInt = (mz_gI q1205.2 0 60).toInt := by rw [E1228, gI_oth _ _ (by simp)]
            have b1393 := HI_g23 ci1207 (c := 0) (p := 60) rfl
            have e1394 : (mz_gI q1205.2 0 60).toInt = (mz_gI q1148.2 0 60).toInt := by rw [E1208 _ _ (by simp)]
            have b1395 := HI_g23 ci1150 (c := 0) (p := 60) rfl
            refine Tp_so ?_
            have b1396 := HI_g29 ci (c := 0) (p := 6) rfl
            have b1397 := FX_0_34 (HI_FX ci1379)
            have e1398 : (mz_gI q1371 0 34).toInt = (mz_gI t1227 0 34).toInt := by rw [E1380 _ _ (by simp)]
            have b1399 := FX_0_48 (HI_FX ci1379)
            have e1400 : (mz_gI q1371 0 48).toInt = (mz_gI t1227 0 48).toInt := by rw [E1380 _ _ (by simp)]
            have b1401 := FX_0_48 (HI_FX ci1229)
            have e1402 : (mz_gI t1227 0 48).toInt = (mz_gI q1205.2 0 48).toInt := by rw [E1228, gI_oth _ _ (by simp)]
            have b1403 := FX_0_48 (HI_FX ci1207)
            have e1404 : (mz_gI q1205.2 0 48).toInt = (mz_gI q1148.2 0 48).toInt := by rw [E1208 _ _ (by simp)]
            have b1405 := FX_0_48 (HI_FX ci1150)
            have e1406 : (mz_gI q1148.2 0 48).toInt = (mz_gI t 0 48).toInt := MI_13 mi1151 rfl
            have b1407 := FX_0_51 (HI_FX ci1379)
            have e1408 : (mz_gI q1371 0 51).toInt = (mz_gI t1227 0 51).toInt := by rw [E1380 _ _ (by simp)]
            have b1409 := FX_0_51 (HI_FX ci1229)
            have e1410 : (mz_gI t1227 0 51).toInt = (mz_gI q1205.2 0 51).toInt := by rw [E1228, gI_oth _ _ (by simp)]
            have b1411 := FX_0_51 (HI_FX ci1207)
            have e1412 : (mz_gI q1205.2 0 51).toInt = (mz_gI q1148.2 0 51).toInt := by rw [E1208 _ _ (by simp)]
            have b1413 := FX_0_51 (HI_FX ci1150)
            have e1414 : (mz_gI q1148.2 0 51).toInt = (mz_gI t 0 51).toInt := MI_13 mi1151 rfl
            refine ⟨ci1379, ?_, ?_, ?_⟩
            · (try dsimp only) <;> first | omega | assumption
            · (try dsimp only) <;> first | omega | assumption
            · (try dsimp only) <;> first | omega | assumption
      · have g1415 := ti_ne h1224
        have i1416 := ti_rg q1205.1
        refine Tp_so ?_
        have b1417 := HI_g29 ci (c := 0) (p := 6) rfl
        have b1418 := FX_0_34 (HI_FX ci1207)
        have e1419 : (mz_gI q1205.2 0 34).toInt = (mz_gI q1148.2 0 34).toInt := by rw [E1208 _ _ (by simp)]
        have b1420 := FX_0_48 (HI_FX ci1207)
        have e1421 : (mz_gI q1205.2 0 48).toInt = (mz_gI q1148.2 0 48).toInt := by rw [E1208 _ _ (by simp)]
        have b1422 := FX_0_48 (HI_FX ci1150)
        have e1423 : (mz_gI q1148.2 0 48).toInt = (mz_gI t 0 48).toInt := MI_13 mi1151 rfl
        have b1424 := FX_0_51 (HI_FX ci1207)
        have e1425 : (mz_gI q1205.2 0 51).toInt = (mz_gI q1148.2 0 51).toInt := by rw [E1208 _ _ (by simp)]
        have b1426 := FX_0_51 (HI_FX ci1150)
        have e1427 : (mz_gI q1148.2 0 51).toInt = (mz_gI t 0 51).toInt := MI_13 mi1151 rfl
        refine ⟨ci1207, ?_, ?_, ?_⟩
        · (try dsimp only) <;> first | omega | assumption
        · (try dsimp only) <;> first | omega | assumption
        · (try dsimp only) <;> first | omega | assumption
  · have g1428 := ti_ne h1152
    have b1429 := HI_g29 ci1150 (c := 0) (p := 6) rfl
    have l1430 : (0 : Int32).toInt = 0 := rfl
    refine Tp_so ?_
    have b1431 := HI_g29 ci (c := 0) (p := 6) rfl
    have b1432 := FX_0_8 (HI_FX ci1150)
    have e1433 : (mz_gI q1148.2 0 8).toInt = (mz_gI t 0 8).toInt := MI_13 mi1151 rfl
    have b1434 := FX_0_34 (HI_FX ci1150)
    have e1435 : (mz_gI q1148.2 0 34).toInt = (mz_gI t 0 34).toInt := MI_13 mi1151 rfl
    have b1436 := FX_0_48 (HI_FX ci1150)
    have e1437 : (mz_gI q1148.2 0 48).toInt = (mz_gI t 0 48).toInt := MI_13 mi1151 rfl
    have b1438 := FX_0_51 (HI_FX ci1150)
    have e1439 : (mz_gI q1148.2 0 51).toInt = (mz_gI t 0 51).toInt := MI_13 mi1151 rfl
    refine ⟨ci1150, ?_, ?_, ?_⟩
    · (try dsimp only) <;> first | omega | assumption
    · (try dsimp only) <;> first | omega | assumption
    · (try dsimp only) <;> first | omega | assumption
