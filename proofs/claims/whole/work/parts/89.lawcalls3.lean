/-! ===== the law: its calls, 3 ===== -/
set_option maxRecDepth 100000 in
set_option maxHeartbeats 4000000 in
theorem LC_16 {g : GP} {b L : Nat} {xs : Nat → Int32} {kk nn i q : Nat} {σ : AH} (hL : L < 1073741824) (hi : i + 6 < L) (hq : q < 512) (h : Rel q σ) (kt : ∀ σ', Rel (q + 1) σ' → V g mLaw (ELw b) (CXl g b L xs) kk nn 1987 [(0, .ref 1), (1, .ref 2), (2, .ref 33), (3, .ref 72), (4, .int (nI i))] [] σ') :
    V g mLaw (ELw b) (CXl g b L xs) (kk + 11) (nn + 94) 1098 [(0, .ref 1), (1, .ref 2), (2, .ref 33), (3, .ref 72), (4, .int (nI i))] [] σ := by
  refine V_aload_n dW_1098 rfl ?_
  refine V_aload_n dW_1099 rfl ?_
  refine V_iload dW_1100 rfl ?_
  refine V_iconst (1 : Int32) dW_1102 (by decide) ?_
  refine V_iadd dW_1103 ?_
  refine V_sldj (j := 1) rfl (by omega) hL dW_1104 ?_
  refine V_aload_n dW_1105 rfl ?_
  refine V_iload dW_1106 rfl ?_
  refine V_iconst (2 : Int32) dW_1108 (by decide) ?_
  refine V_iadd dW_1109 ?_
  refine V_sldj (j := 2) rfl (by omega) hL dW_1110 ?_
  refine V_aload_n dW_1111 rfl ?_
  refine V_iload dW_1112 rfl ?_
  refine V_iconst (3 : Int32) dW_1114 (by decide) ?_
  refine V_iadd dW_1115 ?_
  refine V_sldj (j := 3) rfl (by omega) hL dW_1116 ?_
  refine V_aload_n dW_1117 rfl ?_
  refine V_callSH (as := [.ref 2, .int (xs (i + 1)), .int (xs (i + 2)), .int (xs (i + 3)), .ref 72]) (st := []) (k' := kk) (n' := nn) (R_endorse hq h) mw_L_endorse w_893 w_892 ar_L_endorse (rf_L rfl rfl rfl rfl rfl) dW_1118 (fun σ1 rv hq1 => ?_)
  obtain ⟨e, rfl, hS1, hm⟩ := hq1
  refine V_cast (st' := [.int e]) rfl rfl rfl ?_
  refine V_istore [(0, .ref 1), (1, .ref 2), (2, .ref 33), (3, .ref 72), (4, .int (nI i)), (5, .int e)] dW_1121 rfl rfl ?_
  refine V_aload_n dW_1123 rfl ?_
  refine V_aload_n dW_1124 rfl ?_
  refine V_iload dW_1125 rfl ?_
  refine V_iconst (1 : Int32) dW_1127 (by decide) ?_
  refine V_iadd dW_1128 ?_
  refine V_sldj (j := 1) rfl (by omega) hL dW_1129 ?_
  refine V_aload_n dW_1130 rfl ?_
  refine V_iload dW_1131 rfl ?_
  refine V_iconst (2 : Int32) dW_1133 (by decide) ?_
  refine V_iadd dW_1134 ?_
  refine V_sldj (j := 2) rfl (by omega) hL dW_1135 ?_
  refine V_aload_n dW_1136 rfl ?_
  refine V_iload dW_1137 rfl ?_
  refine V_iconst (3 : Int32) dW_1139 (by decide) ?_
  refine V_iadd dW_1140 ?_
  refine V_sldj (j := 3) rfl (by omega) hL dW_1141 ?_
  refine V_callV (as := [.int (xs (i + 1)), .int (xs (i + 2)), .int (xs (i + 3))]) (st := []) (k' := kk) (n' := nn) hm mw_X12_endorse ko_X12 rfl w_1359 w_1360 w_1358 ar_X12_endorse (rf_M rfl rfl rfl rfl rfl) dW_1142 (by decide) (shk hS1 33 rfl) (fun σ2 rv hq2 => ?_)
  obtain ⟨e49, hR, d, rfl, hb⟩ := hq2
  refine V_cast (st' := [.int d]) rfl rfl rfl ?_
  refine V_istore [(0, .ref 1), (1, .ref 2), (2, .ref 33), (3, .ref 72), (4, .int (nI i)), (5, .int e), (6, .int d)] dW_1145 rfl rfl ?_
  refine V_aload_n dW_1147 rfl ?_
  refine V_callV1 (as := []) (st := []) (k' := kk) (n' := nn) (s_X12_thrown hR.2.1) mw_X12_thrown ko_X12 rfl w_1208 w_1209 w_1207 ar_X12_thrown rfl (rf_M rfl rfl rfl rfl rfl) dW_1148 (by decide) (shk hR.2.1 33 rfl) ?_
  refine V_iload dW_1151 rfl ?_
  refine V_icmp_eq 1158 dW_1153 rfl (fun _ => ?_) (fun c => absurd e49 c)
  refine V_iload dW_1158 rfl ?_
  refine V_if_ne 1175 dW_1160 rfl (fun _ => ?_) (fun ck => ?_)
  · refine V_goto 1987 dW_1175 rfl ?_
    exact V_less (fun q hq => List.mem_append_left [(5, .int e), (6, .int d)] hq) (Nat.le_refl _) (Nat.le_refl _) (kt σ2 hR)
  · refine V_aload_n dW_1163 rfl ?_
    refine V_iconst (0 : Int32) dW_1164 (by decide) ?_
    refine V_lald dW_1165 (by decide) (shk hR.2.1 72 rfl) (vp_l (n := 1) (shl hR.2.1 72 rfl) (vp_in_nI (n := 0) (by decide) (by decide))) ?_
    refine V_iload dW_1166 rfl ?_
    refine V_i2l dW_1168 ?_
    refine V_lcmp dW_1169 ?_
    refine V_if_eq 1175 dW_1170 rfl (fun _ => ?_) (fun c => absurd (lc_eq (hb ck)) c)
    refine V_goto 1987 dW_1175 rfl ?_
    exact V_less (fun q hq => List.mem_append_left [(5, .int e), (6, .int d)] hq) (Nat.le_refl _) (Nat.le_refl _) (kt σ2 hR)
set_option maxRecDepth 100000 in
set_option maxHeartbeats 4000000 in
theorem LC_17 {g : GP} {b L : Nat} {xs : Nat → Int32} {kk nn i q : Nat} {σ : AH} (hL : L < 1073741824) (hi : i + 6 < L) (hq : q < 512) (h : Rel q σ) (kt : ∀ σ', Rel (q + 1) σ' → V g mLaw (ELw b) (CXl g b L xs) kk nn 1987 [(0, .ref 1), (1, .ref 2), (2, .ref 33), (3, .ref 72), (4, .int (nI i))] [] σ') :
    V g mLaw (ELw b) (CXl g b L xs) (kk + 11) (nn + 94) 1178 [(0, .ref 1), (1, .ref 2), (2, .ref 33), (3, .ref 72), (4, .int (nI i))] [] σ := by
  refine V_aload_n dW_1178 rfl ?_
  refine V_aload_n dW_1179 rfl ?_
  refine V_iload dW_1180 rfl ?_
  refine V_iconst (1 : Int32) dW_1182 (by decide) ?_
  refine V_iadd dW_1183 ?_
  refine V_sldj (j := 1) rfl (by omega) hL dW_1184 ?_
  refine V_aload_n dW_1185 rfl ?_
  refine V_callSH (as := [.ref 2, .int (xs (i + 1)), .ref 72]) (st := []) (k' := kk) (n' := nn) (R_refund hq h) mw_L_refund w_902 w_901 ar_L_refund (rf_L rfl rfl rfl rfl rfl) dW_1186 (fun σ1 rv hq1 => ?_)
  obtain ⟨e, rfl, hS1, hm⟩ := hq1
  refine V_cast (st' := [.int e]) rfl rfl rfl ?_
  refine V_istore [(0, .ref 1), (1, .ref 2), (2, .ref 33), (3, .ref 72), (4, .int (nI i)), (5, .int e)] dW_1189 rfl rfl ?_
  refine V_aload_n dW_1191 rfl ?_
  refine V_aload_n dW_1192 rfl ?_
  refine V_iload dW_1193 rfl ?_
  refine V_iconst (1 : Int32) dW_1195 (by decide) ?_
  refine V_iadd dW_1196 ?_
  refine V_sldj (j := 1) rfl (by omega) hL dW_1197 ?_
  refine V_callV (as := [.int (xs (i + 1))]) (st := []) (k' := kk) (n' := nn) hm mw_X12_refund ko_X12 rfl w_1363 w_1364 w_1362 ar_X12_refund (rf_M rfl rfl rfl rfl rfl) dW_1198 (by decide) (shk hS1 33 rfl) (fun σ2 rv hq2 => ?_)
  obtain ⟨e49, hR, d, rfl, hb⟩ := hq2
  refine V_cast (st' := [.int d]) rfl rfl rfl ?_
  refine V_istore [(0, .ref 1), (1, .ref 2), (2, .ref 33), (3, .ref 72), (4, .int (nI i)), (5, .int e), (6, .int d)] dW_1201 rfl rfl ?_
  refine V_aload_n dW_1203 rfl ?_
  refine V_callV1 (as := []) (st := []) (k' := kk) (n' := nn) (s_X12_thrown hR.2.1) mw_X12_thrown ko_X12 rfl w_1208 w_1209 w_1207 ar_X12_thrown rfl (rf_M rfl rfl rfl rfl rfl) dW_1204 (by decide) (shk hR.2.1 33 rfl) ?_
  refine V_iload dW_1207 rfl ?_
  refine V_icmp_eq 1214 dW_1209 rfl (fun _ => ?_) (fun c => absurd e49 c)
  refine V_iload dW_1214 rfl ?_
  refine V_if_ne 1231 dW_1216 rfl (fun _ => ?_) (fun ck => ?_)
  · refine V_goto 1987 dW_1231 rfl ?_
    exact V_less (fun q hq => List.mem_append_left [(5, .int e), (6, .int d)] hq) (Nat.le_refl _) (Nat.le_refl _) (kt σ2 hR)
  · refine V_aload_n dW_1219 rfl ?_
    refine V_iconst (0 : Int32) dW_1220 (by decide) ?_
    refine V_lald dW_1221 (by decide) (shk hR.2.1 72 rfl) (vp_l (n := 1) (shl hR.2.1 72 rfl) (vp_in_nI (n := 0) (by decide) (by decide))) ?_
    refine V_iload dW_1222 rfl ?_
    refine V_i2l dW_1224 ?_
    refine V_lcmp dW_1225 ?_
    refine V_if_eq 1231 dW_1226 rfl (fun _ => ?_) (fun c => absurd (lc_eq (hb ck)) c)
    refine V_goto 1987 dW_1231 rfl ?_
    exact V_less (fun q hq => List.mem_append_left [(5, .int e), (6, .int d)] hq) (Nat.le_refl _) (Nat.le_refl _) (kt σ2 hR)
set_option maxRecDepth 100000 in
set_option maxHeartbeats 4000000 in
theorem LC_18 {g : GP} {b L : Nat} {xs : Nat → Int32} {kk nn i q : Nat} {σ : AH} (hL : L < 1073741824) (hi : i + 6 < L) (hq : q < 512) (h : Rel q σ) (kt : ∀ σ', Rel (q + 1) σ' → V g mLaw (ELw b) (CXl g b L xs) kk nn 1987 [(0, .ref 1), (1, .ref 2), (2, .ref 33), (3, .ref 72), (4, .int (nI i))] [] σ') :
    V g mLaw (ELw b) (CXl g b L xs) (kk + 11) (nn + 94) 1234 [(0, .ref 1), (1, .ref 2), (2, .ref 33), (3, .ref 72), (4, .int (nI i))] [] σ := by
  refine V_aload_n dW_1234 rfl ?_
  refine V_aload_n dW_1235 rfl ?_
  refine V_iload dW_1236 rfl ?_
  refine V_iconst (1 : Int32) dW_1238 (by decide) ?_
  refine V_iadd dW_1239 ?_
  refine V_sldj (j := 1) rfl (by omega) hL dW_1240 ?_
  refine V_aload_n dW_1241 rfl ?_
  refine V_callSH (as := [.ref 2, .int (xs (i + 1)), .ref 72]) (st := []) (k' := kk) (n' := nn) (R_reissue hq h) mw_L_reissue w_924 w_923 ar_L_reissue (rf_L rfl rfl rfl rfl rfl) dW_1242 (fun σ1 rv hq1 => ?_)
  obtain ⟨e, rfl, hS1, hm⟩ := hq1
  refine V_cast (st' := [.int e]) rfl rfl rfl ?_
  refine V_istore [(0, .ref 1), (1, .ref 2), (2, .ref 33), (3, .ref 72), (4, .int (nI i)), (5, .int e)] dW_1245 rfl rfl ?_
  refine V_aload_n dW_1247 rfl ?_
  refine V_aload_n dW_1248 rfl ?_
  refine V_iload dW_1249 rfl ?_
  refine V_iconst (1 : Int32) dW_1251 (by decide) ?_
  refine V_iadd dW_1252 ?_
  refine V_sldj (j := 1) rfl (by omega) hL dW_1253 ?_
  refine V_callV (as := [.int (xs (i + 1))]) (st := []) (k' := kk) (n' := nn) hm mw_X12_reissue ko_X12 rfl w_1381 w_1382 w_1380 ar_X12_reissue (rf_M rfl rfl rfl rfl rfl) dW_1254 (by decide) (shk hS1 33 rfl) (fun σ2 rv hq2 => ?_)
  obtain ⟨e49, hR, d, rfl, hb⟩ := hq2
  refine V_cast (st' := [.int d]) rfl rfl rfl ?_
  refine V_istore [(0, .ref 1), (1, .ref 2), (2, .ref 33), (3, .ref 72), (4, .int (nI i)), (5, .int e), (6, .int d)] dW_1257 rfl rfl ?_
  refine V_aload_n dW_1259 rfl ?_
  refine V_callV1 (as := []) (st := []) (k' := kk) (n' := nn) (s_X12_thrown hR.2.1) mw_X12_thrown ko_X12 rfl w_1208 w_1209 w_1207 ar_X12_thrown rfl (rf_M rfl rfl rfl rfl rfl) dW_1260 (by decide) (shk hR.2.1 33 rfl) ?_
  refine V_iload dW_1263 rfl ?_
  refine V_icmp_eq 1270 dW_1265 rfl (fun _ => ?_) (fun c => absurd e49 c)
  refine V_iload dW_1270 rfl ?_
  refine V_if_ne 1287 dW_1272 rfl (fun _ => ?_) (fun ck => ?_)
  · refine V_goto 1987 dW_1287 rfl ?_
    exact V_less (fun q hq => List.mem_append_left [(5, .int e), (6, .int d)] hq) (Nat.le_refl _) (Nat.le_refl _) (kt σ2 hR)
  · refine V_aload_n dW_1275 rfl ?_
    refine V_iconst (0 : Int32) dW_1276 (by decide) ?_
    refine V_lald dW_1277 (by decide) (shk hR.2.1 72 rfl) (vp_l (n := 1) (shl hR.2.1 72 rfl) (vp_in_nI (n := 0) (by decide) (by decide))) ?_
    refine V_iload dW_1278 rfl ?_
    refine V_i2l dW_1280 ?_
    refine V_lcmp dW_1281 ?_
    refine V_if_eq 1287 dW_1282 rfl (fun _ => ?_) (fun c => absurd (lc_eq (hb ck)) c)
    refine V_goto 1987 dW_1287 rfl ?_
    exact V_less (fun q hq => List.mem_append_left [(5, .int e), (6, .int d)] hq) (Nat.le_refl _) (Nat.le_refl _) (kt σ2 hR)
set_option maxRecDepth 100000 in
set_option maxHeartbeats 4000000 in
theorem LC_19 {g : GP} {b L : Nat} {xs : Nat → Int32} {kk nn i q : Nat} {σ : AH} (hL : L < 1073741824) (hi : i + 6 < L) (hq : q < 512) (h : Rel q σ) (kt : ∀ σ', Rel (q + 1) σ' → V g mLaw (ELw b) (CXl g b L xs) kk nn 1987 [(0, .ref 1), (1, .ref 2), (2, .ref 33), (3, .ref 72), (4, .int (nI i))] [] σ') :
    V g mLaw (ELw b) (CXl g b L xs) (kk + 11) (nn + 94) 1290 [(0, .ref 1), (1, .ref 2), (2, .ref 33), (3, .ref 72), (4, .int (nI i))] [] σ := by
  refine V_aload_n dW_1290 rfl ?_
  refine V_aload_n dW_1291 rfl ?_
  refine V_iload dW_1292 rfl ?_
  refine V_iconst (1 : Int32) dW_1294 (by decide) ?_
  refine V_iadd dW_1295 ?_
  refine V_sldj (j := 1) rfl (by omega) hL dW_1296 ?_
  refine V_aload_n dW_1297 rfl ?_
  refine V_callSH (as := [.ref 2, .int (xs (i + 1)), .ref 72]) (st := []) (k' := kk) (n' := nn) (R_pass hq h) mw_L_pass w_932 w_931 ar_L_pass (rf_L rfl rfl rfl rfl rfl) dW_1298 (fun σ1 rv hq1 => ?_)
  obtain ⟨e, rfl, hS1, hm⟩ := hq1
  refine V_cast (st' := [.int e]) rfl rfl rfl ?_
  refine V_istore [(0, .ref 1), (1, .ref 2), (2, .ref 33), (3, .ref 72), (4, .int (nI i)), (5, .int e)] dW_1301 rfl rfl ?_
  refine V_aload_n dW_1303 rfl ?_
  refine V_aload_n dW_1304 rfl ?_
  refine V_iload dW_1305 rfl ?_
  refine V_iconst (1 : Int32) dW_1307 (by decide) ?_
  refine V_iadd dW_1308 ?_
  refine V_sldj (j := 1) rfl (by omega) hL dW_1309 ?_
  refine V_callV (as := [.int (xs (i + 1))]) (st := []) (k' := kk) (n' := nn) hm mw_X12_pass ko_X12 rfl w_1385 w_1386 w_1384 ar_X12_pass (rf_M rfl rfl rfl rfl rfl) dW_1310 (by decide) (shk hS1 33 rfl) (fun σ2 rv hq2 => ?_)
  obtain ⟨e49, hR, d, rfl, hb⟩ := hq2
  refine V_cast (st' := [.int d]) rfl rfl rfl ?_
  refine V_istore [(0, .ref 1), (1, .ref 2), (2, .ref 33), (3, .ref 72), (4, .int (nI i)), (5, .int e), (6, .int d)] dW_1313 rfl rfl ?_
  refine V_aload_n dW_1315 rfl ?_
  refine V_callV1 (as := []) (st := []) (k' := kk) (n' := nn) (s_X12_thrown hR.2.1) mw_X12_thrown ko_X12 rfl w_1208 w_1209 w_1207 ar_X12_thrown rfl (rf_M rfl rfl rfl rfl rfl) dW_1316 (by decide) (shk hR.2.1 33 rfl) ?_
  refine V_iload dW_1319 rfl ?_
  refine V_icmp_eq 1326 dW_1321 rfl (fun _ => ?_) (fun c => absurd e49 c)
  refine V_iload dW_1326 rfl ?_
  refine V_if_ne 1343 dW_1328 rfl (fun _ => ?_) (fun ck => ?_)
  · refine V_goto 1987 dW_1343 rfl ?_
    exact V_less (fun q hq => List.mem_append_left [(5, .int e), (6, .int d)] hq) (Nat.le_refl _) (Nat.le_refl _) (kt σ2 hR)
  · refine V_aload_n dW_1331 rfl ?_
    refine V_iconst (0 : Int32) dW_1332 (by decide) ?_
    refine V_lald dW_1333 (by decide) (shk hR.2.1 72 rfl) (vp_l (n := 1) (shl hR.2.1 72 rfl) (vp_in_nI (n := 0) (by decide) (by decide))) ?_
    refine V_iload dW_1334 rfl ?_
    refine V_i2l dW_1336 ?_
    refine V_lcmp dW_1337 ?_
    refine V_if_eq 1343 dW_1338 rfl (fun _ => ?_) (fun c => absurd (lc_eq (hb ck)) c)
    refine V_goto 1987 dW_1343 rfl ?_
    exact V_less (fun q hq => List.mem_append_left [(5, .int e), (6, .int d)] hq) (Nat.le_refl _) (Nat.le_refl _) (kt σ2 hR)
set_option maxRecDepth 100000 in
set_option maxHeartbeats 4000000 in
theorem LC_20 {g : GP} {b L : Nat} {xs : Nat → Int32} {kk nn i q : Nat} {σ : AH} (hL : L < 1073741824) (hi : i + 6 < L) (hq : q < 512) (h : Rel q σ) (kt : ∀ σ', Rel (q + 1) σ' → V g mLaw (ELw b) (CXl g b L xs) kk nn 1987 [(0, .ref 1), (1, .ref 2), (2, .ref 33), (3, .ref 72), (4, .int (nI i))] [] σ') :
    V g mLaw (ELw b) (CXl g b L xs) (kk + 11) (nn + 94) 1346 [(0, .ref 1), (1, .ref 2), (2, .ref 33), (3, .ref 72), (4, .int (nI i))] [] σ := by
  refine V_aload_n dW_1346 rfl ?_
  refine V_callV (as := []) (st := []) (k' := kk) (n' := nn) (R_clear hq h) mw_X11_clear ko_X11 rfl w_366 w_367 w_365 ar_X11_clear (rf_L rfl rfl rfl rfl rfl) dW_1347 (by decide) (shk h.2.1 2 rfl) (fun σ1 rv hq1 => ?_)
  obtain ⟨e, rfl, hS1, hm⟩ := hq1
  refine V_cast (st' := [.long e]) rfl rfl rfl ?_
  refine V_aload_n dW_1350 rfl ?_
  refine V_callV (as := []) (st := [.long e]) (k' := kk) (n' := nn) hm mw_X12_clear ko_X12 rfl w_1389 w_1390 w_1388 ar_X12_clear (rf_M rfl rfl rfl rfl rfl) dW_1351 (by decide) (shk hS1 33 rfl) (fun σ2 rv hq2 => ?_)
  obtain ⟨rfl, hR⟩ := hq2
  refine V_cast (st' := [.long e, .long e]) rfl rfl rfl ?_
  refine V_lcmp dW_1354 ?_
  refine V_if_eq 1987 dW_1355 rfl (fun _ => ?_) (fun c => absurd (lc_eq rfl) c)
  exact V_less (fun q hq => List.mem_append_left [] hq) (Nat.le_refl _) (Nat.le_refl _) (kt σ2 hR)
set_option maxRecDepth 100000 in
set_option maxHeartbeats 4000000 in
theorem LC_21 {g : GP} {b L : Nat} {xs : Nat → Int32} {kk nn i q : Nat} {σ : AH} (hL : L < 1073741824) (hi : i + 6 < L) (hq : q < 512) (h : Rel q σ) (kt : ∀ σ', Rel (q + 1) σ' → V g mLaw (ELw b) (CXl g b L xs) kk nn 1987 [(0, .ref 1), (1, .ref 2), (2, .ref 33), (3, .ref 72), (4, .int (nI i))] [] σ') :
    V g mLaw (ELw b) (CXl g b L xs) (kk + 11) (nn + 94) 1360 [(0, .ref 1), (1, .ref 2), (2, .ref 33), (3, .ref 72), (4, .int (nI i))] [] σ := by
  refine V_aload_n dW_1360 rfl ?_
  refine V_aload_n dW_1361 rfl ?_
  refine V_iload dW_1362 rfl ?_
  refine V_iconst (1 : Int32) dW_1364 (by decide) ?_
  refine V_iadd dW_1365 ?_
  refine V_sldj (j := 1) rfl (by omega) hL dW_1366 ?_
  refine V_aload_n dW_1367 rfl ?_
  refine V_callSH (as := [.ref 2, .int (xs (i + 1)), .ref 72]) (st := []) (k' := kk) (n' := nn) (R_reject hq h) mw_L_reject w_941 w_940 ar_L_reject (rf_L rfl rfl rfl rfl rfl) dW_1368 (fun σ1 rv hq1 => ?_)
  obtain ⟨e, rfl, hS1, hm⟩ := hq1
  refine V_cast (st' := [.int e]) rfl rfl rfl ?_
  refine V_istore [(0, .ref 1), (1, .ref 2), (2, .ref 33), (3, .ref 72), (4, .int (nI i)), (5, .int e)] dW_1371 rfl rfl ?_
  refine V_aload_n dW_1373 rfl ?_
  refine V_aload_n dW_1374 rfl ?_
  refine V_iload dW_1375 rfl ?_
  refine V_iconst (1 : Int32) dW_1377 (by decide) ?_
  refine V_iadd dW_1378 ?_
  refine V_sldj (j := 1) rfl (by omega) hL dW_1379 ?_
  refine V_callV (as := [.int (xs (i + 1))]) (st := []) (k' := kk) (n' := nn) hm mw_X12_reject ko_X12 rfl w_1405 w_1406 w_1404 ar_X12_reject (rf_M rfl rfl rfl rfl rfl) dW_1380 (by decide) (shk hS1 33 rfl) (fun σ2 rv hq2 => ?_)
  obtain ⟨e49, hR, d, rfl, hb⟩ := hq2
  refine V_cast (st' := [.int d]) rfl rfl rfl ?_
  refine V_istore [(0, .ref 1), (1, .ref 2), (2, .ref 33), (3, .ref 72), (4, .int (nI i)), (5, .int e), (6, .int d)] dW_1383 rfl rfl ?_
  refine V_aload_n dW_1385 rfl ?_
  refine V_callV1 (as := []) (st := []) (k' := kk) (n' := nn) (s_X12_thrown hR.2.1) mw_X12_thrown ko_X12 rfl w_1208 w_1209 w_1207 ar_X12_thrown rfl (rf_M rfl rfl rfl rfl rfl) dW_1386 (by decide) (shk hR.2.1 33 rfl) ?_
  refine V_iload dW_1389 rfl ?_
  refine V_icmp_eq 1396 dW_1391 rfl (fun _ => ?_) (fun c => absurd e49 c)
  refine V_iload dW_1396 rfl ?_
  refine V_if_ne 1413 dW_1398 rfl (fun _ => ?_) (fun ck => ?_)
  · refine V_goto 1987 dW_1413 rfl ?_
    exact V_less (fun q hq => List.mem_append_left [(5, .int e), (6, .int d)] hq) (Nat.le_refl _) (Nat.le_refl _) (kt σ2 hR)
  · refine V_aload_n dW_1401 rfl ?_
    refine V_iconst (0 : Int32) dW_1402 (by decide) ?_
    refine V_lald dW_1403 (by decide) (shk hR.2.1 72 rfl) (vp_l (n := 1) (shl hR.2.1 72 rfl) (vp_in_nI (n := 0) (by decide) (by decide))) ?_
    refine V_iload dW_1404 rfl ?_
    refine V_i2l dW_1406 ?_
    refine V_lcmp dW_1407 ?_
    refine V_if_eq 1413 dW_1408 rfl (fun _ => ?_) (fun c => absurd (lc_eq (hb ck)) c)
    refine V_goto 1987 dW_1413 rfl ?_
    exact V_less (fun q hq => List.mem_append_left [(5, .int e), (6, .int d)] hq) (Nat.le_refl _) (Nat.le_refl _) (kt σ2 hR)
set_option maxRecDepth 100000 in
set_option maxHeartbeats 4000000 in
theorem LC_22 {g : GP} {b L : Nat} {xs : Nat → Int32} {kk nn i q : Nat} {σ : AH} (hL : L < 1073741824) (hi : i + 6 < L) (hq : q < 512) (h : Rel q σ) (kt : ∀ σ', Rel (q + 1) σ' → V g mLaw (ELw b) (CXl g b L xs) kk nn 1987 [(0, .ref 1), (1, .ref 2), (2, .ref 33), (3, .ref 72), (4, .int (nI i))] [] σ') :
    V g mLaw (ELw b) (CXl g b L xs) (kk + 11) (nn + 94) 1416 [(0, .ref 1), (1, .ref 2), (2, .ref 33), (3, .ref 72), (4, .int (nI i))] [] σ := by
  refine V_aload_n dW_1416 rfl ?_
  refine V_aload_n dW_1417 rfl ?_
  refine V_iload dW_1418 rfl ?_
  refine V_iconst (1 : Int32) dW_1420 (by decide) ?_
  refine V_iadd dW_1421 ?_
  refine V_sldj (j := 1) rfl (by omega) hL dW_1422 ?_
  refine V_callSH (as := [.ref 2, .int (xs (i + 1))]) (st := []) (k' := kk) (n' := nn) (R_rebill hq h) mw_L_rebill w_951 w_950 ar_L_rebill (rf_L rfl rfl rfl rfl rfl) dW_1423 (fun σ1 rv hq1 => ?_)
  obtain ⟨e, rfl, hS1, hm⟩ := hq1
  refine V_cast (st' := [.int e]) rfl rfl rfl ?_
  refine V_istore [(0, .ref 1), (1, .ref 2), (2, .ref 33), (3, .ref 72), (4, .int (nI i)), (5, .int e)] dW_1426 rfl rfl ?_
  refine V_aload_n dW_1428 rfl ?_
  refine V_aload_n dW_1429 rfl ?_
  refine V_iload dW_1430 rfl ?_
  refine V_iconst (1 : Int32) dW_1432 (by decide) ?_
  refine V_iadd dW_1433 ?_
  refine V_sldj (j := 1) rfl (by omega) hL dW_1434 ?_
  refine V_callV (as := [.int (xs (i + 1))]) (st := []) (k' := kk) (n' := nn) hm mw_X12_rebill ko_X12 rfl w_1413 w_1414 w_1412 ar_X12_rebill (rf_M rfl rfl rfl rfl rfl) dW_1435 (by decide) (shk hS1 33 rfl) (fun σ2 rv hq2 => ?_)
  obtain ⟨e49, hR, rfl⟩ := hq2
  refine V_cast (st' := []) rfl rfl rfl ?_
  refine V_aload_n dW_1438 rfl ?_
  refine V_callV1 (as := []) (st := []) (k' := kk) (n' := nn) (s_X12_thrown hR.2.1) mw_X12_thrown ko_X12 rfl w_1208 w_1209 w_1207 ar_X12_thrown rfl (rf_M rfl rfl rfl rfl rfl) dW_1439 (by decide) (shk hR.2.1 33 rfl) ?_
  refine V_iload dW_1442 rfl ?_
  refine V_icmp_eq 1449 dW_1444 rfl (fun _ => ?_) (fun c => absurd e49 c)
  refine V_goto 1987 dW_1449 rfl ?_
  exact V_less (fun q hq => List.mem_append_left [(5, .int e)] hq) (Nat.le_refl _) (Nat.le_refl _) (kt σ2 hR)
set_option maxRecDepth 100000 in
set_option maxHeartbeats 4000000 in
theorem LC_23 {g : GP} {b L : Nat} {xs : Nat → Int32} {kk nn i q : Nat} {σ : AH} (hL : L < 1073741824) (hi : i + 6 < L) (hq : q < 512) (h : Rel q σ) (kt : ∀ σ', Rel (q + 1) σ' → V g mLaw (ELw b) (CXl g b L xs) kk nn 1987 [(0, .ref 1), (1, .ref 2), (2, .ref 33), (3, .ref 72), (4, .int (nI i))] [] σ') :
    V g mLaw (ELw b) (CXl g b L xs) (kk + 11) (nn + 94) 1452 [(0, .ref 1), (1, .ref 2), (2, .ref 33), (3, .ref 72), (4, .int (nI i))] [] σ := by
  by_cases hz : xs (i + 2) = 0
  · refine V_aload_n dW_1452 rfl ?_
    refine V_aload_n dW_1453 rfl ?_
    refine V_iload dW_1454 rfl ?_
    refine V_iconst (1 : Int32) dW_1456 (by decide) ?_
    refine V_iadd dW_1457 ?_
    refine V_sldj (j := 1) rfl (by omega) hL dW_1458 ?_
    refine V_aload_n dW_1459 rfl ?_
    refine V_iload dW_1460 rfl ?_
    refine V_iconst (2 : Int32) dW_1462 (by decide) ?_
    refine V_iadd dW_1463 ?_
    refine V_sldj (j := 2) rfl (by omega) hL dW_1464 ?_
    refine V_if_eq 1472 dW_1465 rfl (fun _ => ?_) (fun c => absurd hz c)
    refine V_iconst (0 : Int32) dW_1472 (by decide) ?_
    refine V_aload_n dW_1473 rfl ?_
    refine V_callSH (as := [.ref 2, .int (xs (i + 1)), .int (0 : Int32), .ref 72]) (st := []) (k' := kk) (n' := nn) (R_fails (Or.inl rfl) hq h) mw_L_fails w_959 w_958 ar_L_fails (rf_L rfl rfl rfl rfl rfl) dW_1474 (fun σ1 rv hq1 => ?_)
    obtain ⟨e, rfl, hS1, hm⟩ := hq1
    refine V_cast (st' := [.int e]) rfl rfl rfl ?_
    refine V_istore [(0, .ref 1), (1, .ref 2), (2, .ref 33), (3, .ref 72), (4, .int (nI i)), (5, .int e)] dW_1477 rfl rfl ?_
    refine V_aload_n dW_1479 rfl ?_
    refine V_aload_n dW_1480 rfl ?_
    refine V_iload dW_1481 rfl ?_
    refine V_iconst (1 : Int32) dW_1483 (by decide) ?_
    refine V_iadd dW_1484 ?_
    refine V_sldj (j := 1) rfl (by omega) hL dW_1485 ?_
    refine V_aload_n dW_1486 rfl ?_
    refine V_iload dW_1487 rfl ?_
    refine V_iconst (2 : Int32) dW_1489 (by decide) ?_
    refine V_iadd dW_1490 ?_
    refine V_sldj (j := 2) rfl (by omega) hL dW_1491 ?_
    refine V_if_eq 1499 dW_1492 rfl (fun _ => ?_) (fun c => absurd hz c)
    refine V_iconst (0 : Int32) dW_1499 (by decide) ?_
    refine V_callV (as := [.int (xs (i + 1)), .int (0 : Int32)]) (st := []) (k' := kk) (n' := nn) hm mw_X12_fails ko_X12 rfl w_1417 w_1418 w_1416 ar_X12_fails (rf_M rfl rfl rfl rfl rfl) dW_1500 (by decide) (shk hS1 33 rfl) (fun σ2 rv hq2 => ?_)
    obtain ⟨e49, hR, d, rfl, hb⟩ := hq2
    refine V_cast (st' := [.int d]) rfl rfl rfl ?_
    refine V_istore [(0, .ref 1), (1, .ref 2), (2, .ref 33), (3, .ref 72), (4, .int (nI i)), (5, .int e), (6, .int d)] dW_1503 rfl rfl ?_
    refine V_aload_n dW_1505 rfl ?_
    refine V_callV1 (as := []) (st := []) (k' := kk) (n' := nn) (s_X12_thrown hR.2.1) mw_X12_thrown ko_X12 rfl w_1208 w_1209 w_1207 ar_X12_thrown rfl (rf_M rfl rfl rfl rfl rfl) dW_1506 (by decide) (shk hR.2.1 33 rfl) ?_
    refine V_iload dW_1509 rfl ?_
    refine V_icmp_eq 1516 dW_1511 rfl (fun _ => ?_) (fun c => absurd e49 c)
    refine V_iload dW_1516 rfl ?_
    refine V_if_ne 1533 dW_1518 rfl (fun _ => ?_) (fun ck => ?_)
    · refine V_goto 1987 dW_1533 rfl ?_
      exact V_less (fun q hq => List.mem_append_left [(5, .int e), (6, .int d)] hq) (Nat.le_refl _) (Nat.le_refl _) (kt σ2 hR)
    · refine V_aload_n dW_1521 rfl ?_
      refine V_iconst (0 : Int32) dW_1522 (by decide) ?_
      refine V_lald dW_1523 (by decide) (shk hR.2.1 72 rfl) (vp_l (n := 1) (shl hR.2.1 72 rfl) (vp_in_nI (n := 0) (by decide) (by decide))) ?_
      refine V_iload dW_1524 rfl ?_
      refine V_i2l dW_1526 ?_
      refine V_lcmp dW_1527 ?_
      refine V_if_eq 1533 dW_1528 rfl (fun _ => ?_) (fun c => absurd (lc_eq (hb ck)) c)
      refine V_goto 1987 dW_1533 rfl ?_
      exact V_less (fun q hq => List.mem_append_left [(5, .int e), (6, .int d)] hq) (Nat.le_refl _) (Nat.le_refl _) (kt σ2 hR)
  · refine V_aload_n dW_1452 rfl ?_
    refine V_aload_n dW_1453 rfl ?_
    refine V_iload dW_1454 rfl ?_
    refine V_iconst (1 : Int32) dW_1456 (by decide) ?_
    refine V_iadd dW_1457 ?_
    refine V_sldj (j := 1) rfl (by omega) hL dW_1458 ?_
    refine V_aload_n dW_1459 rfl ?_
    refine V_iload dW_1460 rfl ?_
    refine V_iconst (2 : Int32) dW_1462 (by decide) ?_
    refine V_iadd dW_1463 ?_
    refine V_sldj (j := 2) rfl (by omega) hL dW_1464 ?_
    refine V_if_eq 1472 dW_1465 rfl (fun c => absurd c hz) (fun _ => ?_)
    refine V_iconst (1 : Int32) dW_1468 (by decide) ?_
    refine V_goto 1473 dW_1469 rfl ?_
    refine V_aload_n dW_1473 rfl ?_
    refine V_callSH (as := [.ref 2, .int (xs (i + 1)), .int (1 : Int32), .ref 72]) (st := []) (k' := kk) (n' := nn) (R_fails (Or.inr rfl) hq h) mw_L_fails w_959 w_958 ar_L_fails (rf_L rfl rfl rfl rfl rfl) dW_1474 (fun σ1 rv hq1 => ?_)
    obtain ⟨e, rfl, hS1, hm⟩ := hq1
    refine V_cast (st' := [.int e]) rfl rfl rfl ?_
    refine V_istore [(0, .ref 1), (1, .ref 2), (2, .ref 33), (3, .ref 72), (4, .int (nI i)), (5, .int e)] dW_1477 rfl rfl ?_
    refine V_aload_n dW_1479 rfl ?_
    refine V_aload_n dW_1480 rfl ?_
    refine V_iload dW_1481 rfl ?_
    refine V_iconst (1 : Int32) dW_1483 (by decide) ?_
    refine V_iadd dW_1484 ?_
    refine V_sldj (j := 1) rfl (by omega) hL dW_1485 ?_
    refine V_aload_n dW_1486 rfl ?_
    refine V_iload dW_1487 rfl ?_
    refine V_iconst (2 : Int32) dW_1489 (by decide) ?_
    refine V_iadd dW_1490 ?_
    refine V_sldj (j := 2) rfl (by omega) hL dW_1491 ?_
    refine V_if_eq 1499 dW_1492 rfl (fun c => absurd c hz) (fun _ => ?_)
    refine V_iconst (1 : Int32) dW_1495 (by decide) ?_
    refine V_goto 1500 dW_1496 rfl ?_
    refine V_callV (as := [.int (xs (i + 1)), .int (1 : Int32)]) (st := []) (k' := kk) (n' := nn) hm mw_X12_fails ko_X12 rfl w_1417 w_1418 w_1416 ar_X12_fails (rf_M rfl rfl rfl rfl rfl) dW_1500 (by decide) (shk hS1 33 rfl) (fun σ2 rv hq2 => ?_)
    obtain ⟨e49, hR, d, rfl, hb⟩ := hq2
    refine V_cast (st' := [.int d]) rfl rfl rfl ?_
    refine V_istore [(0, .ref 1), (1, .ref 2), (2, .ref 33), (3, .ref 72), (4, .int (nI i)), (5, .int e), (6, .int d)] dW_1503 rfl rfl ?_
    refine V_aload_n dW_1505 rfl ?_
    refine V_callV1 (as := []) (st := []) (k' := kk) (n' := nn) (s_X12_thrown hR.2.1) mw_X12_thrown ko_X12 rfl w_1208 w_1209 w_1207 ar_X12_thrown rfl (rf_M rfl rfl rfl rfl rfl) dW_1506 (by decide) (shk hR.2.1 33 rfl) ?_
    refine V_iload dW_1509 rfl ?_
    refine V_icmp_eq 1516 dW_1511 rfl (fun _ => ?_) (fun c => absurd e49 c)
    refine V_iload dW_1516 rfl ?_
    refine V_if_ne 1533 dW_1518 rfl (fun _ => ?_) (fun ck => ?_)
    · refine V_goto 1987 dW_1533 rfl ?_
      exact V_less (fun q hq => List.mem_append_left [(5, .int e), (6, .int d)] hq) (Nat.le_refl _) (Nat.le_refl _) (kt σ2 hR)
    · refine V_aload_n dW_1521 rfl ?_
      refine V_iconst (0 : Int32) dW_1522 (by decide) ?_
      refine V_lald dW_1523 (by decide) (shk hR.2.1 72 rfl) (vp_l (n := 1) (shl hR.2.1 72 rfl) (vp_in_nI (n := 0) (by decide) (by decide))) ?_
      refine V_iload dW_1524 rfl ?_
      refine V_i2l dW_1526 ?_
      refine V_lcmp dW_1527 ?_
      refine V_if_eq 1533 dW_1528 rfl (fun _ => ?_) (fun c => absurd (lc_eq (hb ck)) c)
      refine V_goto 1987 dW_1533 rfl ?_
      exact V_less (fun q hq => List.mem_append_left [(5, .int e), (6, .int d)] hq) (Nat.le_refl _) (Nat.le_refl _) (kt σ2 hR)
