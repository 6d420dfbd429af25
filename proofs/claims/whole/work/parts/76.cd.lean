section CSLC
variable {p : Program} {l : Launch} {e : Env} {s : State} {m : MethodId} {b : Nat} {below : List Frame} {meth : Method} {c : Code} {Q : State → Prop} {L : Nat} {xs : Nat → Int32} {D : va_G} {cy : Nat → ClassId}
set_option maxHeartbeats 4000000 in
set_option maxRecDepth 100000 in
theorem lw_c_byteAt (hlf : l.stackTraces = false) (C0 : cs_C p l s m c b L xs D cy) {i a0 cells slots : Nat} {S : cs_St} {th : Int32} {ad bd : Nat → Nat} {o9 : Nat} {f : Nat → Int64} {H : Heap} {locs : List Loc} {ls : Array Slot} (hi : i + 7 ≤ L) (hc : cells + 5 ≤ 601024) (hs : slots + 32 ≤ 7293034) (hok : cs_okk S) (had : ad 0 = a0) (hLS : cs_LS D s H locs S th ad bd o9 f cy) (hl : lv_has ls 7 [(0, .ref b), (1, .ref a0), (2, .ref (bd 0)), (3, .ref o9), (4, .int (nI i))]) (kk : cs_KK p l e s m b below meth c Q D cy bd o9 a0 i (cells + 5) (slots + 32)) : W p l e room_1 s m #[.ref b] below meth c H locs cells slots Q (F0 m 1051 ls []) := by
  have hS := hok.1
  have C1 := C0
  obtain ⟨hx, hb, hml, -, hown, hts, -, -, -, hE, hn, hz0, hK⟩ := C1
  subst had
  obtain ⟨hP, hD, hS9⟩ := hLS
  have hPl : va_P D vwCl (cs_O o9 f S ad cy) H := cs_PL hP
  have hDl : va_D (fun q => s.heap.size ≤ q) (cs_O o9 f S ad cy) := cs_DL hD
  have hF : ∀ q, va_A (cs_O o9 f S ad cy) H.size q → (fun q => s.heap.size ≤ q) q := cs_inL hD hS9 (fun _ h => h)
  have hz : cs_zz (va_A (cs_O o9 f S ad cy) H.size) s H := (hz0.kept (fun a h1 h2 => hS9.2.1 a h1 h2)).narrow hF
  refine lv_aload_n hx hb dL_law_1051 rfl (lv_at hl 1 rfl) ?_
  refine cs_rd C0 hS9 hl 0 4 rfl rfl 1 (jj := 1) hi (by decide) (by decide) dL_law_1052 dL_law_1053 dL_law_1055 dL_law_1056 dL_law_1057 ?_
  refine cs_rd C0 hS9 hl 0 4 rfl rfl 2 (jj := 2) hi (by decide) (by decide) dL_law_1058 dL_law_1059 dL_law_1061 dL_law_1062 dL_law_1063 ?_
  refine lv_aload_n hx hb dL_law_1064 rfl (lv_at hl 3 rfl) ?_
  refine cs_wcalli (vx_runSW (As := [.ref (ad 0), .int (xs (i + 1)), .int (xs (i + 2)), .ref o9]) (rest := []) ⟨hx, hb, hml, hown, hts⟩ (k_L_byteAt l hlf D S ad cy o9 f H.size hS (xs (i + 1)) (xs (i + 2))) (vx_cwSW 4 hts gL_law_L_byteAt rfl rfl rfl (by decide +kernel) ⟨(Nat.le_of_ble_eq_true rfl), (Nat.le_of_ble_eq_true rfl)⟩) ⟨cs_Bl.blind, cs_Bl.at hn hE hz hPl hK hDl⟩ rfl rfl hl.1 rfl (lv_room (Nat.le_of_ble_eq_true rfl)) dL_law_1065 ⟨by show cells + 2 ≤ 601024; omega, by show slots + 12 ≤ 7293034; omega⟩) hS9 hF (fun r9 u9 H locs hp hP1 hD1 hz1 hk1 hS9 => ?_)
  obtain ⟨rfl, hv⟩ := hp
  obtain ⟨hP, hD⟩ := cs_joinL hP hD hk1 hF hP1 hD1
  refine lv_istore (lv' := [(5, .int (cs_k1 (cs_pl S (xs (i + 1)) (xs (i + 2))))), (0, .ref b), (1, .ref (ad 0)), (2, .ref (bd 0)), (3, .ref o9), (4, .int (nI i))]) hx hb dL_law_1068 hl (by decide) rfl (fun ls hl => ?_)
  refine lv_aload_n hx hb dL_law_1070 rfl (lv_at hl 3 rfl) ?_
  refine cs_rd C0 hS9 hl 1 5 rfl rfl 1 (jj := 1) hi (by decide) (by decide) dL_law_1071 dL_law_1072 dL_law_1074 dL_law_1075 dL_law_1076 ?_
  refine cs_rd C0 hS9 hl 1 5 rfl rfl 2 (jj := 2) hi (by decide) (by decide) dL_law_1077 dL_law_1078 dL_law_1080 dL_law_1081 dL_law_1082 ?_
  have hPR := cs_PR hP
  have hDR := cs_DR hD
  have hF2 : ∀ q, va_A (cs_R S th bd cy) H.size q → (fun q => s.heap.size ≤ q) q := cs_inR hD hS9 (fun _ h => h)
  refine cs_wcalli (va_runV (As := [.int (xs (i + 1)), .int (xs (i + 2))]) (rest := []) ⟨hx, hb, hml, hown, hts⟩ (k_X2_byteAt l D S th bd cy H.size hS (xs (i + 1)) (xs (i + 2))) (cwV 2 hts gL_law_X2_byteAt rfl rfl rfl (by decide +kernel) ⟨(Nat.le_of_ble_eq_true rfl), (Nat.le_of_ble_eq_true rfl)⟩) ⟨cs_Bw.blind, va_recv hK hPR (ci := 2) (q0 := 0) rfl rfl, cs_Bw.at hE hPR hK hDR⟩ rfl rfl hl.1 rfl (lv_room (Nat.le_of_ble_eq_true rfl)) dL_law_1083 ⟨by show cells + 2 + 0 ≤ 601024; omega, by show slots + 12 + 0 ≤ 7293034; omega⟩) hS9 hF2 (fun r8 u8 H locs hp hP1 hD1 hz1 hk1 hS9 => ?_)
  obtain ⟨hP, hD⟩ := cs_joinR hP hD hk1 hF2 hP1 hD1
  refine lv_istore (lv' := [(6, .int r8), (5, .int (cs_k1 (cs_pl S (xs (i + 1)) (xs (i + 2))))), (0, .ref b), (1, .ref (ad 0)), (2, .ref (bd 0)), (3, .ref o9), (4, .int (nI i))]) hx hb dL_law_1086 hl (by decide) rfl (fun ls hl => ?_)
  refine cs_tl C0 hP hl (fun h => by rw [hv h, hp h]) (by omega) (by omega) dL_law_1088 dL_law_1089 dL_law_1092 dL_law_1094 dL_law_1099 dL_law_1101 dL_law_1104 dL_law_1105 dL_law_1106 dL_law_1107 dL_law_1109 dL_law_1110 dL_law_1111 dL_law_1116 (by decide) ?_
  refine W.widen (k := cells + 5) (n := slots + 32) (by omega) (by omega) ?_
  exact kk S (cs_k1 (cs_pl S (xs (i + 1)) (xs (i + 2)))) ad u9 H locs ls hok rfl ⟨hP, hD, hS9⟩ (lv_sub hl [2, 3, 4, 5, 6] rfl)
set_option maxHeartbeats 4000000 in
set_option maxRecDepth 100000 in
theorem lw_c_sum (hlf : l.stackTraces = false) (C0 : cs_C p l s m c b L xs D cy) {i a0 cells slots : Nat} {S : cs_St} {th : Int32} {ad bd : Nat → Nat} {o9 : Nat} {f : Nat → Int64} {H : Heap} {locs : List Loc} {ls : Array Slot} (hi : i + 7 ≤ L) (hc : cells + 5 ≤ 601024) (hs : slots + 32 ≤ 7293034) (hok : cs_okk S) (had : ad 0 = a0) (hLS : cs_LS D s H locs S th ad bd o9 f cy) (hl : lv_has ls 7 [(0, .ref b), (1, .ref a0), (2, .ref (bd 0)), (3, .ref o9), (4, .int (nI i))]) (kk : cs_KK p l e s m b below meth c Q D cy bd o9 a0 i (cells + 5) (slots + 32)) : W p l e room_1 s m #[.ref b] below meth c H locs cells slots Q (F0 m 1119 ls []) := by
  have hS := hok.1
  have C1 := C0
  obtain ⟨hx, hb, hml, -, hown, hts, -, -, -, hE, hn, hz0, hK⟩ := C1
  subst had
  obtain ⟨hP, hD, hS9⟩ := hLS
  have hPl : va_P D vwCl (cs_O o9 f S ad cy) H := cs_PL hP
  have hDl : va_D (fun q => s.heap.size ≤ q) (cs_O o9 f S ad cy) := cs_DL hD
  have hF : ∀ q, va_A (cs_O o9 f S ad cy) H.size q → (fun q => s.heap.size ≤ q) q := cs_inL hD hS9 (fun _ h => h)
  have hz : cs_zz (va_A (cs_O o9 f S ad cy) H.size) s H := (hz0.kept (fun a h1 h2 => hS9.2.1 a h1 h2)).narrow hF
  refine lv_aload_n hx hb dL_law_1119 rfl (lv_at hl 1 rfl) ?_
  refine cs_rd C0 hS9 hl 0 4 rfl rfl 1 (jj := 1) hi (by decide) (by decide) dL_law_1120 dL_law_1121 dL_law_1123 dL_law_1124 dL_law_1125 ?_
  refine cs_rd C0 hS9 hl 0 4 rfl rfl 2 (jj := 2) hi (by decide) (by decide) dL_law_1126 dL_law_1127 dL_law_1129 dL_law_1130 dL_law_1131 ?_
  refine lv_aload_n hx hb dL_law_1132 rfl (lv_at hl 3 rfl) ?_
  refine cs_wcalli (vx_runSW (As := [.ref (ad 0), .int (xs (i + 1)), .int (xs (i + 2)), .ref o9]) (rest := []) ⟨hx, hb, hml, hown, hts⟩ (k_L_sum l hlf D S ad cy o9 f H.size hS (xs (i + 1)) (xs (i + 2))) (vx_cwSW 4 hts gL_law_L_sum rfl rfl rfl (by decide +kernel) ⟨(Nat.le_of_ble_eq_true rfl), (Nat.le_of_ble_eq_true rfl)⟩) ⟨cs_Bl.blind, cs_Bl.at hn hE hz hPl hK hDl⟩ rfl rfl hl.1 rfl (lv_room (Nat.le_of_ble_eq_true rfl)) dL_law_1133 ⟨by show cells + 2 ≤ 601024; omega, by show slots + 12 ≤ 7293034; omega⟩) hS9 hF (fun r9 u9 H locs hp hP1 hD1 hz1 hk1 hS9 => ?_)
  obtain ⟨rfl, hv⟩ := hp
  obtain ⟨hP, hD⟩ := cs_joinL hP hD hk1 hF hP1 hD1
  refine lv_istore (lv' := [(5, .int (cs_k1 (cs_M S (xs (i + 1)) && cs_in (xs (i + 2)) 0 3))), (0, .ref b), (1, .ref (ad 0)), (2, .ref (bd 0)), (3, .ref o9), (4, .int (nI i))]) hx hb dL_law_1136 hl (by decide) rfl (fun ls hl => ?_)
  refine lv_aload_n hx hb dL_law_1138 rfl (lv_at hl 3 rfl) ?_
  refine cs_rd C0 hS9 hl 1 5 rfl rfl 1 (jj := 1) hi (by decide) (by decide) dL_law_1139 dL_law_1140 dL_law_1142 dL_law_1143 dL_law_1144 ?_
  refine cs_rd C0 hS9 hl 1 5 rfl rfl 2 (jj := 2) hi (by decide) (by decide) dL_law_1145 dL_law_1146 dL_law_1148 dL_law_1149 dL_law_1150 ?_
  have hPR := cs_PR hP
  have hDR := cs_DR hD
  have hF2 : ∀ q, va_A (cs_R S th bd cy) H.size q → (fun q => s.heap.size ≤ q) q := cs_inR hD hS9 (fun _ h => h)
  refine cs_wcalli (va_runV (As := [.int (xs (i + 1)), .int (xs (i + 2))]) (rest := []) ⟨hx, hb, hml, hown, hts⟩ (k_X2_sum l D S th bd cy H.size hS (xs (i + 1)) (xs (i + 2))) (cwV 2 hts gL_law_X2_sum rfl rfl rfl (by decide +kernel) ⟨(Nat.le_of_ble_eq_true rfl), (Nat.le_of_ble_eq_true rfl)⟩) ⟨cs_Bw.blind, va_recv hK hPR (ci := 2) (q0 := 0) rfl rfl, cs_Bw.at hE hPR hK hDR⟩ rfl rfl hl.1 rfl (lv_room (Nat.le_of_ble_eq_true rfl)) dL_law_1151 ⟨by show cells + 2 + 0 ≤ 601024; omega, by show slots + 12 + 0 ≤ 7293034; omega⟩) hS9 hF2 (fun r8 u8 H locs hp hP1 hD1 hz1 hk1 hS9 => ?_)
  obtain ⟨hP, hD⟩ := cs_joinR hP hD hk1 hF2 hP1 hD1
  refine lv_istore (lv' := [(6, .int r8), (5, .int (cs_k1 (cs_M S (xs (i + 1)) && cs_in (xs (i + 2)) 0 3))), (0, .ref b), (1, .ref (ad 0)), (2, .ref (bd 0)), (3, .ref o9), (4, .int (nI i))]) hx hb dL_law_1154 hl (by decide) rfl (fun ls hl => ?_)
  refine cs_tl C0 hP hl (fun h => by rw [hv h, hp h]) (by omega) (by omega) dL_law_1156 dL_law_1157 dL_law_1160 dL_law_1162 dL_law_1167 dL_law_1169 dL_law_1172 dL_law_1173 dL_law_1174 dL_law_1175 dL_law_1177 dL_law_1178 dL_law_1179 dL_law_1184 (by decide) ?_
  refine W.widen (k := cells + 5) (n := slots + 32) (by omega) (by omega) ?_
  exact kk S (cs_k1 (cs_M S (xs (i + 1)) && cs_in (xs (i + 2)) 0 3)) ad u9 H locs ls hok rfl ⟨hP, hD, hS9⟩ (lv_sub hl [2, 3, 4, 5, 6] rfl)
set_option maxHeartbeats 4000000 in
set_option maxRecDepth 100000 in
theorem lw_c_sumOfPart (hlf : l.stackTraces = false) (C0 : cs_C p l s m c b L xs D cy) {i a0 cells slots : Nat} {S : cs_St} {th : Int32} {ad bd : Nat → Nat} {o9 : Nat} {f : Nat → Int64} {H : Heap} {locs : List Loc} {ls : Array Slot} (hi : i + 7 ≤ L) (hc : cells + 5 ≤ 601024) (hs : slots + 32 ≤ 7293034) (hok : cs_okk S) (had : ad 0 = a0) (hLS : cs_LS D s H locs S th ad bd o9 f cy) (hl : lv_has ls 7 [(0, .ref b), (1, .ref a0), (2, .ref (bd 0)), (3, .ref o9), (4, .int (nI i))]) (kk : cs_KK p l e s m b below meth c Q D cy bd o9 a0 i (cells + 5) (slots + 32)) : W p l e room_1 s m #[.ref b] below meth c H locs cells slots Q (F0 m 1187 ls []) := by
  have hS := hok.1
  have C1 := C0
  obtain ⟨hx, hb, hml, -, hown, hts, -, -, -, hE, hn, hz0, hK⟩ := C1
  subst had
  obtain ⟨hP, hD, hS9⟩ := hLS
  have hPl : va_P D vwCl (cs_O o9 f S ad cy) H := cs_PL hP
  have hDl : va_D (fun q => s.heap.size ≤ q) (cs_O o9 f S ad cy) := cs_DL hD
  have hF : ∀ q, va_A (cs_O o9 f S ad cy) H.size q → (fun q => s.heap.size ≤ q) q := cs_inL hD hS9 (fun _ h => h)
  have hz : cs_zz (va_A (cs_O o9 f S ad cy) H.size) s H := (hz0.kept (fun a h1 h2 => hS9.2.1 a h1 h2)).narrow hF
  refine lv_aload_n hx hb dL_law_1187 rfl (lv_at hl 1 rfl) ?_
  refine cs_rd C0 hS9 hl 0 4 rfl rfl 1 (jj := 1) hi (by decide) (by decide) dL_law_1188 dL_law_1189 dL_law_1191 dL_law_1192 dL_law_1193 ?_
  refine cs_rd C0 hS9 hl 0 4 rfl rfl 2 (jj := 2) hi (by decide) (by decide) dL_law_1194 dL_law_1195 dL_law_1197 dL_law_1198 dL_law_1199 ?_
  refine cs_rd C0 hS9 hl 0 4 rfl rfl 3 (jj := 3) hi (by decide) (by decide) dL_law_1200 dL_law_1201 dL_law_1203 dL_law_1204 dL_law_1205 ?_
  refine cs_rd C0 hS9 hl 0 4 rfl rfl 4 (jj := 4) hi (by decide) (by decide) dL_law_1206 dL_law_1207 dL_law_1209 dL_law_1210 dL_law_1211 ?_
  refine lv_aload_n hx hb dL_law_1212 rfl (lv_at hl 3 rfl) ?_
  refine cs_wcalli (vx_runSW (As := [.ref (ad 0), .int (xs (i + 1)), .int (xs (i + 2)), .int (xs (i + 3)), .int (xs (i + 4)), .ref o9]) (rest := []) ⟨hx, hb, hml, hown, hts⟩ (k_L_sumOfPart l hlf D S ad cy o9 f H.size hS (xs (i + 1)) (xs (i + 2)) (xs (i + 3)) (xs (i + 4))) (vx_cwSW 6 hts gL_law_L_sumOfPart rfl rfl rfl (by decide +kernel) ⟨(Nat.le_of_ble_eq_true rfl), (Nat.le_of_ble_eq_true rfl)⟩) ⟨cs_Bl.blind, cs_Bl.at hn hE hz hPl hK hDl⟩ rfl rfl hl.1 rfl (lv_room (Nat.le_of_ble_eq_true rfl)) dL_law_1213 ⟨by show cells + 3 ≤ 601024; omega, by show slots + 18 ≤ 7293034; omega⟩) hS9 hF (fun r9 u9 H locs hp hP1 hD1 hz1 hk1 hS9 => ?_)
  obtain ⟨rfl, hv⟩ := hp
  obtain ⟨hP, hD⟩ := cs_joinL hP hD hk1 hF hP1 hD1
  refine lv_istore (lv' := [(5, .int (cs_kPar S (xs (i + 1)) (xs (i + 2)) (xs (i + 3)) (xs (i + 4)))), (0, .ref b), (1, .ref (ad 0)), (2, .ref (bd 0)), (3, .ref o9), (4, .int (nI i))]) hx hb dL_law_1216 hl (by decide) rfl (fun ls hl => ?_)
  refine lv_aload_n hx hb dL_law_1218 rfl (lv_at hl 3 rfl) ?_
  refine cs_rd C0 hS9 hl 1 5 rfl rfl 1 (jj := 1) hi (by decide) (by decide) dL_law_1219 dL_law_1220 dL_law_1222 dL_law_1223 dL_law_1224 ?_
  refine cs_rd C0 hS9 hl 1 5 rfl rfl 2 (jj := 2) hi (by decide) (by decide) dL_law_1225 dL_law_1226 dL_law_1228 dL_law_1229 dL_law_1230 ?_
  refine cs_rd C0 hS9 hl 1 5 rfl rfl 3 (jj := 3) hi (by decide) (by decide) dL_law_1231 dL_law_1232 dL_law_1234 dL_law_1235 dL_law_1236 ?_
  refine cs_rd C0 hS9 hl 1 5 rfl rfl 4 (jj := 4) hi (by decide) (by decide) dL_law_1237 dL_law_1238 dL_law_1240 dL_law_1241 dL_law_1242 ?_
  have hPR := cs_PR hP
  have hDR := cs_DR hD
  have hF2 : ∀ q, va_A (cs_R S th bd cy) H.size q → (fun q => s.heap.size ≤ q) q := cs_inR hD hS9 (fun _ h => h)
  refine cs_wcalli (va_runV (As := [.int (xs (i + 1)), .int (xs (i + 2)), .int (xs (i + 3)), .int (xs (i + 4))]) (rest := []) ⟨hx, hb, hml, hown, hts⟩ (k_X2_sumOfPart l D S th bd cy H.size hS (xs (i + 1)) (xs (i + 2)) (xs (i + 3)) (xs (i + 4))) (cwV 4 hts gL_law_X2_sumOfPart rfl rfl rfl (by decide +kernel) ⟨(Nat.le_of_ble_eq_true rfl), (Nat.le_of_ble_eq_true rfl)⟩) ⟨cs_Bw.blind, va_recv hK hPR (ci := 2) (q0 := 0) rfl rfl, cs_Bw.at hE hPR hK hDR⟩ rfl rfl hl.1 rfl (lv_room (Nat.le_of_ble_eq_true rfl)) dL_law_1243 ⟨by show cells + 3 + 0 ≤ 601024; omega, by show slots + 18 + 0 ≤ 7293034; omega⟩) hS9 hF2 (fun r8 u8 H locs hp hP1 hD1 hz1 hk1 hS9 => ?_)
  obtain ⟨hP, hD⟩ := cs_joinR hP hD hk1 hF2 hP1 hD1
  refine lv_istore (lv' := [(6, .int r8), (5, .int (cs_kPar S (xs (i + 1)) (xs (i + 2)) (xs (i + 3)) (xs (i + 4)))), (0, .ref b), (1, .ref (ad 0)), (2, .ref (bd 0)), (3, .ref o9), (4, .int (nI i))]) hx hb dL_law_1246 hl (by decide) rfl (fun ls hl => ?_)
  refine cs_tl C0 hP hl (fun h => by rw [hv h, hp h]) (by omega) (by omega) dL_law_1248 dL_law_1249 dL_law_1252 dL_law_1254 dL_law_1259 dL_law_1261 dL_law_1264 dL_law_1265 dL_law_1266 dL_law_1267 dL_law_1269 dL_law_1270 dL_law_1271 dL_law_1276 (by decide) ?_
  refine W.widen (k := cells + 5) (n := slots + 32) (by omega) (by omega) ?_
  exact kk S (cs_kPar S (xs (i + 1)) (xs (i + 2)) (xs (i + 3)) (xs (i + 4))) ad u9 H locs ls hok rfl ⟨hP, hD, hS9⟩ (lv_sub hl [2, 3, 4, 5, 6] rfl)
set_option maxHeartbeats 4000000 in
set_option maxRecDepth 100000 in
theorem lw_c_remainder (hlf : l.stackTraces = false) (C0 : cs_C p l s m c b L xs D cy) {i a0 cells slots : Nat} {S : cs_St} {th : Int32} {ad bd : Nat → Nat} {o9 : Nat} {f : Nat → Int64} {H : Heap} {locs : List Loc} {ls : Array Slot} (hi : i + 7 ≤ L) (hc : cells + 5 ≤ 601024) (hs : slots + 32 ≤ 7293034) (hok : cs_okk S) (had : ad 0 = a0) (hLS : cs_LS D s H locs S th ad bd o9 f cy) (hl : lv_has ls 7 [(0, .ref b), (1, .ref a0), (2, .ref (bd 0)), (3, .ref o9), (4, .int (nI i))]) (kk : cs_KK p l e s m b below meth c Q D cy bd o9 a0 i (cells + 5) (slots + 32)) : W p l e room_1 s m #[.ref b] below meth c H locs cells slots Q (F0 m 1279 ls []) := by
  have hS := hok.1
  have C1 := C0
  obtain ⟨hx, hb, hml, -, hown, hts, -, -, -, hE, hn, hz0, hK⟩ := C1
  subst had
  obtain ⟨hP, hD, hS9⟩ := hLS
  have hPl : va_P D vwCl (cs_O o9 f S ad cy) H := cs_PL hP
  have hDl : va_D (fun q => s.heap.size ≤ q) (cs_O o9 f S ad cy) := cs_DL hD
  have hF : ∀ q, va_A (cs_O o9 f S ad cy) H.size q → (fun q => s.heap.size ≤ q) q := cs_inL hD hS9 (fun _ h => h)
  have hz : cs_zz (va_A (cs_O o9 f S ad cy) H.size) s H := (hz0.kept (fun a h1 h2 => hS9.2.1 a h1 h2)).narrow hF
  refine lv_aload_n hx hb dL_law_1279 rfl (lv_at hl 1 rfl) ?_
  refine cs_rd C0 hS9 hl 0 4 rfl rfl 1 (jj := 1) hi (by decide) (by decide) dL_law_1280 dL_law_1281 dL_law_1283 dL_law_1284 dL_law_1285 ?_
  refine cs_rd C0 hS9 hl 0 4 rfl rfl 2 (jj := 2) hi (by decide) (by decide) dL_law_1286 dL_law_1287 dL_law_1289 dL_law_1290 dL_law_1291 ?_
  refine lv_aload_n hx hb dL_law_1292 rfl (lv_at hl 3 rfl) ?_
  refine cs_wcalli (vx_runSW (As := [.ref (ad 0), .int (xs (i + 1)), .int (xs (i + 2)), .ref o9]) (rest := []) ⟨hx, hb, hml, hown, hts⟩ (k_L_remainder l hlf D S ad cy o9 f H.size hS (xs (i + 1)) (xs (i + 2))) (vx_cwSW 4 hts gL_law_L_remainder rfl rfl rfl (by decide +kernel) ⟨(Nat.le_of_ble_eq_true rfl), (Nat.le_of_ble_eq_true rfl)⟩) ⟨cs_Bl.blind, cs_Bl.at hn hE hz hPl hK hDl⟩ rfl rfl hl.1 rfl (lv_room (Nat.le_of_ble_eq_true rfl)) dL_law_1293 ⟨by show cells + 2 ≤ 601024; omega, by show slots + 12 ≤ 7293034; omega⟩) hS9 hF (fun r9 u9 H locs hp hP1 hD1 hz1 hk1 hS9 => ?_)
  obtain ⟨rfl, hv⟩ := hp
  obtain ⟨hP, hD⟩ := cs_joinL hP hD hk1 hF hP1 hD1
  refine lv_istore (lv' := [(5, .int (cs_k1 (cs_M S (xs (i + 1)) && cs_in (xs (i + 2)) 0 3))), (0, .ref b), (1, .ref (ad 0)), (2, .ref (bd 0)), (3, .ref o9), (4, .int (nI i))]) hx hb dL_law_1296 hl (by decide) rfl (fun ls hl => ?_)
  refine lv_aload_n hx hb dL_law_1298 rfl (lv_at hl 3 rfl) ?_
  refine cs_rd C0 hS9 hl 1 5 rfl rfl 1 (jj := 1) hi (by decide) (by decide) dL_law_1299 dL_law_1300 dL_law_1302 dL_law_1303 dL_law_1304 ?_
  refine cs_rd C0 hS9 hl 1 5 rfl rfl 2 (jj := 2) hi (by decide) (by decide) dL_law_1305 dL_law_1306 dL_law_1308 dL_law_1309 dL_law_1310 ?_
  have hPR := cs_PR hP
  have hDR := cs_DR hD
  have hF2 : ∀ q, va_A (cs_R S th bd cy) H.size q → (fun q => s.heap.size ≤ q) q := cs_inR hD hS9 (fun _ h => h)
  refine cs_wcalli (va_runV (As := [.int (xs (i + 1)), .int (xs (i + 2))]) (rest := []) ⟨hx, hb, hml, hown, hts⟩ (k_X2_remainder l D S th bd cy H.size hS (xs (i + 1)) (xs (i + 2))) (cwV 2 hts gL_law_X2_remainder rfl rfl rfl (by decide +kernel) ⟨(Nat.le_of_ble_eq_true rfl), (Nat.le_of_ble_eq_true rfl)⟩) ⟨cs_Bw.blind, va_recv hK hPR (ci := 2) (q0 := 0) rfl rfl, cs_Bw.at hE hPR hK hDR⟩ rfl rfl hl.1 rfl (lv_room (Nat.le_of_ble_eq_true rfl)) dL_law_1311 ⟨by show cells + 2 + 0 ≤ 601024; omega, by show slots + 12 + 0 ≤ 7293034; omega⟩) hS9 hF2 (fun r8 u8 H locs hp hP1 hD1 hz1 hk1 hS9 => ?_)
  obtain ⟨hP, hD⟩ := cs_joinR hP hD hk1 hF2 hP1 hD1
  refine lv_istore (lv' := [(6, .int r8), (5, .int (cs_k1 (cs_M S (xs (i + 1)) && cs_in (xs (i + 2)) 0 3))), (0, .ref b), (1, .ref (ad 0)), (2, .ref (bd 0)), (3, .ref o9), (4, .int (nI i))]) hx hb dL_law_1314 hl (by decide) rfl (fun ls hl => ?_)
  refine cs_tl C0 hP hl (fun h => by rw [hv h, hp h]) (by omega) (by omega) dL_law_1316 dL_law_1317 dL_law_1320 dL_law_1322 dL_law_1327 dL_law_1329 dL_law_1332 dL_law_1333 dL_law_1334 dL_law_1335 dL_law_1337 dL_law_1338 dL_law_1339 dL_law_1344 (by decide) ?_
  refine W.widen (k := cells + 5) (n := slots + 32) (by omega) (by omega) ?_
  exact kk S (cs_k1 (cs_M S (xs (i + 1)) && cs_in (xs (i + 2)) 0 3)) ad u9 H locs ls hok rfl ⟨hP, hD, hS9⟩ (lv_sub hl [2, 3, 4, 5, 6] rfl)
set_option maxHeartbeats 4000000 in
set_option maxRecDepth 100000 in
theorem lw_c_joined (hlf : l.stackTraces = false) (C0 : cs_C p l s m c b L xs D cy) {i a0 cells slots : Nat} {S : cs_St} {th : Int32} {ad bd : Nat → Nat} {o9 : Nat} {f : Nat → Int64} {H : Heap} {locs : List Loc} {ls : Array Slot} (hi : i + 7 ≤ L) (hc : cells + 5 ≤ 601024) (hs : slots + 32 ≤ 7293034) (hok : cs_okk S) (had : ad 0 = a0) (hLS : cs_LS D s H locs S th ad bd o9 f cy) (hl : lv_has ls 7 [(0, .ref b), (1, .ref a0), (2, .ref (bd 0)), (3, .ref o9), (4, .int (nI i))]) (kk : cs_KK p l e s m b below meth c Q D cy bd o9 a0 i (cells + 5) (slots + 32)) : W p l e room_1 s m #[.ref b] below meth c H locs cells slots Q (F0 m 1347 ls []) := by
  have hS := hok.1
  have C1 := C0
  obtain ⟨hx, hb, hml, -, hown, hts, -, -, -, hE, hn, hz0, hK⟩ := C1
  subst had
  obtain ⟨hP, hD, hS9⟩ := hLS
  have hPl : va_P D vwCl (cs_O o9 f S ad cy) H := cs_PL hP
  have hDl : va_D (fun q => s.heap.size ≤ q) (cs_O o9 f S ad cy) := cs_DL hD
  have hF : ∀ q, va_A (cs_O o9 f S ad cy) H.size q → (fun q => s.heap.size ≤ q) q := cs_inL hD hS9 (fun _ h => h)
  have hz : cs_zz (va_A (cs_O o9 f S ad cy) H.size) s H := (hz0.kept (fun a h1 h2 => hS9.2.1 a h1 h2)).narrow hF
  refine lv_aload_n hx hb dL_law_1347 rfl (lv_at hl 1 rfl) ?_
  refine cs_rd C0 hS9 hl 0 4 rfl rfl 1 (jj := 1) hi (by decide) (by decide) dL_law_1348 dL_law_1349 dL_law_1351 dL_law_1352 dL_law_1353 ?_
  refine cs_rd C0 hS9 hl 0 4 rfl rfl 2 (jj := 2) hi (by decide) (by decide) dL_law_1354 dL_law_1355 dL_law_1357 dL_law_1358 dL_law_1359 ?_
  refine cs_rd C0 hS9 hl 0 4 rfl rfl 3 (jj := 3) hi (by decide) (by decide) dL_law_1360 dL_law_1361 dL_law_1363 dL_law_1364 dL_law_1365 ?_
  refine cs_rd C0 hS9 hl 0 4 rfl rfl 4 (jj := 4) hi (by decide) (by decide) dL_law_1366 dL_law_1367 dL_law_1369 dL_law_1370 dL_law_1371 ?_
  refine lv_aload_n hx hb dL_law_1372 rfl (lv_at hl 3 rfl) ?_
  refine cs_wcalli (vx_runSW (As := [.ref (ad 0), .int (xs (i + 1)), .int (xs (i + 2)), .int (xs (i + 3)), .int (xs (i + 4)), .ref o9]) (rest := []) ⟨hx, hb, hml, hown, hts⟩ (k_L_joined l hlf D S ad cy o9 f H.size hS (xs (i + 1)) (xs (i + 2)) (xs (i + 3)) (xs (i + 4))) (vx_cwSW 6 hts gL_law_L_joined rfl rfl rfl (by decide +kernel) ⟨(Nat.le_of_ble_eq_true rfl), (Nat.le_of_ble_eq_true rfl)⟩) ⟨cs_Bl.blind, cs_Bl.at hn hE hz hPl hK hDl⟩ rfl rfl hl.1 rfl (lv_room (Nat.le_of_ble_eq_true rfl)) dL_law_1373 ⟨by show cells + 4 ≤ 601024; omega, by show slots + 24 ≤ 7293034; omega⟩) hS9 hF (fun r9 u9 H locs hp hP1 hD1 hz1 hk1 hS9 => ?_)
  obtain ⟨rfl, hv⟩ := hp
  obtain ⟨hP, hD⟩ := cs_joinL hP hD hk1 hF hP1 hD1
  refine lv_istore (lv' := [(5, .int (cs_kJoi S (xs (i + 1)) (xs (i + 2)) (xs (i + 3)) (xs (i + 4)))), (0, .ref b), (1, .ref (ad 0)), (2, .ref (bd 0)), (3, .ref o9), (4, .int (nI i))]) hx hb dL_law_1376 hl (by decide) rfl (fun ls hl => ?_)
  refine lv_aload_n hx hb dL_law_1378 rfl (lv_at hl 3 rfl) ?_
  refine cs_rd C0 hS9 hl 1 5 rfl rfl 1 (jj := 1) hi (by decide) (by decide) dL_law_1379 dL_law_1380 dL_law_1382 dL_law_1383 dL_law_1384 ?_
  refine cs_rd C0 hS9 hl 1 5 rfl rfl 2 (jj := 2) hi (by decide) (by decide) dL_law_1385 dL_law_1386 dL_law_1388 dL_law_1389 dL_law_1390 ?_
  refine cs_rd C0 hS9 hl 1 5 rfl rfl 3 (jj := 3) hi (by decide) (by decide) dL_law_1391 dL_law_1392 dL_law_1394 dL_law_1395 dL_law_1396 ?_
  refine cs_rd C0 hS9 hl 1 5 rfl rfl 4 (jj := 4) hi (by decide) (by decide) dL_law_1397 dL_law_1398 dL_law_1400 dL_law_1401 dL_law_1402 ?_
  have hPR := cs_PR hP
  have hDR := cs_DR hD
  have hF2 : ∀ q, va_A (cs_R S th bd cy) H.size q → (fun q => s.heap.size ≤ q) q := cs_inR hD hS9 (fun _ h => h)
  refine cs_wcalli (va_runV (As := [.int (xs (i + 1)), .int (xs (i + 2)), .int (xs (i + 3)), .int (xs (i + 4))]) (rest := []) ⟨hx, hb, hml, hown, hts⟩ (k_X2_joined l D S th bd cy H.size hS (xs (i + 1)) (xs (i + 2)) (xs (i + 3)) (xs (i + 4))) (cwV 4 hts gL_law_X2_joined rfl rfl rfl (by decide +kernel) ⟨(Nat.le_of_ble_eq_true rfl), (Nat.le_of_ble_eq_true rfl)⟩) ⟨cs_Bw.blind, va_recv hK hPR (ci := 2) (q0 := 0) rfl rfl, cs_Bw.at hE hPR hK hDR⟩ rfl rfl hl.1 rfl (lv_room (Nat.le_of_ble_eq_true rfl)) dL_law_1403 ⟨by show cells + 4 + 0 ≤ 601024; omega, by show slots + 24 + 0 ≤ 7293034; omega⟩) hS9 hF2 (fun r8 u8 H locs hp hP1 hD1 hz1 hk1 hS9 => ?_)
  obtain ⟨hP, hD⟩ := cs_joinR hP hD hk1 hF2 hP1 hD1
  refine lv_istore (lv' := [(6, .int r8), (5, .int (cs_kJoi S (xs (i + 1)) (xs (i + 2)) (xs (i + 3)) (xs (i + 4)))), (0, .ref b), (1, .ref (ad 0)), (2, .ref (bd 0)), (3, .ref o9), (4, .int (nI i))]) hx hb dL_law_1406 hl (by decide) rfl (fun ls hl => ?_)
  refine cs_tl C0 hP hl (fun h => by rw [hv h, hp h]) (by omega) (by omega) dL_law_1408 dL_law_1409 dL_law_1412 dL_law_1414 dL_law_1419 dL_law_1421 dL_law_1424 dL_law_1425 dL_law_1426 dL_law_1427 dL_law_1429 dL_law_1430 dL_law_1431 dL_law_1436 (by decide) ?_
  refine W.widen (k := cells + 5) (n := slots + 32) (by omega) (by omega) ?_
  exact kk S (cs_kJoi S (xs (i + 1)) (xs (i + 2)) (xs (i + 3)) (xs (i + 4))) ad u9 H locs ls hok rfl ⟨hP, hD, hS9⟩ (lv_sub hl [2, 3, 4, 5, 6] rfl)
set_option maxHeartbeats 4000000 in
set_option maxRecDepth 100000 in
theorem lw_c_patched (hlf : l.stackTraces = false) (C0 : cs_C p l s m c b L xs D cy) {i a0 cells slots : Nat} {S : cs_St} {th : Int32} {ad bd : Nat → Nat} {o9 : Nat} {f : Nat → Int64} {H : Heap} {locs : List Loc} {ls : Array Slot} (hi : i + 7 ≤ L) (hc : cells + 5 ≤ 601024) (hs : slots + 32 ≤ 7293034) (hok : cs_okk S) (had : ad 0 = a0) (hLS : cs_LS D s H locs S th ad bd o9 f cy) (hl : lv_has ls 7 [(0, .ref b), (1, .ref a0), (2, .ref (bd 0)), (3, .ref o9), (4, .int (nI i))]) (kk : cs_KK p l e s m b below meth c Q D cy bd o9 a0 i (cells + 5) (slots + 32)) : W p l e room_1 s m #[.ref b] below meth c H locs cells slots Q (F0 m 1439 ls []) := by
  have hS := hok.1
  have C1 := C0
  obtain ⟨hx, hb, hml, -, hown, hts, -, -, -, hE, hn, hz0, hK⟩ := C1
  subst had
  obtain ⟨hP, hD, hS9⟩ := hLS
  have hPl : va_P D vwCl (cs_O o9 f S ad cy) H := cs_PL hP
  have hDl : va_D (fun q => s.heap.size ≤ q) (cs_O o9 f S ad cy) := cs_DL hD
  have hF : ∀ q, va_A (cs_O o9 f S ad cy) H.size q → (fun q => s.heap.size ≤ q) q := cs_inL hD hS9 (fun _ h => h)
  have hz : cs_zz (va_A (cs_O o9 f S ad cy) H.size) s H := (hz0.kept (fun a h1 h2 => hS9.2.1 a h1 h2)).narrow hF
  refine lv_aload_n hx hb dL_law_1439 rfl (lv_at hl 1 rfl) ?_
  refine cs_rd C0 hS9 hl 0 4 rfl rfl 1 (jj := 1) hi (by decide) (by decide) dL_law_1440 dL_law_1441 dL_law_1443 dL_law_1444 dL_law_1445 ?_
  refine cs_rd C0 hS9 hl 0 4 rfl rfl 2 (jj := 2) hi (by decide) (by decide) dL_law_1446 dL_law_1447 dL_law_1449 dL_law_1450 dL_law_1451 ?_
  refine cs_rd C0 hS9 hl 0 4 rfl rfl 3 (jj := 3) hi (by decide) (by decide) dL_law_1452 dL_law_1453 dL_law_1455 dL_law_1456 dL_law_1457 ?_
  refine cs_rd C0 hS9 hl 0 4 rfl rfl 4 (jj := 4) hi (by decide) (by decide) dL_law_1458 dL_law_1459 dL_law_1461 dL_law_1462 dL_law_1463 ?_
  refine lv_aload_n hx hb dL_law_1464 rfl (lv_at hl 3 rfl) ?_
  refine cs_wcalli (vx_runSW (As := [.ref (ad 0), .int (xs (i + 1)), .int (xs (i + 2)), .int (xs (i + 3)), .int (xs (i + 4)), .ref o9]) (rest := []) ⟨hx, hb, hml, hown, hts⟩ (k_L_patched l hlf D S ad cy o9 f H.size hS hok.2 (xs (i + 1)) (xs (i + 2)) (xs (i + 3)) (xs (i + 4))) (vx_cwSW 6 hts gL_law_L_patched rfl rfl rfl (by decide +kernel) ⟨(Nat.le_of_ble_eq_true rfl), (Nat.le_of_ble_eq_true rfl)⟩) ⟨cs_Bl.blind, cs_Bl.at hn hE hz hPl hK hDl⟩ rfl rfl hl.1 rfl (lv_room (Nat.le_of_ble_eq_true rfl)) dL_law_1465 ⟨by show cells + 4 ≤ 601024; omega, by show slots + 24 ≤ 7293034; omega⟩) hS9 hF (fun r9 u9 H locs hp hP1 hD1 hz1 hk1 hS9 => ?_)
  obtain ⟨rfl, hv⟩ := hp
  obtain ⟨hP, hD⟩ := cs_joinL hP hD hk1 hF hP1 hD1
  refine lv_istore (lv' := [(5, .int (cs_kPat S (xs (i + 1)) (xs (i + 2)) (xs (i + 3)) (xs (i + 4)))), (0, .ref b), (1, .ref (ad 0)), (2, .ref (bd 0)), (3, .ref o9), (4, .int (nI i))]) hx hb dL_law_1468 hl (by decide) rfl (fun ls hl => ?_)
  refine lv_aload_n hx hb dL_law_1470 rfl (lv_at hl 3 rfl) ?_
  refine cs_rd C0 hS9 hl 1 5 rfl rfl 1 (jj := 1) hi (by decide) (by decide) dL_law_1471 dL_law_1472 dL_law_1474 dL_law_1475 dL_law_1476 ?_
  refine cs_rd C0 hS9 hl 1 5 rfl rfl 2 (jj := 2) hi (by decide) (by decide) dL_law_1477 dL_law_1478 dL_law_1480 dL_law_1481 dL_law_1482 ?_
  refine cs_rd C0 hS9 hl 1 5 rfl rfl 3 (jj := 3) hi (by decide) (by decide) dL_law_1483 dL_law_1484 dL_law_1486 dL_law_1487 dL_law_1488 ?_
  refine cs_rd C0 hS9 hl 1 5 rfl rfl 4 (jj := 4) hi (by decide) (by decide) dL_law_1489 dL_law_1490 dL_law_1492 dL_law_1493 dL_law_1494 ?_
  have hPR := cs_PR hP
  have hDR := cs_DR hD
  have hF2 : ∀ q, va_A (cs_R S th bd cy) H.size q → (fun q => s.heap.size ≤ q) q := cs_inR hD hS9 (fun _ h => h)
  refine cs_wcalli (va_runV (As := [.int (xs (i + 1)), .int (xs (i + 2)), .int (xs (i + 3)), .int (xs (i + 4))]) (rest := []) ⟨hx, hb, hml, hown, hts⟩ (k_X2_patched l D S th bd cy H.size hS (xs (i + 1)) (xs (i + 2)) (xs (i + 3)) (xs (i + 4))) (cwV 4 hts gL_law_X2_patched rfl rfl rfl (by decide +kernel) ⟨(Nat.le_of_ble_eq_true rfl), (Nat.le_of_ble_eq_true rfl)⟩) ⟨cs_Bw.blind, va_recv hK hPR (ci := 2) (q0 := 0) rfl rfl, cs_Bw.at hE hPR hK hDR⟩ rfl rfl hl.1 rfl (lv_room (Nat.le_of_ble_eq_true rfl)) dL_law_1495 ⟨by show cells + 4 + 0 ≤ 601024; omega, by show slots + 24 + 0 ≤ 7293034; omega⟩) hS9 hF2 (fun r8 u8 H locs hp hP1 hD1 hz1 hk1 hS9 => ?_)
  obtain ⟨hP, hD⟩ := cs_joinR hP hD hk1 hF2 hP1 hD1
  refine lv_istore (lv' := [(6, .int r8), (5, .int (cs_kPat S (xs (i + 1)) (xs (i + 2)) (xs (i + 3)) (xs (i + 4)))), (0, .ref b), (1, .ref (ad 0)), (2, .ref (bd 0)), (3, .ref o9), (4, .int (nI i))]) hx hb dL_law_1498 hl (by decide) rfl (fun ls hl => ?_)
  refine cs_tl C0 hP hl (fun h => by rw [hv h, hp h]) (by omega) (by omega) dL_law_1500 dL_law_1501 dL_law_1504 dL_law_1506 dL_law_1511 dL_law_1513 dL_law_1516 dL_law_1517 dL_law_1518 dL_law_1519 dL_law_1521 dL_law_1522 dL_law_1523 dL_law_1528 (by decide) ?_
  refine W.widen (k := cells + 5) (n := slots + 32) (by omega) (by omega) ?_
  exact kk S (cs_kPat S (xs (i + 1)) (xs (i + 2)) (xs (i + 3)) (xs (i + 4))) ad u9 H locs ls hok rfl ⟨hP, hD, hS9⟩ (lv_sub hl [2, 3, 4, 5, 6] rfl)
end CSLC
