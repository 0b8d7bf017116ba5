section LAWK
variable {p : Program} {l : Launch} {e : Env} {s : State} {m : MethodId} {below : List Frame} {meth : Method} {c : Code} {b L : Nat} {xs : Nat → Int32} {D : hp_D} {H : Heap} {locs : List Loc} {cells slots : Nat} {Q : State → Prop}
variable {pc : Nat} {ls : Array Slot} {rest : List Value} {a am : Nat} {i : Int32} {Tc Tm : hp_T} {Am Ru : Nat → Prop} {A : Nat → Nat} {x : Int32} {G : Nat → Option (Nat × Int32)} {X M : Nat → Int32} {tp tr rr rl nw im tl sk iq pa sn be : Nat}
set_option maxHeartbeats 4000000 in
set_option maxRecDepth 100000 in
theorem lawk_30 (C : lawC p s m c b L xs D) (I : lawI D s a am H locs) (hl : lv_has ls 4 [(0, .ref b), (1, .ref a), (2, .ref am), (3, .int i)]) (hB : lawB i L) (hc : cells + 13 ≤ 600000) (hs : slots + 402 ≤ 7302250) (kk : ∀ (H1 : Heap) (locs1 : List Loc), lawI D s a am H1 locs1 → W p l e room_1 s m #[Value.ref b] below meth c H1 locs1 (cells + 13) (slots + 402) Q (F0 m 1296 ls [])) : W p l e room_1 s m #[Value.ref b] below meth c H locs cells slots Q (F0 m 1102 ls []) := by
  obtain ⟨Tc, Tm, Am, Ru, A, x, G, X, M, tp, tr, rr, rl, nw, im, tl, sk, iq, pa, sn, be, w, hP, hm, hAB, hGX, hMj⟩ := I
  obtain ⟨b1, b2, b3, b4, b5⟩ := hB
  have hx := C.1.1
  have hb := C.1.2.1
  refine lv_aload_n hx hb dL_law_1102 rfl (lv_at hl 1 rfl) ?_
  refine law_xc (Rc := fun T1 => pcS T1 Ru a tp tr rr rl nw im tl sk iq pa sn be (rV (.int x)) G) C w hP hl.1 (lX11_islands l D Tc (lawA s Am) x hP w.2.2.1) (cwV 0 C.1.2.2.2.2 gL_law_X11_islands rfl rfl rfl (by decide +kernel) ⟨Nat.le_of_ble_eq_true rfl, Nat.le_of_ble_eq_true rfl⟩) (fun _ _ _ _ h => h) rfl rfl dL_law_1103 dL_law_1106 (by omega) (by omega) (fun T1 H1 locs1 w hP => ?_)
  refine lv_aload_n hx hb dL_law_1107 rfl (lv_at hl 2 rfl) ?_
  refine law_xm (Rm := fun T2 => mW T2 am A x X M) C w hm hl.1 (lX12_islands l D Tm am A x X M hm) (cwV 0 C.1.2.2.2.2 gL_law_X12_islands rfl rfl rfl (by decide +kernel) ⟨Nat.le_of_ble_eq_true rfl, Nat.le_of_ble_eq_true rfl⟩) (fun _ _ h => h) rfl rfl dL_law_1108 dL_law_1111 (by omega) (by omega) (fun T2 H2 locs2 w hm => ?_)
  refine lv_goto (tgt := 1296) hx hb dL_law_1112 (by decide) ?_
  refine W.widen (k := cells + 13) (n := slots + 402) (by omega) (by omega) ?_
  exact kk H2 locs2 ⟨T1, T2, Am, Ru, A, x, G, X, M, tp, tr, rr, rl, nw, im, tl, sk, iq, pa, sn, be, w, hP, hm, hAB, hGX, hMj⟩
set_option maxHeartbeats 4000000 in
set_option maxRecDepth 100000 in
theorem lawk_31 (C : lawC p s m c b L xs D) (I : lawI D s a am H locs) (hl : lv_has ls 4 [(0, .ref b), (1, .ref a), (2, .ref am), (3, .int i)]) (hB : lawB i L) (hc : cells + 13 ≤ 600000) (hs : slots + 402 ≤ 7302250) (kk : ∀ (H1 : Heap) (locs1 : List Loc), lawI D s a am H1 locs1 → W p l e room_1 s m #[Value.ref b] below meth c H1 locs1 (cells + 13) (slots + 402) Q (F0 m 1296 ls [])) : W p l e room_1 s m #[Value.ref b] below meth c H locs cells slots Q (F0 m 1115 ls []) := by
  obtain ⟨Tc, Tm, Am, Ru, A, x, G, X, M, tp, tr, rr, rl, nw, im, tl, sk, iq, pa, sn, be, w, hP, hm, hAB, hGX, hMj⟩ := I
  obtain ⟨b1, b2, b3, b4, b5⟩ := hB
  have hx := C.1.1
  have hb := C.1.2.1
  refine lv_aload_n hx hb dL_law_1115 rfl (lv_at hl 1 rfl) ?_
  refine law_ld C w.2.2.2.2.2 hl (k := 1) (by decide) b1 dL_law_1116 dL_law_1117 dL_law_1118 dL_law_1119 dL_law_1120 ?_
  refine law_ld C w.2.2.2.2.2 hl (k := 2) (by decide) b2 dL_law_1121 dL_law_1122 dL_law_1123 dL_law_1124 dL_law_1125 ?_
  refine law_xc (Rc := fun T1 => pcS T1 Ru a tp tr rr rl nw im tl sk iq pa sn be (rV (.int x)) G) C w hP hl.1 (lX11_rounds l D Tc (lawA s Am) x hP w.2.2.1 (xs (i + 1).toNatClampNeg) (xs (i + 2).toNatClampNeg)) (cwV 2 C.1.2.2.2.2 gL_law_X11_rounds rfl rfl rfl (by decide +kernel) ⟨Nat.le_of_ble_eq_true rfl, Nat.le_of_ble_eq_true rfl⟩) (fun _ _ _ _ h => h) rfl rfl dL_law_1126 dL_law_1129 (by omega) (by omega) (fun T1 H1 locs1 w hP => ?_)
  refine lv_aload_n hx hb dL_law_1130 rfl (lv_at hl 2 rfl) ?_
  refine law_ld C w.2.2.2.2.2 hl (k := 1) (by decide) b1 dL_law_1131 dL_law_1132 dL_law_1133 dL_law_1134 dL_law_1135 ?_
  refine law_ld C w.2.2.2.2.2 hl (k := 2) (by decide) b2 dL_law_1136 dL_law_1137 dL_law_1138 dL_law_1139 dL_law_1140 ?_
  refine law_xm (Rm := fun T2 => mW T2 am A x X M) C w hm hl.1 (lX12_rounds l D Tm am A x X M hm (xs (i + 1).toNatClampNeg) (xs (i + 2).toNatClampNeg)) (cwV 2 C.1.2.2.2.2 gL_law_X12_rounds rfl rfl rfl (by decide +kernel) ⟨Nat.le_of_ble_eq_true rfl, Nat.le_of_ble_eq_true rfl⟩) (fun _ _ h => h) rfl rfl dL_law_1141 dL_law_1144 (by omega) (by omega) (fun T2 H2 locs2 w hm => ?_)
  refine lv_goto (tgt := 1296) hx hb dL_law_1145 (by decide) ?_
  refine W.widen (k := cells + 13) (n := slots + 402) (by omega) (by omega) ?_
  exact kk H2 locs2 ⟨T1, T2, Am, Ru, A, x, G, X, M, tp, tr, rr, rl, nw, im, tl, sk, iq, pa, sn, be, w, hP, hm, hAB, hGX, hMj⟩
set_option maxHeartbeats 4000000 in
set_option maxRecDepth 100000 in
theorem lawk_32 (C : lawC p s m c b L xs D) (I : lawI D s a am H locs) (hl : lv_has ls 4 [(0, .ref b), (1, .ref a), (2, .ref am), (3, .int i)]) (hB : lawB i L) (hc : cells + 13 ≤ 600000) (hs : slots + 402 ≤ 7302250) (kk : ∀ (H1 : Heap) (locs1 : List Loc), lawI D s a am H1 locs1 → W p l e room_1 s m #[Value.ref b] below meth c H1 locs1 (cells + 13) (slots + 402) Q (F0 m 1296 ls [])) : W p l e room_1 s m #[Value.ref b] below meth c H locs cells slots Q (F0 m 1148 ls []) := by
  obtain ⟨Tc, Tm, Am, Ru, A, x, G, X, M, tp, tr, rr, rl, nw, im, tl, sk, iq, pa, sn, be, w, hP, hm, hAB, hGX, hMj⟩ := I
  obtain ⟨b1, b2, b3, b4, b5⟩ := hB
  have hx := C.1.1
  have hb := C.1.2.1
  refine lv_aload_n hx hb dL_law_1148 rfl (lv_at hl 1 rfl) ?_
  refine law_xc (Rc := fun T1 => pcS T1 Ru a tp tr rr rl nw im tl sk iq pa sn be (rV (.int x)) G) C w hP hl.1 (lX11_census l D Tc (lawA s Am) x hP w.2.2.1) (cwV 0 C.1.2.2.2.2 gL_law_X11_census rfl rfl rfl (by decide +kernel) ⟨Nat.le_of_ble_eq_true rfl, Nat.le_of_ble_eq_true rfl⟩) (fun _ _ _ _ h => h) rfl rfl dL_law_1149 dL_law_1152 (by omega) (by omega) (fun T1 H1 locs1 w hP => ?_)
  refine lv_aload_n hx hb dL_law_1153 rfl (lv_at hl 2 rfl) ?_
  refine law_xm (Rm := fun T2 => mW T2 am A x X M) C w hm hl.1 (lX12_census l D Tm am A x X M hm) (cwV 0 C.1.2.2.2.2 gL_law_X12_census rfl rfl rfl (by decide +kernel) ⟨Nat.le_of_ble_eq_true rfl, Nat.le_of_ble_eq_true rfl⟩) (fun _ _ h => h) rfl rfl dL_law_1154 dL_law_1157 (by omega) (by omega) (fun T2 H2 locs2 w hm => ?_)
  refine lv_goto (tgt := 1296) hx hb dL_law_1158 (by decide) ?_
  refine W.widen (k := cells + 13) (n := slots + 402) (by omega) (by omega) ?_
  exact kk H2 locs2 ⟨T1, T2, Am, Ru, A, x, G, X, M, tp, tr, rr, rl, nw, im, tl, sk, iq, pa, sn, be, w, hP, hm, hAB, hGX, hMj⟩
set_option maxHeartbeats 4000000 in
set_option maxRecDepth 100000 in
theorem lawk_33 (C : lawC p s m c b L xs D) (I : lawI D s a am H locs) (hl : lv_has ls 4 [(0, .ref b), (1, .ref a), (2, .ref am), (3, .int i)]) (hB : lawB i L) (hc : cells + 13 ≤ 600000) (hs : slots + 402 ≤ 7302250) (kk : ∀ (H1 : Heap) (locs1 : List Loc), lawI D s a am H1 locs1 → W p l e room_1 s m #[Value.ref b] below meth c H1 locs1 (cells + 13) (slots + 402) Q (F0 m 1296 ls [])) : W p l e room_1 s m #[Value.ref b] below meth c H locs cells slots Q (F0 m 1161 ls []) := by
  obtain ⟨Tc, Tm, Am, Ru, A, x, G, X, M, tp, tr, rr, rl, nw, im, tl, sk, iq, pa, sn, be, w, hP, hm, hAB, hGX, hMj⟩ := I
  obtain ⟨b1, b2, b3, b4, b5⟩ := hB
  have hx := C.1.1
  have hb := C.1.2.1
  refine lv_aload_n hx hb dL_law_1161 rfl (lv_at hl 1 rfl) ?_
  refine law_ld C w.2.2.2.2.2 hl (k := 1) (by decide) b1 dL_law_1162 dL_law_1163 dL_law_1164 dL_law_1165 dL_law_1166 ?_
  refine law_c (va_runV (As := [.int (xs (i + 1).toNatClampNeg)]) (rest := []) C.1 (lX11_seed l D Tc (lawA s Am) (xs (i + 1).toNatClampNeg) x hP w.2.2.1) (cwV 1 C.1.2.2.2.2 gL_law_X11_seed rfl rfl rfl (by decide +kernel) ⟨Nat.le_of_ble_eq_true rfl, Nat.le_of_ble_eq_true rfl⟩) (law_preC C.2.2.2 w hP.1 (q := (RX11, TX11, 13)) rfl) rfl rfl hl.1 rfl (lv_room (Nat.le_of_ble_eq_true rfl)) dL_law_1167 ⟨(show cells + 0 ≤ 600000 by omega), (show slots + 0 ≤ 7302250 by omega)⟩) w (fun v T1 st t H1 locs1 hp w => ?_)
  obtain ⟨r1, rfl, hp⟩ := hp
  show W p l e room_1 s m #[Value.ref b] below meth c H1 locs1 (cells + 0) (slots + 0) Q (F0 m 1170 ls [.int r1])
  refine lv_aload_n hx hb dL_law_1170 rfl (lv_at hl 2 rfl) ?_
  refine law_ld C w.2.2.2.2.2 hl (k := 1) (by decide) b1 dL_law_1171 dL_law_1172 dL_law_1173 dL_law_1174 dL_law_1175 ?_
  obtain ⟨Gm, hma, -⟩ := id hm
  refine law_m (va_runV (As := [.int (xs (i + 1).toNatClampNeg)]) (rest := [.int r1]) C.1 (lX12_seed l D Tm am A x X M hm (xs (i + 1).toNatClampNeg)) (cwV 1 C.1.2.2.2.2 gL_law_X12_seed rfl rfl rfl (by decide +kernel) ⟨Nat.le_of_ble_eq_true rfl, Nat.le_of_ble_eq_true rfl⟩) (law_preM C.2.2.2 w hma.2.1 (q := (RX12, TX12, 44)) rfl) rfl rfl hl.1 rfl (lv_room (Nat.le_of_ble_eq_true rfl)) dL_law_1176 ⟨(show cells + 0 + 0 ≤ 600000 by omega), (show slots + 0 + 0 ≤ 7302250 by omega)⟩) w (fun v2 T2 H2 locs2 hp2 w => ?_)
  have key : v2 = some (.int r1) ∧ ∃ x' : Int32, pcS T1 Ru a tp tr rr rl nw im tl sk iq pa sn be (rV (.int x')) G ∧ mW T2 am A x' X M := by
    rcases hp with ⟨g1, e1, h1⟩ | ⟨g1, e1, h1⟩
    · rcases hp2 with ⟨g2, e2, h2⟩ | ⟨g2, e2, h2⟩
      · exact ⟨by rw [e2, e1], x, h1, h2⟩
      · exact absurd g2 g1
    · rcases hp2 with ⟨g2, e2, h2⟩ | ⟨g2, e2, h2⟩
      · exact absurd g1 g2
      · exact ⟨by rw [e2, e1], (xs (i + 1).toNatClampNeg), h1, h2⟩
  obtain ⟨rfl, x', h1, h2⟩ := key
  show W p l e room_1 s m #[Value.ref b] below meth c H2 locs2 (cells + 0 + 0) (slots + 0 + 0) Q (F0 m 1179 ls [.int r1, .int r1])
  refine lv_icmp_eq (tgt := 1296) hx hb dL_law_1179 (by decide) (fun _ => ?_) (fun c1 => (c1 rfl).elim)
  refine W.widen (k := cells + 13) (n := slots + 402) (by omega) (by omega) ?_
  exact kk H2 locs2 ⟨T1, T2, Am, Ru, A, x', G, X, M, tp, tr, rr, rl, nw, im, tl, sk, iq, pa, sn, be, w, h1, h2, hAB, hGX, hMj⟩
set_option maxHeartbeats 4000000 in
set_option maxRecDepth 100000 in
theorem lawk_34 (C : lawC p s m c b L xs D) (I : lawI D s a am H locs) (hl : lv_has ls 4 [(0, .ref b), (1, .ref a), (2, .ref am), (3, .int i)]) (hB : lawB i L) (hc : cells + 13 ≤ 600000) (hs : slots + 402 ≤ 7302250) (kk : ∀ (H1 : Heap) (locs1 : List Loc), lawI D s a am H1 locs1 → W p l e room_1 s m #[Value.ref b] below meth c H1 locs1 (cells + 13) (slots + 402) Q (F0 m 1296 ls [])) : W p l e room_1 s m #[Value.ref b] below meth c H locs cells slots Q (F0 m 1184 ls []) := by
  obtain ⟨Tc, Tm, Am, Ru, A, x, G, X, M, tp, tr, rr, rl, nw, im, tl, sk, iq, pa, sn, be, w, hP, hm, hAB, hGX, hMj⟩ := I
  obtain ⟨b1, b2, b3, b4, b5⟩ := hB
  have hx := C.1.1
  have hb := C.1.2.1
  refine lv_aload_n hx hb dL_law_1184 rfl (lv_at hl 1 rfl) ?_
  refine law_ld C w.2.2.2.2.2 hl (k := 1) (by decide) b1 dL_law_1185 dL_law_1186 dL_law_1187 dL_law_1188 dL_law_1189 ?_
  refine law_ld C w.2.2.2.2.2 hl (k := 2) (by decide) b2 dL_law_1190 dL_law_1191 dL_law_1192 dL_law_1193 dL_law_1194 ?_
  refine law_ld C w.2.2.2.2.2 hl (k := 3) (by decide) b3 dL_law_1195 dL_law_1196 dL_law_1197 dL_law_1198 dL_law_1199 ?_
  refine law_xc (Rc := fun T1 => pcS T1 Ru a tp tr rr rl nw im tl sk iq pa sn be (rV (.int x)) G) C w hP hl.1 (lX11_drawn l D Tc (lawA s Am) x hP w.2.2.1 (xs (i + 1).toNatClampNeg) (xs (i + 2).toNatClampNeg) (xs (i + 3).toNatClampNeg)) (cwV 3 C.1.2.2.2.2 gL_law_X11_drawn rfl rfl rfl (by decide +kernel) ⟨Nat.le_of_ble_eq_true rfl, Nat.le_of_ble_eq_true rfl⟩) (fun _ _ _ _ h => h) rfl rfl dL_law_1200 dL_law_1203 (by omega) (by omega) (fun T1 H1 locs1 w hP => ?_)
  refine lv_aload_n hx hb dL_law_1204 rfl (lv_at hl 2 rfl) ?_
  refine law_ld C w.2.2.2.2.2 hl (k := 1) (by decide) b1 dL_law_1205 dL_law_1206 dL_law_1207 dL_law_1208 dL_law_1209 ?_
  refine law_ld C w.2.2.2.2.2 hl (k := 2) (by decide) b2 dL_law_1210 dL_law_1211 dL_law_1212 dL_law_1213 dL_law_1214 ?_
  refine law_ld C w.2.2.2.2.2 hl (k := 3) (by decide) b3 dL_law_1215 dL_law_1216 dL_law_1217 dL_law_1218 dL_law_1219 ?_
  refine law_xm (Rm := fun T2 => mW T2 am A x X M) C w hm hl.1 (lX12_drawn l D Tm am A x X M hm (xs (i + 1).toNatClampNeg) (xs (i + 2).toNatClampNeg) (xs (i + 3).toNatClampNeg)) (cwV 3 C.1.2.2.2.2 gL_law_X12_drawn rfl rfl rfl (by decide +kernel) ⟨Nat.le_of_ble_eq_true rfl, Nat.le_of_ble_eq_true rfl⟩) (fun _ _ h => h) rfl rfl dL_law_1220 dL_law_1223 (by omega) (by omega) (fun T2 H2 locs2 w hm => ?_)
  refine lv_goto (tgt := 1296) hx hb dL_law_1224 (by decide) ?_
  refine W.widen (k := cells + 13) (n := slots + 402) (by omega) (by omega) ?_
  exact kk H2 locs2 ⟨T1, T2, Am, Ru, A, x, G, X, M, tp, tr, rr, rl, nw, im, tl, sk, iq, pa, sn, be, w, hP, hm, hAB, hGX, hMj⟩
set_option maxHeartbeats 4000000 in
set_option maxRecDepth 100000 in
theorem lawk_35 (C : lawC p s m c b L xs D) (I : lawI D s a am H locs) (hl : lv_has ls 4 [(0, .ref b), (1, .ref a), (2, .ref am), (3, .int i)]) (hB : lawB i L) (hc : cells + 13 ≤ 600000) (hs : slots + 402 ≤ 7302250) (kk : ∀ (H1 : Heap) (locs1 : List Loc), lawI D s a am H1 locs1 → W p l e room_1 s m #[Value.ref b] below meth c H1 locs1 (cells + 13) (slots + 402) Q (F0 m 1296 ls [])) : W p l e room_1 s m #[Value.ref b] below meth c H locs cells slots Q (F0 m 1227 ls []) := by
  obtain ⟨Tc, Tm, Am, Ru, A, x, G, X, M, tp, tr, rr, rl, nw, im, tl, sk, iq, pa, sn, be, w, hP, hm, hAB, hGX, hMj⟩ := I
  obtain ⟨b1, b2, b3, b4, b5⟩ := hB
  have hx := C.1.1
  have hb := C.1.2.1
  refine lv_aload_n hx hb dL_law_1227 rfl (lv_at hl 1 rfl) ?_
  refine law_ld C w.2.2.2.2.2 hl (k := 1) (by decide) b1 dL_law_1228 dL_law_1229 dL_law_1230 dL_law_1231 dL_law_1232 ?_
  refine law_xc (Rc := fun T1 => pcS T1 Ru a tp tr rr rl nw im tl sk iq pa sn be (rV (.int x)) G) C w hP hl.1 (lX11_count l D Tc (lawA s Am) x hP w.2.2.1 (xs (i + 1).toNatClampNeg)) (cwV 1 C.1.2.2.2.2 gL_law_X11_count rfl rfl rfl (by decide +kernel) ⟨Nat.le_of_ble_eq_true rfl, Nat.le_of_ble_eq_true rfl⟩) (fun _ _ _ _ h => h) rfl rfl dL_law_1233 dL_law_1236 (by omega) (by omega) (fun T1 H1 locs1 w hP => ?_)
  refine lv_aload_n hx hb dL_law_1237 rfl (lv_at hl 2 rfl) ?_
  refine law_ld C w.2.2.2.2.2 hl (k := 1) (by decide) b1 dL_law_1238 dL_law_1239 dL_law_1240 dL_law_1241 dL_law_1242 ?_
  refine law_xm (Rm := fun T2 => mW T2 am A x X M) C w hm hl.1 (lX12_count l D Tm am A x X M hm (xs (i + 1).toNatClampNeg)) (cwV 1 C.1.2.2.2.2 gL_law_X12_count rfl rfl rfl (by decide +kernel) ⟨Nat.le_of_ble_eq_true rfl, Nat.le_of_ble_eq_true rfl⟩) (fun _ _ h => h) rfl rfl dL_law_1243 dL_law_1246 (by omega) (by omega) (fun T2 H2 locs2 w hm => ?_)
  refine lv_goto (tgt := 1296) hx hb dL_law_1247 (by decide) ?_
  refine W.widen (k := cells + 13) (n := slots + 402) (by omega) (by omega) ?_
  exact kk H2 locs2 ⟨T1, T2, Am, Ru, A, x, G, X, M, tp, tr, rr, rl, nw, im, tl, sk, iq, pa, sn, be, w, hP, hm, hAB, hGX, hMj⟩
set_option maxHeartbeats 4000000 in
set_option maxRecDepth 100000 in
theorem lawk_36 (C : lawC p s m c b L xs D) (I : lawI D s a am H locs) (hl : lv_has ls 4 [(0, .ref b), (1, .ref a), (2, .ref am), (3, .int i)]) (hB : lawB i L) (hc : cells + 13 ≤ 600000) (hs : slots + 402 ≤ 7302250) (kk : ∀ (H1 : Heap) (locs1 : List Loc), lawI D s a am H1 locs1 → W p l e room_1 s m #[Value.ref b] below meth c H1 locs1 (cells + 13) (slots + 402) Q (F0 m 1296 ls [])) : W p l e room_1 s m #[Value.ref b] below meth c H locs cells slots Q (F0 m 1250 ls []) := by
  obtain ⟨Tc, Tm, Am, Ru, A, x, G, X, M, tp, tr, rr, rl, nw, im, tl, sk, iq, pa, sn, be, w, hP, hm, hAB, hGX, hMj⟩ := I
  obtain ⟨b1, b2, b3, b4, b5⟩ := hB
  have hx := C.1.1
  have hb := C.1.2.1
  refine lv_aload_n hx hb dL_law_1250 rfl (lv_at hl 1 rfl) ?_
  refine law_ld C w.2.2.2.2.2 hl (k := 1) (by decide) b1 dL_law_1251 dL_law_1252 dL_law_1253 dL_law_1254 dL_law_1255 ?_
  refine law_xc (Rc := fun T1 => ∃ G1 : Nat → Option (Nat × Int32), pcS T1 Ru a tp tr rr rl nw im tl sk iq pa sn be (rV (.int x)) G1 ∧ (((¬ (xs (i + 1).toNatClampNeg) < 0 ∧ (xs (i + 1).toNatClampNeg) < 4) ∧ ∃ b : Nat, G1 = imU G (xs (i + 1).toNatClampNeg).toNatClampNeg (b, x)) ∨ (¬ (¬ (xs (i + 1).toNatClampNeg) < 0 ∧ (xs (i + 1).toNatClampNeg) < 4) ∧ G1 = G))) C w hP hl.1 (lX11_image l D Tc (lawA s Am) (xs (i + 1).toNatClampNeg) x hP) (cwV 1 C.1.2.2.2.2 gL_law_X11_image rfl rfl rfl (by decide +kernel) ⟨Nat.le_of_ble_eq_true rfl, Nat.le_of_ble_eq_true rfl⟩) (fun _ _ _ _ h => by obtain ⟨r, e, h⟩ := h; exact ⟨⟨r, e⟩, h⟩) rfl rfl dL_law_1256 dL_law_1259 (by omega) (by omega) (fun T1 H1 locs1 w hP => ?_)
  obtain ⟨G1, hP, hcc⟩ := hP
  refine lv_aload_n hx hb dL_law_1260 rfl (lv_at hl 2 rfl) ?_
  refine law_ld C w.2.2.2.2.2 hl (k := 1) (by decide) b1 dL_law_1261 dL_law_1262 dL_law_1263 dL_law_1264 dL_law_1265 ?_
  refine law_xm (Rm := fun T2 => ((¬ (xs (i + 1).toNatClampNeg) < 0 ∧ (xs (i + 1).toNatClampNeg) < 4) ∧ mW T2 am A x (upI X (xs (i + 1).toNatClampNeg).toNatClampNeg x) (upI M (xs (i + 1).toNatClampNeg).toNatClampNeg 1)) ∨ (¬ (¬ (xs (i + 1).toNatClampNeg) < 0 ∧ (xs (i + 1).toNatClampNeg) < 4) ∧ mW T2 am A x X M)) C w hm hl.1 (lX12_image l D Tm am A x X M hm (xs (i + 1).toNatClampNeg)) (cwV 1 C.1.2.2.2.2 gL_law_X12_image rfl rfl rfl (by decide +kernel) ⟨Nat.le_of_ble_eq_true rfl, Nat.le_of_ble_eq_true rfl⟩) (fun _ _ h => h) rfl rfl dL_law_1266 dL_law_1269 (by omega) (by omega) (fun T2 H2 locs2 w hm => ?_)
  refine lv_goto (tgt := 1296) hx hb dL_law_1270 (by decide) ?_
  refine W.widen (k := cells + 13) (n := slots + 402) (by omega) (by omega) ?_
  rcases hcc with ⟨g1, b9, e9⟩ | ⟨g1, e9⟩
  · rcases hm with ⟨g2, hm⟩ | ⟨g2, hm⟩
    · rw [e9] at hP
      exact kk H2 locs2 ⟨T1, T2, Am, Ru, A, x, _, _, _, tp, tr, rr, rl, nw, im, tl, sk, iq, pa, sn, be, w, hP, hm, hAB, lawG_image hGX, fun j => by
        by_cases ej : j = (xs (i + 1).toNatClampNeg).toNatClampNeg
        · rw [ej, upI_s]
          exact Or.inr rfl
        · rw [upI_n ej]
          exact hMj j⟩
    · exact absurd g1 g2
  · rcases hm with ⟨g2, hm⟩ | ⟨g2, hm⟩
    · exact absurd g2 g1
    · rw [e9] at hP
      exact kk H2 locs2 ⟨T1, T2, Am, Ru, A, x, G, X, M, tp, tr, rr, rl, nw, im, tl, sk, iq, pa, sn, be, w, hP, hm, hAB, hGX, hMj⟩
set_option maxHeartbeats 4000000 in
set_option maxRecDepth 100000 in
theorem lawk_37 (C : lawC p s m c b L xs D) (I : lawI D s a am H locs) (hl : lv_has ls 4 [(0, .ref b), (1, .ref a), (2, .ref am), (3, .int i)]) (hB : lawB i L) (hc : cells + 13 ≤ 600000) (hs : slots + 402 ≤ 7302250) (kk : ∀ (H1 : Heap) (locs1 : List Loc), lawI D s a am H1 locs1 → W p l e room_1 s m #[Value.ref b] below meth c H1 locs1 (cells + 13) (slots + 402) Q (F0 m 1296 ls [])) : W p l e room_1 s m #[Value.ref b] below meth c H locs cells slots Q (F0 m 1273 ls []) := by
  obtain ⟨Tc, Tm, Am, Ru, A, x, G, X, M, tp, tr, rr, rl, nw, im, tl, sk, iq, pa, sn, be, w, hP, hm, hAB, hGX, hMj⟩ := I
  obtain ⟨b1, b2, b3, b4, b5⟩ := hB
  have hx := C.1.1
  have hb := C.1.2.1
  refine lv_aload_n hx hb dL_law_1273 rfl (lv_at hl 1 rfl) ?_
  refine law_ld C w.2.2.2.2.2 hl (k := 1) (by decide) b1 dL_law_1274 dL_law_1275 dL_law_1276 dL_law_1277 dL_law_1278 ?_
  refine law_xc (Rc := fun T1 => pcS T1 Ru a tp tr rr rl nw im tl sk iq pa sn be (rV (.int (bkX G (xs (i + 1).toNatClampNeg) x))) G) C w hP hl.1 (lX11_back l D Tc (lawA s Am) (xs (i + 1).toNatClampNeg) x hP w.2.2.1) (cwV 1 C.1.2.2.2.2 gL_law_X11_back rfl rfl rfl (by decide +kernel) ⟨Nat.le_of_ble_eq_true rfl, Nat.le_of_ble_eq_true rfl⟩) (fun _ _ _ _ h => by obtain ⟨r, e, h⟩ := h; exact ⟨⟨r, e⟩, h⟩) rfl rfl dL_law_1279 dL_law_1282 (by omega) (by omega) (fun T1 H1 locs1 w hP => ?_)
  rw [lawG_back hGX] at hP
  refine lv_aload_n hx hb dL_law_1283 rfl (lv_at hl 2 rfl) ?_
  refine law_ld C w.2.2.2.2.2 hl (k := 1) (by decide) b1 dL_law_1284 dL_law_1285 dL_law_1286 dL_law_1287 dL_law_1288 ?_
  refine law_xm (Rm := fun T2 => mW T2 am A (bkM X M (xs (i + 1).toNatClampNeg) x) X M) C w hm hl.1 (lX12_back l D Tm am A x X M hm hMj (xs (i + 1).toNatClampNeg)) (cwV 1 C.1.2.2.2.2 gL_law_X12_back rfl rfl rfl (by decide +kernel) ⟨Nat.le_of_ble_eq_true rfl, Nat.le_of_ble_eq_true rfl⟩) (fun _ _ h => h) rfl rfl dL_law_1289 dL_law_1292 (by omega) (by omega) (fun T2 H2 locs2 w hm => ?_)
  refine lv_goto (tgt := 1296) hx hb dL_law_1293 (by decide) ?_
  refine W.widen (k := cells + 13) (n := slots + 402) (by omega) (by omega) ?_
  exact kk H2 locs2 ⟨T1, T2, Am, Ru, A, bkM X M (xs (i + 1).toNatClampNeg) x, G, X, M, tp, tr, rr, rl, nw, im, tl, sk, iq, pa, sn, be, w, hP, hm, hAB, hGX, hMj⟩
end LAWK
