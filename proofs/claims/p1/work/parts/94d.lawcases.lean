set_option maxHeartbeats 4000000 in
set_option maxRecDepth 100000 in
theorem lw_c28 {p : Program} {l : Launch} {e : Env} {s : State} {m : MethodId} {below : List Frame} {meth : Method} {c : Code} {b : Nat} {xs : Nat → Int32} {dC : Nat → ClassId} {dI : Nat → Nat → Nat} {k : Nat → ClassId} {q q2 : Nat → Nat} (C0 : lw_At p s m meth c b 6 xs) (hK : zK dC dI k (zTX k) s) {H : Heap} {locs : List Loc} (hP : va_P (dC, dI) vwCl ((zX k q 0 (-1) 12 100 0 (fun _ => 0) 0 0 (fun _ => 0) (fun _ => 0) (fun _ => 0) (fun _ => 0) (fun _ => 0) (fun _ => 0) (fun _ => 0) 0 0 0 (fun _ => 0) 0 1 232792560 0 0 0 0 0 1 (fun _ => 0) (fun _ => 0) 232792560 0 0 0 0 0 1 (fun _ => 0) (fun _ => 0) 232792560 0 0 0 0 0 1 (fun _ => 0) (fun _ => 0) 232792560 0 0 0 0 0 1 (fun _ => 0) (fun _ => 0) (-1) 0 (fun _ => 0) (-1) 0 (fun _ => 0) (-1) 0 (fun _ => 0) (-1) 0 (fun _ => 0)) ++ (zM k q2 0 1 (fun _ => 0) (fun _ => 0) (fun _ => 0) (fun _ => 0) (fun _ => 0) (fun _ => 0) (fun _ => 0) (fun _ => 0) (fun _ => 0) 12 0 0 0 0 (fun _ => 0) (fun _ => 0) (fun _ => 0) 0 (-1) (fun _ => 0) 0 (fun _ => 0) (fun _ => 0) (fun _ => 0) (fun _ => 0) (fun _ => 0) 0 0 0 0 0 0 (fun _ => 0) 100 (fun _ => 0) (fun _ => 0) (fun _ => 0) (fun _ => 0) (fun _ => 0) 0)) H) (hD : va_D (fun a : Nat => s.heap.size ≤ a) ((zX k q 0 (-1) 12 100 0 (fun _ => 0) 0 0 (fun _ => 0) (fun _ => 0) (fun _ => 0) (fun _ => 0) (fun _ => 0) (fun _ => 0) (fun _ => 0) 0 0 0 (fun _ => 0) 0 1 232792560 0 0 0 0 0 1 (fun _ => 0) (fun _ => 0) 232792560 0 0 0 0 0 1 (fun _ => 0) (fun _ => 0) 232792560 0 0 0 0 0 1 (fun _ => 0) (fun _ => 0) 232792560 0 0 0 0 0 1 (fun _ => 0) (fun _ => 0) (-1) 0 (fun _ => 0) (-1) 0 (fun _ => 0) (-1) 0 (fun _ => 0) (-1) 0 (fun _ => 0)) ++ (zM k q2 0 1 (fun _ => 0) (fun _ => 0) (fun _ => 0) (fun _ => 0) (fun _ => 0) (fun _ => 0) (fun _ => 0) (fun _ => 0) (fun _ => 0) 12 0 0 0 0 (fun _ => 0) (fun _ => 0) (fun _ => 0) 0 (-1) (fun _ => 0) 0 (fun _ => 0) (fun _ => 0) (fun _ => 0) (fun _ => 0) (fun _ => 0) 0 0 0 0 0 0 (fun _ => 0) 100 (fun _ => 0) (fun _ => 0) (fun _ => 0) (fun _ => 0) (fun _ => 0) 0))) (hS : va_S (fun a : Nat => s.heap.size ≤ a) s.heap H locs) {ls : Array Slot} (hl : lv_has ls 4 [(3, .int 0), (2, .ref (q2 0)), (1, .ref (q 0)), (0, .ref b)]) : W p l e room_1 s m #[Value.ref b] below meth c H locs 1000 10000 (lw_Z below #[Value.ref b] s) (F0 m 1199 ls []) := by
  obtain ⟨hx, hb, hr, hml, hown, hts0, hX, hbl, hlocks, hgv⟩ := id C0
  have hts : ∀ w ∈ zw, w.before #[Value.ref b] s = true := fun w h => hts0 w (List.mem_filter.mp h).1
  have hA : ∀ q : Nat, s.heap.size ≤ q → (fun a : Nat => s.heap.size ≤ a) q := fun _ h => h
  have hbA : ¬ (fun a : Nat => s.heap.size ≤ a) b := Nat.not_le.mpr hbl
  refine lv_aload_n hx hb dL_law_1199 rfl (lv_at hl 2 rfl) ?_
  refine lv_aload_n hx hb dL_law_1200 rfl (lv_at hl 3 rfl) ?_
  refine lv_iload_n hx hb dL_law_1201 rfl (lv_at hl 0 rfl) ?_
  refine lv_iconst (v := 1) hx hb dL_law_1202 (by decide) ?_
  refine lv_iadd hx hb dL_law_1203 ?_
  refine z_top (v2 := .int 1) (congrArg Value.int (by decide)) ?_
  refine va_sld hx hb hX hbl hbA hS (show ¬ _ by decide) dL_law_1204 ?_
  refine z_top (v2 := .int (xs 1)) rfl ?_
  refine lv_aload_n hx hb dL_law_1205 rfl (lv_at hl 3 rfl) ?_
  refine lv_iload_n hx hb dL_law_1206 rfl (lv_at hl 0 rfl) ?_
  refine lv_iconst (v := 2) hx hb dL_law_1207 (by decide) ?_
  refine lv_iadd hx hb dL_law_1208 ?_
  refine z_top (v2 := .int 2) (congrArg Value.int (by decide)) ?_
  refine va_sld hx hb hX hbl hbA hS (show ¬ _ by decide) dL_law_1209 ?_
  refine z_top (v2 := .int (xs 2)) rfl ?_
  refine zc2_i (wx := (zX k q 0 (-1) 12 100 0 (fun _ => 0) 0 0 (fun _ => 0) (fun _ => 0) (fun _ => 0) (fun _ => 0) (fun _ => 0) (fun _ => 0) (fun _ => 0) 0 0 0 (fun _ => 0) 0 1 232792560 0 0 0 0 0 1 (fun _ => 0) (fun _ => 0) 232792560 0 0 0 0 0 1 (fun _ => 0) (fun _ => 0) 232792560 0 0 0 0 0 1 (fun _ => 0) (fun _ => 0) 232792560 0 0 0 0 0 1 (fun _ => 0) (fun _ => 0) (-1) 0 (fun _ => 0) (-1) 0 (fun _ => 0) (-1) 0 (fun _ => 0) (-1) 0 (fun _ => 0))) (wm := (zM k q2 0 1 (fun _ => 0) (fun _ => 0) (fun _ => 0) (fun _ => 0) (fun _ => 0) (fun _ => 0) (fun _ => 0) (fun _ => 0) (fun _ => 0) 12 0 0 0 0 (fun _ => 0) (fun _ => 0) (fun _ => 0) 0 (-1) (fun _ => 0) 0 (fun _ => 0) (fun _ => 0) (fun _ => 0) (fun _ => 0) (fun _ => 0) 0 0 0 0 0 0 (fun _ => 0) 100 (fun _ => 0) (fun _ => 0) (fun _ => 0) (fun _ => 0) (fun _ => 0) 0)) (va_runV (As := [.int (xs 1), .int (xs 2)]) (rest := []) ⟨hx, hb, hml, hown, hts⟩ (c_X6_kept l dC dI k  q 0 (fun _ => 0) (fun _ => 0) (fun _ => 0) (fun _ => 0) (fun _ => 0) (fun _ => 0) (fun _ => 0) 0 0 0 (fun _ => 0) 0 1 232792560 0 0 0 1 (fun _ => 0) (fun _ => 0) 232792560 0 0 0 1 (fun _ => 0) (fun _ => 0) 232792560 0 0 0 1 (fun _ => 0) (fun _ => 0) 232792560 0 0 0 1 (fun _ => 0) (fun _ => 0) (fun _ => 0) (fun _ => 0) (fun _ => 0) (fun _ => 0) (xs 1) (xs 2) _) (cwV 2 hts (gzV wmt3_81 wmt3_82 wmt3_83 wmt1_1 wmt3_84) rfl rfl rfl (by decide +kernel) ⟨Nat.le_of_ble_eq_true rfl, Nat.le_of_ble_eq_true rfl⟩) (zpA_V (ci := 6) (q0 := 0) hK (z_PL hP) (z_DL hD) rfl rfl) rfl rfl hl.1 rfl (lv_room (Nat.le_of_ble_eq_true rfl)) dL_law_1210 ⟨Nat.le_of_ble_eq_true rfl, Nat.le_of_ble_eq_true rfl⟩) hP hD hS hA (fun r1 u H locs hw1 hP hD hS => ?_)
  refine lv_aload_n hx hb dL_law_1213 rfl (lv_at hl 1 rfl) ?_
  refine lv_aload_n hx hb dL_law_1214 rfl (lv_at hl 3 rfl) ?_
  refine lv_iload_n hx hb dL_law_1215 rfl (lv_at hl 0 rfl) ?_
  refine lv_iconst (v := 1) hx hb dL_law_1216 (by decide) ?_
  refine lv_iadd hx hb dL_law_1217 ?_
  refine z_top (v2 := .int 1) (congrArg Value.int (by decide)) ?_
  refine va_sld hx hb hX hbl hbA hS (show ¬ _ by decide) dL_law_1218 ?_
  refine z_top (v2 := .int (xs 1)) rfl ?_
  refine lv_aload_n hx hb dL_law_1219 rfl (lv_at hl 3 rfl) ?_
  refine lv_iload_n hx hb dL_law_1220 rfl (lv_at hl 0 rfl) ?_
  refine lv_iconst (v := 2) hx hb dL_law_1221 (by decide) ?_
  refine lv_iadd hx hb dL_law_1222 ?_
  refine z_top (v2 := .int 2) (congrArg Value.int (by decide)) ?_
  refine va_sld hx hb hX hbl hbA hS (show ¬ _ by decide) dL_law_1223 ?_
  refine z_top (v2 := .int (xs 2)) rfl ?_
  refine zcA_i (w := (zM k q2 0 1 (fun _ => 0) (fun _ => 0) (fun _ => 0) (fun _ => 0) (fun _ => 0) (fun _ => 0) (fun _ => 0) (fun _ => 0) (fun _ => 0) 12 0 0 0 0 (fun _ => 0) (fun _ => 0) (fun _ => 0) 0 (-1) (fun _ => 0) 0 (fun _ => 0) (fun _ => 0) (fun _ => 0) (fun _ => 0) (fun _ => 0) 0 0 0 0 0 0 (fun _ => 0) 100 (fun _ => 0) (fun _ => 0) (fun _ => 0) (fun _ => 0) (fun _ => 0) 0)) (va_runV (As := [.int (xs 1), .int (xs 2)]) (rest := [.int r1]) ⟨hx, hb, hml, hown, hts⟩ (c_X7_kept l dC dI k (zTX k) q2 0 1 (fun _ => 0) (fun _ => 0) 0 0 0 0 0 0 0 0 0 0 (fun _ => 0) (fun _ => 0) 0 (xs 1) (xs 2) _) (cwV 2 hts (gzV wmt5_90 wmt5_91 wmt5_92 wmt1_8 wmt5_93) rfl rfl rfl (by decide +kernel) ⟨Nat.le_of_ble_eq_true rfl, Nat.le_of_ble_eq_true rfl⟩) (zpA_V (ci := 7) (q0 := 0) hK hP hD rfl rfl) rfl rfl hl.1 rfl (lv_room (Nat.le_of_ble_eq_true rfl)) dL_law_1224 ⟨Nat.le_of_ble_eq_true rfl, Nat.le_of_ble_eq_true rfl⟩) hD hS hA (fun r2 u H locs hw2 hP hD hS => ?_)
  have hrr : r1 = r2 := hw1.trans hw2.symm
  refine lv_icmp_eq (tgt := 1527) hx hb dL_law_1227 (by decide) (fun c_1 => ?_) (fun c_1 => ?_)
  · exact lw_end C0 hS hl
  · exact absurd hrr c_1
set_option maxHeartbeats 4000000 in
set_option maxRecDepth 100000 in
theorem lw_c29 {p : Program} {l : Launch} {e : Env} {s : State} {m : MethodId} {below : List Frame} {meth : Method} {c : Code} {b : Nat} {xs : Nat → Int32} {dC : Nat → ClassId} {dI : Nat → Nat → Nat} {k : Nat → ClassId} {q q2 : Nat → Nat} (C0 : lw_At p s m meth c b 6 xs) (hK : zK dC dI k (zTX k) s) {H : Heap} {locs : List Loc} (hP : va_P (dC, dI) vwCl ((zX k q 0 (-1) 12 100 0 (fun _ => 0) 0 0 (fun _ => 0) (fun _ => 0) (fun _ => 0) (fun _ => 0) (fun _ => 0) (fun _ => 0) (fun _ => 0) 0 0 0 (fun _ => 0) 0 1 232792560 0 0 0 0 0 1 (fun _ => 0) (fun _ => 0) 232792560 0 0 0 0 0 1 (fun _ => 0) (fun _ => 0) 232792560 0 0 0 0 0 1 (fun _ => 0) (fun _ => 0) 232792560 0 0 0 0 0 1 (fun _ => 0) (fun _ => 0) (-1) 0 (fun _ => 0) (-1) 0 (fun _ => 0) (-1) 0 (fun _ => 0) (-1) 0 (fun _ => 0)) ++ (zM k q2 0 1 (fun _ => 0) (fun _ => 0) (fun _ => 0) (fun _ => 0) (fun _ => 0) (fun _ => 0) (fun _ => 0) (fun _ => 0) (fun _ => 0) 12 0 0 0 0 (fun _ => 0) (fun _ => 0) (fun _ => 0) 0 (-1) (fun _ => 0) 0 (fun _ => 0) (fun _ => 0) (fun _ => 0) (fun _ => 0) (fun _ => 0) 0 0 0 0 0 0 (fun _ => 0) 100 (fun _ => 0) (fun _ => 0) (fun _ => 0) (fun _ => 0) (fun _ => 0) 0)) H) (hD : va_D (fun a : Nat => s.heap.size ≤ a) ((zX k q 0 (-1) 12 100 0 (fun _ => 0) 0 0 (fun _ => 0) (fun _ => 0) (fun _ => 0) (fun _ => 0) (fun _ => 0) (fun _ => 0) (fun _ => 0) 0 0 0 (fun _ => 0) 0 1 232792560 0 0 0 0 0 1 (fun _ => 0) (fun _ => 0) 232792560 0 0 0 0 0 1 (fun _ => 0) (fun _ => 0) 232792560 0 0 0 0 0 1 (fun _ => 0) (fun _ => 0) 232792560 0 0 0 0 0 1 (fun _ => 0) (fun _ => 0) (-1) 0 (fun _ => 0) (-1) 0 (fun _ => 0) (-1) 0 (fun _ => 0) (-1) 0 (fun _ => 0)) ++ (zM k q2 0 1 (fun _ => 0) (fun _ => 0) (fun _ => 0) (fun _ => 0) (fun _ => 0) (fun _ => 0) (fun _ => 0) (fun _ => 0) (fun _ => 0) 12 0 0 0 0 (fun _ => 0) (fun _ => 0) (fun _ => 0) 0 (-1) (fun _ => 0) 0 (fun _ => 0) (fun _ => 0) (fun _ => 0) (fun _ => 0) (fun _ => 0) 0 0 0 0 0 0 (fun _ => 0) 100 (fun _ => 0) (fun _ => 0) (fun _ => 0) (fun _ => 0) (fun _ => 0) 0))) (hS : va_S (fun a : Nat => s.heap.size ≤ a) s.heap H locs) {ls : Array Slot} (hl : lv_has ls 4 [(3, .int 0), (2, .ref (q2 0)), (1, .ref (q 0)), (0, .ref b)]) : W p l e room_1 s m #[Value.ref b] below meth c H locs 1000 10000 (lw_Z below #[Value.ref b] s) (F0 m 1232 ls []) := by
  obtain ⟨hx, hb, hr, hml, hown, hts0, hX, hbl, hlocks, hgv⟩ := id C0
  have hts : ∀ w ∈ zw, w.before #[Value.ref b] s = true := fun w h => hts0 w (List.mem_filter.mp h).1
  have hA : ∀ q : Nat, s.heap.size ≤ q → (fun a : Nat => s.heap.size ≤ a) q := fun _ h => h
  have hbA : ¬ (fun a : Nat => s.heap.size ≤ a) b := Nat.not_le.mpr hbl
  refine lv_aload_n hx hb dL_law_1232 rfl (lv_at hl 2 rfl) ?_
  refine lv_aload_n hx hb dL_law_1233 rfl (lv_at hl 3 rfl) ?_
  refine lv_iload_n hx hb dL_law_1234 rfl (lv_at hl 0 rfl) ?_
  refine lv_iconst (v := 1) hx hb dL_law_1235 (by decide) ?_
  refine lv_iadd hx hb dL_law_1236 ?_
  refine z_top (v2 := .int 1) (congrArg Value.int (by decide)) ?_
  refine va_sld hx hb hX hbl hbA hS (show ¬ _ by decide) dL_law_1237 ?_
  refine z_top (v2 := .int (xs 1)) rfl ?_
  refine lv_aload_n hx hb dL_law_1238 rfl (lv_at hl 3 rfl) ?_
  refine lv_iload_n hx hb dL_law_1239 rfl (lv_at hl 0 rfl) ?_
  refine lv_iconst (v := 2) hx hb dL_law_1240 (by decide) ?_
  refine lv_iadd hx hb dL_law_1241 ?_
  refine z_top (v2 := .int 2) (congrArg Value.int (by decide)) ?_
  refine va_sld hx hb hX hbl hbA hS (show ¬ _ by decide) dL_law_1242 ?_
  refine z_top (v2 := .int (xs 2)) rfl ?_
  refine lv_aload_n hx hb dL_law_1243 rfl (lv_at hl 3 rfl) ?_
  refine lv_iload_n hx hb dL_law_1244 rfl (lv_at hl 0 rfl) ?_
  refine lv_iconst (v := 3) hx hb dL_law_1245 (by decide) ?_
  refine lv_iadd hx hb dL_law_1246 ?_
  refine z_top (v2 := .int 3) (congrArg Value.int (by decide)) ?_
  refine va_sld hx hb hX hbl hbA hS (show ¬ _ by decide) dL_law_1247 ?_
  refine z_top (v2 := .int (xs 3)) rfl ?_
  refine zc2_i (wx := (zX k q 0 (-1) 12 100 0 (fun _ => 0) 0 0 (fun _ => 0) (fun _ => 0) (fun _ => 0) (fun _ => 0) (fun _ => 0) (fun _ => 0) (fun _ => 0) 0 0 0 (fun _ => 0) 0 1 232792560 0 0 0 0 0 1 (fun _ => 0) (fun _ => 0) 232792560 0 0 0 0 0 1 (fun _ => 0) (fun _ => 0) 232792560 0 0 0 0 0 1 (fun _ => 0) (fun _ => 0) 232792560 0 0 0 0 0 1 (fun _ => 0) (fun _ => 0) (-1) 0 (fun _ => 0) (-1) 0 (fun _ => 0) (-1) 0 (fun _ => 0) (-1) 0 (fun _ => 0))) (wm := (zM k q2 0 1 (fun _ => 0) (fun _ => 0) (fun _ => 0) (fun _ => 0) (fun _ => 0) (fun _ => 0) (fun _ => 0) (fun _ => 0) (fun _ => 0) 12 0 0 0 0 (fun _ => 0) (fun _ => 0) (fun _ => 0) 0 (-1) (fun _ => 0) 0 (fun _ => 0) (fun _ => 0) (fun _ => 0) (fun _ => 0) (fun _ => 0) 0 0 0 0 0 0 (fun _ => 0) 100 (fun _ => 0) (fun _ => 0) (fun _ => 0) (fun _ => 0) (fun _ => 0) 0)) (va_runV (As := [.int (xs 1), .int (xs 2), .int (xs 3)]) (rest := []) ⟨hx, hb, hml, hown, hts⟩ (c_X6_sheet l dC dI k  q 0 (fun _ => 0) (fun _ => 0) (fun _ => 0) (fun _ => 0) (fun _ => 0) (fun _ => 0) (fun _ => 0) 0 0 0 (fun _ => 0) 0 1 232792560 0 0 0 1 (fun _ => 0) (fun _ => 0) 232792560 0 0 0 1 (fun _ => 0) (fun _ => 0) 232792560 0 0 0 1 (fun _ => 0) (fun _ => 0) 232792560 0 0 0 1 (fun _ => 0) (fun _ => 0) (fun _ => 0) (fun _ => 0) (fun _ => 0) (fun _ => 0) (xs 1) (xs 2) (xs 3) _) (cwV 3 hts (gzV wmt3_85 wmt3_86 wmt3_87 wmt1_1 wmt3_88) rfl rfl rfl (by decide +kernel) ⟨Nat.le_of_ble_eq_true rfl, Nat.le_of_ble_eq_true rfl⟩) (zpA_V (ci := 6) (q0 := 0) hK (z_PL hP) (z_DL hD) rfl rfl) rfl rfl hl.1 rfl (lv_room (Nat.le_of_ble_eq_true rfl)) dL_law_1248 ⟨Nat.le_of_ble_eq_true rfl, Nat.le_of_ble_eq_true rfl⟩) hP hD hS hA (fun r1 u H locs hw1 hP hD hS => ?_)
  refine lv_aload_n hx hb dL_law_1251 rfl (lv_at hl 1 rfl) ?_
  refine lv_aload_n hx hb dL_law_1252 rfl (lv_at hl 3 rfl) ?_
  refine lv_iload_n hx hb dL_law_1253 rfl (lv_at hl 0 rfl) ?_
  refine lv_iconst (v := 1) hx hb dL_law_1254 (by decide) ?_
  refine lv_iadd hx hb dL_law_1255 ?_
  refine z_top (v2 := .int 1) (congrArg Value.int (by decide)) ?_
  refine va_sld hx hb hX hbl hbA hS (show ¬ _ by decide) dL_law_1256 ?_
  refine z_top (v2 := .int (xs 1)) rfl ?_
  refine lv_aload_n hx hb dL_law_1257 rfl (lv_at hl 3 rfl) ?_
  refine lv_iload_n hx hb dL_law_1258 rfl (lv_at hl 0 rfl) ?_
  refine lv_iconst (v := 2) hx hb dL_law_1259 (by decide) ?_
  refine lv_iadd hx hb dL_law_1260 ?_
  refine z_top (v2 := .int 2) (congrArg Value.int (by decide)) ?_
  refine va_sld hx hb hX hbl hbA hS (show ¬ _ by decide) dL_law_1261 ?_
  refine z_top (v2 := .int (xs 2)) rfl ?_
  refine lv_aload_n hx hb dL_law_1262 rfl (lv_at hl 3 rfl) ?_
  refine lv_iload_n hx hb dL_law_1263 rfl (lv_at hl 0 rfl) ?_
  refine lv_iconst (v := 3) hx hb dL_law_1264 (by decide) ?_
  refine lv_iadd hx hb dL_law_1265 ?_
  refine z_top (v2 := .int 3) (congrArg Value.int (by decide)) ?_
  refine va_sld hx hb hX hbl hbA hS (show ¬ _ by decide) dL_law_1266 ?_
  refine z_top (v2 := .int (xs 3)) rfl ?_
  refine zcA_i (w := (zM k q2 0 1 (fun _ => 0) (fun _ => 0) (fun _ => 0) (fun _ => 0) (fun _ => 0) (fun _ => 0) (fun _ => 0) (fun _ => 0) (fun _ => 0) 12 0 0 0 0 (fun _ => 0) (fun _ => 0) (fun _ => 0) 0 (-1) (fun _ => 0) 0 (fun _ => 0) (fun _ => 0) (fun _ => 0) (fun _ => 0) (fun _ => 0) 0 0 0 0 0 0 (fun _ => 0) 100 (fun _ => 0) (fun _ => 0) (fun _ => 0) (fun _ => 0) (fun _ => 0) 0)) (va_runV (As := [.int (xs 1), .int (xs 2), .int (xs 3)]) (rest := [.int r1]) ⟨hx, hb, hml, hown, hts⟩ (c_X7_sheet l dC dI k (zTX k) q2 0 1 (fun _ => 0) (fun _ => 0) 0 0 0 0 0 0 0 0 0 0 (fun _ => 0) (fun _ => 0) 0 (xs 1) (xs 2) (xs 3) _) (cwV 3 hts (gzV wmt5_94 wmt5_95 wmt5_96 wmt1_8 wmt5_97) rfl rfl rfl (by decide +kernel) ⟨Nat.le_of_ble_eq_true rfl, Nat.le_of_ble_eq_true rfl⟩) (zpA_V (ci := 7) (q0 := 0) hK hP hD rfl rfl) rfl rfl hl.1 rfl (lv_room (Nat.le_of_ble_eq_true rfl)) dL_law_1267 ⟨Nat.le_of_ble_eq_true rfl, Nat.le_of_ble_eq_true rfl⟩) hD hS hA (fun r2 u H locs hw2 hP hD hS => ?_)
  have hrr : r1 = r2 := hw1.trans hw2.symm
  refine lv_icmp_eq (tgt := 1527) hx hb dL_law_1270 (by decide) (fun c_1 => ?_) (fun c_1 => ?_)
  · exact lw_end C0 hS hl
  · exact absurd hrr c_1
set_option maxHeartbeats 4000000 in
set_option maxRecDepth 100000 in
theorem lw_c30 {p : Program} {l : Launch} {e : Env} {s : State} {m : MethodId} {below : List Frame} {meth : Method} {c : Code} {b : Nat} {xs : Nat → Int32} {dC : Nat → ClassId} {dI : Nat → Nat → Nat} {k : Nat → ClassId} {q q2 : Nat → Nat} (C0 : lw_At p s m meth c b 6 xs) (hK : zK dC dI k (zTX k) s) {H : Heap} {locs : List Loc} (hP : va_P (dC, dI) vwCl ((zX k q 0 (-1) 12 100 0 (fun _ => 0) 0 0 (fun _ => 0) (fun _ => 0) (fun _ => 0) (fun _ => 0) (fun _ => 0) (fun _ => 0) (fun _ => 0) 0 0 0 (fun _ => 0) 0 1 232792560 0 0 0 0 0 1 (fun _ => 0) (fun _ => 0) 232792560 0 0 0 0 0 1 (fun _ => 0) (fun _ => 0) 232792560 0 0 0 0 0 1 (fun _ => 0) (fun _ => 0) 232792560 0 0 0 0 0 1 (fun _ => 0) (fun _ => 0) (-1) 0 (fun _ => 0) (-1) 0 (fun _ => 0) (-1) 0 (fun _ => 0) (-1) 0 (fun _ => 0)) ++ (zM k q2 0 1 (fun _ => 0) (fun _ => 0) (fun _ => 0) (fun _ => 0) (fun _ => 0) (fun _ => 0) (fun _ => 0) (fun _ => 0) (fun _ => 0) 12 0 0 0 0 (fun _ => 0) (fun _ => 0) (fun _ => 0) 0 (-1) (fun _ => 0) 0 (fun _ => 0) (fun _ => 0) (fun _ => 0) (fun _ => 0) (fun _ => 0) 0 0 0 0 0 0 (fun _ => 0) 100 (fun _ => 0) (fun _ => 0) (fun _ => 0) (fun _ => 0) (fun _ => 0) 0)) H) (hD : va_D (fun a : Nat => s.heap.size ≤ a) ((zX k q 0 (-1) 12 100 0 (fun _ => 0) 0 0 (fun _ => 0) (fun _ => 0) (fun _ => 0) (fun _ => 0) (fun _ => 0) (fun _ => 0) (fun _ => 0) 0 0 0 (fun _ => 0) 0 1 232792560 0 0 0 0 0 1 (fun _ => 0) (fun _ => 0) 232792560 0 0 0 0 0 1 (fun _ => 0) (fun _ => 0) 232792560 0 0 0 0 0 1 (fun _ => 0) (fun _ => 0) 232792560 0 0 0 0 0 1 (fun _ => 0) (fun _ => 0) (-1) 0 (fun _ => 0) (-1) 0 (fun _ => 0) (-1) 0 (fun _ => 0) (-1) 0 (fun _ => 0)) ++ (zM k q2 0 1 (fun _ => 0) (fun _ => 0) (fun _ => 0) (fun _ => 0) (fun _ => 0) (fun _ => 0) (fun _ => 0) (fun _ => 0) (fun _ => 0) 12 0 0 0 0 (fun _ => 0) (fun _ => 0) (fun _ => 0) 0 (-1) (fun _ => 0) 0 (fun _ => 0) (fun _ => 0) (fun _ => 0) (fun _ => 0) (fun _ => 0) 0 0 0 0 0 0 (fun _ => 0) 100 (fun _ => 0) (fun _ => 0) (fun _ => 0) (fun _ => 0) (fun _ => 0) 0))) (hS : va_S (fun a : Nat => s.heap.size ≤ a) s.heap H locs) {ls : Array Slot} (hl : lv_has ls 4 [(3, .int 0), (2, .ref (q2 0)), (1, .ref (q 0)), (0, .ref b)]) : W p l e room_1 s m #[Value.ref b] below meth c H locs 1000 10000 (lw_Z below #[Value.ref b] s) (F0 m 1275 ls []) := by
  obtain ⟨hx, hb, hr, hml, hown, hts0, hX, hbl, hlocks, hgv⟩ := id C0
  have hts : ∀ w ∈ zw, w.before #[Value.ref b] s = true := fun w h => hts0 w (List.mem_filter.mp h).1
  have hA : ∀ q : Nat, s.heap.size ≤ q → (fun a : Nat => s.heap.size ≤ a) q := fun _ h => h
  have hbA : ¬ (fun a : Nat => s.heap.size ≤ a) b := Nat.not_le.mpr hbl
  refine lv_aload_n hx hb dL_law_1275 rfl (lv_at hl 2 rfl) ?_
  refine lv_aload_n hx hb dL_law_1276 rfl (lv_at hl 3 rfl) ?_
  refine lv_iload_n hx hb dL_law_1277 rfl (lv_at hl 0 rfl) ?_
  refine lv_iconst (v := 1) hx hb dL_law_1278 (by decide) ?_
  refine lv_iadd hx hb dL_law_1279 ?_
  refine z_top (v2 := .int 1) (congrArg Value.int (by decide)) ?_
  refine va_sld hx hb hX hbl hbA hS (show ¬ _ by decide) dL_law_1280 ?_
  refine z_top (v2 := .int (xs 1)) rfl ?_
  refine zc2_i (wx := (zX k q 0 (-1) 12 100 0 (fun _ => 0) 0 0 (fun _ => 0) (fun _ => 0) (fun _ => 0) (fun _ => 0) (fun _ => 0) (fun _ => 0) (fun _ => 0) 0 0 0 (fun _ => 0) 0 1 232792560 0 0 0 0 0 1 (fun _ => 0) (fun _ => 0) 232792560 0 0 0 0 0 1 (fun _ => 0) (fun _ => 0) 232792560 0 0 0 0 0 1 (fun _ => 0) (fun _ => 0) 232792560 0 0 0 0 0 1 (fun _ => 0) (fun _ => 0) (-1) 0 (fun _ => 0) (-1) 0 (fun _ => 0) (-1) 0 (fun _ => 0) (-1) 0 (fun _ => 0))) (wm := (zM k q2 0 1 (fun _ => 0) (fun _ => 0) (fun _ => 0) (fun _ => 0) (fun _ => 0) (fun _ => 0) (fun _ => 0) (fun _ => 0) (fun _ => 0) 12 0 0 0 0 (fun _ => 0) (fun _ => 0) (fun _ => 0) 0 (-1) (fun _ => 0) 0 (fun _ => 0) (fun _ => 0) (fun _ => 0) (fun _ => 0) (fun _ => 0) 0 0 0 0 0 0 (fun _ => 0) 100 (fun _ => 0) (fun _ => 0) (fun _ => 0) (fun _ => 0) (fun _ => 0) 0)) (va_runV (As := [.int (xs 1)]) (rest := []) ⟨hx, hb, hml, hown, hts⟩ (c_X6_lose l dC dI k  q 0 (fun _ => 0) (fun _ => 0) (fun _ => 0) (fun _ => 0) (fun _ => 0) (fun _ => 0) (fun _ => 0) 0 0 0 (fun _ => 0) 0 1 232792560 0 0 0 1 (fun _ => 0) (fun _ => 0) 232792560 0 0 0 1 (fun _ => 0) (fun _ => 0) 232792560 0 0 0 1 (fun _ => 0) (fun _ => 0) 232792560 0 0 0 1 (fun _ => 0) (fun _ => 0) (fun _ => 0) (fun _ => 0) (fun _ => 0) (fun _ => 0) (xs 1) _) (cwV 1 hts (gzV wmt3_97 wmt3_98 wmt3_99 wmt1_1 wmt3_100) rfl rfl rfl (by decide +kernel) ⟨Nat.le_of_ble_eq_true rfl, Nat.le_of_ble_eq_true rfl⟩) (zpA_V (ci := 6) (q0 := 0) hK (z_PL hP) (z_DL hD) rfl rfl) rfl rfl hl.1 rfl (lv_room (Nat.le_of_ble_eq_true rfl)) dL_law_1281 ⟨Nat.le_of_ble_eq_true rfl, Nat.le_of_ble_eq_true rfl⟩) hP hD hS hA (fun r1 u H locs hw1 hP hD hS => ?_)
  refine lv_aload_n hx hb dL_law_1284 rfl (lv_at hl 1 rfl) ?_
  refine lv_aload_n hx hb dL_law_1285 rfl (lv_at hl 3 rfl) ?_
  refine lv_iload_n hx hb dL_law_1286 rfl (lv_at hl 0 rfl) ?_
  refine lv_iconst (v := 1) hx hb dL_law_1287 (by decide) ?_
  refine lv_iadd hx hb dL_law_1288 ?_
  refine z_top (v2 := .int 1) (congrArg Value.int (by decide)) ?_
  refine va_sld hx hb hX hbl hbA hS (show ¬ _ by decide) dL_law_1289 ?_
  refine z_top (v2 := .int (xs 1)) rfl ?_
  refine zcA_i (w := (zM k q2 0 1 (fun _ => 0) (fun _ => 0) (fun _ => 0) (fun _ => 0) (fun _ => 0) (fun _ => 0) (fun _ => 0) (fun _ => 0) (fun _ => 0) 12 0 0 0 0 (fun _ => 0) (fun _ => 0) (fun _ => 0) 0 (-1) (fun _ => 0) 0 (fun _ => 0) (fun _ => 0) (fun _ => 0) (fun _ => 0) (fun _ => 0) 0 0 0 0 0 0 (fun _ => 0) 100 (fun _ => 0) (fun _ => 0) (fun _ => 0) (fun _ => 0) (fun _ => 0) 0)) (va_runV (As := [.int (xs 1)]) (rest := [.int r1]) ⟨hx, hb, hml, hown, hts⟩ (c_X7_lose l dC dI k (zTX k) q2 0 1 (fun _ => 0) (fun _ => 0) 0 0 0 0 0 0 0 0 0 0 (fun _ => 0) (fun _ => 0) 0 (xs 1) _) (cwV 1 hts (gzV wmt5_98 wmt5_99 wmt5_100 wmt1_8 wmt5_101) rfl rfl rfl (by decide +kernel) ⟨Nat.le_of_ble_eq_true rfl, Nat.le_of_ble_eq_true rfl⟩) (zpA_V (ci := 7) (q0 := 0) hK hP hD rfl rfl) rfl rfl hl.1 rfl (lv_room (Nat.le_of_ble_eq_true rfl)) dL_law_1290 ⟨Nat.le_of_ble_eq_true rfl, Nat.le_of_ble_eq_true rfl⟩) hD hS hA (fun r2 u H locs hw2 hP hD hS => ?_)
  have hrr : r1 = r2 := hw1.trans hw2.symm
  refine lv_icmp_eq (tgt := 1527) hx hb dL_law_1293 (by decide) (fun c_1 => ?_) (fun c_1 => ?_)
  · exact lw_end C0 hS hl
  · exact absurd hrr c_1
set_option maxHeartbeats 4000000 in
set_option maxRecDepth 100000 in
theorem lw_c31 {p : Program} {l : Launch} {e : Env} {s : State} {m : MethodId} {below : List Frame} {meth : Method} {c : Code} {b : Nat} {xs : Nat → Int32} {dC : Nat → ClassId} {dI : Nat → Nat → Nat} {k : Nat → ClassId} {q q2 : Nat → Nat} (C0 : lw_At p s m meth c b 6 xs) (hK : zK dC dI k (zTX k) s) {H : Heap} {locs : List Loc} (hP : va_P (dC, dI) vwCl ((zX k q 0 (-1) 12 100 0 (fun _ => 0) 0 0 (fun _ => 0) (fun _ => 0) (fun _ => 0) (fun _ => 0) (fun _ => 0) (fun _ => 0) (fun _ => 0) 0 0 0 (fun _ => 0) 0 1 232792560 0 0 0 0 0 1 (fun _ => 0) (fun _ => 0) 232792560 0 0 0 0 0 1 (fun _ => 0) (fun _ => 0) 232792560 0 0 0 0 0 1 (fun _ => 0) (fun _ => 0) 232792560 0 0 0 0 0 1 (fun _ => 0) (fun _ => 0) (-1) 0 (fun _ => 0) (-1) 0 (fun _ => 0) (-1) 0 (fun _ => 0) (-1) 0 (fun _ => 0)) ++ (zM k q2 0 1 (fun _ => 0) (fun _ => 0) (fun _ => 0) (fun _ => 0) (fun _ => 0) (fun _ => 0) (fun _ => 0) (fun _ => 0) (fun _ => 0) 12 0 0 0 0 (fun _ => 0) (fun _ => 0) (fun _ => 0) 0 (-1) (fun _ => 0) 0 (fun _ => 0) (fun _ => 0) (fun _ => 0) (fun _ => 0) (fun _ => 0) 0 0 0 0 0 0 (fun _ => 0) 100 (fun _ => 0) (fun _ => 0) (fun _ => 0) (fun _ => 0) (fun _ => 0) 0)) H) (hD : va_D (fun a : Nat => s.heap.size ≤ a) ((zX k q 0 (-1) 12 100 0 (fun _ => 0) 0 0 (fun _ => 0) (fun _ => 0) (fun _ => 0) (fun _ => 0) (fun _ => 0) (fun _ => 0) (fun _ => 0) 0 0 0 (fun _ => 0) 0 1 232792560 0 0 0 0 0 1 (fun _ => 0) (fun _ => 0) 232792560 0 0 0 0 0 1 (fun _ => 0) (fun _ => 0) 232792560 0 0 0 0 0 1 (fun _ => 0) (fun _ => 0) 232792560 0 0 0 0 0 1 (fun _ => 0) (fun _ => 0) (-1) 0 (fun _ => 0) (-1) 0 (fun _ => 0) (-1) 0 (fun _ => 0) (-1) 0 (fun _ => 0)) ++ (zM k q2 0 1 (fun _ => 0) (fun _ => 0) (fun _ => 0) (fun _ => 0) (fun _ => 0) (fun _ => 0) (fun _ => 0) (fun _ => 0) (fun _ => 0) 12 0 0 0 0 (fun _ => 0) (fun _ => 0) (fun _ => 0) 0 (-1) (fun _ => 0) 0 (fun _ => 0) (fun _ => 0) (fun _ => 0) (fun _ => 0) (fun _ => 0) 0 0 0 0 0 0 (fun _ => 0) 100 (fun _ => 0) (fun _ => 0) (fun _ => 0) (fun _ => 0) (fun _ => 0) 0))) (hS : va_S (fun a : Nat => s.heap.size ≤ a) s.heap H locs) {ls : Array Slot} (hl : lv_has ls 4 [(3, .int 0), (2, .ref (q2 0)), (1, .ref (q 0)), (0, .ref b)]) : W p l e room_1 s m #[Value.ref b] below meth c H locs 1000 10000 (lw_Z below #[Value.ref b] s) (F0 m 1298 ls []) := by
  obtain ⟨hx, hb, hr, hml, hown, hts0, hX, hbl, hlocks, hgv⟩ := id C0
  have hts : ∀ w ∈ zw, w.before #[Value.ref b] s = true := fun w h => hts0 w (List.mem_filter.mp h).1
  have hA : ∀ q : Nat, s.heap.size ≤ q → (fun a : Nat => s.heap.size ≤ a) q := fun _ h => h
  have hbA : ¬ (fun a : Nat => s.heap.size ≤ a) b := Nat.not_le.mpr hbl
  refine lv_aload_n hx hb dL_law_1298 rfl (lv_at hl 2 rfl) ?_
  refine lv_aload_n hx hb dL_law_1299 rfl (lv_at hl 3 rfl) ?_
  refine lv_iload_n hx hb dL_law_1300 rfl (lv_at hl 0 rfl) ?_
  refine lv_iconst (v := 1) hx hb dL_law_1301 (by decide) ?_
  refine lv_iadd hx hb dL_law_1302 ?_
  refine z_top (v2 := .int 1) (congrArg Value.int (by decide)) ?_
  refine va_sld hx hb hX hbl hbA hS (show ¬ _ by decide) dL_law_1303 ?_
  refine z_top (v2 := .int (xs 1)) rfl ?_
  refine lv_aload_n hx hb dL_law_1304 rfl (lv_at hl 3 rfl) ?_
  refine lv_iload_n hx hb dL_law_1305 rfl (lv_at hl 0 rfl) ?_
  refine lv_iconst (v := 2) hx hb dL_law_1306 (by decide) ?_
  refine lv_iadd hx hb dL_law_1307 ?_
  refine z_top (v2 := .int 2) (congrArg Value.int (by decide)) ?_
  refine va_sld hx hb hX hbl hbA hS (show ¬ _ by decide) dL_law_1308 ?_
  refine z_top (v2 := .int (xs 2)) rfl ?_
  refine lv_aload_n hx hb dL_law_1309 rfl (lv_at hl 3 rfl) ?_
  refine lv_iload_n hx hb dL_law_1310 rfl (lv_at hl 0 rfl) ?_
  refine lv_iconst (v := 3) hx hb dL_law_1311 (by decide) ?_
  refine lv_iadd hx hb dL_law_1312 ?_
  refine z_top (v2 := .int 3) (congrArg Value.int (by decide)) ?_
  refine va_sld hx hb hX hbl hbA hS (show ¬ _ by decide) dL_law_1313 ?_
  refine z_top (v2 := .int (xs 3)) rfl ?_
  refine lv_aload_n hx hb dL_law_1314 rfl (lv_at hl 3 rfl) ?_
  refine lv_iload_n hx hb dL_law_1315 rfl (lv_at hl 0 rfl) ?_
  refine lv_iconst (v := 4) hx hb dL_law_1316 (by decide) ?_
  refine lv_iadd hx hb dL_law_1317 ?_
  refine z_top (v2 := .int 4) (congrArg Value.int (by decide)) ?_
  refine va_sld hx hb hX hbl hbA hS (show ¬ _ by decide) dL_law_1318 ?_
  refine z_top (v2 := .int (xs 4)) rfl ?_
  refine zc2_i (wx := (zX k q 0 (-1) 12 100 0 (fun _ => 0) 0 0 (fun _ => 0) (fun _ => 0) (fun _ => 0) (fun _ => 0) (fun _ => 0) (fun _ => 0) (fun _ => 0) 0 0 0 (fun _ => 0) 0 1 232792560 0 0 0 0 0 1 (fun _ => 0) (fun _ => 0) 232792560 0 0 0 0 0 1 (fun _ => 0) (fun _ => 0) 232792560 0 0 0 0 0 1 (fun _ => 0) (fun _ => 0) 232792560 0 0 0 0 0 1 (fun _ => 0) (fun _ => 0) (-1) 0 (fun _ => 0) (-1) 0 (fun _ => 0) (-1) 0 (fun _ => 0) (-1) 0 (fun _ => 0))) (wm := (zM k q2 0 1 (fun _ => 0) (fun _ => 0) (fun _ => 0) (fun _ => 0) (fun _ => 0) (fun _ => 0) (fun _ => 0) (fun _ => 0) (fun _ => 0) 12 0 0 0 0 (fun _ => 0) (fun _ => 0) (fun _ => 0) 0 (-1) (fun _ => 0) 0 (fun _ => 0) (fun _ => 0) (fun _ => 0) (fun _ => 0) (fun _ => 0) 0 0 0 0 0 0 (fun _ => 0) 100 (fun _ => 0) (fun _ => 0) (fun _ => 0) (fun _ => 0) (fun _ => 0) 0)) (va_runV (As := [.int (xs 1), .int (xs 2), .int (xs 3), .int (xs 4)]) (rest := []) ⟨hx, hb, hml, hown, hts⟩ (c_X6_put l dC dI k  q 0 (fun _ => 0) (fun _ => 0) (fun _ => 0) (fun _ => 0) (fun _ => 0) (fun _ => 0) (fun _ => 0) 0 0 0 (fun _ => 0) 0 1 232792560 0 0 0 1 (fun _ => 0) (fun _ => 0) 232792560 0 0 0 1 (fun _ => 0) (fun _ => 0) 232792560 0 0 0 1 (fun _ => 0) (fun _ => 0) 232792560 0 0 0 1 (fun _ => 0) (fun _ => 0) (fun _ => 0) (fun _ => 0) (fun _ => 0) (fun _ => 0) (xs 1) (xs 2) (xs 3) (xs 4) _) (cwV 4 hts (gzV wmt3_105 wmt3_106 wmt3_107 wmt1_1 wmt3_108) rfl rfl rfl (by decide +kernel) ⟨Nat.le_of_ble_eq_true rfl, Nat.le_of_ble_eq_true rfl⟩) (zpA_V (ci := 6) (q0 := 0) hK (z_PL hP) (z_DL hD) rfl rfl) rfl rfl hl.1 rfl (lv_room (Nat.le_of_ble_eq_true rfl)) dL_law_1319 ⟨Nat.le_of_ble_eq_true rfl, Nat.le_of_ble_eq_true rfl⟩) hP hD hS hA (fun r1 u H locs hw1 hP hD hS => ?_)
  refine lv_aload_n hx hb dL_law_1322 rfl (lv_at hl 1 rfl) ?_
  refine lv_aload_n hx hb dL_law_1323 rfl (lv_at hl 3 rfl) ?_
  refine lv_iload_n hx hb dL_law_1324 rfl (lv_at hl 0 rfl) ?_
  refine lv_iconst (v := 1) hx hb dL_law_1325 (by decide) ?_
  refine lv_iadd hx hb dL_law_1326 ?_
  refine z_top (v2 := .int 1) (congrArg Value.int (by decide)) ?_
  refine va_sld hx hb hX hbl hbA hS (show ¬ _ by decide) dL_law_1327 ?_
  refine z_top (v2 := .int (xs 1)) rfl ?_
  refine lv_aload_n hx hb dL_law_1328 rfl (lv_at hl 3 rfl) ?_
  refine lv_iload_n hx hb dL_law_1329 rfl (lv_at hl 0 rfl) ?_
  refine lv_iconst (v := 2) hx hb dL_law_1330 (by decide) ?_
  refine lv_iadd hx hb dL_law_1331 ?_
  refine z_top (v2 := .int 2) (congrArg Value.int (by decide)) ?_
  refine va_sld hx hb hX hbl hbA hS (show ¬ _ by decide) dL_law_1332 ?_
  refine z_top (v2 := .int (xs 2)) rfl ?_
  refine lv_aload_n hx hb dL_law_1333 rfl (lv_at hl 3 rfl) ?_
  refine lv_iload_n hx hb dL_law_1334 rfl (lv_at hl 0 rfl) ?_
  refine lv_iconst (v := 3) hx hb dL_law_1335 (by decide) ?_
  refine lv_iadd hx hb dL_law_1336 ?_
  refine z_top (v2 := .int 3) (congrArg Value.int (by decide)) ?_
  refine va_sld hx hb hX hbl hbA hS (show ¬ _ by decide) dL_law_1337 ?_
  refine z_top (v2 := .int (xs 3)) rfl ?_
  refine lv_aload_n hx hb dL_law_1338 rfl (lv_at hl 3 rfl) ?_
  refine lv_iload_n hx hb dL_law_1339 rfl (lv_at hl 0 rfl) ?_
  refine lv_iconst (v := 4) hx hb dL_law_1340 (by decide) ?_
  refine lv_iadd hx hb dL_law_1341 ?_
  refine z_top (v2 := .int 4) (congrArg Value.int (by decide)) ?_
  refine va_sld hx hb hX hbl hbA hS (show ¬ _ by decide) dL_law_1342 ?_
  refine z_top (v2 := .int (xs 4)) rfl ?_
  refine zcA_i (w := (zM k q2 0 1 (fun _ => 0) (fun _ => 0) (fun _ => 0) (fun _ => 0) (fun _ => 0) (fun _ => 0) (fun _ => 0) (fun _ => 0) (fun _ => 0) 12 0 0 0 0 (fun _ => 0) (fun _ => 0) (fun _ => 0) 0 (-1) (fun _ => 0) 0 (fun _ => 0) (fun _ => 0) (fun _ => 0) (fun _ => 0) (fun _ => 0) 0 0 0 0 0 0 (fun _ => 0) 100 (fun _ => 0) (fun _ => 0) (fun _ => 0) (fun _ => 0) (fun _ => 0) 0)) (va_runV (As := [.int (xs 1), .int (xs 2), .int (xs 3), .int (xs 4)]) (rest := [.int r1]) ⟨hx, hb, hml, hown, hts⟩ (c_X7_put l dC dI k (zTX k) q2 0 1 (fun _ => 0) (fun _ => 0) 0 0 0 0 0 0 0 0 0 0 (fun _ => 0) (fun _ => 0) 0 (xs 1) (xs 2) (xs 3) (xs 4) _) (cwV 4 hts (gzV wmt5_102 wmt5_103 wmt5_104 wmt1_8 wmt5_105) rfl rfl rfl (by decide +kernel) ⟨Nat.le_of_ble_eq_true rfl, Nat.le_of_ble_eq_true rfl⟩) (zpA_V (ci := 7) (q0 := 0) hK hP hD rfl rfl) rfl rfl hl.1 rfl (lv_room (Nat.le_of_ble_eq_true rfl)) dL_law_1343 ⟨Nat.le_of_ble_eq_true rfl, Nat.le_of_ble_eq_true rfl⟩) hD hS hA (fun r2 u H locs hw2 hP hD hS => ?_)
  have hrr : r1 = r2 := hw1.trans hw2.symm
  refine lv_icmp_eq (tgt := 1527) hx hb dL_law_1346 (by decide) (fun c_1 => ?_) (fun c_1 => ?_)
  · exact lw_end C0 hS hl
  · exact absurd hrr c_1
set_option maxHeartbeats 4000000 in
set_option maxRecDepth 100000 in
theorem lw_c32 {p : Program} {l : Launch} {e : Env} {s : State} {m : MethodId} {below : List Frame} {meth : Method} {c : Code} {b : Nat} {xs : Nat → Int32} {dC : Nat → ClassId} {dI : Nat → Nat → Nat} {k : Nat → ClassId} {q q2 : Nat → Nat} (C0 : lw_At p s m meth c b 6 xs) (hK : zK dC dI k (zTX k) s) {H : Heap} {locs : List Loc} (hP : va_P (dC, dI) vwCl ((zX k q 0 (-1) 12 100 0 (fun _ => 0) 0 0 (fun _ => 0) (fun _ => 0) (fun _ => 0) (fun _ => 0) (fun _ => 0) (fun _ => 0) (fun _ => 0) 0 0 0 (fun _ => 0) 0 1 232792560 0 0 0 0 0 1 (fun _ => 0) (fun _ => 0) 232792560 0 0 0 0 0 1 (fun _ => 0) (fun _ => 0) 232792560 0 0 0 0 0 1 (fun _ => 0) (fun _ => 0) 232792560 0 0 0 0 0 1 (fun _ => 0) (fun _ => 0) (-1) 0 (fun _ => 0) (-1) 0 (fun _ => 0) (-1) 0 (fun _ => 0) (-1) 0 (fun _ => 0)) ++ (zM k q2 0 1 (fun _ => 0) (fun _ => 0) (fun _ => 0) (fun _ => 0) (fun _ => 0) (fun _ => 0) (fun _ => 0) (fun _ => 0) (fun _ => 0) 12 0 0 0 0 (fun _ => 0) (fun _ => 0) (fun _ => 0) 0 (-1) (fun _ => 0) 0 (fun _ => 0) (fun _ => 0) (fun _ => 0) (fun _ => 0) (fun _ => 0) 0 0 0 0 0 0 (fun _ => 0) 100 (fun _ => 0) (fun _ => 0) (fun _ => 0) (fun _ => 0) (fun _ => 0) 0)) H) (hD : va_D (fun a : Nat => s.heap.size ≤ a) ((zX k q 0 (-1) 12 100 0 (fun _ => 0) 0 0 (fun _ => 0) (fun _ => 0) (fun _ => 0) (fun _ => 0) (fun _ => 0) (fun _ => 0) (fun _ => 0) 0 0 0 (fun _ => 0) 0 1 232792560 0 0 0 0 0 1 (fun _ => 0) (fun _ => 0) 232792560 0 0 0 0 0 1 (fun _ => 0) (fun _ => 0) 232792560 0 0 0 0 0 1 (fun _ => 0) (fun _ => 0) 232792560 0 0 0 0 0 1 (fun _ => 0) (fun _ => 0) (-1) 0 (fun _ => 0) (-1) 0 (fun _ => 0) (-1) 0 (fun _ => 0) (-1) 0 (fun _ => 0)) ++ (zM k q2 0 1 (fun _ => 0) (fun _ => 0) (fun _ => 0) (fun _ => 0) (fun _ => 0) (fun _ => 0) (fun _ => 0) (fun _ => 0) (fun _ => 0) 12 0 0 0 0 (fun _ => 0) (fun _ => 0) (fun _ => 0) 0 (-1) (fun _ => 0) 0 (fun _ => 0) (fun _ => 0) (fun _ => 0) (fun _ => 0) (fun _ => 0) 0 0 0 0 0 0 (fun _ => 0) 100 (fun _ => 0) (fun _ => 0) (fun _ => 0) (fun _ => 0) (fun _ => 0) 0))) (hS : va_S (fun a : Nat => s.heap.size ≤ a) s.heap H locs) {ls : Array Slot} (hl : lv_has ls 4 [(3, .int 0), (2, .ref (q2 0)), (1, .ref (q 0)), (0, .ref b)]) : W p l e room_1 s m #[Value.ref b] below meth c H locs 1000 10000 (lw_Z below #[Value.ref b] s) (F0 m 1351 ls []) := by
  obtain ⟨hx, hb, hr, hml, hown, hts0, hX, hbl, hlocks, hgv⟩ := id C0
  have hts : ∀ w ∈ zw, w.before #[Value.ref b] s = true := fun w h => hts0 w (List.mem_filter.mp h).1
  have hA : ∀ q : Nat, s.heap.size ≤ q → (fun a : Nat => s.heap.size ≤ a) q := fun _ h => h
  have hbA : ¬ (fun a : Nat => s.heap.size ≤ a) b := Nat.not_le.mpr hbl
  refine lv_aload_n hx hb dL_law_1351 rfl (lv_at hl 2 rfl) ?_
  refine lv_aload_n hx hb dL_law_1352 rfl (lv_at hl 3 rfl) ?_
  refine lv_iload_n hx hb dL_law_1353 rfl (lv_at hl 0 rfl) ?_
  refine lv_iconst (v := 1) hx hb dL_law_1354 (by decide) ?_
  refine lv_iadd hx hb dL_law_1355 ?_
  refine z_top (v2 := .int 1) (congrArg Value.int (by decide)) ?_
  refine va_sld hx hb hX hbl hbA hS (show ¬ _ by decide) dL_law_1356 ?_
  refine z_top (v2 := .int (xs 1)) rfl ?_
  refine lv_aload_n hx hb dL_law_1357 rfl (lv_at hl 3 rfl) ?_
  refine lv_iload_n hx hb dL_law_1358 rfl (lv_at hl 0 rfl) ?_
  refine lv_iconst (v := 2) hx hb dL_law_1359 (by decide) ?_
  refine lv_iadd hx hb dL_law_1360 ?_
  refine z_top (v2 := .int 2) (congrArg Value.int (by decide)) ?_
  refine va_sld hx hb hX hbl hbA hS (show ¬ _ by decide) dL_law_1361 ?_
  refine z_top (v2 := .int (xs 2)) rfl ?_
  refine lv_aload_n hx hb dL_law_1362 rfl (lv_at hl 3 rfl) ?_
  refine lv_iload_n hx hb dL_law_1363 rfl (lv_at hl 0 rfl) ?_
  refine lv_iconst (v := 3) hx hb dL_law_1364 (by decide) ?_
  refine lv_iadd hx hb dL_law_1365 ?_
  refine z_top (v2 := .int 3) (congrArg Value.int (by decide)) ?_
  refine va_sld hx hb hX hbl hbA hS (show ¬ _ by decide) dL_law_1366 ?_
  refine z_top (v2 := .int (xs 3)) rfl ?_
  refine zc2_i (wx := (zX k q 0 (-1) 12 100 0 (fun _ => 0) 0 0 (fun _ => 0) (fun _ => 0) (fun _ => 0) (fun _ => 0) (fun _ => 0) (fun _ => 0) (fun _ => 0) 0 0 0 (fun _ => 0) 0 1 232792560 0 0 0 0 0 1 (fun _ => 0) (fun _ => 0) 232792560 0 0 0 0 0 1 (fun _ => 0) (fun _ => 0) 232792560 0 0 0 0 0 1 (fun _ => 0) (fun _ => 0) 232792560 0 0 0 0 0 1 (fun _ => 0) (fun _ => 0) (-1) 0 (fun _ => 0) (-1) 0 (fun _ => 0) (-1) 0 (fun _ => 0) (-1) 0 (fun _ => 0))) (wm := (zM k q2 0 1 (fun _ => 0) (fun _ => 0) (fun _ => 0) (fun _ => 0) (fun _ => 0) (fun _ => 0) (fun _ => 0) (fun _ => 0) (fun _ => 0) 12 0 0 0 0 (fun _ => 0) (fun _ => 0) (fun _ => 0) 0 (-1) (fun _ => 0) 0 (fun _ => 0) (fun _ => 0) (fun _ => 0) (fun _ => 0) (fun _ => 0) 0 0 0 0 0 0 (fun _ => 0) 100 (fun _ => 0) (fun _ => 0) (fun _ => 0) (fun _ => 0) (fun _ => 0) 0)) (va_runV (As := [.int (xs 1), .int (xs 2), .int (xs 3)]) (rest := []) ⟨hx, hb, hml, hown, hts⟩ (c_X6_get l dC dI k  q 0 (fun _ => 0) (fun _ => 0) (fun _ => 0) (fun _ => 0) (fun _ => 0) (fun _ => 0) (fun _ => 0) 0 0 0 (fun _ => 0) 0 1 232792560 0 0 0 1 (fun _ => 0) (fun _ => 0) 232792560 0 0 0 1 (fun _ => 0) (fun _ => 0) 232792560 0 0 0 1 (fun _ => 0) (fun _ => 0) 232792560 0 0 0 1 (fun _ => 0) (fun _ => 0) (fun _ => 0) (fun _ => 0) (fun _ => 0) (fun _ => 0) (xs 1) (xs 2) (xs 3) _) (cwV 3 hts (gzV wmt3_120 wmt3_121 wmt3_122 wmt1_1 wmt3_123) rfl rfl rfl (by decide +kernel) ⟨Nat.le_of_ble_eq_true rfl, Nat.le_of_ble_eq_true rfl⟩) (zpA_V (ci := 6) (q0 := 0) hK (z_PL hP) (z_DL hD) rfl rfl) rfl rfl hl.1 rfl (lv_room (Nat.le_of_ble_eq_true rfl)) dL_law_1367 ⟨Nat.le_of_ble_eq_true rfl, Nat.le_of_ble_eq_true rfl⟩) hP hD hS hA (fun r1 u H locs hw1 hP hD hS => ?_)
  refine lv_aload_n hx hb dL_law_1370 rfl (lv_at hl 1 rfl) ?_
  refine lv_aload_n hx hb dL_law_1371 rfl (lv_at hl 3 rfl) ?_
  refine lv_iload_n hx hb dL_law_1372 rfl (lv_at hl 0 rfl) ?_
  refine lv_iconst (v := 1) hx hb dL_law_1373 (by decide) ?_
  refine lv_iadd hx hb dL_law_1374 ?_
  refine z_top (v2 := .int 1) (congrArg Value.int (by decide)) ?_
  refine va_sld hx hb hX hbl hbA hS (show ¬ _ by decide) dL_law_1375 ?_
  refine z_top (v2 := .int (xs 1)) rfl ?_
  refine lv_aload_n hx hb dL_law_1376 rfl (lv_at hl 3 rfl) ?_
  refine lv_iload_n hx hb dL_law_1377 rfl (lv_at hl 0 rfl) ?_
  refine lv_iconst (v := 2) hx hb dL_law_1378 (by decide) ?_
  refine lv_iadd hx hb dL_law_1379 ?_
  refine z_top (v2 := .int 2) (congrArg Value.int (by decide)) ?_
  refine va_sld hx hb hX hbl hbA hS (show ¬ _ by decide) dL_law_1380 ?_
  refine z_top (v2 := .int (xs 2)) rfl ?_
  refine lv_aload_n hx hb dL_law_1381 rfl (lv_at hl 3 rfl) ?_
  refine lv_iload_n hx hb dL_law_1382 rfl (lv_at hl 0 rfl) ?_
  refine lv_iconst (v := 3) hx hb dL_law_1383 (by decide) ?_
  refine lv_iadd hx hb dL_law_1384 ?_
  refine z_top (v2 := .int 3) (congrArg Value.int (by decide)) ?_
  refine va_sld hx hb hX hbl hbA hS (show ¬ _ by decide) dL_law_1385 ?_
  refine z_top (v2 := .int (xs 3)) rfl ?_
  refine zcA_i (w := (zM k q2 0 1 (fun _ => 0) (fun _ => 0) (fun _ => 0) (fun _ => 0) (fun _ => 0) (fun _ => 0) (fun _ => 0) (fun _ => 0) (fun _ => 0) 12 0 0 0 0 (fun _ => 0) (fun _ => 0) (fun _ => 0) 0 (-1) (fun _ => 0) 0 (fun _ => 0) (fun _ => 0) (fun _ => 0) (fun _ => 0) (fun _ => 0) 0 0 0 0 0 0 (fun _ => 0) 100 (fun _ => 0) (fun _ => 0) (fun _ => 0) (fun _ => 0) (fun _ => 0) 0)) (va_runV (As := [.int (xs 1), .int (xs 2), .int (xs 3)]) (rest := [.int r1]) ⟨hx, hb, hml, hown, hts⟩ (c_X7_get l dC dI k (zTX k) q2 0 1 (fun _ => 0) (fun _ => 0) 0 0 0 0 0 0 0 0 0 0 (fun _ => 0) (fun _ => 0) 0 (xs 1) (xs 2) (xs 3) _) (cwV 3 hts (gzV wmt5_114 wmt5_115 wmt5_116 wmt1_8 wmt5_117) rfl rfl rfl (by decide +kernel) ⟨Nat.le_of_ble_eq_true rfl, Nat.le_of_ble_eq_true rfl⟩) (zpA_V (ci := 7) (q0 := 0) hK hP hD rfl rfl) rfl rfl hl.1 rfl (lv_room (Nat.le_of_ble_eq_true rfl)) dL_law_1386 ⟨Nat.le_of_ble_eq_true rfl, Nat.le_of_ble_eq_true rfl⟩) hD hS hA (fun r2 u H locs hw2 hP hD hS => ?_)
  have hrr : r1 = r2 := hw1.trans hw2.symm
  refine lv_icmp_eq (tgt := 1527) hx hb dL_law_1389 (by decide) (fun c_1 => ?_) (fun c_1 => ?_)
  · exact lw_end C0 hS hl
  · exact absurd hrr c_1
set_option maxHeartbeats 4000000 in
set_option maxRecDepth 100000 in
theorem lw_c33 {p : Program} {l : Launch} {e : Env} {s : State} {m : MethodId} {below : List Frame} {meth : Method} {c : Code} {b : Nat} {xs : Nat → Int32} {dC : Nat → ClassId} {dI : Nat → Nat → Nat} {k : Nat → ClassId} {q q2 : Nat → Nat} (C0 : lw_At p s m meth c b 6 xs) (hK : zK dC dI k (zTX k) s) {H : Heap} {locs : List Loc} (hP : va_P (dC, dI) vwCl ((zX k q 0 (-1) 12 100 0 (fun _ => 0) 0 0 (fun _ => 0) (fun _ => 0) (fun _ => 0) (fun _ => 0) (fun _ => 0) (fun _ => 0) (fun _ => 0) 0 0 0 (fun _ => 0) 0 1 232792560 0 0 0 0 0 1 (fun _ => 0) (fun _ => 0) 232792560 0 0 0 0 0 1 (fun _ => 0) (fun _ => 0) 232792560 0 0 0 0 0 1 (fun _ => 0) (fun _ => 0) 232792560 0 0 0 0 0 1 (fun _ => 0) (fun _ => 0) (-1) 0 (fun _ => 0) (-1) 0 (fun _ => 0) (-1) 0 (fun _ => 0) (-1) 0 (fun _ => 0)) ++ (zM k q2 0 1 (fun _ => 0) (fun _ => 0) (fun _ => 0) (fun _ => 0) (fun _ => 0) (fun _ => 0) (fun _ => 0) (fun _ => 0) (fun _ => 0) 12 0 0 0 0 (fun _ => 0) (fun _ => 0) (fun _ => 0) 0 (-1) (fun _ => 0) 0 (fun _ => 0) (fun _ => 0) (fun _ => 0) (fun _ => 0) (fun _ => 0) 0 0 0 0 0 0 (fun _ => 0) 100 (fun _ => 0) (fun _ => 0) (fun _ => 0) (fun _ => 0) (fun _ => 0) 0)) H) (hD : va_D (fun a : Nat => s.heap.size ≤ a) ((zX k q 0 (-1) 12 100 0 (fun _ => 0) 0 0 (fun _ => 0) (fun _ => 0) (fun _ => 0) (fun _ => 0) (fun _ => 0) (fun _ => 0) (fun _ => 0) 0 0 0 (fun _ => 0) 0 1 232792560 0 0 0 0 0 1 (fun _ => 0) (fun _ => 0) 232792560 0 0 0 0 0 1 (fun _ => 0) (fun _ => 0) 232792560 0 0 0 0 0 1 (fun _ => 0) (fun _ => 0) 232792560 0 0 0 0 0 1 (fun _ => 0) (fun _ => 0) (-1) 0 (fun _ => 0) (-1) 0 (fun _ => 0) (-1) 0 (fun _ => 0) (-1) 0 (fun _ => 0)) ++ (zM k q2 0 1 (fun _ => 0) (fun _ => 0) (fun _ => 0) (fun _ => 0) (fun _ => 0) (fun _ => 0) (fun _ => 0) (fun _ => 0) (fun _ => 0) 12 0 0 0 0 (fun _ => 0) (fun _ => 0) (fun _ => 0) 0 (-1) (fun _ => 0) 0 (fun _ => 0) (fun _ => 0) (fun _ => 0) (fun _ => 0) (fun _ => 0) 0 0 0 0 0 0 (fun _ => 0) 100 (fun _ => 0) (fun _ => 0) (fun _ => 0) (fun _ => 0) (fun _ => 0) 0))) (hS : va_S (fun a : Nat => s.heap.size ≤ a) s.heap H locs) {ls : Array Slot} (hl : lv_has ls 4 [(3, .int 0), (2, .ref (q2 0)), (1, .ref (q 0)), (0, .ref b)]) : W p l e room_1 s m #[Value.ref b] below meth c H locs 1000 10000 (lw_Z below #[Value.ref b] s) (F0 m 1394 ls []) := by
  obtain ⟨hx, hb, hr, hml, hown, hts0, hX, hbl, hlocks, hgv⟩ := id C0
  have hts : ∀ w ∈ zw, w.before #[Value.ref b] s = true := fun w h => hts0 w (List.mem_filter.mp h).1
  have hA : ∀ q : Nat, s.heap.size ≤ q → (fun a : Nat => s.heap.size ≤ a) q := fun _ h => h
  have hbA : ¬ (fun a : Nat => s.heap.size ≤ a) b := Nat.not_le.mpr hbl
  refine lv_aload_n hx hb dL_law_1394 rfl (lv_at hl 2 rfl) ?_
  refine lv_aload_n hx hb dL_law_1395 rfl (lv_at hl 3 rfl) ?_
  refine lv_iload_n hx hb dL_law_1396 rfl (lv_at hl 0 rfl) ?_
  refine lv_iconst (v := 1) hx hb dL_law_1397 (by decide) ?_
  refine lv_iadd hx hb dL_law_1398 ?_
  refine z_top (v2 := .int 1) (congrArg Value.int (by decide)) ?_
  refine va_sld hx hb hX hbl hbA hS (show ¬ _ by decide) dL_law_1399 ?_
  refine z_top (v2 := .int (xs 1)) rfl ?_
  refine lv_aload_n hx hb dL_law_1400 rfl (lv_at hl 3 rfl) ?_
  refine lv_iload_n hx hb dL_law_1401 rfl (lv_at hl 0 rfl) ?_
  refine lv_iconst (v := 2) hx hb dL_law_1402 (by decide) ?_
  refine lv_iadd hx hb dL_law_1403 ?_
  refine z_top (v2 := .int 2) (congrArg Value.int (by decide)) ?_
  refine va_sld hx hb hX hbl hbA hS (show ¬ _ by decide) dL_law_1404 ?_
  refine z_top (v2 := .int (xs 2)) rfl ?_
  refine lv_aload_n hx hb dL_law_1405 rfl (lv_at hl 3 rfl) ?_
  refine lv_iload_n hx hb dL_law_1406 rfl (lv_at hl 0 rfl) ?_
  refine lv_iconst (v := 3) hx hb dL_law_1407 (by decide) ?_
  refine lv_iadd hx hb dL_law_1408 ?_
  refine z_top (v2 := .int 3) (congrArg Value.int (by decide)) ?_
  refine va_sld hx hb hX hbl hbA hS (show ¬ _ by decide) dL_law_1409 ?_
  refine z_top (v2 := .int (xs 3)) rfl ?_
  refine lv_aload_n hx hb dL_law_1410 rfl (lv_at hl 3 rfl) ?_
  refine lv_iload_n hx hb dL_law_1411 rfl (lv_at hl 0 rfl) ?_
  refine lv_iconst (v := 4) hx hb dL_law_1412 (by decide) ?_
  refine lv_iadd hx hb dL_law_1413 ?_
  refine z_top (v2 := .int 4) (congrArg Value.int (by decide)) ?_
  refine va_sld hx hb hX hbl hbA hS (show ¬ _ by decide) dL_law_1414 ?_
  refine z_top (v2 := .int (xs 4)) rfl ?_
  refine lv_aload_n hx hb dL_law_1415 rfl (lv_at hl 3 rfl) ?_
  refine lv_iload_n hx hb dL_law_1416 rfl (lv_at hl 0 rfl) ?_
  refine lv_iconst (v := 5) hx hb dL_law_1417 (by decide) ?_
  refine lv_iadd hx hb dL_law_1418 ?_
  refine z_top (v2 := .int 5) (congrArg Value.int (by decide)) ?_
  refine va_sld hx hb hX hbl hbA hS (show ¬ _ by decide) dL_law_1419 ?_
  refine z_top (v2 := .int (xs 5)) rfl ?_
  refine zc2_i (wx := (zX k q 0 (-1) 12 100 0 (fun _ => 0) 0 0 (fun _ => 0) (fun _ => 0) (fun _ => 0) (fun _ => 0) (fun _ => 0) (fun _ => 0) (fun _ => 0) 0 0 0 (fun _ => 0) 0 1 232792560 0 0 0 0 0 1 (fun _ => 0) (fun _ => 0) 232792560 0 0 0 0 0 1 (fun _ => 0) (fun _ => 0) 232792560 0 0 0 0 0 1 (fun _ => 0) (fun _ => 0) 232792560 0 0 0 0 0 1 (fun _ => 0) (fun _ => 0) (-1) 0 (fun _ => 0) (-1) 0 (fun _ => 0) (-1) 0 (fun _ => 0) (-1) 0 (fun _ => 0))) (wm := (zM k q2 0 1 (fun _ => 0) (fun _ => 0) (fun _ => 0) (fun _ => 0) (fun _ => 0) (fun _ => 0) (fun _ => 0) (fun _ => 0) (fun _ => 0) 12 0 0 0 0 (fun _ => 0) (fun _ => 0) (fun _ => 0) 0 (-1) (fun _ => 0) 0 (fun _ => 0) (fun _ => 0) (fun _ => 0) (fun _ => 0) (fun _ => 0) 0 0 0 0 0 0 (fun _ => 0) 100 (fun _ => 0) (fun _ => 0) (fun _ => 0) (fun _ => 0) (fun _ => 0) 0)) (va_runV (As := [.int (xs 1), .int (xs 2), .int (xs 3), .int (xs 4), .int (xs 5)]) (rest := []) ⟨hx, hb, hml, hown, hts⟩ (c_X6_copy l dC dI k  q 0 (fun _ => 0) (fun _ => 0) (fun _ => 0) (fun _ => 0) (fun _ => 0) (fun _ => 0) (fun _ => 0) 0 0 0 (fun _ => 0) 0 1 232792560 0 0 0 1 (fun _ => 0) (fun _ => 0) 232792560 0 0 0 1 (fun _ => 0) (fun _ => 0) 232792560 0 0 0 1 (fun _ => 0) (fun _ => 0) 232792560 0 0 0 1 (fun _ => 0) (fun _ => 0) (fun _ => 0) (fun _ => 0) (fun _ => 0) (fun _ => 0) (xs 1) (xs 2) (xs 3) (xs 4) (xs 5) _) (cwV 5 hts (gzV wmt3_125 wmt3_126 wmt3_127 wmt1_1 wmt3_128) rfl rfl rfl (by decide +kernel) ⟨Nat.le_of_ble_eq_true rfl, Nat.le_of_ble_eq_true rfl⟩) (zpA_V (ci := 6) (q0 := 0) hK (z_PL hP) (z_DL hD) rfl rfl) rfl rfl hl.1 rfl (lv_room (Nat.le_of_ble_eq_true rfl)) dL_law_1420 ⟨Nat.le_of_ble_eq_true rfl, Nat.le_of_ble_eq_true rfl⟩) hP hD hS hA (fun r1 u H locs hw1 hP hD hS => ?_)
  refine lv_aload_n hx hb dL_law_1423 rfl (lv_at hl 1 rfl) ?_
  refine lv_aload_n hx hb dL_law_1424 rfl (lv_at hl 3 rfl) ?_
  refine lv_iload_n hx hb dL_law_1425 rfl (lv_at hl 0 rfl) ?_
  refine lv_iconst (v := 1) hx hb dL_law_1426 (by decide) ?_
  refine lv_iadd hx hb dL_law_1427 ?_
  refine z_top (v2 := .int 1) (congrArg Value.int (by decide)) ?_
  refine va_sld hx hb hX hbl hbA hS (show ¬ _ by decide) dL_law_1428 ?_
  refine z_top (v2 := .int (xs 1)) rfl ?_
  refine lv_aload_n hx hb dL_law_1429 rfl (lv_at hl 3 rfl) ?_
  refine lv_iload_n hx hb dL_law_1430 rfl (lv_at hl 0 rfl) ?_
  refine lv_iconst (v := 2) hx hb dL_law_1431 (by decide) ?_
  refine lv_iadd hx hb dL_law_1432 ?_
  refine z_top (v2 := .int 2) (congrArg Value.int (by decide)) ?_
  refine va_sld hx hb hX hbl hbA hS (show ¬ _ by decide) dL_law_1433 ?_
  refine z_top (v2 := .int (xs 2)) rfl ?_
  refine lv_aload_n hx hb dL_law_1434 rfl (lv_at hl 3 rfl) ?_
  refine lv_iload_n hx hb dL_law_1435 rfl (lv_at hl 0 rfl) ?_
  refine lv_iconst (v := 3) hx hb dL_law_1436 (by decide) ?_
  refine lv_iadd hx hb dL_law_1437 ?_
  refine z_top (v2 := .int 3) (congrArg Value.int (by decide)) ?_
  refine va_sld hx hb hX hbl hbA hS (show ¬ _ by decide) dL_law_1438 ?_
  refine z_top (v2 := .int (xs 3)) rfl ?_
  refine lv_aload_n hx hb dL_law_1439 rfl (lv_at hl 3 rfl) ?_
  refine lv_iload_n hx hb dL_law_1440 rfl (lv_at hl 0 rfl) ?_
  refine lv_iconst (v := 4) hx hb dL_law_1441 (by decide) ?_
  refine lv_iadd hx hb dL_law_1442 ?_
  refine z_top (v2 := .int 4) (congrArg Value.int (by decide)) ?_
  refine va_sld hx hb hX hbl hbA hS (show ¬ _ by decide) dL_law_1443 ?_
  refine z_top (v2 := .int (xs 4)) rfl ?_
  refine lv_aload_n hx hb dL_law_1444 rfl (lv_at hl 3 rfl) ?_
  refine lv_iload_n hx hb dL_law_1445 rfl (lv_at hl 0 rfl) ?_
  refine lv_iconst (v := 5) hx hb dL_law_1446 (by decide) ?_
  refine lv_iadd hx hb dL_law_1447 ?_
  refine z_top (v2 := .int 5) (congrArg Value.int (by decide)) ?_
  refine va_sld hx hb hX hbl hbA hS (show ¬ _ by decide) dL_law_1448 ?_
  refine z_top (v2 := .int (xs 5)) rfl ?_
  refine zcA_i (w := (zM k q2 0 1 (fun _ => 0) (fun _ => 0) (fun _ => 0) (fun _ => 0) (fun _ => 0) (fun _ => 0) (fun _ => 0) (fun _ => 0) (fun _ => 0) 12 0 0 0 0 (fun _ => 0) (fun _ => 0) (fun _ => 0) 0 (-1) (fun _ => 0) 0 (fun _ => 0) (fun _ => 0) (fun _ => 0) (fun _ => 0) (fun _ => 0) 0 0 0 0 0 0 (fun _ => 0) 100 (fun _ => 0) (fun _ => 0) (fun _ => 0) (fun _ => 0) (fun _ => 0) 0)) (va_runV (As := [.int (xs 1), .int (xs 2), .int (xs 3), .int (xs 4), .int (xs 5)]) (rest := [.int r1]) ⟨hx, hb, hml, hown, hts⟩ (c_X7_copy l dC dI k (zTX k) q2 0 1 (fun _ => 0) (fun _ => 0) 0 0 0 0 0 0 0 0 0 0 (fun _ => 0) (fun _ => 0) 0 (xs 1) (xs 2) (xs 3) (xs 4) (xs 5) _) (cwV 5 hts (gzV wmt5_119 wmt5_120 wmt5_121 wmt1_8 wmt5_122) rfl rfl rfl (by decide +kernel) ⟨Nat.le_of_ble_eq_true rfl, Nat.le_of_ble_eq_true rfl⟩) (zpA_V (ci := 7) (q0 := 0) hK hP hD rfl rfl) rfl rfl hl.1 rfl (lv_room (Nat.le_of_ble_eq_true rfl)) dL_law_1449 ⟨Nat.le_of_ble_eq_true rfl, Nat.le_of_ble_eq_true rfl⟩) hD hS hA (fun r2 u H locs hw2 hP hD hS => ?_)
  have hrr : r1 = r2 := hw1.trans hw2.symm
  refine lv_icmp_eq (tgt := 1527) hx hb dL_law_1452 (by decide) (fun c_1 => ?_) (fun c_1 => ?_)
  · exact lw_end C0 hS hl
  · exact absurd hrr c_1
set_option maxHeartbeats 4000000 in
set_option maxRecDepth 100000 in
theorem lw_c34 {p : Program} {l : Launch} {e : Env} {s : State} {m : MethodId} {below : List Frame} {meth : Method} {c : Code} {b : Nat} {xs : Nat → Int32} {dC : Nat → ClassId} {dI : Nat → Nat → Nat} {k : Nat → ClassId} {q q2 : Nat → Nat} (C0 : lw_At p s m meth c b 6 xs) (hK : zK dC dI k (zTX k) s) {H : Heap} {locs : List Loc} (hP : va_P (dC, dI) vwCl ((zX k q 0 (-1) 12 100 0 (fun _ => 0) 0 0 (fun _ => 0) (fun _ => 0) (fun _ => 0) (fun _ => 0) (fun _ => 0) (fun _ => 0) (fun _ => 0) 0 0 0 (fun _ => 0) 0 1 232792560 0 0 0 0 0 1 (fun _ => 0) (fun _ => 0) 232792560 0 0 0 0 0 1 (fun _ => 0) (fun _ => 0) 232792560 0 0 0 0 0 1 (fun _ => 0) (fun _ => 0) 232792560 0 0 0 0 0 1 (fun _ => 0) (fun _ => 0) (-1) 0 (fun _ => 0) (-1) 0 (fun _ => 0) (-1) 0 (fun _ => 0) (-1) 0 (fun _ => 0)) ++ (zM k q2 0 1 (fun _ => 0) (fun _ => 0) (fun _ => 0) (fun _ => 0) (fun _ => 0) (fun _ => 0) (fun _ => 0) (fun _ => 0) (fun _ => 0) 12 0 0 0 0 (fun _ => 0) (fun _ => 0) (fun _ => 0) 0 (-1) (fun _ => 0) 0 (fun _ => 0) (fun _ => 0) (fun _ => 0) (fun _ => 0) (fun _ => 0) 0 0 0 0 0 0 (fun _ => 0) 100 (fun _ => 0) (fun _ => 0) (fun _ => 0) (fun _ => 0) (fun _ => 0) 0)) H) (hD : va_D (fun a : Nat => s.heap.size ≤ a) ((zX k q 0 (-1) 12 100 0 (fun _ => 0) 0 0 (fun _ => 0) (fun _ => 0) (fun _ => 0) (fun _ => 0) (fun _ => 0) (fun _ => 0) (fun _ => 0) 0 0 0 (fun _ => 0) 0 1 232792560 0 0 0 0 0 1 (fun _ => 0) (fun _ => 0) 232792560 0 0 0 0 0 1 (fun _ => 0) (fun _ => 0) 232792560 0 0 0 0 0 1 (fun _ => 0) (fun _ => 0) 232792560 0 0 0 0 0 1 (fun _ => 0) (fun _ => 0) (-1) 0 (fun _ => 0) (-1) 0 (fun _ => 0) (-1) 0 (fun _ => 0) (-1) 0 (fun _ => 0)) ++ (zM k q2 0 1 (fun _ => 0) (fun _ => 0) (fun _ => 0) (fun _ => 0) (fun _ => 0) (fun _ => 0) (fun _ => 0) (fun _ => 0) (fun _ => 0) 12 0 0 0 0 (fun _ => 0) (fun _ => 0) (fun _ => 0) 0 (-1) (fun _ => 0) 0 (fun _ => 0) (fun _ => 0) (fun _ => 0) (fun _ => 0) (fun _ => 0) 0 0 0 0 0 0 (fun _ => 0) 100 (fun _ => 0) (fun _ => 0) (fun _ => 0) (fun _ => 0) (fun _ => 0) 0))) (hS : va_S (fun a : Nat => s.heap.size ≤ a) s.heap H locs) {ls : Array Slot} (hl : lv_has ls 4 [(3, .int 0), (2, .ref (q2 0)), (1, .ref (q 0)), (0, .ref b)]) : W p l e room_1 s m #[Value.ref b] below meth c H locs 1000 10000 (lw_Z below #[Value.ref b] s) (F0 m 1457 ls []) := by
  obtain ⟨hx, hb, hr, hml, hown, hts0, hX, hbl, hlocks, hgv⟩ := id C0
  have hts : ∀ w ∈ zw, w.before #[Value.ref b] s = true := fun w h => hts0 w (List.mem_filter.mp h).1
  have hA : ∀ q : Nat, s.heap.size ≤ q → (fun a : Nat => s.heap.size ≤ a) q := fun _ h => h
  have hbA : ¬ (fun a : Nat => s.heap.size ≤ a) b := Nat.not_le.mpr hbl
  refine lv_aload_n hx hb dL_law_1457 rfl (lv_at hl 2 rfl) ?_
  refine lv_aload_n hx hb dL_law_1458 rfl (lv_at hl 3 rfl) ?_
  refine lv_iload_n hx hb dL_law_1459 rfl (lv_at hl 0 rfl) ?_
  refine lv_iconst (v := 1) hx hb dL_law_1460 (by decide) ?_
  refine lv_iadd hx hb dL_law_1461 ?_
  refine z_top (v2 := .int 1) (congrArg Value.int (by decide)) ?_
  refine va_sld hx hb hX hbl hbA hS (show ¬ _ by decide) dL_law_1462 ?_
  refine z_top (v2 := .int (xs 1)) rfl ?_
  refine lv_aload_n hx hb dL_law_1463 rfl (lv_at hl 3 rfl) ?_
  refine lv_iload_n hx hb dL_law_1464 rfl (lv_at hl 0 rfl) ?_
  refine lv_iconst (v := 2) hx hb dL_law_1465 (by decide) ?_
  refine lv_iadd hx hb dL_law_1466 ?_
  refine z_top (v2 := .int 2) (congrArg Value.int (by decide)) ?_
  refine va_sld hx hb hX hbl hbA hS (show ¬ _ by decide) dL_law_1467 ?_
  refine z_top (v2 := .int (xs 2)) rfl ?_
  refine zc2_i (wx := (zX k q 0 (-1) 12 100 0 (fun _ => 0) 0 0 (fun _ => 0) (fun _ => 0) (fun _ => 0) (fun _ => 0) (fun _ => 0) (fun _ => 0) (fun _ => 0) 0 0 0 (fun _ => 0) 0 1 232792560 0 0 0 0 0 1 (fun _ => 0) (fun _ => 0) 232792560 0 0 0 0 0 1 (fun _ => 0) (fun _ => 0) 232792560 0 0 0 0 0 1 (fun _ => 0) (fun _ => 0) 232792560 0 0 0 0 0 1 (fun _ => 0) (fun _ => 0) (-1) 0 (fun _ => 0) (-1) 0 (fun _ => 0) (-1) 0 (fun _ => 0) (-1) 0 (fun _ => 0))) (wm := (zM k q2 0 1 (fun _ => 0) (fun _ => 0) (fun _ => 0) (fun _ => 0) (fun _ => 0) (fun _ => 0) (fun _ => 0) (fun _ => 0) (fun _ => 0) 12 0 0 0 0 (fun _ => 0) (fun _ => 0) (fun _ => 0) 0 (-1) (fun _ => 0) 0 (fun _ => 0) (fun _ => 0) (fun _ => 0) (fun _ => 0) (fun _ => 0) 0 0 0 0 0 0 (fun _ => 0) 100 (fun _ => 0) (fun _ => 0) (fun _ => 0) (fun _ => 0) (fun _ => 0) 0)) (va_runV (As := [.int (xs 1), .int (xs 2)]) (rest := []) ⟨hx, hb, hml, hown, hts⟩ (c_X6_write l dC dI k  q 0 (fun _ => 0) (fun _ => 0) (fun _ => 0) (fun _ => 0) (fun _ => 0) (fun _ => 0) (fun _ => 0) 0 0 0 (fun _ => 0) 0 1 232792560 0 0 0 1 (fun _ => 0) (fun _ => 0) 232792560 0 0 0 1 (fun _ => 0) (fun _ => 0) 232792560 0 0 0 1 (fun _ => 0) (fun _ => 0) 232792560 0 0 0 1 (fun _ => 0) (fun _ => 0) (fun _ => 0) (fun _ => 0) (fun _ => 0) (fun _ => 0) (xs 1) (xs 2) _) (cwV 2 hts (gzV wmt3_132 wmt3_133 wmt3_134 wmt1_1 wmt3_135) rfl rfl rfl (by decide +kernel) ⟨Nat.le_of_ble_eq_true rfl, Nat.le_of_ble_eq_true rfl⟩) (zpA_V (ci := 6) (q0 := 0) hK (z_PL hP) (z_DL hD) rfl rfl) rfl rfl hl.1 rfl (lv_room (Nat.le_of_ble_eq_true rfl)) dL_law_1468 ⟨Nat.le_of_ble_eq_true rfl, Nat.le_of_ble_eq_true rfl⟩) hP hD hS hA (fun r1 u H locs hw1 hP hD hS => ?_)
  refine lv_aload_n hx hb dL_law_1471 rfl (lv_at hl 1 rfl) ?_
  refine lv_aload_n hx hb dL_law_1472 rfl (lv_at hl 3 rfl) ?_
  refine lv_iload_n hx hb dL_law_1473 rfl (lv_at hl 0 rfl) ?_
  refine lv_iconst (v := 1) hx hb dL_law_1474 (by decide) ?_
  refine lv_iadd hx hb dL_law_1475 ?_
  refine z_top (v2 := .int 1) (congrArg Value.int (by decide)) ?_
  refine va_sld hx hb hX hbl hbA hS (show ¬ _ by decide) dL_law_1476 ?_
  refine z_top (v2 := .int (xs 1)) rfl ?_
  refine lv_aload_n hx hb dL_law_1477 rfl (lv_at hl 3 rfl) ?_
  refine lv_iload_n hx hb dL_law_1478 rfl (lv_at hl 0 rfl) ?_
  refine lv_iconst (v := 2) hx hb dL_law_1479 (by decide) ?_
  refine lv_iadd hx hb dL_law_1480 ?_
  refine z_top (v2 := .int 2) (congrArg Value.int (by decide)) ?_
  refine va_sld hx hb hX hbl hbA hS (show ¬ _ by decide) dL_law_1481 ?_
  refine z_top (v2 := .int (xs 2)) rfl ?_
  refine zcA_i (w := (zM k q2 0 1 (fun _ => 0) (fun _ => 0) (fun _ => 0) (fun _ => 0) (fun _ => 0) (fun _ => 0) (fun _ => 0) (fun _ => 0) (fun _ => 0) 12 0 0 0 0 (fun _ => 0) (fun _ => 0) (fun _ => 0) 0 (-1) (fun _ => 0) 0 (fun _ => 0) (fun _ => 0) (fun _ => 0) (fun _ => 0) (fun _ => 0) 0 0 0 0 0 0 (fun _ => 0) 100 (fun _ => 0) (fun _ => 0) (fun _ => 0) (fun _ => 0) (fun _ => 0) 0)) (va_runV (As := [.int (xs 1), .int (xs 2)]) (rest := [.int r1]) ⟨hx, hb, hml, hown, hts⟩ (c_X7_write l dC dI k (zTX k) q2 0 1 (fun _ => 0) (fun _ => 0) 0 0 0 0 0 0 0 0 0 0 (fun _ => 0) (fun _ => 0) 0 (xs 1) (xs 2) _) (cwV 2 hts (gzV wmt5_123 wmt5_124 wmt5_125 wmt1_8 wmt5_126) rfl rfl rfl (by decide +kernel) ⟨Nat.le_of_ble_eq_true rfl, Nat.le_of_ble_eq_true rfl⟩) (zpA_V (ci := 7) (q0 := 0) hK hP hD rfl rfl) rfl rfl hl.1 rfl (lv_room (Nat.le_of_ble_eq_true rfl)) dL_law_1482 ⟨Nat.le_of_ble_eq_true rfl, Nat.le_of_ble_eq_true rfl⟩) hD hS hA (fun r2 u H locs hw2 hP hD hS => ?_)
  have hrr : r1 = r2 := hw1.trans hw2.symm
  refine lv_icmp_eq (tgt := 1527) hx hb dL_law_1485 (by decide) (fun c_1 => ?_) (fun c_1 => ?_)
  · exact lw_end C0 hS hl
  · exact absurd hrr c_1
set_option maxHeartbeats 4000000 in
set_option maxRecDepth 100000 in
theorem lw_c35 {p : Program} {l : Launch} {e : Env} {s : State} {m : MethodId} {below : List Frame} {meth : Method} {c : Code} {b : Nat} {xs : Nat → Int32} {dC : Nat → ClassId} {dI : Nat → Nat → Nat} {k : Nat → ClassId} {q q2 : Nat → Nat} (C0 : lw_At p s m meth c b 6 xs) (hK : zK dC dI k (zTX k) s) {H : Heap} {locs : List Loc} (hP : va_P (dC, dI) vwCl ((zX k q 0 (-1) 12 100 0 (fun _ => 0) 0 0 (fun _ => 0) (fun _ => 0) (fun _ => 0) (fun _ => 0) (fun _ => 0) (fun _ => 0) (fun _ => 0) 0 0 0 (fun _ => 0) 0 1 232792560 0 0 0 0 0 1 (fun _ => 0) (fun _ => 0) 232792560 0 0 0 0 0 1 (fun _ => 0) (fun _ => 0) 232792560 0 0 0 0 0 1 (fun _ => 0) (fun _ => 0) 232792560 0 0 0 0 0 1 (fun _ => 0) (fun _ => 0) (-1) 0 (fun _ => 0) (-1) 0 (fun _ => 0) (-1) 0 (fun _ => 0) (-1) 0 (fun _ => 0)) ++ (zM k q2 0 1 (fun _ => 0) (fun _ => 0) (fun _ => 0) (fun _ => 0) (fun _ => 0) (fun _ => 0) (fun _ => 0) (fun _ => 0) (fun _ => 0) 12 0 0 0 0 (fun _ => 0) (fun _ => 0) (fun _ => 0) 0 (-1) (fun _ => 0) 0 (fun _ => 0) (fun _ => 0) (fun _ => 0) (fun _ => 0) (fun _ => 0) 0 0 0 0 0 0 (fun _ => 0) 100 (fun _ => 0) (fun _ => 0) (fun _ => 0) (fun _ => 0) (fun _ => 0) 0)) H) (hD : va_D (fun a : Nat => s.heap.size ≤ a) ((zX k q 0 (-1) 12 100 0 (fun _ => 0) 0 0 (fun _ => 0) (fun _ => 0) (fun _ => 0) (fun _ => 0) (fun _ => 0) (fun _ => 0) (fun _ => 0) 0 0 0 (fun _ => 0) 0 1 232792560 0 0 0 0 0 1 (fun _ => 0) (fun _ => 0) 232792560 0 0 0 0 0 1 (fun _ => 0) (fun _ => 0) 232792560 0 0 0 0 0 1 (fun _ => 0) (fun _ => 0) 232792560 0 0 0 0 0 1 (fun _ => 0) (fun _ => 0) (-1) 0 (fun _ => 0) (-1) 0 (fun _ => 0) (-1) 0 (fun _ => 0) (-1) 0 (fun _ => 0)) ++ (zM k q2 0 1 (fun _ => 0) (fun _ => 0) (fun _ => 0) (fun _ => 0) (fun _ => 0) (fun _ => 0) (fun _ => 0) (fun _ => 0) (fun _ => 0) 12 0 0 0 0 (fun _ => 0) (fun _ => 0) (fun _ => 0) 0 (-1) (fun _ => 0) 0 (fun _ => 0) (fun _ => 0) (fun _ => 0) (fun _ => 0) (fun _ => 0) 0 0 0 0 0 0 (fun _ => 0) 100 (fun _ => 0) (fun _ => 0) (fun _ => 0) (fun _ => 0) (fun _ => 0) 0))) (hS : va_S (fun a : Nat => s.heap.size ≤ a) s.heap H locs) {ls : Array Slot} (hl : lv_has ls 4 [(3, .int 0), (2, .ref (q2 0)), (1, .ref (q 0)), (0, .ref b)]) : W p l e room_1 s m #[Value.ref b] below meth c H locs 1000 10000 (lw_Z below #[Value.ref b] s) (F0 m 1490 ls []) := by
  obtain ⟨hx, hb, hr, hml, hown, hts0, hX, hbl, hlocks, hgv⟩ := id C0
  have hts : ∀ w ∈ zw, w.before #[Value.ref b] s = true := fun w h => hts0 w (List.mem_filter.mp h).1
  have hA : ∀ q : Nat, s.heap.size ≤ q → (fun a : Nat => s.heap.size ≤ a) q := fun _ h => h
  have hbA : ¬ (fun a : Nat => s.heap.size ≤ a) b := Nat.not_le.mpr hbl
  refine lv_aload_n hx hb dL_law_1490 rfl (lv_at hl 2 rfl) ?_
  refine lv_aload_n hx hb dL_law_1491 rfl (lv_at hl 3 rfl) ?_
  refine lv_iload_n hx hb dL_law_1492 rfl (lv_at hl 0 rfl) ?_
  refine lv_iconst (v := 1) hx hb dL_law_1493 (by decide) ?_
  refine lv_iadd hx hb dL_law_1494 ?_
  refine z_top (v2 := .int 1) (congrArg Value.int (by decide)) ?_
  refine va_sld hx hb hX hbl hbA hS (show ¬ _ by decide) dL_law_1495 ?_
  refine z_top (v2 := .int (xs 1)) rfl ?_
  refine zc2_i (wx := (zX k q 0 (-1) 12 100 0 (fun _ => 0) 0 0 (fun _ => 0) (fun _ => 0) (fun _ => 0) (fun _ => 0) (fun _ => 0) (fun _ => 0) (fun _ => 0) 0 0 0 (fun _ => 0) 0 1 232792560 0 0 0 0 0 1 (fun _ => 0) (fun _ => 0) 232792560 0 0 0 0 0 1 (fun _ => 0) (fun _ => 0) 232792560 0 0 0 0 0 1 (fun _ => 0) (fun _ => 0) 232792560 0 0 0 0 0 1 (fun _ => 0) (fun _ => 0) (-1) 0 (fun _ => 0) (-1) 0 (fun _ => 0) (-1) 0 (fun _ => 0) (-1) 0 (fun _ => 0))) (wm := (zM k q2 0 1 (fun _ => 0) (fun _ => 0) (fun _ => 0) (fun _ => 0) (fun _ => 0) (fun _ => 0) (fun _ => 0) (fun _ => 0) (fun _ => 0) 12 0 0 0 0 (fun _ => 0) (fun _ => 0) (fun _ => 0) 0 (-1) (fun _ => 0) 0 (fun _ => 0) (fun _ => 0) (fun _ => 0) (fun _ => 0) (fun _ => 0) 0 0 0 0 0 0 (fun _ => 0) 100 (fun _ => 0) (fun _ => 0) (fun _ => 0) (fun _ => 0) (fun _ => 0) 0)) (va_runV (As := [.int (xs 1)]) (rest := []) ⟨hx, hb, hml, hown, hts⟩ (c_X6_count l dC dI k  q 0 (fun _ => 0) (fun _ => 0) (fun _ => 0) (fun _ => 0) (fun _ => 0) (fun _ => 0) (fun _ => 0) 0 0 0 (fun _ => 0) 0 1 232792560 0 0 0 1 (fun _ => 0) (fun _ => 0) 232792560 0 0 0 1 (fun _ => 0) (fun _ => 0) 232792560 0 0 0 1 (fun _ => 0) (fun _ => 0) 232792560 0 0 0 1 (fun _ => 0) (fun _ => 0) (fun _ => 0) (fun _ => 0) (fun _ => 0) (fun _ => 0) (xs 1) _) (cwV 1 hts (gzV wmt3_136 wmt3_137 wmt3_138 wmt1_1 wmt3_139) rfl rfl rfl (by decide +kernel) ⟨Nat.le_of_ble_eq_true rfl, Nat.le_of_ble_eq_true rfl⟩) (zpA_V (ci := 6) (q0 := 0) hK (z_PL hP) (z_DL hD) rfl rfl) rfl rfl hl.1 rfl (lv_room (Nat.le_of_ble_eq_true rfl)) dL_law_1496 ⟨Nat.le_of_ble_eq_true rfl, Nat.le_of_ble_eq_true rfl⟩) hP hD hS hA (fun r1 u H locs hw1 hP hD hS => ?_)
  refine lv_aload_n hx hb dL_law_1499 rfl (lv_at hl 1 rfl) ?_
  refine lv_aload_n hx hb dL_law_1500 rfl (lv_at hl 3 rfl) ?_
  refine lv_iload_n hx hb dL_law_1501 rfl (lv_at hl 0 rfl) ?_
  refine lv_iconst (v := 1) hx hb dL_law_1502 (by decide) ?_
  refine lv_iadd hx hb dL_law_1503 ?_
  refine z_top (v2 := .int 1) (congrArg Value.int (by decide)) ?_
  refine va_sld hx hb hX hbl hbA hS (show ¬ _ by decide) dL_law_1504 ?_
  refine z_top (v2 := .int (xs 1)) rfl ?_
  refine zcA_i (w := (zM k q2 0 1 (fun _ => 0) (fun _ => 0) (fun _ => 0) (fun _ => 0) (fun _ => 0) (fun _ => 0) (fun _ => 0) (fun _ => 0) (fun _ => 0) 12 0 0 0 0 (fun _ => 0) (fun _ => 0) (fun _ => 0) 0 (-1) (fun _ => 0) 0 (fun _ => 0) (fun _ => 0) (fun _ => 0) (fun _ => 0) (fun _ => 0) 0 0 0 0 0 0 (fun _ => 0) 100 (fun _ => 0) (fun _ => 0) (fun _ => 0) (fun _ => 0) (fun _ => 0) 0)) (va_runV (As := [.int (xs 1)]) (rest := [.int r1]) ⟨hx, hb, hml, hown, hts⟩ (c_X7_count l dC dI k (zTX k) q2 0 1 (fun _ => 0) (fun _ => 0) 0 0 0 0 0 0 0 0 0 0 (fun _ => 0) (fun _ => 0) (xs 1) _) (cwV 1 hts (gzV wmt5_127 wmt5_128 wmt5_129 wmt1_8 wmt5_130) rfl rfl rfl (by decide +kernel) ⟨Nat.le_of_ble_eq_true rfl, Nat.le_of_ble_eq_true rfl⟩) (zpA_V (ci := 7) (q0 := 0) hK hP hD rfl rfl) rfl rfl hl.1 rfl (lv_room (Nat.le_of_ble_eq_true rfl)) dL_law_1505 ⟨Nat.le_of_ble_eq_true rfl, Nat.le_of_ble_eq_true rfl⟩) hD hS hA (fun r2 u H locs hw2 hP hD hS => ?_)
  have hrr : r1 = r2 := hw1.trans hw2.symm
  refine lv_icmp_eq (tgt := 1527) hx hb dL_law_1508 (by decide) (fun c_1 => ?_) (fun c_1 => ?_)
  · exact lw_end C0 hS hl
  · exact absurd hrr c_1
set_option maxHeartbeats 4000000 in
set_option maxRecDepth 100000 in
theorem lw_c36 {p : Program} {l : Launch} {e : Env} {s : State} {m : MethodId} {below : List Frame} {meth : Method} {c : Code} {b : Nat} {xs : Nat → Int32} {dC : Nat → ClassId} {dI : Nat → Nat → Nat} {k : Nat → ClassId} {q q2 : Nat → Nat} (C0 : lw_At p s m meth c b 6 xs) (hK : zK dC dI k (zTX k) s) {H : Heap} {locs : List Loc} (hP : va_P (dC, dI) vwCl ((zX k q 0 (-1) 12 100 0 (fun _ => 0) 0 0 (fun _ => 0) (fun _ => 0) (fun _ => 0) (fun _ => 0) (fun _ => 0) (fun _ => 0) (fun _ => 0) 0 0 0 (fun _ => 0) 0 1 232792560 0 0 0 0 0 1 (fun _ => 0) (fun _ => 0) 232792560 0 0 0 0 0 1 (fun _ => 0) (fun _ => 0) 232792560 0 0 0 0 0 1 (fun _ => 0) (fun _ => 0) 232792560 0 0 0 0 0 1 (fun _ => 0) (fun _ => 0) (-1) 0 (fun _ => 0) (-1) 0 (fun _ => 0) (-1) 0 (fun _ => 0) (-1) 0 (fun _ => 0)) ++ (zM k q2 0 1 (fun _ => 0) (fun _ => 0) (fun _ => 0) (fun _ => 0) (fun _ => 0) (fun _ => 0) (fun _ => 0) (fun _ => 0) (fun _ => 0) 12 0 0 0 0 (fun _ => 0) (fun _ => 0) (fun _ => 0) 0 (-1) (fun _ => 0) 0 (fun _ => 0) (fun _ => 0) (fun _ => 0) (fun _ => 0) (fun _ => 0) 0 0 0 0 0 0 (fun _ => 0) 100 (fun _ => 0) (fun _ => 0) (fun _ => 0) (fun _ => 0) (fun _ => 0) 0)) H) (hD : va_D (fun a : Nat => s.heap.size ≤ a) ((zX k q 0 (-1) 12 100 0 (fun _ => 0) 0 0 (fun _ => 0) (fun _ => 0) (fun _ => 0) (fun _ => 0) (fun _ => 0) (fun _ => 0) (fun _ => 0) 0 0 0 (fun _ => 0) 0 1 232792560 0 0 0 0 0 1 (fun _ => 0) (fun _ => 0) 232792560 0 0 0 0 0 1 (fun _ => 0) (fun _ => 0) 232792560 0 0 0 0 0 1 (fun _ => 0) (fun _ => 0) 232792560 0 0 0 0 0 1 (fun _ => 0) (fun _ => 0) (-1) 0 (fun _ => 0) (-1) 0 (fun _ => 0) (-1) 0 (fun _ => 0) (-1) 0 (fun _ => 0)) ++ (zM k q2 0 1 (fun _ => 0) (fun _ => 0) (fun _ => 0) (fun _ => 0) (fun _ => 0) (fun _ => 0) (fun _ => 0) (fun _ => 0) (fun _ => 0) 12 0 0 0 0 (fun _ => 0) (fun _ => 0) (fun _ => 0) 0 (-1) (fun _ => 0) 0 (fun _ => 0) (fun _ => 0) (fun _ => 0) (fun _ => 0) (fun _ => 0) 0 0 0 0 0 0 (fun _ => 0) 100 (fun _ => 0) (fun _ => 0) (fun _ => 0) (fun _ => 0) (fun _ => 0) 0))) (hS : va_S (fun a : Nat => s.heap.size ≤ a) s.heap H locs) {ls : Array Slot} (hl : lv_has ls 4 [(3, .int 0), (2, .ref (q2 0)), (1, .ref (q 0)), (0, .ref b)]) : W p l e room_1 s m #[Value.ref b] below meth c H locs 1000 10000 (lw_Z below #[Value.ref b] s) (F0 m 1513 ls []) := by
  obtain ⟨hx, hb, hr, hml, hown, hts0, hX, hbl, hlocks, hgv⟩ := id C0
  have hts : ∀ w ∈ zw, w.before #[Value.ref b] s = true := fun w h => hts0 w (List.mem_filter.mp h).1
  have hA : ∀ q : Nat, s.heap.size ≤ q → (fun a : Nat => s.heap.size ≤ a) q := fun _ h => h
  have hbA : ¬ (fun a : Nat => s.heap.size ≤ a) b := Nat.not_le.mpr hbl
  refine lv_aload_n hx hb dL_law_1513 rfl (lv_at hl 2 rfl) ?_
  refine zc2_l (wx := (zX k q 0 (-1) 12 100 0 (fun _ => 0) 0 0 (fun _ => 0) (fun _ => 0) (fun _ => 0) (fun _ => 0) (fun _ => 0) (fun _ => 0) (fun _ => 0) 0 0 0 (fun _ => 0) 0 1 232792560 0 0 0 0 0 1 (fun _ => 0) (fun _ => 0) 232792560 0 0 0 0 0 1 (fun _ => 0) (fun _ => 0) 232792560 0 0 0 0 0 1 (fun _ => 0) (fun _ => 0) 232792560 0 0 0 0 0 1 (fun _ => 0) (fun _ => 0) (-1) 0 (fun _ => 0) (-1) 0 (fun _ => 0) (-1) 0 (fun _ => 0) (-1) 0 (fun _ => 0))) (wm := (zM k q2 0 1 (fun _ => 0) (fun _ => 0) (fun _ => 0) (fun _ => 0) (fun _ => 0) (fun _ => 0) (fun _ => 0) (fun _ => 0) (fun _ => 0) 12 0 0 0 0 (fun _ => 0) (fun _ => 0) (fun _ => 0) 0 (-1) (fun _ => 0) 0 (fun _ => 0) (fun _ => 0) (fun _ => 0) (fun _ => 0) (fun _ => 0) 0 0 0 0 0 0 (fun _ => 0) 100 (fun _ => 0) (fun _ => 0) (fun _ => 0) (fun _ => 0) (fun _ => 0) 0)) (va_runV (As := []) (rest := []) ⟨hx, hb, hml, hown, hts⟩ (c_X6_digest l dC dI k  q 0 (fun _ => 0) (fun _ => 0) (fun _ => 0) (fun _ => 0) (fun _ => 0) (fun _ => 0) (fun _ => 0) 0 0 0 (fun _ => 0) 0 1 232792560 0 0 0 1 (fun _ => 0) (fun _ => 0) 232792560 0 0 0 1 (fun _ => 0) (fun _ => 0) 232792560 0 0 0 1 (fun _ => 0) (fun _ => 0) 232792560 0 0 0 1 (fun _ => 0) (fun _ => 0) (fun _ => 0) (fun _ => 0) (fun _ => 0) (fun _ => 0) _) (cwV 0 hts (gzV wmt3_148 wmt3_149 wmt3_150 wmt1_1 wmt3_151) rfl rfl rfl (by decide +kernel) ⟨Nat.le_of_ble_eq_true rfl, Nat.le_of_ble_eq_true rfl⟩) (zpA_V (ci := 6) (q0 := 0) hK (z_PL hP) (z_DL hD) rfl rfl) rfl rfl hl.1 rfl (lv_room (Nat.le_of_ble_eq_true rfl)) dL_law_1514 ⟨Nat.le_of_ble_eq_true rfl, Nat.le_of_ble_eq_true rfl⟩) hP hD hS hA (fun r1 u H locs hw1 hP hD hS => ?_)
  refine lv_aload_n hx hb dL_law_1517 rfl (lv_at hl 1 rfl) ?_
  refine zcA_l (w := (zM k q2 0 1 (fun _ => 0) (fun _ => 0) (fun _ => 0) (fun _ => 0) (fun _ => 0) (fun _ => 0) (fun _ => 0) (fun _ => 0) (fun _ => 0) 12 0 0 0 0 (fun _ => 0) (fun _ => 0) (fun _ => 0) 0 (-1) (fun _ => 0) 0 (fun _ => 0) (fun _ => 0) (fun _ => 0) (fun _ => 0) (fun _ => 0) 0 0 0 0 0 0 (fun _ => 0) 100 (fun _ => 0) (fun _ => 0) (fun _ => 0) (fun _ => 0) (fun _ => 0) 0)) (va_runV (As := []) (rest := [.long r1]) ⟨hx, hb, hml, hown, hts⟩ (c_X7_digest l dC dI k (zTX k) q2 0 1 (fun _ => 0) (fun _ => 0) 0 0 0 0 0 0 0 0 0 0 (fun _ => 0) (fun _ => 0) _) (cwV 0 hts (gzV wmt5_135 wmt5_136 wmt5_137 wmt1_8 wmt5_138) rfl rfl rfl (by decide +kernel) ⟨Nat.le_of_ble_eq_true rfl, Nat.le_of_ble_eq_true rfl⟩) (zpA_V (ci := 7) (q0 := 0) hK hP hD rfl rfl) rfl rfl hl.1 rfl (lv_room (Nat.le_of_ble_eq_true rfl)) dL_law_1518 ⟨Nat.le_of_ble_eq_true rfl, Nat.le_of_ble_eq_true rfl⟩) hD hS hA (fun r2 u H locs hw2 hP hD hS => ?_)
  refine z_lcmp hx hb dL_law_1521 ?_
  have hrr : r1 = r2 := hw1.trans hw2.symm
  refine lv_if_eq (tgt := 1527) hx hb dL_law_1522 (by decide) (fun c_1 => ?_) (fun c_1 => ?_)
  · exact lw_end C0 hS hl
  · exact absurd ((lg_cmp_eq _ _).mpr hrr) c_1
