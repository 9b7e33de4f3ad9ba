set_option maxHeartbeats 4000000 in
set_option maxRecDepth 100000 in
theorem lw_c28 {p : Program} {l : Launch} {e : Env} {s : State} {m : MethodId} {below : List Frame} {meth : Method} {c : Code} {b L : Nat} {xs : Nat → Int32} {dC : Nat → ClassId} {dI : Nat → Nat → Nat} {k : Nat → ClassId} {q q2 : Nat → Nat} (hL : L ≤ 3072) (C0 : lw_At p s m meth c b L xs) (hK : zK dC dI k (zTX k) s) (hDa : ∀ z1 z2 : ZS, va_D (fun a : Nat => s.heap.size ≤ a) (zX k q z1 ++ zM k q2 z2)) {zx zm : ZS} (hJ : J2 zx zm) {i : Int32} (hi : 0 ≤ i.toInt ∧ i.toInt + 6 ≤ (L : Int)) {H : Heap} {locs : List Loc} (hP : va_P (dC, dI) vwCl (zX k q zx ++ zM k q2 zm) H) (hS : va_S (fun a : Nat => s.heap.size ≤ a) s.heap H locs) {ls : Array Slot} (hl : lv_has ls 4 [(3, .int i), (2, .ref (q2 0)), (1, .ref (q 0)), (0, .ref b)]) (kk : ∀ (z1 z2 : ZS) (H : Heap) (locs : List Loc), J2 z1 z2 → va_P (dC, dI) vwCl (zX k q z1 ++ zM k q2 z2) H → va_S (fun a : Nat => s.heap.size ≤ a) s.heap H locs → W p l e room_1 s m #[Value.ref b] below meth c H locs 1000 10000 (lw_Z below #[Value.ref b] s) (F0 m 1517 ls [])) : W p l e room_1 s m #[Value.ref b] below meth c H locs 1000 10000 (lw_Z below #[Value.ref b] s) (F0 m 1190 ls []) := by
  obtain ⟨hI, hM, h3, hT⟩ := hJ
  have hT0 := hT
  obtain ⟨hx, hb, hr, hml, hown, hts0, hX, hbl, hlocks, hgv⟩ := id C0
  have htb : ∀ w ∈ zw, w.before #[Value.ref b] s = true := fun w h => hts0 w (List.mem_filter.mp h).1
  have hA : ∀ q : Nat, s.heap.size ≤ q → (fun a : Nat => s.heap.size ≤ a) q := fun _ h => h
  have hbA : ¬ (fun a : Nat => s.heap.size ≤ a) b := Nat.not_le.mpr hbl
  refine lv_aload_n hx hb dL_law_1190 rfl (lv_at hl 2 rfl) ?_
  refine lv_aload_n hx hb dL_law_1191 rfl (lv_at hl 3 rfl) ?_
  refine lv_iload_n hx hb dL_law_1192 rfl (lv_at hl 0 rfl) ?_
  refine lv_iconst (v := 1) hx hb dL_law_1193 (by decide) ?_
  refine lv_iadd hx hb dL_law_1194 ?_
  refine lv_topi (fun x1 ex1 => ?_)
  have hx1 : x1.toInt = i.toInt + 1 := z_add ex1 rfl (show (1 : Int32).toInt = 1 by decide) (by omega)
  refine va_sld hx hb hX hbl hbA hS (z_in (by omega)) dL_law_1195 ?_
  refine lv_topi (fun y2 ey2 => ?_)
  refine lv_aload_n hx hb dL_law_1196 rfl (lv_at hl 3 rfl) ?_
  refine lv_iload_n hx hb dL_law_1197 rfl (lv_at hl 0 rfl) ?_
  refine lv_iconst (v := 2) hx hb dL_law_1198 (by decide) ?_
  refine lv_iadd hx hb dL_law_1199 ?_
  refine lv_topi (fun x3 ex3 => ?_)
  have hx3 : x3.toInt = i.toInt + 2 := z_add ex3 rfl (show (2 : Int32).toInt = 2 by decide) (by omega)
  refine va_sld hx hb hX hbl hbA hS (z_in (by omega)) dL_law_1200 ?_
  refine lv_topi (fun y4 ey4 => ?_)
  refine zcL_i (wx := zX k q zx) (wm := zM k q2 zm) (va_runV (As := [.int y2, .int y4]) (rest := []) ⟨hx, hb, hml, hown, htb⟩ (c_X6_kept l dC dI k q zx y2 y4 _ hI) (cwV 2 htb (gzV wmt3_81 wmt3_82 wmt3_83 wmt1_1 wmt3_84) rfl rfl rfl (by decide +kernel) ⟨Nat.le_of_ble_eq_true rfl, Nat.le_of_ble_eq_true rfl⟩) (zpA_V (ci := 6) (q0 := 0) hK (z_PL hP) (z_DL (hDa zx zm)) rfl rfl) rfl rfl hl.1 rfl (lv_room (Nat.le_of_ble_eq_true rfl)) dL_law_1201 ⟨Nat.le_of_ble_eq_true rfl, Nat.le_of_ble_eq_true rfl⟩) hP (hDa _ _) hS hA (fun r5 u6 H locs w7 hP hS => ?_)
  obtain ⟨f8, f9⟩ := w7
  have hI : XInv u6 := f8
  have hT : trX u6 = trM zm := f9.trans hT
  refine lv_pop hx hb dL_law_1204 rfl ?_
  refine lv_aload_n hx hb dL_law_1205 rfl (lv_at hl 1 rfl) ?_
  refine lv_aload_n hx hb dL_law_1206 rfl (lv_at hl 3 rfl) ?_
  refine lv_iload_n hx hb dL_law_1207 rfl (lv_at hl 0 rfl) ?_
  refine lv_iconst (v := 1) hx hb dL_law_1208 (by decide) ?_
  refine lv_iadd hx hb dL_law_1209 ?_
  refine lv_topi (fun x10 ex10 => ?_)
  have hx10 : x10.toInt = i.toInt + 1 := z_add ex10 rfl (show (1 : Int32).toInt = 1 by decide) (by omega)
  refine va_sld hx hb hX hbl hbA hS (z_in (by omega)) dL_law_1210 ?_
  refine lv_topi (fun y11 ey11 => ?_)
  have qy11 : y2 = y11 := by rw [ey11, ey2, ex10, ex1]
  subst qy11
  refine lv_aload_n hx hb dL_law_1211 rfl (lv_at hl 3 rfl) ?_
  refine lv_iload_n hx hb dL_law_1212 rfl (lv_at hl 0 rfl) ?_
  refine lv_iconst (v := 2) hx hb dL_law_1213 (by decide) ?_
  refine lv_iadd hx hb dL_law_1214 ?_
  refine lv_topi (fun x12 ex12 => ?_)
  have hx12 : x12.toInt = i.toInt + 2 := z_add ex12 rfl (show (2 : Int32).toInt = 2 by decide) (by omega)
  refine va_sld hx hb hX hbl hbA hS (z_in (by omega)) dL_law_1215 ?_
  refine lv_topi (fun y13 ey13 => ?_)
  have qy13 : y4 = y13 := by rw [ey13, ey4, ex12, ex3]
  subst qy13
  refine zcR_i (wx := zX k q u6) (wm := zM k q2 zm) (va_runV (As := [.int y2, .int y4]) (rest := []) ⟨hx, hb, hml, hown, htb⟩ (c_X7_kept l dC dI k q2 zm y2 y4 _ hM) (cwV 2 htb (gzV wmt5_90 wmt5_91 wmt5_92 wmt1_8 wmt5_93) rfl rfl rfl (by decide +kernel) ⟨Nat.le_of_ble_eq_true rfl, Nat.le_of_ble_eq_true rfl⟩) (zpA_V (ci := 7) (q0 := 0) hK (z_PR hP) (z_DR (hDa u6 zm)) rfl rfl) rfl rfl hl.1 rfl (lv_room (Nat.le_of_ble_eq_true rfl)) dL_law_1216 ⟨Nat.le_of_ble_eq_true rfl, Nat.le_of_ble_eq_true rfl⟩) hP (hDa _ _) hS hA (fun r14 u15 H locs w16 hP hS => ?_)
  obtain ⟨o17, o18, o19, o20, o21, o22, o23, o24, o25, o26, o27, o28, o29, o30, o31, o32, o33, o34, o35, o36, o37⟩ := u15
  have f38 := w16
  obtain ⟨z39, ez39⟩ : ∃ x : ZS, x = (sJ (sJ (sJ (sJ (sJ (sI (sI (sA (sA (sA (sI (sI (sI (sI (sA (sA (sA (sA (sA (sA (sA zm 4 o17) 5 o18) 6 o19) 7 o20) 8 o21) 9 o22) 10 o23) 12 o24) 13 o25) 14 o26) 15 o27) 16 o28) 17 o29) 18 o30) 28 o31) 29 o32) 0 o33) 1 o34) 30 o35) 31 o36) 32 o37) := ⟨_, rfl⟩
  have hP : va_P (dC, dI) vwCl (zX k q u6 ++ zM k q2 z39) H := by rw [ez39]; exact hP
  have hM : MInv z39 := by rw [ez39]; exact ⟨hM.1, hM.2.1, hM.2.2.1, hM.2.2.2.1, hM.2.2.2.2.1, f38⟩
  have h3 : T3 (z39.2.2.1 37) := by rw [ez39]; exact h3
  have hT : trX u6 = trM z39 := by rw [ez39]; exact hT
  refine lv_pop hx hb dL_law_1219 rfl ?_
  refine lv_goto (tgt := 1517) hx hb dL_law_1220 (by decide) ?_
  exact kk _ _ H locs ⟨hI, hM, h3, hT⟩ hP hS
set_option maxHeartbeats 4000000 in
set_option maxRecDepth 100000 in
theorem lw_c29 {p : Program} {l : Launch} {e : Env} {s : State} {m : MethodId} {below : List Frame} {meth : Method} {c : Code} {b L : Nat} {xs : Nat → Int32} {dC : Nat → ClassId} {dI : Nat → Nat → Nat} {k : Nat → ClassId} {q q2 : Nat → Nat} (hL : L ≤ 3072) (C0 : lw_At p s m meth c b L xs) (hK : zK dC dI k (zTX k) s) (hDa : ∀ z1 z2 : ZS, va_D (fun a : Nat => s.heap.size ≤ a) (zX k q z1 ++ zM k q2 z2)) {zx zm : ZS} (hJ : J2 zx zm) {i : Int32} (hi : 0 ≤ i.toInt ∧ i.toInt + 6 ≤ (L : Int)) {H : Heap} {locs : List Loc} (hP : va_P (dC, dI) vwCl (zX k q zx ++ zM k q2 zm) H) (hS : va_S (fun a : Nat => s.heap.size ≤ a) s.heap H locs) {ls : Array Slot} (hl : lv_has ls 4 [(3, .int i), (2, .ref (q2 0)), (1, .ref (q 0)), (0, .ref b)]) (kk : ∀ (z1 z2 : ZS) (H : Heap) (locs : List Loc), J2 z1 z2 → va_P (dC, dI) vwCl (zX k q z1 ++ zM k q2 z2) H → va_S (fun a : Nat => s.heap.size ≤ a) s.heap H locs → W p l e room_1 s m #[Value.ref b] below meth c H locs 1000 10000 (lw_Z below #[Value.ref b] s) (F0 m 1517 ls [])) : W p l e room_1 s m #[Value.ref b] below meth c H locs 1000 10000 (lw_Z below #[Value.ref b] s) (F0 m 1223 ls []) := by
  obtain ⟨hI, hM, h3, hT⟩ := hJ
  have hT0 := hT
  obtain ⟨hx, hb, hr, hml, hown, hts0, hX, hbl, hlocks, hgv⟩ := id C0
  have htb : ∀ w ∈ zw, w.before #[Value.ref b] s = true := fun w h => hts0 w (List.mem_filter.mp h).1
  have hA : ∀ q : Nat, s.heap.size ≤ q → (fun a : Nat => s.heap.size ≤ a) q := fun _ h => h
  have hbA : ¬ (fun a : Nat => s.heap.size ≤ a) b := Nat.not_le.mpr hbl
  refine lv_aload_n hx hb dL_law_1223 rfl (lv_at hl 2 rfl) ?_
  refine lv_aload_n hx hb dL_law_1224 rfl (lv_at hl 3 rfl) ?_
  refine lv_iload_n hx hb dL_law_1225 rfl (lv_at hl 0 rfl) ?_
  refine lv_iconst (v := 1) hx hb dL_law_1226 (by decide) ?_
  refine lv_iadd hx hb dL_law_1227 ?_
  refine lv_topi (fun x1 ex1 => ?_)
  have hx1 : x1.toInt = i.toInt + 1 := z_add ex1 rfl (show (1 : Int32).toInt = 1 by decide) (by omega)
  refine va_sld hx hb hX hbl hbA hS (z_in (by omega)) dL_law_1228 ?_
  refine lv_topi (fun y2 ey2 => ?_)
  refine lv_aload_n hx hb dL_law_1229 rfl (lv_at hl 3 rfl) ?_
  refine lv_iload_n hx hb dL_law_1230 rfl (lv_at hl 0 rfl) ?_
  refine lv_iconst (v := 2) hx hb dL_law_1231 (by decide) ?_
  refine lv_iadd hx hb dL_law_1232 ?_
  refine lv_topi (fun x3 ex3 => ?_)
  have hx3 : x3.toInt = i.toInt + 2 := z_add ex3 rfl (show (2 : Int32).toInt = 2 by decide) (by omega)
  refine va_sld hx hb hX hbl hbA hS (z_in (by omega)) dL_law_1233 ?_
  refine lv_topi (fun y4 ey4 => ?_)
  refine lv_aload_n hx hb dL_law_1234 rfl (lv_at hl 3 rfl) ?_
  refine lv_iload_n hx hb dL_law_1235 rfl (lv_at hl 0 rfl) ?_
  refine lv_iconst (v := 3) hx hb dL_law_1236 (by decide) ?_
  refine lv_iadd hx hb dL_law_1237 ?_
  refine lv_topi (fun x5 ex5 => ?_)
  have hx5 : x5.toInt = i.toInt + 3 := z_add ex5 rfl (show (3 : Int32).toInt = 3 by decide) (by omega)
  refine va_sld hx hb hX hbl hbA hS (z_in (by omega)) dL_law_1238 ?_
  refine lv_topi (fun y6 ey6 => ?_)
  refine zcL_i (wx := zX k q zx) (wm := zM k q2 zm) (va_runV (As := [.int y2, .int y4, .int y6]) (rest := []) ⟨hx, hb, hml, hown, htb⟩ (c_X6_sheet l dC dI k q zx y2 y4 y6 _ hI) (cwV 3 htb (gzV wmt3_85 wmt3_86 wmt3_87 wmt1_1 wmt3_88) rfl rfl rfl (by decide +kernel) ⟨Nat.le_of_ble_eq_true rfl, Nat.le_of_ble_eq_true rfl⟩) (zpA_V (ci := 6) (q0 := 0) hK (z_PL hP) (z_DL (hDa zx zm)) rfl rfl) rfl rfl hl.1 rfl (lv_room (Nat.le_of_ble_eq_true rfl)) dL_law_1239 ⟨Nat.le_of_ble_eq_true rfl, Nat.le_of_ble_eq_true rfl⟩) hP (hDa _ _) hS hA (fun r7 u8 H locs w9 hP hS => ?_)
  obtain ⟨f10, f11⟩ := w9
  have hI : XInv u8 := f10
  refine lv_pop hx hb dL_law_1242 rfl ?_
  refine lv_aload_n hx hb dL_law_1243 rfl (lv_at hl 1 rfl) ?_
  refine lv_aload_n hx hb dL_law_1244 rfl (lv_at hl 3 rfl) ?_
  refine lv_iload_n hx hb dL_law_1245 rfl (lv_at hl 0 rfl) ?_
  refine lv_iconst (v := 1) hx hb dL_law_1246 (by decide) ?_
  refine lv_iadd hx hb dL_law_1247 ?_
  refine lv_topi (fun x12 ex12 => ?_)
  have hx12 : x12.toInt = i.toInt + 1 := z_add ex12 rfl (show (1 : Int32).toInt = 1 by decide) (by omega)
  refine va_sld hx hb hX hbl hbA hS (z_in (by omega)) dL_law_1248 ?_
  refine lv_topi (fun y13 ey13 => ?_)
  have qy13 : y2 = y13 := by rw [ey13, ey2, ex12, ex1]
  subst qy13
  refine lv_aload_n hx hb dL_law_1249 rfl (lv_at hl 3 rfl) ?_
  refine lv_iload_n hx hb dL_law_1250 rfl (lv_at hl 0 rfl) ?_
  refine lv_iconst (v := 2) hx hb dL_law_1251 (by decide) ?_
  refine lv_iadd hx hb dL_law_1252 ?_
  refine lv_topi (fun x14 ex14 => ?_)
  have hx14 : x14.toInt = i.toInt + 2 := z_add ex14 rfl (show (2 : Int32).toInt = 2 by decide) (by omega)
  refine va_sld hx hb hX hbl hbA hS (z_in (by omega)) dL_law_1253 ?_
  refine lv_topi (fun y15 ey15 => ?_)
  have qy15 : y4 = y15 := by rw [ey15, ey4, ex14, ex3]
  subst qy15
  refine lv_aload_n hx hb dL_law_1254 rfl (lv_at hl 3 rfl) ?_
  refine lv_iload_n hx hb dL_law_1255 rfl (lv_at hl 0 rfl) ?_
  refine lv_iconst (v := 3) hx hb dL_law_1256 (by decide) ?_
  refine lv_iadd hx hb dL_law_1257 ?_
  refine lv_topi (fun x16 ex16 => ?_)
  have hx16 : x16.toInt = i.toInt + 3 := z_add ex16 rfl (show (3 : Int32).toInt = 3 by decide) (by omega)
  refine va_sld hx hb hX hbl hbA hS (z_in (by omega)) dL_law_1258 ?_
  refine lv_topi (fun y17 ey17 => ?_)
  have qy17 : y6 = y17 := by rw [ey17, ey6, ex16, ex5]
  subst qy17
  refine zcR_i (wx := zX k q u8) (wm := zM k q2 zm) (va_runV (As := [.int y2, .int y4, .int y6]) (rest := []) ⟨hx, hb, hml, hown, htb⟩ (c_X7_sheet l dC dI k q2 zm y2 y4 y6 _ hM h3) (cwV 3 htb (gzV wmt5_94 wmt5_95 wmt5_96 wmt1_8 wmt5_97) rfl rfl rfl (by decide +kernel) ⟨Nat.le_of_ble_eq_true rfl, Nat.le_of_ble_eq_true rfl⟩) (zpA_V (ci := 7) (q0 := 0) hK (z_PR hP) (z_DR (hDa u8 zm)) rfl rfl) rfl rfl hl.1 rfl (lv_room (Nat.le_of_ble_eq_true rfl)) dL_law_1259 ⟨Nat.le_of_ble_eq_true rfl, Nat.le_of_ble_eq_true rfl⟩) hP (hDa _ _) hS hA (fun r18 u19 H locs w20 hP hS => ?_)
  obtain ⟨o21, o22, o23, o24, o25⟩ := u19
  obtain ⟨f26, f27, f28⟩ := w20
  obtain ⟨z29, ez29⟩ : ∃ x : ZS, x = (sI (sA (sA (sA (sA zm 36 o21) 37 o22) 38 o23) 39 o24) 41 o25) := ⟨_, rfl⟩
  have hP : va_P (dC, dI) vwCl (zX k q u8 ++ zM k q2 z29) H := by rw [ez29]; exact hP
  have hM : MInv z29 := by rw [ez29]; exact f26
  have h3 : T3 (z29.2.2.1 37) := by rw [ez29]; exact f27
  have hp2 : (r18, trM z29) = tSheet (trM zm) y2 y4 y6 := by rw [ez29]; exact f28
  have hpp : (r7, trX u8) = (r18, trM z29) := by rw [hp2, ← hT]; exact f11
  have hrr : r7 = r18 := (Prod.mk.inj hpp).1
  have hT : trX u8 = trM z29 := (Prod.mk.inj hpp).2
  refine lv_pop hx hb dL_law_1262 rfl ?_
  refine lv_goto (tgt := 1517) hx hb dL_law_1263 (by decide) ?_
  exact kk _ _ H locs ⟨hI, hM, h3, hT⟩ hP hS
set_option maxHeartbeats 4000000 in
set_option maxRecDepth 100000 in
theorem lw_c30 {p : Program} {l : Launch} {e : Env} {s : State} {m : MethodId} {below : List Frame} {meth : Method} {c : Code} {b L : Nat} {xs : Nat → Int32} {dC : Nat → ClassId} {dI : Nat → Nat → Nat} {k : Nat → ClassId} {q q2 : Nat → Nat} (hL : L ≤ 3072) (C0 : lw_At p s m meth c b L xs) (hK : zK dC dI k (zTX k) s) (hDa : ∀ z1 z2 : ZS, va_D (fun a : Nat => s.heap.size ≤ a) (zX k q z1 ++ zM k q2 z2)) {zx zm : ZS} (hJ : J2 zx zm) {i : Int32} (hi : 0 ≤ i.toInt ∧ i.toInt + 6 ≤ (L : Int)) {H : Heap} {locs : List Loc} (hP : va_P (dC, dI) vwCl (zX k q zx ++ zM k q2 zm) H) (hS : va_S (fun a : Nat => s.heap.size ≤ a) s.heap H locs) {ls : Array Slot} (hl : lv_has ls 4 [(3, .int i), (2, .ref (q2 0)), (1, .ref (q 0)), (0, .ref b)]) (kk : ∀ (z1 z2 : ZS) (H : Heap) (locs : List Loc), J2 z1 z2 → va_P (dC, dI) vwCl (zX k q z1 ++ zM k q2 z2) H → va_S (fun a : Nat => s.heap.size ≤ a) s.heap H locs → W p l e room_1 s m #[Value.ref b] below meth c H locs 1000 10000 (lw_Z below #[Value.ref b] s) (F0 m 1517 ls [])) : W p l e room_1 s m #[Value.ref b] below meth c H locs 1000 10000 (lw_Z below #[Value.ref b] s) (F0 m 1266 ls []) := by
  obtain ⟨hI, hM, h3, hT⟩ := hJ
  have hT0 := hT
  obtain ⟨hx, hb, hr, hml, hown, hts0, hX, hbl, hlocks, hgv⟩ := id C0
  have htb : ∀ w ∈ zw, w.before #[Value.ref b] s = true := fun w h => hts0 w (List.mem_filter.mp h).1
  have hA : ∀ q : Nat, s.heap.size ≤ q → (fun a : Nat => s.heap.size ≤ a) q := fun _ h => h
  have hbA : ¬ (fun a : Nat => s.heap.size ≤ a) b := Nat.not_le.mpr hbl
  refine lv_aload_n hx hb dL_law_1266 rfl (lv_at hl 2 rfl) ?_
  refine lv_aload_n hx hb dL_law_1267 rfl (lv_at hl 3 rfl) ?_
  refine lv_iload_n hx hb dL_law_1268 rfl (lv_at hl 0 rfl) ?_
  refine lv_iconst (v := 1) hx hb dL_law_1269 (by decide) ?_
  refine lv_iadd hx hb dL_law_1270 ?_
  refine lv_topi (fun x1 ex1 => ?_)
  have hx1 : x1.toInt = i.toInt + 1 := z_add ex1 rfl (show (1 : Int32).toInt = 1 by decide) (by omega)
  refine va_sld hx hb hX hbl hbA hS (z_in (by omega)) dL_law_1271 ?_
  refine lv_topi (fun y2 ey2 => ?_)
  refine zcL_i (wx := zX k q zx) (wm := zM k q2 zm) (va_runV (As := [.int y2]) (rest := []) ⟨hx, hb, hml, hown, htb⟩ (c_X6_lose l dC dI k q zx y2 _ hI) (cwV 1 htb (gzV wmt3_97 wmt3_98 wmt3_99 wmt1_1 wmt3_100) rfl rfl rfl (by decide +kernel) ⟨Nat.le_of_ble_eq_true rfl, Nat.le_of_ble_eq_true rfl⟩) (zpA_V (ci := 6) (q0 := 0) hK (z_PL hP) (z_DL (hDa zx zm)) rfl rfl) rfl rfl hl.1 rfl (lv_room (Nat.le_of_ble_eq_true rfl)) dL_law_1272 ⟨Nat.le_of_ble_eq_true rfl, Nat.le_of_ble_eq_true rfl⟩) hP (hDa _ _) hS hA (fun r3 u4 H locs w5 hP hS => ?_)
  obtain ⟨f6, f7⟩ := w5
  have hI : XInv u4 := f6
  refine lv_pop hx hb dL_law_1275 rfl ?_
  refine lv_aload_n hx hb dL_law_1276 rfl (lv_at hl 1 rfl) ?_
  refine lv_aload_n hx hb dL_law_1277 rfl (lv_at hl 3 rfl) ?_
  refine lv_iload_n hx hb dL_law_1278 rfl (lv_at hl 0 rfl) ?_
  refine lv_iconst (v := 1) hx hb dL_law_1279 (by decide) ?_
  refine lv_iadd hx hb dL_law_1280 ?_
  refine lv_topi (fun x8 ex8 => ?_)
  have hx8 : x8.toInt = i.toInt + 1 := z_add ex8 rfl (show (1 : Int32).toInt = 1 by decide) (by omega)
  refine va_sld hx hb hX hbl hbA hS (z_in (by omega)) dL_law_1281 ?_
  refine lv_topi (fun y9 ey9 => ?_)
  have qy9 : y2 = y9 := by rw [ey9, ey2, ex8, ex1]
  subst qy9
  refine zcR_i (wx := zX k q u4) (wm := zM k q2 zm) (va_runV (As := [.int y2]) (rest := []) ⟨hx, hb, hml, hown, htb⟩ (c_X7_lose l dC dI k q2 zm y2 _ hM h3) (cwV 1 htb (gzV wmt5_98 wmt5_99 wmt5_100 wmt1_8 wmt5_101) rfl rfl rfl (by decide +kernel) ⟨Nat.le_of_ble_eq_true rfl, Nat.le_of_ble_eq_true rfl⟩) (zpA_V (ci := 7) (q0 := 0) hK (z_PR hP) (z_DR (hDa u4 zm)) rfl rfl) rfl rfl hl.1 rfl (lv_room (Nat.le_of_ble_eq_true rfl)) dL_law_1282 ⟨Nat.le_of_ble_eq_true rfl, Nat.le_of_ble_eq_true rfl⟩) hP (hDa _ _) hS hA (fun r10 u11 H locs w12 hP hS => ?_)
  obtain ⟨o13, o14⟩ := u11
  obtain ⟨f15, f16⟩ := w12
  obtain ⟨z17, ez17⟩ : ∃ x : ZS, x = (sI (sA zm 36 o13) 41 o14) := ⟨_, rfl⟩
  have hP : va_P (dC, dI) vwCl (zX k q u4 ++ zM k q2 z17) H := by rw [ez17]; exact hP
  have hM : MInv z17 := by rw [ez17]; exact f15
  have h3 : T3 (z17.2.2.1 37) := by rw [ez17]; exact h3
  have hp2 : (r10, trM z17) = tLose (trM zm) y2 := by rw [ez17]; exact f16
  have hpp : (r3, trX u4) = (r10, trM z17) := by rw [hp2, ← hT]; exact f7
  have hrr : r3 = r10 := (Prod.mk.inj hpp).1
  have hT : trX u4 = trM z17 := (Prod.mk.inj hpp).2
  refine lv_pop hx hb dL_law_1285 rfl ?_
  refine lv_goto (tgt := 1517) hx hb dL_law_1286 (by decide) ?_
  exact kk _ _ H locs ⟨hI, hM, h3, hT⟩ hP hS
set_option maxHeartbeats 4000000 in
set_option maxRecDepth 100000 in
theorem lw_c31 {p : Program} {l : Launch} {e : Env} {s : State} {m : MethodId} {below : List Frame} {meth : Method} {c : Code} {b L : Nat} {xs : Nat → Int32} {dC : Nat → ClassId} {dI : Nat → Nat → Nat} {k : Nat → ClassId} {q q2 : Nat → Nat} (hL : L ≤ 3072) (C0 : lw_At p s m meth c b L xs) (hK : zK dC dI k (zTX k) s) (hDa : ∀ z1 z2 : ZS, va_D (fun a : Nat => s.heap.size ≤ a) (zX k q z1 ++ zM k q2 z2)) {zx zm : ZS} (hJ : J2 zx zm) {i : Int32} (hi : 0 ≤ i.toInt ∧ i.toInt + 6 ≤ (L : Int)) {H : Heap} {locs : List Loc} (hP : va_P (dC, dI) vwCl (zX k q zx ++ zM k q2 zm) H) (hS : va_S (fun a : Nat => s.heap.size ≤ a) s.heap H locs) {ls : Array Slot} (hl : lv_has ls 4 [(3, .int i), (2, .ref (q2 0)), (1, .ref (q 0)), (0, .ref b)]) (kk : ∀ (z1 z2 : ZS) (H : Heap) (locs : List Loc), J2 z1 z2 → va_P (dC, dI) vwCl (zX k q z1 ++ zM k q2 z2) H → va_S (fun a : Nat => s.heap.size ≤ a) s.heap H locs → W p l e room_1 s m #[Value.ref b] below meth c H locs 1000 10000 (lw_Z below #[Value.ref b] s) (F0 m 1517 ls [])) : W p l e room_1 s m #[Value.ref b] below meth c H locs 1000 10000 (lw_Z below #[Value.ref b] s) (F0 m 1289 ls []) := by
  obtain ⟨hI, hM, h3, hT⟩ := hJ
  have hT0 := hT
  obtain ⟨hx, hb, hr, hml, hown, hts0, hX, hbl, hlocks, hgv⟩ := id C0
  have htb : ∀ w ∈ zw, w.before #[Value.ref b] s = true := fun w h => hts0 w (List.mem_filter.mp h).1
  have hA : ∀ q : Nat, s.heap.size ≤ q → (fun a : Nat => s.heap.size ≤ a) q := fun _ h => h
  have hbA : ¬ (fun a : Nat => s.heap.size ≤ a) b := Nat.not_le.mpr hbl
  refine lv_aload_n hx hb dL_law_1289 rfl (lv_at hl 2 rfl) ?_
  refine lv_aload_n hx hb dL_law_1290 rfl (lv_at hl 3 rfl) ?_
  refine lv_iload_n hx hb dL_law_1291 rfl (lv_at hl 0 rfl) ?_
  refine lv_iconst (v := 1) hx hb dL_law_1292 (by decide) ?_
  refine lv_iadd hx hb dL_law_1293 ?_
  refine lv_topi (fun x1 ex1 => ?_)
  have hx1 : x1.toInt = i.toInt + 1 := z_add ex1 rfl (show (1 : Int32).toInt = 1 by decide) (by omega)
  refine va_sld hx hb hX hbl hbA hS (z_in (by omega)) dL_law_1294 ?_
  refine lv_topi (fun y2 ey2 => ?_)
  refine lv_aload_n hx hb dL_law_1295 rfl (lv_at hl 3 rfl) ?_
  refine lv_iload_n hx hb dL_law_1296 rfl (lv_at hl 0 rfl) ?_
  refine lv_iconst (v := 2) hx hb dL_law_1297 (by decide) ?_
  refine lv_iadd hx hb dL_law_1298 ?_
  refine lv_topi (fun x3 ex3 => ?_)
  have hx3 : x3.toInt = i.toInt + 2 := z_add ex3 rfl (show (2 : Int32).toInt = 2 by decide) (by omega)
  refine va_sld hx hb hX hbl hbA hS (z_in (by omega)) dL_law_1299 ?_
  refine lv_topi (fun y4 ey4 => ?_)
  refine lv_aload_n hx hb dL_law_1300 rfl (lv_at hl 3 rfl) ?_
  refine lv_iload_n hx hb dL_law_1301 rfl (lv_at hl 0 rfl) ?_
  refine lv_iconst (v := 3) hx hb dL_law_1302 (by decide) ?_
  refine lv_iadd hx hb dL_law_1303 ?_
  refine lv_topi (fun x5 ex5 => ?_)
  have hx5 : x5.toInt = i.toInt + 3 := z_add ex5 rfl (show (3 : Int32).toInt = 3 by decide) (by omega)
  refine va_sld hx hb hX hbl hbA hS (z_in (by omega)) dL_law_1304 ?_
  refine lv_topi (fun y6 ey6 => ?_)
  refine lv_aload_n hx hb dL_law_1305 rfl (lv_at hl 3 rfl) ?_
  refine lv_iload_n hx hb dL_law_1306 rfl (lv_at hl 0 rfl) ?_
  refine lv_iconst (v := 4) hx hb dL_law_1307 (by decide) ?_
  refine lv_iadd hx hb dL_law_1308 ?_
  refine lv_topi (fun x7 ex7 => ?_)
  have hx7 : x7.toInt = i.toInt + 4 := z_add ex7 rfl (show (4 : Int32).toInt = 4 by decide) (by omega)
  refine va_sld hx hb hX hbl hbA hS (z_in (by omega)) dL_law_1309 ?_
  refine lv_topi (fun y8 ey8 => ?_)
  refine zcL_i (wx := zX k q zx) (wm := zM k q2 zm) (va_runV (As := [.int y2, .int y4, .int y6, .int y8]) (rest := []) ⟨hx, hb, hml, hown, htb⟩ (c_X6_put l dC dI k q zx y2 y4 y6 y8 _ hI) (cwV 4 htb (gzV wmt3_105 wmt3_106 wmt3_107 wmt1_1 wmt3_108) rfl rfl rfl (by decide +kernel) ⟨Nat.le_of_ble_eq_true rfl, Nat.le_of_ble_eq_true rfl⟩) (zpA_V (ci := 6) (q0 := 0) hK (z_PL hP) (z_DL (hDa zx zm)) rfl rfl) rfl rfl hl.1 rfl (lv_room (Nat.le_of_ble_eq_true rfl)) dL_law_1310 ⟨Nat.le_of_ble_eq_true rfl, Nat.le_of_ble_eq_true rfl⟩) hP (hDa _ _) hS hA (fun r9 u10 H locs w11 hP hS => ?_)
  obtain ⟨f12, f13⟩ := w11
  have hI : XInv u10 := f12
  refine lv_pop hx hb dL_law_1313 rfl ?_
  refine lv_aload_n hx hb dL_law_1314 rfl (lv_at hl 1 rfl) ?_
  refine lv_aload_n hx hb dL_law_1315 rfl (lv_at hl 3 rfl) ?_
  refine lv_iload_n hx hb dL_law_1316 rfl (lv_at hl 0 rfl) ?_
  refine lv_iconst (v := 1) hx hb dL_law_1317 (by decide) ?_
  refine lv_iadd hx hb dL_law_1318 ?_
  refine lv_topi (fun x14 ex14 => ?_)
  have hx14 : x14.toInt = i.toInt + 1 := z_add ex14 rfl (show (1 : Int32).toInt = 1 by decide) (by omega)
  refine va_sld hx hb hX hbl hbA hS (z_in (by omega)) dL_law_1319 ?_
  refine lv_topi (fun y15 ey15 => ?_)
  have qy15 : y2 = y15 := by rw [ey15, ey2, ex14, ex1]
  subst qy15
  refine lv_aload_n hx hb dL_law_1320 rfl (lv_at hl 3 rfl) ?_
  refine lv_iload_n hx hb dL_law_1321 rfl (lv_at hl 0 rfl) ?_
  refine lv_iconst (v := 2) hx hb dL_law_1322 (by decide) ?_
  refine lv_iadd hx hb dL_law_1323 ?_
  refine lv_topi (fun x16 ex16 => ?_)
  have hx16 : x16.toInt = i.toInt + 2 := z_add ex16 rfl (show (2 : Int32).toInt = 2 by decide) (by omega)
  refine va_sld hx hb hX hbl hbA hS (z_in (by omega)) dL_law_1324 ?_
  refine lv_topi (fun y17 ey17 => ?_)
  have qy17 : y4 = y17 := by rw [ey17, ey4, ex16, ex3]
  subst qy17
  refine lv_aload_n hx hb dL_law_1325 rfl (lv_at hl 3 rfl) ?_
  refine lv_iload_n hx hb dL_law_1326 rfl (lv_at hl 0 rfl) ?_
  refine lv_iconst (v := 3) hx hb dL_law_1327 (by decide) ?_
  refine lv_iadd hx hb dL_law_1328 ?_
  refine lv_topi (fun x18 ex18 => ?_)
  have hx18 : x18.toInt = i.toInt + 3 := z_add ex18 rfl (show (3 : Int32).toInt = 3 by decide) (by omega)
  refine va_sld hx hb hX hbl hbA hS (z_in (by omega)) dL_law_1329 ?_
  refine lv_topi (fun y19 ey19 => ?_)
  have qy19 : y6 = y19 := by rw [ey19, ey6, ex18, ex5]
  subst qy19
  refine lv_aload_n hx hb dL_law_1330 rfl (lv_at hl 3 rfl) ?_
  refine lv_iload_n hx hb dL_law_1331 rfl (lv_at hl 0 rfl) ?_
  refine lv_iconst (v := 4) hx hb dL_law_1332 (by decide) ?_
  refine lv_iadd hx hb dL_law_1333 ?_
  refine lv_topi (fun x20 ex20 => ?_)
  have hx20 : x20.toInt = i.toInt + 4 := z_add ex20 rfl (show (4 : Int32).toInt = 4 by decide) (by omega)
  refine va_sld hx hb hX hbl hbA hS (z_in (by omega)) dL_law_1334 ?_
  refine lv_topi (fun y21 ey21 => ?_)
  have qy21 : y8 = y21 := by rw [ey21, ey8, ex20, ex7]
  subst qy21
  refine zcR_i (wx := zX k q u10) (wm := zM k q2 zm) (va_runV (As := [.int y2, .int y4, .int y6, .int y8]) (rest := []) ⟨hx, hb, hml, hown, htb⟩ (c_X7_put l dC dI k q2 zm y2 y4 y6 y8 _ hM h3) (cwV 4 htb (gzV wmt5_102 wmt5_103 wmt5_104 wmt1_8 wmt5_105) rfl rfl rfl (by decide +kernel) ⟨Nat.le_of_ble_eq_true rfl, Nat.le_of_ble_eq_true rfl⟩) (zpA_V (ci := 7) (q0 := 0) hK (z_PR hP) (z_DR (hDa u10 zm)) rfl rfl) rfl rfl hl.1 rfl (lv_room (Nat.le_of_ble_eq_true rfl)) dL_law_1335 ⟨Nat.le_of_ble_eq_true rfl, Nat.le_of_ble_eq_true rfl⟩) hP (hDa _ _) hS hA (fun r22 u23 H locs w24 hP hS => ?_)
  obtain ⟨o25, o26⟩ := u23
  obtain ⟨f27, f28⟩ := w24
  obtain ⟨z29, ez29⟩ : ∃ x : ZS, x = (sI (sA zm 39 o25) 41 o26) := ⟨_, rfl⟩
  have hP : va_P (dC, dI) vwCl (zX k q u10 ++ zM k q2 z29) H := by rw [ez29]; exact hP
  have hM : MInv z29 := by rw [ez29]; exact f27
  have h3 : T3 (z29.2.2.1 37) := by rw [ez29]; exact h3
  have hp2 : (r22, trM z29) = tPut2 (trM zm) y2 y4 y6 y8 := by rw [ez29]; exact f28
  have hpp : (r9, trX u10) = (r22, trM z29) := by rw [hp2, ← hT]; exact f13
  have hrr : r9 = r22 := (Prod.mk.inj hpp).1
  have hT : trX u10 = trM z29 := (Prod.mk.inj hpp).2
  refine lv_pop hx hb dL_law_1338 rfl ?_
  refine lv_goto (tgt := 1517) hx hb dL_law_1339 (by decide) ?_
  exact kk _ _ H locs ⟨hI, hM, h3, hT⟩ hP hS
set_option maxHeartbeats 4000000 in
set_option maxRecDepth 100000 in
theorem lw_c32 {p : Program} {l : Launch} {e : Env} {s : State} {m : MethodId} {below : List Frame} {meth : Method} {c : Code} {b L : Nat} {xs : Nat → Int32} {dC : Nat → ClassId} {dI : Nat → Nat → Nat} {k : Nat → ClassId} {q q2 : Nat → Nat} (hL : L ≤ 3072) (C0 : lw_At p s m meth c b L xs) (hK : zK dC dI k (zTX k) s) (hDa : ∀ z1 z2 : ZS, va_D (fun a : Nat => s.heap.size ≤ a) (zX k q z1 ++ zM k q2 z2)) {zx zm : ZS} (hJ : J2 zx zm) {i : Int32} (hi : 0 ≤ i.toInt ∧ i.toInt + 6 ≤ (L : Int)) {H : Heap} {locs : List Loc} (hP : va_P (dC, dI) vwCl (zX k q zx ++ zM k q2 zm) H) (hS : va_S (fun a : Nat => s.heap.size ≤ a) s.heap H locs) {ls : Array Slot} (hl : lv_has ls 4 [(3, .int i), (2, .ref (q2 0)), (1, .ref (q 0)), (0, .ref b)]) (kk : ∀ (z1 z2 : ZS) (H : Heap) (locs : List Loc), J2 z1 z2 → va_P (dC, dI) vwCl (zX k q z1 ++ zM k q2 z2) H → va_S (fun a : Nat => s.heap.size ≤ a) s.heap H locs → W p l e room_1 s m #[Value.ref b] below meth c H locs 1000 10000 (lw_Z below #[Value.ref b] s) (F0 m 1517 ls [])) : W p l e room_1 s m #[Value.ref b] below meth c H locs 1000 10000 (lw_Z below #[Value.ref b] s) (F0 m 1342 ls []) := by
  obtain ⟨hI, hM, h3, hT⟩ := hJ
  have hT0 := hT
  obtain ⟨hx, hb, hr, hml, hown, hts0, hX, hbl, hlocks, hgv⟩ := id C0
  have htb : ∀ w ∈ zw, w.before #[Value.ref b] s = true := fun w h => hts0 w (List.mem_filter.mp h).1
  have hA : ∀ q : Nat, s.heap.size ≤ q → (fun a : Nat => s.heap.size ≤ a) q := fun _ h => h
  have hbA : ¬ (fun a : Nat => s.heap.size ≤ a) b := Nat.not_le.mpr hbl
  refine lv_aload_n hx hb dL_law_1342 rfl (lv_at hl 2 rfl) ?_
  refine lv_aload_n hx hb dL_law_1343 rfl (lv_at hl 3 rfl) ?_
  refine lv_iload_n hx hb dL_law_1344 rfl (lv_at hl 0 rfl) ?_
  refine lv_iconst (v := 1) hx hb dL_law_1345 (by decide) ?_
  refine lv_iadd hx hb dL_law_1346 ?_
  refine lv_topi (fun x1 ex1 => ?_)
  have hx1 : x1.toInt = i.toInt + 1 := z_add ex1 rfl (show (1 : Int32).toInt = 1 by decide) (by omega)
  refine va_sld hx hb hX hbl hbA hS (z_in (by omega)) dL_law_1347 ?_
  refine lv_topi (fun y2 ey2 => ?_)
  refine lv_aload_n hx hb dL_law_1348 rfl (lv_at hl 3 rfl) ?_
  refine lv_iload_n hx hb dL_law_1349 rfl (lv_at hl 0 rfl) ?_
  refine lv_iconst (v := 2) hx hb dL_law_1350 (by decide) ?_
  refine lv_iadd hx hb dL_law_1351 ?_
  refine lv_topi (fun x3 ex3 => ?_)
  have hx3 : x3.toInt = i.toInt + 2 := z_add ex3 rfl (show (2 : Int32).toInt = 2 by decide) (by omega)
  refine va_sld hx hb hX hbl hbA hS (z_in (by omega)) dL_law_1352 ?_
  refine lv_topi (fun y4 ey4 => ?_)
  refine lv_aload_n hx hb dL_law_1353 rfl (lv_at hl 3 rfl) ?_
  refine lv_iload_n hx hb dL_law_1354 rfl (lv_at hl 0 rfl) ?_
  refine lv_iconst (v := 3) hx hb dL_law_1355 (by decide) ?_
  refine lv_iadd hx hb dL_law_1356 ?_
  refine lv_topi (fun x5 ex5 => ?_)
  have hx5 : x5.toInt = i.toInt + 3 := z_add ex5 rfl (show (3 : Int32).toInt = 3 by decide) (by omega)
  refine va_sld hx hb hX hbl hbA hS (z_in (by omega)) dL_law_1357 ?_
  refine lv_topi (fun y6 ey6 => ?_)
  refine zcL_i (wx := zX k q zx) (wm := zM k q2 zm) (va_runV (As := [.int y2, .int y4, .int y6]) (rest := []) ⟨hx, hb, hml, hown, htb⟩ (c_X6_get l dC dI k q zx y2 y4 y6 _ hI) (cwV 3 htb (gzV wmt3_120 wmt3_121 wmt3_122 wmt1_1 wmt3_123) rfl rfl rfl (by decide +kernel) ⟨Nat.le_of_ble_eq_true rfl, Nat.le_of_ble_eq_true rfl⟩) (zpA_V (ci := 6) (q0 := 0) hK (z_PL hP) (z_DL (hDa zx zm)) rfl rfl) rfl rfl hl.1 rfl (lv_room (Nat.le_of_ble_eq_true rfl)) dL_law_1358 ⟨Nat.le_of_ble_eq_true rfl, Nat.le_of_ble_eq_true rfl⟩) hP (hDa _ _) hS hA (fun r7 u8 H locs w9 hP hS => ?_)
  obtain ⟨f10, f11⟩ := w9
  have hI : XInv u8 := f10
  have hT : trX u8 = trM zm := f11.trans hT
  refine lv_pop hx hb dL_law_1361 rfl ?_
  refine lv_aload_n hx hb dL_law_1362 rfl (lv_at hl 1 rfl) ?_
  refine lv_aload_n hx hb dL_law_1363 rfl (lv_at hl 3 rfl) ?_
  refine lv_iload_n hx hb dL_law_1364 rfl (lv_at hl 0 rfl) ?_
  refine lv_iconst (v := 1) hx hb dL_law_1365 (by decide) ?_
  refine lv_iadd hx hb dL_law_1366 ?_
  refine lv_topi (fun x12 ex12 => ?_)
  have hx12 : x12.toInt = i.toInt + 1 := z_add ex12 rfl (show (1 : Int32).toInt = 1 by decide) (by omega)
  refine va_sld hx hb hX hbl hbA hS (z_in (by omega)) dL_law_1367 ?_
  refine lv_topi (fun y13 ey13 => ?_)
  have qy13 : y2 = y13 := by rw [ey13, ey2, ex12, ex1]
  subst qy13
  refine lv_aload_n hx hb dL_law_1368 rfl (lv_at hl 3 rfl) ?_
  refine lv_iload_n hx hb dL_law_1369 rfl (lv_at hl 0 rfl) ?_
  refine lv_iconst (v := 2) hx hb dL_law_1370 (by decide) ?_
  refine lv_iadd hx hb dL_law_1371 ?_
  refine lv_topi (fun x14 ex14 => ?_)
  have hx14 : x14.toInt = i.toInt + 2 := z_add ex14 rfl (show (2 : Int32).toInt = 2 by decide) (by omega)
  refine va_sld hx hb hX hbl hbA hS (z_in (by omega)) dL_law_1372 ?_
  refine lv_topi (fun y15 ey15 => ?_)
  have qy15 : y4 = y15 := by rw [ey15, ey4, ex14, ex3]
  subst qy15
  refine lv_aload_n hx hb dL_law_1373 rfl (lv_at hl 3 rfl) ?_
  refine lv_iload_n hx hb dL_law_1374 rfl (lv_at hl 0 rfl) ?_
  refine lv_iconst (v := 3) hx hb dL_law_1375 (by decide) ?_
  refine lv_iadd hx hb dL_law_1376 ?_
  refine lv_topi (fun x16 ex16 => ?_)
  have hx16 : x16.toInt = i.toInt + 3 := z_add ex16 rfl (show (3 : Int32).toInt = 3 by decide) (by omega)
  refine va_sld hx hb hX hbl hbA hS (z_in (by omega)) dL_law_1377 ?_
  refine lv_topi (fun y17 ey17 => ?_)
  have qy17 : y6 = y17 := by rw [ey17, ey6, ex16, ex5]
  subst qy17
  refine zcR_i (wx := zX k q u8) (wm := zM k q2 zm) (va_runV (As := [.int y2, .int y4, .int y6]) (rest := []) ⟨hx, hb, hml, hown, htb⟩ (c_X7_get l dC dI k q2 zm y2 y4 y6 _ hM) (cwV 3 htb (gzV wmt5_114 wmt5_115 wmt5_116 wmt1_8 wmt5_117) rfl rfl rfl (by decide +kernel) ⟨Nat.le_of_ble_eq_true rfl, Nat.le_of_ble_eq_true rfl⟩) (zpA_V (ci := 7) (q0 := 0) hK (z_PR hP) (z_DR (hDa u8 zm)) rfl rfl) rfl rfl hl.1 rfl (lv_room (Nat.le_of_ble_eq_true rfl)) dL_law_1378 ⟨Nat.le_of_ble_eq_true rfl, Nat.le_of_ble_eq_true rfl⟩) hP (hDa _ _) hS hA (fun r18 u19 H locs w20 hP hS => ?_)
  obtain ⟨o21, rfl⟩ : ∃ y, y = u19 := ⟨_, rfl⟩
  have f22 := w20
  obtain ⟨z23, ez23⟩ : ∃ x : ZS, x = (sI zm 41 o21) := ⟨_, rfl⟩
  have hP : va_P (dC, dI) vwCl (zX k q u8 ++ zM k q2 z23) H := by rw [ez23]; exact hP
  have hM : MInv z23 := by rw [ez23]; exact f22
  have h3 : T3 (z23.2.2.1 37) := by rw [ez23]; exact h3
  have hT : trX u8 = trM z23 := by rw [ez23]; exact hT
  refine lv_pop hx hb dL_law_1381 rfl ?_
  refine lv_goto (tgt := 1517) hx hb dL_law_1382 (by decide) ?_
  exact kk _ _ H locs ⟨hI, hM, h3, hT⟩ hP hS
set_option maxHeartbeats 4000000 in
set_option maxRecDepth 100000 in
theorem lw_c33 {p : Program} {l : Launch} {e : Env} {s : State} {m : MethodId} {below : List Frame} {meth : Method} {c : Code} {b L : Nat} {xs : Nat → Int32} {dC : Nat → ClassId} {dI : Nat → Nat → Nat} {k : Nat → ClassId} {q q2 : Nat → Nat} (hL : L ≤ 3072) (C0 : lw_At p s m meth c b L xs) (hK : zK dC dI k (zTX k) s) (hDa : ∀ z1 z2 : ZS, va_D (fun a : Nat => s.heap.size ≤ a) (zX k q z1 ++ zM k q2 z2)) {zx zm : ZS} (hJ : J2 zx zm) {i : Int32} (hi : 0 ≤ i.toInt ∧ i.toInt + 6 ≤ (L : Int)) {H : Heap} {locs : List Loc} (hP : va_P (dC, dI) vwCl (zX k q zx ++ zM k q2 zm) H) (hS : va_S (fun a : Nat => s.heap.size ≤ a) s.heap H locs) {ls : Array Slot} (hl : lv_has ls 4 [(3, .int i), (2, .ref (q2 0)), (1, .ref (q 0)), (0, .ref b)]) (kk : ∀ (z1 z2 : ZS) (H : Heap) (locs : List Loc), J2 z1 z2 → va_P (dC, dI) vwCl (zX k q z1 ++ zM k q2 z2) H → va_S (fun a : Nat => s.heap.size ≤ a) s.heap H locs → W p l e room_1 s m #[Value.ref b] below meth c H locs 1000 10000 (lw_Z below #[Value.ref b] s) (F0 m 1517 ls [])) : W p l e room_1 s m #[Value.ref b] below meth c H locs 1000 10000 (lw_Z below #[Value.ref b] s) (F0 m 1385 ls []) := by
  obtain ⟨hI, hM, h3, hT⟩ := hJ
  have hT0 := hT
  obtain ⟨hx, hb, hr, hml, hown, hts0, hX, hbl, hlocks, hgv⟩ := id C0
  have htb : ∀ w ∈ zw, w.before #[Value.ref b] s = true := fun w h => hts0 w (List.mem_filter.mp h).1
  have hA : ∀ q : Nat, s.heap.size ≤ q → (fun a : Nat => s.heap.size ≤ a) q := fun _ h => h
  have hbA : ¬ (fun a : Nat => s.heap.size ≤ a) b := Nat.not_le.mpr hbl
  refine lv_aload_n hx hb dL_law_1385 rfl (lv_at hl 2 rfl) ?_
  refine lv_aload_n hx hb dL_law_1386 rfl (lv_at hl 3 rfl) ?_
  refine lv_iload_n hx hb dL_law_1387 rfl (lv_at hl 0 rfl) ?_
  refine lv_iconst (v := 1) hx hb dL_law_1388 (by decide) ?_
  refine lv_iadd hx hb dL_law_1389 ?_
  refine lv_topi (fun x1 ex1 => ?_)
  have hx1 : x1.toInt = i.toInt + 1 := z_add ex1 rfl (show (1 : Int32).toInt = 1 by decide) (by omega)
  refine va_sld hx hb hX hbl hbA hS (z_in (by omega)) dL_law_1390 ?_
  refine lv_topi (fun y2 ey2 => ?_)
  refine lv_aload_n hx hb dL_law_1391 rfl (lv_at hl 3 rfl) ?_
  refine lv_iload_n hx hb dL_law_1392 rfl (lv_at hl 0 rfl) ?_
  refine lv_iconst (v := 2) hx hb dL_law_1393 (by decide) ?_
  refine lv_iadd hx hb dL_law_1394 ?_
  refine lv_topi (fun x3 ex3 => ?_)
  have hx3 : x3.toInt = i.toInt + 2 := z_add ex3 rfl (show (2 : Int32).toInt = 2 by decide) (by omega)
  refine va_sld hx hb hX hbl hbA hS (z_in (by omega)) dL_law_1395 ?_
  refine lv_topi (fun y4 ey4 => ?_)
  refine lv_aload_n hx hb dL_law_1396 rfl (lv_at hl 3 rfl) ?_
  refine lv_iload_n hx hb dL_law_1397 rfl (lv_at hl 0 rfl) ?_
  refine lv_iconst (v := 3) hx hb dL_law_1398 (by decide) ?_
  refine lv_iadd hx hb dL_law_1399 ?_
  refine lv_topi (fun x5 ex5 => ?_)
  have hx5 : x5.toInt = i.toInt + 3 := z_add ex5 rfl (show (3 : Int32).toInt = 3 by decide) (by omega)
  refine va_sld hx hb hX hbl hbA hS (z_in (by omega)) dL_law_1400 ?_
  refine lv_topi (fun y6 ey6 => ?_)
  refine lv_aload_n hx hb dL_law_1401 rfl (lv_at hl 3 rfl) ?_
  refine lv_iload_n hx hb dL_law_1402 rfl (lv_at hl 0 rfl) ?_
  refine lv_iconst (v := 4) hx hb dL_law_1403 (by decide) ?_
  refine lv_iadd hx hb dL_law_1404 ?_
  refine lv_topi (fun x7 ex7 => ?_)
  have hx7 : x7.toInt = i.toInt + 4 := z_add ex7 rfl (show (4 : Int32).toInt = 4 by decide) (by omega)
  refine va_sld hx hb hX hbl hbA hS (z_in (by omega)) dL_law_1405 ?_
  refine lv_topi (fun y8 ey8 => ?_)
  refine lv_aload_n hx hb dL_law_1406 rfl (lv_at hl 3 rfl) ?_
  refine lv_iload_n hx hb dL_law_1407 rfl (lv_at hl 0 rfl) ?_
  refine lv_iconst (v := 5) hx hb dL_law_1408 (by decide) ?_
  refine lv_iadd hx hb dL_law_1409 ?_
  refine lv_topi (fun x9 ex9 => ?_)
  have hx9 : x9.toInt = i.toInt + 5 := z_add ex9 rfl (show (5 : Int32).toInt = 5 by decide) (by omega)
  refine va_sld hx hb hX hbl hbA hS (z_in (by omega)) dL_law_1410 ?_
  refine lv_topi (fun y10 ey10 => ?_)
  refine zcL_i (wx := zX k q zx) (wm := zM k q2 zm) (va_runV (As := [.int y2, .int y4, .int y6, .int y8, .int y10]) (rest := []) ⟨hx, hb, hml, hown, htb⟩ (c_X6_copy l dC dI k q zx y2 y4 y6 y8 y10 _ hI) (cwV 5 htb (gzV wmt3_125 wmt3_126 wmt3_127 wmt1_1 wmt3_128) rfl rfl rfl (by decide +kernel) ⟨Nat.le_of_ble_eq_true rfl, Nat.le_of_ble_eq_true rfl⟩) (zpA_V (ci := 6) (q0 := 0) hK (z_PL hP) (z_DL (hDa zx zm)) rfl rfl) rfl rfl hl.1 rfl (lv_room (Nat.le_of_ble_eq_true rfl)) dL_law_1411 ⟨Nat.le_of_ble_eq_true rfl, Nat.le_of_ble_eq_true rfl⟩) hP (hDa _ _) hS hA (fun r11 u12 H locs w13 hP hS => ?_)
  obtain ⟨f14, f15⟩ := w13
  have hI : XInv u12 := f14
  refine lv_pop hx hb dL_law_1414 rfl ?_
  refine lv_aload_n hx hb dL_law_1415 rfl (lv_at hl 1 rfl) ?_
  refine lv_aload_n hx hb dL_law_1416 rfl (lv_at hl 3 rfl) ?_
  refine lv_iload_n hx hb dL_law_1417 rfl (lv_at hl 0 rfl) ?_
  refine lv_iconst (v := 1) hx hb dL_law_1418 (by decide) ?_
  refine lv_iadd hx hb dL_law_1419 ?_
  refine lv_topi (fun x16 ex16 => ?_)
  have hx16 : x16.toInt = i.toInt + 1 := z_add ex16 rfl (show (1 : Int32).toInt = 1 by decide) (by omega)
  refine va_sld hx hb hX hbl hbA hS (z_in (by omega)) dL_law_1420 ?_
  refine lv_topi (fun y17 ey17 => ?_)
  have qy17 : y2 = y17 := by rw [ey17, ey2, ex16, ex1]
  subst qy17
  refine lv_aload_n hx hb dL_law_1421 rfl (lv_at hl 3 rfl) ?_
  refine lv_iload_n hx hb dL_law_1422 rfl (lv_at hl 0 rfl) ?_
  refine lv_iconst (v := 2) hx hb dL_law_1423 (by decide) ?_
  refine lv_iadd hx hb dL_law_1424 ?_
  refine lv_topi (fun x18 ex18 => ?_)
  have hx18 : x18.toInt = i.toInt + 2 := z_add ex18 rfl (show (2 : Int32).toInt = 2 by decide) (by omega)
  refine va_sld hx hb hX hbl hbA hS (z_in (by omega)) dL_law_1425 ?_
  refine lv_topi (fun y19 ey19 => ?_)
  have qy19 : y4 = y19 := by rw [ey19, ey4, ex18, ex3]
  subst qy19
  refine lv_aload_n hx hb dL_law_1426 rfl (lv_at hl 3 rfl) ?_
  refine lv_iload_n hx hb dL_law_1427 rfl (lv_at hl 0 rfl) ?_
  refine lv_iconst (v := 3) hx hb dL_law_1428 (by decide) ?_
  refine lv_iadd hx hb dL_law_1429 ?_
  refine lv_topi (fun x20 ex20 => ?_)
  have hx20 : x20.toInt = i.toInt + 3 := z_add ex20 rfl (show (3 : Int32).toInt = 3 by decide) (by omega)
  refine va_sld hx hb hX hbl hbA hS (z_in (by omega)) dL_law_1430 ?_
  refine lv_topi (fun y21 ey21 => ?_)
  have qy21 : y6 = y21 := by rw [ey21, ey6, ex20, ex5]
  subst qy21
  refine lv_aload_n hx hb dL_law_1431 rfl (lv_at hl 3 rfl) ?_
  refine lv_iload_n hx hb dL_law_1432 rfl (lv_at hl 0 rfl) ?_
  refine lv_iconst (v := 4) hx hb dL_law_1433 (by decide) ?_
  refine lv_iadd hx hb dL_law_1434 ?_
  refine lv_topi (fun x22 ex22 => ?_)
  have hx22 : x22.toInt = i.toInt + 4 := z_add ex22 rfl (show (4 : Int32).toInt = 4 by decide) (by omega)
  refine va_sld hx hb hX hbl hbA hS (z_in (by omega)) dL_law_1435 ?_
  refine lv_topi (fun y23 ey23 => ?_)
  have qy23 : y8 = y23 := by rw [ey23, ey8, ex22, ex7]
  subst qy23
  refine lv_aload_n hx hb dL_law_1436 rfl (lv_at hl 3 rfl) ?_
  refine lv_iload_n hx hb dL_law_1437 rfl (lv_at hl 0 rfl) ?_
  refine lv_iconst (v := 5) hx hb dL_law_1438 (by decide) ?_
  refine lv_iadd hx hb dL_law_1439 ?_
  refine lv_topi (fun x24 ex24 => ?_)
  have hx24 : x24.toInt = i.toInt + 5 := z_add ex24 rfl (show (5 : Int32).toInt = 5 by decide) (by omega)
  refine va_sld hx hb hX hbl hbA hS (z_in (by omega)) dL_law_1440 ?_
  refine lv_topi (fun y25 ey25 => ?_)
  have qy25 : y10 = y25 := by rw [ey25, ey10, ex24, ex9]
  subst qy25
  refine zcR_i (wx := zX k q u12) (wm := zM k q2 zm) (va_runV (As := [.int y2, .int y4, .int y6, .int y8, .int y10]) (rest := []) ⟨hx, hb, hml, hown, htb⟩ (c_X7_copy l dC dI k q2 zm y2 y4 y6 y8 y10 _ hM h3) (cwV 5 htb (gzV wmt5_119 wmt5_120 wmt5_121 wmt1_8 wmt5_122) rfl rfl rfl (by decide +kernel) ⟨Nat.le_of_ble_eq_true rfl, Nat.le_of_ble_eq_true rfl⟩) (zpA_V (ci := 7) (q0 := 0) hK (z_PR hP) (z_DR (hDa u12 zm)) rfl rfl) rfl rfl hl.1 rfl (lv_room (Nat.le_of_ble_eq_true rfl)) dL_law_1441 ⟨Nat.le_of_ble_eq_true rfl, Nat.le_of_ble_eq_true rfl⟩) hP (hDa _ _) hS hA (fun r26 u27 H locs w28 hP hS => ?_)
  obtain ⟨o29, o30, o31⟩ := u27
  obtain ⟨f32, f33⟩ := w28
  obtain ⟨z34, ez34⟩ : ∃ x : ZS, x = (sI (sA (sA zm 39 o29) 40 o30) 41 o31) := ⟨_, rfl⟩
  have hP : va_P (dC, dI) vwCl (zX k q u12 ++ zM k q2 z34) H := by rw [ez34]; exact hP
  have hM : MInv z34 := by rw [ez34]; exact f32
  have h3 : T3 (z34.2.2.1 37) := by rw [ez34]; exact h3
  have hp2 : (r26, trM z34) = tCopy2 (trM zm) y2 y4 y6 y8 y10 := by rw [ez34]; exact f33
  have hpp : (r11, trX u12) = (r26, trM z34) := by rw [hp2, ← hT]; exact f15
  have hrr : r11 = r26 := (Prod.mk.inj hpp).1
  have hT : trX u12 = trM z34 := (Prod.mk.inj hpp).2
  refine lv_pop hx hb dL_law_1444 rfl ?_
  refine lv_goto (tgt := 1517) hx hb dL_law_1445 (by decide) ?_
  exact kk _ _ H locs ⟨hI, hM, h3, hT⟩ hP hS
set_option maxHeartbeats 4000000 in
set_option maxRecDepth 100000 in
theorem lw_c34 {p : Program} {l : Launch} {e : Env} {s : State} {m : MethodId} {below : List Frame} {meth : Method} {c : Code} {b L : Nat} {xs : Nat → Int32} {dC : Nat → ClassId} {dI : Nat → Nat → Nat} {k : Nat → ClassId} {q q2 : Nat → Nat} (hL : L ≤ 3072) (C0 : lw_At p s m meth c b L xs) (hK : zK dC dI k (zTX k) s) (hDa : ∀ z1 z2 : ZS, va_D (fun a : Nat => s.heap.size ≤ a) (zX k q z1 ++ zM k q2 z2)) {zx zm : ZS} (hJ : J2 zx zm) {i : Int32} (hi : 0 ≤ i.toInt ∧ i.toInt + 6 ≤ (L : Int)) {H : Heap} {locs : List Loc} (hP : va_P (dC, dI) vwCl (zX k q zx ++ zM k q2 zm) H) (hS : va_S (fun a : Nat => s.heap.size ≤ a) s.heap H locs) {ls : Array Slot} (hl : lv_has ls 4 [(3, .int i), (2, .ref (q2 0)), (1, .ref (q 0)), (0, .ref b)]) (kk : ∀ (z1 z2 : ZS) (H : Heap) (locs : List Loc), J2 z1 z2 → va_P (dC, dI) vwCl (zX k q z1 ++ zM k q2 z2) H → va_S (fun a : Nat => s.heap.size ≤ a) s.heap H locs → W p l e room_1 s m #[Value.ref b] below meth c H locs 1000 10000 (lw_Z below #[Value.ref b] s) (F0 m 1517 ls [])) : W p l e room_1 s m #[Value.ref b] below meth c H locs 1000 10000 (lw_Z below #[Value.ref b] s) (F0 m 1448 ls []) := by
  obtain ⟨hI, hM, h3, hT⟩ := hJ
  have hT0 := hT
  obtain ⟨hx, hb, hr, hml, hown, hts0, hX, hbl, hlocks, hgv⟩ := id C0
  have htb : ∀ w ∈ zw, w.before #[Value.ref b] s = true := fun w h => hts0 w (List.mem_filter.mp h).1
  have hA : ∀ q : Nat, s.heap.size ≤ q → (fun a : Nat => s.heap.size ≤ a) q := fun _ h => h
  have hbA : ¬ (fun a : Nat => s.heap.size ≤ a) b := Nat.not_le.mpr hbl
  refine lv_aload_n hx hb dL_law_1448 rfl (lv_at hl 2 rfl) ?_
  refine lv_aload_n hx hb dL_law_1449 rfl (lv_at hl 3 rfl) ?_
  refine lv_iload_n hx hb dL_law_1450 rfl (lv_at hl 0 rfl) ?_
  refine lv_iconst (v := 1) hx hb dL_law_1451 (by decide) ?_
  refine lv_iadd hx hb dL_law_1452 ?_
  refine lv_topi (fun x1 ex1 => ?_)
  have hx1 : x1.toInt = i.toInt + 1 := z_add ex1 rfl (show (1 : Int32).toInt = 1 by decide) (by omega)
  refine va_sld hx hb hX hbl hbA hS (z_in (by omega)) dL_law_1453 ?_
  refine lv_topi (fun y2 ey2 => ?_)
  refine lv_aload_n hx hb dL_law_1454 rfl (lv_at hl 3 rfl) ?_
  refine lv_iload_n hx hb dL_law_1455 rfl (lv_at hl 0 rfl) ?_
  refine lv_iconst (v := 2) hx hb dL_law_1456 (by decide) ?_
  refine lv_iadd hx hb dL_law_1457 ?_
  refine lv_topi (fun x3 ex3 => ?_)
  have hx3 : x3.toInt = i.toInt + 2 := z_add ex3 rfl (show (2 : Int32).toInt = 2 by decide) (by omega)
  refine va_sld hx hb hX hbl hbA hS (z_in (by omega)) dL_law_1458 ?_
  refine lv_topi (fun y4 ey4 => ?_)
  refine zcL_i (wx := zX k q zx) (wm := zM k q2 zm) (va_runV (As := [.int y2, .int y4]) (rest := []) ⟨hx, hb, hml, hown, htb⟩ (c_X6_write l dC dI k q zx y2 y4 _ hI) (cwV 2 htb (gzV wmt3_132 wmt3_133 wmt3_134 wmt1_1 wmt3_135) rfl rfl rfl (by decide +kernel) ⟨Nat.le_of_ble_eq_true rfl, Nat.le_of_ble_eq_true rfl⟩) (zpA_V (ci := 6) (q0 := 0) hK (z_PL hP) (z_DL (hDa zx zm)) rfl rfl) rfl rfl hl.1 rfl (lv_room (Nat.le_of_ble_eq_true rfl)) dL_law_1459 ⟨Nat.le_of_ble_eq_true rfl, Nat.le_of_ble_eq_true rfl⟩) hP (hDa _ _) hS hA (fun r5 u6 H locs w7 hP hS => ?_)
  obtain ⟨f8, f9⟩ := w7
  have hI : XInv u6 := f8
  refine lv_pop hx hb dL_law_1462 rfl ?_
  refine lv_aload_n hx hb dL_law_1463 rfl (lv_at hl 1 rfl) ?_
  refine lv_aload_n hx hb dL_law_1464 rfl (lv_at hl 3 rfl) ?_
  refine lv_iload_n hx hb dL_law_1465 rfl (lv_at hl 0 rfl) ?_
  refine lv_iconst (v := 1) hx hb dL_law_1466 (by decide) ?_
  refine lv_iadd hx hb dL_law_1467 ?_
  refine lv_topi (fun x10 ex10 => ?_)
  have hx10 : x10.toInt = i.toInt + 1 := z_add ex10 rfl (show (1 : Int32).toInt = 1 by decide) (by omega)
  refine va_sld hx hb hX hbl hbA hS (z_in (by omega)) dL_law_1468 ?_
  refine lv_topi (fun y11 ey11 => ?_)
  have qy11 : y2 = y11 := by rw [ey11, ey2, ex10, ex1]
  subst qy11
  refine lv_aload_n hx hb dL_law_1469 rfl (lv_at hl 3 rfl) ?_
  refine lv_iload_n hx hb dL_law_1470 rfl (lv_at hl 0 rfl) ?_
  refine lv_iconst (v := 2) hx hb dL_law_1471 (by decide) ?_
  refine lv_iadd hx hb dL_law_1472 ?_
  refine lv_topi (fun x12 ex12 => ?_)
  have hx12 : x12.toInt = i.toInt + 2 := z_add ex12 rfl (show (2 : Int32).toInt = 2 by decide) (by omega)
  refine va_sld hx hb hX hbl hbA hS (z_in (by omega)) dL_law_1473 ?_
  refine lv_topi (fun y13 ey13 => ?_)
  have qy13 : y4 = y13 := by rw [ey13, ey4, ex12, ex3]
  subst qy13
  refine zcR_i (wx := zX k q u6) (wm := zM k q2 zm) (va_runV (As := [.int y2, .int y4]) (rest := []) ⟨hx, hb, hml, hown, htb⟩ (c_X7_write l dC dI k q2 zm y2 y4 _ hM h3) (cwV 2 htb (gzV wmt5_123 wmt5_124 wmt5_125 wmt1_8 wmt5_126) rfl rfl rfl (by decide +kernel) ⟨Nat.le_of_ble_eq_true rfl, Nat.le_of_ble_eq_true rfl⟩) (zpA_V (ci := 7) (q0 := 0) hK (z_PR hP) (z_DR (hDa u6 zm)) rfl rfl) rfl rfl hl.1 rfl (lv_room (Nat.le_of_ble_eq_true rfl)) dL_law_1474 ⟨Nat.le_of_ble_eq_true rfl, Nat.le_of_ble_eq_true rfl⟩) hP (hDa _ _) hS hA (fun r14 u15 H locs w16 hP hS => ?_)
  obtain ⟨o17, o18, o19, o20, o21, o22, o23, o24, o25, o26, o27, o28, o29, o30, o31, o32, o33, o34, o35, o36⟩ := u15
  obtain ⟨f37, f38⟩ := w16
  obtain ⟨z39, ez39⟩ : ∃ x : ZS, x = (sI (sA (sA (sI (sJ (sJ (sA (sA (sA (sI (sI (sI (sI (sA (sA (sA (sA (sA (sA (sA zm 4 o17) 5 o18) 6 o19) 7 o20) 8 o21) 9 o22) 10 o23) 12 o24) 13 o25) 14 o26) 15 o27) 16 o28) 17 o29) 18 o30) 0 o31) 1 o32) 33 o33) 34 o34) 39 o35) 41 o36) := ⟨_, rfl⟩
  have hP : va_P (dC, dI) vwCl (zX k q u6 ++ zM k q2 z39) H := by rw [ez39]; exact hP
  have hM : MInv z39 := by rw [ez39]; exact f37
  have h3 : T3 (z39.2.2.1 37) := by rw [ez39]; exact h3
  have hp2 : (r14, trM z39) = tWrite2 (trM zm) y2 y4 := by rw [ez39]; exact f38
  have hpp : (r5, trX u6) = (r14, trM z39) := by rw [hp2, ← hT]; exact f9
  have hrr : r5 = r14 := (Prod.mk.inj hpp).1
  have hT : trX u6 = trM z39 := (Prod.mk.inj hpp).2
  refine lv_pop hx hb dL_law_1477 rfl ?_
  refine lv_goto (tgt := 1517) hx hb dL_law_1478 (by decide) ?_
  exact kk _ _ H locs ⟨hI, hM, h3, hT⟩ hP hS
set_option maxHeartbeats 4000000 in
set_option maxRecDepth 100000 in
theorem lw_c35 {p : Program} {l : Launch} {e : Env} {s : State} {m : MethodId} {below : List Frame} {meth : Method} {c : Code} {b L : Nat} {xs : Nat → Int32} {dC : Nat → ClassId} {dI : Nat → Nat → Nat} {k : Nat → ClassId} {q q2 : Nat → Nat} (hL : L ≤ 3072) (C0 : lw_At p s m meth c b L xs) (hK : zK dC dI k (zTX k) s) (hDa : ∀ z1 z2 : ZS, va_D (fun a : Nat => s.heap.size ≤ a) (zX k q z1 ++ zM k q2 z2)) {zx zm : ZS} (hJ : J2 zx zm) {i : Int32} (hi : 0 ≤ i.toInt ∧ i.toInt + 6 ≤ (L : Int)) {H : Heap} {locs : List Loc} (hP : va_P (dC, dI) vwCl (zX k q zx ++ zM k q2 zm) H) (hS : va_S (fun a : Nat => s.heap.size ≤ a) s.heap H locs) {ls : Array Slot} (hl : lv_has ls 4 [(3, .int i), (2, .ref (q2 0)), (1, .ref (q 0)), (0, .ref b)]) (kk : ∀ (z1 z2 : ZS) (H : Heap) (locs : List Loc), J2 z1 z2 → va_P (dC, dI) vwCl (zX k q z1 ++ zM k q2 z2) H → va_S (fun a : Nat => s.heap.size ≤ a) s.heap H locs → W p l e room_1 s m #[Value.ref b] below meth c H locs 1000 10000 (lw_Z below #[Value.ref b] s) (F0 m 1517 ls [])) : W p l e room_1 s m #[Value.ref b] below meth c H locs 1000 10000 (lw_Z below #[Value.ref b] s) (F0 m 1481 ls []) := by
  obtain ⟨hI, hM, h3, hT⟩ := hJ
  have hT0 := hT
  obtain ⟨hx, hb, hr, hml, hown, hts0, hX, hbl, hlocks, hgv⟩ := id C0
  have htb : ∀ w ∈ zw, w.before #[Value.ref b] s = true := fun w h => hts0 w (List.mem_filter.mp h).1
  have hA : ∀ q : Nat, s.heap.size ≤ q → (fun a : Nat => s.heap.size ≤ a) q := fun _ h => h
  have hbA : ¬ (fun a : Nat => s.heap.size ≤ a) b := Nat.not_le.mpr hbl
  refine lv_aload_n hx hb dL_law_1481 rfl (lv_at hl 2 rfl) ?_
  refine lv_aload_n hx hb dL_law_1482 rfl (lv_at hl 3 rfl) ?_
  refine lv_iload_n hx hb dL_law_1483 rfl (lv_at hl 0 rfl) ?_
  refine lv_iconst (v := 1) hx hb dL_law_1484 (by decide) ?_
  refine lv_iadd hx hb dL_law_1485 ?_
  refine lv_topi (fun x1 ex1 => ?_)
  have hx1 : x1.toInt = i.toInt + 1 := z_add ex1 rfl (show (1 : Int32).toInt = 1 by decide) (by omega)
  refine va_sld hx hb hX hbl hbA hS (z_in (by omega)) dL_law_1486 ?_
  refine lv_topi (fun y2 ey2 => ?_)
  refine zcL_i (wx := zX k q zx) (wm := zM k q2 zm) (va_runV (As := [.int y2]) (rest := []) ⟨hx, hb, hml, hown, htb⟩ (c_X6_count l dC dI k q zx y2 _ hI) (cwV 1 htb (gzV wmt3_136 wmt3_137 wmt3_138 wmt1_1 wmt3_139) rfl rfl rfl (by decide +kernel) ⟨Nat.le_of_ble_eq_true rfl, Nat.le_of_ble_eq_true rfl⟩) (zpA_V (ci := 6) (q0 := 0) hK (z_PL hP) (z_DL (hDa zx zm)) rfl rfl) rfl rfl hl.1 rfl (lv_room (Nat.le_of_ble_eq_true rfl)) dL_law_1487 ⟨Nat.le_of_ble_eq_true rfl, Nat.le_of_ble_eq_true rfl⟩) hP (hDa _ _) hS hA (fun r3 u4 H locs w5 hP hS => ?_)
  refine lv_pop hx hb dL_law_1490 rfl ?_
  refine lv_aload_n hx hb dL_law_1491 rfl (lv_at hl 1 rfl) ?_
  refine lv_aload_n hx hb dL_law_1492 rfl (lv_at hl 3 rfl) ?_
  refine lv_iload_n hx hb dL_law_1493 rfl (lv_at hl 0 rfl) ?_
  refine lv_iconst (v := 1) hx hb dL_law_1494 (by decide) ?_
  refine lv_iadd hx hb dL_law_1495 ?_
  refine lv_topi (fun x6 ex6 => ?_)
  have hx6 : x6.toInt = i.toInt + 1 := z_add ex6 rfl (show (1 : Int32).toInt = 1 by decide) (by omega)
  refine va_sld hx hb hX hbl hbA hS (z_in (by omega)) dL_law_1496 ?_
  refine lv_topi (fun y7 ey7 => ?_)
  have qy7 : y2 = y7 := by rw [ey7, ey2, ex6, ex1]
  subst qy7
  refine zcR_i (wx := zX k q zx) (wm := zM k q2 zm) (va_runV (As := [.int y2]) (rest := []) ⟨hx, hb, hml, hown, htb⟩ (c_X7_count l dC dI k q2 zm y2 _ hM) (cwV 1 htb (gzV wmt5_127 wmt5_128 wmt5_129 wmt1_8 wmt5_130) rfl rfl rfl (by decide +kernel) ⟨Nat.le_of_ble_eq_true rfl, Nat.le_of_ble_eq_true rfl⟩) (zpA_V (ci := 7) (q0 := 0) hK (z_PR hP) (z_DR (hDa zx zm)) rfl rfl) rfl rfl hl.1 rfl (lv_room (Nat.le_of_ble_eq_true rfl)) dL_law_1497 ⟨Nat.le_of_ble_eq_true rfl, Nat.le_of_ble_eq_true rfl⟩) hP (hDa _ _) hS hA (fun r8 u9 H locs w10 hP hS => ?_)
  refine lv_pop hx hb dL_law_1500 rfl ?_
  refine lv_goto (tgt := 1517) hx hb dL_law_1501 (by decide) ?_
  exact kk _ _ H locs ⟨hI, hM, h3, hT⟩ hP hS
set_option maxHeartbeats 4000000 in
set_option maxRecDepth 100000 in
theorem lw_c36 {p : Program} {l : Launch} {e : Env} {s : State} {m : MethodId} {below : List Frame} {meth : Method} {c : Code} {b L : Nat} {xs : Nat → Int32} {dC : Nat → ClassId} {dI : Nat → Nat → Nat} {k : Nat → ClassId} {q q2 : Nat → Nat} (hL : L ≤ 3072) (C0 : lw_At p s m meth c b L xs) (hK : zK dC dI k (zTX k) s) (hDa : ∀ z1 z2 : ZS, va_D (fun a : Nat => s.heap.size ≤ a) (zX k q z1 ++ zM k q2 z2)) {zx zm : ZS} (hJ : J2 zx zm) {i : Int32} (hi : 0 ≤ i.toInt ∧ i.toInt + 6 ≤ (L : Int)) {H : Heap} {locs : List Loc} (hP : va_P (dC, dI) vwCl (zX k q zx ++ zM k q2 zm) H) (hS : va_S (fun a : Nat => s.heap.size ≤ a) s.heap H locs) {ls : Array Slot} (hl : lv_has ls 4 [(3, .int i), (2, .ref (q2 0)), (1, .ref (q 0)), (0, .ref b)]) (kk : ∀ (z1 z2 : ZS) (H : Heap) (locs : List Loc), J2 z1 z2 → va_P (dC, dI) vwCl (zX k q z1 ++ zM k q2 z2) H → va_S (fun a : Nat => s.heap.size ≤ a) s.heap H locs → W p l e room_1 s m #[Value.ref b] below meth c H locs 1000 10000 (lw_Z below #[Value.ref b] s) (F0 m 1517 ls [])) : W p l e room_1 s m #[Value.ref b] below meth c H locs 1000 10000 (lw_Z below #[Value.ref b] s) (F0 m 1504 ls []) := by
  obtain ⟨hI, hM, h3, hT⟩ := hJ
  have hT0 := hT
  obtain ⟨hx, hb, hr, hml, hown, hts0, hX, hbl, hlocks, hgv⟩ := id C0
  have htb : ∀ w ∈ zw, w.before #[Value.ref b] s = true := fun w h => hts0 w (List.mem_filter.mp h).1
  have hA : ∀ q : Nat, s.heap.size ≤ q → (fun a : Nat => s.heap.size ≤ a) q := fun _ h => h
  have hbA : ¬ (fun a : Nat => s.heap.size ≤ a) b := Nat.not_le.mpr hbl
  refine lv_aload_n hx hb dL_law_1504 rfl (lv_at hl 2 rfl) ?_
  refine zcL_l (wx := zX k q zx) (wm := zM k q2 zm) (va_runV (As := []) (rest := []) ⟨hx, hb, hml, hown, htb⟩ (c_X6_digest l dC dI k q zx  _ hI) (cwV 0 htb (gzV wmt3_148 wmt3_149 wmt3_150 wmt1_1 wmt3_151) rfl rfl rfl (by decide +kernel) ⟨Nat.le_of_ble_eq_true rfl, Nat.le_of_ble_eq_true rfl⟩) (zpA_V (ci := 6) (q0 := 0) hK (z_PL hP) (z_DL (hDa zx zm)) rfl rfl) rfl rfl hl.1 rfl (lv_room (Nat.le_of_ble_eq_true rfl)) dL_law_1505 ⟨Nat.le_of_ble_eq_true rfl, Nat.le_of_ble_eq_true rfl⟩) hP (hDa _ _) hS hA (fun r1 u2 H locs w3 hP hS => ?_)
  obtain ⟨f4, f5⟩ := w3
  have hI : XInv u2 := f4
  have hT : trX u2 = trM zm := f5.trans hT
  refine lv_pop2_2 hx hb dL_law_1508 rfl ?_
  refine lv_aload_n hx hb dL_law_1509 rfl (lv_at hl 1 rfl) ?_
  refine zcR_l (wx := zX k q u2) (wm := zM k q2 zm) (va_runV (As := []) (rest := []) ⟨hx, hb, hml, hown, htb⟩ (c_X7_digest l dC dI k q2 zm  _ hM) (cwV 0 htb (gzV wmt5_135 wmt5_136 wmt5_137 wmt1_8 wmt5_138) rfl rfl rfl (by decide +kernel) ⟨Nat.le_of_ble_eq_true rfl, Nat.le_of_ble_eq_true rfl⟩) (zpA_V (ci := 7) (q0 := 0) hK (z_PR hP) (z_DR (hDa u2 zm)) rfl rfl) rfl rfl hl.1 rfl (lv_room (Nat.le_of_ble_eq_true rfl)) dL_law_1510 ⟨Nat.le_of_ble_eq_true rfl, Nat.le_of_ble_eq_true rfl⟩) hP (hDa _ _) hS hA (fun r6 u7 H locs w8 hP hS => ?_)
  obtain ⟨o9, o10, o11, o12, o13, o14, o15, o16, o17, o18, o19, o20, o21, o22, o23, o24, o25, o26, o27, o28, o29, o30, o31⟩ := u7
  have f32 := w8
  obtain ⟨z33, ez33⟩ : ∃ x : ZS, x = (sA (sI (sJ (sJ (sJ (sJ (sJ (sI (sI (sA (sA (sA (sI (sI (sI (sI (sA (sA (sA (sA (sA (sA (sA zm 4 o9) 5 o10) 6 o11) 7 o12) 8 o13) 9 o14) 10 o15) 12 o16) 13 o17) 14 o18) 15 o19) 16 o20) 17 o21) 18 o22) 28 o23) 29 o24) 0 o25) 1 o26) 30 o27) 31 o28) 32 o29) 33 o30) 34 o31) := ⟨_, rfl⟩
  have hP : va_P (dC, dI) vwCl (zX k q u2 ++ zM k q2 z33) H := by rw [ez33]; exact hP
  have hM : MInv z33 := by rw [ez33]; exact f32
  have h3 : T3 (z33.2.2.1 37) := by rw [ez33]; exact h3
  have hT : trX u2 = trM z33 := by rw [ez33]; exact hT
  refine lv_pop2_2 hx hb dL_law_1513 rfl ?_
  refine lv_goto (tgt := 1517) hx hb dL_law_1514 (by decide) ?_
  exact kk _ _ H locs ⟨hI, hM, h3, hT⟩ hP hS
