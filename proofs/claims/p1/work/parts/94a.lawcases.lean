set_option maxHeartbeats 4000000 in
set_option maxRecDepth 100000 in
theorem lw_c0 {p : Program} {l : Launch} {e : Env} {s : State} {m : MethodId} {below : List Frame} {meth : Method} {c : Code} {b : Nat} {xs : Nat → Int32} {dC : Nat → ClassId} {dI : Nat → Nat → Nat} {k : Nat → ClassId} {q q2 : Nat → Nat} (C0 : lw_At p s m meth c b 6 xs) (hK : zK dC dI k (zTX k) s) {H : Heap} {locs : List Loc} (hP : va_P (dC, dI) vwCl ((zX k q 0 (-1) 12 100 0 (fun _ => 0) 0 0 (fun _ => 0) (fun _ => 0) (fun _ => 0) (fun _ => 0) (fun _ => 0) (fun _ => 0) (fun _ => 0) 0 0 0 (fun _ => 0) 0 1 232792560 0 0 0 0 0 1 (fun _ => 0) (fun _ => 0) 232792560 0 0 0 0 0 1 (fun _ => 0) (fun _ => 0) 232792560 0 0 0 0 0 1 (fun _ => 0) (fun _ => 0) 232792560 0 0 0 0 0 1 (fun _ => 0) (fun _ => 0) (-1) 0 (fun _ => 0) (-1) 0 (fun _ => 0) (-1) 0 (fun _ => 0) (-1) 0 (fun _ => 0)) ++ (zM k q2 0 1 (fun _ => 0) (fun _ => 0) (fun _ => 0) (fun _ => 0) (fun _ => 0) (fun _ => 0) (fun _ => 0) (fun _ => 0) (fun _ => 0) 12 0 0 0 0 (fun _ => 0) (fun _ => 0) (fun _ => 0) 0 (-1) (fun _ => 0) 0 (fun _ => 0) (fun _ => 0) (fun _ => 0) (fun _ => 0) (fun _ => 0) 0 0 0 0 0 0 (fun _ => 0) 100 (fun _ => 0) (fun _ => 0) (fun _ => 0) (fun _ => 0) (fun _ => 0) 0)) H) (hD : va_D (fun a : Nat => s.heap.size ≤ a) ((zX k q 0 (-1) 12 100 0 (fun _ => 0) 0 0 (fun _ => 0) (fun _ => 0) (fun _ => 0) (fun _ => 0) (fun _ => 0) (fun _ => 0) (fun _ => 0) 0 0 0 (fun _ => 0) 0 1 232792560 0 0 0 0 0 1 (fun _ => 0) (fun _ => 0) 232792560 0 0 0 0 0 1 (fun _ => 0) (fun _ => 0) 232792560 0 0 0 0 0 1 (fun _ => 0) (fun _ => 0) 232792560 0 0 0 0 0 1 (fun _ => 0) (fun _ => 0) (-1) 0 (fun _ => 0) (-1) 0 (fun _ => 0) (-1) 0 (fun _ => 0) (-1) 0 (fun _ => 0)) ++ (zM k q2 0 1 (fun _ => 0) (fun _ => 0) (fun _ => 0) (fun _ => 0) (fun _ => 0) (fun _ => 0) (fun _ => 0) (fun _ => 0) (fun _ => 0) 12 0 0 0 0 (fun _ => 0) (fun _ => 0) (fun _ => 0) 0 (-1) (fun _ => 0) 0 (fun _ => 0) (fun _ => 0) (fun _ => 0) (fun _ => 0) (fun _ => 0) 0 0 0 0 0 0 (fun _ => 0) 100 (fun _ => 0) (fun _ => 0) (fun _ => 0) (fun _ => 0) (fun _ => 0) 0))) (hS : va_S (fun a : Nat => s.heap.size ≤ a) s.heap H locs) {ls : Array Slot} (hl : lv_has ls 4 [(3, .int 0), (2, .ref (q2 0)), (1, .ref (q 0)), (0, .ref b)]) : W p l e room_1 s m #[Value.ref b] below meth c H locs 1000 10000 (lw_Z below #[Value.ref b] s) (F0 m 196 ls []) := by
  obtain ⟨hx, hb, hr, hml, hown, hts0, hX, hbl, hlocks, hgv⟩ := id C0
  have hts : ∀ w ∈ zw, w.before #[Value.ref b] s = true := fun w h => hts0 w (List.mem_filter.mp h).1
  have hA : ∀ q : Nat, s.heap.size ≤ q → (fun a : Nat => s.heap.size ≤ a) q := fun _ h => h
  have hbA : ¬ (fun a : Nat => s.heap.size ≤ a) b := Nat.not_le.mpr hbl
  refine lv_aload_n hx hb dL_law_196 rfl (lv_at hl 2 rfl) ?_
  refine lv_aload_n hx hb dL_law_197 rfl (lv_at hl 3 rfl) ?_
  refine lv_iload_n hx hb dL_law_198 rfl (lv_at hl 0 rfl) ?_
  refine lv_iconst (v := 1) hx hb dL_law_199 (by decide) ?_
  refine lv_iadd hx hb dL_law_200 ?_
  refine z_top (v2 := .int 1) (congrArg Value.int (by decide)) ?_
  refine va_sld hx hb hX hbl hbA hS (show ¬ _ by decide) dL_law_201 ?_
  refine z_top (v2 := .int (xs 1)) rfl ?_
  refine lv_aload_n hx hb dL_law_202 rfl (lv_at hl 3 rfl) ?_
  refine lv_iload_n hx hb dL_law_203 rfl (lv_at hl 0 rfl) ?_
  refine lv_iconst (v := 2) hx hb dL_law_204 (by decide) ?_
  refine lv_iadd hx hb dL_law_205 ?_
  refine z_top (v2 := .int 2) (congrArg Value.int (by decide)) ?_
  refine va_sld hx hb hX hbl hbA hS (show ¬ _ by decide) dL_law_206 ?_
  refine z_top (v2 := .int (xs 2)) rfl ?_
  refine zc2_i (wx := (zX k q 0 (-1) 12 100 0 (fun _ => 0) 0 0 (fun _ => 0) (fun _ => 0) (fun _ => 0) (fun _ => 0) (fun _ => 0) (fun _ => 0) (fun _ => 0) 0 0 0 (fun _ => 0) 0 1 232792560 0 0 0 0 0 1 (fun _ => 0) (fun _ => 0) 232792560 0 0 0 0 0 1 (fun _ => 0) (fun _ => 0) 232792560 0 0 0 0 0 1 (fun _ => 0) (fun _ => 0) 232792560 0 0 0 0 0 1 (fun _ => 0) (fun _ => 0) (-1) 0 (fun _ => 0) (-1) 0 (fun _ => 0) (-1) 0 (fun _ => 0) (-1) 0 (fun _ => 0))) (wm := (zM k q2 0 1 (fun _ => 0) (fun _ => 0) (fun _ => 0) (fun _ => 0) (fun _ => 0) (fun _ => 0) (fun _ => 0) (fun _ => 0) (fun _ => 0) 12 0 0 0 0 (fun _ => 0) (fun _ => 0) (fun _ => 0) 0 (-1) (fun _ => 0) 0 (fun _ => 0) (fun _ => 0) (fun _ => 0) (fun _ => 0) (fun _ => 0) 0 0 0 0 0 0 (fun _ => 0) 100 (fun _ => 0) (fun _ => 0) (fun _ => 0) (fun _ => 0) (fun _ => 0) 0)) (va_runV (As := [.int (xs 1), .int (xs 2)]) (rest := []) ⟨hx, hb, hml, hown, hts⟩ (c_X6_type l dC dI k  q 0 (fun _ => 0) (fun _ => 0) (fun _ => 0) (fun _ => 0) (fun _ => 0) (fun _ => 0) (fun _ => 0) 0 0 0 (fun _ => 0) 0 1 232792560 0 0 0 1 (fun _ => 0) (fun _ => 0) 232792560 0 0 0 1 (fun _ => 0) (fun _ => 0) 232792560 0 0 0 1 (fun _ => 0) (fun _ => 0) 232792560 0 0 0 1 (fun _ => 0) (fun _ => 0) (fun _ => 0) (fun _ => 0) (fun _ => 0) (fun _ => 0) (xs 1) (xs 2) _) (cwV 2 hts (gzV wmt1_207 wmt1_208 wmt1_209 wmt1_1 wmt1_210) rfl rfl rfl (by decide +kernel) ⟨Nat.le_of_ble_eq_true rfl, Nat.le_of_ble_eq_true rfl⟩) (zpA_V (ci := 6) (q0 := 0) hK (z_PL hP) (z_DL hD) rfl rfl) rfl rfl hl.1 rfl (lv_room (Nat.le_of_ble_eq_true rfl)) dL_law_207 ⟨Nat.le_of_ble_eq_true rfl, Nat.le_of_ble_eq_true rfl⟩) hP hD hS hA (fun r1 u H locs hw1 hP hD hS => ?_)
  refine lv_aload_n hx hb dL_law_210 rfl (lv_at hl 1 rfl) ?_
  refine lv_aload_n hx hb dL_law_211 rfl (lv_at hl 3 rfl) ?_
  refine lv_iload_n hx hb dL_law_212 rfl (lv_at hl 0 rfl) ?_
  refine lv_iconst (v := 1) hx hb dL_law_213 (by decide) ?_
  refine lv_iadd hx hb dL_law_214 ?_
  refine z_top (v2 := .int 1) (congrArg Value.int (by decide)) ?_
  refine va_sld hx hb hX hbl hbA hS (show ¬ _ by decide) dL_law_215 ?_
  refine z_top (v2 := .int (xs 1)) rfl ?_
  refine lv_aload_n hx hb dL_law_216 rfl (lv_at hl 3 rfl) ?_
  refine lv_iload_n hx hb dL_law_217 rfl (lv_at hl 0 rfl) ?_
  refine lv_iconst (v := 2) hx hb dL_law_218 (by decide) ?_
  refine lv_iadd hx hb dL_law_219 ?_
  refine z_top (v2 := .int 2) (congrArg Value.int (by decide)) ?_
  refine va_sld hx hb hX hbl hbA hS (show ¬ _ by decide) dL_law_220 ?_
  refine z_top (v2 := .int (xs 2)) rfl ?_
  refine zcA_i (w := (zM k q2 0 1 (fun _ => 0) (fun _ => 0) (fun _ => 0) (fun _ => 0) (fun _ => 0) (fun _ => 0) (fun _ => 0) (fun _ => 0) (fun _ => 0) 12 0 0 0 0 (fun _ => 0) (fun _ => 0) (fun _ => 0) 0 (-1) (fun _ => 0) 0 (fun _ => 0) (fun _ => 0) (fun _ => 0) (fun _ => 0) (fun _ => 0) 0 0 0 0 0 0 (fun _ => 0) 100 (fun _ => 0) (fun _ => 0) (fun _ => 0) (fun _ => 0) (fun _ => 0) 0)) (va_runV (As := [.int (xs 1), .int (xs 2)]) (rest := [.int r1]) ⟨hx, hb, hml, hown, hts⟩ (c_X7_type l dC dI k (zTX k) q2 0 1 (fun _ => 0) (fun _ => 0) 0 0 0 0 0 0 0 0 0 0 (fun _ => 0) (fun _ => 0) 0 (xs 1) (xs 2) _) (cwV 2 hts (gzV wmt4_55 wmt4_56 wmt4_57 wmt1_8 wmt4_58) rfl rfl rfl (by decide +kernel) ⟨Nat.le_of_ble_eq_true rfl, Nat.le_of_ble_eq_true rfl⟩) (zpA_V (ci := 7) (q0 := 0) hK hP hD rfl rfl) rfl rfl hl.1 rfl (lv_room (Nat.le_of_ble_eq_true rfl)) dL_law_221 ⟨Nat.le_of_ble_eq_true rfl, Nat.le_of_ble_eq_true rfl⟩) hD hS hA (fun r2 u H locs hw2 hP hD hS => ?_)
  have hrr : r1 = r2 := hw1.trans hw2.symm
  refine lv_icmp_eq (tgt := 1527) hx hb dL_law_224 (by decide) (fun c_1 => ?_) (fun c_1 => ?_)
  · exact lw_end C0 hS hl
  · exact absurd hrr c_1
set_option maxHeartbeats 4000000 in
set_option maxRecDepth 100000 in
theorem lw_c1 {p : Program} {l : Launch} {e : Env} {s : State} {m : MethodId} {below : List Frame} {meth : Method} {c : Code} {b : Nat} {xs : Nat → Int32} {dC : Nat → ClassId} {dI : Nat → Nat → Nat} {k : Nat → ClassId} {q q2 : Nat → Nat} (C0 : lw_At p s m meth c b 6 xs) (hK : zK dC dI k (zTX k) s) {H : Heap} {locs : List Loc} (hP : va_P (dC, dI) vwCl ((zX k q 0 (-1) 12 100 0 (fun _ => 0) 0 0 (fun _ => 0) (fun _ => 0) (fun _ => 0) (fun _ => 0) (fun _ => 0) (fun _ => 0) (fun _ => 0) 0 0 0 (fun _ => 0) 0 1 232792560 0 0 0 0 0 1 (fun _ => 0) (fun _ => 0) 232792560 0 0 0 0 0 1 (fun _ => 0) (fun _ => 0) 232792560 0 0 0 0 0 1 (fun _ => 0) (fun _ => 0) 232792560 0 0 0 0 0 1 (fun _ => 0) (fun _ => 0) (-1) 0 (fun _ => 0) (-1) 0 (fun _ => 0) (-1) 0 (fun _ => 0) (-1) 0 (fun _ => 0)) ++ (zM k q2 0 1 (fun _ => 0) (fun _ => 0) (fun _ => 0) (fun _ => 0) (fun _ => 0) (fun _ => 0) (fun _ => 0) (fun _ => 0) (fun _ => 0) 12 0 0 0 0 (fun _ => 0) (fun _ => 0) (fun _ => 0) 0 (-1) (fun _ => 0) 0 (fun _ => 0) (fun _ => 0) (fun _ => 0) (fun _ => 0) (fun _ => 0) 0 0 0 0 0 0 (fun _ => 0) 100 (fun _ => 0) (fun _ => 0) (fun _ => 0) (fun _ => 0) (fun _ => 0) 0)) H) (hD : va_D (fun a : Nat => s.heap.size ≤ a) ((zX k q 0 (-1) 12 100 0 (fun _ => 0) 0 0 (fun _ => 0) (fun _ => 0) (fun _ => 0) (fun _ => 0) (fun _ => 0) (fun _ => 0) (fun _ => 0) 0 0 0 (fun _ => 0) 0 1 232792560 0 0 0 0 0 1 (fun _ => 0) (fun _ => 0) 232792560 0 0 0 0 0 1 (fun _ => 0) (fun _ => 0) 232792560 0 0 0 0 0 1 (fun _ => 0) (fun _ => 0) 232792560 0 0 0 0 0 1 (fun _ => 0) (fun _ => 0) (-1) 0 (fun _ => 0) (-1) 0 (fun _ => 0) (-1) 0 (fun _ => 0) (-1) 0 (fun _ => 0)) ++ (zM k q2 0 1 (fun _ => 0) (fun _ => 0) (fun _ => 0) (fun _ => 0) (fun _ => 0) (fun _ => 0) (fun _ => 0) (fun _ => 0) (fun _ => 0) 12 0 0 0 0 (fun _ => 0) (fun _ => 0) (fun _ => 0) 0 (-1) (fun _ => 0) 0 (fun _ => 0) (fun _ => 0) (fun _ => 0) (fun _ => 0) (fun _ => 0) 0 0 0 0 0 0 (fun _ => 0) 100 (fun _ => 0) (fun _ => 0) (fun _ => 0) (fun _ => 0) (fun _ => 0) 0))) (hS : va_S (fun a : Nat => s.heap.size ≤ a) s.heap H locs) {ls : Array Slot} (hl : lv_has ls 4 [(3, .int 0), (2, .ref (q2 0)), (1, .ref (q 0)), (0, .ref b)]) : W p l e room_1 s m #[Value.ref b] below meth c H locs 1000 10000 (lw_Z below #[Value.ref b] s) (F0 m 229 ls []) := by
  obtain ⟨hx, hb, hr, hml, hown, hts0, hX, hbl, hlocks, hgv⟩ := id C0
  have hts : ∀ w ∈ zw, w.before #[Value.ref b] s = true := fun w h => hts0 w (List.mem_filter.mp h).1
  have hA : ∀ q : Nat, s.heap.size ≤ q → (fun a : Nat => s.heap.size ≤ a) q := fun _ h => h
  have hbA : ¬ (fun a : Nat => s.heap.size ≤ a) b := Nat.not_le.mpr hbl
  refine lv_aload_n hx hb dL_law_229 rfl (lv_at hl 2 rfl) ?_
  refine lv_aload_n hx hb dL_law_230 rfl (lv_at hl 3 rfl) ?_
  refine lv_iload_n hx hb dL_law_231 rfl (lv_at hl 0 rfl) ?_
  refine lv_iconst (v := 1) hx hb dL_law_232 (by decide) ?_
  refine lv_iadd hx hb dL_law_233 ?_
  refine z_top (v2 := .int 1) (congrArg Value.int (by decide)) ?_
  refine va_sld hx hb hX hbl hbA hS (show ¬ _ by decide) dL_law_234 ?_
  refine z_top (v2 := .int (xs 1)) rfl ?_
  refine zc2_i (wx := (zX k q 0 (-1) 12 100 0 (fun _ => 0) 0 0 (fun _ => 0) (fun _ => 0) (fun _ => 0) (fun _ => 0) (fun _ => 0) (fun _ => 0) (fun _ => 0) 0 0 0 (fun _ => 0) 0 1 232792560 0 0 0 0 0 1 (fun _ => 0) (fun _ => 0) 232792560 0 0 0 0 0 1 (fun _ => 0) (fun _ => 0) 232792560 0 0 0 0 0 1 (fun _ => 0) (fun _ => 0) 232792560 0 0 0 0 0 1 (fun _ => 0) (fun _ => 0) (-1) 0 (fun _ => 0) (-1) 0 (fun _ => 0) (-1) 0 (fun _ => 0) (-1) 0 (fun _ => 0))) (wm := (zM k q2 0 1 (fun _ => 0) (fun _ => 0) (fun _ => 0) (fun _ => 0) (fun _ => 0) (fun _ => 0) (fun _ => 0) (fun _ => 0) (fun _ => 0) 12 0 0 0 0 (fun _ => 0) (fun _ => 0) (fun _ => 0) 0 (-1) (fun _ => 0) 0 (fun _ => 0) (fun _ => 0) (fun _ => 0) (fun _ => 0) (fun _ => 0) 0 0 0 0 0 0 (fun _ => 0) 100 (fun _ => 0) (fun _ => 0) (fun _ => 0) (fun _ => 0) (fun _ => 0) 0)) (va_runV (As := [.int (xs 1)]) (rest := []) ⟨hx, hb, hml, hown, hts⟩ (c_X6_wipe l dC dI k  q 0 (fun _ => 0) (fun _ => 0) (fun _ => 0) (fun _ => 0) (fun _ => 0) (fun _ => 0) (fun _ => 0) 0 0 0 (fun _ => 0) 0 1 232792560 0 0 0 1 (fun _ => 0) (fun _ => 0) 232792560 0 0 0 1 (fun _ => 0) (fun _ => 0) 232792560 0 0 0 1 (fun _ => 0) (fun _ => 0) 232792560 0 0 0 1 (fun _ => 0) (fun _ => 0) (fun _ => 0) (fun _ => 0) (fun _ => 0) (fun _ => 0) (xs 1) _) (cwV 1 hts (gzV wmt2_28 wmt2_29 wmt2_30 wmt1_1 wmt2_31) rfl rfl rfl (by decide +kernel) ⟨Nat.le_of_ble_eq_true rfl, Nat.le_of_ble_eq_true rfl⟩) (zpA_V (ci := 6) (q0 := 0) hK (z_PL hP) (z_DL hD) rfl rfl) rfl rfl hl.1 rfl (lv_room (Nat.le_of_ble_eq_true rfl)) dL_law_235 ⟨Nat.le_of_ble_eq_true rfl, Nat.le_of_ble_eq_true rfl⟩) hP hD hS hA (fun r1 u H locs hw1 hP hD hS => ?_)
  refine lv_aload_n hx hb dL_law_238 rfl (lv_at hl 1 rfl) ?_
  refine lv_aload_n hx hb dL_law_239 rfl (lv_at hl 3 rfl) ?_
  refine lv_iload_n hx hb dL_law_240 rfl (lv_at hl 0 rfl) ?_
  refine lv_iconst (v := 1) hx hb dL_law_241 (by decide) ?_
  refine lv_iadd hx hb dL_law_242 ?_
  refine z_top (v2 := .int 1) (congrArg Value.int (by decide)) ?_
  refine va_sld hx hb hX hbl hbA hS (show ¬ _ by decide) dL_law_243 ?_
  refine z_top (v2 := .int (xs 1)) rfl ?_
  refine zcA_i (w := (zM k q2 0 1 (fun _ => 0) (fun _ => 0) (fun _ => 0) (fun _ => 0) (fun _ => 0) (fun _ => 0) (fun _ => 0) (fun _ => 0) (fun _ => 0) 12 0 0 0 0 (fun _ => 0) (fun _ => 0) (fun _ => 0) 0 (-1) (fun _ => 0) 0 (fun _ => 0) (fun _ => 0) (fun _ => 0) (fun _ => 0) (fun _ => 0) 0 0 0 0 0 0 (fun _ => 0) 100 (fun _ => 0) (fun _ => 0) (fun _ => 0) (fun _ => 0) (fun _ => 0) 0)) (va_runV (As := [.int (xs 1)]) (rest := [.int r1]) ⟨hx, hb, hml, hown, hts⟩ (c_X7_wipe l dC dI k (zTX k) q2 0 1 (fun _ => 0) (fun _ => 0) 0 0 0 0 0 0 0 0 0 0 (fun _ => 0) (fun _ => 0) 0 (xs 1) _) (cwV 1 hts (gzV wmt4_65 wmt4_66 wmt4_67 wmt1_8 wmt4_68) rfl rfl rfl (by decide +kernel) ⟨Nat.le_of_ble_eq_true rfl, Nat.le_of_ble_eq_true rfl⟩) (zpA_V (ci := 7) (q0 := 0) hK hP hD rfl rfl) rfl rfl hl.1 rfl (lv_room (Nat.le_of_ble_eq_true rfl)) dL_law_244 ⟨Nat.le_of_ble_eq_true rfl, Nat.le_of_ble_eq_true rfl⟩) hD hS hA (fun r2 u H locs hw2 hP hD hS => ?_)
  have hrr : r1 = r2 := hw1.trans hw2.symm
  refine lv_icmp_eq (tgt := 1527) hx hb dL_law_247 (by decide) (fun c_1 => ?_) (fun c_1 => ?_)
  · exact lw_end C0 hS hl
  · exact absurd hrr c_1
set_option maxHeartbeats 4000000 in
set_option maxRecDepth 100000 in
theorem lw_c2 {p : Program} {l : Launch} {e : Env} {s : State} {m : MethodId} {below : List Frame} {meth : Method} {c : Code} {b : Nat} {xs : Nat → Int32} {dC : Nat → ClassId} {dI : Nat → Nat → Nat} {k : Nat → ClassId} {q q2 : Nat → Nat} (C0 : lw_At p s m meth c b 6 xs) (hK : zK dC dI k (zTX k) s) {H : Heap} {locs : List Loc} (hP : va_P (dC, dI) vwCl ((zX k q 0 (-1) 12 100 0 (fun _ => 0) 0 0 (fun _ => 0) (fun _ => 0) (fun _ => 0) (fun _ => 0) (fun _ => 0) (fun _ => 0) (fun _ => 0) 0 0 0 (fun _ => 0) 0 1 232792560 0 0 0 0 0 1 (fun _ => 0) (fun _ => 0) 232792560 0 0 0 0 0 1 (fun _ => 0) (fun _ => 0) 232792560 0 0 0 0 0 1 (fun _ => 0) (fun _ => 0) 232792560 0 0 0 0 0 1 (fun _ => 0) (fun _ => 0) (-1) 0 (fun _ => 0) (-1) 0 (fun _ => 0) (-1) 0 (fun _ => 0) (-1) 0 (fun _ => 0)) ++ (zM k q2 0 1 (fun _ => 0) (fun _ => 0) (fun _ => 0) (fun _ => 0) (fun _ => 0) (fun _ => 0) (fun _ => 0) (fun _ => 0) (fun _ => 0) 12 0 0 0 0 (fun _ => 0) (fun _ => 0) (fun _ => 0) 0 (-1) (fun _ => 0) 0 (fun _ => 0) (fun _ => 0) (fun _ => 0) (fun _ => 0) (fun _ => 0) 0 0 0 0 0 0 (fun _ => 0) 100 (fun _ => 0) (fun _ => 0) (fun _ => 0) (fun _ => 0) (fun _ => 0) 0)) H) (hD : va_D (fun a : Nat => s.heap.size ≤ a) ((zX k q 0 (-1) 12 100 0 (fun _ => 0) 0 0 (fun _ => 0) (fun _ => 0) (fun _ => 0) (fun _ => 0) (fun _ => 0) (fun _ => 0) (fun _ => 0) 0 0 0 (fun _ => 0) 0 1 232792560 0 0 0 0 0 1 (fun _ => 0) (fun _ => 0) 232792560 0 0 0 0 0 1 (fun _ => 0) (fun _ => 0) 232792560 0 0 0 0 0 1 (fun _ => 0) (fun _ => 0) 232792560 0 0 0 0 0 1 (fun _ => 0) (fun _ => 0) (-1) 0 (fun _ => 0) (-1) 0 (fun _ => 0) (-1) 0 (fun _ => 0) (-1) 0 (fun _ => 0)) ++ (zM k q2 0 1 (fun _ => 0) (fun _ => 0) (fun _ => 0) (fun _ => 0) (fun _ => 0) (fun _ => 0) (fun _ => 0) (fun _ => 0) (fun _ => 0) 12 0 0 0 0 (fun _ => 0) (fun _ => 0) (fun _ => 0) 0 (-1) (fun _ => 0) 0 (fun _ => 0) (fun _ => 0) (fun _ => 0) (fun _ => 0) (fun _ => 0) 0 0 0 0 0 0 (fun _ => 0) 100 (fun _ => 0) (fun _ => 0) (fun _ => 0) (fun _ => 0) (fun _ => 0) 0))) (hS : va_S (fun a : Nat => s.heap.size ≤ a) s.heap H locs) {ls : Array Slot} (hl : lv_has ls 4 [(3, .int 0), (2, .ref (q2 0)), (1, .ref (q 0)), (0, .ref b)]) : W p l e room_1 s m #[Value.ref b] below meth c H locs 1000 10000 (lw_Z below #[Value.ref b] s) (F0 m 252 ls []) := by
  obtain ⟨hx, hb, hr, hml, hown, hts0, hX, hbl, hlocks, hgv⟩ := id C0
  have hts : ∀ w ∈ zw, w.before #[Value.ref b] s = true := fun w h => hts0 w (List.mem_filter.mp h).1
  have hA : ∀ q : Nat, s.heap.size ≤ q → (fun a : Nat => s.heap.size ≤ a) q := fun _ h => h
  have hbA : ¬ (fun a : Nat => s.heap.size ≤ a) b := Nat.not_le.mpr hbl
  refine lv_aload_n hx hb dL_law_252 rfl (lv_at hl 2 rfl) ?_
  refine lv_aload_n hx hb dL_law_253 rfl (lv_at hl 3 rfl) ?_
  refine lv_iload_n hx hb dL_law_254 rfl (lv_at hl 0 rfl) ?_
  refine lv_iconst (v := 1) hx hb dL_law_255 (by decide) ?_
  refine lv_iadd hx hb dL_law_256 ?_
  refine z_top (v2 := .int 1) (congrArg Value.int (by decide)) ?_
  refine va_sld hx hb hX hbl hbA hS (show ¬ _ by decide) dL_law_257 ?_
  refine z_top (v2 := .int (xs 1)) rfl ?_
  refine zc2_i (wx := (zX k q 0 (-1) 12 100 0 (fun _ => 0) 0 0 (fun _ => 0) (fun _ => 0) (fun _ => 0) (fun _ => 0) (fun _ => 0) (fun _ => 0) (fun _ => 0) 0 0 0 (fun _ => 0) 0 1 232792560 0 0 0 0 0 1 (fun _ => 0) (fun _ => 0) 232792560 0 0 0 0 0 1 (fun _ => 0) (fun _ => 0) 232792560 0 0 0 0 0 1 (fun _ => 0) (fun _ => 0) 232792560 0 0 0 0 0 1 (fun _ => 0) (fun _ => 0) (-1) 0 (fun _ => 0) (-1) 0 (fun _ => 0) (-1) 0 (fun _ => 0) (-1) 0 (fun _ => 0))) (wm := (zM k q2 0 1 (fun _ => 0) (fun _ => 0) (fun _ => 0) (fun _ => 0) (fun _ => 0) (fun _ => 0) (fun _ => 0) (fun _ => 0) (fun _ => 0) 12 0 0 0 0 (fun _ => 0) (fun _ => 0) (fun _ => 0) 0 (-1) (fun _ => 0) 0 (fun _ => 0) (fun _ => 0) (fun _ => 0) (fun _ => 0) (fun _ => 0) 0 0 0 0 0 0 (fun _ => 0) 100 (fun _ => 0) (fun _ => 0) (fun _ => 0) (fun _ => 0) (fun _ => 0) 0)) (va_runV (As := [.int (xs 1)]) (rest := []) ⟨hx, hb, hml, hown, hts⟩ (c_X6_fault l dC dI k  q 0 (fun _ => 0) (fun _ => 0) (fun _ => 0) (fun _ => 0) (fun _ => 0) (fun _ => 0) (fun _ => 0) 0 0 0 (fun _ => 0) 0 1 232792560 0 0 0 1 (fun _ => 0) (fun _ => 0) 232792560 0 0 0 1 (fun _ => 0) (fun _ => 0) 232792560 0 0 0 1 (fun _ => 0) (fun _ => 0) 232792560 0 0 0 1 (fun _ => 0) (fun _ => 0) (fun _ => 0) (fun _ => 0) (fun _ => 0) (fun _ => 0) (xs 1) _) (cwV 1 hts (gzV wmt2_36 wmt2_37 wmt2_38 wmt1_1 wmt2_39) rfl rfl rfl (by decide +kernel) ⟨Nat.le_of_ble_eq_true rfl, Nat.le_of_ble_eq_true rfl⟩) (zpA_V (ci := 6) (q0 := 0) hK (z_PL hP) (z_DL hD) rfl rfl) rfl rfl hl.1 rfl (lv_room (Nat.le_of_ble_eq_true rfl)) dL_law_258 ⟨Nat.le_of_ble_eq_true rfl, Nat.le_of_ble_eq_true rfl⟩) hP hD hS hA (fun r1 u H locs hw1 hP hD hS => ?_)
  refine lv_aload_n hx hb dL_law_261 rfl (lv_at hl 1 rfl) ?_
  refine lv_aload_n hx hb dL_law_262 rfl (lv_at hl 3 rfl) ?_
  refine lv_iload_n hx hb dL_law_263 rfl (lv_at hl 0 rfl) ?_
  refine lv_iconst (v := 1) hx hb dL_law_264 (by decide) ?_
  refine lv_iadd hx hb dL_law_265 ?_
  refine z_top (v2 := .int 1) (congrArg Value.int (by decide)) ?_
  refine va_sld hx hb hX hbl hbA hS (show ¬ _ by decide) dL_law_266 ?_
  refine z_top (v2 := .int (xs 1)) rfl ?_
  refine zcA_i (w := (zM k q2 0 1 (fun _ => 0) (fun _ => 0) (fun _ => 0) (fun _ => 0) (fun _ => 0) (fun _ => 0) (fun _ => 0) (fun _ => 0) (fun _ => 0) 12 0 0 0 0 (fun _ => 0) (fun _ => 0) (fun _ => 0) 0 (-1) (fun _ => 0) 0 (fun _ => 0) (fun _ => 0) (fun _ => 0) (fun _ => 0) (fun _ => 0) 0 0 0 0 0 0 (fun _ => 0) 100 (fun _ => 0) (fun _ => 0) (fun _ => 0) (fun _ => 0) (fun _ => 0) 0)) (va_runV (As := [.int (xs 1)]) (rest := [.int r1]) ⟨hx, hb, hml, hown, hts⟩ (c_X7_fault l dC dI k (zTX k) q2 0 1 (fun _ => 0) (fun _ => 0) 0 0 0 0 0 0 0 0 0 0 (fun _ => 0) (fun _ => 0) 0 (xs 1) _) (cwV 1 hts (gzV wmt4_69 wmt4_70 wmt4_71 wmt1_8 wmt4_72) rfl rfl rfl (by decide +kernel) ⟨Nat.le_of_ble_eq_true rfl, Nat.le_of_ble_eq_true rfl⟩) (zpA_V (ci := 7) (q0 := 0) hK hP hD rfl rfl) rfl rfl hl.1 rfl (lv_room (Nat.le_of_ble_eq_true rfl)) dL_law_267 ⟨Nat.le_of_ble_eq_true rfl, Nat.le_of_ble_eq_true rfl⟩) hD hS hA (fun r2 u H locs hw2 hP hD hS => ?_)
  have hrr : r1 = r2 := hw1.trans hw2.symm
  refine lv_icmp_eq (tgt := 1527) hx hb dL_law_270 (by decide) (fun c_1 => ?_) (fun c_1 => ?_)
  · exact lw_end C0 hS hl
  · exact absurd hrr c_1
set_option maxHeartbeats 4000000 in
set_option maxRecDepth 100000 in
theorem lw_c3 {p : Program} {l : Launch} {e : Env} {s : State} {m : MethodId} {below : List Frame} {meth : Method} {c : Code} {b : Nat} {xs : Nat → Int32} {dC : Nat → ClassId} {dI : Nat → Nat → Nat} {k : Nat → ClassId} {q q2 : Nat → Nat} (C0 : lw_At p s m meth c b 6 xs) (hK : zK dC dI k (zTX k) s) {H : Heap} {locs : List Loc} (hP : va_P (dC, dI) vwCl ((zX k q 0 (-1) 12 100 0 (fun _ => 0) 0 0 (fun _ => 0) (fun _ => 0) (fun _ => 0) (fun _ => 0) (fun _ => 0) (fun _ => 0) (fun _ => 0) 0 0 0 (fun _ => 0) 0 1 232792560 0 0 0 0 0 1 (fun _ => 0) (fun _ => 0) 232792560 0 0 0 0 0 1 (fun _ => 0) (fun _ => 0) 232792560 0 0 0 0 0 1 (fun _ => 0) (fun _ => 0) 232792560 0 0 0 0 0 1 (fun _ => 0) (fun _ => 0) (-1) 0 (fun _ => 0) (-1) 0 (fun _ => 0) (-1) 0 (fun _ => 0) (-1) 0 (fun _ => 0)) ++ (zM k q2 0 1 (fun _ => 0) (fun _ => 0) (fun _ => 0) (fun _ => 0) (fun _ => 0) (fun _ => 0) (fun _ => 0) (fun _ => 0) (fun _ => 0) 12 0 0 0 0 (fun _ => 0) (fun _ => 0) (fun _ => 0) 0 (-1) (fun _ => 0) 0 (fun _ => 0) (fun _ => 0) (fun _ => 0) (fun _ => 0) (fun _ => 0) 0 0 0 0 0 0 (fun _ => 0) 100 (fun _ => 0) (fun _ => 0) (fun _ => 0) (fun _ => 0) (fun _ => 0) 0)) H) (hD : va_D (fun a : Nat => s.heap.size ≤ a) ((zX k q 0 (-1) 12 100 0 (fun _ => 0) 0 0 (fun _ => 0) (fun _ => 0) (fun _ => 0) (fun _ => 0) (fun _ => 0) (fun _ => 0) (fun _ => 0) 0 0 0 (fun _ => 0) 0 1 232792560 0 0 0 0 0 1 (fun _ => 0) (fun _ => 0) 232792560 0 0 0 0 0 1 (fun _ => 0) (fun _ => 0) 232792560 0 0 0 0 0 1 (fun _ => 0) (fun _ => 0) 232792560 0 0 0 0 0 1 (fun _ => 0) (fun _ => 0) (-1) 0 (fun _ => 0) (-1) 0 (fun _ => 0) (-1) 0 (fun _ => 0) (-1) 0 (fun _ => 0)) ++ (zM k q2 0 1 (fun _ => 0) (fun _ => 0) (fun _ => 0) (fun _ => 0) (fun _ => 0) (fun _ => 0) (fun _ => 0) (fun _ => 0) (fun _ => 0) 12 0 0 0 0 (fun _ => 0) (fun _ => 0) (fun _ => 0) 0 (-1) (fun _ => 0) 0 (fun _ => 0) (fun _ => 0) (fun _ => 0) (fun _ => 0) (fun _ => 0) 0 0 0 0 0 0 (fun _ => 0) 100 (fun _ => 0) (fun _ => 0) (fun _ => 0) (fun _ => 0) (fun _ => 0) 0))) (hS : va_S (fun a : Nat => s.heap.size ≤ a) s.heap H locs) {ls : Array Slot} (hl : lv_has ls 4 [(3, .int 0), (2, .ref (q2 0)), (1, .ref (q 0)), (0, .ref b)]) : W p l e room_1 s m #[Value.ref b] below meth c H locs 1000 10000 (lw_Z below #[Value.ref b] s) (F0 m 275 ls []) := by
  obtain ⟨hx, hb, hr, hml, hown, hts0, hX, hbl, hlocks, hgv⟩ := id C0
  have hts : ∀ w ∈ zw, w.before #[Value.ref b] s = true := fun w h => hts0 w (List.mem_filter.mp h).1
  have hA : ∀ q : Nat, s.heap.size ≤ q → (fun a : Nat => s.heap.size ≤ a) q := fun _ h => h
  have hbA : ¬ (fun a : Nat => s.heap.size ≤ a) b := Nat.not_le.mpr hbl
  refine lv_aload_n hx hb dL_law_275 rfl (lv_at hl 2 rfl) ?_
  refine lv_aload_n hx hb dL_law_276 rfl (lv_at hl 3 rfl) ?_
  refine lv_iload_n hx hb dL_law_277 rfl (lv_at hl 0 rfl) ?_
  refine lv_iconst (v := 1) hx hb dL_law_278 (by decide) ?_
  refine lv_iadd hx hb dL_law_279 ?_
  refine z_top (v2 := .int 1) (congrArg Value.int (by decide)) ?_
  refine va_sld hx hb hX hbl hbA hS (show ¬ _ by decide) dL_law_280 ?_
  refine z_top (v2 := .int (xs 1)) rfl ?_
  refine zc2_i (wx := (zX k q 0 (-1) 12 100 0 (fun _ => 0) 0 0 (fun _ => 0) (fun _ => 0) (fun _ => 0) (fun _ => 0) (fun _ => 0) (fun _ => 0) (fun _ => 0) 0 0 0 (fun _ => 0) 0 1 232792560 0 0 0 0 0 1 (fun _ => 0) (fun _ => 0) 232792560 0 0 0 0 0 1 (fun _ => 0) (fun _ => 0) 232792560 0 0 0 0 0 1 (fun _ => 0) (fun _ => 0) 232792560 0 0 0 0 0 1 (fun _ => 0) (fun _ => 0) (-1) 0 (fun _ => 0) (-1) 0 (fun _ => 0) (-1) 0 (fun _ => 0) (-1) 0 (fun _ => 0))) (wm := (zM k q2 0 1 (fun _ => 0) (fun _ => 0) (fun _ => 0) (fun _ => 0) (fun _ => 0) (fun _ => 0) (fun _ => 0) (fun _ => 0) (fun _ => 0) 12 0 0 0 0 (fun _ => 0) (fun _ => 0) (fun _ => 0) 0 (-1) (fun _ => 0) 0 (fun _ => 0) (fun _ => 0) (fun _ => 0) (fun _ => 0) (fun _ => 0) 0 0 0 0 0 0 (fun _ => 0) 100 (fun _ => 0) (fun _ => 0) (fun _ => 0) (fun _ => 0) (fun _ => 0) 0)) (va_runV (As := [.int (xs 1)]) (rest := []) ⟨hx, hb, hml, hown, hts⟩ (c_X6_other l dC dI k  q 0 (fun _ => 0) (fun _ => 0) (fun _ => 0) (fun _ => 0) (fun _ => 0) (fun _ => 0) (fun _ => 0) 0 0 0 (fun _ => 0) 0 1 232792560 0 0 0 1 (fun _ => 0) (fun _ => 0) 232792560 0 0 0 1 (fun _ => 0) (fun _ => 0) 232792560 0 0 0 1 (fun _ => 0) (fun _ => 0) 232792560 0 0 0 1 (fun _ => 0) (fun _ => 0) (fun _ => 0) (fun _ => 0) (fun _ => 0) (fun _ => 0) (xs 1) _) (cwV 1 hts (gzV wmt2_40 wmt2_41 wmt2_42 wmt1_1 wmt2_43) rfl rfl rfl (by decide +kernel) ⟨Nat.le_of_ble_eq_true rfl, Nat.le_of_ble_eq_true rfl⟩) (zpA_V (ci := 6) (q0 := 0) hK (z_PL hP) (z_DL hD) rfl rfl) rfl rfl hl.1 rfl (lv_room (Nat.le_of_ble_eq_true rfl)) dL_law_281 ⟨Nat.le_of_ble_eq_true rfl, Nat.le_of_ble_eq_true rfl⟩) hP hD hS hA (fun r1 u H locs hw1 hP hD hS => ?_)
  refine lv_aload_n hx hb dL_law_284 rfl (lv_at hl 1 rfl) ?_
  refine lv_aload_n hx hb dL_law_285 rfl (lv_at hl 3 rfl) ?_
  refine lv_iload_n hx hb dL_law_286 rfl (lv_at hl 0 rfl) ?_
  refine lv_iconst (v := 1) hx hb dL_law_287 (by decide) ?_
  refine lv_iadd hx hb dL_law_288 ?_
  refine z_top (v2 := .int 1) (congrArg Value.int (by decide)) ?_
  refine va_sld hx hb hX hbl hbA hS (show ¬ _ by decide) dL_law_289 ?_
  refine z_top (v2 := .int (xs 1)) rfl ?_
  refine zcA_i (w := (zM k q2 0 1 (fun _ => 0) (fun _ => 0) (fun _ => 0) (fun _ => 0) (fun _ => 0) (fun _ => 0) (fun _ => 0) (fun _ => 0) (fun _ => 0) 12 0 0 0 0 (fun _ => 0) (fun _ => 0) (fun _ => 0) 0 (-1) (fun _ => 0) 0 (fun _ => 0) (fun _ => 0) (fun _ => 0) (fun _ => 0) (fun _ => 0) 0 0 0 0 0 0 (fun _ => 0) 100 (fun _ => 0) (fun _ => 0) (fun _ => 0) (fun _ => 0) (fun _ => 0) 0)) (va_runV (As := [.int (xs 1)]) (rest := [.int r1]) ⟨hx, hb, hml, hown, hts⟩ (c_X7_other l dC dI k (zTX k) q2 0 1 (fun _ => 0) (fun _ => 0) 0 0 0 0 0 0 0 0 0 0 (fun _ => 0) (fun _ => 0) 0 (xs 1) _) (cwV 1 hts (gzV wmt4_104 wmt4_105 wmt4_106 wmt1_8 wmt4_107) rfl rfl rfl (by decide +kernel) ⟨Nat.le_of_ble_eq_true rfl, Nat.le_of_ble_eq_true rfl⟩) (zpA_V (ci := 7) (q0 := 0) hK hP hD rfl rfl) rfl rfl hl.1 rfl (lv_room (Nat.le_of_ble_eq_true rfl)) dL_law_290 ⟨Nat.le_of_ble_eq_true rfl, Nat.le_of_ble_eq_true rfl⟩) hD hS hA (fun r2 u H locs hw2 hP hD hS => ?_)
  have hrr : r1 = r2 := hw1.trans hw2.symm
  refine lv_icmp_eq (tgt := 1527) hx hb dL_law_293 (by decide) (fun c_1 => ?_) (fun c_1 => ?_)
  · exact lw_end C0 hS hl
  · exact absurd hrr c_1
set_option maxHeartbeats 4000000 in
set_option maxRecDepth 100000 in
theorem lw_c4 {p : Program} {l : Launch} {e : Env} {s : State} {m : MethodId} {below : List Frame} {meth : Method} {c : Code} {b : Nat} {xs : Nat → Int32} {dC : Nat → ClassId} {dI : Nat → Nat → Nat} {k : Nat → ClassId} {q q2 : Nat → Nat} (C0 : lw_At p s m meth c b 6 xs) (hK : zK dC dI k (zTX k) s) {H : Heap} {locs : List Loc} (hP : va_P (dC, dI) vwCl ((zX k q 0 (-1) 12 100 0 (fun _ => 0) 0 0 (fun _ => 0) (fun _ => 0) (fun _ => 0) (fun _ => 0) (fun _ => 0) (fun _ => 0) (fun _ => 0) 0 0 0 (fun _ => 0) 0 1 232792560 0 0 0 0 0 1 (fun _ => 0) (fun _ => 0) 232792560 0 0 0 0 0 1 (fun _ => 0) (fun _ => 0) 232792560 0 0 0 0 0 1 (fun _ => 0) (fun _ => 0) 232792560 0 0 0 0 0 1 (fun _ => 0) (fun _ => 0) (-1) 0 (fun _ => 0) (-1) 0 (fun _ => 0) (-1) 0 (fun _ => 0) (-1) 0 (fun _ => 0)) ++ (zM k q2 0 1 (fun _ => 0) (fun _ => 0) (fun _ => 0) (fun _ => 0) (fun _ => 0) (fun _ => 0) (fun _ => 0) (fun _ => 0) (fun _ => 0) 12 0 0 0 0 (fun _ => 0) (fun _ => 0) (fun _ => 0) 0 (-1) (fun _ => 0) 0 (fun _ => 0) (fun _ => 0) (fun _ => 0) (fun _ => 0) (fun _ => 0) 0 0 0 0 0 0 (fun _ => 0) 100 (fun _ => 0) (fun _ => 0) (fun _ => 0) (fun _ => 0) (fun _ => 0) 0)) H) (hD : va_D (fun a : Nat => s.heap.size ≤ a) ((zX k q 0 (-1) 12 100 0 (fun _ => 0) 0 0 (fun _ => 0) (fun _ => 0) (fun _ => 0) (fun _ => 0) (fun _ => 0) (fun _ => 0) (fun _ => 0) 0 0 0 (fun _ => 0) 0 1 232792560 0 0 0 0 0 1 (fun _ => 0) (fun _ => 0) 232792560 0 0 0 0 0 1 (fun _ => 0) (fun _ => 0) 232792560 0 0 0 0 0 1 (fun _ => 0) (fun _ => 0) 232792560 0 0 0 0 0 1 (fun _ => 0) (fun _ => 0) (-1) 0 (fun _ => 0) (-1) 0 (fun _ => 0) (-1) 0 (fun _ => 0) (-1) 0 (fun _ => 0)) ++ (zM k q2 0 1 (fun _ => 0) (fun _ => 0) (fun _ => 0) (fun _ => 0) (fun _ => 0) (fun _ => 0) (fun _ => 0) (fun _ => 0) (fun _ => 0) 12 0 0 0 0 (fun _ => 0) (fun _ => 0) (fun _ => 0) 0 (-1) (fun _ => 0) 0 (fun _ => 0) (fun _ => 0) (fun _ => 0) (fun _ => 0) (fun _ => 0) 0 0 0 0 0 0 (fun _ => 0) 100 (fun _ => 0) (fun _ => 0) (fun _ => 0) (fun _ => 0) (fun _ => 0) 0))) (hS : va_S (fun a : Nat => s.heap.size ≤ a) s.heap H locs) {ls : Array Slot} (hl : lv_has ls 4 [(3, .int 0), (2, .ref (q2 0)), (1, .ref (q 0)), (0, .ref b)]) : W p l e room_1 s m #[Value.ref b] below meth c H locs 1000 10000 (lw_Z below #[Value.ref b] s) (F0 m 298 ls []) := by
  obtain ⟨hx, hb, hr, hml, hown, hts0, hX, hbl, hlocks, hgv⟩ := id C0
  have hts : ∀ w ∈ zw, w.before #[Value.ref b] s = true := fun w h => hts0 w (List.mem_filter.mp h).1
  have hA : ∀ q : Nat, s.heap.size ≤ q → (fun a : Nat => s.heap.size ≤ a) q := fun _ h => h
  have hbA : ¬ (fun a : Nat => s.heap.size ≤ a) b := Nat.not_le.mpr hbl
  refine lv_aload_n hx hb dL_law_298 rfl (lv_at hl 2 rfl) ?_
  refine lv_aload_n hx hb dL_law_299 rfl (lv_at hl 3 rfl) ?_
  refine lv_iload_n hx hb dL_law_300 rfl (lv_at hl 0 rfl) ?_
  refine lv_iconst (v := 1) hx hb dL_law_301 (by decide) ?_
  refine lv_iadd hx hb dL_law_302 ?_
  refine z_top (v2 := .int 1) (congrArg Value.int (by decide)) ?_
  refine va_sld hx hb hX hbl hbA hS (show ¬ _ by decide) dL_law_303 ?_
  refine z_top (v2 := .int (xs 1)) rfl ?_
  refine lv_aload_n hx hb dL_law_304 rfl (lv_at hl 3 rfl) ?_
  refine lv_iload_n hx hb dL_law_305 rfl (lv_at hl 0 rfl) ?_
  refine lv_iconst (v := 2) hx hb dL_law_306 (by decide) ?_
  refine lv_iadd hx hb dL_law_307 ?_
  refine z_top (v2 := .int 2) (congrArg Value.int (by decide)) ?_
  refine va_sld hx hb hX hbl hbA hS (show ¬ _ by decide) dL_law_308 ?_
  refine z_top (v2 := .int (xs 2)) rfl ?_
  refine lv_aload_n hx hb dL_law_309 rfl (lv_at hl 3 rfl) ?_
  refine lv_iload_n hx hb dL_law_310 rfl (lv_at hl 0 rfl) ?_
  refine lv_iconst (v := 3) hx hb dL_law_311 (by decide) ?_
  refine lv_iadd hx hb dL_law_312 ?_
  refine z_top (v2 := .int 3) (congrArg Value.int (by decide)) ?_
  refine va_sld hx hb hX hbl hbA hS (show ¬ _ by decide) dL_law_313 ?_
  refine z_top (v2 := .int (xs 3)) rfl ?_
  refine zc2_l (wx := (zX k q 0 (-1) 12 100 0 (fun _ => 0) 0 0 (fun _ => 0) (fun _ => 0) (fun _ => 0) (fun _ => 0) (fun _ => 0) (fun _ => 0) (fun _ => 0) 0 0 0 (fun _ => 0) 0 1 232792560 0 0 0 0 0 1 (fun _ => 0) (fun _ => 0) 232792560 0 0 0 0 0 1 (fun _ => 0) (fun _ => 0) 232792560 0 0 0 0 0 1 (fun _ => 0) (fun _ => 0) 232792560 0 0 0 0 0 1 (fun _ => 0) (fun _ => 0) (-1) 0 (fun _ => 0) (-1) 0 (fun _ => 0) (-1) 0 (fun _ => 0) (-1) 0 (fun _ => 0))) (wm := (zM k q2 0 1 (fun _ => 0) (fun _ => 0) (fun _ => 0) (fun _ => 0) (fun _ => 0) (fun _ => 0) (fun _ => 0) (fun _ => 0) (fun _ => 0) 12 0 0 0 0 (fun _ => 0) (fun _ => 0) (fun _ => 0) 0 (-1) (fun _ => 0) 0 (fun _ => 0) (fun _ => 0) (fun _ => 0) (fun _ => 0) (fun _ => 0) 0 0 0 0 0 0 (fun _ => 0) 100 (fun _ => 0) (fun _ => 0) (fun _ => 0) (fun _ => 0) (fun _ => 0) 0)) (va_runV (As := [.int (xs 1), .int (xs 2), .int (xs 3)]) (rest := []) ⟨hx, hb, hml, hown, hts⟩ (c_X6_saysYes l dC dI k  q 0 (fun _ => 0) (fun _ => 0) (fun _ => 0) (fun _ => 0) (fun _ => 0) (fun _ => 0) (fun _ => 0) 0 0 0 (fun _ => 0) 0 1 232792560 0 0 0 1 (fun _ => 0) (fun _ => 0) 232792560 0 0 0 1 (fun _ => 0) (fun _ => 0) 232792560 0 0 0 1 (fun _ => 0) (fun _ => 0) 232792560 0 0 0 1 (fun _ => 0) (fun _ => 0) (fun _ => 0) (fun _ => 0) (fun _ => 0) (fun _ => 0) (xs 1) (xs 2) (xs 3) _) (cwV 3 hts (gzV wmt2_44 wmt2_45 wmt2_46 wmt1_1 wmt2_47) rfl rfl rfl (by decide +kernel) ⟨Nat.le_of_ble_eq_true rfl, Nat.le_of_ble_eq_true rfl⟩) (zpA_V (ci := 6) (q0 := 0) hK (z_PL hP) (z_DL hD) rfl rfl) rfl rfl hl.1 rfl (lv_room (Nat.le_of_ble_eq_true rfl)) dL_law_314 ⟨Nat.le_of_ble_eq_true rfl, Nat.le_of_ble_eq_true rfl⟩) hP hD hS hA (fun r1 u H locs hw1 hP hD hS => ?_)
  refine lv_aload_n hx hb dL_law_317 rfl (lv_at hl 1 rfl) ?_
  refine lv_aload_n hx hb dL_law_318 rfl (lv_at hl 3 rfl) ?_
  refine lv_iload_n hx hb dL_law_319 rfl (lv_at hl 0 rfl) ?_
  refine lv_iconst (v := 1) hx hb dL_law_320 (by decide) ?_
  refine lv_iadd hx hb dL_law_321 ?_
  refine z_top (v2 := .int 1) (congrArg Value.int (by decide)) ?_
  refine va_sld hx hb hX hbl hbA hS (show ¬ _ by decide) dL_law_322 ?_
  refine z_top (v2 := .int (xs 1)) rfl ?_
  refine lv_aload_n hx hb dL_law_323 rfl (lv_at hl 3 rfl) ?_
  refine lv_iload_n hx hb dL_law_324 rfl (lv_at hl 0 rfl) ?_
  refine lv_iconst (v := 2) hx hb dL_law_325 (by decide) ?_
  refine lv_iadd hx hb dL_law_326 ?_
  refine z_top (v2 := .int 2) (congrArg Value.int (by decide)) ?_
  refine va_sld hx hb hX hbl hbA hS (show ¬ _ by decide) dL_law_327 ?_
  refine z_top (v2 := .int (xs 2)) rfl ?_
  refine lv_aload_n hx hb dL_law_328 rfl (lv_at hl 3 rfl) ?_
  refine lv_iload_n hx hb dL_law_329 rfl (lv_at hl 0 rfl) ?_
  refine lv_iconst (v := 3) hx hb dL_law_330 (by decide) ?_
  refine lv_iadd hx hb dL_law_331 ?_
  refine z_top (v2 := .int 3) (congrArg Value.int (by decide)) ?_
  refine va_sld hx hb hX hbl hbA hS (show ¬ _ by decide) dL_law_332 ?_
  refine z_top (v2 := .int (xs 3)) rfl ?_
  refine zcA_l (w := (zM k q2 0 1 (fun _ => 0) (fun _ => 0) (fun _ => 0) (fun _ => 0) (fun _ => 0) (fun _ => 0) (fun _ => 0) (fun _ => 0) (fun _ => 0) 12 0 0 0 0 (fun _ => 0) (fun _ => 0) (fun _ => 0) 0 (-1) (fun _ => 0) 0 (fun _ => 0) (fun _ => 0) (fun _ => 0) (fun _ => 0) (fun _ => 0) 0 0 0 0 0 0 (fun _ => 0) 100 (fun _ => 0) (fun _ => 0) (fun _ => 0) (fun _ => 0) (fun _ => 0) 0)) (va_runV (As := [.int (xs 1), .int (xs 2), .int (xs 3)]) (rest := [.long r1]) ⟨hx, hb, hml, hown, hts⟩ (c_X7_saysYes l dC dI k (zTX k) q2 0 1 (fun _ => 0) (fun _ => 0) 0 0 0 0 0 0 0 0 0 0 (fun _ => 0) (fun _ => 0) 0 (xs 1) (xs 2) (xs 3) _) (cwV 3 hts (gzV wmt4_108 wmt4_109 wmt4_110 wmt1_8 wmt4_111) rfl rfl rfl (by decide +kernel) ⟨Nat.le_of_ble_eq_true rfl, Nat.le_of_ble_eq_true rfl⟩) (zpA_V (ci := 7) (q0 := 0) hK hP hD rfl rfl) rfl rfl hl.1 rfl (lv_room (Nat.le_of_ble_eq_true rfl)) dL_law_333 ⟨Nat.le_of_ble_eq_true rfl, Nat.le_of_ble_eq_true rfl⟩) hD hS hA (fun r2 u H locs hw2 hP hD hS => ?_)
  refine z_lcmp hx hb dL_law_336 ?_
  have hrr : r1 = r2 := hw1.trans hw2.symm
  refine lv_if_eq (tgt := 1527) hx hb dL_law_337 (by decide) (fun c_1 => ?_) (fun c_1 => ?_)
  · exact lw_end C0 hS hl
  · exact absurd ((lg_cmp_eq _ _).mpr hrr) c_1
set_option maxHeartbeats 4000000 in
set_option maxRecDepth 100000 in
theorem lw_c5 {p : Program} {l : Launch} {e : Env} {s : State} {m : MethodId} {below : List Frame} {meth : Method} {c : Code} {b : Nat} {xs : Nat → Int32} {dC : Nat → ClassId} {dI : Nat → Nat → Nat} {k : Nat → ClassId} {q q2 : Nat → Nat} (C0 : lw_At p s m meth c b 6 xs) (hK : zK dC dI k (zTX k) s) {H : Heap} {locs : List Loc} (hP : va_P (dC, dI) vwCl ((zX k q 0 (-1) 12 100 0 (fun _ => 0) 0 0 (fun _ => 0) (fun _ => 0) (fun _ => 0) (fun _ => 0) (fun _ => 0) (fun _ => 0) (fun _ => 0) 0 0 0 (fun _ => 0) 0 1 232792560 0 0 0 0 0 1 (fun _ => 0) (fun _ => 0) 232792560 0 0 0 0 0 1 (fun _ => 0) (fun _ => 0) 232792560 0 0 0 0 0 1 (fun _ => 0) (fun _ => 0) 232792560 0 0 0 0 0 1 (fun _ => 0) (fun _ => 0) (-1) 0 (fun _ => 0) (-1) 0 (fun _ => 0) (-1) 0 (fun _ => 0) (-1) 0 (fun _ => 0)) ++ (zM k q2 0 1 (fun _ => 0) (fun _ => 0) (fun _ => 0) (fun _ => 0) (fun _ => 0) (fun _ => 0) (fun _ => 0) (fun _ => 0) (fun _ => 0) 12 0 0 0 0 (fun _ => 0) (fun _ => 0) (fun _ => 0) 0 (-1) (fun _ => 0) 0 (fun _ => 0) (fun _ => 0) (fun _ => 0) (fun _ => 0) (fun _ => 0) 0 0 0 0 0 0 (fun _ => 0) 100 (fun _ => 0) (fun _ => 0) (fun _ => 0) (fun _ => 0) (fun _ => 0) 0)) H) (hD : va_D (fun a : Nat => s.heap.size ≤ a) ((zX k q 0 (-1) 12 100 0 (fun _ => 0) 0 0 (fun _ => 0) (fun _ => 0) (fun _ => 0) (fun _ => 0) (fun _ => 0) (fun _ => 0) (fun _ => 0) 0 0 0 (fun _ => 0) 0 1 232792560 0 0 0 0 0 1 (fun _ => 0) (fun _ => 0) 232792560 0 0 0 0 0 1 (fun _ => 0) (fun _ => 0) 232792560 0 0 0 0 0 1 (fun _ => 0) (fun _ => 0) 232792560 0 0 0 0 0 1 (fun _ => 0) (fun _ => 0) (-1) 0 (fun _ => 0) (-1) 0 (fun _ => 0) (-1) 0 (fun _ => 0) (-1) 0 (fun _ => 0)) ++ (zM k q2 0 1 (fun _ => 0) (fun _ => 0) (fun _ => 0) (fun _ => 0) (fun _ => 0) (fun _ => 0) (fun _ => 0) (fun _ => 0) (fun _ => 0) 12 0 0 0 0 (fun _ => 0) (fun _ => 0) (fun _ => 0) 0 (-1) (fun _ => 0) 0 (fun _ => 0) (fun _ => 0) (fun _ => 0) (fun _ => 0) (fun _ => 0) 0 0 0 0 0 0 (fun _ => 0) 100 (fun _ => 0) (fun _ => 0) (fun _ => 0) (fun _ => 0) (fun _ => 0) 0))) (hS : va_S (fun a : Nat => s.heap.size ≤ a) s.heap H locs) {ls : Array Slot} (hl : lv_has ls 4 [(3, .int 0), (2, .ref (q2 0)), (1, .ref (q 0)), (0, .ref b)]) : W p l e room_1 s m #[Value.ref b] below meth c H locs 1000 10000 (lw_Z below #[Value.ref b] s) (F0 m 342 ls []) := by
  obtain ⟨hx, hb, hr, hml, hown, hts0, hX, hbl, hlocks, hgv⟩ := id C0
  have hts : ∀ w ∈ zw, w.before #[Value.ref b] s = true := fun w h => hts0 w (List.mem_filter.mp h).1
  have hA : ∀ q : Nat, s.heap.size ≤ q → (fun a : Nat => s.heap.size ≤ a) q := fun _ h => h
  have hbA : ¬ (fun a : Nat => s.heap.size ≤ a) b := Nat.not_le.mpr hbl
  refine lv_aload_n hx hb dL_law_342 rfl (lv_at hl 2 rfl) ?_
  refine lv_aload_n hx hb dL_law_343 rfl (lv_at hl 3 rfl) ?_
  refine lv_iload_n hx hb dL_law_344 rfl (lv_at hl 0 rfl) ?_
  refine lv_iconst (v := 1) hx hb dL_law_345 (by decide) ?_
  refine lv_iadd hx hb dL_law_346 ?_
  refine z_top (v2 := .int 1) (congrArg Value.int (by decide)) ?_
  refine va_sld hx hb hX hbl hbA hS (show ¬ _ by decide) dL_law_347 ?_
  refine z_top (v2 := .int (xs 1)) rfl ?_
  refine zc2_i (wx := (zX k q 0 (-1) 12 100 0 (fun _ => 0) 0 0 (fun _ => 0) (fun _ => 0) (fun _ => 0) (fun _ => 0) (fun _ => 0) (fun _ => 0) (fun _ => 0) 0 0 0 (fun _ => 0) 0 1 232792560 0 0 0 0 0 1 (fun _ => 0) (fun _ => 0) 232792560 0 0 0 0 0 1 (fun _ => 0) (fun _ => 0) 232792560 0 0 0 0 0 1 (fun _ => 0) (fun _ => 0) 232792560 0 0 0 0 0 1 (fun _ => 0) (fun _ => 0) (-1) 0 (fun _ => 0) (-1) 0 (fun _ => 0) (-1) 0 (fun _ => 0) (-1) 0 (fun _ => 0))) (wm := (zM k q2 0 1 (fun _ => 0) (fun _ => 0) (fun _ => 0) (fun _ => 0) (fun _ => 0) (fun _ => 0) (fun _ => 0) (fun _ => 0) (fun _ => 0) 12 0 0 0 0 (fun _ => 0) (fun _ => 0) (fun _ => 0) 0 (-1) (fun _ => 0) 0 (fun _ => 0) (fun _ => 0) (fun _ => 0) (fun _ => 0) (fun _ => 0) 0 0 0 0 0 0 (fun _ => 0) 100 (fun _ => 0) (fun _ => 0) (fun _ => 0) (fun _ => 0) (fun _ => 0) 0)) (va_runV (As := [.int (xs 1)]) (rest := []) ⟨hx, hb, hml, hown, hts⟩ (c_X6_unit l dC dI k  q 0 (fun _ => 0) (fun _ => 0) (fun _ => 0) (fun _ => 0) (fun _ => 0) (fun _ => 0) (fun _ => 0) 0 0 0 (fun _ => 0) 0 1 232792560 0 0 0 1 (fun _ => 0) (fun _ => 0) 232792560 0 0 0 1 (fun _ => 0) (fun _ => 0) 232792560 0 0 0 1 (fun _ => 0) (fun _ => 0) 232792560 0 0 0 1 (fun _ => 0) (fun _ => 0) (fun _ => 0) (fun _ => 0) (fun _ => 0) (fun _ => 0) (xs 1) _) (cwV 1 hts (gzV wmt2_65 wmt2_66 wmt2_67 wmt1_1 wmt2_68) rfl rfl rfl (by decide +kernel) ⟨Nat.le_of_ble_eq_true rfl, Nat.le_of_ble_eq_true rfl⟩) (zpA_V (ci := 6) (q0 := 0) hK (z_PL hP) (z_DL hD) rfl rfl) rfl rfl hl.1 rfl (lv_room (Nat.le_of_ble_eq_true rfl)) dL_law_348 ⟨Nat.le_of_ble_eq_true rfl, Nat.le_of_ble_eq_true rfl⟩) hP hD hS hA (fun r1 u H locs hw1 hP hD hS => ?_)
  refine lv_aload_n hx hb dL_law_351 rfl (lv_at hl 1 rfl) ?_
  refine lv_aload_n hx hb dL_law_352 rfl (lv_at hl 3 rfl) ?_
  refine lv_iload_n hx hb dL_law_353 rfl (lv_at hl 0 rfl) ?_
  refine lv_iconst (v := 1) hx hb dL_law_354 (by decide) ?_
  refine lv_iadd hx hb dL_law_355 ?_
  refine z_top (v2 := .int 1) (congrArg Value.int (by decide)) ?_
  refine va_sld hx hb hX hbl hbA hS (show ¬ _ by decide) dL_law_356 ?_
  refine z_top (v2 := .int (xs 1)) rfl ?_
  refine zcA_i (w := (zM k q2 0 1 (fun _ => 0) (fun _ => 0) (fun _ => 0) (fun _ => 0) (fun _ => 0) (fun _ => 0) (fun _ => 0) (fun _ => 0) (fun _ => 0) 12 0 0 0 0 (fun _ => 0) (fun _ => 0) (fun _ => 0) 0 (-1) (fun _ => 0) 0 (fun _ => 0) (fun _ => 0) (fun _ => 0) (fun _ => 0) (fun _ => 0) 0 0 0 0 0 0 (fun _ => 0) 100 (fun _ => 0) (fun _ => 0) (fun _ => 0) (fun _ => 0) (fun _ => 0) 0)) (va_runV (As := [.int (xs 1)]) (rest := [.int r1]) ⟨hx, hb, hml, hown, hts⟩ (c_X7_unit l dC dI k (zTX k) q2 0 1 (fun _ => 0) (fun _ => 0) 0 0 0 0 0 0 0 0 0 0 (fun _ => 0) (fun _ => 0) 0 (xs 1) _) (cwV 1 hts (gzV wmt4_137 wmt4_138 wmt4_139 wmt1_8 wmt4_140) rfl rfl rfl (by decide +kernel) ⟨Nat.le_of_ble_eq_true rfl, Nat.le_of_ble_eq_true rfl⟩) (zpA_V (ci := 7) (q0 := 0) hK hP hD rfl rfl) rfl rfl hl.1 rfl (lv_room (Nat.le_of_ble_eq_true rfl)) dL_law_357 ⟨Nat.le_of_ble_eq_true rfl, Nat.le_of_ble_eq_true rfl⟩) hD hS hA (fun r2 u H locs hw2 hP hD hS => ?_)
  have hrr : r1 = r2 := hw1.trans hw2.symm
  refine lv_icmp_eq (tgt := 1527) hx hb dL_law_360 (by decide) (fun c_1 => ?_) (fun c_1 => ?_)
  · exact lw_end C0 hS hl
  · exact absurd hrr c_1
set_option maxHeartbeats 4000000 in
set_option maxRecDepth 100000 in
theorem lw_c6 {p : Program} {l : Launch} {e : Env} {s : State} {m : MethodId} {below : List Frame} {meth : Method} {c : Code} {b : Nat} {xs : Nat → Int32} {dC : Nat → ClassId} {dI : Nat → Nat → Nat} {k : Nat → ClassId} {q q2 : Nat → Nat} (C0 : lw_At p s m meth c b 6 xs) (hK : zK dC dI k (zTX k) s) {H : Heap} {locs : List Loc} (hP : va_P (dC, dI) vwCl ((zX k q 0 (-1) 12 100 0 (fun _ => 0) 0 0 (fun _ => 0) (fun _ => 0) (fun _ => 0) (fun _ => 0) (fun _ => 0) (fun _ => 0) (fun _ => 0) 0 0 0 (fun _ => 0) 0 1 232792560 0 0 0 0 0 1 (fun _ => 0) (fun _ => 0) 232792560 0 0 0 0 0 1 (fun _ => 0) (fun _ => 0) 232792560 0 0 0 0 0 1 (fun _ => 0) (fun _ => 0) 232792560 0 0 0 0 0 1 (fun _ => 0) (fun _ => 0) (-1) 0 (fun _ => 0) (-1) 0 (fun _ => 0) (-1) 0 (fun _ => 0) (-1) 0 (fun _ => 0)) ++ (zM k q2 0 1 (fun _ => 0) (fun _ => 0) (fun _ => 0) (fun _ => 0) (fun _ => 0) (fun _ => 0) (fun _ => 0) (fun _ => 0) (fun _ => 0) 12 0 0 0 0 (fun _ => 0) (fun _ => 0) (fun _ => 0) 0 (-1) (fun _ => 0) 0 (fun _ => 0) (fun _ => 0) (fun _ => 0) (fun _ => 0) (fun _ => 0) 0 0 0 0 0 0 (fun _ => 0) 100 (fun _ => 0) (fun _ => 0) (fun _ => 0) (fun _ => 0) (fun _ => 0) 0)) H) (hD : va_D (fun a : Nat => s.heap.size ≤ a) ((zX k q 0 (-1) 12 100 0 (fun _ => 0) 0 0 (fun _ => 0) (fun _ => 0) (fun _ => 0) (fun _ => 0) (fun _ => 0) (fun _ => 0) (fun _ => 0) 0 0 0 (fun _ => 0) 0 1 232792560 0 0 0 0 0 1 (fun _ => 0) (fun _ => 0) 232792560 0 0 0 0 0 1 (fun _ => 0) (fun _ => 0) 232792560 0 0 0 0 0 1 (fun _ => 0) (fun _ => 0) 232792560 0 0 0 0 0 1 (fun _ => 0) (fun _ => 0) (-1) 0 (fun _ => 0) (-1) 0 (fun _ => 0) (-1) 0 (fun _ => 0) (-1) 0 (fun _ => 0)) ++ (zM k q2 0 1 (fun _ => 0) (fun _ => 0) (fun _ => 0) (fun _ => 0) (fun _ => 0) (fun _ => 0) (fun _ => 0) (fun _ => 0) (fun _ => 0) 12 0 0 0 0 (fun _ => 0) (fun _ => 0) (fun _ => 0) 0 (-1) (fun _ => 0) 0 (fun _ => 0) (fun _ => 0) (fun _ => 0) (fun _ => 0) (fun _ => 0) 0 0 0 0 0 0 (fun _ => 0) 100 (fun _ => 0) (fun _ => 0) (fun _ => 0) (fun _ => 0) (fun _ => 0) 0))) (hS : va_S (fun a : Nat => s.heap.size ≤ a) s.heap H locs) {ls : Array Slot} (hl : lv_has ls 4 [(3, .int 0), (2, .ref (q2 0)), (1, .ref (q 0)), (0, .ref b)]) : W p l e room_1 s m #[Value.ref b] below meth c H locs 1000 10000 (lw_Z below #[Value.ref b] s) (F0 m 365 ls []) := by
  obtain ⟨hx, hb, hr, hml, hown, hts0, hX, hbl, hlocks, hgv⟩ := id C0
  have hts : ∀ w ∈ zw, w.before #[Value.ref b] s = true := fun w h => hts0 w (List.mem_filter.mp h).1
  have hA : ∀ q : Nat, s.heap.size ≤ q → (fun a : Nat => s.heap.size ≤ a) q := fun _ h => h
  have hbA : ¬ (fun a : Nat => s.heap.size ≤ a) b := Nat.not_le.mpr hbl
  refine lv_aload_n hx hb dL_law_365 rfl (lv_at hl 2 rfl) ?_
  refine lv_aload_n hx hb dL_law_366 rfl (lv_at hl 3 rfl) ?_
  refine lv_iload_n hx hb dL_law_367 rfl (lv_at hl 0 rfl) ?_
  refine lv_iconst (v := 1) hx hb dL_law_368 (by decide) ?_
  refine lv_iadd hx hb dL_law_369 ?_
  refine z_top (v2 := .int 1) (congrArg Value.int (by decide)) ?_
  refine va_sld hx hb hX hbl hbA hS (show ¬ _ by decide) dL_law_370 ?_
  refine z_top (v2 := .int (xs 1)) rfl ?_
  refine zc2_i (wx := (zX k q 0 (-1) 12 100 0 (fun _ => 0) 0 0 (fun _ => 0) (fun _ => 0) (fun _ => 0) (fun _ => 0) (fun _ => 0) (fun _ => 0) (fun _ => 0) 0 0 0 (fun _ => 0) 0 1 232792560 0 0 0 0 0 1 (fun _ => 0) (fun _ => 0) 232792560 0 0 0 0 0 1 (fun _ => 0) (fun _ => 0) 232792560 0 0 0 0 0 1 (fun _ => 0) (fun _ => 0) 232792560 0 0 0 0 0 1 (fun _ => 0) (fun _ => 0) (-1) 0 (fun _ => 0) (-1) 0 (fun _ => 0) (-1) 0 (fun _ => 0) (-1) 0 (fun _ => 0))) (wm := (zM k q2 0 1 (fun _ => 0) (fun _ => 0) (fun _ => 0) (fun _ => 0) (fun _ => 0) (fun _ => 0) (fun _ => 0) (fun _ => 0) (fun _ => 0) 12 0 0 0 0 (fun _ => 0) (fun _ => 0) (fun _ => 0) 0 (-1) (fun _ => 0) 0 (fun _ => 0) (fun _ => 0) (fun _ => 0) (fun _ => 0) (fun _ => 0) 0 0 0 0 0 0 (fun _ => 0) 100 (fun _ => 0) (fun _ => 0) (fun _ => 0) (fun _ => 0) (fun _ => 0) 0)) (va_runV (As := [.int (xs 1)]) (rest := []) ⟨hx, hb, hml, hown, hts⟩ (c_X6_pass l dC dI k  q 0 (fun _ => 0) (fun _ => 0) (fun _ => 0) (fun _ => 0) (fun _ => 0) (fun _ => 0) (fun _ => 0) 0 0 0 (fun _ => 0) 0 1 232792560 0 0 0 1 (fun _ => 0) (fun _ => 0) 232792560 0 0 0 1 (fun _ => 0) (fun _ => 0) 232792560 0 0 0 1 (fun _ => 0) (fun _ => 0) 232792560 0 0 0 1 (fun _ => 0) (fun _ => 0) (fun _ => 0) (fun _ => 0) (fun _ => 0) (fun _ => 0) (xs 1) _) (cwV 1 hts (gzV wmt2_69 wmt2_70 wmt2_71 wmt1_1 wmt2_72) rfl rfl rfl (by decide +kernel) ⟨Nat.le_of_ble_eq_true rfl, Nat.le_of_ble_eq_true rfl⟩) (zpA_V (ci := 6) (q0 := 0) hK (z_PL hP) (z_DL hD) rfl rfl) rfl rfl hl.1 rfl (lv_room (Nat.le_of_ble_eq_true rfl)) dL_law_371 ⟨Nat.le_of_ble_eq_true rfl, Nat.le_of_ble_eq_true rfl⟩) hP hD hS hA (fun r1 u H locs hw1 hP hD hS => ?_)
  refine lv_aload_n hx hb dL_law_374 rfl (lv_at hl 1 rfl) ?_
  refine lv_aload_n hx hb dL_law_375 rfl (lv_at hl 3 rfl) ?_
  refine lv_iload_n hx hb dL_law_376 rfl (lv_at hl 0 rfl) ?_
  refine lv_iconst (v := 1) hx hb dL_law_377 (by decide) ?_
  refine lv_iadd hx hb dL_law_378 ?_
  refine z_top (v2 := .int 1) (congrArg Value.int (by decide)) ?_
  refine va_sld hx hb hX hbl hbA hS (show ¬ _ by decide) dL_law_379 ?_
  refine z_top (v2 := .int (xs 1)) rfl ?_
  refine zcA_i (w := (zM k q2 0 1 (fun _ => 0) (fun _ => 0) (fun _ => 0) (fun _ => 0) (fun _ => 0) (fun _ => 0) (fun _ => 0) (fun _ => 0) (fun _ => 0) 12 0 0 0 0 (fun _ => 0) (fun _ => 0) (fun _ => 0) 0 (-1) (fun _ => 0) 0 (fun _ => 0) (fun _ => 0) (fun _ => 0) (fun _ => 0) (fun _ => 0) 0 0 0 0 0 0 (fun _ => 0) 100 (fun _ => 0) (fun _ => 0) (fun _ => 0) (fun _ => 0) (fun _ => 0) 0)) (va_runV (As := [.int (xs 1)]) (rest := [.int r1]) ⟨hx, hb, hml, hown, hts⟩ (c_X7_pass l dC dI k (zTX k) q2 0 1 (fun _ => 0) (fun _ => 0) 0 0 0 0 0 0 0 0 0 0 (fun _ => 0) (fun _ => 0) 0 (xs 1) _) (cwV 1 hts (gzV wmt4_145 wmt4_146 wmt4_147 wmt1_8 wmt4_148) rfl rfl rfl (by decide +kernel) ⟨Nat.le_of_ble_eq_true rfl, Nat.le_of_ble_eq_true rfl⟩) (zpA_V (ci := 7) (q0 := 0) hK hP hD rfl rfl) rfl rfl hl.1 rfl (lv_room (Nat.le_of_ble_eq_true rfl)) dL_law_380 ⟨Nat.le_of_ble_eq_true rfl, Nat.le_of_ble_eq_true rfl⟩) hD hS hA (fun r2 u H locs hw2 hP hD hS => ?_)
  have hrr : r1 = r2 := hw1.trans hw2.symm
  refine lv_icmp_eq (tgt := 1527) hx hb dL_law_383 (by decide) (fun c_1 => ?_) (fun c_1 => ?_)
  · exact lw_end C0 hS hl
  · exact absurd hrr c_1
set_option maxHeartbeats 4000000 in
set_option maxRecDepth 100000 in
theorem lw_c7 {p : Program} {l : Launch} {e : Env} {s : State} {m : MethodId} {below : List Frame} {meth : Method} {c : Code} {b : Nat} {xs : Nat → Int32} {dC : Nat → ClassId} {dI : Nat → Nat → Nat} {k : Nat → ClassId} {q q2 : Nat → Nat} (C0 : lw_At p s m meth c b 6 xs) (hK : zK dC dI k (zTX k) s) {H : Heap} {locs : List Loc} (hP : va_P (dC, dI) vwCl ((zX k q 0 (-1) 12 100 0 (fun _ => 0) 0 0 (fun _ => 0) (fun _ => 0) (fun _ => 0) (fun _ => 0) (fun _ => 0) (fun _ => 0) (fun _ => 0) 0 0 0 (fun _ => 0) 0 1 232792560 0 0 0 0 0 1 (fun _ => 0) (fun _ => 0) 232792560 0 0 0 0 0 1 (fun _ => 0) (fun _ => 0) 232792560 0 0 0 0 0 1 (fun _ => 0) (fun _ => 0) 232792560 0 0 0 0 0 1 (fun _ => 0) (fun _ => 0) (-1) 0 (fun _ => 0) (-1) 0 (fun _ => 0) (-1) 0 (fun _ => 0) (-1) 0 (fun _ => 0)) ++ (zM k q2 0 1 (fun _ => 0) (fun _ => 0) (fun _ => 0) (fun _ => 0) (fun _ => 0) (fun _ => 0) (fun _ => 0) (fun _ => 0) (fun _ => 0) 12 0 0 0 0 (fun _ => 0) (fun _ => 0) (fun _ => 0) 0 (-1) (fun _ => 0) 0 (fun _ => 0) (fun _ => 0) (fun _ => 0) (fun _ => 0) (fun _ => 0) 0 0 0 0 0 0 (fun _ => 0) 100 (fun _ => 0) (fun _ => 0) (fun _ => 0) (fun _ => 0) (fun _ => 0) 0)) H) (hD : va_D (fun a : Nat => s.heap.size ≤ a) ((zX k q 0 (-1) 12 100 0 (fun _ => 0) 0 0 (fun _ => 0) (fun _ => 0) (fun _ => 0) (fun _ => 0) (fun _ => 0) (fun _ => 0) (fun _ => 0) 0 0 0 (fun _ => 0) 0 1 232792560 0 0 0 0 0 1 (fun _ => 0) (fun _ => 0) 232792560 0 0 0 0 0 1 (fun _ => 0) (fun _ => 0) 232792560 0 0 0 0 0 1 (fun _ => 0) (fun _ => 0) 232792560 0 0 0 0 0 1 (fun _ => 0) (fun _ => 0) (-1) 0 (fun _ => 0) (-1) 0 (fun _ => 0) (-1) 0 (fun _ => 0) (-1) 0 (fun _ => 0)) ++ (zM k q2 0 1 (fun _ => 0) (fun _ => 0) (fun _ => 0) (fun _ => 0) (fun _ => 0) (fun _ => 0) (fun _ => 0) (fun _ => 0) (fun _ => 0) 12 0 0 0 0 (fun _ => 0) (fun _ => 0) (fun _ => 0) 0 (-1) (fun _ => 0) 0 (fun _ => 0) (fun _ => 0) (fun _ => 0) (fun _ => 0) (fun _ => 0) 0 0 0 0 0 0 (fun _ => 0) 100 (fun _ => 0) (fun _ => 0) (fun _ => 0) (fun _ => 0) (fun _ => 0) 0))) (hS : va_S (fun a : Nat => s.heap.size ≤ a) s.heap H locs) {ls : Array Slot} (hl : lv_has ls 4 [(3, .int 0), (2, .ref (q2 0)), (1, .ref (q 0)), (0, .ref b)]) : W p l e room_1 s m #[Value.ref b] below meth c H locs 1000 10000 (lw_Z below #[Value.ref b] s) (F0 m 388 ls []) := by
  obtain ⟨hx, hb, hr, hml, hown, hts0, hX, hbl, hlocks, hgv⟩ := id C0
  have hts : ∀ w ∈ zw, w.before #[Value.ref b] s = true := fun w h => hts0 w (List.mem_filter.mp h).1
  have hA : ∀ q : Nat, s.heap.size ≤ q → (fun a : Nat => s.heap.size ≤ a) q := fun _ h => h
  have hbA : ¬ (fun a : Nat => s.heap.size ≤ a) b := Nat.not_le.mpr hbl
  refine lv_aload_n hx hb dL_law_388 rfl (lv_at hl 2 rfl) ?_
  refine lv_aload_n hx hb dL_law_389 rfl (lv_at hl 3 rfl) ?_
  refine lv_iload_n hx hb dL_law_390 rfl (lv_at hl 0 rfl) ?_
  refine lv_iconst (v := 1) hx hb dL_law_391 (by decide) ?_
  refine lv_iadd hx hb dL_law_392 ?_
  refine z_top (v2 := .int 1) (congrArg Value.int (by decide)) ?_
  refine va_sld hx hb hX hbl hbA hS (show ¬ _ by decide) dL_law_393 ?_
  refine z_top (v2 := .int (xs 1)) rfl ?_
  refine lv_aload_n hx hb dL_law_394 rfl (lv_at hl 3 rfl) ?_
  refine lv_iload_n hx hb dL_law_395 rfl (lv_at hl 0 rfl) ?_
  refine lv_iconst (v := 2) hx hb dL_law_396 (by decide) ?_
  refine lv_iadd hx hb dL_law_397 ?_
  refine z_top (v2 := .int 2) (congrArg Value.int (by decide)) ?_
  refine va_sld hx hb hX hbl hbA hS (show ¬ _ by decide) dL_law_398 ?_
  refine z_top (v2 := .int (xs 2)) rfl ?_
  refine zc2_i (wx := (zX k q 0 (-1) 12 100 0 (fun _ => 0) 0 0 (fun _ => 0) (fun _ => 0) (fun _ => 0) (fun _ => 0) (fun _ => 0) (fun _ => 0) (fun _ => 0) 0 0 0 (fun _ => 0) 0 1 232792560 0 0 0 0 0 1 (fun _ => 0) (fun _ => 0) 232792560 0 0 0 0 0 1 (fun _ => 0) (fun _ => 0) 232792560 0 0 0 0 0 1 (fun _ => 0) (fun _ => 0) 232792560 0 0 0 0 0 1 (fun _ => 0) (fun _ => 0) (-1) 0 (fun _ => 0) (-1) 0 (fun _ => 0) (-1) 0 (fun _ => 0) (-1) 0 (fun _ => 0))) (wm := (zM k q2 0 1 (fun _ => 0) (fun _ => 0) (fun _ => 0) (fun _ => 0) (fun _ => 0) (fun _ => 0) (fun _ => 0) (fun _ => 0) (fun _ => 0) 12 0 0 0 0 (fun _ => 0) (fun _ => 0) (fun _ => 0) 0 (-1) (fun _ => 0) 0 (fun _ => 0) (fun _ => 0) (fun _ => 0) (fun _ => 0) (fun _ => 0) 0 0 0 0 0 0 (fun _ => 0) 100 (fun _ => 0) (fun _ => 0) (fun _ => 0) (fun _ => 0) (fun _ => 0) 0)) (va_runV (As := [.int (xs 1), .int (xs 2)]) (rest := []) ⟨hx, hb, hml, hown, hts⟩ (c_X6_group l dC dI k  q 0 (fun _ => 0) (fun _ => 0) (fun _ => 0) (fun _ => 0) (fun _ => 0) (fun _ => 0) (fun _ => 0) 0 0 0 (fun _ => 0) 0 1 232792560 0 0 0 1 (fun _ => 0) (fun _ => 0) 232792560 0 0 0 1 (fun _ => 0) (fun _ => 0) 232792560 0 0 0 1 (fun _ => 0) (fun _ => 0) 232792560 0 0 0 1 (fun _ => 0) (fun _ => 0) (fun _ => 0) (fun _ => 0) (fun _ => 0) (fun _ => 0) (xs 1) (xs 2) _) (cwV 2 hts (gzV wmt2_73 wmt2_74 wmt2_75 wmt1_1 wmt2_76) rfl rfl rfl (by decide +kernel) ⟨Nat.le_of_ble_eq_true rfl, Nat.le_of_ble_eq_true rfl⟩) (zpA_V (ci := 6) (q0 := 0) hK (z_PL hP) (z_DL hD) rfl rfl) rfl rfl hl.1 rfl (lv_room (Nat.le_of_ble_eq_true rfl)) dL_law_399 ⟨Nat.le_of_ble_eq_true rfl, Nat.le_of_ble_eq_true rfl⟩) hP hD hS hA (fun r1 u H locs hw1 hP hD hS => ?_)
  refine lv_aload_n hx hb dL_law_402 rfl (lv_at hl 1 rfl) ?_
  refine lv_aload_n hx hb dL_law_403 rfl (lv_at hl 3 rfl) ?_
  refine lv_iload_n hx hb dL_law_404 rfl (lv_at hl 0 rfl) ?_
  refine lv_iconst (v := 1) hx hb dL_law_405 (by decide) ?_
  refine lv_iadd hx hb dL_law_406 ?_
  refine z_top (v2 := .int 1) (congrArg Value.int (by decide)) ?_
  refine va_sld hx hb hX hbl hbA hS (show ¬ _ by decide) dL_law_407 ?_
  refine z_top (v2 := .int (xs 1)) rfl ?_
  refine lv_aload_n hx hb dL_law_408 rfl (lv_at hl 3 rfl) ?_
  refine lv_iload_n hx hb dL_law_409 rfl (lv_at hl 0 rfl) ?_
  refine lv_iconst (v := 2) hx hb dL_law_410 (by decide) ?_
  refine lv_iadd hx hb dL_law_411 ?_
  refine z_top (v2 := .int 2) (congrArg Value.int (by decide)) ?_
  refine va_sld hx hb hX hbl hbA hS (show ¬ _ by decide) dL_law_412 ?_
  refine z_top (v2 := .int (xs 2)) rfl ?_
  refine zcA_i (w := (zM k q2 0 1 (fun _ => 0) (fun _ => 0) (fun _ => 0) (fun _ => 0) (fun _ => 0) (fun _ => 0) (fun _ => 0) (fun _ => 0) (fun _ => 0) 12 0 0 0 0 (fun _ => 0) (fun _ => 0) (fun _ => 0) 0 (-1) (fun _ => 0) 0 (fun _ => 0) (fun _ => 0) (fun _ => 0) (fun _ => 0) (fun _ => 0) 0 0 0 0 0 0 (fun _ => 0) 100 (fun _ => 0) (fun _ => 0) (fun _ => 0) (fun _ => 0) (fun _ => 0) 0)) (va_runV (As := [.int (xs 1), .int (xs 2)]) (rest := [.int r1]) ⟨hx, hb, hml, hown, hts⟩ (c_X7_group l dC dI k (zTX k) q2 0 1 (fun _ => 0) (fun _ => 0) 0 0 0 0 0 0 0 0 0 0 (fun _ => 0) (fun _ => 0) 0 (xs 1) (xs 2) _) (cwV 2 hts (gzV wmt4_149 wmt4_150 wmt4_151 wmt1_8 wmt4_152) rfl rfl rfl (by decide +kernel) ⟨Nat.le_of_ble_eq_true rfl, Nat.le_of_ble_eq_true rfl⟩) (zpA_V (ci := 7) (q0 := 0) hK hP hD rfl rfl) rfl rfl hl.1 rfl (lv_room (Nat.le_of_ble_eq_true rfl)) dL_law_413 ⟨Nat.le_of_ble_eq_true rfl, Nat.le_of_ble_eq_true rfl⟩) hD hS hA (fun r2 u H locs hw2 hP hD hS => ?_)
  have hrr : r1 = r2 := hw1.trans hw2.symm
  refine lv_icmp_eq (tgt := 1527) hx hb dL_law_416 (by decide) (fun c_1 => ?_) (fun c_1 => ?_)
  · exact lw_end C0 hS hl
  · exact absurd hrr c_1
set_option maxHeartbeats 4000000 in
set_option maxRecDepth 100000 in
theorem lw_c8 {p : Program} {l : Launch} {e : Env} {s : State} {m : MethodId} {below : List Frame} {meth : Method} {c : Code} {b : Nat} {xs : Nat → Int32} {dC : Nat → ClassId} {dI : Nat → Nat → Nat} {k : Nat → ClassId} {q q2 : Nat → Nat} (C0 : lw_At p s m meth c b 6 xs) (hK : zK dC dI k (zTX k) s) {H : Heap} {locs : List Loc} (hP : va_P (dC, dI) vwCl ((zX k q 0 (-1) 12 100 0 (fun _ => 0) 0 0 (fun _ => 0) (fun _ => 0) (fun _ => 0) (fun _ => 0) (fun _ => 0) (fun _ => 0) (fun _ => 0) 0 0 0 (fun _ => 0) 0 1 232792560 0 0 0 0 0 1 (fun _ => 0) (fun _ => 0) 232792560 0 0 0 0 0 1 (fun _ => 0) (fun _ => 0) 232792560 0 0 0 0 0 1 (fun _ => 0) (fun _ => 0) 232792560 0 0 0 0 0 1 (fun _ => 0) (fun _ => 0) (-1) 0 (fun _ => 0) (-1) 0 (fun _ => 0) (-1) 0 (fun _ => 0) (-1) 0 (fun _ => 0)) ++ (zM k q2 0 1 (fun _ => 0) (fun _ => 0) (fun _ => 0) (fun _ => 0) (fun _ => 0) (fun _ => 0) (fun _ => 0) (fun _ => 0) (fun _ => 0) 12 0 0 0 0 (fun _ => 0) (fun _ => 0) (fun _ => 0) 0 (-1) (fun _ => 0) 0 (fun _ => 0) (fun _ => 0) (fun _ => 0) (fun _ => 0) (fun _ => 0) 0 0 0 0 0 0 (fun _ => 0) 100 (fun _ => 0) (fun _ => 0) (fun _ => 0) (fun _ => 0) (fun _ => 0) 0)) H) (hD : va_D (fun a : Nat => s.heap.size ≤ a) ((zX k q 0 (-1) 12 100 0 (fun _ => 0) 0 0 (fun _ => 0) (fun _ => 0) (fun _ => 0) (fun _ => 0) (fun _ => 0) (fun _ => 0) (fun _ => 0) 0 0 0 (fun _ => 0) 0 1 232792560 0 0 0 0 0 1 (fun _ => 0) (fun _ => 0) 232792560 0 0 0 0 0 1 (fun _ => 0) (fun _ => 0) 232792560 0 0 0 0 0 1 (fun _ => 0) (fun _ => 0) 232792560 0 0 0 0 0 1 (fun _ => 0) (fun _ => 0) (-1) 0 (fun _ => 0) (-1) 0 (fun _ => 0) (-1) 0 (fun _ => 0) (-1) 0 (fun _ => 0)) ++ (zM k q2 0 1 (fun _ => 0) (fun _ => 0) (fun _ => 0) (fun _ => 0) (fun _ => 0) (fun _ => 0) (fun _ => 0) (fun _ => 0) (fun _ => 0) 12 0 0 0 0 (fun _ => 0) (fun _ => 0) (fun _ => 0) 0 (-1) (fun _ => 0) 0 (fun _ => 0) (fun _ => 0) (fun _ => 0) (fun _ => 0) (fun _ => 0) 0 0 0 0 0 0 (fun _ => 0) 100 (fun _ => 0) (fun _ => 0) (fun _ => 0) (fun _ => 0) (fun _ => 0) 0))) (hS : va_S (fun a : Nat => s.heap.size ≤ a) s.heap H locs) {ls : Array Slot} (hl : lv_has ls 4 [(3, .int 0), (2, .ref (q2 0)), (1, .ref (q 0)), (0, .ref b)]) : W p l e room_1 s m #[Value.ref b] below meth c H locs 1000 10000 (lw_Z below #[Value.ref b] s) (F0 m 421 ls []) := by
  obtain ⟨hx, hb, hr, hml, hown, hts0, hX, hbl, hlocks, hgv⟩ := id C0
  have hts : ∀ w ∈ zw, w.before #[Value.ref b] s = true := fun w h => hts0 w (List.mem_filter.mp h).1
  have hA : ∀ q : Nat, s.heap.size ≤ q → (fun a : Nat => s.heap.size ≤ a) q := fun _ h => h
  have hbA : ¬ (fun a : Nat => s.heap.size ≤ a) b := Nat.not_le.mpr hbl
  refine lv_aload_n hx hb dL_law_421 rfl (lv_at hl 2 rfl) ?_
  refine lv_aload_n hx hb dL_law_422 rfl (lv_at hl 3 rfl) ?_
  refine lv_iload_n hx hb dL_law_423 rfl (lv_at hl 0 rfl) ?_
  refine lv_iconst (v := 1) hx hb dL_law_424 (by decide) ?_
  refine lv_iadd hx hb dL_law_425 ?_
  refine z_top (v2 := .int 1) (congrArg Value.int (by decide)) ?_
  refine va_sld hx hb hX hbl hbA hS (show ¬ _ by decide) dL_law_426 ?_
  refine z_top (v2 := .int (xs 1)) rfl ?_
  refine lv_aload_n hx hb dL_law_427 rfl (lv_at hl 3 rfl) ?_
  refine lv_iload_n hx hb dL_law_428 rfl (lv_at hl 0 rfl) ?_
  refine lv_iconst (v := 2) hx hb dL_law_429 (by decide) ?_
  refine lv_iadd hx hb dL_law_430 ?_
  refine z_top (v2 := .int 2) (congrArg Value.int (by decide)) ?_
  refine va_sld hx hb hX hbl hbA hS (show ¬ _ by decide) dL_law_431 ?_
  refine z_top (v2 := .int (xs 2)) rfl ?_
  refine lv_aload_n hx hb dL_law_432 rfl (lv_at hl 3 rfl) ?_
  refine lv_iload_n hx hb dL_law_433 rfl (lv_at hl 0 rfl) ?_
  refine lv_iconst (v := 3) hx hb dL_law_434 (by decide) ?_
  refine lv_iadd hx hb dL_law_435 ?_
  refine z_top (v2 := .int 3) (congrArg Value.int (by decide)) ?_
  refine va_sld hx hb hX hbl hbA hS (show ¬ _ by decide) dL_law_436 ?_
  refine z_top (v2 := .int (xs 3)) rfl ?_
  refine zc2_i (wx := (zX k q 0 (-1) 12 100 0 (fun _ => 0) 0 0 (fun _ => 0) (fun _ => 0) (fun _ => 0) (fun _ => 0) (fun _ => 0) (fun _ => 0) (fun _ => 0) 0 0 0 (fun _ => 0) 0 1 232792560 0 0 0 0 0 1 (fun _ => 0) (fun _ => 0) 232792560 0 0 0 0 0 1 (fun _ => 0) (fun _ => 0) 232792560 0 0 0 0 0 1 (fun _ => 0) (fun _ => 0) 232792560 0 0 0 0 0 1 (fun _ => 0) (fun _ => 0) (-1) 0 (fun _ => 0) (-1) 0 (fun _ => 0) (-1) 0 (fun _ => 0) (-1) 0 (fun _ => 0))) (wm := (zM k q2 0 1 (fun _ => 0) (fun _ => 0) (fun _ => 0) (fun _ => 0) (fun _ => 0) (fun _ => 0) (fun _ => 0) (fun _ => 0) (fun _ => 0) 12 0 0 0 0 (fun _ => 0) (fun _ => 0) (fun _ => 0) 0 (-1) (fun _ => 0) 0 (fun _ => 0) (fun _ => 0) (fun _ => 0) (fun _ => 0) (fun _ => 0) 0 0 0 0 0 0 (fun _ => 0) 100 (fun _ => 0) (fun _ => 0) (fun _ => 0) (fun _ => 0) (fun _ => 0) 0)) (va_runV (As := [.int (xs 1), .int (xs 2), .int (xs 3)]) (rest := []) ⟨hx, hb, hml, hown, hts⟩ (c_X6_answer l dC dI k  q 0 (fun _ => 0) (fun _ => 0) (fun _ => 0) (fun _ => 0) (fun _ => 0) (fun _ => 0) (fun _ => 0) 0 0 0 (fun _ => 0) 0 1 232792560 0 0 0 1 (fun _ => 0) (fun _ => 0) 232792560 0 0 0 1 (fun _ => 0) (fun _ => 0) 232792560 0 0 0 1 (fun _ => 0) (fun _ => 0) 232792560 0 0 0 1 (fun _ => 0) (fun _ => 0) (fun _ => 0) (fun _ => 0) (fun _ => 0) (fun _ => 0) (xs 1) (xs 2) (xs 3) _) (cwV 3 hts (gzV wmt2_83 wmt2_84 wmt2_85 wmt1_1 wmt2_86) rfl rfl rfl (by decide +kernel) ⟨Nat.le_of_ble_eq_true rfl, Nat.le_of_ble_eq_true rfl⟩) (zpA_V (ci := 6) (q0 := 0) hK (z_PL hP) (z_DL hD) rfl rfl) rfl rfl hl.1 rfl (lv_room (Nat.le_of_ble_eq_true rfl)) dL_law_437 ⟨Nat.le_of_ble_eq_true rfl, Nat.le_of_ble_eq_true rfl⟩) hP hD hS hA (fun r1 u H locs hw1 hP hD hS => ?_)
  refine lv_aload_n hx hb dL_law_440 rfl (lv_at hl 1 rfl) ?_
  refine lv_aload_n hx hb dL_law_441 rfl (lv_at hl 3 rfl) ?_
  refine lv_iload_n hx hb dL_law_442 rfl (lv_at hl 0 rfl) ?_
  refine lv_iconst (v := 1) hx hb dL_law_443 (by decide) ?_
  refine lv_iadd hx hb dL_law_444 ?_
  refine z_top (v2 := .int 1) (congrArg Value.int (by decide)) ?_
  refine va_sld hx hb hX hbl hbA hS (show ¬ _ by decide) dL_law_445 ?_
  refine z_top (v2 := .int (xs 1)) rfl ?_
  refine lv_aload_n hx hb dL_law_446 rfl (lv_at hl 3 rfl) ?_
  refine lv_iload_n hx hb dL_law_447 rfl (lv_at hl 0 rfl) ?_
  refine lv_iconst (v := 2) hx hb dL_law_448 (by decide) ?_
  refine lv_iadd hx hb dL_law_449 ?_
  refine z_top (v2 := .int 2) (congrArg Value.int (by decide)) ?_
  refine va_sld hx hb hX hbl hbA hS (show ¬ _ by decide) dL_law_450 ?_
  refine z_top (v2 := .int (xs 2)) rfl ?_
  refine lv_aload_n hx hb dL_law_451 rfl (lv_at hl 3 rfl) ?_
  refine lv_iload_n hx hb dL_law_452 rfl (lv_at hl 0 rfl) ?_
  refine lv_iconst (v := 3) hx hb dL_law_453 (by decide) ?_
  refine lv_iadd hx hb dL_law_454 ?_
  refine z_top (v2 := .int 3) (congrArg Value.int (by decide)) ?_
  refine va_sld hx hb hX hbl hbA hS (show ¬ _ by decide) dL_law_455 ?_
  refine z_top (v2 := .int (xs 3)) rfl ?_
  refine zcA_i (w := (zM k q2 0 1 (fun _ => 0) (fun _ => 0) (fun _ => 0) (fun _ => 0) (fun _ => 0) (fun _ => 0) (fun _ => 0) (fun _ => 0) (fun _ => 0) 12 0 0 0 0 (fun _ => 0) (fun _ => 0) (fun _ => 0) 0 (-1) (fun _ => 0) 0 (fun _ => 0) (fun _ => 0) (fun _ => 0) (fun _ => 0) (fun _ => 0) 0 0 0 0 0 0 (fun _ => 0) 100 (fun _ => 0) (fun _ => 0) (fun _ => 0) (fun _ => 0) (fun _ => 0) 0)) (va_runV (As := [.int (xs 1), .int (xs 2), .int (xs 3)]) (rest := [.int r1]) ⟨hx, hb, hml, hown, hts⟩ (c_X7_answer l dC dI k (zTX k) q2 0 1 (fun _ => 0) (fun _ => 0) 0 0 0 0 0 0 0 0 0 0 (fun _ => 0) (fun _ => 0) 0 (xs 1) (xs 2) (xs 3) _) (cwV 3 hts (gzV wmt4_159 wmt4_160 wmt4_161 wmt1_8 wmt4_162) rfl rfl rfl (by decide +kernel) ⟨Nat.le_of_ble_eq_true rfl, Nat.le_of_ble_eq_true rfl⟩) (zpA_V (ci := 7) (q0 := 0) hK hP hD rfl rfl) rfl rfl hl.1 rfl (lv_room (Nat.le_of_ble_eq_true rfl)) dL_law_456 ⟨Nat.le_of_ble_eq_true rfl, Nat.le_of_ble_eq_true rfl⟩) hD hS hA (fun r2 u H locs hw2 hP hD hS => ?_)
  have hrr : r1 = r2 := hw1.trans hw2.symm
  refine lv_icmp_eq (tgt := 1527) hx hb dL_law_459 (by decide) (fun c_1 => ?_) (fun c_1 => ?_)
  · exact lw_end C0 hS hl
  · exact absurd hrr c_1
set_option maxHeartbeats 4000000 in
set_option maxRecDepth 100000 in
theorem lw_c9 {p : Program} {l : Launch} {e : Env} {s : State} {m : MethodId} {below : List Frame} {meth : Method} {c : Code} {b : Nat} {xs : Nat → Int32} {dC : Nat → ClassId} {dI : Nat → Nat → Nat} {k : Nat → ClassId} {q q2 : Nat → Nat} (C0 : lw_At p s m meth c b 6 xs) (hK : zK dC dI k (zTX k) s) {H : Heap} {locs : List Loc} (hP : va_P (dC, dI) vwCl ((zX k q 0 (-1) 12 100 0 (fun _ => 0) 0 0 (fun _ => 0) (fun _ => 0) (fun _ => 0) (fun _ => 0) (fun _ => 0) (fun _ => 0) (fun _ => 0) 0 0 0 (fun _ => 0) 0 1 232792560 0 0 0 0 0 1 (fun _ => 0) (fun _ => 0) 232792560 0 0 0 0 0 1 (fun _ => 0) (fun _ => 0) 232792560 0 0 0 0 0 1 (fun _ => 0) (fun _ => 0) 232792560 0 0 0 0 0 1 (fun _ => 0) (fun _ => 0) (-1) 0 (fun _ => 0) (-1) 0 (fun _ => 0) (-1) 0 (fun _ => 0) (-1) 0 (fun _ => 0)) ++ (zM k q2 0 1 (fun _ => 0) (fun _ => 0) (fun _ => 0) (fun _ => 0) (fun _ => 0) (fun _ => 0) (fun _ => 0) (fun _ => 0) (fun _ => 0) 12 0 0 0 0 (fun _ => 0) (fun _ => 0) (fun _ => 0) 0 (-1) (fun _ => 0) 0 (fun _ => 0) (fun _ => 0) (fun _ => 0) (fun _ => 0) (fun _ => 0) 0 0 0 0 0 0 (fun _ => 0) 100 (fun _ => 0) (fun _ => 0) (fun _ => 0) (fun _ => 0) (fun _ => 0) 0)) H) (hD : va_D (fun a : Nat => s.heap.size ≤ a) ((zX k q 0 (-1) 12 100 0 (fun _ => 0) 0 0 (fun _ => 0) (fun _ => 0) (fun _ => 0) (fun _ => 0) (fun _ => 0) (fun _ => 0) (fun _ => 0) 0 0 0 (fun _ => 0) 0 1 232792560 0 0 0 0 0 1 (fun _ => 0) (fun _ => 0) 232792560 0 0 0 0 0 1 (fun _ => 0) (fun _ => 0) 232792560 0 0 0 0 0 1 (fun _ => 0) (fun _ => 0) 232792560 0 0 0 0 0 1 (fun _ => 0) (fun _ => 0) (-1) 0 (fun _ => 0) (-1) 0 (fun _ => 0) (-1) 0 (fun _ => 0) (-1) 0 (fun _ => 0)) ++ (zM k q2 0 1 (fun _ => 0) (fun _ => 0) (fun _ => 0) (fun _ => 0) (fun _ => 0) (fun _ => 0) (fun _ => 0) (fun _ => 0) (fun _ => 0) 12 0 0 0 0 (fun _ => 0) (fun _ => 0) (fun _ => 0) 0 (-1) (fun _ => 0) 0 (fun _ => 0) (fun _ => 0) (fun _ => 0) (fun _ => 0) (fun _ => 0) 0 0 0 0 0 0 (fun _ => 0) 100 (fun _ => 0) (fun _ => 0) (fun _ => 0) (fun _ => 0) (fun _ => 0) 0))) (hS : va_S (fun a : Nat => s.heap.size ≤ a) s.heap H locs) {ls : Array Slot} (hl : lv_has ls 4 [(3, .int 0), (2, .ref (q2 0)), (1, .ref (q 0)), (0, .ref b)]) : W p l e room_1 s m #[Value.ref b] below meth c H locs 1000 10000 (lw_Z below #[Value.ref b] s) (F0 m 464 ls []) := by
  obtain ⟨hx, hb, hr, hml, hown, hts0, hX, hbl, hlocks, hgv⟩ := id C0
  have hts : ∀ w ∈ zw, w.before #[Value.ref b] s = true := fun w h => hts0 w (List.mem_filter.mp h).1
  have hA : ∀ q : Nat, s.heap.size ≤ q → (fun a : Nat => s.heap.size ≤ a) q := fun _ h => h
  have hbA : ¬ (fun a : Nat => s.heap.size ≤ a) b := Nat.not_le.mpr hbl
  refine lv_aload_n hx hb dL_law_464 rfl (lv_at hl 2 rfl) ?_
  refine lv_aload_n hx hb dL_law_465 rfl (lv_at hl 3 rfl) ?_
  refine lv_iload_n hx hb dL_law_466 rfl (lv_at hl 0 rfl) ?_
  refine lv_iconst (v := 1) hx hb dL_law_467 (by decide) ?_
  refine lv_iadd hx hb dL_law_468 ?_
  refine z_top (v2 := .int 1) (congrArg Value.int (by decide)) ?_
  refine va_sld hx hb hX hbl hbA hS (show ¬ _ by decide) dL_law_469 ?_
  refine z_top (v2 := .int (xs 1)) rfl ?_
  refine lv_aload_n hx hb dL_law_470 rfl (lv_at hl 3 rfl) ?_
  refine lv_iload_n hx hb dL_law_471 rfl (lv_at hl 0 rfl) ?_
  refine lv_iconst (v := 2) hx hb dL_law_472 (by decide) ?_
  refine lv_iadd hx hb dL_law_473 ?_
  refine z_top (v2 := .int 2) (congrArg Value.int (by decide)) ?_
  refine va_sld hx hb hX hbl hbA hS (show ¬ _ by decide) dL_law_474 ?_
  refine z_top (v2 := .int (xs 2)) rfl ?_
  refine zc2_i (wx := (zX k q 0 (-1) 12 100 0 (fun _ => 0) 0 0 (fun _ => 0) (fun _ => 0) (fun _ => 0) (fun _ => 0) (fun _ => 0) (fun _ => 0) (fun _ => 0) 0 0 0 (fun _ => 0) 0 1 232792560 0 0 0 0 0 1 (fun _ => 0) (fun _ => 0) 232792560 0 0 0 0 0 1 (fun _ => 0) (fun _ => 0) 232792560 0 0 0 0 0 1 (fun _ => 0) (fun _ => 0) 232792560 0 0 0 0 0 1 (fun _ => 0) (fun _ => 0) (-1) 0 (fun _ => 0) (-1) 0 (fun _ => 0) (-1) 0 (fun _ => 0) (-1) 0 (fun _ => 0))) (wm := (zM k q2 0 1 (fun _ => 0) (fun _ => 0) (fun _ => 0) (fun _ => 0) (fun _ => 0) (fun _ => 0) (fun _ => 0) (fun _ => 0) (fun _ => 0) 12 0 0 0 0 (fun _ => 0) (fun _ => 0) (fun _ => 0) 0 (-1) (fun _ => 0) 0 (fun _ => 0) (fun _ => 0) (fun _ => 0) (fun _ => 0) (fun _ => 0) 0 0 0 0 0 0 (fun _ => 0) 100 (fun _ => 0) (fun _ => 0) (fun _ => 0) (fun _ => 0) (fun _ => 0) 0)) (va_runV (As := [.int (xs 1), .int (xs 2)]) (rest := []) ⟨hx, hb, hml, hown, hts⟩ (c_X6_read l dC dI k  q 0 (fun _ => 0) (fun _ => 0) (fun _ => 0) (fun _ => 0) (fun _ => 0) (fun _ => 0) (fun _ => 0) 0 0 0 (fun _ => 0) 0 1 232792560 0 0 0 1 (fun _ => 0) (fun _ => 0) 232792560 0 0 0 1 (fun _ => 0) (fun _ => 0) 232792560 0 0 0 1 (fun _ => 0) (fun _ => 0) 232792560 0 0 0 1 (fun _ => 0) (fun _ => 0) (fun _ => 0) (fun _ => 0) (fun _ => 0) (fun _ => 0) (xs 1) (xs 2) _) (cwV 2 hts (gzV wmt2_91 wmt2_92 wmt2_93 wmt1_1 wmt2_94) rfl rfl rfl (by decide +kernel) ⟨Nat.le_of_ble_eq_true rfl, Nat.le_of_ble_eq_true rfl⟩) (zpA_V (ci := 6) (q0 := 0) hK (z_PL hP) (z_DL hD) rfl rfl) rfl rfl hl.1 rfl (lv_room (Nat.le_of_ble_eq_true rfl)) dL_law_475 ⟨Nat.le_of_ble_eq_true rfl, Nat.le_of_ble_eq_true rfl⟩) hP hD hS hA (fun r1 u H locs hw1 hP hD hS => ?_)
  refine lv_aload_n hx hb dL_law_478 rfl (lv_at hl 1 rfl) ?_
  refine lv_aload_n hx hb dL_law_479 rfl (lv_at hl 3 rfl) ?_
  refine lv_iload_n hx hb dL_law_480 rfl (lv_at hl 0 rfl) ?_
  refine lv_iconst (v := 1) hx hb dL_law_481 (by decide) ?_
  refine lv_iadd hx hb dL_law_482 ?_
  refine z_top (v2 := .int 1) (congrArg Value.int (by decide)) ?_
  refine va_sld hx hb hX hbl hbA hS (show ¬ _ by decide) dL_law_483 ?_
  refine z_top (v2 := .int (xs 1)) rfl ?_
  refine lv_aload_n hx hb dL_law_484 rfl (lv_at hl 3 rfl) ?_
  refine lv_iload_n hx hb dL_law_485 rfl (lv_at hl 0 rfl) ?_
  refine lv_iconst (v := 2) hx hb dL_law_486 (by decide) ?_
  refine lv_iadd hx hb dL_law_487 ?_
  refine z_top (v2 := .int 2) (congrArg Value.int (by decide)) ?_
  refine va_sld hx hb hX hbl hbA hS (show ¬ _ by decide) dL_law_488 ?_
  refine z_top (v2 := .int (xs 2)) rfl ?_
  refine zcA_i (w := (zM k q2 0 1 (fun _ => 0) (fun _ => 0) (fun _ => 0) (fun _ => 0) (fun _ => 0) (fun _ => 0) (fun _ => 0) (fun _ => 0) (fun _ => 0) 12 0 0 0 0 (fun _ => 0) (fun _ => 0) (fun _ => 0) 0 (-1) (fun _ => 0) 0 (fun _ => 0) (fun _ => 0) (fun _ => 0) (fun _ => 0) (fun _ => 0) 0 0 0 0 0 0 (fun _ => 0) 100 (fun _ => 0) (fun _ => 0) (fun _ => 0) (fun _ => 0) (fun _ => 0) 0)) (va_runV (As := [.int (xs 1), .int (xs 2)]) (rest := [.int r1]) ⟨hx, hb, hml, hown, hts⟩ (c_X7_read l dC dI k (zTX k) q2 0 1 (fun _ => 0) (fun _ => 0) 0 0 0 0 0 0 0 0 0 0 (fun _ => 0) (fun _ => 0) 0 (xs 1) (xs 2) _) (cwV 2 hts (gzV wmt4_167 wmt4_168 wmt4_169 wmt1_8 wmt4_170) rfl rfl rfl (by decide +kernel) ⟨Nat.le_of_ble_eq_true rfl, Nat.le_of_ble_eq_true rfl⟩) (zpA_V (ci := 7) (q0 := 0) hK hP hD rfl rfl) rfl rfl hl.1 rfl (lv_room (Nat.le_of_ble_eq_true rfl)) dL_law_489 ⟨Nat.le_of_ble_eq_true rfl, Nat.le_of_ble_eq_true rfl⟩) hD hS hA (fun r2 u H locs hw2 hP hD hS => ?_)
  have hrr : r1 = r2 := hw1.trans hw2.symm
  refine lv_icmp_eq (tgt := 1527) hx hb dL_law_492 (by decide) (fun c_1 => ?_) (fun c_1 => ?_)
  · exact lw_end C0 hS hl
  · exact absurd hrr c_1
