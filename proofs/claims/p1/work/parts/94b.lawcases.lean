set_option maxHeartbeats 4000000 in
set_option maxRecDepth 100000 in
theorem lw_c10 {p : Program} {l : Launch} {e : Env} {s : State} {m : MethodId} {below : List Frame} {meth : Method} {c : Code} {b : Nat} {xs : Nat → Int32} {dC : Nat → ClassId} {dI : Nat → Nat → Nat} {k : Nat → ClassId} {q q2 : Nat → Nat} (C0 : lw_At p s m meth c b 6 xs) (hK : zK dC dI k (zTX k) s) {H : Heap} {locs : List Loc} (hP : va_P (dC, dI) vwCl ((zX k q 0 (-1) 12 100 0 (fun _ => 0) 0 0 (fun _ => 0) (fun _ => 0) (fun _ => 0) (fun _ => 0) (fun _ => 0) (fun _ => 0) (fun _ => 0) 0 0 0 (fun _ => 0) 0 1 232792560 0 0 0 0 0 1 (fun _ => 0) (fun _ => 0) 232792560 0 0 0 0 0 1 (fun _ => 0) (fun _ => 0) 232792560 0 0 0 0 0 1 (fun _ => 0) (fun _ => 0) 232792560 0 0 0 0 0 1 (fun _ => 0) (fun _ => 0) (-1) 0 (fun _ => 0) (-1) 0 (fun _ => 0) (-1) 0 (fun _ => 0) (-1) 0 (fun _ => 0)) ++ (zM k q2 0 1 (fun _ => 0) (fun _ => 0) (fun _ => 0) (fun _ => 0) (fun _ => 0) (fun _ => 0) (fun _ => 0) (fun _ => 0) (fun _ => 0) 12 0 0 0 0 (fun _ => 0) (fun _ => 0) (fun _ => 0) 0 (-1) (fun _ => 0) 0 (fun _ => 0) (fun _ => 0) (fun _ => 0) (fun _ => 0) (fun _ => 0) 0 0 0 0 0 0 (fun _ => 0) 100 (fun _ => 0) (fun _ => 0) (fun _ => 0) (fun _ => 0) (fun _ => 0) 0)) H) (hD : va_D (fun a : Nat => s.heap.size ≤ a) ((zX k q 0 (-1) 12 100 0 (fun _ => 0) 0 0 (fun _ => 0) (fun _ => 0) (fun _ => 0) (fun _ => 0) (fun _ => 0) (fun _ => 0) (fun _ => 0) 0 0 0 (fun _ => 0) 0 1 232792560 0 0 0 0 0 1 (fun _ => 0) (fun _ => 0) 232792560 0 0 0 0 0 1 (fun _ => 0) (fun _ => 0) 232792560 0 0 0 0 0 1 (fun _ => 0) (fun _ => 0) 232792560 0 0 0 0 0 1 (fun _ => 0) (fun _ => 0) (-1) 0 (fun _ => 0) (-1) 0 (fun _ => 0) (-1) 0 (fun _ => 0) (-1) 0 (fun _ => 0)) ++ (zM k q2 0 1 (fun _ => 0) (fun _ => 0) (fun _ => 0) (fun _ => 0) (fun _ => 0) (fun _ => 0) (fun _ => 0) (fun _ => 0) (fun _ => 0) 12 0 0 0 0 (fun _ => 0) (fun _ => 0) (fun _ => 0) 0 (-1) (fun _ => 0) 0 (fun _ => 0) (fun _ => 0) (fun _ => 0) (fun _ => 0) (fun _ => 0) 0 0 0 0 0 0 (fun _ => 0) 100 (fun _ => 0) (fun _ => 0) (fun _ => 0) (fun _ => 0) (fun _ => 0) 0))) (hS : va_S (fun a : Nat => s.heap.size ≤ a) s.heap H locs) {ls : Array Slot} (hl : lv_has ls 4 [(3, .int 0), (2, .ref (q2 0)), (1, .ref (q 0)), (0, .ref b)]) : W p l e room_1 s m #[Value.ref b] below meth c H locs 1000 10000 (lw_Z below #[Value.ref b] s) (F0 m 497 ls []) := by
  obtain ⟨hx, hb, hr, hml, hown, hts0, hX, hbl, hlocks, hgv⟩ := id C0
  have hts : ∀ w ∈ zw, w.before #[Value.ref b] s = true := fun w h => hts0 w (List.mem_filter.mp h).1
  have hA : ∀ q : Nat, s.heap.size ≤ q → (fun a : Nat => s.heap.size ≤ a) q := fun _ h => h
  have hbA : ¬ (fun a : Nat => s.heap.size ≤ a) b := Nat.not_le.mpr hbl
  refine lv_aload_n hx hb dL_law_497 rfl (lv_at hl 2 rfl) ?_
  refine lv_aload_n hx hb dL_law_498 rfl (lv_at hl 3 rfl) ?_
  refine lv_iload_n hx hb dL_law_499 rfl (lv_at hl 0 rfl) ?_
  refine lv_iconst (v := 1) hx hb dL_law_500 (by decide) ?_
  refine lv_iadd hx hb dL_law_501 ?_
  refine z_top (v2 := .int 1) (congrArg Value.int (by decide)) ?_
  refine va_sld hx hb hX hbl hbA hS (show ¬ _ by decide) dL_law_502 ?_
  refine z_top (v2 := .int (xs 1)) rfl ?_
  refine zc2_i (wx := (zX k q 0 (-1) 12 100 0 (fun _ => 0) 0 0 (fun _ => 0) (fun _ => 0) (fun _ => 0) (fun _ => 0) (fun _ => 0) (fun _ => 0) (fun _ => 0) 0 0 0 (fun _ => 0) 0 1 232792560 0 0 0 0 0 1 (fun _ => 0) (fun _ => 0) 232792560 0 0 0 0 0 1 (fun _ => 0) (fun _ => 0) 232792560 0 0 0 0 0 1 (fun _ => 0) (fun _ => 0) 232792560 0 0 0 0 0 1 (fun _ => 0) (fun _ => 0) (-1) 0 (fun _ => 0) (-1) 0 (fun _ => 0) (-1) 0 (fun _ => 0) (-1) 0 (fun _ => 0))) (wm := (zM k q2 0 1 (fun _ => 0) (fun _ => 0) (fun _ => 0) (fun _ => 0) (fun _ => 0) (fun _ => 0) (fun _ => 0) (fun _ => 0) (fun _ => 0) 12 0 0 0 0 (fun _ => 0) (fun _ => 0) (fun _ => 0) 0 (-1) (fun _ => 0) 0 (fun _ => 0) (fun _ => 0) (fun _ => 0) (fun _ => 0) (fun _ => 0) 0 0 0 0 0 0 (fun _ => 0) 100 (fun _ => 0) (fun _ => 0) (fun _ => 0) (fun _ => 0) (fun _ => 0) 0)) (va_runV (As := [.int (xs 1)]) (rest := []) ⟨hx, hb, hml, hown, hts⟩ (c_X6_takeBack l dC dI k  q 0 (fun _ => 0) (fun _ => 0) (fun _ => 0) (fun _ => 0) (fun _ => 0) (fun _ => 0) (fun _ => 0) 0 0 0 (fun _ => 0) 0 1 232792560 0 0 0 1 (fun _ => 0) (fun _ => 0) 232792560 0 0 0 1 (fun _ => 0) (fun _ => 0) 232792560 0 0 0 1 (fun _ => 0) (fun _ => 0) 232792560 0 0 0 1 (fun _ => 0) (fun _ => 0) (fun _ => 0) (fun _ => 0) (fun _ => 0) (fun _ => 0) (xs 1) _) (cwV 1 hts (gzV wmt2_106 wmt2_107 wmt2_108 wmt1_1 wmt2_109) rfl rfl rfl (by decide +kernel) ⟨Nat.le_of_ble_eq_true rfl, Nat.le_of_ble_eq_true rfl⟩) (zpA_V (ci := 6) (q0 := 0) hK (z_PL hP) (z_DL hD) rfl rfl) rfl rfl hl.1 rfl (lv_room (Nat.le_of_ble_eq_true rfl)) dL_law_503 ⟨Nat.le_of_ble_eq_true rfl, Nat.le_of_ble_eq_true rfl⟩) hP hD hS hA (fun r1 u H locs hw1 hP hD hS => ?_)
  refine lv_aload_n hx hb dL_law_506 rfl (lv_at hl 1 rfl) ?_
  refine lv_aload_n hx hb dL_law_507 rfl (lv_at hl 3 rfl) ?_
  refine lv_iload_n hx hb dL_law_508 rfl (lv_at hl 0 rfl) ?_
  refine lv_iconst (v := 1) hx hb dL_law_509 (by decide) ?_
  refine lv_iadd hx hb dL_law_510 ?_
  refine z_top (v2 := .int 1) (congrArg Value.int (by decide)) ?_
  refine va_sld hx hb hX hbl hbA hS (show ¬ _ by decide) dL_law_511 ?_
  refine z_top (v2 := .int (xs 1)) rfl ?_
  refine zcA_i (w := (zM k q2 0 1 (fun _ => 0) (fun _ => 0) (fun _ => 0) (fun _ => 0) (fun _ => 0) (fun _ => 0) (fun _ => 0) (fun _ => 0) (fun _ => 0) 12 0 0 0 0 (fun _ => 0) (fun _ => 0) (fun _ => 0) 0 (-1) (fun _ => 0) 0 (fun _ => 0) (fun _ => 0) (fun _ => 0) (fun _ => 0) (fun _ => 0) 0 0 0 0 0 0 (fun _ => 0) 100 (fun _ => 0) (fun _ => 0) (fun _ => 0) (fun _ => 0) (fun _ => 0) 0)) (va_runV (As := [.int (xs 1)]) (rest := [.int r1]) ⟨hx, hb, hml, hown, hts⟩ (c_X7_takeBack l dC dI k (zTX k) q2 0 1 (fun _ => 0) (fun _ => 0) 0 0 0 0 0 0 0 0 0 0 (fun _ => 0) (fun _ => 0) 0 (xs 1) _) (cwV 1 hts (gzV wmt4_178 wmt4_179 wmt4_180 wmt1_8 wmt4_181) rfl rfl rfl (by decide +kernel) ⟨Nat.le_of_ble_eq_true rfl, Nat.le_of_ble_eq_true rfl⟩) (zpA_V (ci := 7) (q0 := 0) hK hP hD rfl rfl) rfl rfl hl.1 rfl (lv_room (Nat.le_of_ble_eq_true rfl)) dL_law_512 ⟨Nat.le_of_ble_eq_true rfl, Nat.le_of_ble_eq_true rfl⟩) hD hS hA (fun r2 u H locs hw2 hP hD hS => ?_)
  have hrr : r1 = r2 := hw1.trans hw2.symm
  refine lv_icmp_eq (tgt := 1527) hx hb dL_law_515 (by decide) (fun c_1 => ?_) (fun c_1 => ?_)
  · exact lw_end C0 hS hl
  · exact absurd hrr c_1
set_option maxHeartbeats 4000000 in
set_option maxRecDepth 100000 in
theorem lw_c11 {p : Program} {l : Launch} {e : Env} {s : State} {m : MethodId} {below : List Frame} {meth : Method} {c : Code} {b : Nat} {xs : Nat → Int32} {dC : Nat → ClassId} {dI : Nat → Nat → Nat} {k : Nat → ClassId} {q q2 : Nat → Nat} (C0 : lw_At p s m meth c b 6 xs) (hK : zK dC dI k (zTX k) s) {H : Heap} {locs : List Loc} (hP : va_P (dC, dI) vwCl ((zX k q 0 (-1) 12 100 0 (fun _ => 0) 0 0 (fun _ => 0) (fun _ => 0) (fun _ => 0) (fun _ => 0) (fun _ => 0) (fun _ => 0) (fun _ => 0) 0 0 0 (fun _ => 0) 0 1 232792560 0 0 0 0 0 1 (fun _ => 0) (fun _ => 0) 232792560 0 0 0 0 0 1 (fun _ => 0) (fun _ => 0) 232792560 0 0 0 0 0 1 (fun _ => 0) (fun _ => 0) 232792560 0 0 0 0 0 1 (fun _ => 0) (fun _ => 0) (-1) 0 (fun _ => 0) (-1) 0 (fun _ => 0) (-1) 0 (fun _ => 0) (-1) 0 (fun _ => 0)) ++ (zM k q2 0 1 (fun _ => 0) (fun _ => 0) (fun _ => 0) (fun _ => 0) (fun _ => 0) (fun _ => 0) (fun _ => 0) (fun _ => 0) (fun _ => 0) 12 0 0 0 0 (fun _ => 0) (fun _ => 0) (fun _ => 0) 0 (-1) (fun _ => 0) 0 (fun _ => 0) (fun _ => 0) (fun _ => 0) (fun _ => 0) (fun _ => 0) 0 0 0 0 0 0 (fun _ => 0) 100 (fun _ => 0) (fun _ => 0) (fun _ => 0) (fun _ => 0) (fun _ => 0) 0)) H) (hD : va_D (fun a : Nat => s.heap.size ≤ a) ((zX k q 0 (-1) 12 100 0 (fun _ => 0) 0 0 (fun _ => 0) (fun _ => 0) (fun _ => 0) (fun _ => 0) (fun _ => 0) (fun _ => 0) (fun _ => 0) 0 0 0 (fun _ => 0) 0 1 232792560 0 0 0 0 0 1 (fun _ => 0) (fun _ => 0) 232792560 0 0 0 0 0 1 (fun _ => 0) (fun _ => 0) 232792560 0 0 0 0 0 1 (fun _ => 0) (fun _ => 0) 232792560 0 0 0 0 0 1 (fun _ => 0) (fun _ => 0) (-1) 0 (fun _ => 0) (-1) 0 (fun _ => 0) (-1) 0 (fun _ => 0) (-1) 0 (fun _ => 0)) ++ (zM k q2 0 1 (fun _ => 0) (fun _ => 0) (fun _ => 0) (fun _ => 0) (fun _ => 0) (fun _ => 0) (fun _ => 0) (fun _ => 0) (fun _ => 0) 12 0 0 0 0 (fun _ => 0) (fun _ => 0) (fun _ => 0) 0 (-1) (fun _ => 0) 0 (fun _ => 0) (fun _ => 0) (fun _ => 0) (fun _ => 0) (fun _ => 0) 0 0 0 0 0 0 (fun _ => 0) 100 (fun _ => 0) (fun _ => 0) (fun _ => 0) (fun _ => 0) (fun _ => 0) 0))) (hS : va_S (fun a : Nat => s.heap.size ≤ a) s.heap H locs) {ls : Array Slot} (hl : lv_has ls 4 [(3, .int 0), (2, .ref (q2 0)), (1, .ref (q 0)), (0, .ref b)]) : W p l e room_1 s m #[Value.ref b] below meth c H locs 1000 10000 (lw_Z below #[Value.ref b] s) (F0 m 520 ls []) := by
  obtain ⟨hx, hb, hr, hml, hown, hts0, hX, hbl, hlocks, hgv⟩ := id C0
  have hts : ∀ w ∈ zw, w.before #[Value.ref b] s = true := fun w h => hts0 w (List.mem_filter.mp h).1
  have hA : ∀ q : Nat, s.heap.size ≤ q → (fun a : Nat => s.heap.size ≤ a) q := fun _ h => h
  have hbA : ¬ (fun a : Nat => s.heap.size ≤ a) b := Nat.not_le.mpr hbl
  refine lv_aload_n hx hb dL_law_520 rfl (lv_at hl 2 rfl) ?_
  refine lv_aload_n hx hb dL_law_521 rfl (lv_at hl 3 rfl) ?_
  refine lv_iload_n hx hb dL_law_522 rfl (lv_at hl 0 rfl) ?_
  refine lv_iconst (v := 1) hx hb dL_law_523 (by decide) ?_
  refine lv_iadd hx hb dL_law_524 ?_
  refine z_top (v2 := .int 1) (congrArg Value.int (by decide)) ?_
  refine va_sld hx hb hX hbl hbA hS (show ¬ _ by decide) dL_law_525 ?_
  refine z_top (v2 := .int (xs 1)) rfl ?_
  refine lv_aload_n hx hb dL_law_526 rfl (lv_at hl 3 rfl) ?_
  refine lv_iload_n hx hb dL_law_527 rfl (lv_at hl 0 rfl) ?_
  refine lv_iconst (v := 2) hx hb dL_law_528 (by decide) ?_
  refine lv_iadd hx hb dL_law_529 ?_
  refine z_top (v2 := .int 2) (congrArg Value.int (by decide)) ?_
  refine va_sld hx hb hX hbl hbA hS (show ¬ _ by decide) dL_law_530 ?_
  refine z_top (v2 := .int (xs 2)) rfl ?_
  refine zc2_i (wx := (zX k q 0 (-1) 12 100 0 (fun _ => 0) 0 0 (fun _ => 0) (fun _ => 0) (fun _ => 0) (fun _ => 0) (fun _ => 0) (fun _ => 0) (fun _ => 0) 0 0 0 (fun _ => 0) 0 1 232792560 0 0 0 0 0 1 (fun _ => 0) (fun _ => 0) 232792560 0 0 0 0 0 1 (fun _ => 0) (fun _ => 0) 232792560 0 0 0 0 0 1 (fun _ => 0) (fun _ => 0) 232792560 0 0 0 0 0 1 (fun _ => 0) (fun _ => 0) (-1) 0 (fun _ => 0) (-1) 0 (fun _ => 0) (-1) 0 (fun _ => 0) (-1) 0 (fun _ => 0))) (wm := (zM k q2 0 1 (fun _ => 0) (fun _ => 0) (fun _ => 0) (fun _ => 0) (fun _ => 0) (fun _ => 0) (fun _ => 0) (fun _ => 0) (fun _ => 0) 12 0 0 0 0 (fun _ => 0) (fun _ => 0) (fun _ => 0) 0 (-1) (fun _ => 0) 0 (fun _ => 0) (fun _ => 0) (fun _ => 0) (fun _ => 0) (fun _ => 0) 0 0 0 0 0 0 (fun _ => 0) 100 (fun _ => 0) (fun _ => 0) (fun _ => 0) (fun _ => 0) (fun _ => 0) 0)) (va_runV (As := [.int (xs 1), .int (xs 2)]) (rest := []) ⟨hx, hb, hml, hown, hts⟩ (c_X6_about l dC dI k  q 0 (fun _ => 0) (fun _ => 0) (fun _ => 0) (fun _ => 0) (fun _ => 0) (fun _ => 0) (fun _ => 0) 0 0 0 (fun _ => 0) 0 1 232792560 0 0 0 1 (fun _ => 0) (fun _ => 0) 232792560 0 0 0 1 (fun _ => 0) (fun _ => 0) 232792560 0 0 0 1 (fun _ => 0) (fun _ => 0) 232792560 0 0 0 1 (fun _ => 0) (fun _ => 0) (fun _ => 0) (fun _ => 0) (fun _ => 0) (fun _ => 0) (xs 1) (xs 2) _) (cwV 2 hts (gzV wmt2_114 wmt2_115 wmt2_116 wmt1_1 wmt2_117) rfl rfl rfl (by decide +kernel) ⟨Nat.le_of_ble_eq_true rfl, Nat.le_of_ble_eq_true rfl⟩) (zpA_V (ci := 6) (q0 := 0) hK (z_PL hP) (z_DL hD) rfl rfl) rfl rfl hl.1 rfl (lv_room (Nat.le_of_ble_eq_true rfl)) dL_law_531 ⟨Nat.le_of_ble_eq_true rfl, Nat.le_of_ble_eq_true rfl⟩) hP hD hS hA (fun r1 u H locs hw1 hP hD hS => ?_)
  refine lv_aload_n hx hb dL_law_534 rfl (lv_at hl 1 rfl) ?_
  refine lv_aload_n hx hb dL_law_535 rfl (lv_at hl 3 rfl) ?_
  refine lv_iload_n hx hb dL_law_536 rfl (lv_at hl 0 rfl) ?_
  refine lv_iconst (v := 1) hx hb dL_law_537 (by decide) ?_
  refine lv_iadd hx hb dL_law_538 ?_
  refine z_top (v2 := .int 1) (congrArg Value.int (by decide)) ?_
  refine va_sld hx hb hX hbl hbA hS (show ¬ _ by decide) dL_law_539 ?_
  refine z_top (v2 := .int (xs 1)) rfl ?_
  refine lv_aload_n hx hb dL_law_540 rfl (lv_at hl 3 rfl) ?_
  refine lv_iload_n hx hb dL_law_541 rfl (lv_at hl 0 rfl) ?_
  refine lv_iconst (v := 2) hx hb dL_law_542 (by decide) ?_
  refine lv_iadd hx hb dL_law_543 ?_
  refine z_top (v2 := .int 2) (congrArg Value.int (by decide)) ?_
  refine va_sld hx hb hX hbl hbA hS (show ¬ _ by decide) dL_law_544 ?_
  refine z_top (v2 := .int (xs 2)) rfl ?_
  refine zcA_i (w := (zM k q2 0 1 (fun _ => 0) (fun _ => 0) (fun _ => 0) (fun _ => 0) (fun _ => 0) (fun _ => 0) (fun _ => 0) (fun _ => 0) (fun _ => 0) 12 0 0 0 0 (fun _ => 0) (fun _ => 0) (fun _ => 0) 0 (-1) (fun _ => 0) 0 (fun _ => 0) (fun _ => 0) (fun _ => 0) (fun _ => 0) (fun _ => 0) 0 0 0 0 0 0 (fun _ => 0) 100 (fun _ => 0) (fun _ => 0) (fun _ => 0) (fun _ => 0) (fun _ => 0) 0)) (va_runV (As := [.int (xs 1), .int (xs 2)]) (rest := [.int r1]) ⟨hx, hb, hml, hown, hts⟩ (c_X7_about l dC dI k (zTX k) q2 0 1 (fun _ => 0) (fun _ => 0) 0 0 0 0 0 0 0 0 0 0 (fun _ => 0) (fun _ => 0) 0 (xs 1) (xs 2) _) (cwV 2 hts (gzV wmt4_186 wmt4_187 wmt4_188 wmt1_8 wmt4_189) rfl rfl rfl (by decide +kernel) ⟨Nat.le_of_ble_eq_true rfl, Nat.le_of_ble_eq_true rfl⟩) (zpA_V (ci := 7) (q0 := 0) hK hP hD rfl rfl) rfl rfl hl.1 rfl (lv_room (Nat.le_of_ble_eq_true rfl)) dL_law_545 ⟨Nat.le_of_ble_eq_true rfl, Nat.le_of_ble_eq_true rfl⟩) hD hS hA (fun r2 u H locs hw2 hP hD hS => ?_)
  have hrr : r1 = r2 := hw1.trans hw2.symm
  refine lv_icmp_eq (tgt := 1527) hx hb dL_law_548 (by decide) (fun c_1 => ?_) (fun c_1 => ?_)
  · exact lw_end C0 hS hl
  · exact absurd hrr c_1
set_option maxHeartbeats 4000000 in
set_option maxRecDepth 100000 in
theorem lw_c12 {p : Program} {l : Launch} {e : Env} {s : State} {m : MethodId} {below : List Frame} {meth : Method} {c : Code} {b : Nat} {xs : Nat → Int32} {dC : Nat → ClassId} {dI : Nat → Nat → Nat} {k : Nat → ClassId} {q q2 : Nat → Nat} (C0 : lw_At p s m meth c b 6 xs) (hK : zK dC dI k (zTX k) s) {H : Heap} {locs : List Loc} (hP : va_P (dC, dI) vwCl ((zX k q 0 (-1) 12 100 0 (fun _ => 0) 0 0 (fun _ => 0) (fun _ => 0) (fun _ => 0) (fun _ => 0) (fun _ => 0) (fun _ => 0) (fun _ => 0) 0 0 0 (fun _ => 0) 0 1 232792560 0 0 0 0 0 1 (fun _ => 0) (fun _ => 0) 232792560 0 0 0 0 0 1 (fun _ => 0) (fun _ => 0) 232792560 0 0 0 0 0 1 (fun _ => 0) (fun _ => 0) 232792560 0 0 0 0 0 1 (fun _ => 0) (fun _ => 0) (-1) 0 (fun _ => 0) (-1) 0 (fun _ => 0) (-1) 0 (fun _ => 0) (-1) 0 (fun _ => 0)) ++ (zM k q2 0 1 (fun _ => 0) (fun _ => 0) (fun _ => 0) (fun _ => 0) (fun _ => 0) (fun _ => 0) (fun _ => 0) (fun _ => 0) (fun _ => 0) 12 0 0 0 0 (fun _ => 0) (fun _ => 0) (fun _ => 0) 0 (-1) (fun _ => 0) 0 (fun _ => 0) (fun _ => 0) (fun _ => 0) (fun _ => 0) (fun _ => 0) 0 0 0 0 0 0 (fun _ => 0) 100 (fun _ => 0) (fun _ => 0) (fun _ => 0) (fun _ => 0) (fun _ => 0) 0)) H) (hD : va_D (fun a : Nat => s.heap.size ≤ a) ((zX k q 0 (-1) 12 100 0 (fun _ => 0) 0 0 (fun _ => 0) (fun _ => 0) (fun _ => 0) (fun _ => 0) (fun _ => 0) (fun _ => 0) (fun _ => 0) 0 0 0 (fun _ => 0) 0 1 232792560 0 0 0 0 0 1 (fun _ => 0) (fun _ => 0) 232792560 0 0 0 0 0 1 (fun _ => 0) (fun _ => 0) 232792560 0 0 0 0 0 1 (fun _ => 0) (fun _ => 0) 232792560 0 0 0 0 0 1 (fun _ => 0) (fun _ => 0) (-1) 0 (fun _ => 0) (-1) 0 (fun _ => 0) (-1) 0 (fun _ => 0) (-1) 0 (fun _ => 0)) ++ (zM k q2 0 1 (fun _ => 0) (fun _ => 0) (fun _ => 0) (fun _ => 0) (fun _ => 0) (fun _ => 0) (fun _ => 0) (fun _ => 0) (fun _ => 0) 12 0 0 0 0 (fun _ => 0) (fun _ => 0) (fun _ => 0) 0 (-1) (fun _ => 0) 0 (fun _ => 0) (fun _ => 0) (fun _ => 0) (fun _ => 0) (fun _ => 0) 0 0 0 0 0 0 (fun _ => 0) 100 (fun _ => 0) (fun _ => 0) (fun _ => 0) (fun _ => 0) (fun _ => 0) 0))) (hS : va_S (fun a : Nat => s.heap.size ≤ a) s.heap H locs) {ls : Array Slot} (hl : lv_has ls 4 [(3, .int 0), (2, .ref (q2 0)), (1, .ref (q 0)), (0, .ref b)]) : W p l e room_1 s m #[Value.ref b] below meth c H locs 1000 10000 (lw_Z below #[Value.ref b] s) (F0 m 553 ls []) := by
  obtain ⟨hx, hb, hr, hml, hown, hts0, hX, hbl, hlocks, hgv⟩ := id C0
  have hts : ∀ w ∈ zw, w.before #[Value.ref b] s = true := fun w h => hts0 w (List.mem_filter.mp h).1
  have hA : ∀ q : Nat, s.heap.size ≤ q → (fun a : Nat => s.heap.size ≤ a) q := fun _ h => h
  have hbA : ¬ (fun a : Nat => s.heap.size ≤ a) b := Nat.not_le.mpr hbl
  refine lv_aload_n hx hb dL_law_553 rfl (lv_at hl 2 rfl) ?_
  refine lv_aload_n hx hb dL_law_554 rfl (lv_at hl 3 rfl) ?_
  refine lv_iload_n hx hb dL_law_555 rfl (lv_at hl 0 rfl) ?_
  refine lv_iconst (v := 1) hx hb dL_law_556 (by decide) ?_
  refine lv_iadd hx hb dL_law_557 ?_
  refine z_top (v2 := .int 1) (congrArg Value.int (by decide)) ?_
  refine va_sld hx hb hX hbl hbA hS (show ¬ _ by decide) dL_law_558 ?_
  refine z_top (v2 := .int (xs 1)) rfl ?_
  refine zc2_i (wx := (zX k q 0 (-1) 12 100 0 (fun _ => 0) 0 0 (fun _ => 0) (fun _ => 0) (fun _ => 0) (fun _ => 0) (fun _ => 0) (fun _ => 0) (fun _ => 0) 0 0 0 (fun _ => 0) 0 1 232792560 0 0 0 0 0 1 (fun _ => 0) (fun _ => 0) 232792560 0 0 0 0 0 1 (fun _ => 0) (fun _ => 0) 232792560 0 0 0 0 0 1 (fun _ => 0) (fun _ => 0) 232792560 0 0 0 0 0 1 (fun _ => 0) (fun _ => 0) (-1) 0 (fun _ => 0) (-1) 0 (fun _ => 0) (-1) 0 (fun _ => 0) (-1) 0 (fun _ => 0))) (wm := (zM k q2 0 1 (fun _ => 0) (fun _ => 0) (fun _ => 0) (fun _ => 0) (fun _ => 0) (fun _ => 0) (fun _ => 0) (fun _ => 0) (fun _ => 0) 12 0 0 0 0 (fun _ => 0) (fun _ => 0) (fun _ => 0) 0 (-1) (fun _ => 0) 0 (fun _ => 0) (fun _ => 0) (fun _ => 0) (fun _ => 0) (fun _ => 0) 0 0 0 0 0 0 (fun _ => 0) 100 (fun _ => 0) (fun _ => 0) (fun _ => 0) (fun _ => 0) (fun _ => 0) 0)) (va_runV (As := [.int (xs 1)]) (rest := []) ⟨hx, hb, hml, hown, hts⟩ (c_X6_asOf l dC dI k  q 0 (fun _ => 0) (fun _ => 0) (fun _ => 0) (fun _ => 0) (fun _ => 0) (fun _ => 0) (fun _ => 0) 0 0 0 (fun _ => 0) 0 1 232792560 0 0 0 1 (fun _ => 0) (fun _ => 0) 232792560 0 0 0 1 (fun _ => 0) (fun _ => 0) 232792560 0 0 0 1 (fun _ => 0) (fun _ => 0) 232792560 0 0 0 1 (fun _ => 0) (fun _ => 0) (fun _ => 0) (fun _ => 0) (fun _ => 0) (fun _ => 0) (xs 1) _) (cwV 1 hts (gzV wmt2_126 wmt2_127 wmt2_128 wmt1_1 wmt2_129) rfl rfl rfl (by decide +kernel) ⟨Nat.le_of_ble_eq_true rfl, Nat.le_of_ble_eq_true rfl⟩) (zpA_V (ci := 6) (q0 := 0) hK (z_PL hP) (z_DL hD) rfl rfl) rfl rfl hl.1 rfl (lv_room (Nat.le_of_ble_eq_true rfl)) dL_law_559 ⟨Nat.le_of_ble_eq_true rfl, Nat.le_of_ble_eq_true rfl⟩) hP hD hS hA (fun r1 u H locs hw1 hP hD hS => ?_)
  refine lv_aload_n hx hb dL_law_562 rfl (lv_at hl 1 rfl) ?_
  refine lv_aload_n hx hb dL_law_563 rfl (lv_at hl 3 rfl) ?_
  refine lv_iload_n hx hb dL_law_564 rfl (lv_at hl 0 rfl) ?_
  refine lv_iconst (v := 1) hx hb dL_law_565 (by decide) ?_
  refine lv_iadd hx hb dL_law_566 ?_
  refine z_top (v2 := .int 1) (congrArg Value.int (by decide)) ?_
  refine va_sld hx hb hX hbl hbA hS (show ¬ _ by decide) dL_law_567 ?_
  refine z_top (v2 := .int (xs 1)) rfl ?_
  refine zcA_i (w := (zM k q2 0 1 (fun _ => 0) (fun _ => 0) (fun _ => 0) (fun _ => 0) (fun _ => 0) (fun _ => 0) (fun _ => 0) (fun _ => 0) (fun _ => 0) 12 0 0 0 0 (fun _ => 0) (fun _ => 0) (fun _ => 0) 0 (-1) (fun _ => 0) 0 (fun _ => 0) (fun _ => 0) (fun _ => 0) (fun _ => 0) (fun _ => 0) 0 0 0 0 0 0 (fun _ => 0) 100 (fun _ => 0) (fun _ => 0) (fun _ => 0) (fun _ => 0) (fun _ => 0) 0)) (va_runV (As := [.int (xs 1)]) (rest := [.int r1]) ⟨hx, hb, hml, hown, hts⟩ (c_X7_asOf l dC dI k (zTX k) q2 0 1 (fun _ => 0) (fun _ => 0) 0 0 0 0 0 0 0 0 0 0 (fun _ => 0) (fun _ => 0) 0 (xs 1) _) (cwV 1 hts (gzV wmt4_194 wmt4_195 wmt4_196 wmt1_8 wmt4_197) rfl rfl rfl (by decide +kernel) ⟨Nat.le_of_ble_eq_true rfl, Nat.le_of_ble_eq_true rfl⟩) (zpA_V (ci := 7) (q0 := 0) hK hP hD rfl rfl) rfl rfl hl.1 rfl (lv_room (Nat.le_of_ble_eq_true rfl)) dL_law_568 ⟨Nat.le_of_ble_eq_true rfl, Nat.le_of_ble_eq_true rfl⟩) hD hS hA (fun r2 u H locs hw2 hP hD hS => ?_)
  have hrr : r1 = r2 := hw1.trans hw2.symm
  refine lv_icmp_eq (tgt := 1527) hx hb dL_law_571 (by decide) (fun c_1 => ?_) (fun c_1 => ?_)
  · exact lw_end C0 hS hl
  · exact absurd hrr c_1
set_option maxHeartbeats 4000000 in
set_option maxRecDepth 100000 in
theorem lw_c13 {p : Program} {l : Launch} {e : Env} {s : State} {m : MethodId} {below : List Frame} {meth : Method} {c : Code} {b : Nat} {xs : Nat → Int32} {dC : Nat → ClassId} {dI : Nat → Nat → Nat} {k : Nat → ClassId} {q q2 : Nat → Nat} (C0 : lw_At p s m meth c b 6 xs) (hK : zK dC dI k (zTX k) s) {H : Heap} {locs : List Loc} (hP : va_P (dC, dI) vwCl ((zX k q 0 (-1) 12 100 0 (fun _ => 0) 0 0 (fun _ => 0) (fun _ => 0) (fun _ => 0) (fun _ => 0) (fun _ => 0) (fun _ => 0) (fun _ => 0) 0 0 0 (fun _ => 0) 0 1 232792560 0 0 0 0 0 1 (fun _ => 0) (fun _ => 0) 232792560 0 0 0 0 0 1 (fun _ => 0) (fun _ => 0) 232792560 0 0 0 0 0 1 (fun _ => 0) (fun _ => 0) 232792560 0 0 0 0 0 1 (fun _ => 0) (fun _ => 0) (-1) 0 (fun _ => 0) (-1) 0 (fun _ => 0) (-1) 0 (fun _ => 0) (-1) 0 (fun _ => 0)) ++ (zM k q2 0 1 (fun _ => 0) (fun _ => 0) (fun _ => 0) (fun _ => 0) (fun _ => 0) (fun _ => 0) (fun _ => 0) (fun _ => 0) (fun _ => 0) 12 0 0 0 0 (fun _ => 0) (fun _ => 0) (fun _ => 0) 0 (-1) (fun _ => 0) 0 (fun _ => 0) (fun _ => 0) (fun _ => 0) (fun _ => 0) (fun _ => 0) 0 0 0 0 0 0 (fun _ => 0) 100 (fun _ => 0) (fun _ => 0) (fun _ => 0) (fun _ => 0) (fun _ => 0) 0)) H) (hD : va_D (fun a : Nat => s.heap.size ≤ a) ((zX k q 0 (-1) 12 100 0 (fun _ => 0) 0 0 (fun _ => 0) (fun _ => 0) (fun _ => 0) (fun _ => 0) (fun _ => 0) (fun _ => 0) (fun _ => 0) 0 0 0 (fun _ => 0) 0 1 232792560 0 0 0 0 0 1 (fun _ => 0) (fun _ => 0) 232792560 0 0 0 0 0 1 (fun _ => 0) (fun _ => 0) 232792560 0 0 0 0 0 1 (fun _ => 0) (fun _ => 0) 232792560 0 0 0 0 0 1 (fun _ => 0) (fun _ => 0) (-1) 0 (fun _ => 0) (-1) 0 (fun _ => 0) (-1) 0 (fun _ => 0) (-1) 0 (fun _ => 0)) ++ (zM k q2 0 1 (fun _ => 0) (fun _ => 0) (fun _ => 0) (fun _ => 0) (fun _ => 0) (fun _ => 0) (fun _ => 0) (fun _ => 0) (fun _ => 0) 12 0 0 0 0 (fun _ => 0) (fun _ => 0) (fun _ => 0) 0 (-1) (fun _ => 0) 0 (fun _ => 0) (fun _ => 0) (fun _ => 0) (fun _ => 0) (fun _ => 0) 0 0 0 0 0 0 (fun _ => 0) 100 (fun _ => 0) (fun _ => 0) (fun _ => 0) (fun _ => 0) (fun _ => 0) 0))) (hS : va_S (fun a : Nat => s.heap.size ≤ a) s.heap H locs) {ls : Array Slot} (hl : lv_has ls 4 [(3, .int 0), (2, .ref (q2 0)), (1, .ref (q 0)), (0, .ref b)]) : W p l e room_1 s m #[Value.ref b] below meth c H locs 1000 10000 (lw_Z below #[Value.ref b] s) (F0 m 576 ls []) := by
  obtain ⟨hx, hb, hr, hml, hown, hts0, hX, hbl, hlocks, hgv⟩ := id C0
  have hts : ∀ w ∈ zw, w.before #[Value.ref b] s = true := fun w h => hts0 w (List.mem_filter.mp h).1
  have hA : ∀ q : Nat, s.heap.size ≤ q → (fun a : Nat => s.heap.size ≤ a) q := fun _ h => h
  have hbA : ¬ (fun a : Nat => s.heap.size ≤ a) b := Nat.not_le.mpr hbl
  refine lv_aload_n hx hb dL_law_576 rfl (lv_at hl 2 rfl) ?_
  refine lv_aload_n hx hb dL_law_577 rfl (lv_at hl 3 rfl) ?_
  refine lv_iload_n hx hb dL_law_578 rfl (lv_at hl 0 rfl) ?_
  refine lv_iconst (v := 1) hx hb dL_law_579 (by decide) ?_
  refine lv_iadd hx hb dL_law_580 ?_
  refine z_top (v2 := .int 1) (congrArg Value.int (by decide)) ?_
  refine va_sld hx hb hX hbl hbA hS (show ¬ _ by decide) dL_law_581 ?_
  refine z_top (v2 := .int (xs 1)) rfl ?_
  refine lv_aload_n hx hb dL_law_582 rfl (lv_at hl 3 rfl) ?_
  refine lv_iload_n hx hb dL_law_583 rfl (lv_at hl 0 rfl) ?_
  refine lv_iconst (v := 2) hx hb dL_law_584 (by decide) ?_
  refine lv_iadd hx hb dL_law_585 ?_
  refine z_top (v2 := .int 2) (congrArg Value.int (by decide)) ?_
  refine va_sld hx hb hX hbl hbA hS (show ¬ _ by decide) dL_law_586 ?_
  refine z_top (v2 := .int (xs 2)) rfl ?_
  refine lv_aload_n hx hb dL_law_587 rfl (lv_at hl 3 rfl) ?_
  refine lv_iload_n hx hb dL_law_588 rfl (lv_at hl 0 rfl) ?_
  refine lv_iconst (v := 3) hx hb dL_law_589 (by decide) ?_
  refine lv_iadd hx hb dL_law_590 ?_
  refine z_top (v2 := .int 3) (congrArg Value.int (by decide)) ?_
  refine va_sld hx hb hX hbl hbA hS (show ¬ _ by decide) dL_law_591 ?_
  refine z_top (v2 := .int (xs 3)) rfl ?_
  refine zc2_i (wx := (zX k q 0 (-1) 12 100 0 (fun _ => 0) 0 0 (fun _ => 0) (fun _ => 0) (fun _ => 0) (fun _ => 0) (fun _ => 0) (fun _ => 0) (fun _ => 0) 0 0 0 (fun _ => 0) 0 1 232792560 0 0 0 0 0 1 (fun _ => 0) (fun _ => 0) 232792560 0 0 0 0 0 1 (fun _ => 0) (fun _ => 0) 232792560 0 0 0 0 0 1 (fun _ => 0) (fun _ => 0) 232792560 0 0 0 0 0 1 (fun _ => 0) (fun _ => 0) (-1) 0 (fun _ => 0) (-1) 0 (fun _ => 0) (-1) 0 (fun _ => 0) (-1) 0 (fun _ => 0))) (wm := (zM k q2 0 1 (fun _ => 0) (fun _ => 0) (fun _ => 0) (fun _ => 0) (fun _ => 0) (fun _ => 0) (fun _ => 0) (fun _ => 0) (fun _ => 0) 12 0 0 0 0 (fun _ => 0) (fun _ => 0) (fun _ => 0) 0 (-1) (fun _ => 0) 0 (fun _ => 0) (fun _ => 0) (fun _ => 0) (fun _ => 0) (fun _ => 0) 0 0 0 0 0 0 (fun _ => 0) 100 (fun _ => 0) (fun _ => 0) (fun _ => 0) (fun _ => 0) (fun _ => 0) 0)) (va_runV (As := [.int (xs 1), .int (xs 2), .int (xs 3)]) (rest := []) ⟨hx, hb, hml, hown, hts⟩ (c_X6_poll l dC dI k  q 0 (fun _ => 0) (fun _ => 0) (fun _ => 0) (fun _ => 0) (fun _ => 0) (fun _ => 0) (fun _ => 0) 0 0 0 (fun _ => 0) 0 1 232792560 0 0 0 1 (fun _ => 0) (fun _ => 0) 232792560 0 0 0 1 (fun _ => 0) (fun _ => 0) 232792560 0 0 0 1 (fun _ => 0) (fun _ => 0) 232792560 0 0 0 1 (fun _ => 0) (fun _ => 0) (fun _ => 0) (fun _ => 0) (fun _ => 0) (fun _ => 0) (xs 1) (xs 2) (xs 3) _) (cwV 3 hts (gzV wmt2_130 wmt2_131 wmt2_132 wmt1_1 wmt2_133) rfl rfl rfl (by decide +kernel) ⟨Nat.le_of_ble_eq_true rfl, Nat.le_of_ble_eq_true rfl⟩) (zpA_V (ci := 6) (q0 := 0) hK (z_PL hP) (z_DL hD) rfl rfl) rfl rfl hl.1 rfl (lv_room (Nat.le_of_ble_eq_true rfl)) dL_law_592 ⟨Nat.le_of_ble_eq_true rfl, Nat.le_of_ble_eq_true rfl⟩) hP hD hS hA (fun r1 u H locs hw1 hP hD hS => ?_)
  refine lv_aload_n hx hb dL_law_595 rfl (lv_at hl 1 rfl) ?_
  refine lv_aload_n hx hb dL_law_596 rfl (lv_at hl 3 rfl) ?_
  refine lv_iload_n hx hb dL_law_597 rfl (lv_at hl 0 rfl) ?_
  refine lv_iconst (v := 1) hx hb dL_law_598 (by decide) ?_
  refine lv_iadd hx hb dL_law_599 ?_
  refine z_top (v2 := .int 1) (congrArg Value.int (by decide)) ?_
  refine va_sld hx hb hX hbl hbA hS (show ¬ _ by decide) dL_law_600 ?_
  refine z_top (v2 := .int (xs 1)) rfl ?_
  refine lv_aload_n hx hb dL_law_601 rfl (lv_at hl 3 rfl) ?_
  refine lv_iload_n hx hb dL_law_602 rfl (lv_at hl 0 rfl) ?_
  refine lv_iconst (v := 2) hx hb dL_law_603 (by decide) ?_
  refine lv_iadd hx hb dL_law_604 ?_
  refine z_top (v2 := .int 2) (congrArg Value.int (by decide)) ?_
  refine va_sld hx hb hX hbl hbA hS (show ¬ _ by decide) dL_law_605 ?_
  refine z_top (v2 := .int (xs 2)) rfl ?_
  refine lv_aload_n hx hb dL_law_606 rfl (lv_at hl 3 rfl) ?_
  refine lv_iload_n hx hb dL_law_607 rfl (lv_at hl 0 rfl) ?_
  refine lv_iconst (v := 3) hx hb dL_law_608 (by decide) ?_
  refine lv_iadd hx hb dL_law_609 ?_
  refine z_top (v2 := .int 3) (congrArg Value.int (by decide)) ?_
  refine va_sld hx hb hX hbl hbA hS (show ¬ _ by decide) dL_law_610 ?_
  refine z_top (v2 := .int (xs 3)) rfl ?_
  refine zcA_i (w := (zM k q2 0 1 (fun _ => 0) (fun _ => 0) (fun _ => 0) (fun _ => 0) (fun _ => 0) (fun _ => 0) (fun _ => 0) (fun _ => 0) (fun _ => 0) 12 0 0 0 0 (fun _ => 0) (fun _ => 0) (fun _ => 0) 0 (-1) (fun _ => 0) 0 (fun _ => 0) (fun _ => 0) (fun _ => 0) (fun _ => 0) (fun _ => 0) 0 0 0 0 0 0 (fun _ => 0) 100 (fun _ => 0) (fun _ => 0) (fun _ => 0) (fun _ => 0) (fun _ => 0) 0)) (va_runV (As := [.int (xs 1), .int (xs 2), .int (xs 3)]) (rest := [.int r1]) ⟨hx, hb, hml, hown, hts⟩ (c_X7_poll l dC dI k (zTX k) q2 0 1 (fun _ => 0) (fun _ => 0) 0 0 0 0 0 0 0 0 0 0 (fun _ => 0) (fun _ => 0) 0 (xs 1) (xs 2) (xs 3) _) (cwV 3 hts (gzV wmt4_198 wmt4_199 wmt4_200 wmt1_8 wmt4_201) rfl rfl rfl (by decide +kernel) ⟨Nat.le_of_ble_eq_true rfl, Nat.le_of_ble_eq_true rfl⟩) (zpA_V (ci := 7) (q0 := 0) hK hP hD rfl rfl) rfl rfl hl.1 rfl (lv_room (Nat.le_of_ble_eq_true rfl)) dL_law_611 ⟨Nat.le_of_ble_eq_true rfl, Nat.le_of_ble_eq_true rfl⟩) hD hS hA (fun r2 u H locs hw2 hP hD hS => ?_)
  have hrr : r1 = r2 := hw1.trans hw2.symm
  refine lv_icmp_eq (tgt := 1527) hx hb dL_law_614 (by decide) (fun c_1 => ?_) (fun c_1 => ?_)
  · exact lw_end C0 hS hl
  · exact absurd hrr c_1
set_option maxHeartbeats 4000000 in
set_option maxRecDepth 100000 in
theorem lw_c14 {p : Program} {l : Launch} {e : Env} {s : State} {m : MethodId} {below : List Frame} {meth : Method} {c : Code} {b : Nat} {xs : Nat → Int32} {dC : Nat → ClassId} {dI : Nat → Nat → Nat} {k : Nat → ClassId} {q q2 : Nat → Nat} (C0 : lw_At p s m meth c b 6 xs) (hK : zK dC dI k (zTX k) s) {H : Heap} {locs : List Loc} (hP : va_P (dC, dI) vwCl ((zX k q 0 (-1) 12 100 0 (fun _ => 0) 0 0 (fun _ => 0) (fun _ => 0) (fun _ => 0) (fun _ => 0) (fun _ => 0) (fun _ => 0) (fun _ => 0) 0 0 0 (fun _ => 0) 0 1 232792560 0 0 0 0 0 1 (fun _ => 0) (fun _ => 0) 232792560 0 0 0 0 0 1 (fun _ => 0) (fun _ => 0) 232792560 0 0 0 0 0 1 (fun _ => 0) (fun _ => 0) 232792560 0 0 0 0 0 1 (fun _ => 0) (fun _ => 0) (-1) 0 (fun _ => 0) (-1) 0 (fun _ => 0) (-1) 0 (fun _ => 0) (-1) 0 (fun _ => 0)) ++ (zM k q2 0 1 (fun _ => 0) (fun _ => 0) (fun _ => 0) (fun _ => 0) (fun _ => 0) (fun _ => 0) (fun _ => 0) (fun _ => 0) (fun _ => 0) 12 0 0 0 0 (fun _ => 0) (fun _ => 0) (fun _ => 0) 0 (-1) (fun _ => 0) 0 (fun _ => 0) (fun _ => 0) (fun _ => 0) (fun _ => 0) (fun _ => 0) 0 0 0 0 0 0 (fun _ => 0) 100 (fun _ => 0) (fun _ => 0) (fun _ => 0) (fun _ => 0) (fun _ => 0) 0)) H) (hD : va_D (fun a : Nat => s.heap.size ≤ a) ((zX k q 0 (-1) 12 100 0 (fun _ => 0) 0 0 (fun _ => 0) (fun _ => 0) (fun _ => 0) (fun _ => 0) (fun _ => 0) (fun _ => 0) (fun _ => 0) 0 0 0 (fun _ => 0) 0 1 232792560 0 0 0 0 0 1 (fun _ => 0) (fun _ => 0) 232792560 0 0 0 0 0 1 (fun _ => 0) (fun _ => 0) 232792560 0 0 0 0 0 1 (fun _ => 0) (fun _ => 0) 232792560 0 0 0 0 0 1 (fun _ => 0) (fun _ => 0) (-1) 0 (fun _ => 0) (-1) 0 (fun _ => 0) (-1) 0 (fun _ => 0) (-1) 0 (fun _ => 0)) ++ (zM k q2 0 1 (fun _ => 0) (fun _ => 0) (fun _ => 0) (fun _ => 0) (fun _ => 0) (fun _ => 0) (fun _ => 0) (fun _ => 0) (fun _ => 0) 12 0 0 0 0 (fun _ => 0) (fun _ => 0) (fun _ => 0) 0 (-1) (fun _ => 0) 0 (fun _ => 0) (fun _ => 0) (fun _ => 0) (fun _ => 0) (fun _ => 0) 0 0 0 0 0 0 (fun _ => 0) 100 (fun _ => 0) (fun _ => 0) (fun _ => 0) (fun _ => 0) (fun _ => 0) 0))) (hS : va_S (fun a : Nat => s.heap.size ≤ a) s.heap H locs) {ls : Array Slot} (hl : lv_has ls 4 [(3, .int 0), (2, .ref (q2 0)), (1, .ref (q 0)), (0, .ref b)]) : W p l e room_1 s m #[Value.ref b] below meth c H locs 1000 10000 (lw_Z below #[Value.ref b] s) (F0 m 619 ls []) := by
  obtain ⟨hx, hb, hr, hml, hown, hts0, hX, hbl, hlocks, hgv⟩ := id C0
  have hts : ∀ w ∈ zw, w.before #[Value.ref b] s = true := fun w h => hts0 w (List.mem_filter.mp h).1
  have hA : ∀ q : Nat, s.heap.size ≤ q → (fun a : Nat => s.heap.size ≤ a) q := fun _ h => h
  have hbA : ¬ (fun a : Nat => s.heap.size ≤ a) b := Nat.not_le.mpr hbl
  refine lv_aload_n hx hb dL_law_619 rfl (lv_at hl 2 rfl) ?_
  refine lv_aload_n hx hb dL_law_620 rfl (lv_at hl 3 rfl) ?_
  refine lv_iload_n hx hb dL_law_621 rfl (lv_at hl 0 rfl) ?_
  refine lv_iconst (v := 1) hx hb dL_law_622 (by decide) ?_
  refine lv_iadd hx hb dL_law_623 ?_
  refine z_top (v2 := .int 1) (congrArg Value.int (by decide)) ?_
  refine va_sld hx hb hX hbl hbA hS (show ¬ _ by decide) dL_law_624 ?_
  refine z_top (v2 := .int (xs 1)) rfl ?_
  refine lv_aload_n hx hb dL_law_625 rfl (lv_at hl 3 rfl) ?_
  refine lv_iload_n hx hb dL_law_626 rfl (lv_at hl 0 rfl) ?_
  refine lv_iconst (v := 2) hx hb dL_law_627 (by decide) ?_
  refine lv_iadd hx hb dL_law_628 ?_
  refine z_top (v2 := .int 2) (congrArg Value.int (by decide)) ?_
  refine va_sld hx hb hX hbl hbA hS (show ¬ _ by decide) dL_law_629 ?_
  refine z_top (v2 := .int (xs 2)) rfl ?_
  refine lv_aload_n hx hb dL_law_630 rfl (lv_at hl 3 rfl) ?_
  refine lv_iload_n hx hb dL_law_631 rfl (lv_at hl 0 rfl) ?_
  refine lv_iconst (v := 3) hx hb dL_law_632 (by decide) ?_
  refine lv_iadd hx hb dL_law_633 ?_
  refine z_top (v2 := .int 3) (congrArg Value.int (by decide)) ?_
  refine va_sld hx hb hX hbl hbA hS (show ¬ _ by decide) dL_law_634 ?_
  refine z_top (v2 := .int (xs 3)) rfl ?_
  refine zc2_l (wx := (zX k q 0 (-1) 12 100 0 (fun _ => 0) 0 0 (fun _ => 0) (fun _ => 0) (fun _ => 0) (fun _ => 0) (fun _ => 0) (fun _ => 0) (fun _ => 0) 0 0 0 (fun _ => 0) 0 1 232792560 0 0 0 0 0 1 (fun _ => 0) (fun _ => 0) 232792560 0 0 0 0 0 1 (fun _ => 0) (fun _ => 0) 232792560 0 0 0 0 0 1 (fun _ => 0) (fun _ => 0) 232792560 0 0 0 0 0 1 (fun _ => 0) (fun _ => 0) (-1) 0 (fun _ => 0) (-1) 0 (fun _ => 0) (-1) 0 (fun _ => 0) (-1) 0 (fun _ => 0))) (wm := (zM k q2 0 1 (fun _ => 0) (fun _ => 0) (fun _ => 0) (fun _ => 0) (fun _ => 0) (fun _ => 0) (fun _ => 0) (fun _ => 0) (fun _ => 0) 12 0 0 0 0 (fun _ => 0) (fun _ => 0) (fun _ => 0) 0 (-1) (fun _ => 0) 0 (fun _ => 0) (fun _ => 0) (fun _ => 0) (fun _ => 0) (fun _ => 0) 0 0 0 0 0 0 (fun _ => 0) 100 (fun _ => 0) (fun _ => 0) (fun _ => 0) (fun _ => 0) (fun _ => 0) 0)) (va_runV (As := [.int (xs 1), .int (xs 2), .int (xs 3)]) (rest := []) ⟨hx, hb, hml, hown, hts⟩ (c_X6_share l dC dI k  q 0 (fun _ => 0) (fun _ => 0) (fun _ => 0) (fun _ => 0) (fun _ => 0) (fun _ => 0) (fun _ => 0) 0 0 0 (fun _ => 0) 0 1 232792560 0 0 0 1 (fun _ => 0) (fun _ => 0) 232792560 0 0 0 1 (fun _ => 0) (fun _ => 0) 232792560 0 0 0 1 (fun _ => 0) (fun _ => 0) 232792560 0 0 0 1 (fun _ => 0) (fun _ => 0) (fun _ => 0) (fun _ => 0) (fun _ => 0) (fun _ => 0) (xs 1) (xs 2) (xs 3) _) (cwV 3 hts (gzV wmt2_146 wmt2_147 wmt2_148 wmt1_1 wmt2_149) rfl rfl rfl (by decide +kernel) ⟨Nat.le_of_ble_eq_true rfl, Nat.le_of_ble_eq_true rfl⟩) (zpA_V (ci := 6) (q0 := 0) hK (z_PL hP) (z_DL hD) rfl rfl) rfl rfl hl.1 rfl (lv_room (Nat.le_of_ble_eq_true rfl)) dL_law_635 ⟨Nat.le_of_ble_eq_true rfl, Nat.le_of_ble_eq_true rfl⟩) hP hD hS hA (fun r1 u H locs hw1 hP hD hS => ?_)
  refine lv_aload_n hx hb dL_law_638 rfl (lv_at hl 1 rfl) ?_
  refine lv_aload_n hx hb dL_law_639 rfl (lv_at hl 3 rfl) ?_
  refine lv_iload_n hx hb dL_law_640 rfl (lv_at hl 0 rfl) ?_
  refine lv_iconst (v := 1) hx hb dL_law_641 (by decide) ?_
  refine lv_iadd hx hb dL_law_642 ?_
  refine z_top (v2 := .int 1) (congrArg Value.int (by decide)) ?_
  refine va_sld hx hb hX hbl hbA hS (show ¬ _ by decide) dL_law_643 ?_
  refine z_top (v2 := .int (xs 1)) rfl ?_
  refine lv_aload_n hx hb dL_law_644 rfl (lv_at hl 3 rfl) ?_
  refine lv_iload_n hx hb dL_law_645 rfl (lv_at hl 0 rfl) ?_
  refine lv_iconst (v := 2) hx hb dL_law_646 (by decide) ?_
  refine lv_iadd hx hb dL_law_647 ?_
  refine z_top (v2 := .int 2) (congrArg Value.int (by decide)) ?_
  refine va_sld hx hb hX hbl hbA hS (show ¬ _ by decide) dL_law_648 ?_
  refine z_top (v2 := .int (xs 2)) rfl ?_
  refine lv_aload_n hx hb dL_law_649 rfl (lv_at hl 3 rfl) ?_
  refine lv_iload_n hx hb dL_law_650 rfl (lv_at hl 0 rfl) ?_
  refine lv_iconst (v := 3) hx hb dL_law_651 (by decide) ?_
  refine lv_iadd hx hb dL_law_652 ?_
  refine z_top (v2 := .int 3) (congrArg Value.int (by decide)) ?_
  refine va_sld hx hb hX hbl hbA hS (show ¬ _ by decide) dL_law_653 ?_
  refine z_top (v2 := .int (xs 3)) rfl ?_
  refine zcA_l (w := (zM k q2 0 1 (fun _ => 0) (fun _ => 0) (fun _ => 0) (fun _ => 0) (fun _ => 0) (fun _ => 0) (fun _ => 0) (fun _ => 0) (fun _ => 0) 12 0 0 0 0 (fun _ => 0) (fun _ => 0) (fun _ => 0) 0 (-1) (fun _ => 0) 0 (fun _ => 0) (fun _ => 0) (fun _ => 0) (fun _ => 0) (fun _ => 0) 0 0 0 0 0 0 (fun _ => 0) 100 (fun _ => 0) (fun _ => 0) (fun _ => 0) (fun _ => 0) (fun _ => 0) 0)) (va_runV (As := [.int (xs 1), .int (xs 2), .int (xs 3)]) (rest := [.long r1]) ⟨hx, hb, hml, hown, hts⟩ (c_X7_share l dC dI k (zTX k) q2 0 1 (fun _ => 0) (fun _ => 0) 0 0 0 0 0 0 0 0 0 0 (fun _ => 0) (fun _ => 0) 0 (xs 1) (xs 2) (xs 3) _) (cwV 3 hts (gzV wmt4_209 wmt4_210 wmt4_211 wmt1_8 wmt4_212) rfl rfl rfl (by decide +kernel) ⟨Nat.le_of_ble_eq_true rfl, Nat.le_of_ble_eq_true rfl⟩) (zpA_V (ci := 7) (q0 := 0) hK hP hD rfl rfl) rfl rfl hl.1 rfl (lv_room (Nat.le_of_ble_eq_true rfl)) dL_law_654 ⟨Nat.le_of_ble_eq_true rfl, Nat.le_of_ble_eq_true rfl⟩) hD hS hA (fun r2 u H locs hw2 hP hD hS => ?_)
  refine z_lcmp hx hb dL_law_657 ?_
  have hrr : r1 = r2 := hw1.trans hw2.symm
  refine lv_if_eq (tgt := 1527) hx hb dL_law_658 (by decide) (fun c_1 => ?_) (fun c_1 => ?_)
  · exact lw_end C0 hS hl
  · exact absurd ((lg_cmp_eq _ _).mpr hrr) c_1
set_option maxHeartbeats 4000000 in
set_option maxRecDepth 100000 in
theorem lw_c15 {p : Program} {l : Launch} {e : Env} {s : State} {m : MethodId} {below : List Frame} {meth : Method} {c : Code} {b : Nat} {xs : Nat → Int32} {dC : Nat → ClassId} {dI : Nat → Nat → Nat} {k : Nat → ClassId} {q q2 : Nat → Nat} (C0 : lw_At p s m meth c b 6 xs) (hK : zK dC dI k (zTX k) s) {H : Heap} {locs : List Loc} (hP : va_P (dC, dI) vwCl ((zX k q 0 (-1) 12 100 0 (fun _ => 0) 0 0 (fun _ => 0) (fun _ => 0) (fun _ => 0) (fun _ => 0) (fun _ => 0) (fun _ => 0) (fun _ => 0) 0 0 0 (fun _ => 0) 0 1 232792560 0 0 0 0 0 1 (fun _ => 0) (fun _ => 0) 232792560 0 0 0 0 0 1 (fun _ => 0) (fun _ => 0) 232792560 0 0 0 0 0 1 (fun _ => 0) (fun _ => 0) 232792560 0 0 0 0 0 1 (fun _ => 0) (fun _ => 0) (-1) 0 (fun _ => 0) (-1) 0 (fun _ => 0) (-1) 0 (fun _ => 0) (-1) 0 (fun _ => 0)) ++ (zM k q2 0 1 (fun _ => 0) (fun _ => 0) (fun _ => 0) (fun _ => 0) (fun _ => 0) (fun _ => 0) (fun _ => 0) (fun _ => 0) (fun _ => 0) 12 0 0 0 0 (fun _ => 0) (fun _ => 0) (fun _ => 0) 0 (-1) (fun _ => 0) 0 (fun _ => 0) (fun _ => 0) (fun _ => 0) (fun _ => 0) (fun _ => 0) 0 0 0 0 0 0 (fun _ => 0) 100 (fun _ => 0) (fun _ => 0) (fun _ => 0) (fun _ => 0) (fun _ => 0) 0)) H) (hD : va_D (fun a : Nat => s.heap.size ≤ a) ((zX k q 0 (-1) 12 100 0 (fun _ => 0) 0 0 (fun _ => 0) (fun _ => 0) (fun _ => 0) (fun _ => 0) (fun _ => 0) (fun _ => 0) (fun _ => 0) 0 0 0 (fun _ => 0) 0 1 232792560 0 0 0 0 0 1 (fun _ => 0) (fun _ => 0) 232792560 0 0 0 0 0 1 (fun _ => 0) (fun _ => 0) 232792560 0 0 0 0 0 1 (fun _ => 0) (fun _ => 0) 232792560 0 0 0 0 0 1 (fun _ => 0) (fun _ => 0) (-1) 0 (fun _ => 0) (-1) 0 (fun _ => 0) (-1) 0 (fun _ => 0) (-1) 0 (fun _ => 0)) ++ (zM k q2 0 1 (fun _ => 0) (fun _ => 0) (fun _ => 0) (fun _ => 0) (fun _ => 0) (fun _ => 0) (fun _ => 0) (fun _ => 0) (fun _ => 0) 12 0 0 0 0 (fun _ => 0) (fun _ => 0) (fun _ => 0) 0 (-1) (fun _ => 0) 0 (fun _ => 0) (fun _ => 0) (fun _ => 0) (fun _ => 0) (fun _ => 0) 0 0 0 0 0 0 (fun _ => 0) 100 (fun _ => 0) (fun _ => 0) (fun _ => 0) (fun _ => 0) (fun _ => 0) 0))) (hS : va_S (fun a : Nat => s.heap.size ≤ a) s.heap H locs) {ls : Array Slot} (hl : lv_has ls 4 [(3, .int 0), (2, .ref (q2 0)), (1, .ref (q 0)), (0, .ref b)]) : W p l e room_1 s m #[Value.ref b] below meth c H locs 1000 10000 (lw_Z below #[Value.ref b] s) (F0 m 663 ls []) := by
  obtain ⟨hx, hb, hr, hml, hown, hts0, hX, hbl, hlocks, hgv⟩ := id C0
  have hts : ∀ w ∈ zw, w.before #[Value.ref b] s = true := fun w h => hts0 w (List.mem_filter.mp h).1
  have hA : ∀ q : Nat, s.heap.size ≤ q → (fun a : Nat => s.heap.size ≤ a) q := fun _ h => h
  have hbA : ¬ (fun a : Nat => s.heap.size ≤ a) b := Nat.not_le.mpr hbl
  refine lv_aload_n hx hb dL_law_663 rfl (lv_at hl 2 rfl) ?_
  refine lv_aload_n hx hb dL_law_664 rfl (lv_at hl 3 rfl) ?_
  refine lv_iload_n hx hb dL_law_665 rfl (lv_at hl 0 rfl) ?_
  refine lv_iconst (v := 1) hx hb dL_law_666 (by decide) ?_
  refine lv_iadd hx hb dL_law_667 ?_
  refine z_top (v2 := .int 1) (congrArg Value.int (by decide)) ?_
  refine va_sld hx hb hX hbl hbA hS (show ¬ _ by decide) dL_law_668 ?_
  refine z_top (v2 := .int (xs 1)) rfl ?_
  refine lv_aload_n hx hb dL_law_669 rfl (lv_at hl 3 rfl) ?_
  refine lv_iload_n hx hb dL_law_670 rfl (lv_at hl 0 rfl) ?_
  refine lv_iconst (v := 2) hx hb dL_law_671 (by decide) ?_
  refine lv_iadd hx hb dL_law_672 ?_
  refine z_top (v2 := .int 2) (congrArg Value.int (by decide)) ?_
  refine va_sld hx hb hX hbl hbA hS (show ¬ _ by decide) dL_law_673 ?_
  refine z_top (v2 := .int (xs 2)) rfl ?_
  refine lv_aload_n hx hb dL_law_674 rfl (lv_at hl 3 rfl) ?_
  refine lv_iload_n hx hb dL_law_675 rfl (lv_at hl 0 rfl) ?_
  refine lv_iconst (v := 3) hx hb dL_law_676 (by decide) ?_
  refine lv_iadd hx hb dL_law_677 ?_
  refine z_top (v2 := .int 3) (congrArg Value.int (by decide)) ?_
  refine va_sld hx hb hX hbl hbA hS (show ¬ _ by decide) dL_law_678 ?_
  refine z_top (v2 := .int (xs 3)) rfl ?_
  refine zc2_l (wx := (zX k q 0 (-1) 12 100 0 (fun _ => 0) 0 0 (fun _ => 0) (fun _ => 0) (fun _ => 0) (fun _ => 0) (fun _ => 0) (fun _ => 0) (fun _ => 0) 0 0 0 (fun _ => 0) 0 1 232792560 0 0 0 0 0 1 (fun _ => 0) (fun _ => 0) 232792560 0 0 0 0 0 1 (fun _ => 0) (fun _ => 0) 232792560 0 0 0 0 0 1 (fun _ => 0) (fun _ => 0) 232792560 0 0 0 0 0 1 (fun _ => 0) (fun _ => 0) (-1) 0 (fun _ => 0) (-1) 0 (fun _ => 0) (-1) 0 (fun _ => 0) (-1) 0 (fun _ => 0))) (wm := (zM k q2 0 1 (fun _ => 0) (fun _ => 0) (fun _ => 0) (fun _ => 0) (fun _ => 0) (fun _ => 0) (fun _ => 0) (fun _ => 0) (fun _ => 0) 12 0 0 0 0 (fun _ => 0) (fun _ => 0) (fun _ => 0) 0 (-1) (fun _ => 0) 0 (fun _ => 0) (fun _ => 0) (fun _ => 0) (fun _ => 0) (fun _ => 0) 0 0 0 0 0 0 (fun _ => 0) 100 (fun _ => 0) (fun _ => 0) (fun _ => 0) (fun _ => 0) (fun _ => 0) 0)) (va_runV (As := [.int (xs 1), .int (xs 2), .int (xs 3)]) (rest := []) ⟨hx, hb, hml, hown, hts⟩ (c_X6_scatter l dC dI k  q 0 (fun _ => 0) (fun _ => 0) (fun _ => 0) (fun _ => 0) (fun _ => 0) (fun _ => 0) (fun _ => 0) 0 0 0 (fun _ => 0) 0 1 232792560 0 0 0 1 (fun _ => 0) (fun _ => 0) 232792560 0 0 0 1 (fun _ => 0) (fun _ => 0) 232792560 0 0 0 1 (fun _ => 0) (fun _ => 0) 232792560 0 0 0 1 (fun _ => 0) (fun _ => 0) (fun _ => 0) (fun _ => 0) (fun _ => 0) (fun _ => 0) (xs 1) (xs 2) (xs 3) _) (cwV 3 hts (gzV wmt2_162 wmt2_163 wmt2_164 wmt1_1 wmt2_165) rfl rfl rfl (by decide +kernel) ⟨Nat.le_of_ble_eq_true rfl, Nat.le_of_ble_eq_true rfl⟩) (zpA_V (ci := 6) (q0 := 0) hK (z_PL hP) (z_DL hD) rfl rfl) rfl rfl hl.1 rfl (lv_room (Nat.le_of_ble_eq_true rfl)) dL_law_679 ⟨Nat.le_of_ble_eq_true rfl, Nat.le_of_ble_eq_true rfl⟩) hP hD hS hA (fun r1 u H locs hw1 hP hD hS => ?_)
  refine lv_aload_n hx hb dL_law_682 rfl (lv_at hl 1 rfl) ?_
  refine lv_aload_n hx hb dL_law_683 rfl (lv_at hl 3 rfl) ?_
  refine lv_iload_n hx hb dL_law_684 rfl (lv_at hl 0 rfl) ?_
  refine lv_iconst (v := 1) hx hb dL_law_685 (by decide) ?_
  refine lv_iadd hx hb dL_law_686 ?_
  refine z_top (v2 := .int 1) (congrArg Value.int (by decide)) ?_
  refine va_sld hx hb hX hbl hbA hS (show ¬ _ by decide) dL_law_687 ?_
  refine z_top (v2 := .int (xs 1)) rfl ?_
  refine lv_aload_n hx hb dL_law_688 rfl (lv_at hl 3 rfl) ?_
  refine lv_iload_n hx hb dL_law_689 rfl (lv_at hl 0 rfl) ?_
  refine lv_iconst (v := 2) hx hb dL_law_690 (by decide) ?_
  refine lv_iadd hx hb dL_law_691 ?_
  refine z_top (v2 := .int 2) (congrArg Value.int (by decide)) ?_
  refine va_sld hx hb hX hbl hbA hS (show ¬ _ by decide) dL_law_692 ?_
  refine z_top (v2 := .int (xs 2)) rfl ?_
  refine lv_aload_n hx hb dL_law_693 rfl (lv_at hl 3 rfl) ?_
  refine lv_iload_n hx hb dL_law_694 rfl (lv_at hl 0 rfl) ?_
  refine lv_iconst (v := 3) hx hb dL_law_695 (by decide) ?_
  refine lv_iadd hx hb dL_law_696 ?_
  refine z_top (v2 := .int 3) (congrArg Value.int (by decide)) ?_
  refine va_sld hx hb hX hbl hbA hS (show ¬ _ by decide) dL_law_697 ?_
  refine z_top (v2 := .int (xs 3)) rfl ?_
  refine zcA_l (w := (zM k q2 0 1 (fun _ => 0) (fun _ => 0) (fun _ => 0) (fun _ => 0) (fun _ => 0) (fun _ => 0) (fun _ => 0) (fun _ => 0) (fun _ => 0) 12 0 0 0 0 (fun _ => 0) (fun _ => 0) (fun _ => 0) 0 (-1) (fun _ => 0) 0 (fun _ => 0) (fun _ => 0) (fun _ => 0) (fun _ => 0) (fun _ => 0) 0 0 0 0 0 0 (fun _ => 0) 100 (fun _ => 0) (fun _ => 0) (fun _ => 0) (fun _ => 0) (fun _ => 0) 0)) (va_runV (As := [.int (xs 1), .int (xs 2), .int (xs 3)]) (rest := [.long r1]) ⟨hx, hb, hml, hown, hts⟩ (c_X7_scatter l dC dI k (zTX k) q2 0 1 (fun _ => 0) (fun _ => 0) 0 0 0 0 0 0 0 0 0 0 (fun _ => 0) (fun _ => 0) 0 (xs 1) (xs 2) (xs 3) _) (cwV 3 hts (gzV wmt4_217 wmt4_218 wmt4_219 wmt1_8 wmt4_220) rfl rfl rfl (by decide +kernel) ⟨Nat.le_of_ble_eq_true rfl, Nat.le_of_ble_eq_true rfl⟩) (zpA_V (ci := 7) (q0 := 0) hK hP hD rfl rfl) rfl rfl hl.1 rfl (lv_room (Nat.le_of_ble_eq_true rfl)) dL_law_698 ⟨Nat.le_of_ble_eq_true rfl, Nat.le_of_ble_eq_true rfl⟩) hD hS hA (fun r2 u H locs hw2 hP hD hS => ?_)
  refine z_lcmp hx hb dL_law_701 ?_
  have hrr : r1 = r2 := hw1.trans hw2.symm
  refine lv_if_eq (tgt := 1527) hx hb dL_law_702 (by decide) (fun c_1 => ?_) (fun c_1 => ?_)
  · exact lw_end C0 hS hl
  · exact absurd ((lg_cmp_eq _ _).mpr hrr) c_1
set_option maxHeartbeats 4000000 in
set_option maxRecDepth 100000 in
theorem lw_c16 {p : Program} {l : Launch} {e : Env} {s : State} {m : MethodId} {below : List Frame} {meth : Method} {c : Code} {b : Nat} {xs : Nat → Int32} {dC : Nat → ClassId} {dI : Nat → Nat → Nat} {k : Nat → ClassId} {q q2 : Nat → Nat} (C0 : lw_At p s m meth c b 6 xs) (hK : zK dC dI k (zTX k) s) {H : Heap} {locs : List Loc} (hP : va_P (dC, dI) vwCl ((zX k q 0 (-1) 12 100 0 (fun _ => 0) 0 0 (fun _ => 0) (fun _ => 0) (fun _ => 0) (fun _ => 0) (fun _ => 0) (fun _ => 0) (fun _ => 0) 0 0 0 (fun _ => 0) 0 1 232792560 0 0 0 0 0 1 (fun _ => 0) (fun _ => 0) 232792560 0 0 0 0 0 1 (fun _ => 0) (fun _ => 0) 232792560 0 0 0 0 0 1 (fun _ => 0) (fun _ => 0) 232792560 0 0 0 0 0 1 (fun _ => 0) (fun _ => 0) (-1) 0 (fun _ => 0) (-1) 0 (fun _ => 0) (-1) 0 (fun _ => 0) (-1) 0 (fun _ => 0)) ++ (zM k q2 0 1 (fun _ => 0) (fun _ => 0) (fun _ => 0) (fun _ => 0) (fun _ => 0) (fun _ => 0) (fun _ => 0) (fun _ => 0) (fun _ => 0) 12 0 0 0 0 (fun _ => 0) (fun _ => 0) (fun _ => 0) 0 (-1) (fun _ => 0) 0 (fun _ => 0) (fun _ => 0) (fun _ => 0) (fun _ => 0) (fun _ => 0) 0 0 0 0 0 0 (fun _ => 0) 100 (fun _ => 0) (fun _ => 0) (fun _ => 0) (fun _ => 0) (fun _ => 0) 0)) H) (hD : va_D (fun a : Nat => s.heap.size ≤ a) ((zX k q 0 (-1) 12 100 0 (fun _ => 0) 0 0 (fun _ => 0) (fun _ => 0) (fun _ => 0) (fun _ => 0) (fun _ => 0) (fun _ => 0) (fun _ => 0) 0 0 0 (fun _ => 0) 0 1 232792560 0 0 0 0 0 1 (fun _ => 0) (fun _ => 0) 232792560 0 0 0 0 0 1 (fun _ => 0) (fun _ => 0) 232792560 0 0 0 0 0 1 (fun _ => 0) (fun _ => 0) 232792560 0 0 0 0 0 1 (fun _ => 0) (fun _ => 0) (-1) 0 (fun _ => 0) (-1) 0 (fun _ => 0) (-1) 0 (fun _ => 0) (-1) 0 (fun _ => 0)) ++ (zM k q2 0 1 (fun _ => 0) (fun _ => 0) (fun _ => 0) (fun _ => 0) (fun _ => 0) (fun _ => 0) (fun _ => 0) (fun _ => 0) (fun _ => 0) 12 0 0 0 0 (fun _ => 0) (fun _ => 0) (fun _ => 0) 0 (-1) (fun _ => 0) 0 (fun _ => 0) (fun _ => 0) (fun _ => 0) (fun _ => 0) (fun _ => 0) 0 0 0 0 0 0 (fun _ => 0) 100 (fun _ => 0) (fun _ => 0) (fun _ => 0) (fun _ => 0) (fun _ => 0) 0))) (hS : va_S (fun a : Nat => s.heap.size ≤ a) s.heap H locs) {ls : Array Slot} (hl : lv_has ls 4 [(3, .int 0), (2, .ref (q2 0)), (1, .ref (q 0)), (0, .ref b)]) : W p l e room_1 s m #[Value.ref b] below meth c H locs 1000 10000 (lw_Z below #[Value.ref b] s) (F0 m 707 ls []) := by
  obtain ⟨hx, hb, hr, hml, hown, hts0, hX, hbl, hlocks, hgv⟩ := id C0
  have hts : ∀ w ∈ zw, w.before #[Value.ref b] s = true := fun w h => hts0 w (List.mem_filter.mp h).1
  have hA : ∀ q : Nat, s.heap.size ≤ q → (fun a : Nat => s.heap.size ≤ a) q := fun _ h => h
  have hbA : ¬ (fun a : Nat => s.heap.size ≤ a) b := Nat.not_le.mpr hbl
  refine lv_aload_n hx hb dL_law_707 rfl (lv_at hl 2 rfl) ?_
  refine lv_aload_n hx hb dL_law_708 rfl (lv_at hl 3 rfl) ?_
  refine lv_iload_n hx hb dL_law_709 rfl (lv_at hl 0 rfl) ?_
  refine lv_iconst (v := 1) hx hb dL_law_710 (by decide) ?_
  refine lv_iadd hx hb dL_law_711 ?_
  refine z_top (v2 := .int 1) (congrArg Value.int (by decide)) ?_
  refine va_sld hx hb hX hbl hbA hS (show ¬ _ by decide) dL_law_712 ?_
  refine z_top (v2 := .int (xs 1)) rfl ?_
  refine lv_aload_n hx hb dL_law_713 rfl (lv_at hl 3 rfl) ?_
  refine lv_iload_n hx hb dL_law_714 rfl (lv_at hl 0 rfl) ?_
  refine lv_iconst (v := 2) hx hb dL_law_715 (by decide) ?_
  refine lv_iadd hx hb dL_law_716 ?_
  refine z_top (v2 := .int 2) (congrArg Value.int (by decide)) ?_
  refine va_sld hx hb hX hbl hbA hS (show ¬ _ by decide) dL_law_717 ?_
  refine z_top (v2 := .int (xs 2)) rfl ?_
  refine lv_aload_n hx hb dL_law_718 rfl (lv_at hl 3 rfl) ?_
  refine lv_iload_n hx hb dL_law_719 rfl (lv_at hl 0 rfl) ?_
  refine lv_iconst (v := 3) hx hb dL_law_720 (by decide) ?_
  refine lv_iadd hx hb dL_law_721 ?_
  refine z_top (v2 := .int 3) (congrArg Value.int (by decide)) ?_
  refine va_sld hx hb hX hbl hbA hS (show ¬ _ by decide) dL_law_722 ?_
  refine z_top (v2 := .int (xs 3)) rfl ?_
  refine zc2_l (wx := (zX k q 0 (-1) 12 100 0 (fun _ => 0) 0 0 (fun _ => 0) (fun _ => 0) (fun _ => 0) (fun _ => 0) (fun _ => 0) (fun _ => 0) (fun _ => 0) 0 0 0 (fun _ => 0) 0 1 232792560 0 0 0 0 0 1 (fun _ => 0) (fun _ => 0) 232792560 0 0 0 0 0 1 (fun _ => 0) (fun _ => 0) 232792560 0 0 0 0 0 1 (fun _ => 0) (fun _ => 0) 232792560 0 0 0 0 0 1 (fun _ => 0) (fun _ => 0) (-1) 0 (fun _ => 0) (-1) 0 (fun _ => 0) (-1) 0 (fun _ => 0) (-1) 0 (fun _ => 0))) (wm := (zM k q2 0 1 (fun _ => 0) (fun _ => 0) (fun _ => 0) (fun _ => 0) (fun _ => 0) (fun _ => 0) (fun _ => 0) (fun _ => 0) (fun _ => 0) 12 0 0 0 0 (fun _ => 0) (fun _ => 0) (fun _ => 0) 0 (-1) (fun _ => 0) 0 (fun _ => 0) (fun _ => 0) (fun _ => 0) (fun _ => 0) (fun _ => 0) 0 0 0 0 0 0 (fun _ => 0) 100 (fun _ => 0) (fun _ => 0) (fun _ => 0) (fun _ => 0) (fun _ => 0) 0)) (va_runV (As := [.int (xs 1), .int (xs 2), .int (xs 3)]) (rest := []) ⟨hx, hb, hml, hown, hts⟩ (c_X6_ways l dC dI k  q 0 (fun _ => 0) (fun _ => 0) (fun _ => 0) (fun _ => 0) (fun _ => 0) (fun _ => 0) (fun _ => 0) 0 0 0 (fun _ => 0) 0 1 232792560 0 0 0 1 (fun _ => 0) (fun _ => 0) 232792560 0 0 0 1 (fun _ => 0) (fun _ => 0) 232792560 0 0 0 1 (fun _ => 0) (fun _ => 0) 232792560 0 0 0 1 (fun _ => 0) (fun _ => 0) (fun _ => 0) (fun _ => 0) (fun _ => 0) (fun _ => 0) (xs 1) (xs 2) (xs 3) _) (cwV 3 hts (gzV wmt2_166 wmt2_167 wmt2_168 wmt1_1 wmt2_169) rfl rfl rfl (by decide +kernel) ⟨Nat.le_of_ble_eq_true rfl, Nat.le_of_ble_eq_true rfl⟩) (zpA_V (ci := 6) (q0 := 0) hK (z_PL hP) (z_DL hD) rfl rfl) rfl rfl hl.1 rfl (lv_room (Nat.le_of_ble_eq_true rfl)) dL_law_723 ⟨Nat.le_of_ble_eq_true rfl, Nat.le_of_ble_eq_true rfl⟩) hP hD hS hA (fun r1 u H locs hw1 hP hD hS => ?_)
  refine lv_aload_n hx hb dL_law_726 rfl (lv_at hl 1 rfl) ?_
  refine lv_aload_n hx hb dL_law_727 rfl (lv_at hl 3 rfl) ?_
  refine lv_iload_n hx hb dL_law_728 rfl (lv_at hl 0 rfl) ?_
  refine lv_iconst (v := 1) hx hb dL_law_729 (by decide) ?_
  refine lv_iadd hx hb dL_law_730 ?_
  refine z_top (v2 := .int 1) (congrArg Value.int (by decide)) ?_
  refine va_sld hx hb hX hbl hbA hS (show ¬ _ by decide) dL_law_731 ?_
  refine z_top (v2 := .int (xs 1)) rfl ?_
  refine lv_aload_n hx hb dL_law_732 rfl (lv_at hl 3 rfl) ?_
  refine lv_iload_n hx hb dL_law_733 rfl (lv_at hl 0 rfl) ?_
  refine lv_iconst (v := 2) hx hb dL_law_734 (by decide) ?_
  refine lv_iadd hx hb dL_law_735 ?_
  refine z_top (v2 := .int 2) (congrArg Value.int (by decide)) ?_
  refine va_sld hx hb hX hbl hbA hS (show ¬ _ by decide) dL_law_736 ?_
  refine z_top (v2 := .int (xs 2)) rfl ?_
  refine lv_aload_n hx hb dL_law_737 rfl (lv_at hl 3 rfl) ?_
  refine lv_iload_n hx hb dL_law_738 rfl (lv_at hl 0 rfl) ?_
  refine lv_iconst (v := 3) hx hb dL_law_739 (by decide) ?_
  refine lv_iadd hx hb dL_law_740 ?_
  refine z_top (v2 := .int 3) (congrArg Value.int (by decide)) ?_
  refine va_sld hx hb hX hbl hbA hS (show ¬ _ by decide) dL_law_741 ?_
  refine z_top (v2 := .int (xs 3)) rfl ?_
  refine zcA_l (w := (zM k q2 0 1 (fun _ => 0) (fun _ => 0) (fun _ => 0) (fun _ => 0) (fun _ => 0) (fun _ => 0) (fun _ => 0) (fun _ => 0) (fun _ => 0) 12 0 0 0 0 (fun _ => 0) (fun _ => 0) (fun _ => 0) 0 (-1) (fun _ => 0) 0 (fun _ => 0) (fun _ => 0) (fun _ => 0) (fun _ => 0) (fun _ => 0) 0 0 0 0 0 0 (fun _ => 0) 100 (fun _ => 0) (fun _ => 0) (fun _ => 0) (fun _ => 0) (fun _ => 0) 0)) (va_runV (As := [.int (xs 1), .int (xs 2), .int (xs 3)]) (rest := [.long r1]) ⟨hx, hb, hml, hown, hts⟩ (c_X7_ways l dC dI k (zTX k) q2 0 1 (fun _ => 0) (fun _ => 0) 0 0 0 0 0 0 0 0 0 0 (fun _ => 0) (fun _ => 0) 0 (xs 1) (xs 2) (xs 3) _) (cwV 3 hts (gzV wmt4_221 wmt4_222 wmt4_223 wmt1_8 wmt4_224) rfl rfl rfl (by decide +kernel) ⟨Nat.le_of_ble_eq_true rfl, Nat.le_of_ble_eq_true rfl⟩) (zpA_V (ci := 7) (q0 := 0) hK hP hD rfl rfl) rfl rfl hl.1 rfl (lv_room (Nat.le_of_ble_eq_true rfl)) dL_law_742 ⟨Nat.le_of_ble_eq_true rfl, Nat.le_of_ble_eq_true rfl⟩) hD hS hA (fun r2 u H locs hw2 hP hD hS => ?_)
  refine z_lcmp hx hb dL_law_745 ?_
  have hrr : r1 = r2 := hw1.trans hw2.symm
  refine lv_if_eq (tgt := 1527) hx hb dL_law_746 (by decide) (fun c_1 => ?_) (fun c_1 => ?_)
  · exact lw_end C0 hS hl
  · exact absurd ((lg_cmp_eq _ _).mpr hrr) c_1
set_option maxHeartbeats 4000000 in
set_option maxRecDepth 100000 in
theorem lw_c17 {p : Program} {l : Launch} {e : Env} {s : State} {m : MethodId} {below : List Frame} {meth : Method} {c : Code} {b : Nat} {xs : Nat → Int32} {dC : Nat → ClassId} {dI : Nat → Nat → Nat} {k : Nat → ClassId} {q q2 : Nat → Nat} (C0 : lw_At p s m meth c b 6 xs) (hK : zK dC dI k (zTX k) s) {H : Heap} {locs : List Loc} (hP : va_P (dC, dI) vwCl ((zX k q 0 (-1) 12 100 0 (fun _ => 0) 0 0 (fun _ => 0) (fun _ => 0) (fun _ => 0) (fun _ => 0) (fun _ => 0) (fun _ => 0) (fun _ => 0) 0 0 0 (fun _ => 0) 0 1 232792560 0 0 0 0 0 1 (fun _ => 0) (fun _ => 0) 232792560 0 0 0 0 0 1 (fun _ => 0) (fun _ => 0) 232792560 0 0 0 0 0 1 (fun _ => 0) (fun _ => 0) 232792560 0 0 0 0 0 1 (fun _ => 0) (fun _ => 0) (-1) 0 (fun _ => 0) (-1) 0 (fun _ => 0) (-1) 0 (fun _ => 0) (-1) 0 (fun _ => 0)) ++ (zM k q2 0 1 (fun _ => 0) (fun _ => 0) (fun _ => 0) (fun _ => 0) (fun _ => 0) (fun _ => 0) (fun _ => 0) (fun _ => 0) (fun _ => 0) 12 0 0 0 0 (fun _ => 0) (fun _ => 0) (fun _ => 0) 0 (-1) (fun _ => 0) 0 (fun _ => 0) (fun _ => 0) (fun _ => 0) (fun _ => 0) (fun _ => 0) 0 0 0 0 0 0 (fun _ => 0) 100 (fun _ => 0) (fun _ => 0) (fun _ => 0) (fun _ => 0) (fun _ => 0) 0)) H) (hD : va_D (fun a : Nat => s.heap.size ≤ a) ((zX k q 0 (-1) 12 100 0 (fun _ => 0) 0 0 (fun _ => 0) (fun _ => 0) (fun _ => 0) (fun _ => 0) (fun _ => 0) (fun _ => 0) (fun _ => 0) 0 0 0 (fun _ => 0) 0 1 232792560 0 0 0 0 0 1 (fun _ => 0) (fun _ => 0) 232792560 0 0 0 0 0 1 (fun _ => 0) (fun _ => 0) 232792560 0 0 0 0 0 1 (fun _ => 0) (fun _ => 0) 232792560 0 0 0 0 0 1 (fun _ => 0) (fun _ => 0) (-1) 0 (fun _ => 0) (-1) 0 (fun _ => 0) (-1) 0 (fun _ => 0) (-1) 0 (fun _ => 0)) ++ (zM k q2 0 1 (fun _ => 0) (fun _ => 0) (fun _ => 0) (fun _ => 0) (fun _ => 0) (fun _ => 0) (fun _ => 0) (fun _ => 0) (fun _ => 0) 12 0 0 0 0 (fun _ => 0) (fun _ => 0) (fun _ => 0) 0 (-1) (fun _ => 0) 0 (fun _ => 0) (fun _ => 0) (fun _ => 0) (fun _ => 0) (fun _ => 0) 0 0 0 0 0 0 (fun _ => 0) 100 (fun _ => 0) (fun _ => 0) (fun _ => 0) (fun _ => 0) (fun _ => 0) 0))) (hS : va_S (fun a : Nat => s.heap.size ≤ a) s.heap H locs) {ls : Array Slot} (hl : lv_has ls 4 [(3, .int 0), (2, .ref (q2 0)), (1, .ref (q 0)), (0, .ref b)]) : W p l e room_1 s m #[Value.ref b] below meth c H locs 1000 10000 (lw_Z below #[Value.ref b] s) (F0 m 751 ls []) := by
  obtain ⟨hx, hb, hr, hml, hown, hts0, hX, hbl, hlocks, hgv⟩ := id C0
  have hts : ∀ w ∈ zw, w.before #[Value.ref b] s = true := fun w h => hts0 w (List.mem_filter.mp h).1
  have hA : ∀ q : Nat, s.heap.size ≤ q → (fun a : Nat => s.heap.size ≤ a) q := fun _ h => h
  have hbA : ¬ (fun a : Nat => s.heap.size ≤ a) b := Nat.not_le.mpr hbl
  refine lv_aload_n hx hb dL_law_751 rfl (lv_at hl 2 rfl) ?_
  refine lv_aload_n hx hb dL_law_752 rfl (lv_at hl 3 rfl) ?_
  refine lv_iload_n hx hb dL_law_753 rfl (lv_at hl 0 rfl) ?_
  refine lv_iconst (v := 1) hx hb dL_law_754 (by decide) ?_
  refine lv_iadd hx hb dL_law_755 ?_
  refine z_top (v2 := .int 1) (congrArg Value.int (by decide)) ?_
  refine va_sld hx hb hX hbl hbA hS (show ¬ _ by decide) dL_law_756 ?_
  refine z_top (v2 := .int (xs 1)) rfl ?_
  refine lv_aload_n hx hb dL_law_757 rfl (lv_at hl 3 rfl) ?_
  refine lv_iload_n hx hb dL_law_758 rfl (lv_at hl 0 rfl) ?_
  refine lv_iconst (v := 2) hx hb dL_law_759 (by decide) ?_
  refine lv_iadd hx hb dL_law_760 ?_
  refine z_top (v2 := .int 2) (congrArg Value.int (by decide)) ?_
  refine va_sld hx hb hX hbl hbA hS (show ¬ _ by decide) dL_law_761 ?_
  refine z_top (v2 := .int (xs 2)) rfl ?_
  refine zc2_i (wx := (zX k q 0 (-1) 12 100 0 (fun _ => 0) 0 0 (fun _ => 0) (fun _ => 0) (fun _ => 0) (fun _ => 0) (fun _ => 0) (fun _ => 0) (fun _ => 0) 0 0 0 (fun _ => 0) 0 1 232792560 0 0 0 0 0 1 (fun _ => 0) (fun _ => 0) 232792560 0 0 0 0 0 1 (fun _ => 0) (fun _ => 0) 232792560 0 0 0 0 0 1 (fun _ => 0) (fun _ => 0) 232792560 0 0 0 0 0 1 (fun _ => 0) (fun _ => 0) (-1) 0 (fun _ => 0) (-1) 0 (fun _ => 0) (-1) 0 (fun _ => 0) (-1) 0 (fun _ => 0))) (wm := (zM k q2 0 1 (fun _ => 0) (fun _ => 0) (fun _ => 0) (fun _ => 0) (fun _ => 0) (fun _ => 0) (fun _ => 0) (fun _ => 0) (fun _ => 0) 12 0 0 0 0 (fun _ => 0) (fun _ => 0) (fun _ => 0) 0 (-1) (fun _ => 0) 0 (fun _ => 0) (fun _ => 0) (fun _ => 0) (fun _ => 0) (fun _ => 0) 0 0 0 0 0 0 (fun _ => 0) 100 (fun _ => 0) (fun _ => 0) (fun _ => 0) (fun _ => 0) (fun _ => 0) 0)) (va_runV (As := [.int (xs 1), .int (xs 2)]) (rest := []) ⟨hx, hb, hml, hown, hts⟩ (c_X6_likely l dC dI k  q 0 (fun _ => 0) (fun _ => 0) (fun _ => 0) (fun _ => 0) (fun _ => 0) (fun _ => 0) (fun _ => 0) 0 0 0 (fun _ => 0) 0 1 232792560 0 0 0 1 (fun _ => 0) (fun _ => 0) 232792560 0 0 0 1 (fun _ => 0) (fun _ => 0) 232792560 0 0 0 1 (fun _ => 0) (fun _ => 0) 232792560 0 0 0 1 (fun _ => 0) (fun _ => 0) (fun _ => 0) (fun _ => 0) (fun _ => 0) (fun _ => 0) (xs 1) (xs 2) _) (cwV 2 hts (gzV wmt2_206 wmt2_207 wmt2_208 wmt1_1 wmt2_209) rfl rfl rfl (by decide +kernel) ⟨Nat.le_of_ble_eq_true rfl, Nat.le_of_ble_eq_true rfl⟩) (zpA_V (ci := 6) (q0 := 0) hK (z_PL hP) (z_DL hD) rfl rfl) rfl rfl hl.1 rfl (lv_room (Nat.le_of_ble_eq_true rfl)) dL_law_762 ⟨Nat.le_of_ble_eq_true rfl, Nat.le_of_ble_eq_true rfl⟩) hP hD hS hA (fun r1 u H locs hw1 hP hD hS => ?_)
  refine lv_aload_n hx hb dL_law_765 rfl (lv_at hl 1 rfl) ?_
  refine lv_aload_n hx hb dL_law_766 rfl (lv_at hl 3 rfl) ?_
  refine lv_iload_n hx hb dL_law_767 rfl (lv_at hl 0 rfl) ?_
  refine lv_iconst (v := 1) hx hb dL_law_768 (by decide) ?_
  refine lv_iadd hx hb dL_law_769 ?_
  refine z_top (v2 := .int 1) (congrArg Value.int (by decide)) ?_
  refine va_sld hx hb hX hbl hbA hS (show ¬ _ by decide) dL_law_770 ?_
  refine z_top (v2 := .int (xs 1)) rfl ?_
  refine lv_aload_n hx hb dL_law_771 rfl (lv_at hl 3 rfl) ?_
  refine lv_iload_n hx hb dL_law_772 rfl (lv_at hl 0 rfl) ?_
  refine lv_iconst (v := 2) hx hb dL_law_773 (by decide) ?_
  refine lv_iadd hx hb dL_law_774 ?_
  refine z_top (v2 := .int 2) (congrArg Value.int (by decide)) ?_
  refine va_sld hx hb hX hbl hbA hS (show ¬ _ by decide) dL_law_775 ?_
  refine z_top (v2 := .int (xs 2)) rfl ?_
  refine zcA_i (w := (zM k q2 0 1 (fun _ => 0) (fun _ => 0) (fun _ => 0) (fun _ => 0) (fun _ => 0) (fun _ => 0) (fun _ => 0) (fun _ => 0) (fun _ => 0) 12 0 0 0 0 (fun _ => 0) (fun _ => 0) (fun _ => 0) 0 (-1) (fun _ => 0) 0 (fun _ => 0) (fun _ => 0) (fun _ => 0) (fun _ => 0) (fun _ => 0) 0 0 0 0 0 0 (fun _ => 0) 100 (fun _ => 0) (fun _ => 0) (fun _ => 0) (fun _ => 0) (fun _ => 0) 0)) (va_runV (As := [.int (xs 1), .int (xs 2)]) (rest := [.int r1]) ⟨hx, hb, hml, hown, hts⟩ (c_X7_likely l dC dI k (zTX k) q2 0 1 (fun _ => 0) (fun _ => 0) 0 0 0 0 0 0 0 0 0 0 (fun _ => 0) (fun _ => 0) 0 (xs 1) (xs 2) _) (cwV 2 hts (gzV wmt4_239 wmt5_0 wmt5_1 wmt1_8 wmt5_2) rfl rfl rfl (by decide +kernel) ⟨Nat.le_of_ble_eq_true rfl, Nat.le_of_ble_eq_true rfl⟩) (zpA_V (ci := 7) (q0 := 0) hK hP hD rfl rfl) rfl rfl hl.1 rfl (lv_room (Nat.le_of_ble_eq_true rfl)) dL_law_776 ⟨Nat.le_of_ble_eq_true rfl, Nat.le_of_ble_eq_true rfl⟩) hD hS hA (fun r2 u H locs hw2 hP hD hS => ?_)
  have hrr : r1 = r2 := hw1.trans hw2.symm
  refine lv_icmp_eq (tgt := 1527) hx hb dL_law_779 (by decide) (fun c_1 => ?_) (fun c_1 => ?_)
  · exact lw_end C0 hS hl
  · exact absurd hrr c_1
set_option maxHeartbeats 4000000 in
set_option maxRecDepth 100000 in
theorem lw_c18 {p : Program} {l : Launch} {e : Env} {s : State} {m : MethodId} {below : List Frame} {meth : Method} {c : Code} {b : Nat} {xs : Nat → Int32} {dC : Nat → ClassId} {dI : Nat → Nat → Nat} {k : Nat → ClassId} {q q2 : Nat → Nat} (C0 : lw_At p s m meth c b 6 xs) (hK : zK dC dI k (zTX k) s) {H : Heap} {locs : List Loc} (hP : va_P (dC, dI) vwCl ((zX k q 0 (-1) 12 100 0 (fun _ => 0) 0 0 (fun _ => 0) (fun _ => 0) (fun _ => 0) (fun _ => 0) (fun _ => 0) (fun _ => 0) (fun _ => 0) 0 0 0 (fun _ => 0) 0 1 232792560 0 0 0 0 0 1 (fun _ => 0) (fun _ => 0) 232792560 0 0 0 0 0 1 (fun _ => 0) (fun _ => 0) 232792560 0 0 0 0 0 1 (fun _ => 0) (fun _ => 0) 232792560 0 0 0 0 0 1 (fun _ => 0) (fun _ => 0) (-1) 0 (fun _ => 0) (-1) 0 (fun _ => 0) (-1) 0 (fun _ => 0) (-1) 0 (fun _ => 0)) ++ (zM k q2 0 1 (fun _ => 0) (fun _ => 0) (fun _ => 0) (fun _ => 0) (fun _ => 0) (fun _ => 0) (fun _ => 0) (fun _ => 0) (fun _ => 0) 12 0 0 0 0 (fun _ => 0) (fun _ => 0) (fun _ => 0) 0 (-1) (fun _ => 0) 0 (fun _ => 0) (fun _ => 0) (fun _ => 0) (fun _ => 0) (fun _ => 0) 0 0 0 0 0 0 (fun _ => 0) 100 (fun _ => 0) (fun _ => 0) (fun _ => 0) (fun _ => 0) (fun _ => 0) 0)) H) (hD : va_D (fun a : Nat => s.heap.size ≤ a) ((zX k q 0 (-1) 12 100 0 (fun _ => 0) 0 0 (fun _ => 0) (fun _ => 0) (fun _ => 0) (fun _ => 0) (fun _ => 0) (fun _ => 0) (fun _ => 0) 0 0 0 (fun _ => 0) 0 1 232792560 0 0 0 0 0 1 (fun _ => 0) (fun _ => 0) 232792560 0 0 0 0 0 1 (fun _ => 0) (fun _ => 0) 232792560 0 0 0 0 0 1 (fun _ => 0) (fun _ => 0) 232792560 0 0 0 0 0 1 (fun _ => 0) (fun _ => 0) (-1) 0 (fun _ => 0) (-1) 0 (fun _ => 0) (-1) 0 (fun _ => 0) (-1) 0 (fun _ => 0)) ++ (zM k q2 0 1 (fun _ => 0) (fun _ => 0) (fun _ => 0) (fun _ => 0) (fun _ => 0) (fun _ => 0) (fun _ => 0) (fun _ => 0) (fun _ => 0) 12 0 0 0 0 (fun _ => 0) (fun _ => 0) (fun _ => 0) 0 (-1) (fun _ => 0) 0 (fun _ => 0) (fun _ => 0) (fun _ => 0) (fun _ => 0) (fun _ => 0) 0 0 0 0 0 0 (fun _ => 0) 100 (fun _ => 0) (fun _ => 0) (fun _ => 0) (fun _ => 0) (fun _ => 0) 0))) (hS : va_S (fun a : Nat => s.heap.size ≤ a) s.heap H locs) {ls : Array Slot} (hl : lv_has ls 4 [(3, .int 0), (2, .ref (q2 0)), (1, .ref (q 0)), (0, .ref b)]) : W p l e room_1 s m #[Value.ref b] below meth c H locs 1000 10000 (lw_Z below #[Value.ref b] s) (F0 m 784 ls []) := by
  obtain ⟨hx, hb, hr, hml, hown, hts0, hX, hbl, hlocks, hgv⟩ := id C0
  have hts : ∀ w ∈ zw, w.before #[Value.ref b] s = true := fun w h => hts0 w (List.mem_filter.mp h).1
  have hA : ∀ q : Nat, s.heap.size ≤ q → (fun a : Nat => s.heap.size ≤ a) q := fun _ h => h
  have hbA : ¬ (fun a : Nat => s.heap.size ≤ a) b := Nat.not_le.mpr hbl
  refine lv_aload_n hx hb dL_law_784 rfl (lv_at hl 2 rfl) ?_
  refine lv_aload_n hx hb dL_law_785 rfl (lv_at hl 3 rfl) ?_
  refine lv_iload_n hx hb dL_law_786 rfl (lv_at hl 0 rfl) ?_
  refine lv_iconst (v := 1) hx hb dL_law_787 (by decide) ?_
  refine lv_iadd hx hb dL_law_788 ?_
  refine z_top (v2 := .int 1) (congrArg Value.int (by decide)) ?_
  refine va_sld hx hb hX hbl hbA hS (show ¬ _ by decide) dL_law_789 ?_
  refine z_top (v2 := .int (xs 1)) rfl ?_
  refine lv_aload_n hx hb dL_law_790 rfl (lv_at hl 3 rfl) ?_
  refine lv_iload_n hx hb dL_law_791 rfl (lv_at hl 0 rfl) ?_
  refine lv_iconst (v := 2) hx hb dL_law_792 (by decide) ?_
  refine lv_iadd hx hb dL_law_793 ?_
  refine z_top (v2 := .int 2) (congrArg Value.int (by decide)) ?_
  refine va_sld hx hb hX hbl hbA hS (show ¬ _ by decide) dL_law_794 ?_
  refine z_top (v2 := .int (xs 2)) rfl ?_
  refine lv_aload_n hx hb dL_law_795 rfl (lv_at hl 3 rfl) ?_
  refine lv_iload_n hx hb dL_law_796 rfl (lv_at hl 0 rfl) ?_
  refine lv_iconst (v := 3) hx hb dL_law_797 (by decide) ?_
  refine lv_iadd hx hb dL_law_798 ?_
  refine z_top (v2 := .int 3) (congrArg Value.int (by decide)) ?_
  refine va_sld hx hb hX hbl hbA hS (show ¬ _ by decide) dL_law_799 ?_
  refine z_top (v2 := .int (xs 3)) rfl ?_
  refine lv_aload_n hx hb dL_law_800 rfl (lv_at hl 3 rfl) ?_
  refine lv_iload_n hx hb dL_law_801 rfl (lv_at hl 0 rfl) ?_
  refine lv_iconst (v := 4) hx hb dL_law_802 (by decide) ?_
  refine lv_iadd hx hb dL_law_803 ?_
  refine z_top (v2 := .int 4) (congrArg Value.int (by decide)) ?_
  refine va_sld hx hb hX hbl hbA hS (show ¬ _ by decide) dL_law_804 ?_
  refine z_top (v2 := .int (xs 4)) rfl ?_
  refine zc2_i (wx := (zX k q 0 (-1) 12 100 0 (fun _ => 0) 0 0 (fun _ => 0) (fun _ => 0) (fun _ => 0) (fun _ => 0) (fun _ => 0) (fun _ => 0) (fun _ => 0) 0 0 0 (fun _ => 0) 0 1 232792560 0 0 0 0 0 1 (fun _ => 0) (fun _ => 0) 232792560 0 0 0 0 0 1 (fun _ => 0) (fun _ => 0) 232792560 0 0 0 0 0 1 (fun _ => 0) (fun _ => 0) 232792560 0 0 0 0 0 1 (fun _ => 0) (fun _ => 0) (-1) 0 (fun _ => 0) (-1) 0 (fun _ => 0) (-1) 0 (fun _ => 0) (-1) 0 (fun _ => 0))) (wm := (zM k q2 0 1 (fun _ => 0) (fun _ => 0) (fun _ => 0) (fun _ => 0) (fun _ => 0) (fun _ => 0) (fun _ => 0) (fun _ => 0) (fun _ => 0) 12 0 0 0 0 (fun _ => 0) (fun _ => 0) (fun _ => 0) 0 (-1) (fun _ => 0) 0 (fun _ => 0) (fun _ => 0) (fun _ => 0) (fun _ => 0) (fun _ => 0) 0 0 0 0 0 0 (fun _ => 0) 100 (fun _ => 0) (fun _ => 0) (fun _ => 0) (fun _ => 0) (fun _ => 0) 0)) (va_runV (As := [.int (xs 1), .int (xs 2), .int (xs 3), .int (xs 4)]) (rest := []) ⟨hx, hb, hml, hown, hts⟩ (c_X6_span l dC dI k  q 0 (fun _ => 0) (fun _ => 0) (fun _ => 0) (fun _ => 0) (fun _ => 0) (fun _ => 0) (fun _ => 0) 0 0 0 (fun _ => 0) 0 1 232792560 0 0 0 1 (fun _ => 0) (fun _ => 0) 232792560 0 0 0 1 (fun _ => 0) (fun _ => 0) 232792560 0 0 0 1 (fun _ => 0) (fun _ => 0) 232792560 0 0 0 1 (fun _ => 0) (fun _ => 0) (fun _ => 0) (fun _ => 0) (fun _ => 0) (fun _ => 0) (xs 1) (xs 2) (xs 3) (xs 4) _) (cwV 4 hts (gzV wmt2_214 wmt2_215 wmt2_216 wmt1_1 wmt2_217) rfl rfl rfl (by decide +kernel) ⟨Nat.le_of_ble_eq_true rfl, Nat.le_of_ble_eq_true rfl⟩) (zpA_V (ci := 6) (q0 := 0) hK (z_PL hP) (z_DL hD) rfl rfl) rfl rfl hl.1 rfl (lv_room (Nat.le_of_ble_eq_true rfl)) dL_law_805 ⟨Nat.le_of_ble_eq_true rfl, Nat.le_of_ble_eq_true rfl⟩) hP hD hS hA (fun r1 u H locs hw1 hP hD hS => ?_)
  refine lv_aload_n hx hb dL_law_808 rfl (lv_at hl 1 rfl) ?_
  refine lv_aload_n hx hb dL_law_809 rfl (lv_at hl 3 rfl) ?_
  refine lv_iload_n hx hb dL_law_810 rfl (lv_at hl 0 rfl) ?_
  refine lv_iconst (v := 1) hx hb dL_law_811 (by decide) ?_
  refine lv_iadd hx hb dL_law_812 ?_
  refine z_top (v2 := .int 1) (congrArg Value.int (by decide)) ?_
  refine va_sld hx hb hX hbl hbA hS (show ¬ _ by decide) dL_law_813 ?_
  refine z_top (v2 := .int (xs 1)) rfl ?_
  refine lv_aload_n hx hb dL_law_814 rfl (lv_at hl 3 rfl) ?_
  refine lv_iload_n hx hb dL_law_815 rfl (lv_at hl 0 rfl) ?_
  refine lv_iconst (v := 2) hx hb dL_law_816 (by decide) ?_
  refine lv_iadd hx hb dL_law_817 ?_
  refine z_top (v2 := .int 2) (congrArg Value.int (by decide)) ?_
  refine va_sld hx hb hX hbl hbA hS (show ¬ _ by decide) dL_law_818 ?_
  refine z_top (v2 := .int (xs 2)) rfl ?_
  refine lv_aload_n hx hb dL_law_819 rfl (lv_at hl 3 rfl) ?_
  refine lv_iload_n hx hb dL_law_820 rfl (lv_at hl 0 rfl) ?_
  refine lv_iconst (v := 3) hx hb dL_law_821 (by decide) ?_
  refine lv_iadd hx hb dL_law_822 ?_
  refine z_top (v2 := .int 3) (congrArg Value.int (by decide)) ?_
  refine va_sld hx hb hX hbl hbA hS (show ¬ _ by decide) dL_law_823 ?_
  refine z_top (v2 := .int (xs 3)) rfl ?_
  refine lv_aload_n hx hb dL_law_824 rfl (lv_at hl 3 rfl) ?_
  refine lv_iload_n hx hb dL_law_825 rfl (lv_at hl 0 rfl) ?_
  refine lv_iconst (v := 4) hx hb dL_law_826 (by decide) ?_
  refine lv_iadd hx hb dL_law_827 ?_
  refine z_top (v2 := .int 4) (congrArg Value.int (by decide)) ?_
  refine va_sld hx hb hX hbl hbA hS (show ¬ _ by decide) dL_law_828 ?_
  refine z_top (v2 := .int (xs 4)) rfl ?_
  refine zcA_i (w := (zM k q2 0 1 (fun _ => 0) (fun _ => 0) (fun _ => 0) (fun _ => 0) (fun _ => 0) (fun _ => 0) (fun _ => 0) (fun _ => 0) (fun _ => 0) 12 0 0 0 0 (fun _ => 0) (fun _ => 0) (fun _ => 0) 0 (-1) (fun _ => 0) 0 (fun _ => 0) (fun _ => 0) (fun _ => 0) (fun _ => 0) (fun _ => 0) 0 0 0 0 0 0 (fun _ => 0) 100 (fun _ => 0) (fun _ => 0) (fun _ => 0) (fun _ => 0) (fun _ => 0) 0)) (va_runV (As := [.int (xs 1), .int (xs 2), .int (xs 3), .int (xs 4)]) (rest := [.int r1]) ⟨hx, hb, hml, hown, hts⟩ (c_X7_span l dC dI k (zTX k) q2 0 1 (fun _ => 0) (fun _ => 0) 0 0 0 0 0 0 0 0 0 0 (fun _ => 0) (fun _ => 0) 0 (xs 1) (xs 2) (xs 3) (xs 4) _) (cwV 4 hts (gzV wmt5_11 wmt5_12 wmt5_13 wmt1_8 wmt5_14) rfl rfl rfl (by decide +kernel) ⟨Nat.le_of_ble_eq_true rfl, Nat.le_of_ble_eq_true rfl⟩) (zpA_V (ci := 7) (q0 := 0) hK hP hD rfl rfl) rfl rfl hl.1 rfl (lv_room (Nat.le_of_ble_eq_true rfl)) dL_law_829 ⟨Nat.le_of_ble_eq_true rfl, Nat.le_of_ble_eq_true rfl⟩) hD hS hA (fun r2 u H locs hw2 hP hD hS => ?_)
  have hrr : r1 = r2 := hw1.trans hw2.symm
  refine lv_icmp_eq (tgt := 1527) hx hb dL_law_832 (by decide) (fun c_1 => ?_) (fun c_1 => ?_)
  · exact lw_end C0 hS hl
  · exact absurd hrr c_1
