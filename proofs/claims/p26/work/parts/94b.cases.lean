set_option maxHeartbeats 4000000 in
set_option maxRecDepth 100000 in
theorem lw_c10 {p : Program} {l : Launch} {e : Env} {s : State} {m : MethodId} {below : List Frame} {meth : Method} {c : Code} {b L : Nat} {xs : Nat → Int32} {dC : Nat → ClassId} {dI : Nat → Nat → Nat} {k : Nat → ClassId} {q q2 : Nat → Nat} (hL : L ≤ 3072) (C0 : lw_At p s m meth c b L xs) (hK : zK dC dI k (zTX k) s) (hDa : ∀ z1 z2 : ZS, va_D (fun a : Nat => s.heap.size ≤ a) (zX k q z1 ++ zM k q2 z2)) {zx zm : ZS} (hJ : J2 zx zm) {i : Int32} (hi : 0 ≤ i.toInt ∧ i.toInt + 6 ≤ (L : Int)) {H : Heap} {locs : List Loc} (hP : va_P (dC, dI) vwCl (zX k q zx ++ zM k q2 zm) H) (hS : va_S (fun a : Nat => s.heap.size ≤ a) s.heap H locs) {ls : Array Slot} (hl : lv_has ls 4 [(3, .int i), (2, .ref (q2 0)), (1, .ref (q 0)), (0, .ref b)]) (kk : ∀ (z1 z2 : ZS) (H : Heap) (locs : List Loc), J2 z1 z2 → va_P (dC, dI) vwCl (zX k q z1 ++ zM k q2 z2) H → va_S (fun a : Nat => s.heap.size ≤ a) s.heap H locs → W p l e room_1 s m #[Value.ref b] below meth c H locs 1000 10000 (lw_Z below #[Value.ref b] s) (F0 m 1517 ls [])) : W p l e room_1 s m #[Value.ref b] below meth c H locs 1000 10000 (lw_Z below #[Value.ref b] s) (F0 m 496 ls []) := by
  obtain ⟨hI, hM, h3, hT⟩ := hJ
  have hT0 := hT
  obtain ⟨hx, hb, hr, hml, hown, hts0, hX, hbl, hlocks, hgv⟩ := id C0
  have htb : ∀ w ∈ zw, w.before #[Value.ref b] s = true := fun w h => hts0 w (List.mem_filter.mp h).1
  have hA : ∀ q : Nat, s.heap.size ≤ q → (fun a : Nat => s.heap.size ≤ a) q := fun _ h => h
  have hbA : ¬ (fun a : Nat => s.heap.size ≤ a) b := Nat.not_le.mpr hbl
  refine lv_aload_n hx hb dL_law_496 rfl (lv_at hl 2 rfl) ?_
  refine lv_aload_n hx hb dL_law_497 rfl (lv_at hl 3 rfl) ?_
  refine lv_iload_n hx hb dL_law_498 rfl (lv_at hl 0 rfl) ?_
  refine lv_iconst (v := 1) hx hb dL_law_499 (by decide) ?_
  refine lv_iadd hx hb dL_law_500 ?_
  refine lv_topi (fun x1 ex1 => ?_)
  have hx1 : x1.toInt = i.toInt + 1 := z_add ex1 rfl (show (1 : Int32).toInt = 1 by decide) (by omega)
  refine va_sld hx hb hX hbl hbA hS (z_in (by omega)) dL_law_501 ?_
  refine lv_topi (fun y2 ey2 => ?_)
  refine zcL_i (wx := zX k q zx) (wm := zM k q2 zm) (va_runV (As := [.int y2]) (rest := []) ⟨hx, hb, hml, hown, htb⟩ (c_X6_takeBack l dC dI k q zx y2 _ hI) (cwV 1 htb (gzV wmt2_106 wmt2_107 wmt2_108 wmt1_1 wmt2_109) rfl rfl rfl (by decide +kernel) ⟨Nat.le_of_ble_eq_true rfl, Nat.le_of_ble_eq_true rfl⟩) (zpA_V (ci := 6) (q0 := 0) hK (z_PL hP) (z_DL (hDa zx zm)) rfl rfl) rfl rfl hl.1 rfl (lv_room (Nat.le_of_ble_eq_true rfl)) dL_law_502 ⟨Nat.le_of_ble_eq_true rfl, Nat.le_of_ble_eq_true rfl⟩) hP (hDa _ _) hS hA (fun r3 u4 H locs w5 hP hS => ?_)
  obtain ⟨f6, f7⟩ := w5
  have hI : XInv u4 := f6
  refine lv_pop hx hb dL_law_505 rfl ?_
  refine lv_aload_n hx hb dL_law_506 rfl (lv_at hl 1 rfl) ?_
  refine lv_aload_n hx hb dL_law_507 rfl (lv_at hl 3 rfl) ?_
  refine lv_iload_n hx hb dL_law_508 rfl (lv_at hl 0 rfl) ?_
  refine lv_iconst (v := 1) hx hb dL_law_509 (by decide) ?_
  refine lv_iadd hx hb dL_law_510 ?_
  refine lv_topi (fun x8 ex8 => ?_)
  have hx8 : x8.toInt = i.toInt + 1 := z_add ex8 rfl (show (1 : Int32).toInt = 1 by decide) (by omega)
  refine va_sld hx hb hX hbl hbA hS (z_in (by omega)) dL_law_511 ?_
  refine lv_topi (fun y9 ey9 => ?_)
  have qy9 : y2 = y9 := by rw [ey9, ey2, ex8, ex1]
  subst qy9
  refine zcR_i (wx := zX k q u4) (wm := zM k q2 zm) (va_runV (As := [.int y2]) (rest := []) ⟨hx, hb, hml, hown, htb⟩ (c_X7_takeBack l dC dI k q2 zm y2 _ hM) (cwV 1 htb (gzV wmt4_178 wmt4_179 wmt4_180 wmt1_8 wmt4_181) rfl rfl rfl (by decide +kernel) ⟨Nat.le_of_ble_eq_true rfl, Nat.le_of_ble_eq_true rfl⟩) (zpA_V (ci := 7) (q0 := 0) hK (z_PR hP) (z_DR (hDa u4 zm)) rfl rfl) rfl rfl hl.1 rfl (lv_room (Nat.le_of_ble_eq_true rfl)) dL_law_512 ⟨Nat.le_of_ble_eq_true rfl, Nat.le_of_ble_eq_true rfl⟩) hP (hDa _ _) hS hA (fun r10 u11 H locs w12 hP hS => ?_)
  obtain ⟨o13, rfl⟩ : ∃ y, y = u11 := ⟨_, rfl⟩
  obtain ⟨f14, f15⟩ := w12
  obtain ⟨z16, ez16⟩ : ∃ x : ZS, x = (sA zm 27 o13) := ⟨_, rfl⟩
  have hP : va_P (dC, dI) vwCl (zX k q u4 ++ zM k q2 z16) H := by rw [ez16]; exact hP
  have hM : MInv z16 := by rw [ez16]; exact f14
  have h3 : T3 (z16.2.2.1 37) := by rw [ez16]; exact h3
  have hp2 : (r10, trM z16) = tBack (trM zm) y2 := by rw [ez16]; exact f15
  have hpp : (r3, trX u4) = (r10, trM z16) := by rw [hp2, ← hT]; exact f7
  have hrr : r3 = r10 := (Prod.mk.inj hpp).1
  have hT : trX u4 = trM z16 := (Prod.mk.inj hpp).2
  refine lv_pop hx hb dL_law_515 rfl ?_
  refine lv_goto (tgt := 1517) hx hb dL_law_516 (by decide) ?_
  exact kk _ _ H locs ⟨hI, hM, h3, hT⟩ hP hS
set_option maxHeartbeats 4000000 in
set_option maxRecDepth 100000 in
theorem lw_c11 {p : Program} {l : Launch} {e : Env} {s : State} {m : MethodId} {below : List Frame} {meth : Method} {c : Code} {b L : Nat} {xs : Nat → Int32} {dC : Nat → ClassId} {dI : Nat → Nat → Nat} {k : Nat → ClassId} {q q2 : Nat → Nat} (hL : L ≤ 3072) (C0 : lw_At p s m meth c b L xs) (hK : zK dC dI k (zTX k) s) (hDa : ∀ z1 z2 : ZS, va_D (fun a : Nat => s.heap.size ≤ a) (zX k q z1 ++ zM k q2 z2)) {zx zm : ZS} (hJ : J2 zx zm) {i : Int32} (hi : 0 ≤ i.toInt ∧ i.toInt + 6 ≤ (L : Int)) {H : Heap} {locs : List Loc} (hP : va_P (dC, dI) vwCl (zX k q zx ++ zM k q2 zm) H) (hS : va_S (fun a : Nat => s.heap.size ≤ a) s.heap H locs) {ls : Array Slot} (hl : lv_has ls 4 [(3, .int i), (2, .ref (q2 0)), (1, .ref (q 0)), (0, .ref b)]) (kk : ∀ (z1 z2 : ZS) (H : Heap) (locs : List Loc), J2 z1 z2 → va_P (dC, dI) vwCl (zX k q z1 ++ zM k q2 z2) H → va_S (fun a : Nat => s.heap.size ≤ a) s.heap H locs → W p l e room_1 s m #[Value.ref b] below meth c H locs 1000 10000 (lw_Z below #[Value.ref b] s) (F0 m 1517 ls [])) : W p l e room_1 s m #[Value.ref b] below meth c H locs 1000 10000 (lw_Z below #[Value.ref b] s) (F0 m 519 ls []) := by
  obtain ⟨hI, hM, h3, hT⟩ := hJ
  have hT0 := hT
  obtain ⟨hx, hb, hr, hml, hown, hts0, hX, hbl, hlocks, hgv⟩ := id C0
  have htb : ∀ w ∈ zw, w.before #[Value.ref b] s = true := fun w h => hts0 w (List.mem_filter.mp h).1
  have hA : ∀ q : Nat, s.heap.size ≤ q → (fun a : Nat => s.heap.size ≤ a) q := fun _ h => h
  have hbA : ¬ (fun a : Nat => s.heap.size ≤ a) b := Nat.not_le.mpr hbl
  refine lv_aload_n hx hb dL_law_519 rfl (lv_at hl 2 rfl) ?_
  refine lv_aload_n hx hb dL_law_520 rfl (lv_at hl 3 rfl) ?_
  refine lv_iload_n hx hb dL_law_521 rfl (lv_at hl 0 rfl) ?_
  refine lv_iconst (v := 1) hx hb dL_law_522 (by decide) ?_
  refine lv_iadd hx hb dL_law_523 ?_
  refine lv_topi (fun x1 ex1 => ?_)
  have hx1 : x1.toInt = i.toInt + 1 := z_add ex1 rfl (show (1 : Int32).toInt = 1 by decide) (by omega)
  refine va_sld hx hb hX hbl hbA hS (z_in (by omega)) dL_law_524 ?_
  refine lv_topi (fun y2 ey2 => ?_)
  refine lv_aload_n hx hb dL_law_525 rfl (lv_at hl 3 rfl) ?_
  refine lv_iload_n hx hb dL_law_526 rfl (lv_at hl 0 rfl) ?_
  refine lv_iconst (v := 2) hx hb dL_law_527 (by decide) ?_
  refine lv_iadd hx hb dL_law_528 ?_
  refine lv_topi (fun x3 ex3 => ?_)
  have hx3 : x3.toInt = i.toInt + 2 := z_add ex3 rfl (show (2 : Int32).toInt = 2 by decide) (by omega)
  refine va_sld hx hb hX hbl hbA hS (z_in (by omega)) dL_law_529 ?_
  refine lv_topi (fun y4 ey4 => ?_)
  refine zcL_i (wx := zX k q zx) (wm := zM k q2 zm) (va_runV (As := [.int y2, .int y4]) (rest := []) ⟨hx, hb, hml, hown, htb⟩ (c_X6_about l dC dI k q zx y2 y4 _ hI) (cwV 2 htb (gzV wmt2_114 wmt2_115 wmt2_116 wmt1_1 wmt2_117) rfl rfl rfl (by decide +kernel) ⟨Nat.le_of_ble_eq_true rfl, Nat.le_of_ble_eq_true rfl⟩) (zpA_V (ci := 6) (q0 := 0) hK (z_PL hP) (z_DL (hDa zx zm)) rfl rfl) rfl rfl hl.1 rfl (lv_room (Nat.le_of_ble_eq_true rfl)) dL_law_530 ⟨Nat.le_of_ble_eq_true rfl, Nat.le_of_ble_eq_true rfl⟩) hP (hDa _ _) hS hA (fun r5 u6 H locs w7 hP hS => ?_)
  refine lv_pop hx hb dL_law_533 rfl ?_
  refine lv_aload_n hx hb dL_law_534 rfl (lv_at hl 1 rfl) ?_
  refine lv_aload_n hx hb dL_law_535 rfl (lv_at hl 3 rfl) ?_
  refine lv_iload_n hx hb dL_law_536 rfl (lv_at hl 0 rfl) ?_
  refine lv_iconst (v := 1) hx hb dL_law_537 (by decide) ?_
  refine lv_iadd hx hb dL_law_538 ?_
  refine lv_topi (fun x8 ex8 => ?_)
  have hx8 : x8.toInt = i.toInt + 1 := z_add ex8 rfl (show (1 : Int32).toInt = 1 by decide) (by omega)
  refine va_sld hx hb hX hbl hbA hS (z_in (by omega)) dL_law_539 ?_
  refine lv_topi (fun y9 ey9 => ?_)
  have qy9 : y2 = y9 := by rw [ey9, ey2, ex8, ex1]
  subst qy9
  refine lv_aload_n hx hb dL_law_540 rfl (lv_at hl 3 rfl) ?_
  refine lv_iload_n hx hb dL_law_541 rfl (lv_at hl 0 rfl) ?_
  refine lv_iconst (v := 2) hx hb dL_law_542 (by decide) ?_
  refine lv_iadd hx hb dL_law_543 ?_
  refine lv_topi (fun x10 ex10 => ?_)
  have hx10 : x10.toInt = i.toInt + 2 := z_add ex10 rfl (show (2 : Int32).toInt = 2 by decide) (by omega)
  refine va_sld hx hb hX hbl hbA hS (z_in (by omega)) dL_law_544 ?_
  refine lv_topi (fun y11 ey11 => ?_)
  have qy11 : y4 = y11 := by rw [ey11, ey4, ex10, ex3]
  subst qy11
  refine zcR_i (wx := zX k q zx) (wm := zM k q2 zm) (va_runV (As := [.int y2, .int y4]) (rest := []) ⟨hx, hb, hml, hown, htb⟩ (c_X7_about l dC dI k q2 zm y2 y4 _ hM) (cwV 2 htb (gzV wmt4_186 wmt4_187 wmt4_188 wmt1_8 wmt4_189) rfl rfl rfl (by decide +kernel) ⟨Nat.le_of_ble_eq_true rfl, Nat.le_of_ble_eq_true rfl⟩) (zpA_V (ci := 7) (q0 := 0) hK (z_PR hP) (z_DR (hDa zx zm)) rfl rfl) rfl rfl hl.1 rfl (lv_room (Nat.le_of_ble_eq_true rfl)) dL_law_545 ⟨Nat.le_of_ble_eq_true rfl, Nat.le_of_ble_eq_true rfl⟩) hP (hDa _ _) hS hA (fun r12 u13 H locs w14 hP hS => ?_)
  refine lv_pop hx hb dL_law_548 rfl ?_
  refine lv_goto (tgt := 1517) hx hb dL_law_549 (by decide) ?_
  exact kk _ _ H locs ⟨hI, hM, h3, hT⟩ hP hS
set_option maxHeartbeats 4000000 in
set_option maxRecDepth 100000 in
theorem lw_c12 {p : Program} {l : Launch} {e : Env} {s : State} {m : MethodId} {below : List Frame} {meth : Method} {c : Code} {b L : Nat} {xs : Nat → Int32} {dC : Nat → ClassId} {dI : Nat → Nat → Nat} {k : Nat → ClassId} {q q2 : Nat → Nat} (hL : L ≤ 3072) (C0 : lw_At p s m meth c b L xs) (hK : zK dC dI k (zTX k) s) (hDa : ∀ z1 z2 : ZS, va_D (fun a : Nat => s.heap.size ≤ a) (zX k q z1 ++ zM k q2 z2)) {zx zm : ZS} (hJ : J2 zx zm) {i : Int32} (hi : 0 ≤ i.toInt ∧ i.toInt + 6 ≤ (L : Int)) {H : Heap} {locs : List Loc} (hP : va_P (dC, dI) vwCl (zX k q zx ++ zM k q2 zm) H) (hS : va_S (fun a : Nat => s.heap.size ≤ a) s.heap H locs) {ls : Array Slot} (hl : lv_has ls 4 [(3, .int i), (2, .ref (q2 0)), (1, .ref (q 0)), (0, .ref b)]) (kk : ∀ (z1 z2 : ZS) (H : Heap) (locs : List Loc), J2 z1 z2 → va_P (dC, dI) vwCl (zX k q z1 ++ zM k q2 z2) H → va_S (fun a : Nat => s.heap.size ≤ a) s.heap H locs → W p l e room_1 s m #[Value.ref b] below meth c H locs 1000 10000 (lw_Z below #[Value.ref b] s) (F0 m 1517 ls [])) : W p l e room_1 s m #[Value.ref b] below meth c H locs 1000 10000 (lw_Z below #[Value.ref b] s) (F0 m 552 ls []) := by
  obtain ⟨hI, hM, h3, hT⟩ := hJ
  have hT0 := hT
  obtain ⟨hx, hb, hr, hml, hown, hts0, hX, hbl, hlocks, hgv⟩ := id C0
  have htb : ∀ w ∈ zw, w.before #[Value.ref b] s = true := fun w h => hts0 w (List.mem_filter.mp h).1
  have hA : ∀ q : Nat, s.heap.size ≤ q → (fun a : Nat => s.heap.size ≤ a) q := fun _ h => h
  have hbA : ¬ (fun a : Nat => s.heap.size ≤ a) b := Nat.not_le.mpr hbl
  refine lv_aload_n hx hb dL_law_552 rfl (lv_at hl 2 rfl) ?_
  refine lv_aload_n hx hb dL_law_553 rfl (lv_at hl 3 rfl) ?_
  refine lv_iload_n hx hb dL_law_554 rfl (lv_at hl 0 rfl) ?_
  refine lv_iconst (v := 1) hx hb dL_law_555 (by decide) ?_
  refine lv_iadd hx hb dL_law_556 ?_
  refine lv_topi (fun x1 ex1 => ?_)
  have hx1 : x1.toInt = i.toInt + 1 := z_add ex1 rfl (show (1 : Int32).toInt = 1 by decide) (by omega)
  refine va_sld hx hb hX hbl hbA hS (z_in (by omega)) dL_law_557 ?_
  refine lv_topi (fun y2 ey2 => ?_)
  refine zcL_i (wx := zX k q zx) (wm := zM k q2 zm) (va_runV (As := [.int y2]) (rest := []) ⟨hx, hb, hml, hown, htb⟩ (c_X6_asOf l dC dI k q zx y2 _ hI) (cwV 1 htb (gzV wmt2_126 wmt2_127 wmt2_128 wmt1_1 wmt2_129) rfl rfl rfl (by decide +kernel) ⟨Nat.le_of_ble_eq_true rfl, Nat.le_of_ble_eq_true rfl⟩) (zpA_V (ci := 6) (q0 := 0) hK (z_PL hP) (z_DL (hDa zx zm)) rfl rfl) rfl rfl hl.1 rfl (lv_room (Nat.le_of_ble_eq_true rfl)) dL_law_558 ⟨Nat.le_of_ble_eq_true rfl, Nat.le_of_ble_eq_true rfl⟩) hP (hDa _ _) hS hA (fun r3 u4 H locs w5 hP hS => ?_)
  obtain ⟨f6, f7⟩ := w5
  have hI : XInv u4 := f6
  refine lv_pop hx hb dL_law_561 rfl ?_
  refine lv_aload_n hx hb dL_law_562 rfl (lv_at hl 1 rfl) ?_
  refine lv_aload_n hx hb dL_law_563 rfl (lv_at hl 3 rfl) ?_
  refine lv_iload_n hx hb dL_law_564 rfl (lv_at hl 0 rfl) ?_
  refine lv_iconst (v := 1) hx hb dL_law_565 (by decide) ?_
  refine lv_iadd hx hb dL_law_566 ?_
  refine lv_topi (fun x8 ex8 => ?_)
  have hx8 : x8.toInt = i.toInt + 1 := z_add ex8 rfl (show (1 : Int32).toInt = 1 by decide) (by omega)
  refine va_sld hx hb hX hbl hbA hS (z_in (by omega)) dL_law_567 ?_
  refine lv_topi (fun y9 ey9 => ?_)
  have qy9 : y2 = y9 := by rw [ey9, ey2, ex8, ex1]
  subst qy9
  refine zcR_i (wx := zX k q u4) (wm := zM k q2 zm) (va_runV (As := [.int y2]) (rest := []) ⟨hx, hb, hml, hown, htb⟩ (c_X7_asOf l dC dI k q2 zm y2 _ hM) (cwV 1 htb (gzV wmt4_194 wmt4_195 wmt4_196 wmt1_8 wmt4_197) rfl rfl rfl (by decide +kernel) ⟨Nat.le_of_ble_eq_true rfl, Nat.le_of_ble_eq_true rfl⟩) (zpA_V (ci := 7) (q0 := 0) hK (z_PR hP) (z_DR (hDa u4 zm)) rfl rfl) rfl rfl hl.1 rfl (lv_room (Nat.le_of_ble_eq_true rfl)) dL_law_568 ⟨Nat.le_of_ble_eq_true rfl, Nat.le_of_ble_eq_true rfl⟩) hP (hDa _ _) hS hA (fun r10 u11 H locs w12 hP hS => ?_)
  obtain ⟨o13, rfl⟩ : ∃ y, y = u11 := ⟨_, rfl⟩
  obtain ⟨f14, f15⟩ := w12
  obtain ⟨z16, ez16⟩ : ∃ x : ZS, x = (sI zm 20 o13) := ⟨_, rfl⟩
  have hP : va_P (dC, dI) vwCl (zX k q u4 ++ zM k q2 z16) H := by rw [ez16]; exact hP
  have hM : MInv z16 := by rw [ez16]; exact f14
  have h3 : T3 (z16.2.2.1 37) := by rw [ez16]; exact h3
  have hp2 : (r10, trM z16) = tAsOf (trM zm) y2 := by rw [ez16]; exact f15
  have hpp : (r3, trX u4) = (r10, trM z16) := by rw [hp2, ← hT]; exact f7
  have hrr : r3 = r10 := (Prod.mk.inj hpp).1
  have hT : trX u4 = trM z16 := (Prod.mk.inj hpp).2
  refine lv_pop hx hb dL_law_571 rfl ?_
  refine lv_goto (tgt := 1517) hx hb dL_law_572 (by decide) ?_
  exact kk _ _ H locs ⟨hI, hM, h3, hT⟩ hP hS
set_option maxHeartbeats 4000000 in
set_option maxRecDepth 100000 in
theorem lw_c13 {p : Program} {l : Launch} {e : Env} {s : State} {m : MethodId} {below : List Frame} {meth : Method} {c : Code} {b L : Nat} {xs : Nat → Int32} {dC : Nat → ClassId} {dI : Nat → Nat → Nat} {k : Nat → ClassId} {q q2 : Nat → Nat} (hL : L ≤ 3072) (C0 : lw_At p s m meth c b L xs) (hK : zK dC dI k (zTX k) s) (hDa : ∀ z1 z2 : ZS, va_D (fun a : Nat => s.heap.size ≤ a) (zX k q z1 ++ zM k q2 z2)) {zx zm : ZS} (hJ : J2 zx zm) {i : Int32} (hi : 0 ≤ i.toInt ∧ i.toInt + 6 ≤ (L : Int)) {H : Heap} {locs : List Loc} (hP : va_P (dC, dI) vwCl (zX k q zx ++ zM k q2 zm) H) (hS : va_S (fun a : Nat => s.heap.size ≤ a) s.heap H locs) {ls : Array Slot} (hl : lv_has ls 4 [(3, .int i), (2, .ref (q2 0)), (1, .ref (q 0)), (0, .ref b)]) (kk : ∀ (z1 z2 : ZS) (H : Heap) (locs : List Loc), J2 z1 z2 → va_P (dC, dI) vwCl (zX k q z1 ++ zM k q2 z2) H → va_S (fun a : Nat => s.heap.size ≤ a) s.heap H locs → W p l e room_1 s m #[Value.ref b] below meth c H locs 1000 10000 (lw_Z below #[Value.ref b] s) (F0 m 1517 ls [])) : W p l e room_1 s m #[Value.ref b] below meth c H locs 1000 10000 (lw_Z below #[Value.ref b] s) (F0 m 575 ls []) := by
  obtain ⟨hI, hM, h3, hT⟩ := hJ
  have hT0 := hT
  obtain ⟨hx, hb, hr, hml, hown, hts0, hX, hbl, hlocks, hgv⟩ := id C0
  have htb : ∀ w ∈ zw, w.before #[Value.ref b] s = true := fun w h => hts0 w (List.mem_filter.mp h).1
  have hA : ∀ q : Nat, s.heap.size ≤ q → (fun a : Nat => s.heap.size ≤ a) q := fun _ h => h
  have hbA : ¬ (fun a : Nat => s.heap.size ≤ a) b := Nat.not_le.mpr hbl
  refine lv_aload_n hx hb dL_law_575 rfl (lv_at hl 2 rfl) ?_
  refine lv_aload_n hx hb dL_law_576 rfl (lv_at hl 3 rfl) ?_
  refine lv_iload_n hx hb dL_law_577 rfl (lv_at hl 0 rfl) ?_
  refine lv_iconst (v := 1) hx hb dL_law_578 (by decide) ?_
  refine lv_iadd hx hb dL_law_579 ?_
  refine lv_topi (fun x1 ex1 => ?_)
  have hx1 : x1.toInt = i.toInt + 1 := z_add ex1 rfl (show (1 : Int32).toInt = 1 by decide) (by omega)
  refine va_sld hx hb hX hbl hbA hS (z_in (by omega)) dL_law_580 ?_
  refine lv_topi (fun y2 ey2 => ?_)
  refine lv_aload_n hx hb dL_law_581 rfl (lv_at hl 3 rfl) ?_
  refine lv_iload_n hx hb dL_law_582 rfl (lv_at hl 0 rfl) ?_
  refine lv_iconst (v := 2) hx hb dL_law_583 (by decide) ?_
  refine lv_iadd hx hb dL_law_584 ?_
  refine lv_topi (fun x3 ex3 => ?_)
  have hx3 : x3.toInt = i.toInt + 2 := z_add ex3 rfl (show (2 : Int32).toInt = 2 by decide) (by omega)
  refine va_sld hx hb hX hbl hbA hS (z_in (by omega)) dL_law_585 ?_
  refine lv_topi (fun y4 ey4 => ?_)
  refine lv_aload_n hx hb dL_law_586 rfl (lv_at hl 3 rfl) ?_
  refine lv_iload_n hx hb dL_law_587 rfl (lv_at hl 0 rfl) ?_
  refine lv_iconst (v := 3) hx hb dL_law_588 (by decide) ?_
  refine lv_iadd hx hb dL_law_589 ?_
  refine lv_topi (fun x5 ex5 => ?_)
  have hx5 : x5.toInt = i.toInt + 3 := z_add ex5 rfl (show (3 : Int32).toInt = 3 by decide) (by omega)
  refine va_sld hx hb hX hbl hbA hS (z_in (by omega)) dL_law_590 ?_
  refine lv_topi (fun y6 ey6 => ?_)
  refine zcL_i (wx := zX k q zx) (wm := zM k q2 zm) (va_runV (As := [.int y2, .int y4, .int y6]) (rest := []) ⟨hx, hb, hml, hown, htb⟩ (c_X6_poll l dC dI k q zx y2 y4 y6 _ hI) (cwV 3 htb (gzV wmt2_130 wmt2_131 wmt2_132 wmt1_1 wmt2_133) rfl rfl rfl (by decide +kernel) ⟨Nat.le_of_ble_eq_true rfl, Nat.le_of_ble_eq_true rfl⟩) (zpA_V (ci := 6) (q0 := 0) hK (z_PL hP) (z_DL (hDa zx zm)) rfl rfl) rfl rfl hl.1 rfl (lv_room (Nat.le_of_ble_eq_true rfl)) dL_law_591 ⟨Nat.le_of_ble_eq_true rfl, Nat.le_of_ble_eq_true rfl⟩) hP (hDa _ _) hS hA (fun r7 u8 H locs w9 hP hS => ?_)
  obtain ⟨f10, f11⟩ := w9
  have hI : XInv u8 := f10
  have hT : trX u8 = trM zm := f11.trans hT
  refine lv_pop hx hb dL_law_594 rfl ?_
  refine lv_aload_n hx hb dL_law_595 rfl (lv_at hl 1 rfl) ?_
  refine lv_aload_n hx hb dL_law_596 rfl (lv_at hl 3 rfl) ?_
  refine lv_iload_n hx hb dL_law_597 rfl (lv_at hl 0 rfl) ?_
  refine lv_iconst (v := 1) hx hb dL_law_598 (by decide) ?_
  refine lv_iadd hx hb dL_law_599 ?_
  refine lv_topi (fun x12 ex12 => ?_)
  have hx12 : x12.toInt = i.toInt + 1 := z_add ex12 rfl (show (1 : Int32).toInt = 1 by decide) (by omega)
  refine va_sld hx hb hX hbl hbA hS (z_in (by omega)) dL_law_600 ?_
  refine lv_topi (fun y13 ey13 => ?_)
  have qy13 : y2 = y13 := by rw [ey13, ey2, ex12, ex1]
  subst qy13
  refine lv_aload_n hx hb dL_law_601 rfl (lv_at hl 3 rfl) ?_
  refine lv_iload_n hx hb dL_law_602 rfl (lv_at hl 0 rfl) ?_
  refine lv_iconst (v := 2) hx hb dL_law_603 (by decide) ?_
  refine lv_iadd hx hb dL_law_604 ?_
  refine lv_topi (fun x14 ex14 => ?_)
  have hx14 : x14.toInt = i.toInt + 2 := z_add ex14 rfl (show (2 : Int32).toInt = 2 by decide) (by omega)
  refine va_sld hx hb hX hbl hbA hS (z_in (by omega)) dL_law_605 ?_
  refine lv_topi (fun y15 ey15 => ?_)
  have qy15 : y4 = y15 := by rw [ey15, ey4, ex14, ex3]
  subst qy15
  refine lv_aload_n hx hb dL_law_606 rfl (lv_at hl 3 rfl) ?_
  refine lv_iload_n hx hb dL_law_607 rfl (lv_at hl 0 rfl) ?_
  refine lv_iconst (v := 3) hx hb dL_law_608 (by decide) ?_
  refine lv_iadd hx hb dL_law_609 ?_
  refine lv_topi (fun x16 ex16 => ?_)
  have hx16 : x16.toInt = i.toInt + 3 := z_add ex16 rfl (show (3 : Int32).toInt = 3 by decide) (by omega)
  refine va_sld hx hb hX hbl hbA hS (z_in (by omega)) dL_law_610 ?_
  refine lv_topi (fun y17 ey17 => ?_)
  have qy17 : y6 = y17 := by rw [ey17, ey6, ex16, ex5]
  subst qy17
  refine zcR_i (wx := zX k q u8) (wm := zM k q2 zm) (va_runV (As := [.int y2, .int y4, .int y6]) (rest := []) ⟨hx, hb, hml, hown, htb⟩ (c_X7_poll l dC dI k q2 zm y2 y4 y6 _ hM) (cwV 3 htb (gzV wmt4_198 wmt4_199 wmt4_200 wmt1_8 wmt4_201) rfl rfl rfl (by decide +kernel) ⟨Nat.le_of_ble_eq_true rfl, Nat.le_of_ble_eq_true rfl⟩) (zpA_V (ci := 7) (q0 := 0) hK (z_PR hP) (z_DR (hDa u8 zm)) rfl rfl) rfl rfl hl.1 rfl (lv_room (Nat.le_of_ble_eq_true rfl)) dL_law_611 ⟨Nat.le_of_ble_eq_true rfl, Nat.le_of_ble_eq_true rfl⟩) hP (hDa _ _) hS hA (fun r18 u19 H locs w20 hP hS => ?_)
  obtain ⟨o21, o22⟩ := u19
  obtain ⟨z23, ez23⟩ : ∃ x : ZS, x = (sI (sI zm 28 o21) 29 o22) := ⟨_, rfl⟩
  have hP : va_P (dC, dI) vwCl (zX k q u8 ++ zM k q2 z23) H := by rw [ez23]; exact hP
  have hM : MInv z23 := by rw [ez23]; exact hM
  have h3 : T3 (z23.2.2.1 37) := by rw [ez23]; exact h3
  have hT : trX u8 = trM z23 := by rw [ez23]; exact hT
  refine lv_pop hx hb dL_law_614 rfl ?_
  refine lv_goto (tgt := 1517) hx hb dL_law_615 (by decide) ?_
  exact kk _ _ H locs ⟨hI, hM, h3, hT⟩ hP hS
set_option maxHeartbeats 4000000 in
set_option maxRecDepth 100000 in
theorem lw_c14 {p : Program} {l : Launch} {e : Env} {s : State} {m : MethodId} {below : List Frame} {meth : Method} {c : Code} {b L : Nat} {xs : Nat → Int32} {dC : Nat → ClassId} {dI : Nat → Nat → Nat} {k : Nat → ClassId} {q q2 : Nat → Nat} (hL : L ≤ 3072) (C0 : lw_At p s m meth c b L xs) (hK : zK dC dI k (zTX k) s) (hDa : ∀ z1 z2 : ZS, va_D (fun a : Nat => s.heap.size ≤ a) (zX k q z1 ++ zM k q2 z2)) {zx zm : ZS} (hJ : J2 zx zm) {i : Int32} (hi : 0 ≤ i.toInt ∧ i.toInt + 6 ≤ (L : Int)) {H : Heap} {locs : List Loc} (hP : va_P (dC, dI) vwCl (zX k q zx ++ zM k q2 zm) H) (hS : va_S (fun a : Nat => s.heap.size ≤ a) s.heap H locs) {ls : Array Slot} (hl : lv_has ls 4 [(3, .int i), (2, .ref (q2 0)), (1, .ref (q 0)), (0, .ref b)]) (kk : ∀ (z1 z2 : ZS) (H : Heap) (locs : List Loc), J2 z1 z2 → va_P (dC, dI) vwCl (zX k q z1 ++ zM k q2 z2) H → va_S (fun a : Nat => s.heap.size ≤ a) s.heap H locs → W p l e room_1 s m #[Value.ref b] below meth c H locs 1000 10000 (lw_Z below #[Value.ref b] s) (F0 m 1517 ls [])) : W p l e room_1 s m #[Value.ref b] below meth c H locs 1000 10000 (lw_Z below #[Value.ref b] s) (F0 m 618 ls []) := by
  obtain ⟨hI, hM, h3, hT⟩ := hJ
  have hT0 := hT
  obtain ⟨hx, hb, hr, hml, hown, hts0, hX, hbl, hlocks, hgv⟩ := id C0
  have htb : ∀ w ∈ zw, w.before #[Value.ref b] s = true := fun w h => hts0 w (List.mem_filter.mp h).1
  have hA : ∀ q : Nat, s.heap.size ≤ q → (fun a : Nat => s.heap.size ≤ a) q := fun _ h => h
  have hbA : ¬ (fun a : Nat => s.heap.size ≤ a) b := Nat.not_le.mpr hbl
  refine lv_aload_n hx hb dL_law_618 rfl (lv_at hl 2 rfl) ?_
  refine lv_aload_n hx hb dL_law_619 rfl (lv_at hl 3 rfl) ?_
  refine lv_iload_n hx hb dL_law_620 rfl (lv_at hl 0 rfl) ?_
  refine lv_iconst (v := 1) hx hb dL_law_621 (by decide) ?_
  refine lv_iadd hx hb dL_law_622 ?_
  refine lv_topi (fun x1 ex1 => ?_)
  have hx1 : x1.toInt = i.toInt + 1 := z_add ex1 rfl (show (1 : Int32).toInt = 1 by decide) (by omega)
  refine va_sld hx hb hX hbl hbA hS (z_in (by omega)) dL_law_623 ?_
  refine lv_topi (fun y2 ey2 => ?_)
  refine lv_aload_n hx hb dL_law_624 rfl (lv_at hl 3 rfl) ?_
  refine lv_iload_n hx hb dL_law_625 rfl (lv_at hl 0 rfl) ?_
  refine lv_iconst (v := 2) hx hb dL_law_626 (by decide) ?_
  refine lv_iadd hx hb dL_law_627 ?_
  refine lv_topi (fun x3 ex3 => ?_)
  have hx3 : x3.toInt = i.toInt + 2 := z_add ex3 rfl (show (2 : Int32).toInt = 2 by decide) (by omega)
  refine va_sld hx hb hX hbl hbA hS (z_in (by omega)) dL_law_628 ?_
  refine lv_topi (fun y4 ey4 => ?_)
  refine lv_aload_n hx hb dL_law_629 rfl (lv_at hl 3 rfl) ?_
  refine lv_iload_n hx hb dL_law_630 rfl (lv_at hl 0 rfl) ?_
  refine lv_iconst (v := 3) hx hb dL_law_631 (by decide) ?_
  refine lv_iadd hx hb dL_law_632 ?_
  refine lv_topi (fun x5 ex5 => ?_)
  have hx5 : x5.toInt = i.toInt + 3 := z_add ex5 rfl (show (3 : Int32).toInt = 3 by decide) (by omega)
  refine va_sld hx hb hX hbl hbA hS (z_in (by omega)) dL_law_633 ?_
  refine lv_topi (fun y6 ey6 => ?_)
  refine zcL_l (wx := zX k q zx) (wm := zM k q2 zm) (va_runV (As := [.int y2, .int y4, .int y6]) (rest := []) ⟨hx, hb, hml, hown, htb⟩ (c_X6_share l dC dI k q zx y2 y4 y6 _ hI) (cwV 3 htb (gzV wmt2_146 wmt2_147 wmt2_148 wmt1_1 wmt2_149) rfl rfl rfl (by decide +kernel) ⟨Nat.le_of_ble_eq_true rfl, Nat.le_of_ble_eq_true rfl⟩) (zpA_V (ci := 6) (q0 := 0) hK (z_PL hP) (z_DL (hDa zx zm)) rfl rfl) rfl rfl hl.1 rfl (lv_room (Nat.le_of_ble_eq_true rfl)) dL_law_634 ⟨Nat.le_of_ble_eq_true rfl, Nat.le_of_ble_eq_true rfl⟩) hP (hDa _ _) hS hA (fun r7 u8 H locs w9 hP hS => ?_)
  obtain ⟨f10, f11⟩ := w9
  have hI : XInv u8 := f10
  have hT : trX u8 = trM zm := f11.trans hT
  refine lv_pop2_2 hx hb dL_law_637 rfl ?_
  refine lv_aload_n hx hb dL_law_638 rfl (lv_at hl 1 rfl) ?_
  refine lv_aload_n hx hb dL_law_639 rfl (lv_at hl 3 rfl) ?_
  refine lv_iload_n hx hb dL_law_640 rfl (lv_at hl 0 rfl) ?_
  refine lv_iconst (v := 1) hx hb dL_law_641 (by decide) ?_
  refine lv_iadd hx hb dL_law_642 ?_
  refine lv_topi (fun x12 ex12 => ?_)
  have hx12 : x12.toInt = i.toInt + 1 := z_add ex12 rfl (show (1 : Int32).toInt = 1 by decide) (by omega)
  refine va_sld hx hb hX hbl hbA hS (z_in (by omega)) dL_law_643 ?_
  refine lv_topi (fun y13 ey13 => ?_)
  have qy13 : y2 = y13 := by rw [ey13, ey2, ex12, ex1]
  subst qy13
  refine lv_aload_n hx hb dL_law_644 rfl (lv_at hl 3 rfl) ?_
  refine lv_iload_n hx hb dL_law_645 rfl (lv_at hl 0 rfl) ?_
  refine lv_iconst (v := 2) hx hb dL_law_646 (by decide) ?_
  refine lv_iadd hx hb dL_law_647 ?_
  refine lv_topi (fun x14 ex14 => ?_)
  have hx14 : x14.toInt = i.toInt + 2 := z_add ex14 rfl (show (2 : Int32).toInt = 2 by decide) (by omega)
  refine va_sld hx hb hX hbl hbA hS (z_in (by omega)) dL_law_648 ?_
  refine lv_topi (fun y15 ey15 => ?_)
  have qy15 : y4 = y15 := by rw [ey15, ey4, ex14, ex3]
  subst qy15
  refine lv_aload_n hx hb dL_law_649 rfl (lv_at hl 3 rfl) ?_
  refine lv_iload_n hx hb dL_law_650 rfl (lv_at hl 0 rfl) ?_
  refine lv_iconst (v := 3) hx hb dL_law_651 (by decide) ?_
  refine lv_iadd hx hb dL_law_652 ?_
  refine lv_topi (fun x16 ex16 => ?_)
  have hx16 : x16.toInt = i.toInt + 3 := z_add ex16 rfl (show (3 : Int32).toInt = 3 by decide) (by omega)
  refine va_sld hx hb hX hbl hbA hS (z_in (by omega)) dL_law_653 ?_
  refine lv_topi (fun y17 ey17 => ?_)
  have qy17 : y6 = y17 := by rw [ey17, ey6, ex16, ex5]
  subst qy17
  refine zcR_l (wx := zX k q u8) (wm := zM k q2 zm) (va_runV (As := [.int y2, .int y4, .int y6]) (rest := []) ⟨hx, hb, hml, hown, htb⟩ (c_X7_share l dC dI k q2 zm y2 y4 y6 _ hM) (cwV 3 htb (gzV wmt4_209 wmt4_210 wmt4_211 wmt1_8 wmt4_212) rfl rfl rfl (by decide +kernel) ⟨Nat.le_of_ble_eq_true rfl, Nat.le_of_ble_eq_true rfl⟩) (zpA_V (ci := 7) (q0 := 0) hK (z_PR hP) (z_DR (hDa u8 zm)) rfl rfl) rfl rfl hl.1 rfl (lv_room (Nat.le_of_ble_eq_true rfl)) dL_law_654 ⟨Nat.le_of_ble_eq_true rfl, Nat.le_of_ble_eq_true rfl⟩) hP (hDa _ _) hS hA (fun r18 u19 H locs w20 hP hS => ?_)
  obtain ⟨o21, o22, o23, o24, o25, o26, o27, o28, o29, o30, o31, o32, o33, o34, o35, o36, o37, o38⟩ := u19
  have f39 := w20
  obtain ⟨z40, ez40⟩ : ∃ x : ZS, x = (sJ (sJ (sI (sI (sA (sA (sA (sI (sI (sI (sI (sA (sA (sA (sA (sA (sA (sA zm 4 o21) 5 o22) 6 o23) 7 o24) 8 o25) 9 o26) 10 o27) 12 o28) 13 o29) 14 o30) 15 o31) 16 o32) 17 o33) 18 o34) 28 o35) 29 o36) 0 o37) 1 o38) := ⟨_, rfl⟩
  have hP : va_P (dC, dI) vwCl (zX k q u8 ++ zM k q2 z40) H := by rw [ez40]; exact hP
  have hM : MInv z40 := by rw [ez40]; exact ⟨hM.1, hM.2.1, hM.2.2.1, hM.2.2.2.1, hM.2.2.2.2.1, f39⟩
  have h3 : T3 (z40.2.2.1 37) := by rw [ez40]; exact h3
  have hT : trX u8 = trM z40 := by rw [ez40]; exact hT
  refine lv_pop2_2 hx hb dL_law_657 rfl ?_
  refine lv_goto (tgt := 1517) hx hb dL_law_658 (by decide) ?_
  exact kk _ _ H locs ⟨hI, hM, h3, hT⟩ hP hS
set_option maxHeartbeats 4000000 in
set_option maxRecDepth 100000 in
theorem lw_c15 {p : Program} {l : Launch} {e : Env} {s : State} {m : MethodId} {below : List Frame} {meth : Method} {c : Code} {b L : Nat} {xs : Nat → Int32} {dC : Nat → ClassId} {dI : Nat → Nat → Nat} {k : Nat → ClassId} {q q2 : Nat → Nat} (hL : L ≤ 3072) (C0 : lw_At p s m meth c b L xs) (hK : zK dC dI k (zTX k) s) (hDa : ∀ z1 z2 : ZS, va_D (fun a : Nat => s.heap.size ≤ a) (zX k q z1 ++ zM k q2 z2)) {zx zm : ZS} (hJ : J2 zx zm) {i : Int32} (hi : 0 ≤ i.toInt ∧ i.toInt + 6 ≤ (L : Int)) {H : Heap} {locs : List Loc} (hP : va_P (dC, dI) vwCl (zX k q zx ++ zM k q2 zm) H) (hS : va_S (fun a : Nat => s.heap.size ≤ a) s.heap H locs) {ls : Array Slot} (hl : lv_has ls 4 [(3, .int i), (2, .ref (q2 0)), (1, .ref (q 0)), (0, .ref b)]) (kk : ∀ (z1 z2 : ZS) (H : Heap) (locs : List Loc), J2 z1 z2 → va_P (dC, dI) vwCl (zX k q z1 ++ zM k q2 z2) H → va_S (fun a : Nat => s.heap.size ≤ a) s.heap H locs → W p l e room_1 s m #[Value.ref b] below meth c H locs 1000 10000 (lw_Z below #[Value.ref b] s) (F0 m 1517 ls [])) : W p l e room_1 s m #[Value.ref b] below meth c H locs 1000 10000 (lw_Z below #[Value.ref b] s) (F0 m 661 ls []) := by
  obtain ⟨hI, hM, h3, hT⟩ := hJ
  have hT0 := hT
  obtain ⟨hx, hb, hr, hml, hown, hts0, hX, hbl, hlocks, hgv⟩ := id C0
  have htb : ∀ w ∈ zw, w.before #[Value.ref b] s = true := fun w h => hts0 w (List.mem_filter.mp h).1
  have hA : ∀ q : Nat, s.heap.size ≤ q → (fun a : Nat => s.heap.size ≤ a) q := fun _ h => h
  have hbA : ¬ (fun a : Nat => s.heap.size ≤ a) b := Nat.not_le.mpr hbl
  refine lv_aload_n hx hb dL_law_661 rfl (lv_at hl 2 rfl) ?_
  refine lv_aload_n hx hb dL_law_662 rfl (lv_at hl 3 rfl) ?_
  refine lv_iload_n hx hb dL_law_663 rfl (lv_at hl 0 rfl) ?_
  refine lv_iconst (v := 1) hx hb dL_law_664 (by decide) ?_
  refine lv_iadd hx hb dL_law_665 ?_
  refine lv_topi (fun x1 ex1 => ?_)
  have hx1 : x1.toInt = i.toInt + 1 := z_add ex1 rfl (show (1 : Int32).toInt = 1 by decide) (by omega)
  refine va_sld hx hb hX hbl hbA hS (z_in (by omega)) dL_law_666 ?_
  refine lv_topi (fun y2 ey2 => ?_)
  refine lv_aload_n hx hb dL_law_667 rfl (lv_at hl 3 rfl) ?_
  refine lv_iload_n hx hb dL_law_668 rfl (lv_at hl 0 rfl) ?_
  refine lv_iconst (v := 2) hx hb dL_law_669 (by decide) ?_
  refine lv_iadd hx hb dL_law_670 ?_
  refine lv_topi (fun x3 ex3 => ?_)
  have hx3 : x3.toInt = i.toInt + 2 := z_add ex3 rfl (show (2 : Int32).toInt = 2 by decide) (by omega)
  refine va_sld hx hb hX hbl hbA hS (z_in (by omega)) dL_law_671 ?_
  refine lv_topi (fun y4 ey4 => ?_)
  refine lv_aload_n hx hb dL_law_672 rfl (lv_at hl 3 rfl) ?_
  refine lv_iload_n hx hb dL_law_673 rfl (lv_at hl 0 rfl) ?_
  refine lv_iconst (v := 3) hx hb dL_law_674 (by decide) ?_
  refine lv_iadd hx hb dL_law_675 ?_
  refine lv_topi (fun x5 ex5 => ?_)
  have hx5 : x5.toInt = i.toInt + 3 := z_add ex5 rfl (show (3 : Int32).toInt = 3 by decide) (by omega)
  refine va_sld hx hb hX hbl hbA hS (z_in (by omega)) dL_law_676 ?_
  refine lv_topi (fun y6 ey6 => ?_)
  refine zcL_l (wx := zX k q zx) (wm := zM k q2 zm) (va_runV (As := [.int y2, .int y4, .int y6]) (rest := []) ⟨hx, hb, hml, hown, htb⟩ (c_X6_scatter l dC dI k q zx y2 y4 y6 _ hI) (cwV 3 htb (gzV wmt2_162 wmt2_163 wmt2_164 wmt1_1 wmt2_165) rfl rfl rfl (by decide +kernel) ⟨Nat.le_of_ble_eq_true rfl, Nat.le_of_ble_eq_true rfl⟩) (zpA_V (ci := 6) (q0 := 0) hK (z_PL hP) (z_DL (hDa zx zm)) rfl rfl) rfl rfl hl.1 rfl (lv_room (Nat.le_of_ble_eq_true rfl)) dL_law_677 ⟨Nat.le_of_ble_eq_true rfl, Nat.le_of_ble_eq_true rfl⟩) hP (hDa _ _) hS hA (fun r7 u8 H locs w9 hP hS => ?_)
  obtain ⟨f10, f11⟩ := w9
  have hI : XInv u8 := f10
  have hT : trX u8 = trM zm := f11.trans hT
  refine lv_pop2_2 hx hb dL_law_680 rfl ?_
  refine lv_aload_n hx hb dL_law_681 rfl (lv_at hl 1 rfl) ?_
  refine lv_aload_n hx hb dL_law_682 rfl (lv_at hl 3 rfl) ?_
  refine lv_iload_n hx hb dL_law_683 rfl (lv_at hl 0 rfl) ?_
  refine lv_iconst (v := 1) hx hb dL_law_684 (by decide) ?_
  refine lv_iadd hx hb dL_law_685 ?_
  refine lv_topi (fun x12 ex12 => ?_)
  have hx12 : x12.toInt = i.toInt + 1 := z_add ex12 rfl (show (1 : Int32).toInt = 1 by decide) (by omega)
  refine va_sld hx hb hX hbl hbA hS (z_in (by omega)) dL_law_686 ?_
  refine lv_topi (fun y13 ey13 => ?_)
  have qy13 : y2 = y13 := by rw [ey13, ey2, ex12, ex1]
  subst qy13
  refine lv_aload_n hx hb dL_law_687 rfl (lv_at hl 3 rfl) ?_
  refine lv_iload_n hx hb dL_law_688 rfl (lv_at hl 0 rfl) ?_
  refine lv_iconst (v := 2) hx hb dL_law_689 (by decide) ?_
  refine lv_iadd hx hb dL_law_690 ?_
  refine lv_topi (fun x14 ex14 => ?_)
  have hx14 : x14.toInt = i.toInt + 2 := z_add ex14 rfl (show (2 : Int32).toInt = 2 by decide) (by omega)
  refine va_sld hx hb hX hbl hbA hS (z_in (by omega)) dL_law_691 ?_
  refine lv_topi (fun y15 ey15 => ?_)
  have qy15 : y4 = y15 := by rw [ey15, ey4, ex14, ex3]
  subst qy15
  refine lv_aload_n hx hb dL_law_692 rfl (lv_at hl 3 rfl) ?_
  refine lv_iload_n hx hb dL_law_693 rfl (lv_at hl 0 rfl) ?_
  refine lv_iconst (v := 3) hx hb dL_law_694 (by decide) ?_
  refine lv_iadd hx hb dL_law_695 ?_
  refine lv_topi (fun x16 ex16 => ?_)
  have hx16 : x16.toInt = i.toInt + 3 := z_add ex16 rfl (show (3 : Int32).toInt = 3 by decide) (by omega)
  refine va_sld hx hb hX hbl hbA hS (z_in (by omega)) dL_law_696 ?_
  refine lv_topi (fun y17 ey17 => ?_)
  have qy17 : y6 = y17 := by rw [ey17, ey6, ex16, ex5]
  subst qy17
  refine zcR_l (wx := zX k q u8) (wm := zM k q2 zm) (va_runV (As := [.int y2, .int y4, .int y6]) (rest := []) ⟨hx, hb, hml, hown, htb⟩ (c_X7_scatter l dC dI k q2 zm y2 y4 y6 _ hM) (cwV 3 htb (gzV wmt4_217 wmt4_218 wmt4_219 wmt1_8 wmt4_220) rfl rfl rfl (by decide +kernel) ⟨Nat.le_of_ble_eq_true rfl, Nat.le_of_ble_eq_true rfl⟩) (zpA_V (ci := 7) (q0 := 0) hK (z_PR hP) (z_DR (hDa u8 zm)) rfl rfl) rfl rfl hl.1 rfl (lv_room (Nat.le_of_ble_eq_true rfl)) dL_law_697 ⟨Nat.le_of_ble_eq_true rfl, Nat.le_of_ble_eq_true rfl⟩) hP (hDa _ _) hS hA (fun r18 u19 H locs w20 hP hS => ?_)
  obtain ⟨o21, o22, o23, o24, o25, o26, o27, o28, o29, o30, o31, o32, o33, o34, o35, o36, o37, o38⟩ := u19
  have f39 := w20
  obtain ⟨z40, ez40⟩ : ∃ x : ZS, x = (sJ (sJ (sI (sI (sA (sA (sA (sI (sI (sI (sI (sA (sA (sA (sA (sA (sA (sA zm 4 o21) 5 o22) 6 o23) 7 o24) 8 o25) 9 o26) 10 o27) 12 o28) 13 o29) 14 o30) 15 o31) 16 o32) 17 o33) 18 o34) 28 o35) 29 o36) 0 o37) 1 o38) := ⟨_, rfl⟩
  have hP : va_P (dC, dI) vwCl (zX k q u8 ++ zM k q2 z40) H := by rw [ez40]; exact hP
  have hM : MInv z40 := by rw [ez40]; exact ⟨hM.1, hM.2.1, hM.2.2.1, hM.2.2.2.1, hM.2.2.2.2.1, f39⟩
  have h3 : T3 (z40.2.2.1 37) := by rw [ez40]; exact h3
  have hT : trX u8 = trM z40 := by rw [ez40]; exact hT
  refine lv_pop2_2 hx hb dL_law_700 rfl ?_
  refine lv_goto (tgt := 1517) hx hb dL_law_701 (by decide) ?_
  exact kk _ _ H locs ⟨hI, hM, h3, hT⟩ hP hS
set_option maxHeartbeats 4000000 in
set_option maxRecDepth 100000 in
theorem lw_c16 {p : Program} {l : Launch} {e : Env} {s : State} {m : MethodId} {below : List Frame} {meth : Method} {c : Code} {b L : Nat} {xs : Nat → Int32} {dC : Nat → ClassId} {dI : Nat → Nat → Nat} {k : Nat → ClassId} {q q2 : Nat → Nat} (hL : L ≤ 3072) (C0 : lw_At p s m meth c b L xs) (hK : zK dC dI k (zTX k) s) (hDa : ∀ z1 z2 : ZS, va_D (fun a : Nat => s.heap.size ≤ a) (zX k q z1 ++ zM k q2 z2)) {zx zm : ZS} (hJ : J2 zx zm) {i : Int32} (hi : 0 ≤ i.toInt ∧ i.toInt + 6 ≤ (L : Int)) {H : Heap} {locs : List Loc} (hP : va_P (dC, dI) vwCl (zX k q zx ++ zM k q2 zm) H) (hS : va_S (fun a : Nat => s.heap.size ≤ a) s.heap H locs) {ls : Array Slot} (hl : lv_has ls 4 [(3, .int i), (2, .ref (q2 0)), (1, .ref (q 0)), (0, .ref b)]) (kk : ∀ (z1 z2 : ZS) (H : Heap) (locs : List Loc), J2 z1 z2 → va_P (dC, dI) vwCl (zX k q z1 ++ zM k q2 z2) H → va_S (fun a : Nat => s.heap.size ≤ a) s.heap H locs → W p l e room_1 s m #[Value.ref b] below meth c H locs 1000 10000 (lw_Z below #[Value.ref b] s) (F0 m 1517 ls [])) : W p l e room_1 s m #[Value.ref b] below meth c H locs 1000 10000 (lw_Z below #[Value.ref b] s) (F0 m 704 ls []) := by
  obtain ⟨hI, hM, h3, hT⟩ := hJ
  have hT0 := hT
  obtain ⟨hx, hb, hr, hml, hown, hts0, hX, hbl, hlocks, hgv⟩ := id C0
  have htb : ∀ w ∈ zw, w.before #[Value.ref b] s = true := fun w h => hts0 w (List.mem_filter.mp h).1
  have hA : ∀ q : Nat, s.heap.size ≤ q → (fun a : Nat => s.heap.size ≤ a) q := fun _ h => h
  have hbA : ¬ (fun a : Nat => s.heap.size ≤ a) b := Nat.not_le.mpr hbl
  refine lv_aload_n hx hb dL_law_704 rfl (lv_at hl 2 rfl) ?_
  refine lv_aload_n hx hb dL_law_705 rfl (lv_at hl 3 rfl) ?_
  refine lv_iload_n hx hb dL_law_706 rfl (lv_at hl 0 rfl) ?_
  refine lv_iconst (v := 1) hx hb dL_law_707 (by decide) ?_
  refine lv_iadd hx hb dL_law_708 ?_
  refine lv_topi (fun x1 ex1 => ?_)
  have hx1 : x1.toInt = i.toInt + 1 := z_add ex1 rfl (show (1 : Int32).toInt = 1 by decide) (by omega)
  refine va_sld hx hb hX hbl hbA hS (z_in (by omega)) dL_law_709 ?_
  refine lv_topi (fun y2 ey2 => ?_)
  refine lv_aload_n hx hb dL_law_710 rfl (lv_at hl 3 rfl) ?_
  refine lv_iload_n hx hb dL_law_711 rfl (lv_at hl 0 rfl) ?_
  refine lv_iconst (v := 2) hx hb dL_law_712 (by decide) ?_
  refine lv_iadd hx hb dL_law_713 ?_
  refine lv_topi (fun x3 ex3 => ?_)
  have hx3 : x3.toInt = i.toInt + 2 := z_add ex3 rfl (show (2 : Int32).toInt = 2 by decide) (by omega)
  refine va_sld hx hb hX hbl hbA hS (z_in (by omega)) dL_law_714 ?_
  refine lv_topi (fun y4 ey4 => ?_)
  refine lv_aload_n hx hb dL_law_715 rfl (lv_at hl 3 rfl) ?_
  refine lv_iload_n hx hb dL_law_716 rfl (lv_at hl 0 rfl) ?_
  refine lv_iconst (v := 3) hx hb dL_law_717 (by decide) ?_
  refine lv_iadd hx hb dL_law_718 ?_
  refine lv_topi (fun x5 ex5 => ?_)
  have hx5 : x5.toInt = i.toInt + 3 := z_add ex5 rfl (show (3 : Int32).toInt = 3 by decide) (by omega)
  refine va_sld hx hb hX hbl hbA hS (z_in (by omega)) dL_law_719 ?_
  refine lv_topi (fun y6 ey6 => ?_)
  refine zcL_l (wx := zX k q zx) (wm := zM k q2 zm) (va_runV (As := [.int y2, .int y4, .int y6]) (rest := []) ⟨hx, hb, hml, hown, htb⟩ (c_X6_ways l dC dI k q zx y2 y4 y6 _ hI) (cwV 3 htb (gzV wmt2_166 wmt2_167 wmt2_168 wmt1_1 wmt2_169) rfl rfl rfl (by decide +kernel) ⟨Nat.le_of_ble_eq_true rfl, Nat.le_of_ble_eq_true rfl⟩) (zpA_V (ci := 6) (q0 := 0) hK (z_PL hP) (z_DL (hDa zx zm)) rfl rfl) rfl rfl hl.1 rfl (lv_room (Nat.le_of_ble_eq_true rfl)) dL_law_720 ⟨Nat.le_of_ble_eq_true rfl, Nat.le_of_ble_eq_true rfl⟩) hP (hDa _ _) hS hA (fun r7 u8 H locs w9 hP hS => ?_)
  obtain ⟨f10, f11⟩ := w9
  have hI : XInv u8 := f10
  have hT : trX u8 = trM zm := f11.trans hT
  refine lv_pop2_2 hx hb dL_law_723 rfl ?_
  refine lv_aload_n hx hb dL_law_724 rfl (lv_at hl 1 rfl) ?_
  refine lv_aload_n hx hb dL_law_725 rfl (lv_at hl 3 rfl) ?_
  refine lv_iload_n hx hb dL_law_726 rfl (lv_at hl 0 rfl) ?_
  refine lv_iconst (v := 1) hx hb dL_law_727 (by decide) ?_
  refine lv_iadd hx hb dL_law_728 ?_
  refine lv_topi (fun x12 ex12 => ?_)
  have hx12 : x12.toInt = i.toInt + 1 := z_add ex12 rfl (show (1 : Int32).toInt = 1 by decide) (by omega)
  refine va_sld hx hb hX hbl hbA hS (z_in (by omega)) dL_law_729 ?_
  refine lv_topi (fun y13 ey13 => ?_)
  have qy13 : y2 = y13 := by rw [ey13, ey2, ex12, ex1]
  subst qy13
  refine lv_aload_n hx hb dL_law_730 rfl (lv_at hl 3 rfl) ?_
  refine lv_iload_n hx hb dL_law_731 rfl (lv_at hl 0 rfl) ?_
  refine lv_iconst (v := 2) hx hb dL_law_732 (by decide) ?_
  refine lv_iadd hx hb dL_law_733 ?_
  refine lv_topi (fun x14 ex14 => ?_)
  have hx14 : x14.toInt = i.toInt + 2 := z_add ex14 rfl (show (2 : Int32).toInt = 2 by decide) (by omega)
  refine va_sld hx hb hX hbl hbA hS (z_in (by omega)) dL_law_734 ?_
  refine lv_topi (fun y15 ey15 => ?_)
  have qy15 : y4 = y15 := by rw [ey15, ey4, ex14, ex3]
  subst qy15
  refine lv_aload_n hx hb dL_law_735 rfl (lv_at hl 3 rfl) ?_
  refine lv_iload_n hx hb dL_law_736 rfl (lv_at hl 0 rfl) ?_
  refine lv_iconst (v := 3) hx hb dL_law_737 (by decide) ?_
  refine lv_iadd hx hb dL_law_738 ?_
  refine lv_topi (fun x16 ex16 => ?_)
  have hx16 : x16.toInt = i.toInt + 3 := z_add ex16 rfl (show (3 : Int32).toInt = 3 by decide) (by omega)
  refine va_sld hx hb hX hbl hbA hS (z_in (by omega)) dL_law_739 ?_
  refine lv_topi (fun y17 ey17 => ?_)
  have qy17 : y6 = y17 := by rw [ey17, ey6, ex16, ex5]
  subst qy17
  refine zcR_l (wx := zX k q u8) (wm := zM k q2 zm) (va_runV (As := [.int y2, .int y4, .int y6]) (rest := []) ⟨hx, hb, hml, hown, htb⟩ (c_X7_ways l dC dI k q2 zm y2 y4 y6 _ hM) (cwV 3 htb (gzV wmt4_221 wmt4_222 wmt4_223 wmt1_8 wmt4_224) rfl rfl rfl (by decide +kernel) ⟨Nat.le_of_ble_eq_true rfl, Nat.le_of_ble_eq_true rfl⟩) (zpA_V (ci := 7) (q0 := 0) hK (z_PR hP) (z_DR (hDa u8 zm)) rfl rfl) rfl rfl hl.1 rfl (lv_room (Nat.le_of_ble_eq_true rfl)) dL_law_740 ⟨Nat.le_of_ble_eq_true rfl, Nat.le_of_ble_eq_true rfl⟩) hP (hDa _ _) hS hA (fun r18 u19 H locs w20 hP hS => ?_)
  obtain ⟨o21, o22, o23, o24, o25, o26, o27, o28, o29, o30, o31, o32, o33, o34, o35, o36, o37, o38, o39, o40, o41⟩ := u19
  have f42 := w20
  obtain ⟨z43, ez43⟩ : ∃ x : ZS, x = (sJ (sJ (sJ (sJ (sJ (sI (sI (sA (sA (sA (sI (sI (sI (sI (sA (sA (sA (sA (sA (sA (sA zm 4 o21) 5 o22) 6 o23) 7 o24) 8 o25) 9 o26) 10 o27) 12 o28) 13 o29) 14 o30) 15 o31) 16 o32) 17 o33) 18 o34) 28 o35) 29 o36) 0 o37) 1 o38) 30 o39) 31 o40) 32 o41) := ⟨_, rfl⟩
  have hP : va_P (dC, dI) vwCl (zX k q u8 ++ zM k q2 z43) H := by rw [ez43]; exact hP
  have hM : MInv z43 := by rw [ez43]; exact ⟨hM.1, hM.2.1, hM.2.2.1, hM.2.2.2.1, hM.2.2.2.2.1, f42⟩
  have h3 : T3 (z43.2.2.1 37) := by rw [ez43]; exact h3
  have hT : trX u8 = trM z43 := by rw [ez43]; exact hT
  refine lv_pop2_2 hx hb dL_law_743 rfl ?_
  refine lv_goto (tgt := 1517) hx hb dL_law_744 (by decide) ?_
  exact kk _ _ H locs ⟨hI, hM, h3, hT⟩ hP hS
set_option maxHeartbeats 4000000 in
set_option maxRecDepth 100000 in
theorem lw_c17 {p : Program} {l : Launch} {e : Env} {s : State} {m : MethodId} {below : List Frame} {meth : Method} {c : Code} {b L : Nat} {xs : Nat → Int32} {dC : Nat → ClassId} {dI : Nat → Nat → Nat} {k : Nat → ClassId} {q q2 : Nat → Nat} (hL : L ≤ 3072) (C0 : lw_At p s m meth c b L xs) (hK : zK dC dI k (zTX k) s) (hDa : ∀ z1 z2 : ZS, va_D (fun a : Nat => s.heap.size ≤ a) (zX k q z1 ++ zM k q2 z2)) {zx zm : ZS} (hJ : J2 zx zm) {i : Int32} (hi : 0 ≤ i.toInt ∧ i.toInt + 6 ≤ (L : Int)) {H : Heap} {locs : List Loc} (hP : va_P (dC, dI) vwCl (zX k q zx ++ zM k q2 zm) H) (hS : va_S (fun a : Nat => s.heap.size ≤ a) s.heap H locs) {ls : Array Slot} (hl : lv_has ls 4 [(3, .int i), (2, .ref (q2 0)), (1, .ref (q 0)), (0, .ref b)]) (kk : ∀ (z1 z2 : ZS) (H : Heap) (locs : List Loc), J2 z1 z2 → va_P (dC, dI) vwCl (zX k q z1 ++ zM k q2 z2) H → va_S (fun a : Nat => s.heap.size ≤ a) s.heap H locs → W p l e room_1 s m #[Value.ref b] below meth c H locs 1000 10000 (lw_Z below #[Value.ref b] s) (F0 m 1517 ls [])) : W p l e room_1 s m #[Value.ref b] below meth c H locs 1000 10000 (lw_Z below #[Value.ref b] s) (F0 m 747 ls []) := by
  obtain ⟨hI, hM, h3, hT⟩ := hJ
  have hT0 := hT
  obtain ⟨hx, hb, hr, hml, hown, hts0, hX, hbl, hlocks, hgv⟩ := id C0
  have htb : ∀ w ∈ zw, w.before #[Value.ref b] s = true := fun w h => hts0 w (List.mem_filter.mp h).1
  have hA : ∀ q : Nat, s.heap.size ≤ q → (fun a : Nat => s.heap.size ≤ a) q := fun _ h => h
  have hbA : ¬ (fun a : Nat => s.heap.size ≤ a) b := Nat.not_le.mpr hbl
  refine lv_aload_n hx hb dL_law_747 rfl (lv_at hl 2 rfl) ?_
  refine lv_aload_n hx hb dL_law_748 rfl (lv_at hl 3 rfl) ?_
  refine lv_iload_n hx hb dL_law_749 rfl (lv_at hl 0 rfl) ?_
  refine lv_iconst (v := 1) hx hb dL_law_750 (by decide) ?_
  refine lv_iadd hx hb dL_law_751 ?_
  refine lv_topi (fun x1 ex1 => ?_)
  have hx1 : x1.toInt = i.toInt + 1 := z_add ex1 rfl (show (1 : Int32).toInt = 1 by decide) (by omega)
  refine va_sld hx hb hX hbl hbA hS (z_in (by omega)) dL_law_752 ?_
  refine lv_topi (fun y2 ey2 => ?_)
  refine lv_aload_n hx hb dL_law_753 rfl (lv_at hl 3 rfl) ?_
  refine lv_iload_n hx hb dL_law_754 rfl (lv_at hl 0 rfl) ?_
  refine lv_iconst (v := 2) hx hb dL_law_755 (by decide) ?_
  refine lv_iadd hx hb dL_law_756 ?_
  refine lv_topi (fun x3 ex3 => ?_)
  have hx3 : x3.toInt = i.toInt + 2 := z_add ex3 rfl (show (2 : Int32).toInt = 2 by decide) (by omega)
  refine va_sld hx hb hX hbl hbA hS (z_in (by omega)) dL_law_757 ?_
  refine lv_topi (fun y4 ey4 => ?_)
  refine zcL_i (wx := zX k q zx) (wm := zM k q2 zm) (va_runV (As := [.int y2, .int y4]) (rest := []) ⟨hx, hb, hml, hown, htb⟩ (c_X6_likely l dC dI k q zx y2 y4 _ hI) (cwV 2 htb (gzV wmt2_206 wmt2_207 wmt2_208 wmt1_1 wmt2_209) rfl rfl rfl (by decide +kernel) ⟨Nat.le_of_ble_eq_true rfl, Nat.le_of_ble_eq_true rfl⟩) (zpA_V (ci := 6) (q0 := 0) hK (z_PL hP) (z_DL (hDa zx zm)) rfl rfl) rfl rfl hl.1 rfl (lv_room (Nat.le_of_ble_eq_true rfl)) dL_law_758 ⟨Nat.le_of_ble_eq_true rfl, Nat.le_of_ble_eq_true rfl⟩) hP (hDa _ _) hS hA (fun r5 u6 H locs w7 hP hS => ?_)
  obtain ⟨f8, f9⟩ := w7
  have hI : XInv u6 := f8
  have hT : trX u6 = trM zm := f9.trans hT
  refine lv_pop hx hb dL_law_761 rfl ?_
  refine lv_aload_n hx hb dL_law_762 rfl (lv_at hl 1 rfl) ?_
  refine lv_aload_n hx hb dL_law_763 rfl (lv_at hl 3 rfl) ?_
  refine lv_iload_n hx hb dL_law_764 rfl (lv_at hl 0 rfl) ?_
  refine lv_iconst (v := 1) hx hb dL_law_765 (by decide) ?_
  refine lv_iadd hx hb dL_law_766 ?_
  refine lv_topi (fun x10 ex10 => ?_)
  have hx10 : x10.toInt = i.toInt + 1 := z_add ex10 rfl (show (1 : Int32).toInt = 1 by decide) (by omega)
  refine va_sld hx hb hX hbl hbA hS (z_in (by omega)) dL_law_767 ?_
  refine lv_topi (fun y11 ey11 => ?_)
  have qy11 : y2 = y11 := by rw [ey11, ey2, ex10, ex1]
  subst qy11
  refine lv_aload_n hx hb dL_law_768 rfl (lv_at hl 3 rfl) ?_
  refine lv_iload_n hx hb dL_law_769 rfl (lv_at hl 0 rfl) ?_
  refine lv_iconst (v := 2) hx hb dL_law_770 (by decide) ?_
  refine lv_iadd hx hb dL_law_771 ?_
  refine lv_topi (fun x12 ex12 => ?_)
  have hx12 : x12.toInt = i.toInt + 2 := z_add ex12 rfl (show (2 : Int32).toInt = 2 by decide) (by omega)
  refine va_sld hx hb hX hbl hbA hS (z_in (by omega)) dL_law_772 ?_
  refine lv_topi (fun y13 ey13 => ?_)
  have qy13 : y4 = y13 := by rw [ey13, ey4, ex12, ex3]
  subst qy13
  refine zcR_i (wx := zX k q u6) (wm := zM k q2 zm) (va_runV (As := [.int y2, .int y4]) (rest := []) ⟨hx, hb, hml, hown, htb⟩ (c_X7_likely l dC dI k q2 zm y2 y4 _ hM) (cwV 2 htb (gzV wmt4_239 wmt5_0 wmt5_1 wmt1_8 wmt5_2) rfl rfl rfl (by decide +kernel) ⟨Nat.le_of_ble_eq_true rfl, Nat.le_of_ble_eq_true rfl⟩) (zpA_V (ci := 7) (q0 := 0) hK (z_PR hP) (z_DR (hDa u6 zm)) rfl rfl) rfl rfl hl.1 rfl (lv_room (Nat.le_of_ble_eq_true rfl)) dL_law_773 ⟨Nat.le_of_ble_eq_true rfl, Nat.le_of_ble_eq_true rfl⟩) hP (hDa _ _) hS hA (fun r14 u15 H locs w16 hP hS => ?_)
  obtain ⟨o17, o18, o19, o20, o21, o22, o23, o24, o25, o26, o27, o28, o29, o30, o31, o32, o33, o34, o35, o36, o37⟩ := u15
  have f38 := w16
  obtain ⟨z39, ez39⟩ : ∃ x : ZS, x = (sJ (sJ (sJ (sJ (sJ (sI (sI (sA (sA (sA (sI (sI (sI (sI (sA (sA (sA (sA (sA (sA (sA zm 4 o17) 5 o18) 6 o19) 7 o20) 8 o21) 9 o22) 10 o23) 12 o24) 13 o25) 14 o26) 15 o27) 16 o28) 17 o29) 18 o30) 28 o31) 29 o32) 0 o33) 1 o34) 30 o35) 31 o36) 32 o37) := ⟨_, rfl⟩
  have hP : va_P (dC, dI) vwCl (zX k q u6 ++ zM k q2 z39) H := by rw [ez39]; exact hP
  have hM : MInv z39 := by rw [ez39]; exact ⟨hM.1, hM.2.1, hM.2.2.1, hM.2.2.2.1, hM.2.2.2.2.1, f38⟩
  have h3 : T3 (z39.2.2.1 37) := by rw [ez39]; exact h3
  have hT : trX u6 = trM z39 := by rw [ez39]; exact hT
  refine lv_pop hx hb dL_law_776 rfl ?_
  refine lv_goto (tgt := 1517) hx hb dL_law_777 (by decide) ?_
  exact kk _ _ H locs ⟨hI, hM, h3, hT⟩ hP hS
set_option maxHeartbeats 4000000 in
set_option maxRecDepth 100000 in
theorem lw_c18 {p : Program} {l : Launch} {e : Env} {s : State} {m : MethodId} {below : List Frame} {meth : Method} {c : Code} {b L : Nat} {xs : Nat → Int32} {dC : Nat → ClassId} {dI : Nat → Nat → Nat} {k : Nat → ClassId} {q q2 : Nat → Nat} (hL : L ≤ 3072) (C0 : lw_At p s m meth c b L xs) (hK : zK dC dI k (zTX k) s) (hDa : ∀ z1 z2 : ZS, va_D (fun a : Nat => s.heap.size ≤ a) (zX k q z1 ++ zM k q2 z2)) {zx zm : ZS} (hJ : J2 zx zm) {i : Int32} (hi : 0 ≤ i.toInt ∧ i.toInt + 6 ≤ (L : Int)) {H : Heap} {locs : List Loc} (hP : va_P (dC, dI) vwCl (zX k q zx ++ zM k q2 zm) H) (hS : va_S (fun a : Nat => s.heap.size ≤ a) s.heap H locs) {ls : Array Slot} (hl : lv_has ls 4 [(3, .int i), (2, .ref (q2 0)), (1, .ref (q 0)), (0, .ref b)]) (kk : ∀ (z1 z2 : ZS) (H : Heap) (locs : List Loc), J2 z1 z2 → va_P (dC, dI) vwCl (zX k q z1 ++ zM k q2 z2) H → va_S (fun a : Nat => s.heap.size ≤ a) s.heap H locs → W p l e room_1 s m #[Value.ref b] below meth c H locs 1000 10000 (lw_Z below #[Value.ref b] s) (F0 m 1517 ls [])) : W p l e room_1 s m #[Value.ref b] below meth c H locs 1000 10000 (lw_Z below #[Value.ref b] s) (F0 m 780 ls []) := by
  obtain ⟨hI, hM, h3, hT⟩ := hJ
  have hT0 := hT
  obtain ⟨hx, hb, hr, hml, hown, hts0, hX, hbl, hlocks, hgv⟩ := id C0
  have htb : ∀ w ∈ zw, w.before #[Value.ref b] s = true := fun w h => hts0 w (List.mem_filter.mp h).1
  have hA : ∀ q : Nat, s.heap.size ≤ q → (fun a : Nat => s.heap.size ≤ a) q := fun _ h => h
  have hbA : ¬ (fun a : Nat => s.heap.size ≤ a) b := Nat.not_le.mpr hbl
  refine lv_aload_n hx hb dL_law_780 rfl (lv_at hl 2 rfl) ?_
  refine lv_aload_n hx hb dL_law_781 rfl (lv_at hl 3 rfl) ?_
  refine lv_iload_n hx hb dL_law_782 rfl (lv_at hl 0 rfl) ?_
  refine lv_iconst (v := 1) hx hb dL_law_783 (by decide) ?_
  refine lv_iadd hx hb dL_law_784 ?_
  refine lv_topi (fun x1 ex1 => ?_)
  have hx1 : x1.toInt = i.toInt + 1 := z_add ex1 rfl (show (1 : Int32).toInt = 1 by decide) (by omega)
  refine va_sld hx hb hX hbl hbA hS (z_in (by omega)) dL_law_785 ?_
  refine lv_topi (fun y2 ey2 => ?_)
  refine lv_aload_n hx hb dL_law_786 rfl (lv_at hl 3 rfl) ?_
  refine lv_iload_n hx hb dL_law_787 rfl (lv_at hl 0 rfl) ?_
  refine lv_iconst (v := 2) hx hb dL_law_788 (by decide) ?_
  refine lv_iadd hx hb dL_law_789 ?_
  refine lv_topi (fun x3 ex3 => ?_)
  have hx3 : x3.toInt = i.toInt + 2 := z_add ex3 rfl (show (2 : Int32).toInt = 2 by decide) (by omega)
  refine va_sld hx hb hX hbl hbA hS (z_in (by omega)) dL_law_790 ?_
  refine lv_topi (fun y4 ey4 => ?_)
  refine lv_aload_n hx hb dL_law_791 rfl (lv_at hl 3 rfl) ?_
  refine lv_iload_n hx hb dL_law_792 rfl (lv_at hl 0 rfl) ?_
  refine lv_iconst (v := 3) hx hb dL_law_793 (by decide) ?_
  refine lv_iadd hx hb dL_law_794 ?_
  refine lv_topi (fun x5 ex5 => ?_)
  have hx5 : x5.toInt = i.toInt + 3 := z_add ex5 rfl (show (3 : Int32).toInt = 3 by decide) (by omega)
  refine va_sld hx hb hX hbl hbA hS (z_in (by omega)) dL_law_795 ?_
  refine lv_topi (fun y6 ey6 => ?_)
  refine lv_aload_n hx hb dL_law_796 rfl (lv_at hl 3 rfl) ?_
  refine lv_iload_n hx hb dL_law_797 rfl (lv_at hl 0 rfl) ?_
  refine lv_iconst (v := 4) hx hb dL_law_798 (by decide) ?_
  refine lv_iadd hx hb dL_law_799 ?_
  refine lv_topi (fun x7 ex7 => ?_)
  have hx7 : x7.toInt = i.toInt + 4 := z_add ex7 rfl (show (4 : Int32).toInt = 4 by decide) (by omega)
  refine va_sld hx hb hX hbl hbA hS (z_in (by omega)) dL_law_800 ?_
  refine lv_topi (fun y8 ey8 => ?_)
  refine zcL_i (wx := zX k q zx) (wm := zM k q2 zm) (va_runV (As := [.int y2, .int y4, .int y6, .int y8]) (rest := []) ⟨hx, hb, hml, hown, htb⟩ (c_X6_span l dC dI k q zx y2 y4 y6 y8 _ hI) (cwV 4 htb (gzV wmt2_214 wmt2_215 wmt2_216 wmt1_1 wmt2_217) rfl rfl rfl (by decide +kernel) ⟨Nat.le_of_ble_eq_true rfl, Nat.le_of_ble_eq_true rfl⟩) (zpA_V (ci := 6) (q0 := 0) hK (z_PL hP) (z_DL (hDa zx zm)) rfl rfl) rfl rfl hl.1 rfl (lv_room (Nat.le_of_ble_eq_true rfl)) dL_law_801 ⟨Nat.le_of_ble_eq_true rfl, Nat.le_of_ble_eq_true rfl⟩) hP (hDa _ _) hS hA (fun r9 u10 H locs w11 hP hS => ?_)
  obtain ⟨f12, f13⟩ := w11
  have hI : XInv u10 := f12
  have hT : trX u10 = trM zm := f13.trans hT
  refine lv_pop hx hb dL_law_804 rfl ?_
  refine lv_aload_n hx hb dL_law_805 rfl (lv_at hl 1 rfl) ?_
  refine lv_aload_n hx hb dL_law_806 rfl (lv_at hl 3 rfl) ?_
  refine lv_iload_n hx hb dL_law_807 rfl (lv_at hl 0 rfl) ?_
  refine lv_iconst (v := 1) hx hb dL_law_808 (by decide) ?_
  refine lv_iadd hx hb dL_law_809 ?_
  refine lv_topi (fun x14 ex14 => ?_)
  have hx14 : x14.toInt = i.toInt + 1 := z_add ex14 rfl (show (1 : Int32).toInt = 1 by decide) (by omega)
  refine va_sld hx hb hX hbl hbA hS (z_in (by omega)) dL_law_810 ?_
  refine lv_topi (fun y15 ey15 => ?_)
  have qy15 : y2 = y15 := by rw [ey15, ey2, ex14, ex1]
  subst qy15
  refine lv_aload_n hx hb dL_law_811 rfl (lv_at hl 3 rfl) ?_
  refine lv_iload_n hx hb dL_law_812 rfl (lv_at hl 0 rfl) ?_
  refine lv_iconst (v := 2) hx hb dL_law_813 (by decide) ?_
  refine lv_iadd hx hb dL_law_814 ?_
  refine lv_topi (fun x16 ex16 => ?_)
  have hx16 : x16.toInt = i.toInt + 2 := z_add ex16 rfl (show (2 : Int32).toInt = 2 by decide) (by omega)
  refine va_sld hx hb hX hbl hbA hS (z_in (by omega)) dL_law_815 ?_
  refine lv_topi (fun y17 ey17 => ?_)
  have qy17 : y4 = y17 := by rw [ey17, ey4, ex16, ex3]
  subst qy17
  refine lv_aload_n hx hb dL_law_816 rfl (lv_at hl 3 rfl) ?_
  refine lv_iload_n hx hb dL_law_817 rfl (lv_at hl 0 rfl) ?_
  refine lv_iconst (v := 3) hx hb dL_law_818 (by decide) ?_
  refine lv_iadd hx hb dL_law_819 ?_
  refine lv_topi (fun x18 ex18 => ?_)
  have hx18 : x18.toInt = i.toInt + 3 := z_add ex18 rfl (show (3 : Int32).toInt = 3 by decide) (by omega)
  refine va_sld hx hb hX hbl hbA hS (z_in (by omega)) dL_law_820 ?_
  refine lv_topi (fun y19 ey19 => ?_)
  have qy19 : y6 = y19 := by rw [ey19, ey6, ex18, ex5]
  subst qy19
  refine lv_aload_n hx hb dL_law_821 rfl (lv_at hl 3 rfl) ?_
  refine lv_iload_n hx hb dL_law_822 rfl (lv_at hl 0 rfl) ?_
  refine lv_iconst (v := 4) hx hb dL_law_823 (by decide) ?_
  refine lv_iadd hx hb dL_law_824 ?_
  refine lv_topi (fun x20 ex20 => ?_)
  have hx20 : x20.toInt = i.toInt + 4 := z_add ex20 rfl (show (4 : Int32).toInt = 4 by decide) (by omega)
  refine va_sld hx hb hX hbl hbA hS (z_in (by omega)) dL_law_825 ?_
  refine lv_topi (fun y21 ey21 => ?_)
  have qy21 : y8 = y21 := by rw [ey21, ey8, ex20, ex7]
  subst qy21
  refine zcR_i (wx := zX k q u10) (wm := zM k q2 zm) (va_runV (As := [.int y2, .int y4, .int y6, .int y8]) (rest := []) ⟨hx, hb, hml, hown, htb⟩ (c_X7_span l dC dI k q2 zm y2 y4 y6 y8 _ hM) (cwV 4 htb (gzV wmt5_11 wmt5_12 wmt5_13 wmt1_8 wmt5_14) rfl rfl rfl (by decide +kernel) ⟨Nat.le_of_ble_eq_true rfl, Nat.le_of_ble_eq_true rfl⟩) (zpA_V (ci := 7) (q0 := 0) hK (z_PR hP) (z_DR (hDa u10 zm)) rfl rfl) rfl rfl hl.1 rfl (lv_room (Nat.le_of_ble_eq_true rfl)) dL_law_826 ⟨Nat.le_of_ble_eq_true rfl, Nat.le_of_ble_eq_true rfl⟩) hP (hDa _ _) hS hA (fun r22 u23 H locs w24 hP hS => ?_)
  obtain ⟨o25, o26, o27, o28, o29, o30, o31, o32, o33, o34, o35, o36, o37, o38, o39, o40, o41, o42, o43, o44, o45⟩ := u23
  have f46 := w24
  obtain ⟨z47, ez47⟩ : ∃ x : ZS, x = (sJ (sJ (sJ (sJ (sJ (sI (sI (sA (sA (sA (sI (sI (sI (sI (sA (sA (sA (sA (sA (sA (sA zm 4 o25) 5 o26) 6 o27) 7 o28) 8 o29) 9 o30) 10 o31) 12 o32) 13 o33) 14 o34) 15 o35) 16 o36) 17 o37) 18 o38) 28 o39) 29 o40) 0 o41) 1 o42) 30 o43) 31 o44) 32 o45) := ⟨_, rfl⟩
  have hP : va_P (dC, dI) vwCl (zX k q u10 ++ zM k q2 z47) H := by rw [ez47]; exact hP
  have hM : MInv z47 := by rw [ez47]; exact ⟨hM.1, hM.2.1, hM.2.2.1, hM.2.2.2.1, hM.2.2.2.2.1, f46⟩
  have h3 : T3 (z47.2.2.1 37) := by rw [ez47]; exact h3
  have hT : trX u10 = trM z47 := by rw [ez47]; exact hT
  refine lv_pop hx hb dL_law_829 rfl ?_
  refine lv_goto (tgt := 1517) hx hb dL_law_830 (by decide) ?_
  exact kk _ _ H locs ⟨hI, hM, h3, hT⟩ hP hS
