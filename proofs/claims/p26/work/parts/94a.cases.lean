set_option maxHeartbeats 4000000 in
set_option maxRecDepth 100000 in
theorem lw_c0 {p : Program} {l : Launch} {e : Env} {s : State} {m : MethodId} {below : List Frame} {meth : Method} {c : Code} {b L : Nat} {xs : Nat → Int32} {dC : Nat → ClassId} {dI : Nat → Nat → Nat} {k : Nat → ClassId} {q q2 : Nat → Nat} (hL : L ≤ 3072) (C0 : lw_At p s m meth c b L xs) (hK : zK dC dI k (zTX k) s) (hDa : ∀ z1 z2 : ZS, va_D (fun a : Nat => s.heap.size ≤ a) (zX k q z1 ++ zM k q2 z2)) {zx zm : ZS} (hJ : J2 zx zm) {i : Int32} (hi : 0 ≤ i.toInt ∧ i.toInt + 6 ≤ (L : Int)) {H : Heap} {locs : List Loc} (hP : va_P (dC, dI) vwCl (zX k q zx ++ zM k q2 zm) H) (hS : va_S (fun a : Nat => s.heap.size ≤ a) s.heap H locs) {ls : Array Slot} (hl : lv_has ls 4 [(3, .int i), (2, .ref (q2 0)), (1, .ref (q 0)), (0, .ref b)]) (kk : ∀ (z1 z2 : ZS) (H : Heap) (locs : List Loc), J2 z1 z2 → va_P (dC, dI) vwCl (zX k q z1 ++ zM k q2 z2) H → va_S (fun a : Nat => s.heap.size ≤ a) s.heap H locs → W p l e room_1 s m #[Value.ref b] below meth c H locs 1000 10000 (lw_Z below #[Value.ref b] s) (F0 m 1517 ls [])) : W p l e room_1 s m #[Value.ref b] below meth c H locs 1000 10000 (lw_Z below #[Value.ref b] s) (F0 m 196 ls []) := by
  obtain ⟨hI, hM, h3, hT⟩ := hJ
  have hT0 := hT
  obtain ⟨hx, hb, hr, hml, hown, hts0, hX, hbl, hlocks, hgv⟩ := id C0
  have htb : ∀ w ∈ zw, w.before #[Value.ref b] s = true := fun w h => hts0 w (List.mem_filter.mp h).1
  have hA : ∀ q : Nat, s.heap.size ≤ q → (fun a : Nat => s.heap.size ≤ a) q := fun _ h => h
  have hbA : ¬ (fun a : Nat => s.heap.size ≤ a) b := Nat.not_le.mpr hbl
  refine lv_aload_n hx hb dL_law_196 rfl (lv_at hl 2 rfl) ?_
  refine lv_aload_n hx hb dL_law_197 rfl (lv_at hl 3 rfl) ?_
  refine lv_iload_n hx hb dL_law_198 rfl (lv_at hl 0 rfl) ?_
  refine lv_iconst (v := 1) hx hb dL_law_199 (by decide) ?_
  refine lv_iadd hx hb dL_law_200 ?_
  refine lv_topi (fun x1 ex1 => ?_)
  have hx1 : x1.toInt = i.toInt + 1 := z_add ex1 rfl (show (1 : Int32).toInt = 1 by decide) (by omega)
  refine va_sld hx hb hX hbl hbA hS (z_in (by omega)) dL_law_201 ?_
  refine lv_topi (fun y2 ey2 => ?_)
  refine lv_aload_n hx hb dL_law_202 rfl (lv_at hl 3 rfl) ?_
  refine lv_iload_n hx hb dL_law_203 rfl (lv_at hl 0 rfl) ?_
  refine lv_iconst (v := 2) hx hb dL_law_204 (by decide) ?_
  refine lv_iadd hx hb dL_law_205 ?_
  refine lv_topi (fun x3 ex3 => ?_)
  have hx3 : x3.toInt = i.toInt + 2 := z_add ex3 rfl (show (2 : Int32).toInt = 2 by decide) (by omega)
  refine va_sld hx hb hX hbl hbA hS (z_in (by omega)) dL_law_206 ?_
  refine lv_topi (fun y4 ey4 => ?_)
  refine zcL_i (wx := zX k q zx) (wm := zM k q2 zm) (va_runV (As := [.int y2, .int y4]) (rest := []) ⟨hx, hb, hml, hown, htb⟩ (c_X6_type l dC dI k q zx y2 y4 _ hI) (cwV 2 htb (gzV wmt1_207 wmt1_208 wmt1_209 wmt1_1 wmt1_210) rfl rfl rfl (by decide +kernel) ⟨Nat.le_of_ble_eq_true rfl, Nat.le_of_ble_eq_true rfl⟩) (zpA_V (ci := 6) (q0 := 0) hK (z_PL hP) (z_DL (hDa zx zm)) rfl rfl) rfl rfl hl.1 rfl (lv_room (Nat.le_of_ble_eq_true rfl)) dL_law_207 ⟨Nat.le_of_ble_eq_true rfl, Nat.le_of_ble_eq_true rfl⟩) hP (hDa _ _) hS hA (fun r5 u6 H locs w7 hP hS => ?_)
  obtain ⟨f8, f9⟩ := w7
  have hI : XInv u6 := f8
  refine lv_pop hx hb dL_law_210 rfl ?_
  refine lv_aload_n hx hb dL_law_211 rfl (lv_at hl 1 rfl) ?_
  refine lv_aload_n hx hb dL_law_212 rfl (lv_at hl 3 rfl) ?_
  refine lv_iload_n hx hb dL_law_213 rfl (lv_at hl 0 rfl) ?_
  refine lv_iconst (v := 1) hx hb dL_law_214 (by decide) ?_
  refine lv_iadd hx hb dL_law_215 ?_
  refine lv_topi (fun x10 ex10 => ?_)
  have hx10 : x10.toInt = i.toInt + 1 := z_add ex10 rfl (show (1 : Int32).toInt = 1 by decide) (by omega)
  refine va_sld hx hb hX hbl hbA hS (z_in (by omega)) dL_law_216 ?_
  refine lv_topi (fun y11 ey11 => ?_)
  have qy11 : y2 = y11 := by rw [ey11, ey2, ex10, ex1]
  subst qy11
  refine lv_aload_n hx hb dL_law_217 rfl (lv_at hl 3 rfl) ?_
  refine lv_iload_n hx hb dL_law_218 rfl (lv_at hl 0 rfl) ?_
  refine lv_iconst (v := 2) hx hb dL_law_219 (by decide) ?_
  refine lv_iadd hx hb dL_law_220 ?_
  refine lv_topi (fun x12 ex12 => ?_)
  have hx12 : x12.toInt = i.toInt + 2 := z_add ex12 rfl (show (2 : Int32).toInt = 2 by decide) (by omega)
  refine va_sld hx hb hX hbl hbA hS (z_in (by omega)) dL_law_221 ?_
  refine lv_topi (fun y13 ey13 => ?_)
  have qy13 : y4 = y13 := by rw [ey13, ey4, ex12, ex3]
  subst qy13
  refine zcR_i (wx := zX k q u6) (wm := zM k q2 zm) (va_runV (As := [.int y2, .int y4]) (rest := []) ⟨hx, hb, hml, hown, htb⟩ (c_X7_type l dC dI k q2 zm y2 y4 _ hM) (cwV 2 htb (gzV wmt4_55 wmt4_56 wmt4_57 wmt1_8 wmt4_58) rfl rfl rfl (by decide +kernel) ⟨Nat.le_of_ble_eq_true rfl, Nat.le_of_ble_eq_true rfl⟩) (zpA_V (ci := 7) (q0 := 0) hK (z_PR hP) (z_DR (hDa u6 zm)) rfl rfl) rfl rfl hl.1 rfl (lv_room (Nat.le_of_ble_eq_true rfl)) dL_law_222 ⟨Nat.le_of_ble_eq_true rfl, Nat.le_of_ble_eq_true rfl⟩) hP (hDa _ _) hS hA (fun r14 u15 H locs w16 hP hS => ?_)
  obtain ⟨o17, o18, o19⟩ := u15
  obtain ⟨f20, f21⟩ := w16
  obtain ⟨z22, ez22⟩ : ∃ x : ZS, x = (sA (sA (sA zm 2 o17) 3 o18) 4 o19) := ⟨_, rfl⟩
  have hP : va_P (dC, dI) vwCl (zX k q u6 ++ zM k q2 z22) H := by rw [ez22]; exact hP
  have hM : MInv z22 := by rw [ez22]; exact f20
  have h3 : T3 (z22.2.2.1 37) := by rw [ez22]; exact h3
  have hp2 : (r14, trM z22) = tType (trM zm) y2 y4 := by rw [ez22]; exact f21
  have hpp : (r5, trX u6) = (r14, trM z22) := by rw [hp2, ← hT]; exact f9
  have hrr : r5 = r14 := (Prod.mk.inj hpp).1
  have hT : trX u6 = trM z22 := (Prod.mk.inj hpp).2
  refine lv_pop hx hb dL_law_225 rfl ?_
  refine lv_goto (tgt := 1517) hx hb dL_law_226 (by decide) ?_
  exact kk _ _ H locs ⟨hI, hM, h3, hT⟩ hP hS
set_option maxHeartbeats 4000000 in
set_option maxRecDepth 100000 in
theorem lw_c1 {p : Program} {l : Launch} {e : Env} {s : State} {m : MethodId} {below : List Frame} {meth : Method} {c : Code} {b L : Nat} {xs : Nat → Int32} {dC : Nat → ClassId} {dI : Nat → Nat → Nat} {k : Nat → ClassId} {q q2 : Nat → Nat} (hL : L ≤ 3072) (C0 : lw_At p s m meth c b L xs) (hK : zK dC dI k (zTX k) s) (hDa : ∀ z1 z2 : ZS, va_D (fun a : Nat => s.heap.size ≤ a) (zX k q z1 ++ zM k q2 z2)) {zx zm : ZS} (hJ : J2 zx zm) {i : Int32} (hi : 0 ≤ i.toInt ∧ i.toInt + 6 ≤ (L : Int)) {H : Heap} {locs : List Loc} (hP : va_P (dC, dI) vwCl (zX k q zx ++ zM k q2 zm) H) (hS : va_S (fun a : Nat => s.heap.size ≤ a) s.heap H locs) {ls : Array Slot} (hl : lv_has ls 4 [(3, .int i), (2, .ref (q2 0)), (1, .ref (q 0)), (0, .ref b)]) (kk : ∀ (z1 z2 : ZS) (H : Heap) (locs : List Loc), J2 z1 z2 → va_P (dC, dI) vwCl (zX k q z1 ++ zM k q2 z2) H → va_S (fun a : Nat => s.heap.size ≤ a) s.heap H locs → W p l e room_1 s m #[Value.ref b] below meth c H locs 1000 10000 (lw_Z below #[Value.ref b] s) (F0 m 1517 ls [])) : W p l e room_1 s m #[Value.ref b] below meth c H locs 1000 10000 (lw_Z below #[Value.ref b] s) (F0 m 229 ls []) := by
  obtain ⟨hI, hM, h3, hT⟩ := hJ
  have hT0 := hT
  obtain ⟨hx, hb, hr, hml, hown, hts0, hX, hbl, hlocks, hgv⟩ := id C0
  have htb : ∀ w ∈ zw, w.before #[Value.ref b] s = true := fun w h => hts0 w (List.mem_filter.mp h).1
  have hA : ∀ q : Nat, s.heap.size ≤ q → (fun a : Nat => s.heap.size ≤ a) q := fun _ h => h
  have hbA : ¬ (fun a : Nat => s.heap.size ≤ a) b := Nat.not_le.mpr hbl
  refine lv_aload_n hx hb dL_law_229 rfl (lv_at hl 2 rfl) ?_
  refine lv_aload_n hx hb dL_law_230 rfl (lv_at hl 3 rfl) ?_
  refine lv_iload_n hx hb dL_law_231 rfl (lv_at hl 0 rfl) ?_
  refine lv_iconst (v := 1) hx hb dL_law_232 (by decide) ?_
  refine lv_iadd hx hb dL_law_233 ?_
  refine lv_topi (fun x1 ex1 => ?_)
  have hx1 : x1.toInt = i.toInt + 1 := z_add ex1 rfl (show (1 : Int32).toInt = 1 by decide) (by omega)
  refine va_sld hx hb hX hbl hbA hS (z_in (by omega)) dL_law_234 ?_
  refine lv_topi (fun y2 ey2 => ?_)
  refine zcL_i (wx := zX k q zx) (wm := zM k q2 zm) (va_runV (As := [.int y2]) (rest := []) ⟨hx, hb, hml, hown, htb⟩ (c_X6_wipe l dC dI k q zx y2 _ hI) (cwV 1 htb (gzV wmt2_28 wmt2_29 wmt2_30 wmt1_1 wmt2_31) rfl rfl rfl (by decide +kernel) ⟨Nat.le_of_ble_eq_true rfl, Nat.le_of_ble_eq_true rfl⟩) (zpA_V (ci := 6) (q0 := 0) hK (z_PL hP) (z_DL (hDa zx zm)) rfl rfl) rfl rfl hl.1 rfl (lv_room (Nat.le_of_ble_eq_true rfl)) dL_law_235 ⟨Nat.le_of_ble_eq_true rfl, Nat.le_of_ble_eq_true rfl⟩) hP (hDa _ _) hS hA (fun r3 u4 H locs w5 hP hS => ?_)
  obtain ⟨f6, f7⟩ := w5
  have hI : XInv u4 := f6
  refine lv_pop hx hb dL_law_238 rfl ?_
  refine lv_aload_n hx hb dL_law_239 rfl (lv_at hl 1 rfl) ?_
  refine lv_aload_n hx hb dL_law_240 rfl (lv_at hl 3 rfl) ?_
  refine lv_iload_n hx hb dL_law_241 rfl (lv_at hl 0 rfl) ?_
  refine lv_iconst (v := 1) hx hb dL_law_242 (by decide) ?_
  refine lv_iadd hx hb dL_law_243 ?_
  refine lv_topi (fun x8 ex8 => ?_)
  have hx8 : x8.toInt = i.toInt + 1 := z_add ex8 rfl (show (1 : Int32).toInt = 1 by decide) (by omega)
  refine va_sld hx hb hX hbl hbA hS (z_in (by omega)) dL_law_244 ?_
  refine lv_topi (fun y9 ey9 => ?_)
  have qy9 : y2 = y9 := by rw [ey9, ey2, ex8, ex1]
  subst qy9
  refine zcR_i (wx := zX k q u4) (wm := zM k q2 zm) (va_runV (As := [.int y2]) (rest := []) ⟨hx, hb, hml, hown, htb⟩ (c_X7_wipe l dC dI k q2 zm y2 _ hM) (cwV 1 htb (gzV wmt4_65 wmt4_66 wmt4_67 wmt1_8 wmt4_68) rfl rfl rfl (by decide +kernel) ⟨Nat.le_of_ble_eq_true rfl, Nat.le_of_ble_eq_true rfl⟩) (zpA_V (ci := 7) (q0 := 0) hK (z_PR hP) (z_DR (hDa u4 zm)) rfl rfl) rfl rfl hl.1 rfl (lv_room (Nat.le_of_ble_eq_true rfl)) dL_law_245 ⟨Nat.le_of_ble_eq_true rfl, Nat.le_of_ble_eq_true rfl⟩) hP (hDa _ _) hS hA (fun r10 u11 H locs w12 hP hS => ?_)
  obtain ⟨o13, o14⟩ := u11
  obtain ⟨f15, f16⟩ := w12
  obtain ⟨z17, ez17⟩ : ∃ x : ZS, x = (sA (sA zm 2 o13) 4 o14) := ⟨_, rfl⟩
  have hP : va_P (dC, dI) vwCl (zX k q u4 ++ zM k q2 z17) H := by rw [ez17]; exact hP
  have hM : MInv z17 := by rw [ez17]; exact f15
  have h3 : T3 (z17.2.2.1 37) := by rw [ez17]; exact h3
  have hp2 : (r10, trM z17) = tWipe (trM zm) y2 := by rw [ez17]; exact f16
  have hpp : (r3, trX u4) = (r10, trM z17) := by rw [hp2, ← hT]; exact f7
  have hrr : r3 = r10 := (Prod.mk.inj hpp).1
  have hT : trX u4 = trM z17 := (Prod.mk.inj hpp).2
  refine lv_pop hx hb dL_law_248 rfl ?_
  refine lv_goto (tgt := 1517) hx hb dL_law_249 (by decide) ?_
  exact kk _ _ H locs ⟨hI, hM, h3, hT⟩ hP hS
set_option maxHeartbeats 4000000 in
set_option maxRecDepth 100000 in
theorem lw_c2 {p : Program} {l : Launch} {e : Env} {s : State} {m : MethodId} {below : List Frame} {meth : Method} {c : Code} {b L : Nat} {xs : Nat → Int32} {dC : Nat → ClassId} {dI : Nat → Nat → Nat} {k : Nat → ClassId} {q q2 : Nat → Nat} (hL : L ≤ 3072) (C0 : lw_At p s m meth c b L xs) (hK : zK dC dI k (zTX k) s) (hDa : ∀ z1 z2 : ZS, va_D (fun a : Nat => s.heap.size ≤ a) (zX k q z1 ++ zM k q2 z2)) {zx zm : ZS} (hJ : J2 zx zm) {i : Int32} (hi : 0 ≤ i.toInt ∧ i.toInt + 6 ≤ (L : Int)) {H : Heap} {locs : List Loc} (hP : va_P (dC, dI) vwCl (zX k q zx ++ zM k q2 zm) H) (hS : va_S (fun a : Nat => s.heap.size ≤ a) s.heap H locs) {ls : Array Slot} (hl : lv_has ls 4 [(3, .int i), (2, .ref (q2 0)), (1, .ref (q 0)), (0, .ref b)]) (kk : ∀ (z1 z2 : ZS) (H : Heap) (locs : List Loc), J2 z1 z2 → va_P (dC, dI) vwCl (zX k q z1 ++ zM k q2 z2) H → va_S (fun a : Nat => s.heap.size ≤ a) s.heap H locs → W p l e room_1 s m #[Value.ref b] below meth c H locs 1000 10000 (lw_Z below #[Value.ref b] s) (F0 m 1517 ls [])) : W p l e room_1 s m #[Value.ref b] below meth c H locs 1000 10000 (lw_Z below #[Value.ref b] s) (F0 m 252 ls []) := by
  obtain ⟨hI, hM, h3, hT⟩ := hJ
  have hT0 := hT
  obtain ⟨hx, hb, hr, hml, hown, hts0, hX, hbl, hlocks, hgv⟩ := id C0
  have htb : ∀ w ∈ zw, w.before #[Value.ref b] s = true := fun w h => hts0 w (List.mem_filter.mp h).1
  have hA : ∀ q : Nat, s.heap.size ≤ q → (fun a : Nat => s.heap.size ≤ a) q := fun _ h => h
  have hbA : ¬ (fun a : Nat => s.heap.size ≤ a) b := Nat.not_le.mpr hbl
  refine lv_aload_n hx hb dL_law_252 rfl (lv_at hl 2 rfl) ?_
  refine lv_aload_n hx hb dL_law_253 rfl (lv_at hl 3 rfl) ?_
  refine lv_iload_n hx hb dL_law_254 rfl (lv_at hl 0 rfl) ?_
  refine lv_iconst (v := 1) hx hb dL_law_255 (by decide) ?_
  refine lv_iadd hx hb dL_law_256 ?_
  refine lv_topi (fun x1 ex1 => ?_)
  have hx1 : x1.toInt = i.toInt + 1 := z_add ex1 rfl (show (1 : Int32).toInt = 1 by decide) (by omega)
  refine va_sld hx hb hX hbl hbA hS (z_in (by omega)) dL_law_257 ?_
  refine lv_topi (fun y2 ey2 => ?_)
  refine zcL_i (wx := zX k q zx) (wm := zM k q2 zm) (va_runV (As := [.int y2]) (rest := []) ⟨hx, hb, hml, hown, htb⟩ (c_X6_fault l dC dI k q zx y2 _ hI) (cwV 1 htb (gzV wmt2_36 wmt2_37 wmt2_38 wmt1_1 wmt2_39) rfl rfl rfl (by decide +kernel) ⟨Nat.le_of_ble_eq_true rfl, Nat.le_of_ble_eq_true rfl⟩) (zpA_V (ci := 6) (q0 := 0) hK (z_PL hP) (z_DL (hDa zx zm)) rfl rfl) rfl rfl hl.1 rfl (lv_room (Nat.le_of_ble_eq_true rfl)) dL_law_258 ⟨Nat.le_of_ble_eq_true rfl, Nat.le_of_ble_eq_true rfl⟩) hP (hDa _ _) hS hA (fun r3 u4 H locs w5 hP hS => ?_)
  have f6 := w5
  refine lv_pop hx hb dL_law_261 rfl ?_
  refine lv_aload_n hx hb dL_law_262 rfl (lv_at hl 1 rfl) ?_
  refine lv_aload_n hx hb dL_law_263 rfl (lv_at hl 3 rfl) ?_
  refine lv_iload_n hx hb dL_law_264 rfl (lv_at hl 0 rfl) ?_
  refine lv_iconst (v := 1) hx hb dL_law_265 (by decide) ?_
  refine lv_iadd hx hb dL_law_266 ?_
  refine lv_topi (fun x7 ex7 => ?_)
  have hx7 : x7.toInt = i.toInt + 1 := z_add ex7 rfl (show (1 : Int32).toInt = 1 by decide) (by omega)
  refine va_sld hx hb hX hbl hbA hS (z_in (by omega)) dL_law_267 ?_
  refine lv_topi (fun y8 ey8 => ?_)
  have qy8 : y2 = y8 := by rw [ey8, ey2, ex7, ex1]
  subst qy8
  refine zcR_i (wx := zX k q zx) (wm := zM k q2 zm) (va_runV (As := [.int y2]) (rest := []) ⟨hx, hb, hml, hown, htb⟩ (c_X7_fault l dC dI k q2 zm y2 _ hM) (cwV 1 htb (gzV wmt4_69 wmt4_70 wmt4_71 wmt1_8 wmt4_72) rfl rfl rfl (by decide +kernel) ⟨Nat.le_of_ble_eq_true rfl, Nat.le_of_ble_eq_true rfl⟩) (zpA_V (ci := 7) (q0 := 0) hK (z_PR hP) (z_DR (hDa zx zm)) rfl rfl) rfl rfl hl.1 rfl (lv_room (Nat.le_of_ble_eq_true rfl)) dL_law_268 ⟨Nat.le_of_ble_eq_true rfl, Nat.le_of_ble_eq_true rfl⟩) hP (hDa _ _) hS hA (fun r9 u10 H locs w11 hP hS => ?_)
  obtain ⟨o12, o13, o14, o15, o16, o17, o18, o19, o20, o21, o22, o23, o24, o25⟩ := u10
  obtain ⟨f26, f27⟩ := w11
  obtain ⟨z28, ez28⟩ : ∃ x : ZS, x = (sA (sA (sA (sI (sI (sI (sI (sA (sA (sA (sA (sA (sA (sA zm 4 o12) 5 o13) 6 o14) 7 o15) 8 o16) 9 o17) 10 o18) 12 o19) 13 o20) 14 o21) 15 o22) 16 o23) 17 o24) 18 o25) := ⟨_, rfl⟩
  have hP : va_P (dC, dI) vwCl (zX k q zx ++ zM k q2 z28) H := by rw [ez28]; exact hP
  have hM : MInv z28 := by rw [ez28]; exact ⟨hM.1, hM.2.1, hM.2.2.1, hM.2.2.2.1, hM.2.2.2.2.1, f26⟩
  have h3 : T3 (z28.2.2.1 37) := by rw [ez28]; exact h3
  have hp2 : r9 = tFault (trM zm) y2 := f27
  have hrr : r3 = r9 := by rw [hp2, ← hT0]; exact f6
  have hT : trX zx = trM z28 := by rw [ez28]; exact hT
  refine lv_pop hx hb dL_law_271 rfl ?_
  refine lv_goto (tgt := 1517) hx hb dL_law_272 (by decide) ?_
  exact kk _ _ H locs ⟨hI, hM, h3, hT⟩ hP hS
set_option maxHeartbeats 4000000 in
set_option maxRecDepth 100000 in
theorem lw_c3 {p : Program} {l : Launch} {e : Env} {s : State} {m : MethodId} {below : List Frame} {meth : Method} {c : Code} {b L : Nat} {xs : Nat → Int32} {dC : Nat → ClassId} {dI : Nat → Nat → Nat} {k : Nat → ClassId} {q q2 : Nat → Nat} (hL : L ≤ 3072) (C0 : lw_At p s m meth c b L xs) (hK : zK dC dI k (zTX k) s) (hDa : ∀ z1 z2 : ZS, va_D (fun a : Nat => s.heap.size ≤ a) (zX k q z1 ++ zM k q2 z2)) {zx zm : ZS} (hJ : J2 zx zm) {i : Int32} (hi : 0 ≤ i.toInt ∧ i.toInt + 6 ≤ (L : Int)) {H : Heap} {locs : List Loc} (hP : va_P (dC, dI) vwCl (zX k q zx ++ zM k q2 zm) H) (hS : va_S (fun a : Nat => s.heap.size ≤ a) s.heap H locs) {ls : Array Slot} (hl : lv_has ls 4 [(3, .int i), (2, .ref (q2 0)), (1, .ref (q 0)), (0, .ref b)]) (kk : ∀ (z1 z2 : ZS) (H : Heap) (locs : List Loc), J2 z1 z2 → va_P (dC, dI) vwCl (zX k q z1 ++ zM k q2 z2) H → va_S (fun a : Nat => s.heap.size ≤ a) s.heap H locs → W p l e room_1 s m #[Value.ref b] below meth c H locs 1000 10000 (lw_Z below #[Value.ref b] s) (F0 m 1517 ls [])) : W p l e room_1 s m #[Value.ref b] below meth c H locs 1000 10000 (lw_Z below #[Value.ref b] s) (F0 m 275 ls []) := by
  obtain ⟨hI, hM, h3, hT⟩ := hJ
  have hT0 := hT
  obtain ⟨hx, hb, hr, hml, hown, hts0, hX, hbl, hlocks, hgv⟩ := id C0
  have htb : ∀ w ∈ zw, w.before #[Value.ref b] s = true := fun w h => hts0 w (List.mem_filter.mp h).1
  have hA : ∀ q : Nat, s.heap.size ≤ q → (fun a : Nat => s.heap.size ≤ a) q := fun _ h => h
  have hbA : ¬ (fun a : Nat => s.heap.size ≤ a) b := Nat.not_le.mpr hbl
  refine lv_aload_n hx hb dL_law_275 rfl (lv_at hl 2 rfl) ?_
  refine lv_aload_n hx hb dL_law_276 rfl (lv_at hl 3 rfl) ?_
  refine lv_iload_n hx hb dL_law_277 rfl (lv_at hl 0 rfl) ?_
  refine lv_iconst (v := 1) hx hb dL_law_278 (by decide) ?_
  refine lv_iadd hx hb dL_law_279 ?_
  refine lv_topi (fun x1 ex1 => ?_)
  have hx1 : x1.toInt = i.toInt + 1 := z_add ex1 rfl (show (1 : Int32).toInt = 1 by decide) (by omega)
  refine va_sld hx hb hX hbl hbA hS (z_in (by omega)) dL_law_280 ?_
  refine lv_topi (fun y2 ey2 => ?_)
  refine zcL_i (wx := zX k q zx) (wm := zM k q2 zm) (va_runV (As := [.int y2]) (rest := []) ⟨hx, hb, hml, hown, htb⟩ (c_X6_other l dC dI k q zx y2 _ hI) (cwV 1 htb (gzV wmt2_40 wmt2_41 wmt2_42 wmt1_1 wmt2_43) rfl rfl rfl (by decide +kernel) ⟨Nat.le_of_ble_eq_true rfl, Nat.le_of_ble_eq_true rfl⟩) (zpA_V (ci := 6) (q0 := 0) hK (z_PL hP) (z_DL (hDa zx zm)) rfl rfl) rfl rfl hl.1 rfl (lv_room (Nat.le_of_ble_eq_true rfl)) dL_law_281 ⟨Nat.le_of_ble_eq_true rfl, Nat.le_of_ble_eq_true rfl⟩) hP (hDa _ _) hS hA (fun r3 u4 H locs w5 hP hS => ?_)
  obtain ⟨f6, f7⟩ := w5
  have hI : XInv u4 := f6
  refine lv_pop hx hb dL_law_284 rfl ?_
  refine lv_aload_n hx hb dL_law_285 rfl (lv_at hl 1 rfl) ?_
  refine lv_aload_n hx hb dL_law_286 rfl (lv_at hl 3 rfl) ?_
  refine lv_iload_n hx hb dL_law_287 rfl (lv_at hl 0 rfl) ?_
  refine lv_iconst (v := 1) hx hb dL_law_288 (by decide) ?_
  refine lv_iadd hx hb dL_law_289 ?_
  refine lv_topi (fun x8 ex8 => ?_)
  have hx8 : x8.toInt = i.toInt + 1 := z_add ex8 rfl (show (1 : Int32).toInt = 1 by decide) (by omega)
  refine va_sld hx hb hX hbl hbA hS (z_in (by omega)) dL_law_290 ?_
  refine lv_topi (fun y9 ey9 => ?_)
  have qy9 : y2 = y9 := by rw [ey9, ey2, ex8, ex1]
  subst qy9
  refine zcR_i (wx := zX k q u4) (wm := zM k q2 zm) (va_runV (As := [.int y2]) (rest := []) ⟨hx, hb, hml, hown, htb⟩ (c_X7_other l dC dI k q2 zm y2 _ hM) (cwV 1 htb (gzV wmt4_104 wmt4_105 wmt4_106 wmt1_8 wmt4_107) rfl rfl rfl (by decide +kernel) ⟨Nat.le_of_ble_eq_true rfl, Nat.le_of_ble_eq_true rfl⟩) (zpA_V (ci := 7) (q0 := 0) hK (z_PR hP) (z_DR (hDa u4 zm)) rfl rfl) rfl rfl hl.1 rfl (lv_room (Nat.le_of_ble_eq_true rfl)) dL_law_291 ⟨Nat.le_of_ble_eq_true rfl, Nat.le_of_ble_eq_true rfl⟩) hP (hDa _ _) hS hA (fun r10 u11 H locs w12 hP hS => ?_)
  obtain ⟨o13, rfl⟩ : ∃ y, y = u11 := ⟨_, rfl⟩
  obtain ⟨f14, f15⟩ := w12
  obtain ⟨z16, ez16⟩ : ∃ x : ZS, x = (sI zm 11 o13) := ⟨_, rfl⟩
  have hP : va_P (dC, dI) vwCl (zX k q u4 ++ zM k q2 z16) H := by rw [ez16]; exact hP
  have hM : MInv z16 := by rw [ez16]; exact f14
  have h3 : T3 (z16.2.2.1 37) := by rw [ez16]; exact h3
  have hp2 : (r10, trM z16) = tOther (trM zm) y2 := by rw [ez16]; exact f15
  have hpp : (r3, trX u4) = (r10, trM z16) := by rw [hp2, ← hT]; exact f7
  have hrr : r3 = r10 := (Prod.mk.inj hpp).1
  have hT : trX u4 = trM z16 := (Prod.mk.inj hpp).2
  refine lv_pop hx hb dL_law_294 rfl ?_
  refine lv_goto (tgt := 1517) hx hb dL_law_295 (by decide) ?_
  exact kk _ _ H locs ⟨hI, hM, h3, hT⟩ hP hS
set_option maxHeartbeats 4000000 in
set_option maxRecDepth 100000 in
theorem lw_c4 {p : Program} {l : Launch} {e : Env} {s : State} {m : MethodId} {below : List Frame} {meth : Method} {c : Code} {b L : Nat} {xs : Nat → Int32} {dC : Nat → ClassId} {dI : Nat → Nat → Nat} {k : Nat → ClassId} {q q2 : Nat → Nat} (hL : L ≤ 3072) (C0 : lw_At p s m meth c b L xs) (hK : zK dC dI k (zTX k) s) (hDa : ∀ z1 z2 : ZS, va_D (fun a : Nat => s.heap.size ≤ a) (zX k q z1 ++ zM k q2 z2)) {zx zm : ZS} (hJ : J2 zx zm) {i : Int32} (hi : 0 ≤ i.toInt ∧ i.toInt + 6 ≤ (L : Int)) {H : Heap} {locs : List Loc} (hP : va_P (dC, dI) vwCl (zX k q zx ++ zM k q2 zm) H) (hS : va_S (fun a : Nat => s.heap.size ≤ a) s.heap H locs) {ls : Array Slot} (hl : lv_has ls 4 [(3, .int i), (2, .ref (q2 0)), (1, .ref (q 0)), (0, .ref b)]) (kk : ∀ (z1 z2 : ZS) (H : Heap) (locs : List Loc), J2 z1 z2 → va_P (dC, dI) vwCl (zX k q z1 ++ zM k q2 z2) H → va_S (fun a : Nat => s.heap.size ≤ a) s.heap H locs → W p l e room_1 s m #[Value.ref b] below meth c H locs 1000 10000 (lw_Z below #[Value.ref b] s) (F0 m 1517 ls [])) : W p l e room_1 s m #[Value.ref b] below meth c H locs 1000 10000 (lw_Z below #[Value.ref b] s) (F0 m 298 ls []) := by
  obtain ⟨hI, hM, h3, hT⟩ := hJ
  have hT0 := hT
  obtain ⟨hx, hb, hr, hml, hown, hts0, hX, hbl, hlocks, hgv⟩ := id C0
  have htb : ∀ w ∈ zw, w.before #[Value.ref b] s = true := fun w h => hts0 w (List.mem_filter.mp h).1
  have hA : ∀ q : Nat, s.heap.size ≤ q → (fun a : Nat => s.heap.size ≤ a) q := fun _ h => h
  have hbA : ¬ (fun a : Nat => s.heap.size ≤ a) b := Nat.not_le.mpr hbl
  refine lv_aload_n hx hb dL_law_298 rfl (lv_at hl 2 rfl) ?_
  refine lv_aload_n hx hb dL_law_299 rfl (lv_at hl 3 rfl) ?_
  refine lv_iload_n hx hb dL_law_300 rfl (lv_at hl 0 rfl) ?_
  refine lv_iconst (v := 1) hx hb dL_law_301 (by decide) ?_
  refine lv_iadd hx hb dL_law_302 ?_
  refine lv_topi (fun x1 ex1 => ?_)
  have hx1 : x1.toInt = i.toInt + 1 := z_add ex1 rfl (show (1 : Int32).toInt = 1 by decide) (by omega)
  refine va_sld hx hb hX hbl hbA hS (z_in (by omega)) dL_law_303 ?_
  refine lv_topi (fun y2 ey2 => ?_)
  refine lv_aload_n hx hb dL_law_304 rfl (lv_at hl 3 rfl) ?_
  refine lv_iload_n hx hb dL_law_305 rfl (lv_at hl 0 rfl) ?_
  refine lv_iconst (v := 2) hx hb dL_law_306 (by decide) ?_
  refine lv_iadd hx hb dL_law_307 ?_
  refine lv_topi (fun x3 ex3 => ?_)
  have hx3 : x3.toInt = i.toInt + 2 := z_add ex3 rfl (show (2 : Int32).toInt = 2 by decide) (by omega)
  refine va_sld hx hb hX hbl hbA hS (z_in (by omega)) dL_law_308 ?_
  refine lv_topi (fun y4 ey4 => ?_)
  refine lv_aload_n hx hb dL_law_309 rfl (lv_at hl 3 rfl) ?_
  refine lv_iload_n hx hb dL_law_310 rfl (lv_at hl 0 rfl) ?_
  refine lv_iconst (v := 3) hx hb dL_law_311 (by decide) ?_
  refine lv_iadd hx hb dL_law_312 ?_
  refine lv_topi (fun x5 ex5 => ?_)
  have hx5 : x5.toInt = i.toInt + 3 := z_add ex5 rfl (show (3 : Int32).toInt = 3 by decide) (by omega)
  refine va_sld hx hb hX hbl hbA hS (z_in (by omega)) dL_law_313 ?_
  refine lv_topi (fun y6 ey6 => ?_)
  refine zcL_l (wx := zX k q zx) (wm := zM k q2 zm) (va_runV (As := [.int y2, .int y4, .int y6]) (rest := []) ⟨hx, hb, hml, hown, htb⟩ (c_X6_saysYes_v l dC dI k q zx y2 y4 y6 _ hI (by rw [hT]; exact LB_M hM)) (cwV 3 htb (gzV wmt2_44 wmt2_45 wmt2_46 wmt1_1 wmt2_47) rfl rfl rfl (by decide +kernel) ⟨Nat.le_of_ble_eq_true rfl, Nat.le_of_ble_eq_true rfl⟩) (zpA_V (ci := 6) (q0 := 0) hK (z_PL hP) (z_DL (hDa zx zm)) rfl rfl) rfl rfl hl.1 rfl (lv_room (Nat.le_of_ble_eq_true rfl)) dL_law_314 ⟨Nat.le_of_ble_eq_true rfl, Nat.le_of_ble_eq_true rfl⟩) hP (hDa _ _) hS hA (fun r7 u8 H locs w9 hP hS => ?_)
  obtain ⟨f10, f11, f12⟩ := w9
  have hI : XInv u8 := f10
  have hT : trX u8 = trM zm := f11.trans hT
  refine lv_pop2_2 hx hb dL_law_317 rfl ?_
  refine lv_aload_n hx hb dL_law_318 rfl (lv_at hl 1 rfl) ?_
  refine lv_aload_n hx hb dL_law_319 rfl (lv_at hl 3 rfl) ?_
  refine lv_iload_n hx hb dL_law_320 rfl (lv_at hl 0 rfl) ?_
  refine lv_iconst (v := 1) hx hb dL_law_321 (by decide) ?_
  refine lv_iadd hx hb dL_law_322 ?_
  refine lv_topi (fun x13 ex13 => ?_)
  have hx13 : x13.toInt = i.toInt + 1 := z_add ex13 rfl (show (1 : Int32).toInt = 1 by decide) (by omega)
  refine va_sld hx hb hX hbl hbA hS (z_in (by omega)) dL_law_323 ?_
  refine lv_topi (fun y14 ey14 => ?_)
  have qy14 : y2 = y14 := by rw [ey14, ey2, ex13, ex1]
  subst qy14
  refine lv_aload_n hx hb dL_law_324 rfl (lv_at hl 3 rfl) ?_
  refine lv_iload_n hx hb dL_law_325 rfl (lv_at hl 0 rfl) ?_
  refine lv_iconst (v := 2) hx hb dL_law_326 (by decide) ?_
  refine lv_iadd hx hb dL_law_327 ?_
  refine lv_topi (fun x15 ex15 => ?_)
  have hx15 : x15.toInt = i.toInt + 2 := z_add ex15 rfl (show (2 : Int32).toInt = 2 by decide) (by omega)
  refine va_sld hx hb hX hbl hbA hS (z_in (by omega)) dL_law_328 ?_
  refine lv_topi (fun y16 ey16 => ?_)
  have qy16 : y4 = y16 := by rw [ey16, ey4, ex15, ex3]
  subst qy16
  refine lv_aload_n hx hb dL_law_329 rfl (lv_at hl 3 rfl) ?_
  refine lv_iload_n hx hb dL_law_330 rfl (lv_at hl 0 rfl) ?_
  refine lv_iconst (v := 3) hx hb dL_law_331 (by decide) ?_
  refine lv_iadd hx hb dL_law_332 ?_
  refine lv_topi (fun x17 ex17 => ?_)
  have hx17 : x17.toInt = i.toInt + 3 := z_add ex17 rfl (show (3 : Int32).toInt = 3 by decide) (by omega)
  refine va_sld hx hb hX hbl hbA hS (z_in (by omega)) dL_law_333 ?_
  refine lv_topi (fun y18 ey18 => ?_)
  have qy18 : y6 = y18 := by rw [ey18, ey6, ex17, ex5]
  subst qy18
  refine zcR_l (wx := zX k q u8) (wm := zM k q2 zm) (va_runV (As := [.int y2, .int y4, .int y6]) (rest := []) ⟨hx, hb, hml, hown, htb⟩ (c_X7_saysYes l dC dI k q2 zm y2 y4 y6 _ hM) (cwV 3 htb (gzV wmt4_108 wmt4_109 wmt4_110 wmt1_8 wmt4_111) rfl rfl rfl (by decide +kernel) ⟨Nat.le_of_ble_eq_true rfl, Nat.le_of_ble_eq_true rfl⟩) (zpA_V (ci := 7) (q0 := 0) hK (z_PR hP) (z_DR (hDa u8 zm)) rfl rfl) rfl rfl hl.1 rfl (lv_room (Nat.le_of_ble_eq_true rfl)) dL_law_334 ⟨Nat.le_of_ble_eq_true rfl, Nat.le_of_ble_eq_true rfl⟩) hP (hDa _ _) hS hA (fun r19 u20 H locs w21 hP hS => ?_)
  obtain ⟨o22, o23, o24, o25, o26, o27, o28, o29, o30, o31, o32, o33, o34, o35, o36, o37⟩ := u20
  obtain ⟨f38, f39⟩ := w21
  obtain ⟨z40, ez40⟩ : ∃ x : ZS, x = (sJ (sJ (sA (sA (sA (sI (sI (sI (sI (sA (sA (sA (sA (sA (sA (sA zm 4 o22) 5 o23) 6 o24) 7 o25) 8 o26) 9 o27) 10 o28) 12 o29) 13 o30) 14 o31) 15 o32) 16 o33) 17 o34) 18 o35) 0 o36) 1 o37) := ⟨_, rfl⟩
  have hP : va_P (dC, dI) vwCl (zX k q u8 ++ zM k q2 z40) H := by rw [ez40]; exact hP
  have hM : MInv z40 := by rw [ez40]; exact ⟨hM.1, hM.2.1, hM.2.2.1, hM.2.2.2.1, hM.2.2.2.2.1, f38⟩
  have h3 : T3 (z40.2.2.1 37) := by rw [ez40]; exact h3
  have hp2 : r19.toInt = tSays (trM zm) y2 y4 y6 := f39
  have hrr : r7 = r19 := Int64.toInt_inj.mp (by rw [hp2, ← hT0]; exact f12)
  have hT : trX u8 = trM z40 := by rw [ez40]; exact hT
  refine lv_pop2_2 hx hb dL_law_337 rfl ?_
  refine lv_goto (tgt := 1517) hx hb dL_law_338 (by decide) ?_
  exact kk _ _ H locs ⟨hI, hM, h3, hT⟩ hP hS
set_option maxHeartbeats 4000000 in
set_option maxRecDepth 100000 in
theorem lw_c5 {p : Program} {l : Launch} {e : Env} {s : State} {m : MethodId} {below : List Frame} {meth : Method} {c : Code} {b L : Nat} {xs : Nat → Int32} {dC : Nat → ClassId} {dI : Nat → Nat → Nat} {k : Nat → ClassId} {q q2 : Nat → Nat} (hL : L ≤ 3072) (C0 : lw_At p s m meth c b L xs) (hK : zK dC dI k (zTX k) s) (hDa : ∀ z1 z2 : ZS, va_D (fun a : Nat => s.heap.size ≤ a) (zX k q z1 ++ zM k q2 z2)) {zx zm : ZS} (hJ : J2 zx zm) {i : Int32} (hi : 0 ≤ i.toInt ∧ i.toInt + 6 ≤ (L : Int)) {H : Heap} {locs : List Loc} (hP : va_P (dC, dI) vwCl (zX k q zx ++ zM k q2 zm) H) (hS : va_S (fun a : Nat => s.heap.size ≤ a) s.heap H locs) {ls : Array Slot} (hl : lv_has ls 4 [(3, .int i), (2, .ref (q2 0)), (1, .ref (q 0)), (0, .ref b)]) (kk : ∀ (z1 z2 : ZS) (H : Heap) (locs : List Loc), J2 z1 z2 → va_P (dC, dI) vwCl (zX k q z1 ++ zM k q2 z2) H → va_S (fun a : Nat => s.heap.size ≤ a) s.heap H locs → W p l e room_1 s m #[Value.ref b] below meth c H locs 1000 10000 (lw_Z below #[Value.ref b] s) (F0 m 1517 ls [])) : W p l e room_1 s m #[Value.ref b] below meth c H locs 1000 10000 (lw_Z below #[Value.ref b] s) (F0 m 341 ls []) := by
  obtain ⟨hI, hM, h3, hT⟩ := hJ
  have hT0 := hT
  obtain ⟨hx, hb, hr, hml, hown, hts0, hX, hbl, hlocks, hgv⟩ := id C0
  have htb : ∀ w ∈ zw, w.before #[Value.ref b] s = true := fun w h => hts0 w (List.mem_filter.mp h).1
  have hA : ∀ q : Nat, s.heap.size ≤ q → (fun a : Nat => s.heap.size ≤ a) q := fun _ h => h
  have hbA : ¬ (fun a : Nat => s.heap.size ≤ a) b := Nat.not_le.mpr hbl
  refine lv_aload_n hx hb dL_law_341 rfl (lv_at hl 2 rfl) ?_
  refine lv_aload_n hx hb dL_law_342 rfl (lv_at hl 3 rfl) ?_
  refine lv_iload_n hx hb dL_law_343 rfl (lv_at hl 0 rfl) ?_
  refine lv_iconst (v := 1) hx hb dL_law_344 (by decide) ?_
  refine lv_iadd hx hb dL_law_345 ?_
  refine lv_topi (fun x1 ex1 => ?_)
  have hx1 : x1.toInt = i.toInt + 1 := z_add ex1 rfl (show (1 : Int32).toInt = 1 by decide) (by omega)
  refine va_sld hx hb hX hbl hbA hS (z_in (by omega)) dL_law_346 ?_
  refine lv_topi (fun y2 ey2 => ?_)
  refine zcL_i (wx := zX k q zx) (wm := zM k q2 zm) (va_runV (As := [.int y2]) (rest := []) ⟨hx, hb, hml, hown, htb⟩ (c_X6_unit l dC dI k q zx y2 _ hI) (cwV 1 htb (gzV wmt2_65 wmt2_66 wmt2_67 wmt1_1 wmt2_68) rfl rfl rfl (by decide +kernel) ⟨Nat.le_of_ble_eq_true rfl, Nat.le_of_ble_eq_true rfl⟩) (zpA_V (ci := 6) (q0 := 0) hK (z_PL hP) (z_DL (hDa zx zm)) rfl rfl) rfl rfl hl.1 rfl (lv_room (Nat.le_of_ble_eq_true rfl)) dL_law_347 ⟨Nat.le_of_ble_eq_true rfl, Nat.le_of_ble_eq_true rfl⟩) hP (hDa _ _) hS hA (fun r3 u4 H locs w5 hP hS => ?_)
  have f6 := w5
  refine lv_pop hx hb dL_law_350 rfl ?_
  refine lv_aload_n hx hb dL_law_351 rfl (lv_at hl 1 rfl) ?_
  refine lv_aload_n hx hb dL_law_352 rfl (lv_at hl 3 rfl) ?_
  refine lv_iload_n hx hb dL_law_353 rfl (lv_at hl 0 rfl) ?_
  refine lv_iconst (v := 1) hx hb dL_law_354 (by decide) ?_
  refine lv_iadd hx hb dL_law_355 ?_
  refine lv_topi (fun x7 ex7 => ?_)
  have hx7 : x7.toInt = i.toInt + 1 := z_add ex7 rfl (show (1 : Int32).toInt = 1 by decide) (by omega)
  refine va_sld hx hb hX hbl hbA hS (z_in (by omega)) dL_law_356 ?_
  refine lv_topi (fun y8 ey8 => ?_)
  have qy8 : y2 = y8 := by rw [ey8, ey2, ex7, ex1]
  subst qy8
  refine zcR_i (wx := zX k q zx) (wm := zM k q2 zm) (va_runV (As := [.int y2]) (rest := []) ⟨hx, hb, hml, hown, htb⟩ (c_X7_unit l dC dI k q2 zm y2 _ hM) (cwV 1 htb (gzV wmt4_137 wmt4_138 wmt4_139 wmt1_8 wmt4_140) rfl rfl rfl (by decide +kernel) ⟨Nat.le_of_ble_eq_true rfl, Nat.le_of_ble_eq_true rfl⟩) (zpA_V (ci := 7) (q0 := 0) hK (z_PR hP) (z_DR (hDa zx zm)) rfl rfl) rfl rfl hl.1 rfl (lv_room (Nat.le_of_ble_eq_true rfl)) dL_law_357 ⟨Nat.le_of_ble_eq_true rfl, Nat.le_of_ble_eq_true rfl⟩) hP (hDa _ _) hS hA (fun r9 u10 H locs w11 hP hS => ?_)
  obtain ⟨o12, o13, o14, o15, o16, o17, o18, o19, o20, o21, o22, o23, o24, o25, o26, o27⟩ := u10
  obtain ⟨f28, f29⟩ := w11
  obtain ⟨z30, ez30⟩ : ∃ x : ZS, x = (sJ (sJ (sA (sA (sA (sI (sI (sI (sI (sA (sA (sA (sA (sA (sA (sA zm 4 o12) 5 o13) 6 o14) 7 o15) 8 o16) 9 o17) 10 o18) 12 o19) 13 o20) 14 o21) 15 o22) 16 o23) 17 o24) 18 o25) 0 o26) 1 o27) := ⟨_, rfl⟩
  have hP : va_P (dC, dI) vwCl (zX k q zx ++ zM k q2 z30) H := by rw [ez30]; exact hP
  have hM : MInv z30 := by rw [ez30]; exact ⟨hM.1, hM.2.1, hM.2.2.1, hM.2.2.2.1, hM.2.2.2.2.1, f28⟩
  have h3 : T3 (z30.2.2.1 37) := by rw [ez30]; exact h3
  have hp2 : r9.toInt = tUnit (trM zm) y2 := f29
  have hrr : r3 = r9 := Int32.toInt_inj.mp (by rw [hp2, ← hT0]; exact f6)
  have hT : trX zx = trM z30 := by rw [ez30]; exact hT
  refine lv_pop hx hb dL_law_360 rfl ?_
  refine lv_goto (tgt := 1517) hx hb dL_law_361 (by decide) ?_
  exact kk _ _ H locs ⟨hI, hM, h3, hT⟩ hP hS
set_option maxHeartbeats 4000000 in
set_option maxRecDepth 100000 in
theorem lw_c6 {p : Program} {l : Launch} {e : Env} {s : State} {m : MethodId} {below : List Frame} {meth : Method} {c : Code} {b L : Nat} {xs : Nat → Int32} {dC : Nat → ClassId} {dI : Nat → Nat → Nat} {k : Nat → ClassId} {q q2 : Nat → Nat} (hL : L ≤ 3072) (C0 : lw_At p s m meth c b L xs) (hK : zK dC dI k (zTX k) s) (hDa : ∀ z1 z2 : ZS, va_D (fun a : Nat => s.heap.size ≤ a) (zX k q z1 ++ zM k q2 z2)) {zx zm : ZS} (hJ : J2 zx zm) {i : Int32} (hi : 0 ≤ i.toInt ∧ i.toInt + 6 ≤ (L : Int)) {H : Heap} {locs : List Loc} (hP : va_P (dC, dI) vwCl (zX k q zx ++ zM k q2 zm) H) (hS : va_S (fun a : Nat => s.heap.size ≤ a) s.heap H locs) {ls : Array Slot} (hl : lv_has ls 4 [(3, .int i), (2, .ref (q2 0)), (1, .ref (q 0)), (0, .ref b)]) (kk : ∀ (z1 z2 : ZS) (H : Heap) (locs : List Loc), J2 z1 z2 → va_P (dC, dI) vwCl (zX k q z1 ++ zM k q2 z2) H → va_S (fun a : Nat => s.heap.size ≤ a) s.heap H locs → W p l e room_1 s m #[Value.ref b] below meth c H locs 1000 10000 (lw_Z below #[Value.ref b] s) (F0 m 1517 ls [])) : W p l e room_1 s m #[Value.ref b] below meth c H locs 1000 10000 (lw_Z below #[Value.ref b] s) (F0 m 364 ls []) := by
  obtain ⟨hI, hM, h3, hT⟩ := hJ
  have hT0 := hT
  obtain ⟨hx, hb, hr, hml, hown, hts0, hX, hbl, hlocks, hgv⟩ := id C0
  have htb : ∀ w ∈ zw, w.before #[Value.ref b] s = true := fun w h => hts0 w (List.mem_filter.mp h).1
  have hA : ∀ q : Nat, s.heap.size ≤ q → (fun a : Nat => s.heap.size ≤ a) q := fun _ h => h
  have hbA : ¬ (fun a : Nat => s.heap.size ≤ a) b := Nat.not_le.mpr hbl
  refine lv_aload_n hx hb dL_law_364 rfl (lv_at hl 2 rfl) ?_
  refine lv_aload_n hx hb dL_law_365 rfl (lv_at hl 3 rfl) ?_
  refine lv_iload_n hx hb dL_law_366 rfl (lv_at hl 0 rfl) ?_
  refine lv_iconst (v := 1) hx hb dL_law_367 (by decide) ?_
  refine lv_iadd hx hb dL_law_368 ?_
  refine lv_topi (fun x1 ex1 => ?_)
  have hx1 : x1.toInt = i.toInt + 1 := z_add ex1 rfl (show (1 : Int32).toInt = 1 by decide) (by omega)
  refine va_sld hx hb hX hbl hbA hS (z_in (by omega)) dL_law_369 ?_
  refine lv_topi (fun y2 ey2 => ?_)
  refine zcL_i (wx := zX k q zx) (wm := zM k q2 zm) (va_runV (As := [.int y2]) (rest := []) ⟨hx, hb, hml, hown, htb⟩ (c_X6_pass l dC dI k q zx y2 _ hI) (cwV 1 htb (gzV wmt2_69 wmt2_70 wmt2_71 wmt1_1 wmt2_72) rfl rfl rfl (by decide +kernel) ⟨Nat.le_of_ble_eq_true rfl, Nat.le_of_ble_eq_true rfl⟩) (zpA_V (ci := 6) (q0 := 0) hK (z_PL hP) (z_DL (hDa zx zm)) rfl rfl) rfl rfl hl.1 rfl (lv_room (Nat.le_of_ble_eq_true rfl)) dL_law_370 ⟨Nat.le_of_ble_eq_true rfl, Nat.le_of_ble_eq_true rfl⟩) hP (hDa _ _) hS hA (fun r3 u4 H locs w5 hP hS => ?_)
  obtain ⟨f6, f7⟩ := w5
  have hI : XInv u4 := f6
  refine lv_pop hx hb dL_law_373 rfl ?_
  refine lv_aload_n hx hb dL_law_374 rfl (lv_at hl 1 rfl) ?_
  refine lv_aload_n hx hb dL_law_375 rfl (lv_at hl 3 rfl) ?_
  refine lv_iload_n hx hb dL_law_376 rfl (lv_at hl 0 rfl) ?_
  refine lv_iconst (v := 1) hx hb dL_law_377 (by decide) ?_
  refine lv_iadd hx hb dL_law_378 ?_
  refine lv_topi (fun x8 ex8 => ?_)
  have hx8 : x8.toInt = i.toInt + 1 := z_add ex8 rfl (show (1 : Int32).toInt = 1 by decide) (by omega)
  refine va_sld hx hb hX hbl hbA hS (z_in (by omega)) dL_law_379 ?_
  refine lv_topi (fun y9 ey9 => ?_)
  have qy9 : y2 = y9 := by rw [ey9, ey2, ex8, ex1]
  subst qy9
  refine zcR_i (wx := zX k q u4) (wm := zM k q2 zm) (va_runV (As := [.int y2]) (rest := []) ⟨hx, hb, hml, hown, htb⟩ (c_X7_pass l dC dI k q2 zm y2 _ hM) (cwV 1 htb (gzV wmt4_145 wmt4_146 wmt4_147 wmt1_8 wmt4_148) rfl rfl rfl (by decide +kernel) ⟨Nat.le_of_ble_eq_true rfl, Nat.le_of_ble_eq_true rfl⟩) (zpA_V (ci := 7) (q0 := 0) hK (z_PR hP) (z_DR (hDa u4 zm)) rfl rfl) rfl rfl hl.1 rfl (lv_room (Nat.le_of_ble_eq_true rfl)) dL_law_380 ⟨Nat.le_of_ble_eq_true rfl, Nat.le_of_ble_eq_true rfl⟩) hP (hDa _ _) hS hA (fun r10 u11 H locs w12 hP hS => ?_)
  obtain ⟨o13, rfl⟩ : ∃ y, y = u11 := ⟨_, rfl⟩
  obtain ⟨f14, f15⟩ := w12
  obtain ⟨z16, ez16⟩ : ∃ x : ZS, x = (sI zm 19 o13) := ⟨_, rfl⟩
  have hP : va_P (dC, dI) vwCl (zX k q u4 ++ zM k q2 z16) H := by rw [ez16]; exact hP
  have hM : MInv z16 := by rw [ez16]; exact f14
  have h3 : T3 (z16.2.2.1 37) := by rw [ez16]; exact h3
  have hp2 : (r10, trM z16) = tPass (trM zm) y2 := by rw [ez16]; exact f15
  have hpp : (r3, trX u4) = (r10, trM z16) := by rw [hp2, ← hT]; exact f7
  have hrr : r3 = r10 := (Prod.mk.inj hpp).1
  have hT : trX u4 = trM z16 := (Prod.mk.inj hpp).2
  refine lv_pop hx hb dL_law_383 rfl ?_
  refine lv_goto (tgt := 1517) hx hb dL_law_384 (by decide) ?_
  exact kk _ _ H locs ⟨hI, hM, h3, hT⟩ hP hS
set_option maxHeartbeats 4000000 in
set_option maxRecDepth 100000 in
theorem lw_c7 {p : Program} {l : Launch} {e : Env} {s : State} {m : MethodId} {below : List Frame} {meth : Method} {c : Code} {b L : Nat} {xs : Nat → Int32} {dC : Nat → ClassId} {dI : Nat → Nat → Nat} {k : Nat → ClassId} {q q2 : Nat → Nat} (hL : L ≤ 3072) (C0 : lw_At p s m meth c b L xs) (hK : zK dC dI k (zTX k) s) (hDa : ∀ z1 z2 : ZS, va_D (fun a : Nat => s.heap.size ≤ a) (zX k q z1 ++ zM k q2 z2)) {zx zm : ZS} (hJ : J2 zx zm) {i : Int32} (hi : 0 ≤ i.toInt ∧ i.toInt + 6 ≤ (L : Int)) {H : Heap} {locs : List Loc} (hP : va_P (dC, dI) vwCl (zX k q zx ++ zM k q2 zm) H) (hS : va_S (fun a : Nat => s.heap.size ≤ a) s.heap H locs) {ls : Array Slot} (hl : lv_has ls 4 [(3, .int i), (2, .ref (q2 0)), (1, .ref (q 0)), (0, .ref b)]) (kk : ∀ (z1 z2 : ZS) (H : Heap) (locs : List Loc), J2 z1 z2 → va_P (dC, dI) vwCl (zX k q z1 ++ zM k q2 z2) H → va_S (fun a : Nat => s.heap.size ≤ a) s.heap H locs → W p l e room_1 s m #[Value.ref b] below meth c H locs 1000 10000 (lw_Z below #[Value.ref b] s) (F0 m 1517 ls [])) : W p l e room_1 s m #[Value.ref b] below meth c H locs 1000 10000 (lw_Z below #[Value.ref b] s) (F0 m 387 ls []) := by
  obtain ⟨hI, hM, h3, hT⟩ := hJ
  have hT0 := hT
  obtain ⟨hx, hb, hr, hml, hown, hts0, hX, hbl, hlocks, hgv⟩ := id C0
  have htb : ∀ w ∈ zw, w.before #[Value.ref b] s = true := fun w h => hts0 w (List.mem_filter.mp h).1
  have hA : ∀ q : Nat, s.heap.size ≤ q → (fun a : Nat => s.heap.size ≤ a) q := fun _ h => h
  have hbA : ¬ (fun a : Nat => s.heap.size ≤ a) b := Nat.not_le.mpr hbl
  refine lv_aload_n hx hb dL_law_387 rfl (lv_at hl 2 rfl) ?_
  refine lv_aload_n hx hb dL_law_388 rfl (lv_at hl 3 rfl) ?_
  refine lv_iload_n hx hb dL_law_389 rfl (lv_at hl 0 rfl) ?_
  refine lv_iconst (v := 1) hx hb dL_law_390 (by decide) ?_
  refine lv_iadd hx hb dL_law_391 ?_
  refine lv_topi (fun x1 ex1 => ?_)
  have hx1 : x1.toInt = i.toInt + 1 := z_add ex1 rfl (show (1 : Int32).toInt = 1 by decide) (by omega)
  refine va_sld hx hb hX hbl hbA hS (z_in (by omega)) dL_law_392 ?_
  refine lv_topi (fun y2 ey2 => ?_)
  refine lv_aload_n hx hb dL_law_393 rfl (lv_at hl 3 rfl) ?_
  refine lv_iload_n hx hb dL_law_394 rfl (lv_at hl 0 rfl) ?_
  refine lv_iconst (v := 2) hx hb dL_law_395 (by decide) ?_
  refine lv_iadd hx hb dL_law_396 ?_
  refine lv_topi (fun x3 ex3 => ?_)
  have hx3 : x3.toInt = i.toInt + 2 := z_add ex3 rfl (show (2 : Int32).toInt = 2 by decide) (by omega)
  refine va_sld hx hb hX hbl hbA hS (z_in (by omega)) dL_law_397 ?_
  refine lv_topi (fun y4 ey4 => ?_)
  refine zcL_i (wx := zX k q zx) (wm := zM k q2 zm) (va_runV (As := [.int y2, .int y4]) (rest := []) ⟨hx, hb, hml, hown, htb⟩ (c_X6_group l dC dI k q zx y2 y4 _ hI) (cwV 2 htb (gzV wmt2_73 wmt2_74 wmt2_75 wmt1_1 wmt2_76) rfl rfl rfl (by decide +kernel) ⟨Nat.le_of_ble_eq_true rfl, Nat.le_of_ble_eq_true rfl⟩) (zpA_V (ci := 6) (q0 := 0) hK (z_PL hP) (z_DL (hDa zx zm)) rfl rfl) rfl rfl hl.1 rfl (lv_room (Nat.le_of_ble_eq_true rfl)) dL_law_398 ⟨Nat.le_of_ble_eq_true rfl, Nat.le_of_ble_eq_true rfl⟩) hP (hDa _ _) hS hA (fun r5 u6 H locs w7 hP hS => ?_)
  obtain ⟨f8, f9⟩ := w7
  have hI : XInv u6 := f8
  refine lv_pop hx hb dL_law_401 rfl ?_
  refine lv_aload_n hx hb dL_law_402 rfl (lv_at hl 1 rfl) ?_
  refine lv_aload_n hx hb dL_law_403 rfl (lv_at hl 3 rfl) ?_
  refine lv_iload_n hx hb dL_law_404 rfl (lv_at hl 0 rfl) ?_
  refine lv_iconst (v := 1) hx hb dL_law_405 (by decide) ?_
  refine lv_iadd hx hb dL_law_406 ?_
  refine lv_topi (fun x10 ex10 => ?_)
  have hx10 : x10.toInt = i.toInt + 1 := z_add ex10 rfl (show (1 : Int32).toInt = 1 by decide) (by omega)
  refine va_sld hx hb hX hbl hbA hS (z_in (by omega)) dL_law_407 ?_
  refine lv_topi (fun y11 ey11 => ?_)
  have qy11 : y2 = y11 := by rw [ey11, ey2, ex10, ex1]
  subst qy11
  refine lv_aload_n hx hb dL_law_408 rfl (lv_at hl 3 rfl) ?_
  refine lv_iload_n hx hb dL_law_409 rfl (lv_at hl 0 rfl) ?_
  refine lv_iconst (v := 2) hx hb dL_law_410 (by decide) ?_
  refine lv_iadd hx hb dL_law_411 ?_
  refine lv_topi (fun x12 ex12 => ?_)
  have hx12 : x12.toInt = i.toInt + 2 := z_add ex12 rfl (show (2 : Int32).toInt = 2 by decide) (by omega)
  refine va_sld hx hb hX hbl hbA hS (z_in (by omega)) dL_law_412 ?_
  refine lv_topi (fun y13 ey13 => ?_)
  have qy13 : y4 = y13 := by rw [ey13, ey4, ex12, ex3]
  subst qy13
  refine zcR_i (wx := zX k q u6) (wm := zM k q2 zm) (va_runV (As := [.int y2, .int y4]) (rest := []) ⟨hx, hb, hml, hown, htb⟩ (c_X7_group l dC dI k q2 zm y2 y4 _ hM) (cwV 2 htb (gzV wmt4_149 wmt4_150 wmt4_151 wmt1_8 wmt4_152) rfl rfl rfl (by decide +kernel) ⟨Nat.le_of_ble_eq_true rfl, Nat.le_of_ble_eq_true rfl⟩) (zpA_V (ci := 7) (q0 := 0) hK (z_PR hP) (z_DR (hDa u6 zm)) rfl rfl) rfl rfl hl.1 rfl (lv_room (Nat.le_of_ble_eq_true rfl)) dL_law_413 ⟨Nat.le_of_ble_eq_true rfl, Nat.le_of_ble_eq_true rfl⟩) hP (hDa _ _) hS hA (fun r14 u15 H locs w16 hP hS => ?_)
  obtain ⟨o17, rfl⟩ : ∃ y, y = u15 := ⟨_, rfl⟩
  obtain ⟨f18, f19⟩ := w16
  obtain ⟨z20, ez20⟩ : ∃ x : ZS, x = (sA zm 21 o17) := ⟨_, rfl⟩
  have hP : va_P (dC, dI) vwCl (zX k q u6 ++ zM k q2 z20) H := by rw [ez20]; exact hP
  have hM : MInv z20 := by rw [ez20]; exact f18
  have h3 : T3 (z20.2.2.1 37) := by rw [ez20]; exact h3
  have hp2 : (r14, trM z20) = tGroup (trM zm) y2 y4 := by rw [ez20]; exact f19
  have hpp : (r5, trX u6) = (r14, trM z20) := by rw [hp2, ← hT]; exact f9
  have hrr : r5 = r14 := (Prod.mk.inj hpp).1
  have hT : trX u6 = trM z20 := (Prod.mk.inj hpp).2
  refine lv_pop hx hb dL_law_416 rfl ?_
  refine lv_goto (tgt := 1517) hx hb dL_law_417 (by decide) ?_
  exact kk _ _ H locs ⟨hI, hM, h3, hT⟩ hP hS
set_option maxHeartbeats 4000000 in
set_option maxRecDepth 100000 in
theorem lw_c8 {p : Program} {l : Launch} {e : Env} {s : State} {m : MethodId} {below : List Frame} {meth : Method} {c : Code} {b L : Nat} {xs : Nat → Int32} {dC : Nat → ClassId} {dI : Nat → Nat → Nat} {k : Nat → ClassId} {q q2 : Nat → Nat} (hL : L ≤ 3072) (C0 : lw_At p s m meth c b L xs) (hK : zK dC dI k (zTX k) s) (hDa : ∀ z1 z2 : ZS, va_D (fun a : Nat => s.heap.size ≤ a) (zX k q z1 ++ zM k q2 z2)) {zx zm : ZS} (hJ : J2 zx zm) {i : Int32} (hi : 0 ≤ i.toInt ∧ i.toInt + 6 ≤ (L : Int)) {H : Heap} {locs : List Loc} (hP : va_P (dC, dI) vwCl (zX k q zx ++ zM k q2 zm) H) (hS : va_S (fun a : Nat => s.heap.size ≤ a) s.heap H locs) {ls : Array Slot} (hl : lv_has ls 4 [(3, .int i), (2, .ref (q2 0)), (1, .ref (q 0)), (0, .ref b)]) (kk : ∀ (z1 z2 : ZS) (H : Heap) (locs : List Loc), J2 z1 z2 → va_P (dC, dI) vwCl (zX k q z1 ++ zM k q2 z2) H → va_S (fun a : Nat => s.heap.size ≤ a) s.heap H locs → W p l e room_1 s m #[Value.ref b] below meth c H locs 1000 10000 (lw_Z below #[Value.ref b] s) (F0 m 1517 ls [])) : W p l e room_1 s m #[Value.ref b] below meth c H locs 1000 10000 (lw_Z below #[Value.ref b] s) (F0 m 420 ls []) := by
  obtain ⟨hI, hM, h3, hT⟩ := hJ
  have hT0 := hT
  obtain ⟨hx, hb, hr, hml, hown, hts0, hX, hbl, hlocks, hgv⟩ := id C0
  have htb : ∀ w ∈ zw, w.before #[Value.ref b] s = true := fun w h => hts0 w (List.mem_filter.mp h).1
  have hA : ∀ q : Nat, s.heap.size ≤ q → (fun a : Nat => s.heap.size ≤ a) q := fun _ h => h
  have hbA : ¬ (fun a : Nat => s.heap.size ≤ a) b := Nat.not_le.mpr hbl
  refine lv_aload_n hx hb dL_law_420 rfl (lv_at hl 2 rfl) ?_
  refine lv_aload_n hx hb dL_law_421 rfl (lv_at hl 3 rfl) ?_
  refine lv_iload_n hx hb dL_law_422 rfl (lv_at hl 0 rfl) ?_
  refine lv_iconst (v := 1) hx hb dL_law_423 (by decide) ?_
  refine lv_iadd hx hb dL_law_424 ?_
  refine lv_topi (fun x1 ex1 => ?_)
  have hx1 : x1.toInt = i.toInt + 1 := z_add ex1 rfl (show (1 : Int32).toInt = 1 by decide) (by omega)
  refine va_sld hx hb hX hbl hbA hS (z_in (by omega)) dL_law_425 ?_
  refine lv_topi (fun y2 ey2 => ?_)
  refine lv_aload_n hx hb dL_law_426 rfl (lv_at hl 3 rfl) ?_
  refine lv_iload_n hx hb dL_law_427 rfl (lv_at hl 0 rfl) ?_
  refine lv_iconst (v := 2) hx hb dL_law_428 (by decide) ?_
  refine lv_iadd hx hb dL_law_429 ?_
  refine lv_topi (fun x3 ex3 => ?_)
  have hx3 : x3.toInt = i.toInt + 2 := z_add ex3 rfl (show (2 : Int32).toInt = 2 by decide) (by omega)
  refine va_sld hx hb hX hbl hbA hS (z_in (by omega)) dL_law_430 ?_
  refine lv_topi (fun y4 ey4 => ?_)
  refine lv_aload_n hx hb dL_law_431 rfl (lv_at hl 3 rfl) ?_
  refine lv_iload_n hx hb dL_law_432 rfl (lv_at hl 0 rfl) ?_
  refine lv_iconst (v := 3) hx hb dL_law_433 (by decide) ?_
  refine lv_iadd hx hb dL_law_434 ?_
  refine lv_topi (fun x5 ex5 => ?_)
  have hx5 : x5.toInt = i.toInt + 3 := z_add ex5 rfl (show (3 : Int32).toInt = 3 by decide) (by omega)
  refine va_sld hx hb hX hbl hbA hS (z_in (by omega)) dL_law_435 ?_
  refine lv_topi (fun y6 ey6 => ?_)
  refine zcL_i (wx := zX k q zx) (wm := zM k q2 zm) (va_runV (As := [.int y2, .int y4, .int y6]) (rest := []) ⟨hx, hb, hml, hown, htb⟩ (c_X6_answer l dC dI k q zx y2 y4 y6 _ hI) (cwV 3 htb (gzV wmt2_83 wmt2_84 wmt2_85 wmt1_1 wmt2_86) rfl rfl rfl (by decide +kernel) ⟨Nat.le_of_ble_eq_true rfl, Nat.le_of_ble_eq_true rfl⟩) (zpA_V (ci := 6) (q0 := 0) hK (z_PL hP) (z_DL (hDa zx zm)) rfl rfl) rfl rfl hl.1 rfl (lv_room (Nat.le_of_ble_eq_true rfl)) dL_law_436 ⟨Nat.le_of_ble_eq_true rfl, Nat.le_of_ble_eq_true rfl⟩) hP (hDa _ _) hS hA (fun r7 u8 H locs w9 hP hS => ?_)
  obtain ⟨f10, f11⟩ := w9
  have hI : XInv u8 := f10
  refine lv_pop hx hb dL_law_439 rfl ?_
  refine lv_aload_n hx hb dL_law_440 rfl (lv_at hl 1 rfl) ?_
  refine lv_aload_n hx hb dL_law_441 rfl (lv_at hl 3 rfl) ?_
  refine lv_iload_n hx hb dL_law_442 rfl (lv_at hl 0 rfl) ?_
  refine lv_iconst (v := 1) hx hb dL_law_443 (by decide) ?_
  refine lv_iadd hx hb dL_law_444 ?_
  refine lv_topi (fun x12 ex12 => ?_)
  have hx12 : x12.toInt = i.toInt + 1 := z_add ex12 rfl (show (1 : Int32).toInt = 1 by decide) (by omega)
  refine va_sld hx hb hX hbl hbA hS (z_in (by omega)) dL_law_445 ?_
  refine lv_topi (fun y13 ey13 => ?_)
  have qy13 : y2 = y13 := by rw [ey13, ey2, ex12, ex1]
  subst qy13
  refine lv_aload_n hx hb dL_law_446 rfl (lv_at hl 3 rfl) ?_
  refine lv_iload_n hx hb dL_law_447 rfl (lv_at hl 0 rfl) ?_
  refine lv_iconst (v := 2) hx hb dL_law_448 (by decide) ?_
  refine lv_iadd hx hb dL_law_449 ?_
  refine lv_topi (fun x14 ex14 => ?_)
  have hx14 : x14.toInt = i.toInt + 2 := z_add ex14 rfl (show (2 : Int32).toInt = 2 by decide) (by omega)
  refine va_sld hx hb hX hbl hbA hS (z_in (by omega)) dL_law_450 ?_
  refine lv_topi (fun y15 ey15 => ?_)
  have qy15 : y4 = y15 := by rw [ey15, ey4, ex14, ex3]
  subst qy15
  refine lv_aload_n hx hb dL_law_451 rfl (lv_at hl 3 rfl) ?_
  refine lv_iload_n hx hb dL_law_452 rfl (lv_at hl 0 rfl) ?_
  refine lv_iconst (v := 3) hx hb dL_law_453 (by decide) ?_
  refine lv_iadd hx hb dL_law_454 ?_
  refine lv_topi (fun x16 ex16 => ?_)
  have hx16 : x16.toInt = i.toInt + 3 := z_add ex16 rfl (show (3 : Int32).toInt = 3 by decide) (by omega)
  refine va_sld hx hb hX hbl hbA hS (z_in (by omega)) dL_law_455 ?_
  refine lv_topi (fun y17 ey17 => ?_)
  have qy17 : y6 = y17 := by rw [ey17, ey6, ex16, ex5]
  subst qy17
  refine zcR_i (wx := zX k q u8) (wm := zM k q2 zm) (va_runV (As := [.int y2, .int y4, .int y6]) (rest := []) ⟨hx, hb, hml, hown, htb⟩ (c_X7_answer l dC dI k q2 zm y2 y4 y6 _ hM) (cwV 3 htb (gzV wmt4_159 wmt4_160 wmt4_161 wmt1_8 wmt4_162) rfl rfl rfl (by decide +kernel) ⟨Nat.le_of_ble_eq_true rfl, Nat.le_of_ble_eq_true rfl⟩) (zpA_V (ci := 7) (q0 := 0) hK (z_PR hP) (z_DR (hDa u8 zm)) rfl rfl) rfl rfl hl.1 rfl (lv_room (Nat.le_of_ble_eq_true rfl)) dL_law_456 ⟨Nat.le_of_ble_eq_true rfl, Nat.le_of_ble_eq_true rfl⟩) hP (hDa _ _) hS hA (fun r18 u19 H locs w20 hP hS => ?_)
  obtain ⟨o21, o22, o23, o24, o25, o26, o27, o28, o29, o30, o31, o32, o33, o34, o35, o36, o37, o38, o39, o40⟩ := u19
  obtain ⟨f41, f42⟩ := w20
  obtain ⟨z43, ez43⟩ : ∃ x : ZS, x = (sA (sA (sA (sA (sA (sI (sA (sA (sA (sI (sI (sI (sI (sA (sA (sA (sA (sA (sA (sA zm 4 o21) 5 o22) 6 o23) 7 o24) 8 o25) 9 o26) 10 o27) 12 o28) 13 o29) 14 o30) 15 o31) 16 o32) 17 o33) 18 o34) 22 o35) 23 o36) 24 o37) 25 o38) 26 o39) 27 o40) := ⟨_, rfl⟩
  have hP : va_P (dC, dI) vwCl (zX k q u8 ++ zM k q2 z43) H := by rw [ez43]; exact hP
  have hM : MInv z43 := by rw [ez43]; exact f41
  have h3 : T3 (z43.2.2.1 37) := by rw [ez43]; exact h3
  have hp2 : (r18, trM z43) = tAns (trM zm) y2 y4 y6 := by rw [ez43]; exact f42
  have hpp : (r7, trX u8) = (r18, trM z43) := by rw [hp2, ← hT]; exact f11
  have hrr : r7 = r18 := (Prod.mk.inj hpp).1
  have hT : trX u8 = trM z43 := (Prod.mk.inj hpp).2
  refine lv_pop hx hb dL_law_459 rfl ?_
  refine lv_goto (tgt := 1517) hx hb dL_law_460 (by decide) ?_
  exact kk _ _ H locs ⟨hI, hM, h3, hT⟩ hP hS
set_option maxHeartbeats 4000000 in
set_option maxRecDepth 100000 in
theorem lw_c9 {p : Program} {l : Launch} {e : Env} {s : State} {m : MethodId} {below : List Frame} {meth : Method} {c : Code} {b L : Nat} {xs : Nat → Int32} {dC : Nat → ClassId} {dI : Nat → Nat → Nat} {k : Nat → ClassId} {q q2 : Nat → Nat} (hL : L ≤ 3072) (C0 : lw_At p s m meth c b L xs) (hK : zK dC dI k (zTX k) s) (hDa : ∀ z1 z2 : ZS, va_D (fun a : Nat => s.heap.size ≤ a) (zX k q z1 ++ zM k q2 z2)) {zx zm : ZS} (hJ : J2 zx zm) {i : Int32} (hi : 0 ≤ i.toInt ∧ i.toInt + 6 ≤ (L : Int)) {H : Heap} {locs : List Loc} (hP : va_P (dC, dI) vwCl (zX k q zx ++ zM k q2 zm) H) (hS : va_S (fun a : Nat => s.heap.size ≤ a) s.heap H locs) {ls : Array Slot} (hl : lv_has ls 4 [(3, .int i), (2, .ref (q2 0)), (1, .ref (q 0)), (0, .ref b)]) (kk : ∀ (z1 z2 : ZS) (H : Heap) (locs : List Loc), J2 z1 z2 → va_P (dC, dI) vwCl (zX k q z1 ++ zM k q2 z2) H → va_S (fun a : Nat => s.heap.size ≤ a) s.heap H locs → W p l e room_1 s m #[Value.ref b] below meth c H locs 1000 10000 (lw_Z below #[Value.ref b] s) (F0 m 1517 ls [])) : W p l e room_1 s m #[Value.ref b] below meth c H locs 1000 10000 (lw_Z below #[Value.ref b] s) (F0 m 463 ls []) := by
  obtain ⟨hI, hM, h3, hT⟩ := hJ
  have hT0 := hT
  obtain ⟨hx, hb, hr, hml, hown, hts0, hX, hbl, hlocks, hgv⟩ := id C0
  have htb : ∀ w ∈ zw, w.before #[Value.ref b] s = true := fun w h => hts0 w (List.mem_filter.mp h).1
  have hA : ∀ q : Nat, s.heap.size ≤ q → (fun a : Nat => s.heap.size ≤ a) q := fun _ h => h
  have hbA : ¬ (fun a : Nat => s.heap.size ≤ a) b := Nat.not_le.mpr hbl
  refine lv_aload_n hx hb dL_law_463 rfl (lv_at hl 2 rfl) ?_
  refine lv_aload_n hx hb dL_law_464 rfl (lv_at hl 3 rfl) ?_
  refine lv_iload_n hx hb dL_law_465 rfl (lv_at hl 0 rfl) ?_
  refine lv_iconst (v := 1) hx hb dL_law_466 (by decide) ?_
  refine lv_iadd hx hb dL_law_467 ?_
  refine lv_topi (fun x1 ex1 => ?_)
  have hx1 : x1.toInt = i.toInt + 1 := z_add ex1 rfl (show (1 : Int32).toInt = 1 by decide) (by omega)
  refine va_sld hx hb hX hbl hbA hS (z_in (by omega)) dL_law_468 ?_
  refine lv_topi (fun y2 ey2 => ?_)
  refine lv_aload_n hx hb dL_law_469 rfl (lv_at hl 3 rfl) ?_
  refine lv_iload_n hx hb dL_law_470 rfl (lv_at hl 0 rfl) ?_
  refine lv_iconst (v := 2) hx hb dL_law_471 (by decide) ?_
  refine lv_iadd hx hb dL_law_472 ?_
  refine lv_topi (fun x3 ex3 => ?_)
  have hx3 : x3.toInt = i.toInt + 2 := z_add ex3 rfl (show (2 : Int32).toInt = 2 by decide) (by omega)
  refine va_sld hx hb hX hbl hbA hS (z_in (by omega)) dL_law_473 ?_
  refine lv_topi (fun y4 ey4 => ?_)
  refine zcL_i (wx := zX k q zx) (wm := zM k q2 zm) (va_runV (As := [.int y2, .int y4]) (rest := []) ⟨hx, hb, hml, hown, htb⟩ (c_X6_read l dC dI k q zx y2 y4 _ hI) (cwV 2 htb (gzV wmt2_91 wmt2_92 wmt2_93 wmt1_1 wmt2_94) rfl rfl rfl (by decide +kernel) ⟨Nat.le_of_ble_eq_true rfl, Nat.le_of_ble_eq_true rfl⟩) (zpA_V (ci := 6) (q0 := 0) hK (z_PL hP) (z_DL (hDa zx zm)) rfl rfl) rfl rfl hl.1 rfl (lv_room (Nat.le_of_ble_eq_true rfl)) dL_law_474 ⟨Nat.le_of_ble_eq_true rfl, Nat.le_of_ble_eq_true rfl⟩) hP (hDa _ _) hS hA (fun r5 u6 H locs w7 hP hS => ?_)
  obtain ⟨f8, f9⟩ := w7
  have hI : XInv u6 := f8
  refine lv_pop hx hb dL_law_477 rfl ?_
  refine lv_aload_n hx hb dL_law_478 rfl (lv_at hl 1 rfl) ?_
  refine lv_aload_n hx hb dL_law_479 rfl (lv_at hl 3 rfl) ?_
  refine lv_iload_n hx hb dL_law_480 rfl (lv_at hl 0 rfl) ?_
  refine lv_iconst (v := 1) hx hb dL_law_481 (by decide) ?_
  refine lv_iadd hx hb dL_law_482 ?_
  refine lv_topi (fun x10 ex10 => ?_)
  have hx10 : x10.toInt = i.toInt + 1 := z_add ex10 rfl (show (1 : Int32).toInt = 1 by decide) (by omega)
  refine va_sld hx hb hX hbl hbA hS (z_in (by omega)) dL_law_483 ?_
  refine lv_topi (fun y11 ey11 => ?_)
  have qy11 : y2 = y11 := by rw [ey11, ey2, ex10, ex1]
  subst qy11
  refine lv_aload_n hx hb dL_law_484 rfl (lv_at hl 3 rfl) ?_
  refine lv_iload_n hx hb dL_law_485 rfl (lv_at hl 0 rfl) ?_
  refine lv_iconst (v := 2) hx hb dL_law_486 (by decide) ?_
  refine lv_iadd hx hb dL_law_487 ?_
  refine lv_topi (fun x12 ex12 => ?_)
  have hx12 : x12.toInt = i.toInt + 2 := z_add ex12 rfl (show (2 : Int32).toInt = 2 by decide) (by omega)
  refine va_sld hx hb hX hbl hbA hS (z_in (by omega)) dL_law_488 ?_
  refine lv_topi (fun y13 ey13 => ?_)
  have qy13 : y4 = y13 := by rw [ey13, ey4, ex12, ex3]
  subst qy13
  refine zcR_i (wx := zX k q u6) (wm := zM k q2 zm) (va_runV (As := [.int y2, .int y4]) (rest := []) ⟨hx, hb, hml, hown, htb⟩ (c_X7_read l dC dI k q2 zm y2 y4 _ hM h3) (cwV 2 htb (gzV wmt4_167 wmt4_168 wmt4_169 wmt1_8 wmt4_170) rfl rfl rfl (by decide +kernel) ⟨Nat.le_of_ble_eq_true rfl, Nat.le_of_ble_eq_true rfl⟩) (zpA_V (ci := 7) (q0 := 0) hK (z_PR hP) (z_DR (hDa u6 zm)) rfl rfl) rfl rfl hl.1 rfl (lv_room (Nat.le_of_ble_eq_true rfl)) dL_law_489 ⟨Nat.le_of_ble_eq_true rfl, Nat.le_of_ble_eq_true rfl⟩) hP (hDa _ _) hS hA (fun r14 u15 H locs w16 hP hS => ?_)
  obtain ⟨o17, o18, o19, o20, o21, o22, o23, o24, o25, o26, o27, o28, o29, o30, o31, o32, o33, o34, o35, o36, o37⟩ := u15
  obtain ⟨f38, f39⟩ := w16
  obtain ⟨z40, ez40⟩ : ∃ x : ZS, x = (sI (sA (sA (sA (sA (sA (sI (sA (sA (sA (sI (sI (sI (sI (sA (sA (sA (sA (sA (sA (sA zm 4 o17) 5 o18) 6 o19) 7 o20) 8 o21) 9 o22) 10 o23) 12 o24) 13 o25) 14 o26) 15 o27) 16 o28) 17 o29) 18 o30) 22 o31) 23 o32) 24 o33) 25 o34) 26 o35) 27 o36) 41 o37) := ⟨_, rfl⟩
  have hP : va_P (dC, dI) vwCl (zX k q u6 ++ zM k q2 z40) H := by rw [ez40]; exact hP
  have hM : MInv z40 := by rw [ez40]; exact f38
  have h3 : T3 (z40.2.2.1 37) := by rw [ez40]; exact h3
  have hp2 : (r14, trM z40) = tRead (trM zm) y2 y4 := by rw [ez40]; exact f39
  have hpp : (r5, trX u6) = (r14, trM z40) := by rw [hp2, ← hT]; exact f9
  have hrr : r5 = r14 := (Prod.mk.inj hpp).1
  have hT : trX u6 = trM z40 := (Prod.mk.inj hpp).2
  refine lv_pop hx hb dL_law_492 rfl ?_
  refine lv_goto (tgt := 1517) hx hb dL_law_493 (by decide) ?_
  exact kk _ _ H locs ⟨hI, hM, h3, hT⟩ hP hS
