set_option maxHeartbeats 4000000 in
set_option maxRecDepth 100000 in
theorem lw_c19 {p : Program} {l : Launch} {e : Env} {s : State} {m : MethodId} {below : List Frame} {meth : Method} {c : Code} {b L : Nat} {xs : Nat → Int32} {dC : Nat → ClassId} {dI : Nat → Nat → Nat} {k : Nat → ClassId} {q q2 : Nat → Nat} (hL : L ≤ 3072) (C0 : lw_At p s m meth c b L xs) (hK : zK dC dI k (zTX k) s) (hDa : ∀ z1 z2 : ZS, va_D (fun a : Nat => s.heap.size ≤ a) (zX k q z1 ++ zM k q2 z2)) {zx zm : ZS} (hJ : J2 zx zm) {i : Int32} (hi : 0 ≤ i.toInt ∧ i.toInt + 6 ≤ (L : Int)) {H : Heap} {locs : List Loc} (hP : va_P (dC, dI) vwCl (zX k q zx ++ zM k q2 zm) H) (hS : va_S (fun a : Nat => s.heap.size ≤ a) s.heap H locs) {ls : Array Slot} (hl : lv_has ls 4 [(3, .int i), (2, .ref (q2 0)), (1, .ref (q 0)), (0, .ref b)]) (kk : ∀ (z1 z2 : ZS) (H : Heap) (locs : List Loc), J2 z1 z2 → va_P (dC, dI) vwCl (zX k q z1 ++ zM k q2 z2) H → va_S (fun a : Nat => s.heap.size ≤ a) s.heap H locs → W p l e room_1 s m #[Value.ref b] below meth c H locs 1000 10000 (lw_Z below #[Value.ref b] s) (F0 m 1517 ls [])) : W p l e room_1 s m #[Value.ref b] below meth c H locs 1000 10000 (lw_Z below #[Value.ref b] s) (F0 m 833 ls []) := by
  obtain ⟨hI, hM, h3, hT⟩ := hJ
  have hT0 := hT
  obtain ⟨hx, hb, hr, hml, hown, hts0, hX, hbl, hlocks, hgv⟩ := id C0
  have htb : ∀ w ∈ zw, w.before #[Value.ref b] s = true := fun w h => hts0 w (List.mem_filter.mp h).1
  have hA : ∀ q : Nat, s.heap.size ≤ q → (fun a : Nat => s.heap.size ≤ a) q := fun _ h => h
  have hbA : ¬ (fun a : Nat => s.heap.size ≤ a) b := Nat.not_le.mpr hbl
  refine lv_aload_n hx hb dL_law_833 rfl (lv_at hl 2 rfl) ?_
  refine lv_aload_n hx hb dL_law_834 rfl (lv_at hl 3 rfl) ?_
  refine lv_iload_n hx hb dL_law_835 rfl (lv_at hl 0 rfl) ?_
  refine lv_iconst (v := 1) hx hb dL_law_836 (by decide) ?_
  refine lv_iadd hx hb dL_law_837 ?_
  refine lv_topi (fun x1 ex1 => ?_)
  have hx1 : x1.toInt = i.toInt + 1 := z_add ex1 rfl (show (1 : Int32).toInt = 1 by decide) (by omega)
  refine va_sld hx hb hX hbl hbA hS (z_in (by omega)) dL_law_838 ?_
  refine lv_topi (fun y2 ey2 => ?_)
  refine lv_aload_n hx hb dL_law_839 rfl (lv_at hl 3 rfl) ?_
  refine lv_iload_n hx hb dL_law_840 rfl (lv_at hl 0 rfl) ?_
  refine lv_iconst (v := 2) hx hb dL_law_841 (by decide) ?_
  refine lv_iadd hx hb dL_law_842 ?_
  refine lv_topi (fun x3 ex3 => ?_)
  have hx3 : x3.toInt = i.toInt + 2 := z_add ex3 rfl (show (2 : Int32).toInt = 2 by decide) (by omega)
  refine va_sld hx hb hX hbl hbA hS (z_in (by omega)) dL_law_843 ?_
  refine lv_topi (fun y4 ey4 => ?_)
  refine lv_aload_n hx hb dL_law_844 rfl (lv_at hl 3 rfl) ?_
  refine lv_iload_n hx hb dL_law_845 rfl (lv_at hl 0 rfl) ?_
  refine lv_iconst (v := 3) hx hb dL_law_846 (by decide) ?_
  refine lv_iadd hx hb dL_law_847 ?_
  refine lv_topi (fun x5 ex5 => ?_)
  have hx5 : x5.toInt = i.toInt + 3 := z_add ex5 rfl (show (3 : Int32).toInt = 3 by decide) (by omega)
  refine va_sld hx hb hX hbl hbA hS (z_in (by omega)) dL_law_848 ?_
  refine lv_topi (fun y6 ey6 => ?_)
  refine zcL_i (wx := zX k q zx) (wm := zM k q2 zm) (va_runV (As := [.int y2, .int y4, .int y6]) (rest := []) ⟨hx, hb, hml, hown, htb⟩ (c_X6_atLeast l dC dI k q zx y2 y4 y6 _ hI) (cwV 3 htb (gzV wmt2_219 wmt2_220 wmt2_221 wmt1_1 wmt2_222) rfl rfl rfl (by decide +kernel) ⟨Nat.le_of_ble_eq_true rfl, Nat.le_of_ble_eq_true rfl⟩) (zpA_V (ci := 6) (q0 := 0) hK (z_PL hP) (z_DL (hDa zx zm)) rfl rfl) rfl rfl hl.1 rfl (lv_room (Nat.le_of_ble_eq_true rfl)) dL_law_849 ⟨Nat.le_of_ble_eq_true rfl, Nat.le_of_ble_eq_true rfl⟩) hP (hDa _ _) hS hA (fun r7 u8 H locs w9 hP hS => ?_)
  obtain ⟨f10, f11⟩ := w9
  have hI : XInv u8 := f10
  have hT : trX u8 = trM zm := f11.trans hT
  refine lv_pop hx hb dL_law_852 rfl ?_
  refine lv_aload_n hx hb dL_law_853 rfl (lv_at hl 1 rfl) ?_
  refine lv_aload_n hx hb dL_law_854 rfl (lv_at hl 3 rfl) ?_
  refine lv_iload_n hx hb dL_law_855 rfl (lv_at hl 0 rfl) ?_
  refine lv_iconst (v := 1) hx hb dL_law_856 (by decide) ?_
  refine lv_iadd hx hb dL_law_857 ?_
  refine lv_topi (fun x12 ex12 => ?_)
  have hx12 : x12.toInt = i.toInt + 1 := z_add ex12 rfl (show (1 : Int32).toInt = 1 by decide) (by omega)
  refine va_sld hx hb hX hbl hbA hS (z_in (by omega)) dL_law_858 ?_
  refine lv_topi (fun y13 ey13 => ?_)
  have qy13 : y2 = y13 := by rw [ey13, ey2, ex12, ex1]
  subst qy13
  refine lv_aload_n hx hb dL_law_859 rfl (lv_at hl 3 rfl) ?_
  refine lv_iload_n hx hb dL_law_860 rfl (lv_at hl 0 rfl) ?_
  refine lv_iconst (v := 2) hx hb dL_law_861 (by decide) ?_
  refine lv_iadd hx hb dL_law_862 ?_
  refine lv_topi (fun x14 ex14 => ?_)
  have hx14 : x14.toInt = i.toInt + 2 := z_add ex14 rfl (show (2 : Int32).toInt = 2 by decide) (by omega)
  refine va_sld hx hb hX hbl hbA hS (z_in (by omega)) dL_law_863 ?_
  refine lv_topi (fun y15 ey15 => ?_)
  have qy15 : y4 = y15 := by rw [ey15, ey4, ex14, ex3]
  subst qy15
  refine lv_aload_n hx hb dL_law_864 rfl (lv_at hl 3 rfl) ?_
  refine lv_iload_n hx hb dL_law_865 rfl (lv_at hl 0 rfl) ?_
  refine lv_iconst (v := 3) hx hb dL_law_866 (by decide) ?_
  refine lv_iadd hx hb dL_law_867 ?_
  refine lv_topi (fun x16 ex16 => ?_)
  have hx16 : x16.toInt = i.toInt + 3 := z_add ex16 rfl (show (3 : Int32).toInt = 3 by decide) (by omega)
  refine va_sld hx hb hX hbl hbA hS (z_in (by omega)) dL_law_868 ?_
  refine lv_topi (fun y17 ey17 => ?_)
  have qy17 : y6 = y17 := by rw [ey17, ey6, ex16, ex5]
  subst qy17
  refine zcR_i (wx := zX k q u8) (wm := zM k q2 zm) (va_runV (As := [.int y2, .int y4, .int y6]) (rest := []) ⟨hx, hb, hml, hown, htb⟩ (c_X7_atLeast l dC dI k q2 zm y2 y4 y6 _ hM) (cwV 3 htb (gzV wmt5_16 wmt5_17 wmt5_18 wmt1_8 wmt5_19) rfl rfl rfl (by decide +kernel) ⟨Nat.le_of_ble_eq_true rfl, Nat.le_of_ble_eq_true rfl⟩) (zpA_V (ci := 7) (q0 := 0) hK (z_PR hP) (z_DR (hDa u8 zm)) rfl rfl) rfl rfl hl.1 rfl (lv_room (Nat.le_of_ble_eq_true rfl)) dL_law_869 ⟨Nat.le_of_ble_eq_true rfl, Nat.le_of_ble_eq_true rfl⟩) hP (hDa _ _) hS hA (fun r18 u19 H locs w20 hP hS => ?_)
  obtain ⟨o21, o22, o23, o24, o25, o26, o27, o28, o29, o30, o31, o32, o33, o34, o35, o36, o37, o38, o39, o40, o41⟩ := u19
  have f42 := w20
  obtain ⟨z43, ez43⟩ : ∃ x : ZS, x = (sJ (sJ (sJ (sJ (sJ (sI (sI (sA (sA (sA (sI (sI (sI (sI (sA (sA (sA (sA (sA (sA (sA zm 4 o21) 5 o22) 6 o23) 7 o24) 8 o25) 9 o26) 10 o27) 12 o28) 13 o29) 14 o30) 15 o31) 16 o32) 17 o33) 18 o34) 28 o35) 29 o36) 0 o37) 1 o38) 30 o39) 31 o40) 32 o41) := ⟨_, rfl⟩
  have hP : va_P (dC, dI) vwCl (zX k q u8 ++ zM k q2 z43) H := by rw [ez43]; exact hP
  have hM : MInv z43 := by rw [ez43]; exact ⟨hM.1, hM.2.1, hM.2.2.1, hM.2.2.2.1, hM.2.2.2.2.1, f42⟩
  have h3 : T3 (z43.2.2.1 37) := by rw [ez43]; exact h3
  have hT : trX u8 = trM z43 := by rw [ez43]; exact hT
  refine lv_pop hx hb dL_law_872 rfl ?_
  refine lv_goto (tgt := 1517) hx hb dL_law_873 (by decide) ?_
  exact kk _ _ H locs ⟨hI, hM, h3, hT⟩ hP hS
set_option maxHeartbeats 4000000 in
set_option maxRecDepth 100000 in
theorem lw_c20 {p : Program} {l : Launch} {e : Env} {s : State} {m : MethodId} {below : List Frame} {meth : Method} {c : Code} {b L : Nat} {xs : Nat → Int32} {dC : Nat → ClassId} {dI : Nat → Nat → Nat} {k : Nat → ClassId} {q q2 : Nat → Nat} (hL : L ≤ 3072) (C0 : lw_At p s m meth c b L xs) (hK : zK dC dI k (zTX k) s) (hDa : ∀ z1 z2 : ZS, va_D (fun a : Nat => s.heap.size ≤ a) (zX k q z1 ++ zM k q2 z2)) {zx zm : ZS} (hJ : J2 zx zm) {i : Int32} (hi : 0 ≤ i.toInt ∧ i.toInt + 6 ≤ (L : Int)) {H : Heap} {locs : List Loc} (hP : va_P (dC, dI) vwCl (zX k q zx ++ zM k q2 zm) H) (hS : va_S (fun a : Nat => s.heap.size ≤ a) s.heap H locs) {ls : Array Slot} (hl : lv_has ls 4 [(3, .int i), (2, .ref (q2 0)), (1, .ref (q 0)), (0, .ref b)]) (kk : ∀ (z1 z2 : ZS) (H : Heap) (locs : List Loc), J2 z1 z2 → va_P (dC, dI) vwCl (zX k q z1 ++ zM k q2 z2) H → va_S (fun a : Nat => s.heap.size ≤ a) s.heap H locs → W p l e room_1 s m #[Value.ref b] below meth c H locs 1000 10000 (lw_Z below #[Value.ref b] s) (F0 m 1517 ls [])) : W p l e room_1 s m #[Value.ref b] below meth c H locs 1000 10000 (lw_Z below #[Value.ref b] s) (F0 m 876 ls []) := by
  obtain ⟨hI, hM, h3, hT⟩ := hJ
  have hT0 := hT
  obtain ⟨hx, hb, hr, hml, hown, hts0, hX, hbl, hlocks, hgv⟩ := id C0
  have htb : ∀ w ∈ zw, w.before #[Value.ref b] s = true := fun w h => hts0 w (List.mem_filter.mp h).1
  have hA : ∀ q : Nat, s.heap.size ≤ q → (fun a : Nat => s.heap.size ≤ a) q := fun _ h => h
  have hbA : ¬ (fun a : Nat => s.heap.size ≤ a) b := Nat.not_le.mpr hbl
  refine lv_aload_n hx hb dL_law_876 rfl (lv_at hl 2 rfl) ?_
  refine lv_aload_n hx hb dL_law_877 rfl (lv_at hl 3 rfl) ?_
  refine lv_iload_n hx hb dL_law_878 rfl (lv_at hl 0 rfl) ?_
  refine lv_iconst (v := 1) hx hb dL_law_879 (by decide) ?_
  refine lv_iadd hx hb dL_law_880 ?_
  refine lv_topi (fun x1 ex1 => ?_)
  have hx1 : x1.toInt = i.toInt + 1 := z_add ex1 rfl (show (1 : Int32).toInt = 1 by decide) (by omega)
  refine va_sld hx hb hX hbl hbA hS (z_in (by omega)) dL_law_881 ?_
  refine lv_topi (fun y2 ey2 => ?_)
  refine lv_aload_n hx hb dL_law_882 rfl (lv_at hl 3 rfl) ?_
  refine lv_iload_n hx hb dL_law_883 rfl (lv_at hl 0 rfl) ?_
  refine lv_iconst (v := 2) hx hb dL_law_884 (by decide) ?_
  refine lv_iadd hx hb dL_law_885 ?_
  refine lv_topi (fun x3 ex3 => ?_)
  have hx3 : x3.toInt = i.toInt + 2 := z_add ex3 rfl (show (2 : Int32).toInt = 2 by decide) (by omega)
  refine va_sld hx hb hX hbl hbA hS (z_in (by omega)) dL_law_886 ?_
  refine lv_topi (fun y4 ey4 => ?_)
  refine lv_aload_n hx hb dL_law_887 rfl (lv_at hl 3 rfl) ?_
  refine lv_iload_n hx hb dL_law_888 rfl (lv_at hl 0 rfl) ?_
  refine lv_iconst (v := 3) hx hb dL_law_889 (by decide) ?_
  refine lv_iadd hx hb dL_law_890 ?_
  refine lv_topi (fun x5 ex5 => ?_)
  have hx5 : x5.toInt = i.toInt + 3 := z_add ex5 rfl (show (3 : Int32).toInt = 3 by decide) (by omega)
  refine va_sld hx hb hX hbl hbA hS (z_in (by omega)) dL_law_891 ?_
  refine lv_topi (fun y6 ey6 => ?_)
  refine zcL_l (wx := zX k q zx) (wm := zM k q2 zm) (va_runV (As := [.int y2, .int y4, .int y6]) (rest := []) ⟨hx, hb, hml, hown, htb⟩ (c_X6_away_v l dC dI k q zx y2 y4 y6 _ hI (by rw [hT]; exact LB_M hM)) (cwV 3 htb (gzV wmt2_227 wmt2_228 wmt2_229 wmt1_1 wmt2_230) rfl rfl rfl (by decide +kernel) ⟨Nat.le_of_ble_eq_true rfl, Nat.le_of_ble_eq_true rfl⟩) (zpA_V (ci := 6) (q0 := 0) hK (z_PL hP) (z_DL (hDa zx zm)) rfl rfl) rfl rfl hl.1 rfl (lv_room (Nat.le_of_ble_eq_true rfl)) dL_law_892 ⟨Nat.le_of_ble_eq_true rfl, Nat.le_of_ble_eq_true rfl⟩) hP (hDa _ _) hS hA (fun r7 u8 H locs w9 hP hS => ?_)
  obtain ⟨f10, f11, f12⟩ := w9
  have hI : XInv u8 := f10
  have hT : trX u8 = trM zm := f11.trans hT
  refine lv_pop2_2 hx hb dL_law_895 rfl ?_
  refine lv_aload_n hx hb dL_law_896 rfl (lv_at hl 1 rfl) ?_
  refine lv_aload_n hx hb dL_law_897 rfl (lv_at hl 3 rfl) ?_
  refine lv_iload_n hx hb dL_law_898 rfl (lv_at hl 0 rfl) ?_
  refine lv_iconst (v := 1) hx hb dL_law_899 (by decide) ?_
  refine lv_iadd hx hb dL_law_900 ?_
  refine lv_topi (fun x13 ex13 => ?_)
  have hx13 : x13.toInt = i.toInt + 1 := z_add ex13 rfl (show (1 : Int32).toInt = 1 by decide) (by omega)
  refine va_sld hx hb hX hbl hbA hS (z_in (by omega)) dL_law_901 ?_
  refine lv_topi (fun y14 ey14 => ?_)
  have qy14 : y2 = y14 := by rw [ey14, ey2, ex13, ex1]
  subst qy14
  refine lv_aload_n hx hb dL_law_902 rfl (lv_at hl 3 rfl) ?_
  refine lv_iload_n hx hb dL_law_903 rfl (lv_at hl 0 rfl) ?_
  refine lv_iconst (v := 2) hx hb dL_law_904 (by decide) ?_
  refine lv_iadd hx hb dL_law_905 ?_
  refine lv_topi (fun x15 ex15 => ?_)
  have hx15 : x15.toInt = i.toInt + 2 := z_add ex15 rfl (show (2 : Int32).toInt = 2 by decide) (by omega)
  refine va_sld hx hb hX hbl hbA hS (z_in (by omega)) dL_law_906 ?_
  refine lv_topi (fun y16 ey16 => ?_)
  have qy16 : y4 = y16 := by rw [ey16, ey4, ex15, ex3]
  subst qy16
  refine lv_aload_n hx hb dL_law_907 rfl (lv_at hl 3 rfl) ?_
  refine lv_iload_n hx hb dL_law_908 rfl (lv_at hl 0 rfl) ?_
  refine lv_iconst (v := 3) hx hb dL_law_909 (by decide) ?_
  refine lv_iadd hx hb dL_law_910 ?_
  refine lv_topi (fun x17 ex17 => ?_)
  have hx17 : x17.toInt = i.toInt + 3 := z_add ex17 rfl (show (3 : Int32).toInt = 3 by decide) (by omega)
  refine va_sld hx hb hX hbl hbA hS (z_in (by omega)) dL_law_911 ?_
  refine lv_topi (fun y18 ey18 => ?_)
  have qy18 : y6 = y18 := by rw [ey18, ey6, ex17, ex5]
  subst qy18
  refine zcR_l (wx := zX k q u8) (wm := zM k q2 zm) (va_runV (As := [.int y2, .int y4, .int y6]) (rest := []) ⟨hx, hb, hml, hown, htb⟩ (c_X7_away l dC dI k q2 zm y2 y4 y6 _ hM) (cwV 3 htb (gzV wmt5_28 wmt5_29 wmt5_30 wmt1_8 wmt5_31) rfl rfl rfl (by decide +kernel) ⟨Nat.le_of_ble_eq_true rfl, Nat.le_of_ble_eq_true rfl⟩) (zpA_V (ci := 7) (q0 := 0) hK (z_PR hP) (z_DR (hDa u8 zm)) rfl rfl) rfl rfl hl.1 rfl (lv_room (Nat.le_of_ble_eq_true rfl)) dL_law_912 ⟨Nat.le_of_ble_eq_true rfl, Nat.le_of_ble_eq_true rfl⟩) hP (hDa _ _) hS hA (fun r19 u20 H locs w21 hP hS => ?_)
  obtain ⟨o22, o23, o24, o25, o26, o27, o28, o29, o30, o31, o32, o33, o34, o35, o36, o37⟩ := u20
  obtain ⟨f38, f39⟩ := w21
  obtain ⟨z40, ez40⟩ : ∃ x : ZS, x = (sJ (sJ (sA (sA (sA (sI (sI (sI (sI (sA (sA (sA (sA (sA (sA (sA zm 4 o22) 5 o23) 6 o24) 7 o25) 8 o26) 9 o27) 10 o28) 12 o29) 13 o30) 14 o31) 15 o32) 16 o33) 17 o34) 18 o35) 0 o36) 1 o37) := ⟨_, rfl⟩
  have hP : va_P (dC, dI) vwCl (zX k q u8 ++ zM k q2 z40) H := by rw [ez40]; exact hP
  have hM : MInv z40 := by rw [ez40]; exact ⟨hM.1, hM.2.1, hM.2.2.1, hM.2.2.2.1, hM.2.2.2.2.1, f38⟩
  have h3 : T3 (z40.2.2.1 37) := by rw [ez40]; exact h3
  have hp2 : r19.toInt = tAway (trM zm) y2 y4 y6 := f39
  have hrr : r7 = r19 := Int64.toInt_inj.mp (by rw [hp2, ← hT0]; exact f12)
  have hT : trX u8 = trM z40 := by rw [ez40]; exact hT
  refine lv_pop2_2 hx hb dL_law_915 rfl ?_
  refine lv_goto (tgt := 1517) hx hb dL_law_916 (by decide) ?_
  exact kk _ _ H locs ⟨hI, hM, h3, hT⟩ hP hS
set_option maxHeartbeats 4000000 in
set_option maxRecDepth 100000 in
theorem lw_c21 {p : Program} {l : Launch} {e : Env} {s : State} {m : MethodId} {below : List Frame} {meth : Method} {c : Code} {b L : Nat} {xs : Nat → Int32} {dC : Nat → ClassId} {dI : Nat → Nat → Nat} {k : Nat → ClassId} {q q2 : Nat → Nat} (hL : L ≤ 3072) (C0 : lw_At p s m meth c b L xs) (hK : zK dC dI k (zTX k) s) (hDa : ∀ z1 z2 : ZS, va_D (fun a : Nat => s.heap.size ≤ a) (zX k q z1 ++ zM k q2 z2)) {zx zm : ZS} (hJ : J2 zx zm) {i : Int32} (hi : 0 ≤ i.toInt ∧ i.toInt + 6 ≤ (L : Int)) {H : Heap} {locs : List Loc} (hP : va_P (dC, dI) vwCl (zX k q zx ++ zM k q2 zm) H) (hS : va_S (fun a : Nat => s.heap.size ≤ a) s.heap H locs) {ls : Array Slot} (hl : lv_has ls 4 [(3, .int i), (2, .ref (q2 0)), (1, .ref (q 0)), (0, .ref b)]) (kk : ∀ (z1 z2 : ZS) (H : Heap) (locs : List Loc), J2 z1 z2 → va_P (dC, dI) vwCl (zX k q z1 ++ zM k q2 z2) H → va_S (fun a : Nat => s.heap.size ≤ a) s.heap H locs → W p l e room_1 s m #[Value.ref b] below meth c H locs 1000 10000 (lw_Z below #[Value.ref b] s) (F0 m 1517 ls [])) : W p l e room_1 s m #[Value.ref b] below meth c H locs 1000 10000 (lw_Z below #[Value.ref b] s) (F0 m 919 ls []) := by
  obtain ⟨hI, hM, h3, hT⟩ := hJ
  have hT0 := hT
  obtain ⟨hx, hb, hr, hml, hown, hts0, hX, hbl, hlocks, hgv⟩ := id C0
  have htb : ∀ w ∈ zw, w.before #[Value.ref b] s = true := fun w h => hts0 w (List.mem_filter.mp h).1
  have hA : ∀ q : Nat, s.heap.size ≤ q → (fun a : Nat => s.heap.size ≤ a) q := fun _ h => h
  have hbA : ¬ (fun a : Nat => s.heap.size ≤ a) b := Nat.not_le.mpr hbl
  refine lv_aload_n hx hb dL_law_919 rfl (lv_at hl 2 rfl) ?_
  refine lv_aload_n hx hb dL_law_920 rfl (lv_at hl 3 rfl) ?_
  refine lv_iload_n hx hb dL_law_921 rfl (lv_at hl 0 rfl) ?_
  refine lv_iconst (v := 1) hx hb dL_law_922 (by decide) ?_
  refine lv_iadd hx hb dL_law_923 ?_
  refine lv_topi (fun x1 ex1 => ?_)
  have hx1 : x1.toInt = i.toInt + 1 := z_add ex1 rfl (show (1 : Int32).toInt = 1 by decide) (by omega)
  refine va_sld hx hb hX hbl hbA hS (z_in (by omega)) dL_law_924 ?_
  refine lv_topi (fun y2 ey2 => ?_)
  refine lv_aload_n hx hb dL_law_925 rfl (lv_at hl 3 rfl) ?_
  refine lv_iload_n hx hb dL_law_926 rfl (lv_at hl 0 rfl) ?_
  refine lv_iconst (v := 2) hx hb dL_law_927 (by decide) ?_
  refine lv_iadd hx hb dL_law_928 ?_
  refine lv_topi (fun x3 ex3 => ?_)
  have hx3 : x3.toInt = i.toInt + 2 := z_add ex3 rfl (show (2 : Int32).toInt = 2 by decide) (by omega)
  refine va_sld hx hb hX hbl hbA hS (z_in (by omega)) dL_law_929 ?_
  refine lv_topi (fun y4 ey4 => ?_)
  refine zcL_l (wx := zX k q zx) (wm := zM k q2 zm) (va_runV (As := [.int y2, .int y4]) (rest := []) ⟨hx, hb, hml, hown, htb⟩ (c_X6_given l dC dI k q zx y2 y4 _ hI) (cwV 2 htb (gzV wmt2_233 wmt2_234 wmt2_235 wmt1_1 wmt2_236) rfl rfl rfl (by decide +kernel) ⟨Nat.le_of_ble_eq_true rfl, Nat.le_of_ble_eq_true rfl⟩) (zpA_V (ci := 6) (q0 := 0) hK (z_PL hP) (z_DL (hDa zx zm)) rfl rfl) rfl rfl hl.1 rfl (lv_room (Nat.le_of_ble_eq_true rfl)) dL_law_930 ⟨Nat.le_of_ble_eq_true rfl, Nat.le_of_ble_eq_true rfl⟩) hP (hDa _ _) hS hA (fun r5 u6 H locs w7 hP hS => ?_)
  obtain ⟨f8, f9⟩ := w7
  have hI : XInv u6 := f8
  have hT : trX u6 = trM zm := f9.trans hT
  refine lv_pop2_2 hx hb dL_law_933 rfl ?_
  refine lv_aload_n hx hb dL_law_934 rfl (lv_at hl 1 rfl) ?_
  refine lv_aload_n hx hb dL_law_935 rfl (lv_at hl 3 rfl) ?_
  refine lv_iload_n hx hb dL_law_936 rfl (lv_at hl 0 rfl) ?_
  refine lv_iconst (v := 1) hx hb dL_law_937 (by decide) ?_
  refine lv_iadd hx hb dL_law_938 ?_
  refine lv_topi (fun x10 ex10 => ?_)
  have hx10 : x10.toInt = i.toInt + 1 := z_add ex10 rfl (show (1 : Int32).toInt = 1 by decide) (by omega)
  refine va_sld hx hb hX hbl hbA hS (z_in (by omega)) dL_law_939 ?_
  refine lv_topi (fun y11 ey11 => ?_)
  have qy11 : y2 = y11 := by rw [ey11, ey2, ex10, ex1]
  subst qy11
  refine lv_aload_n hx hb dL_law_940 rfl (lv_at hl 3 rfl) ?_
  refine lv_iload_n hx hb dL_law_941 rfl (lv_at hl 0 rfl) ?_
  refine lv_iconst (v := 2) hx hb dL_law_942 (by decide) ?_
  refine lv_iadd hx hb dL_law_943 ?_
  refine lv_topi (fun x12 ex12 => ?_)
  have hx12 : x12.toInt = i.toInt + 2 := z_add ex12 rfl (show (2 : Int32).toInt = 2 by decide) (by omega)
  refine va_sld hx hb hX hbl hbA hS (z_in (by omega)) dL_law_944 ?_
  refine lv_topi (fun y13 ey13 => ?_)
  have qy13 : y4 = y13 := by rw [ey13, ey4, ex12, ex3]
  subst qy13
  refine zcR_l (wx := zX k q u6) (wm := zM k q2 zm) (va_runV (As := [.int y2, .int y4]) (rest := []) ⟨hx, hb, hml, hown, htb⟩ (c_X7_given l dC dI k q2 zm y2 y4 _ hM) (cwV 2 htb (gzV wmt5_36 wmt5_37 wmt5_38 wmt1_8 wmt5_39) rfl rfl rfl (by decide +kernel) ⟨Nat.le_of_ble_eq_true rfl, Nat.le_of_ble_eq_true rfl⟩) (zpA_V (ci := 7) (q0 := 0) hK (z_PR hP) (z_DR (hDa u6 zm)) rfl rfl) rfl rfl hl.1 rfl (lv_room (Nat.le_of_ble_eq_true rfl)) dL_law_945 ⟨Nat.le_of_ble_eq_true rfl, Nat.le_of_ble_eq_true rfl⟩) hP (hDa _ _) hS hA (fun r14 u15 H locs w16 hP hS => ?_)
  obtain ⟨o17, o18, o19, o20, o21, o22, o23, o24, o25, o26, o27, o28, o29, o30, o31, o32, o33, o34⟩ := u15
  have f35 := w16
  obtain ⟨z36, ez36⟩ : ∃ x : ZS, x = (sA (sI (sJ (sJ (sA (sA (sA (sI (sI (sI (sI (sA (sA (sA (sA (sA (sA (sA zm 4 o17) 5 o18) 6 o19) 7 o20) 8 o21) 9 o22) 10 o23) 12 o24) 13 o25) 14 o26) 15 o27) 16 o28) 17 o29) 18 o30) 0 o31) 1 o32) 33 o33) 34 o34) := ⟨_, rfl⟩
  have hP : va_P (dC, dI) vwCl (zX k q u6 ++ zM k q2 z36) H := by rw [ez36]; exact hP
  have hM : MInv z36 := by rw [ez36]; exact ⟨hM.1, hM.2.1, hM.2.2.1, hM.2.2.2.1, hM.2.2.2.2.1, f35⟩
  have h3 : T3 (z36.2.2.1 37) := by rw [ez36]; exact h3
  have hT : trX u6 = trM z36 := by rw [ez36]; exact hT
  refine lv_pop2_2 hx hb dL_law_948 rfl ?_
  refine lv_goto (tgt := 1517) hx hb dL_law_949 (by decide) ?_
  exact kk _ _ H locs ⟨hI, hM, h3, hT⟩ hP hS
set_option maxHeartbeats 4000000 in
set_option maxRecDepth 100000 in
theorem lw_c22 {p : Program} {l : Launch} {e : Env} {s : State} {m : MethodId} {below : List Frame} {meth : Method} {c : Code} {b L : Nat} {xs : Nat → Int32} {dC : Nat → ClassId} {dI : Nat → Nat → Nat} {k : Nat → ClassId} {q q2 : Nat → Nat} (hL : L ≤ 3072) (C0 : lw_At p s m meth c b L xs) (hK : zK dC dI k (zTX k) s) (hDa : ∀ z1 z2 : ZS, va_D (fun a : Nat => s.heap.size ≤ a) (zX k q z1 ++ zM k q2 z2)) {zx zm : ZS} (hJ : J2 zx zm) {i : Int32} (hi : 0 ≤ i.toInt ∧ i.toInt + 6 ≤ (L : Int)) {H : Heap} {locs : List Loc} (hP : va_P (dC, dI) vwCl (zX k q zx ++ zM k q2 zm) H) (hS : va_S (fun a : Nat => s.heap.size ≤ a) s.heap H locs) {ls : Array Slot} (hl : lv_has ls 4 [(3, .int i), (2, .ref (q2 0)), (1, .ref (q 0)), (0, .ref b)]) (kk : ∀ (z1 z2 : ZS) (H : Heap) (locs : List Loc), J2 z1 z2 → va_P (dC, dI) vwCl (zX k q z1 ++ zM k q2 z2) H → va_S (fun a : Nat => s.heap.size ≤ a) s.heap H locs → W p l e room_1 s m #[Value.ref b] below meth c H locs 1000 10000 (lw_Z below #[Value.ref b] s) (F0 m 1517 ls [])) : W p l e room_1 s m #[Value.ref b] below meth c H locs 1000 10000 (lw_Z below #[Value.ref b] s) (F0 m 952 ls []) := by
  obtain ⟨hI, hM, h3, hT⟩ := hJ
  have hT0 := hT
  obtain ⟨hx, hb, hr, hml, hown, hts0, hX, hbl, hlocks, hgv⟩ := id C0
  have htb : ∀ w ∈ zw, w.before #[Value.ref b] s = true := fun w h => hts0 w (List.mem_filter.mp h).1
  have hA : ∀ q : Nat, s.heap.size ≤ q → (fun a : Nat => s.heap.size ≤ a) q := fun _ h => h
  have hbA : ¬ (fun a : Nat => s.heap.size ≤ a) b := Nat.not_le.mpr hbl
  refine lv_aload_n hx hb dL_law_952 rfl (lv_at hl 2 rfl) ?_
  refine lv_aload_n hx hb dL_law_953 rfl (lv_at hl 3 rfl) ?_
  refine lv_iload_n hx hb dL_law_954 rfl (lv_at hl 0 rfl) ?_
  refine lv_iconst (v := 1) hx hb dL_law_955 (by decide) ?_
  refine lv_iadd hx hb dL_law_956 ?_
  refine lv_topi (fun x1 ex1 => ?_)
  have hx1 : x1.toInt = i.toInt + 1 := z_add ex1 rfl (show (1 : Int32).toInt = 1 by decide) (by omega)
  refine va_sld hx hb hX hbl hbA hS (z_in (by omega)) dL_law_957 ?_
  refine lv_topi (fun y2 ey2 => ?_)
  refine lv_aload_n hx hb dL_law_958 rfl (lv_at hl 3 rfl) ?_
  refine lv_iload_n hx hb dL_law_959 rfl (lv_at hl 0 rfl) ?_
  refine lv_iconst (v := 2) hx hb dL_law_960 (by decide) ?_
  refine lv_iadd hx hb dL_law_961 ?_
  refine lv_topi (fun x3 ex3 => ?_)
  have hx3 : x3.toInt = i.toInt + 2 := z_add ex3 rfl (show (2 : Int32).toInt = 2 by decide) (by omega)
  refine va_sld hx hb hX hbl hbA hS (z_in (by omega)) dL_law_962 ?_
  refine lv_topi (fun y4 ey4 => ?_)
  refine lv_aload_n hx hb dL_law_963 rfl (lv_at hl 3 rfl) ?_
  refine lv_iload_n hx hb dL_law_964 rfl (lv_at hl 0 rfl) ?_
  refine lv_iconst (v := 3) hx hb dL_law_965 (by decide) ?_
  refine lv_iadd hx hb dL_law_966 ?_
  refine lv_topi (fun x5 ex5 => ?_)
  have hx5 : x5.toInt = i.toInt + 3 := z_add ex5 rfl (show (3 : Int32).toInt = 3 by decide) (by omega)
  refine va_sld hx hb hX hbl hbA hS (z_in (by omega)) dL_law_967 ?_
  refine lv_topi (fun y6 ey6 => ?_)
  refine zcL_l (wx := zX k q zx) (wm := zM k q2 zm) (va_runV (As := [.int y2, .int y4, .int y6]) (rest := []) ⟨hx, hb, hml, hown, htb⟩ (c_X6_has l dC dI k q zx y2 y4 y6 _ hI) (cwV 3 htb (gzV wmt3_22 wmt3_23 wmt3_24 wmt1_1 wmt3_25) rfl rfl rfl (by decide +kernel) ⟨Nat.le_of_ble_eq_true rfl, Nat.le_of_ble_eq_true rfl⟩) (zpA_V (ci := 6) (q0 := 0) hK (z_PL hP) (z_DL (hDa zx zm)) rfl rfl) rfl rfl hl.1 rfl (lv_room (Nat.le_of_ble_eq_true rfl)) dL_law_968 ⟨Nat.le_of_ble_eq_true rfl, Nat.le_of_ble_eq_true rfl⟩) hP (hDa _ _) hS hA (fun r7 u8 H locs w9 hP hS => ?_)
  obtain ⟨f10, f11⟩ := w9
  have hI : XInv u8 := f10
  have hT : trX u8 = trM zm := f11.trans hT
  refine lv_pop2_2 hx hb dL_law_971 rfl ?_
  refine lv_aload_n hx hb dL_law_972 rfl (lv_at hl 1 rfl) ?_
  refine lv_aload_n hx hb dL_law_973 rfl (lv_at hl 3 rfl) ?_
  refine lv_iload_n hx hb dL_law_974 rfl (lv_at hl 0 rfl) ?_
  refine lv_iconst (v := 1) hx hb dL_law_975 (by decide) ?_
  refine lv_iadd hx hb dL_law_976 ?_
  refine lv_topi (fun x12 ex12 => ?_)
  have hx12 : x12.toInt = i.toInt + 1 := z_add ex12 rfl (show (1 : Int32).toInt = 1 by decide) (by omega)
  refine va_sld hx hb hX hbl hbA hS (z_in (by omega)) dL_law_977 ?_
  refine lv_topi (fun y13 ey13 => ?_)
  have qy13 : y2 = y13 := by rw [ey13, ey2, ex12, ex1]
  subst qy13
  refine lv_aload_n hx hb dL_law_978 rfl (lv_at hl 3 rfl) ?_
  refine lv_iload_n hx hb dL_law_979 rfl (lv_at hl 0 rfl) ?_
  refine lv_iconst (v := 2) hx hb dL_law_980 (by decide) ?_
  refine lv_iadd hx hb dL_law_981 ?_
  refine lv_topi (fun x14 ex14 => ?_)
  have hx14 : x14.toInt = i.toInt + 2 := z_add ex14 rfl (show (2 : Int32).toInt = 2 by decide) (by omega)
  refine va_sld hx hb hX hbl hbA hS (z_in (by omega)) dL_law_982 ?_
  refine lv_topi (fun y15 ey15 => ?_)
  have qy15 : y4 = y15 := by rw [ey15, ey4, ex14, ex3]
  subst qy15
  refine lv_aload_n hx hb dL_law_983 rfl (lv_at hl 3 rfl) ?_
  refine lv_iload_n hx hb dL_law_984 rfl (lv_at hl 0 rfl) ?_
  refine lv_iconst (v := 3) hx hb dL_law_985 (by decide) ?_
  refine lv_iadd hx hb dL_law_986 ?_
  refine lv_topi (fun x16 ex16 => ?_)
  have hx16 : x16.toInt = i.toInt + 3 := z_add ex16 rfl (show (3 : Int32).toInt = 3 by decide) (by omega)
  refine va_sld hx hb hX hbl hbA hS (z_in (by omega)) dL_law_987 ?_
  refine lv_topi (fun y17 ey17 => ?_)
  have qy17 : y6 = y17 := by rw [ey17, ey6, ex16, ex5]
  subst qy17
  refine zcR_l (wx := zX k q u8) (wm := zM k q2 zm) (va_runV (As := [.int y2, .int y4, .int y6]) (rest := []) ⟨hx, hb, hml, hown, htb⟩ (c_X7_has l dC dI k q2 zm y2 y4 y6 _ hM) (cwV 3 htb (gzV wmt5_49 wmt5_50 wmt5_51 wmt1_8 wmt5_52) rfl rfl rfl (by decide +kernel) ⟨Nat.le_of_ble_eq_true rfl, Nat.le_of_ble_eq_true rfl⟩) (zpA_V (ci := 7) (q0 := 0) hK (z_PR hP) (z_DR (hDa u8 zm)) rfl rfl) rfl rfl hl.1 rfl (lv_room (Nat.le_of_ble_eq_true rfl)) dL_law_988 ⟨Nat.le_of_ble_eq_true rfl, Nat.le_of_ble_eq_true rfl⟩) hP (hDa _ _) hS hA (fun r18 u19 H locs w20 hP hS => ?_)
  obtain ⟨o21, o22, o23, o24, o25, o26, o27, o28, o29, o30, o31, o32, o33, o34, o35, o36, o37, o38⟩ := u19
  have f39 := w20
  obtain ⟨z40, ez40⟩ : ∃ x : ZS, x = (sA (sI (sJ (sJ (sA (sA (sA (sI (sI (sI (sI (sA (sA (sA (sA (sA (sA (sA zm 4 o21) 5 o22) 6 o23) 7 o24) 8 o25) 9 o26) 10 o27) 12 o28) 13 o29) 14 o30) 15 o31) 16 o32) 17 o33) 18 o34) 0 o35) 1 o36) 33 o37) 34 o38) := ⟨_, rfl⟩
  have hP : va_P (dC, dI) vwCl (zX k q u8 ++ zM k q2 z40) H := by rw [ez40]; exact hP
  have hM : MInv z40 := by rw [ez40]; exact ⟨hM.1, hM.2.1, hM.2.2.1, hM.2.2.2.1, hM.2.2.2.2.1, f39⟩
  have h3 : T3 (z40.2.2.1 37) := by rw [ez40]; exact h3
  have hT : trX u8 = trM z40 := by rw [ez40]; exact hT
  refine lv_pop2_2 hx hb dL_law_991 rfl ?_
  refine lv_goto (tgt := 1517) hx hb dL_law_992 (by decide) ?_
  exact kk _ _ H locs ⟨hI, hM, h3, hT⟩ hP hS
set_option maxHeartbeats 4000000 in
set_option maxRecDepth 100000 in
theorem lw_c23 {p : Program} {l : Launch} {e : Env} {s : State} {m : MethodId} {below : List Frame} {meth : Method} {c : Code} {b L : Nat} {xs : Nat → Int32} {dC : Nat → ClassId} {dI : Nat → Nat → Nat} {k : Nat → ClassId} {q q2 : Nat → Nat} (hL : L ≤ 3072) (C0 : lw_At p s m meth c b L xs) (hK : zK dC dI k (zTX k) s) (hDa : ∀ z1 z2 : ZS, va_D (fun a : Nat => s.heap.size ≤ a) (zX k q z1 ++ zM k q2 z2)) {zx zm : ZS} (hJ : J2 zx zm) {i : Int32} (hi : 0 ≤ i.toInt ∧ i.toInt + 6 ≤ (L : Int)) {H : Heap} {locs : List Loc} (hP : va_P (dC, dI) vwCl (zX k q zx ++ zM k q2 zm) H) (hS : va_S (fun a : Nat => s.heap.size ≤ a) s.heap H locs) {ls : Array Slot} (hl : lv_has ls 4 [(3, .int i), (2, .ref (q2 0)), (1, .ref (q 0)), (0, .ref b)]) (kk : ∀ (z1 z2 : ZS) (H : Heap) (locs : List Loc), J2 z1 z2 → va_P (dC, dI) vwCl (zX k q z1 ++ zM k q2 z2) H → va_S (fun a : Nat => s.heap.size ≤ a) s.heap H locs → W p l e room_1 s m #[Value.ref b] below meth c H locs 1000 10000 (lw_Z below #[Value.ref b] s) (F0 m 1517 ls [])) : W p l e room_1 s m #[Value.ref b] below meth c H locs 1000 10000 (lw_Z below #[Value.ref b] s) (F0 m 995 ls []) := by
  obtain ⟨hI, hM, h3, hT⟩ := hJ
  have hT0 := hT
  obtain ⟨hx, hb, hr, hml, hown, hts0, hX, hbl, hlocks, hgv⟩ := id C0
  have htb : ∀ w ∈ zw, w.before #[Value.ref b] s = true := fun w h => hts0 w (List.mem_filter.mp h).1
  have hA : ∀ q : Nat, s.heap.size ≤ q → (fun a : Nat => s.heap.size ≤ a) q := fun _ h => h
  have hbA : ¬ (fun a : Nat => s.heap.size ≤ a) b := Nat.not_le.mpr hbl
  refine lv_aload_n hx hb dL_law_995 rfl (lv_at hl 2 rfl) ?_
  refine lv_aload_n hx hb dL_law_996 rfl (lv_at hl 3 rfl) ?_
  refine lv_iload_n hx hb dL_law_997 rfl (lv_at hl 0 rfl) ?_
  refine lv_iconst (v := 1) hx hb dL_law_998 (by decide) ?_
  refine lv_iadd hx hb dL_law_999 ?_
  refine lv_topi (fun x1 ex1 => ?_)
  have hx1 : x1.toInt = i.toInt + 1 := z_add ex1 rfl (show (1 : Int32).toInt = 1 by decide) (by omega)
  refine va_sld hx hb hX hbl hbA hS (z_in (by omega)) dL_law_1000 ?_
  refine lv_topi (fun y2 ey2 => ?_)
  refine lv_aload_n hx hb dL_law_1001 rfl (lv_at hl 3 rfl) ?_
  refine lv_iload_n hx hb dL_law_1002 rfl (lv_at hl 0 rfl) ?_
  refine lv_iconst (v := 2) hx hb dL_law_1003 (by decide) ?_
  refine lv_iadd hx hb dL_law_1004 ?_
  refine lv_topi (fun x3 ex3 => ?_)
  have hx3 : x3.toInt = i.toInt + 2 := z_add ex3 rfl (show (2 : Int32).toInt = 2 by decide) (by omega)
  refine va_sld hx hb hX hbl hbA hS (z_in (by omega)) dL_law_1005 ?_
  refine lv_topi (fun y4 ey4 => ?_)
  refine zcL_l (wx := zX k q zx) (wm := zM k q2 zm) (va_runV (As := [.int y2, .int y4]) (rest := []) ⟨hx, hb, hml, hown, htb⟩ (c_X6_exposed_v l dC dI k q zx y2 y4 _ hI (by rw [hT]; exact LB_M hM)) (cwV 2 htb (gzV wmt3_26 wmt3_27 wmt3_28 wmt1_1 wmt3_29) rfl rfl rfl (by decide +kernel) ⟨Nat.le_of_ble_eq_true rfl, Nat.le_of_ble_eq_true rfl⟩) (zpA_V (ci := 6) (q0 := 0) hK (z_PL hP) (z_DL (hDa zx zm)) rfl rfl) rfl rfl hl.1 rfl (lv_room (Nat.le_of_ble_eq_true rfl)) dL_law_1006 ⟨Nat.le_of_ble_eq_true rfl, Nat.le_of_ble_eq_true rfl⟩) hP (hDa _ _) hS hA (fun r5 u6 H locs w7 hP hS => ?_)
  obtain ⟨f8, f9, f10⟩ := w7
  have hI : XInv u6 := f8
  have hT : trX u6 = trM zm := f9.trans hT
  refine lv_pop2_2 hx hb dL_law_1009 rfl ?_
  refine lv_aload_n hx hb dL_law_1010 rfl (lv_at hl 1 rfl) ?_
  refine lv_aload_n hx hb dL_law_1011 rfl (lv_at hl 3 rfl) ?_
  refine lv_iload_n hx hb dL_law_1012 rfl (lv_at hl 0 rfl) ?_
  refine lv_iconst (v := 1) hx hb dL_law_1013 (by decide) ?_
  refine lv_iadd hx hb dL_law_1014 ?_
  refine lv_topi (fun x11 ex11 => ?_)
  have hx11 : x11.toInt = i.toInt + 1 := z_add ex11 rfl (show (1 : Int32).toInt = 1 by decide) (by omega)
  refine va_sld hx hb hX hbl hbA hS (z_in (by omega)) dL_law_1015 ?_
  refine lv_topi (fun y12 ey12 => ?_)
  have qy12 : y2 = y12 := by rw [ey12, ey2, ex11, ex1]
  subst qy12
  refine lv_aload_n hx hb dL_law_1016 rfl (lv_at hl 3 rfl) ?_
  refine lv_iload_n hx hb dL_law_1017 rfl (lv_at hl 0 rfl) ?_
  refine lv_iconst (v := 2) hx hb dL_law_1018 (by decide) ?_
  refine lv_iadd hx hb dL_law_1019 ?_
  refine lv_topi (fun x13 ex13 => ?_)
  have hx13 : x13.toInt = i.toInt + 2 := z_add ex13 rfl (show (2 : Int32).toInt = 2 by decide) (by omega)
  refine va_sld hx hb hX hbl hbA hS (z_in (by omega)) dL_law_1020 ?_
  refine lv_topi (fun y14 ey14 => ?_)
  have qy14 : y4 = y14 := by rw [ey14, ey4, ex13, ex3]
  subst qy14
  refine zcR_l (wx := zX k q u6) (wm := zM k q2 zm) (va_runV (As := [.int y2, .int y4]) (rest := []) ⟨hx, hb, hml, hown, htb⟩ (c_X7_exposed l dC dI k q2 zm y2 y4 _ hM) (cwV 2 htb (gzV wmt5_53 wmt5_54 wmt5_55 wmt1_8 wmt5_56) rfl rfl rfl (by decide +kernel) ⟨Nat.le_of_ble_eq_true rfl, Nat.le_of_ble_eq_true rfl⟩) (zpA_V (ci := 7) (q0 := 0) hK (z_PR hP) (z_DR (hDa u6 zm)) rfl rfl) rfl rfl hl.1 rfl (lv_room (Nat.le_of_ble_eq_true rfl)) dL_law_1021 ⟨Nat.le_of_ble_eq_true rfl, Nat.le_of_ble_eq_true rfl⟩) hP (hDa _ _) hS hA (fun r15 u16 H locs w17 hP hS => ?_)
  obtain ⟨o18, o19, o20, o21, o22, o23, o24, o25, o26, o27, o28, o29, o30, o31, o32, o33⟩ := u16
  obtain ⟨f34, f35⟩ := w17
  obtain ⟨z36, ez36⟩ : ∃ x : ZS, x = (sJ (sJ (sA (sA (sA (sI (sI (sI (sI (sA (sA (sA (sA (sA (sA (sA zm 4 o18) 5 o19) 6 o20) 7 o21) 8 o22) 9 o23) 10 o24) 12 o25) 13 o26) 14 o27) 15 o28) 16 o29) 17 o30) 18 o31) 0 o32) 1 o33) := ⟨_, rfl⟩
  have hP : va_P (dC, dI) vwCl (zX k q u6 ++ zM k q2 z36) H := by rw [ez36]; exact hP
  have hM : MInv z36 := by rw [ez36]; exact ⟨hM.1, hM.2.1, hM.2.2.1, hM.2.2.2.1, hM.2.2.2.2.1, f34⟩
  have h3 : T3 (z36.2.2.1 37) := by rw [ez36]; exact h3
  have hp2 : r15.toInt = tExp (trM zm) y2 y4 := f35
  have hrr : r5 = r15 := Int64.toInt_inj.mp (by rw [hp2, ← hT0]; exact f10)
  have hT : trX u6 = trM z36 := by rw [ez36]; exact hT
  refine lv_pop2_2 hx hb dL_law_1024 rfl ?_
  refine lv_goto (tgt := 1517) hx hb dL_law_1025 (by decide) ?_
  exact kk _ _ H locs ⟨hI, hM, h3, hT⟩ hP hS
set_option maxHeartbeats 4000000 in
set_option maxRecDepth 100000 in
theorem lw_c24 {p : Program} {l : Launch} {e : Env} {s : State} {m : MethodId} {below : List Frame} {meth : Method} {c : Code} {b L : Nat} {xs : Nat → Int32} {dC : Nat → ClassId} {dI : Nat → Nat → Nat} {k : Nat → ClassId} {q q2 : Nat → Nat} (hL : L ≤ 3072) (C0 : lw_At p s m meth c b L xs) (hK : zK dC dI k (zTX k) s) (hDa : ∀ z1 z2 : ZS, va_D (fun a : Nat => s.heap.size ≤ a) (zX k q z1 ++ zM k q2 z2)) {zx zm : ZS} (hJ : J2 zx zm) {i : Int32} (hi : 0 ≤ i.toInt ∧ i.toInt + 6 ≤ (L : Int)) {H : Heap} {locs : List Loc} (hP : va_P (dC, dI) vwCl (zX k q zx ++ zM k q2 zm) H) (hS : va_S (fun a : Nat => s.heap.size ≤ a) s.heap H locs) {ls : Array Slot} (hl : lv_has ls 4 [(3, .int i), (2, .ref (q2 0)), (1, .ref (q 0)), (0, .ref b)]) (kk : ∀ (z1 z2 : ZS) (H : Heap) (locs : List Loc), J2 z1 z2 → va_P (dC, dI) vwCl (zX k q z1 ++ zM k q2 z2) H → va_S (fun a : Nat => s.heap.size ≤ a) s.heap H locs → W p l e room_1 s m #[Value.ref b] below meth c H locs 1000 10000 (lw_Z below #[Value.ref b] s) (F0 m 1517 ls [])) : W p l e room_1 s m #[Value.ref b] below meth c H locs 1000 10000 (lw_Z below #[Value.ref b] s) (F0 m 1028 ls []) := by
  obtain ⟨hI, hM, h3, hT⟩ := hJ
  have hT0 := hT
  obtain ⟨hx, hb, hr, hml, hown, hts0, hX, hbl, hlocks, hgv⟩ := id C0
  have htb : ∀ w ∈ zw, w.before #[Value.ref b] s = true := fun w h => hts0 w (List.mem_filter.mp h).1
  have hA : ∀ q : Nat, s.heap.size ≤ q → (fun a : Nat => s.heap.size ≤ a) q := fun _ h => h
  have hbA : ¬ (fun a : Nat => s.heap.size ≤ a) b := Nat.not_le.mpr hbl
  refine lv_aload_n hx hb dL_law_1028 rfl (lv_at hl 2 rfl) ?_
  refine lv_aload_n hx hb dL_law_1029 rfl (lv_at hl 3 rfl) ?_
  refine lv_iload_n hx hb dL_law_1030 rfl (lv_at hl 0 rfl) ?_
  refine lv_iconst (v := 1) hx hb dL_law_1031 (by decide) ?_
  refine lv_iadd hx hb dL_law_1032 ?_
  refine lv_topi (fun x1 ex1 => ?_)
  have hx1 : x1.toInt = i.toInt + 1 := z_add ex1 rfl (show (1 : Int32).toInt = 1 by decide) (by omega)
  refine va_sld hx hb hX hbl hbA hS (z_in (by omega)) dL_law_1033 ?_
  refine lv_topi (fun y2 ey2 => ?_)
  refine zcL_i (wx := zX k q zx) (wm := zM k q2 zm) (va_runV (As := [.int y2]) (rest := []) ⟨hx, hb, hml, hown, htb⟩ (c_X6_limit l dC dI k q zx y2 _ hI) (cwV 1 htb (gzV wmt3_38 wmt3_39 wmt3_40 wmt1_1 wmt3_41) rfl rfl rfl (by decide +kernel) ⟨Nat.le_of_ble_eq_true rfl, Nat.le_of_ble_eq_true rfl⟩) (zpA_V (ci := 6) (q0 := 0) hK (z_PL hP) (z_DL (hDa zx zm)) rfl rfl) rfl rfl hl.1 rfl (lv_room (Nat.le_of_ble_eq_true rfl)) dL_law_1034 ⟨Nat.le_of_ble_eq_true rfl, Nat.le_of_ble_eq_true rfl⟩) hP (hDa _ _) hS hA (fun r3 u4 H locs w5 hP hS => ?_)
  obtain ⟨f6, f7⟩ := w5
  have hI : XInv u4 := f6
  refine lv_aload_n hx hb dL_law_1037 rfl (lv_at hl 1 rfl) ?_
  refine lv_aload_n hx hb dL_law_1038 rfl (lv_at hl 3 rfl) ?_
  refine lv_iload_n hx hb dL_law_1039 rfl (lv_at hl 0 rfl) ?_
  refine lv_iconst (v := 1) hx hb dL_law_1040 (by decide) ?_
  refine lv_iadd hx hb dL_law_1041 ?_
  refine lv_topi (fun x8 ex8 => ?_)
  have hx8 : x8.toInt = i.toInt + 1 := z_add ex8 rfl (show (1 : Int32).toInt = 1 by decide) (by omega)
  refine va_sld hx hb hX hbl hbA hS (z_in (by omega)) dL_law_1042 ?_
  refine lv_topi (fun y9 ey9 => ?_)
  have qy9 : y2 = y9 := by rw [ey9, ey2, ex8, ex1]
  subst qy9
  refine zcR_i (wx := zX k q u4) (wm := zM k q2 zm) (va_runV (As := [.int y2]) (rest := [.int r3]) ⟨hx, hb, hml, hown, htb⟩ (c_X7_limit l dC dI k q2 zm y2 _ hM) (cwV 1 htb (gzV wmt5_61 wmt5_62 wmt5_63 wmt1_8 wmt5_64) rfl rfl rfl (by decide +kernel) ⟨Nat.le_of_ble_eq_true rfl, Nat.le_of_ble_eq_true rfl⟩) (zpA_V (ci := 7) (q0 := 0) hK (z_PR hP) (z_DR (hDa u4 zm)) rfl rfl) rfl rfl hl.1 rfl (lv_room (Nat.le_of_ble_eq_true rfl)) dL_law_1043 ⟨Nat.le_of_ble_eq_true rfl, Nat.le_of_ble_eq_true rfl⟩) hP (hDa _ _) hS hA (fun r10 u11 H locs w12 hP hS => ?_)
  obtain ⟨o13, rfl⟩ : ∃ y, y = u11 := ⟨_, rfl⟩
  obtain ⟨f14, f15⟩ := w12
  obtain ⟨z16, ez16⟩ : ∃ x : ZS, x = (sI zm 35 o13) := ⟨_, rfl⟩
  have hP : va_P (dC, dI) vwCl (zX k q u4 ++ zM k q2 z16) H := by rw [ez16]; exact hP
  have hM : MInv z16 := by rw [ez16]; exact f14
  have h3 : T3 (z16.2.2.1 37) := by rw [ez16]; exact h3
  have hp2 : (r10, trM z16) = tLimit (trM zm) y2 := by rw [ez16]; exact f15
  have hpp : (r3, trX u4) = (r10, trM z16) := by rw [hp2, ← hT]; exact f7
  have hrr : r3 = r10 := (Prod.mk.inj hpp).1
  have hT : trX u4 = trM z16 := (Prod.mk.inj hpp).2
  refine lv_icmp_eq (tgt := 1517) hx hb dL_law_1046 (by decide) (fun c_1 => ?_) (fun c_1 => ?_)
  · exact kk _ _ H locs ⟨hI, hM, h3, hT⟩ hP hS
  · exact absurd hrr c_1
set_option maxHeartbeats 4000000 in
set_option maxRecDepth 100000 in
theorem lw_c25 {p : Program} {l : Launch} {e : Env} {s : State} {m : MethodId} {below : List Frame} {meth : Method} {c : Code} {b L : Nat} {xs : Nat → Int32} {dC : Nat → ClassId} {dI : Nat → Nat → Nat} {k : Nat → ClassId} {q q2 : Nat → Nat} (hL : L ≤ 3072) (C0 : lw_At p s m meth c b L xs) (hK : zK dC dI k (zTX k) s) (hDa : ∀ z1 z2 : ZS, va_D (fun a : Nat => s.heap.size ≤ a) (zX k q z1 ++ zM k q2 z2)) {zx zm : ZS} (hJ : J2 zx zm) {i : Int32} (hi : 0 ≤ i.toInt ∧ i.toInt + 6 ≤ (L : Int)) {H : Heap} {locs : List Loc} (hP : va_P (dC, dI) vwCl (zX k q zx ++ zM k q2 zm) H) (hS : va_S (fun a : Nat => s.heap.size ≤ a) s.heap H locs) {ls : Array Slot} (hl : lv_has ls 4 [(3, .int i), (2, .ref (q2 0)), (1, .ref (q 0)), (0, .ref b)]) (kk : ∀ (z1 z2 : ZS) (H : Heap) (locs : List Loc), J2 z1 z2 → va_P (dC, dI) vwCl (zX k q z1 ++ zM k q2 z2) H → va_S (fun a : Nat => s.heap.size ≤ a) s.heap H locs → W p l e room_1 s m #[Value.ref b] below meth c H locs 1000 10000 (lw_Z below #[Value.ref b] s) (F0 m 1517 ls [])) : W p l e room_1 s m #[Value.ref b] below meth c H locs 1000 10000 (lw_Z below #[Value.ref b] s) (F0 m 1051 ls []) := by
  obtain ⟨hI, hM, h3, hT⟩ := hJ
  have hT0 := hT
  obtain ⟨hx, hb, hr, hml, hown, hts0, hX, hbl, hlocks, hgv⟩ := id C0
  have htb : ∀ w ∈ zw, w.before #[Value.ref b] s = true := fun w h => hts0 w (List.mem_filter.mp h).1
  have hA : ∀ q : Nat, s.heap.size ≤ q → (fun a : Nat => s.heap.size ≤ a) q := fun _ h => h
  have hbA : ¬ (fun a : Nat => s.heap.size ≤ a) b := Nat.not_le.mpr hbl
  refine lv_aload_n hx hb dL_law_1051 rfl (lv_at hl 2 rfl) ?_
  refine lv_aload_n hx hb dL_law_1052 rfl (lv_at hl 3 rfl) ?_
  refine lv_iload_n hx hb dL_law_1053 rfl (lv_at hl 0 rfl) ?_
  refine lv_iconst (v := 1) hx hb dL_law_1054 (by decide) ?_
  refine lv_iadd hx hb dL_law_1055 ?_
  refine lv_topi (fun x1 ex1 => ?_)
  have hx1 : x1.toInt = i.toInt + 1 := z_add ex1 rfl (show (1 : Int32).toInt = 1 by decide) (by omega)
  refine va_sld hx hb hX hbl hbA hS (z_in (by omega)) dL_law_1056 ?_
  refine lv_topi (fun y2 ey2 => ?_)
  refine lv_aload_n hx hb dL_law_1057 rfl (lv_at hl 3 rfl) ?_
  refine lv_iload_n hx hb dL_law_1058 rfl (lv_at hl 0 rfl) ?_
  refine lv_iconst (v := 2) hx hb dL_law_1059 (by decide) ?_
  refine lv_iadd hx hb dL_law_1060 ?_
  refine lv_topi (fun x3 ex3 => ?_)
  have hx3 : x3.toInt = i.toInt + 2 := z_add ex3 rfl (show (2 : Int32).toInt = 2 by decide) (by omega)
  refine va_sld hx hb hX hbl hbA hS (z_in (by omega)) dL_law_1061 ?_
  refine lv_topi (fun y4 ey4 => ?_)
  refine zcL_i (wx := zX k q zx) (wm := zM k q2 zm) (va_runV (As := [.int y2, .int y4]) (rest := []) ⟨hx, hb, hml, hown, htb⟩ (c_X6_may l dC dI k q zx y2 y4 _ hI) (cwV 2 htb (gzV wmt3_42 wmt3_43 wmt3_44 wmt1_1 wmt3_45) rfl rfl rfl (by decide +kernel) ⟨Nat.le_of_ble_eq_true rfl, Nat.le_of_ble_eq_true rfl⟩) (zpA_V (ci := 6) (q0 := 0) hK (z_PL hP) (z_DL (hDa zx zm)) rfl rfl) rfl rfl hl.1 rfl (lv_room (Nat.le_of_ble_eq_true rfl)) dL_law_1062 ⟨Nat.le_of_ble_eq_true rfl, Nat.le_of_ble_eq_true rfl⟩) hP (hDa _ _) hS hA (fun r5 u6 H locs w7 hP hS => ?_)
  obtain ⟨f8, f9⟩ := w7
  have hI : XInv u6 := f8
  have hT : trX u6 = trM zm := f9.trans hT
  refine lv_pop hx hb dL_law_1065 rfl ?_
  refine lv_aload_n hx hb dL_law_1066 rfl (lv_at hl 1 rfl) ?_
  refine lv_aload_n hx hb dL_law_1067 rfl (lv_at hl 3 rfl) ?_
  refine lv_iload_n hx hb dL_law_1068 rfl (lv_at hl 0 rfl) ?_
  refine lv_iconst (v := 1) hx hb dL_law_1069 (by decide) ?_
  refine lv_iadd hx hb dL_law_1070 ?_
  refine lv_topi (fun x10 ex10 => ?_)
  have hx10 : x10.toInt = i.toInt + 1 := z_add ex10 rfl (show (1 : Int32).toInt = 1 by decide) (by omega)
  refine va_sld hx hb hX hbl hbA hS (z_in (by omega)) dL_law_1071 ?_
  refine lv_topi (fun y11 ey11 => ?_)
  have qy11 : y2 = y11 := by rw [ey11, ey2, ex10, ex1]
  subst qy11
  refine lv_aload_n hx hb dL_law_1072 rfl (lv_at hl 3 rfl) ?_
  refine lv_iload_n hx hb dL_law_1073 rfl (lv_at hl 0 rfl) ?_
  refine lv_iconst (v := 2) hx hb dL_law_1074 (by decide) ?_
  refine lv_iadd hx hb dL_law_1075 ?_
  refine lv_topi (fun x12 ex12 => ?_)
  have hx12 : x12.toInt = i.toInt + 2 := z_add ex12 rfl (show (2 : Int32).toInt = 2 by decide) (by omega)
  refine va_sld hx hb hX hbl hbA hS (z_in (by omega)) dL_law_1076 ?_
  refine lv_topi (fun y13 ey13 => ?_)
  have qy13 : y4 = y13 := by rw [ey13, ey4, ex12, ex3]
  subst qy13
  refine zcR_i (wx := zX k q u6) (wm := zM k q2 zm) (va_runV (As := [.int y2, .int y4]) (rest := []) ⟨hx, hb, hml, hown, htb⟩ (c_X7_may l dC dI k q2 zm y2 y4 _ hM) (cwV 2 htb (gzV wmt5_65 wmt5_66 wmt5_67 wmt1_8 wmt5_68) rfl rfl rfl (by decide +kernel) ⟨Nat.le_of_ble_eq_true rfl, Nat.le_of_ble_eq_true rfl⟩) (zpA_V (ci := 7) (q0 := 0) hK (z_PR hP) (z_DR (hDa u6 zm)) rfl rfl) rfl rfl hl.1 rfl (lv_room (Nat.le_of_ble_eq_true rfl)) dL_law_1077 ⟨Nat.le_of_ble_eq_true rfl, Nat.le_of_ble_eq_true rfl⟩) hP (hDa _ _) hS hA (fun r14 u15 H locs w16 hP hS => ?_)
  obtain ⟨o17, o18, o19, o20, o21, o22, o23, o24, o25, o26, o27, o28, o29, o30, o31, o32, o33, o34⟩ := u15
  have f35 := w16
  obtain ⟨z36, ez36⟩ : ∃ x : ZS, x = (sA (sI (sJ (sJ (sA (sA (sA (sI (sI (sI (sI (sA (sA (sA (sA (sA (sA (sA zm 4 o17) 5 o18) 6 o19) 7 o20) 8 o21) 9 o22) 10 o23) 12 o24) 13 o25) 14 o26) 15 o27) 16 o28) 17 o29) 18 o30) 0 o31) 1 o32) 33 o33) 34 o34) := ⟨_, rfl⟩
  have hP : va_P (dC, dI) vwCl (zX k q u6 ++ zM k q2 z36) H := by rw [ez36]; exact hP
  have hM : MInv z36 := by rw [ez36]; exact ⟨hM.1, hM.2.1, hM.2.2.1, hM.2.2.2.1, hM.2.2.2.2.1, f35⟩
  have h3 : T3 (z36.2.2.1 37) := by rw [ez36]; exact h3
  have hT : trX u6 = trM z36 := by rw [ez36]; exact hT
  refine lv_pop hx hb dL_law_1080 rfl ?_
  refine lv_goto (tgt := 1517) hx hb dL_law_1081 (by decide) ?_
  exact kk _ _ H locs ⟨hI, hM, h3, hT⟩ hP hS
set_option maxHeartbeats 4000000 in
set_option maxRecDepth 100000 in
theorem lw_c26 {p : Program} {l : Launch} {e : Env} {s : State} {m : MethodId} {below : List Frame} {meth : Method} {c : Code} {b L : Nat} {xs : Nat → Int32} {dC : Nat → ClassId} {dI : Nat → Nat → Nat} {k : Nat → ClassId} {q q2 : Nat → Nat} (hL : L ≤ 3072) (C0 : lw_At p s m meth c b L xs) (hK : zK dC dI k (zTX k) s) (hDa : ∀ z1 z2 : ZS, va_D (fun a : Nat => s.heap.size ≤ a) (zX k q z1 ++ zM k q2 z2)) {zx zm : ZS} (hJ : J2 zx zm) {i : Int32} (hi : 0 ≤ i.toInt ∧ i.toInt + 6 ≤ (L : Int)) {H : Heap} {locs : List Loc} (hP : va_P (dC, dI) vwCl (zX k q zx ++ zM k q2 zm) H) (hS : va_S (fun a : Nat => s.heap.size ≤ a) s.heap H locs) {ls : Array Slot} (hl : lv_has ls 4 [(3, .int i), (2, .ref (q2 0)), (1, .ref (q 0)), (0, .ref b)]) (kk : ∀ (z1 z2 : ZS) (H : Heap) (locs : List Loc), J2 z1 z2 → va_P (dC, dI) vwCl (zX k q z1 ++ zM k q2 z2) H → va_S (fun a : Nat => s.heap.size ≤ a) s.heap H locs → W p l e room_1 s m #[Value.ref b] below meth c H locs 1000 10000 (lw_Z below #[Value.ref b] s) (F0 m 1517 ls [])) : W p l e room_1 s m #[Value.ref b] below meth c H locs 1000 10000 (lw_Z below #[Value.ref b] s) (F0 m 1084 ls []) := by
  obtain ⟨hI, hM, h3, hT⟩ := hJ
  have hT0 := hT
  obtain ⟨hx, hb, hr, hml, hown, hts0, hX, hbl, hlocks, hgv⟩ := id C0
  have htb : ∀ w ∈ zw, w.before #[Value.ref b] s = true := fun w h => hts0 w (List.mem_filter.mp h).1
  have hA : ∀ q : Nat, s.heap.size ≤ q → (fun a : Nat => s.heap.size ≤ a) q := fun _ h => h
  have hbA : ¬ (fun a : Nat => s.heap.size ≤ a) b := Nat.not_le.mpr hbl
  refine lv_aload_n hx hb dL_law_1084 rfl (lv_at hl 2 rfl) ?_
  refine lv_aload_n hx hb dL_law_1085 rfl (lv_at hl 3 rfl) ?_
  refine lv_iload_n hx hb dL_law_1086 rfl (lv_at hl 0 rfl) ?_
  refine lv_iconst (v := 1) hx hb dL_law_1087 (by decide) ?_
  refine lv_iadd hx hb dL_law_1088 ?_
  refine lv_topi (fun x1 ex1 => ?_)
  have hx1 : x1.toInt = i.toInt + 1 := z_add ex1 rfl (show (1 : Int32).toInt = 1 by decide) (by omega)
  refine va_sld hx hb hX hbl hbA hS (z_in (by omega)) dL_law_1089 ?_
  refine lv_topi (fun y2 ey2 => ?_)
  refine lv_aload_n hx hb dL_law_1090 rfl (lv_at hl 3 rfl) ?_
  refine lv_iload_n hx hb dL_law_1091 rfl (lv_at hl 0 rfl) ?_
  refine lv_iconst (v := 2) hx hb dL_law_1092 (by decide) ?_
  refine lv_iadd hx hb dL_law_1093 ?_
  refine lv_topi (fun x3 ex3 => ?_)
  have hx3 : x3.toInt = i.toInt + 2 := z_add ex3 rfl (show (2 : Int32).toInt = 2 by decide) (by omega)
  refine va_sld hx hb hX hbl hbA hS (z_in (by omega)) dL_law_1094 ?_
  refine lv_topi (fun y4 ey4 => ?_)
  refine lv_aload_n hx hb dL_law_1095 rfl (lv_at hl 3 rfl) ?_
  refine lv_iload_n hx hb dL_law_1096 rfl (lv_at hl 0 rfl) ?_
  refine lv_iconst (v := 3) hx hb dL_law_1097 (by decide) ?_
  refine lv_iadd hx hb dL_law_1098 ?_
  refine lv_topi (fun x5 ex5 => ?_)
  have hx5 : x5.toInt = i.toInt + 3 := z_add ex5 rfl (show (3 : Int32).toInt = 3 by decide) (by omega)
  refine va_sld hx hb hX hbl hbA hS (z_in (by omega)) dL_law_1099 ?_
  refine lv_topi (fun y6 ey6 => ?_)
  refine zcL_i (wx := zX k q zx) (wm := zM k q2 zm) (va_runV (As := [.int y2, .int y4, .int y6]) (rest := []) ⟨hx, hb, hml, hown, htb⟩ (c_X6_best l dC dI k q zx y2 y4 y6 _ hI) (cwV 3 htb (gzV wmt3_54 wmt3_55 wmt3_56 wmt1_1 wmt3_57) rfl rfl rfl (by decide +kernel) ⟨Nat.le_of_ble_eq_true rfl, Nat.le_of_ble_eq_true rfl⟩) (zpA_V (ci := 6) (q0 := 0) hK (z_PL hP) (z_DL (hDa zx zm)) rfl rfl) rfl rfl hl.1 rfl (lv_room (Nat.le_of_ble_eq_true rfl)) dL_law_1100 ⟨Nat.le_of_ble_eq_true rfl, Nat.le_of_ble_eq_true rfl⟩) hP (hDa _ _) hS hA (fun r7 u8 H locs w9 hP hS => ?_)
  have f10 := w9
  refine lv_pop hx hb dL_law_1103 rfl ?_
  refine lv_aload_n hx hb dL_law_1104 rfl (lv_at hl 1 rfl) ?_
  refine lv_aload_n hx hb dL_law_1105 rfl (lv_at hl 3 rfl) ?_
  refine lv_iload_n hx hb dL_law_1106 rfl (lv_at hl 0 rfl) ?_
  refine lv_iconst (v := 1) hx hb dL_law_1107 (by decide) ?_
  refine lv_iadd hx hb dL_law_1108 ?_
  refine lv_topi (fun x11 ex11 => ?_)
  have hx11 : x11.toInt = i.toInt + 1 := z_add ex11 rfl (show (1 : Int32).toInt = 1 by decide) (by omega)
  refine va_sld hx hb hX hbl hbA hS (z_in (by omega)) dL_law_1109 ?_
  refine lv_topi (fun y12 ey12 => ?_)
  have qy12 : y2 = y12 := by rw [ey12, ey2, ex11, ex1]
  subst qy12
  refine lv_aload_n hx hb dL_law_1110 rfl (lv_at hl 3 rfl) ?_
  refine lv_iload_n hx hb dL_law_1111 rfl (lv_at hl 0 rfl) ?_
  refine lv_iconst (v := 2) hx hb dL_law_1112 (by decide) ?_
  refine lv_iadd hx hb dL_law_1113 ?_
  refine lv_topi (fun x13 ex13 => ?_)
  have hx13 : x13.toInt = i.toInt + 2 := z_add ex13 rfl (show (2 : Int32).toInt = 2 by decide) (by omega)
  refine va_sld hx hb hX hbl hbA hS (z_in (by omega)) dL_law_1114 ?_
  refine lv_topi (fun y14 ey14 => ?_)
  have qy14 : y4 = y14 := by rw [ey14, ey4, ex13, ex3]
  subst qy14
  refine lv_aload_n hx hb dL_law_1115 rfl (lv_at hl 3 rfl) ?_
  refine lv_iload_n hx hb dL_law_1116 rfl (lv_at hl 0 rfl) ?_
  refine lv_iconst (v := 3) hx hb dL_law_1117 (by decide) ?_
  refine lv_iadd hx hb dL_law_1118 ?_
  refine lv_topi (fun x15 ex15 => ?_)
  have hx15 : x15.toInt = i.toInt + 3 := z_add ex15 rfl (show (3 : Int32).toInt = 3 by decide) (by omega)
  refine va_sld hx hb hX hbl hbA hS (z_in (by omega)) dL_law_1119 ?_
  refine lv_topi (fun y16 ey16 => ?_)
  have qy16 : y6 = y16 := by rw [ey16, ey6, ex15, ex5]
  subst qy16
  refine zcR_i (wx := zX k q zx) (wm := zM k q2 zm) (va_runV (As := [.int y2, .int y4, .int y6]) (rest := []) ⟨hx, hb, hml, hown, htb⟩ (c_X7_best l dC dI k q2 zm y2 y4 y6 _ hM) (cwV 3 htb (gzV wmt5_77 wmt5_78 wmt5_79 wmt1_8 wmt5_80) rfl rfl rfl (by decide +kernel) ⟨Nat.le_of_ble_eq_true rfl, Nat.le_of_ble_eq_true rfl⟩) (zpA_V (ci := 7) (q0 := 0) hK (z_PR hP) (z_DR (hDa zx zm)) rfl rfl) rfl rfl hl.1 rfl (lv_room (Nat.le_of_ble_eq_true rfl)) dL_law_1120 ⟨Nat.le_of_ble_eq_true rfl, Nat.le_of_ble_eq_true rfl⟩) hP (hDa _ _) hS hA (fun r17 u18 H locs w19 hP hS => ?_)
  have f20 := w19
  have hp2 : r17 = tBest y2 y4 y6 := f20
  have hrr : r7 = r17 := f10.trans hp2.symm
  refine lv_pop hx hb dL_law_1123 rfl ?_
  refine lv_goto (tgt := 1517) hx hb dL_law_1124 (by decide) ?_
  exact kk _ _ H locs ⟨hI, hM, h3, hT⟩ hP hS
set_option maxHeartbeats 4000000 in
set_option maxRecDepth 100000 in
theorem lw_c27 {p : Program} {l : Launch} {e : Env} {s : State} {m : MethodId} {below : List Frame} {meth : Method} {c : Code} {b L : Nat} {xs : Nat → Int32} {dC : Nat → ClassId} {dI : Nat → Nat → Nat} {k : Nat → ClassId} {q q2 : Nat → Nat} (hL : L ≤ 3072) (C0 : lw_At p s m meth c b L xs) (hK : zK dC dI k (zTX k) s) (hDa : ∀ z1 z2 : ZS, va_D (fun a : Nat => s.heap.size ≤ a) (zX k q z1 ++ zM k q2 z2)) {zx zm : ZS} (hJ : J2 zx zm) {i : Int32} (hi : 0 ≤ i.toInt ∧ i.toInt + 6 ≤ (L : Int)) {H : Heap} {locs : List Loc} (hP : va_P (dC, dI) vwCl (zX k q zx ++ zM k q2 zm) H) (hS : va_S (fun a : Nat => s.heap.size ≤ a) s.heap H locs) {ls : Array Slot} (hl : lv_has ls 4 [(3, .int i), (2, .ref (q2 0)), (1, .ref (q 0)), (0, .ref b)]) (kk : ∀ (z1 z2 : ZS) (H : Heap) (locs : List Loc), J2 z1 z2 → va_P (dC, dI) vwCl (zX k q z1 ++ zM k q2 z2) H → va_S (fun a : Nat => s.heap.size ≤ a) s.heap H locs → W p l e room_1 s m #[Value.ref b] below meth c H locs 1000 10000 (lw_Z below #[Value.ref b] s) (F0 m 1517 ls [])) : W p l e room_1 s m #[Value.ref b] below meth c H locs 1000 10000 (lw_Z below #[Value.ref b] s) (F0 m 1127 ls []) := by
  obtain ⟨hI, hM, h3, hT⟩ := hJ
  have hT0 := hT
  obtain ⟨hx, hb, hr, hml, hown, hts0, hX, hbl, hlocks, hgv⟩ := id C0
  have htb : ∀ w ∈ zw, w.before #[Value.ref b] s = true := fun w h => hts0 w (List.mem_filter.mp h).1
  have hA : ∀ q : Nat, s.heap.size ≤ q → (fun a : Nat => s.heap.size ≤ a) q := fun _ h => h
  have hbA : ¬ (fun a : Nat => s.heap.size ≤ a) b := Nat.not_le.mpr hbl
  refine lv_aload_n hx hb dL_law_1127 rfl (lv_at hl 2 rfl) ?_
  refine lv_aload_n hx hb dL_law_1128 rfl (lv_at hl 3 rfl) ?_
  refine lv_iload_n hx hb dL_law_1129 rfl (lv_at hl 0 rfl) ?_
  refine lv_iconst (v := 1) hx hb dL_law_1130 (by decide) ?_
  refine lv_iadd hx hb dL_law_1131 ?_
  refine lv_topi (fun x1 ex1 => ?_)
  have hx1 : x1.toInt = i.toInt + 1 := z_add ex1 rfl (show (1 : Int32).toInt = 1 by decide) (by omega)
  refine va_sld hx hb hX hbl hbA hS (z_in (by omega)) dL_law_1132 ?_
  refine lv_topi (fun y2 ey2 => ?_)
  refine lv_aload_n hx hb dL_law_1133 rfl (lv_at hl 3 rfl) ?_
  refine lv_iload_n hx hb dL_law_1134 rfl (lv_at hl 0 rfl) ?_
  refine lv_iconst (v := 2) hx hb dL_law_1135 (by decide) ?_
  refine lv_iadd hx hb dL_law_1136 ?_
  refine lv_topi (fun x3 ex3 => ?_)
  have hx3 : x3.toInt = i.toInt + 2 := z_add ex3 rfl (show (2 : Int32).toInt = 2 by decide) (by omega)
  refine va_sld hx hb hX hbl hbA hS (z_in (by omega)) dL_law_1137 ?_
  refine lv_topi (fun y4 ey4 => ?_)
  refine lv_aload_n hx hb dL_law_1138 rfl (lv_at hl 3 rfl) ?_
  refine lv_iload_n hx hb dL_law_1139 rfl (lv_at hl 0 rfl) ?_
  refine lv_iconst (v := 3) hx hb dL_law_1140 (by decide) ?_
  refine lv_iadd hx hb dL_law_1141 ?_
  refine lv_topi (fun x5 ex5 => ?_)
  have hx5 : x5.toInt = i.toInt + 3 := z_add ex5 rfl (show (3 : Int32).toInt = 3 by decide) (by omega)
  refine va_sld hx hb hX hbl hbA hS (z_in (by omega)) dL_law_1142 ?_
  refine lv_topi (fun y6 ey6 => ?_)
  refine lv_aload_n hx hb dL_law_1143 rfl (lv_at hl 3 rfl) ?_
  refine lv_iload_n hx hb dL_law_1144 rfl (lv_at hl 0 rfl) ?_
  refine lv_iconst (v := 4) hx hb dL_law_1145 (by decide) ?_
  refine lv_iadd hx hb dL_law_1146 ?_
  refine lv_topi (fun x7 ex7 => ?_)
  have hx7 : x7.toInt = i.toInt + 4 := z_add ex7 rfl (show (4 : Int32).toInt = 4 by decide) (by omega)
  refine va_sld hx hb hX hbl hbA hS (z_in (by omega)) dL_law_1147 ?_
  refine lv_topi (fun y8 ey8 => ?_)
  refine lv_aload_n hx hb dL_law_1148 rfl (lv_at hl 3 rfl) ?_
  refine lv_iload_n hx hb dL_law_1149 rfl (lv_at hl 0 rfl) ?_
  refine lv_iconst (v := 5) hx hb dL_law_1150 (by decide) ?_
  refine lv_iadd hx hb dL_law_1151 ?_
  refine lv_topi (fun x9 ex9 => ?_)
  have hx9 : x9.toInt = i.toInt + 5 := z_add ex9 rfl (show (5 : Int32).toInt = 5 by decide) (by omega)
  refine va_sld hx hb hX hbl hbA hS (z_in (by omega)) dL_law_1152 ?_
  refine lv_topi (fun y10 ey10 => ?_)
  refine zcL_l (wx := zX k q zx) (wm := zM k q2 zm) (va_runV (As := [.int y2, .int y4, .int y6, .int y8, .int y10]) (rest := []) ⟨hx, hb, hml, hown, htb⟩ (c_X6_parted l dC dI k q zx y2 y4 y6 y8 y10 _ hI) (cwV 5 htb (gzV wmt3_65 wmt3_66 wmt3_67 wmt1_1 wmt3_68) rfl rfl rfl (by decide +kernel) ⟨Nat.le_of_ble_eq_true rfl, Nat.le_of_ble_eq_true rfl⟩) (zpA_V (ci := 6) (q0 := 0) hK (z_PL hP) (z_DL (hDa zx zm)) rfl rfl) rfl rfl hl.1 rfl (lv_room (Nat.le_of_ble_eq_true rfl)) dL_law_1153 ⟨Nat.le_of_ble_eq_true rfl, Nat.le_of_ble_eq_true rfl⟩) hP (hDa _ _) hS hA (fun r11 u12 H locs w13 hP hS => ?_)
  obtain ⟨f14, f15⟩ := w13
  have hI : XInv u12 := f14
  have hT : trX u12 = trM zm := f15.trans hT
  refine lv_pop2_2 hx hb dL_law_1156 rfl ?_
  refine lv_aload_n hx hb dL_law_1157 rfl (lv_at hl 1 rfl) ?_
  refine lv_aload_n hx hb dL_law_1158 rfl (lv_at hl 3 rfl) ?_
  refine lv_iload_n hx hb dL_law_1159 rfl (lv_at hl 0 rfl) ?_
  refine lv_iconst (v := 1) hx hb dL_law_1160 (by decide) ?_
  refine lv_iadd hx hb dL_law_1161 ?_
  refine lv_topi (fun x16 ex16 => ?_)
  have hx16 : x16.toInt = i.toInt + 1 := z_add ex16 rfl (show (1 : Int32).toInt = 1 by decide) (by omega)
  refine va_sld hx hb hX hbl hbA hS (z_in (by omega)) dL_law_1162 ?_
  refine lv_topi (fun y17 ey17 => ?_)
  have qy17 : y2 = y17 := by rw [ey17, ey2, ex16, ex1]
  subst qy17
  refine lv_aload_n hx hb dL_law_1163 rfl (lv_at hl 3 rfl) ?_
  refine lv_iload_n hx hb dL_law_1164 rfl (lv_at hl 0 rfl) ?_
  refine lv_iconst (v := 2) hx hb dL_law_1165 (by decide) ?_
  refine lv_iadd hx hb dL_law_1166 ?_
  refine lv_topi (fun x18 ex18 => ?_)
  have hx18 : x18.toInt = i.toInt + 2 := z_add ex18 rfl (show (2 : Int32).toInt = 2 by decide) (by omega)
  refine va_sld hx hb hX hbl hbA hS (z_in (by omega)) dL_law_1167 ?_
  refine lv_topi (fun y19 ey19 => ?_)
  have qy19 : y4 = y19 := by rw [ey19, ey4, ex18, ex3]
  subst qy19
  refine lv_aload_n hx hb dL_law_1168 rfl (lv_at hl 3 rfl) ?_
  refine lv_iload_n hx hb dL_law_1169 rfl (lv_at hl 0 rfl) ?_
  refine lv_iconst (v := 3) hx hb dL_law_1170 (by decide) ?_
  refine lv_iadd hx hb dL_law_1171 ?_
  refine lv_topi (fun x20 ex20 => ?_)
  have hx20 : x20.toInt = i.toInt + 3 := z_add ex20 rfl (show (3 : Int32).toInt = 3 by decide) (by omega)
  refine va_sld hx hb hX hbl hbA hS (z_in (by omega)) dL_law_1172 ?_
  refine lv_topi (fun y21 ey21 => ?_)
  have qy21 : y6 = y21 := by rw [ey21, ey6, ex20, ex5]
  subst qy21
  refine lv_aload_n hx hb dL_law_1173 rfl (lv_at hl 3 rfl) ?_
  refine lv_iload_n hx hb dL_law_1174 rfl (lv_at hl 0 rfl) ?_
  refine lv_iconst (v := 4) hx hb dL_law_1175 (by decide) ?_
  refine lv_iadd hx hb dL_law_1176 ?_
  refine lv_topi (fun x22 ex22 => ?_)
  have hx22 : x22.toInt = i.toInt + 4 := z_add ex22 rfl (show (4 : Int32).toInt = 4 by decide) (by omega)
  refine va_sld hx hb hX hbl hbA hS (z_in (by omega)) dL_law_1177 ?_
  refine lv_topi (fun y23 ey23 => ?_)
  have qy23 : y8 = y23 := by rw [ey23, ey8, ex22, ex7]
  subst qy23
  refine lv_aload_n hx hb dL_law_1178 rfl (lv_at hl 3 rfl) ?_
  refine lv_iload_n hx hb dL_law_1179 rfl (lv_at hl 0 rfl) ?_
  refine lv_iconst (v := 5) hx hb dL_law_1180 (by decide) ?_
  refine lv_iadd hx hb dL_law_1181 ?_
  refine lv_topi (fun x24 ex24 => ?_)
  have hx24 : x24.toInt = i.toInt + 5 := z_add ex24 rfl (show (5 : Int32).toInt = 5 by decide) (by omega)
  refine va_sld hx hb hX hbl hbA hS (z_in (by omega)) dL_law_1182 ?_
  refine lv_topi (fun y25 ey25 => ?_)
  have qy25 : y10 = y25 := by rw [ey25, ey10, ex24, ex9]
  subst qy25
  refine zcR_l (wx := zX k q u12) (wm := zM k q2 zm) (va_runV (As := [.int y2, .int y4, .int y6, .int y8, .int y10]) (rest := []) ⟨hx, hb, hml, hown, htb⟩ (c_X7_parted l dC dI k q2 zm y2 y4 y6 y8 y10 _ hM) (cwV 5 htb (gzV wmt5_82 wmt5_83 wmt5_84 wmt1_8 wmt5_85) rfl rfl rfl (by decide +kernel) ⟨Nat.le_of_ble_eq_true rfl, Nat.le_of_ble_eq_true rfl⟩) (zpA_V (ci := 7) (q0 := 0) hK (z_PR hP) (z_DR (hDa u12 zm)) rfl rfl) rfl rfl hl.1 rfl (lv_room (Nat.le_of_ble_eq_true rfl)) dL_law_1183 ⟨Nat.le_of_ble_eq_true rfl, Nat.le_of_ble_eq_true rfl⟩) hP (hDa _ _) hS hA (fun r26 u27 H locs w28 hP hS => ?_)
  obtain ⟨o29, o30, o31, o32, o33, o34, o35, o36, o37, o38, o39, o40, o41, o42, o43, o44, o45⟩ := u27
  have f46 := w28
  obtain ⟨z47, ez47⟩ : ∃ x : ZS, x = (sI (sJ (sJ (sA (sA (sA (sI (sI (sI (sI (sA (sA (sA (sA (sA (sA (sA zm 4 o29) 5 o30) 6 o31) 7 o32) 8 o33) 9 o34) 10 o35) 12 o36) 13 o37) 14 o38) 15 o39) 16 o40) 17 o41) 18 o42) 0 o43) 1 o44) 41 o45) := ⟨_, rfl⟩
  have hP : va_P (dC, dI) vwCl (zX k q u12 ++ zM k q2 z47) H := by rw [ez47]; exact hP
  have hM : MInv z47 := by rw [ez47]; exact ⟨hM.1, hM.2.1, hM.2.2.1, hM.2.2.2.1, hM.2.2.2.2.1, f46⟩
  have h3 : T3 (z47.2.2.1 37) := by rw [ez47]; exact h3
  have hT : trX u12 = trM z47 := by rw [ez47]; exact hT
  refine lv_pop2_2 hx hb dL_law_1186 rfl ?_
  refine lv_goto (tgt := 1517) hx hb dL_law_1187 (by decide) ?_
  exact kk _ _ H locs ⟨hI, hM, h3, hT⟩ hP hS
