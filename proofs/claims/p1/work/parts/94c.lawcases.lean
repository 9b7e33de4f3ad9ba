set_option maxHeartbeats 4000000 in
set_option maxRecDepth 100000 in
theorem lw_c19 {p : Program} {l : Launch} {e : Env} {s : State} {m : MethodId} {below : List Frame} {meth : Method} {c : Code} {b : Nat} {xs : Nat → Int32} {dC : Nat → ClassId} {dI : Nat → Nat → Nat} {k : Nat → ClassId} {q q2 : Nat → Nat} (C0 : lw_At p s m meth c b 6 xs) (hK : zK dC dI k (zTX k) s) {H : Heap} {locs : List Loc} (hP : va_P (dC, dI) vwCl ((zX k q 0 (-1) 12 100 0 (fun _ => 0) 0 0 (fun _ => 0) (fun _ => 0) (fun _ => 0) (fun _ => 0) (fun _ => 0) (fun _ => 0) (fun _ => 0) 0 0 0 (fun _ => 0) 0 1 232792560 0 0 0 0 0 1 (fun _ => 0) (fun _ => 0) 232792560 0 0 0 0 0 1 (fun _ => 0) (fun _ => 0) 232792560 0 0 0 0 0 1 (fun _ => 0) (fun _ => 0) 232792560 0 0 0 0 0 1 (fun _ => 0) (fun _ => 0) (-1) 0 (fun _ => 0) (-1) 0 (fun _ => 0) (-1) 0 (fun _ => 0) (-1) 0 (fun _ => 0)) ++ (zM k q2 0 1 (fun _ => 0) (fun _ => 0) (fun _ => 0) (fun _ => 0) (fun _ => 0) (fun _ => 0) (fun _ => 0) (fun _ => 0) (fun _ => 0) 12 0 0 0 0 (fun _ => 0) (fun _ => 0) (fun _ => 0) 0 (-1) (fun _ => 0) 0 (fun _ => 0) (fun _ => 0) (fun _ => 0) (fun _ => 0) (fun _ => 0) 0 0 0 0 0 0 (fun _ => 0) 100 (fun _ => 0) (fun _ => 0) (fun _ => 0) (fun _ => 0) (fun _ => 0) 0)) H) (hD : va_D (fun a : Nat => s.heap.size ≤ a) ((zX k q 0 (-1) 12 100 0 (fun _ => 0) 0 0 (fun _ => 0) (fun _ => 0) (fun _ => 0) (fun _ => 0) (fun _ => 0) (fun _ => 0) (fun _ => 0) 0 0 0 (fun _ => 0) 0 1 232792560 0 0 0 0 0 1 (fun _ => 0) (fun _ => 0) 232792560 0 0 0 0 0 1 (fun _ => 0) (fun _ => 0) 232792560 0 0 0 0 0 1 (fun _ => 0) (fun _ => 0) 232792560 0 0 0 0 0 1 (fun _ => 0) (fun _ => 0) (-1) 0 (fun _ => 0) (-1) 0 (fun _ => 0) (-1) 0 (fun _ => 0) (-1) 0 (fun _ => 0)) ++ (zM k q2 0 1 (fun _ => 0) (fun _ => 0) (fun _ => 0) (fun _ => 0) (fun _ => 0) (fun _ => 0) (fun _ => 0) (fun _ => 0) (fun _ => 0) 12 0 0 0 0 (fun _ => 0) (fun _ => 0) (fun _ => 0) 0 (-1) (fun _ => 0) 0 (fun _ => 0) (fun _ => 0) (fun _ => 0) (fun _ => 0) (fun _ => 0) 0 0 0 0 0 0 (fun _ => 0) 100 (fun _ => 0) (fun _ => 0) (fun _ => 0) (fun _ => 0) (fun _ => 0) 0))) (hS : va_S (fun a : Nat => s.heap.size ≤ a) s.heap H locs) {ls : Array Slot} (hl : lv_has ls 4 [(3, .int 0), (2, .ref (q2 0)), (1, .ref (q 0)), (0, .ref b)]) : W p l e room_1 s m #[Value.ref b] below meth c H locs 1000 10000 (lw_Z below #[Value.ref b] s) (F0 m 837 ls []) := by
  obtain ⟨hx, hb, hr, hml, hown, hts0, hX, hbl, hlocks, hgv⟩ := id C0
  have hts : ∀ w ∈ zw, w.before #[Value.ref b] s = true := fun w h => hts0 w (List.mem_filter.mp h).1
  have hA : ∀ q : Nat, s.heap.size ≤ q → (fun a : Nat => s.heap.size ≤ a) q := fun _ h => h
  have hbA : ¬ (fun a : Nat => s.heap.size ≤ a) b := Nat.not_le.mpr hbl
  refine lv_aload_n hx hb dL_law_837 rfl (lv_at hl 2 rfl) ?_
  refine lv_aload_n hx hb dL_law_838 rfl (lv_at hl 3 rfl) ?_
  refine lv_iload_n hx hb dL_law_839 rfl (lv_at hl 0 rfl) ?_
  refine lv_iconst (v := 1) hx hb dL_law_840 (by decide) ?_
  refine lv_iadd hx hb dL_law_841 ?_
  refine z_top (v2 := .int 1) (congrArg Value.int (by decide)) ?_
  refine va_sld hx hb hX hbl hbA hS (show ¬ _ by decide) dL_law_842 ?_
  refine z_top (v2 := .int (xs 1)) rfl ?_
  refine lv_aload_n hx hb dL_law_843 rfl (lv_at hl 3 rfl) ?_
  refine lv_iload_n hx hb dL_law_844 rfl (lv_at hl 0 rfl) ?_
  refine lv_iconst (v := 2) hx hb dL_law_845 (by decide) ?_
  refine lv_iadd hx hb dL_law_846 ?_
  refine z_top (v2 := .int 2) (congrArg Value.int (by decide)) ?_
  refine va_sld hx hb hX hbl hbA hS (show ¬ _ by decide) dL_law_847 ?_
  refine z_top (v2 := .int (xs 2)) rfl ?_
  refine lv_aload_n hx hb dL_law_848 rfl (lv_at hl 3 rfl) ?_
  refine lv_iload_n hx hb dL_law_849 rfl (lv_at hl 0 rfl) ?_
  refine lv_iconst (v := 3) hx hb dL_law_850 (by decide) ?_
  refine lv_iadd hx hb dL_law_851 ?_
  refine z_top (v2 := .int 3) (congrArg Value.int (by decide)) ?_
  refine va_sld hx hb hX hbl hbA hS (show ¬ _ by decide) dL_law_852 ?_
  refine z_top (v2 := .int (xs 3)) rfl ?_
  refine zc2_i (wx := (zX k q 0 (-1) 12 100 0 (fun _ => 0) 0 0 (fun _ => 0) (fun _ => 0) (fun _ => 0) (fun _ => 0) (fun _ => 0) (fun _ => 0) (fun _ => 0) 0 0 0 (fun _ => 0) 0 1 232792560 0 0 0 0 0 1 (fun _ => 0) (fun _ => 0) 232792560 0 0 0 0 0 1 (fun _ => 0) (fun _ => 0) 232792560 0 0 0 0 0 1 (fun _ => 0) (fun _ => 0) 232792560 0 0 0 0 0 1 (fun _ => 0) (fun _ => 0) (-1) 0 (fun _ => 0) (-1) 0 (fun _ => 0) (-1) 0 (fun _ => 0) (-1) 0 (fun _ => 0))) (wm := (zM k q2 0 1 (fun _ => 0) (fun _ => 0) (fun _ => 0) (fun _ => 0) (fun _ => 0) (fun _ => 0) (fun _ => 0) (fun _ => 0) (fun _ => 0) 12 0 0 0 0 (fun _ => 0) (fun _ => 0) (fun _ => 0) 0 (-1) (fun _ => 0) 0 (fun _ => 0) (fun _ => 0) (fun _ => 0) (fun _ => 0) (fun _ => 0) 0 0 0 0 0 0 (fun _ => 0) 100 (fun _ => 0) (fun _ => 0) (fun _ => 0) (fun _ => 0) (fun _ => 0) 0)) (va_runV (As := [.int (xs 1), .int (xs 2), .int (xs 3)]) (rest := []) ⟨hx, hb, hml, hown, hts⟩ (c_X6_atLeast l dC dI k  q 0 (fun _ => 0) (fun _ => 0) (fun _ => 0) (fun _ => 0) (fun _ => 0) (fun _ => 0) (fun _ => 0) 0 0 0 (fun _ => 0) 0 1 232792560 0 0 0 1 (fun _ => 0) (fun _ => 0) 232792560 0 0 0 1 (fun _ => 0) (fun _ => 0) 232792560 0 0 0 1 (fun _ => 0) (fun _ => 0) 232792560 0 0 0 1 (fun _ => 0) (fun _ => 0) (fun _ => 0) (fun _ => 0) (fun _ => 0) (fun _ => 0) (xs 1) (xs 2) (xs 3) _) (cwV 3 hts (gzV wmt2_219 wmt2_220 wmt2_221 wmt1_1 wmt2_222) rfl rfl rfl (by decide +kernel) ⟨Nat.le_of_ble_eq_true rfl, Nat.le_of_ble_eq_true rfl⟩) (zpA_V (ci := 6) (q0 := 0) hK (z_PL hP) (z_DL hD) rfl rfl) rfl rfl hl.1 rfl (lv_room (Nat.le_of_ble_eq_true rfl)) dL_law_853 ⟨Nat.le_of_ble_eq_true rfl, Nat.le_of_ble_eq_true rfl⟩) hP hD hS hA (fun r1 u H locs hw1 hP hD hS => ?_)
  refine lv_aload_n hx hb dL_law_856 rfl (lv_at hl 1 rfl) ?_
  refine lv_aload_n hx hb dL_law_857 rfl (lv_at hl 3 rfl) ?_
  refine lv_iload_n hx hb dL_law_858 rfl (lv_at hl 0 rfl) ?_
  refine lv_iconst (v := 1) hx hb dL_law_859 (by decide) ?_
  refine lv_iadd hx hb dL_law_860 ?_
  refine z_top (v2 := .int 1) (congrArg Value.int (by decide)) ?_
  refine va_sld hx hb hX hbl hbA hS (show ¬ _ by decide) dL_law_861 ?_
  refine z_top (v2 := .int (xs 1)) rfl ?_
  refine lv_aload_n hx hb dL_law_862 rfl (lv_at hl 3 rfl) ?_
  refine lv_iload_n hx hb dL_law_863 rfl (lv_at hl 0 rfl) ?_
  refine lv_iconst (v := 2) hx hb dL_law_864 (by decide) ?_
  refine lv_iadd hx hb dL_law_865 ?_
  refine z_top (v2 := .int 2) (congrArg Value.int (by decide)) ?_
  refine va_sld hx hb hX hbl hbA hS (show ¬ _ by decide) dL_law_866 ?_
  refine z_top (v2 := .int (xs 2)) rfl ?_
  refine lv_aload_n hx hb dL_law_867 rfl (lv_at hl 3 rfl) ?_
  refine lv_iload_n hx hb dL_law_868 rfl (lv_at hl 0 rfl) ?_
  refine lv_iconst (v := 3) hx hb dL_law_869 (by decide) ?_
  refine lv_iadd hx hb dL_law_870 ?_
  refine z_top (v2 := .int 3) (congrArg Value.int (by decide)) ?_
  refine va_sld hx hb hX hbl hbA hS (show ¬ _ by decide) dL_law_871 ?_
  refine z_top (v2 := .int (xs 3)) rfl ?_
  refine zcA_i (w := (zM k q2 0 1 (fun _ => 0) (fun _ => 0) (fun _ => 0) (fun _ => 0) (fun _ => 0) (fun _ => 0) (fun _ => 0) (fun _ => 0) (fun _ => 0) 12 0 0 0 0 (fun _ => 0) (fun _ => 0) (fun _ => 0) 0 (-1) (fun _ => 0) 0 (fun _ => 0) (fun _ => 0) (fun _ => 0) (fun _ => 0) (fun _ => 0) 0 0 0 0 0 0 (fun _ => 0) 100 (fun _ => 0) (fun _ => 0) (fun _ => 0) (fun _ => 0) (fun _ => 0) 0)) (va_runV (As := [.int (xs 1), .int (xs 2), .int (xs 3)]) (rest := [.int r1]) ⟨hx, hb, hml, hown, hts⟩ (c_X7_atLeast l dC dI k (zTX k) q2 0 1 (fun _ => 0) (fun _ => 0) 0 0 0 0 0 0 0 0 0 0 (fun _ => 0) (fun _ => 0) 0 (xs 1) (xs 2) (xs 3) _) (cwV 3 hts (gzV wmt5_16 wmt5_17 wmt5_18 wmt1_8 wmt5_19) rfl rfl rfl (by decide +kernel) ⟨Nat.le_of_ble_eq_true rfl, Nat.le_of_ble_eq_true rfl⟩) (zpA_V (ci := 7) (q0 := 0) hK hP hD rfl rfl) rfl rfl hl.1 rfl (lv_room (Nat.le_of_ble_eq_true rfl)) dL_law_872 ⟨Nat.le_of_ble_eq_true rfl, Nat.le_of_ble_eq_true rfl⟩) hD hS hA (fun r2 u H locs hw2 hP hD hS => ?_)
  have hrr : r1 = r2 := hw1.trans hw2.symm
  refine lv_icmp_eq (tgt := 1527) hx hb dL_law_875 (by decide) (fun c_1 => ?_) (fun c_1 => ?_)
  · exact lw_end C0 hS hl
  · exact absurd hrr c_1
set_option maxHeartbeats 4000000 in
set_option maxRecDepth 100000 in
theorem lw_c20 {p : Program} {l : Launch} {e : Env} {s : State} {m : MethodId} {below : List Frame} {meth : Method} {c : Code} {b : Nat} {xs : Nat → Int32} {dC : Nat → ClassId} {dI : Nat → Nat → Nat} {k : Nat → ClassId} {q q2 : Nat → Nat} (C0 : lw_At p s m meth c b 6 xs) (hK : zK dC dI k (zTX k) s) {H : Heap} {locs : List Loc} (hP : va_P (dC, dI) vwCl ((zX k q 0 (-1) 12 100 0 (fun _ => 0) 0 0 (fun _ => 0) (fun _ => 0) (fun _ => 0) (fun _ => 0) (fun _ => 0) (fun _ => 0) (fun _ => 0) 0 0 0 (fun _ => 0) 0 1 232792560 0 0 0 0 0 1 (fun _ => 0) (fun _ => 0) 232792560 0 0 0 0 0 1 (fun _ => 0) (fun _ => 0) 232792560 0 0 0 0 0 1 (fun _ => 0) (fun _ => 0) 232792560 0 0 0 0 0 1 (fun _ => 0) (fun _ => 0) (-1) 0 (fun _ => 0) (-1) 0 (fun _ => 0) (-1) 0 (fun _ => 0) (-1) 0 (fun _ => 0)) ++ (zM k q2 0 1 (fun _ => 0) (fun _ => 0) (fun _ => 0) (fun _ => 0) (fun _ => 0) (fun _ => 0) (fun _ => 0) (fun _ => 0) (fun _ => 0) 12 0 0 0 0 (fun _ => 0) (fun _ => 0) (fun _ => 0) 0 (-1) (fun _ => 0) 0 (fun _ => 0) (fun _ => 0) (fun _ => 0) (fun _ => 0) (fun _ => 0) 0 0 0 0 0 0 (fun _ => 0) 100 (fun _ => 0) (fun _ => 0) (fun _ => 0) (fun _ => 0) (fun _ => 0) 0)) H) (hD : va_D (fun a : Nat => s.heap.size ≤ a) ((zX k q 0 (-1) 12 100 0 (fun _ => 0) 0 0 (fun _ => 0) (fun _ => 0) (fun _ => 0) (fun _ => 0) (fun _ => 0) (fun _ => 0) (fun _ => 0) 0 0 0 (fun _ => 0) 0 1 232792560 0 0 0 0 0 1 (fun _ => 0) (fun _ => 0) 232792560 0 0 0 0 0 1 (fun _ => 0) (fun _ => 0) 232792560 0 0 0 0 0 1 (fun _ => 0) (fun _ => 0) 232792560 0 0 0 0 0 1 (fun _ => 0) (fun _ => 0) (-1) 0 (fun _ => 0) (-1) 0 (fun _ => 0) (-1) 0 (fun _ => 0) (-1) 0 (fun _ => 0)) ++ (zM k q2 0 1 (fun _ => 0) (fun _ => 0) (fun _ => 0) (fun _ => 0) (fun _ => 0) (fun _ => 0) (fun _ => 0) (fun _ => 0) (fun _ => 0) 12 0 0 0 0 (fun _ => 0) (fun _ => 0) (fun _ => 0) 0 (-1) (fun _ => 0) 0 (fun _ => 0) (fun _ => 0) (fun _ => 0) (fun _ => 0) (fun _ => 0) 0 0 0 0 0 0 (fun _ => 0) 100 (fun _ => 0) (fun _ => 0) (fun _ => 0) (fun _ => 0) (fun _ => 0) 0))) (hS : va_S (fun a : Nat => s.heap.size ≤ a) s.heap H locs) {ls : Array Slot} (hl : lv_has ls 4 [(3, .int 0), (2, .ref (q2 0)), (1, .ref (q 0)), (0, .ref b)]) : W p l e room_1 s m #[Value.ref b] below meth c H locs 1000 10000 (lw_Z below #[Value.ref b] s) (F0 m 880 ls []) := by
  obtain ⟨hx, hb, hr, hml, hown, hts0, hX, hbl, hlocks, hgv⟩ := id C0
  have hts : ∀ w ∈ zw, w.before #[Value.ref b] s = true := fun w h => hts0 w (List.mem_filter.mp h).1
  have hA : ∀ q : Nat, s.heap.size ≤ q → (fun a : Nat => s.heap.size ≤ a) q := fun _ h => h
  have hbA : ¬ (fun a : Nat => s.heap.size ≤ a) b := Nat.not_le.mpr hbl
  refine lv_aload_n hx hb dL_law_880 rfl (lv_at hl 2 rfl) ?_
  refine lv_aload_n hx hb dL_law_881 rfl (lv_at hl 3 rfl) ?_
  refine lv_iload_n hx hb dL_law_882 rfl (lv_at hl 0 rfl) ?_
  refine lv_iconst (v := 1) hx hb dL_law_883 (by decide) ?_
  refine lv_iadd hx hb dL_law_884 ?_
  refine z_top (v2 := .int 1) (congrArg Value.int (by decide)) ?_
  refine va_sld hx hb hX hbl hbA hS (show ¬ _ by decide) dL_law_885 ?_
  refine z_top (v2 := .int (xs 1)) rfl ?_
  refine lv_aload_n hx hb dL_law_886 rfl (lv_at hl 3 rfl) ?_
  refine lv_iload_n hx hb dL_law_887 rfl (lv_at hl 0 rfl) ?_
  refine lv_iconst (v := 2) hx hb dL_law_888 (by decide) ?_
  refine lv_iadd hx hb dL_law_889 ?_
  refine z_top (v2 := .int 2) (congrArg Value.int (by decide)) ?_
  refine va_sld hx hb hX hbl hbA hS (show ¬ _ by decide) dL_law_890 ?_
  refine z_top (v2 := .int (xs 2)) rfl ?_
  refine lv_aload_n hx hb dL_law_891 rfl (lv_at hl 3 rfl) ?_
  refine lv_iload_n hx hb dL_law_892 rfl (lv_at hl 0 rfl) ?_
  refine lv_iconst (v := 3) hx hb dL_law_893 (by decide) ?_
  refine lv_iadd hx hb dL_law_894 ?_
  refine z_top (v2 := .int 3) (congrArg Value.int (by decide)) ?_
  refine va_sld hx hb hX hbl hbA hS (show ¬ _ by decide) dL_law_895 ?_
  refine z_top (v2 := .int (xs 3)) rfl ?_
  refine zc2_l (wx := (zX k q 0 (-1) 12 100 0 (fun _ => 0) 0 0 (fun _ => 0) (fun _ => 0) (fun _ => 0) (fun _ => 0) (fun _ => 0) (fun _ => 0) (fun _ => 0) 0 0 0 (fun _ => 0) 0 1 232792560 0 0 0 0 0 1 (fun _ => 0) (fun _ => 0) 232792560 0 0 0 0 0 1 (fun _ => 0) (fun _ => 0) 232792560 0 0 0 0 0 1 (fun _ => 0) (fun _ => 0) 232792560 0 0 0 0 0 1 (fun _ => 0) (fun _ => 0) (-1) 0 (fun _ => 0) (-1) 0 (fun _ => 0) (-1) 0 (fun _ => 0) (-1) 0 (fun _ => 0))) (wm := (zM k q2 0 1 (fun _ => 0) (fun _ => 0) (fun _ => 0) (fun _ => 0) (fun _ => 0) (fun _ => 0) (fun _ => 0) (fun _ => 0) (fun _ => 0) 12 0 0 0 0 (fun _ => 0) (fun _ => 0) (fun _ => 0) 0 (-1) (fun _ => 0) 0 (fun _ => 0) (fun _ => 0) (fun _ => 0) (fun _ => 0) (fun _ => 0) 0 0 0 0 0 0 (fun _ => 0) 100 (fun _ => 0) (fun _ => 0) (fun _ => 0) (fun _ => 0) (fun _ => 0) 0)) (va_runV (As := [.int (xs 1), .int (xs 2), .int (xs 3)]) (rest := []) ⟨hx, hb, hml, hown, hts⟩ (c_X6_away l dC dI k  q 0 (fun _ => 0) (fun _ => 0) (fun _ => 0) (fun _ => 0) (fun _ => 0) (fun _ => 0) (fun _ => 0) 0 0 0 (fun _ => 0) 0 1 232792560 0 0 0 1 (fun _ => 0) (fun _ => 0) 232792560 0 0 0 1 (fun _ => 0) (fun _ => 0) 232792560 0 0 0 1 (fun _ => 0) (fun _ => 0) 232792560 0 0 0 1 (fun _ => 0) (fun _ => 0) (fun _ => 0) (fun _ => 0) (fun _ => 0) (fun _ => 0) (xs 1) (xs 2) (xs 3) _) (cwV 3 hts (gzV wmt2_227 wmt2_228 wmt2_229 wmt1_1 wmt2_230) rfl rfl rfl (by decide +kernel) ⟨Nat.le_of_ble_eq_true rfl, Nat.le_of_ble_eq_true rfl⟩) (zpA_V (ci := 6) (q0 := 0) hK (z_PL hP) (z_DL hD) rfl rfl) rfl rfl hl.1 rfl (lv_room (Nat.le_of_ble_eq_true rfl)) dL_law_896 ⟨Nat.le_of_ble_eq_true rfl, Nat.le_of_ble_eq_true rfl⟩) hP hD hS hA (fun r1 u H locs hw1 hP hD hS => ?_)
  refine lv_aload_n hx hb dL_law_899 rfl (lv_at hl 1 rfl) ?_
  refine lv_aload_n hx hb dL_law_900 rfl (lv_at hl 3 rfl) ?_
  refine lv_iload_n hx hb dL_law_901 rfl (lv_at hl 0 rfl) ?_
  refine lv_iconst (v := 1) hx hb dL_law_902 (by decide) ?_
  refine lv_iadd hx hb dL_law_903 ?_
  refine z_top (v2 := .int 1) (congrArg Value.int (by decide)) ?_
  refine va_sld hx hb hX hbl hbA hS (show ¬ _ by decide) dL_law_904 ?_
  refine z_top (v2 := .int (xs 1)) rfl ?_
  refine lv_aload_n hx hb dL_law_905 rfl (lv_at hl 3 rfl) ?_
  refine lv_iload_n hx hb dL_law_906 rfl (lv_at hl 0 rfl) ?_
  refine lv_iconst (v := 2) hx hb dL_law_907 (by decide) ?_
  refine lv_iadd hx hb dL_law_908 ?_
  refine z_top (v2 := .int 2) (congrArg Value.int (by decide)) ?_
  refine va_sld hx hb hX hbl hbA hS (show ¬ _ by decide) dL_law_909 ?_
  refine z_top (v2 := .int (xs 2)) rfl ?_
  refine lv_aload_n hx hb dL_law_910 rfl (lv_at hl 3 rfl) ?_
  refine lv_iload_n hx hb dL_law_911 rfl (lv_at hl 0 rfl) ?_
  refine lv_iconst (v := 3) hx hb dL_law_912 (by decide) ?_
  refine lv_iadd hx hb dL_law_913 ?_
  refine z_top (v2 := .int 3) (congrArg Value.int (by decide)) ?_
  refine va_sld hx hb hX hbl hbA hS (show ¬ _ by decide) dL_law_914 ?_
  refine z_top (v2 := .int (xs 3)) rfl ?_
  refine zcA_l (w := (zM k q2 0 1 (fun _ => 0) (fun _ => 0) (fun _ => 0) (fun _ => 0) (fun _ => 0) (fun _ => 0) (fun _ => 0) (fun _ => 0) (fun _ => 0) 12 0 0 0 0 (fun _ => 0) (fun _ => 0) (fun _ => 0) 0 (-1) (fun _ => 0) 0 (fun _ => 0) (fun _ => 0) (fun _ => 0) (fun _ => 0) (fun _ => 0) 0 0 0 0 0 0 (fun _ => 0) 100 (fun _ => 0) (fun _ => 0) (fun _ => 0) (fun _ => 0) (fun _ => 0) 0)) (va_runV (As := [.int (xs 1), .int (xs 2), .int (xs 3)]) (rest := [.long r1]) ⟨hx, hb, hml, hown, hts⟩ (c_X7_away l dC dI k (zTX k) q2 0 1 (fun _ => 0) (fun _ => 0) 0 0 0 0 0 0 0 0 0 0 (fun _ => 0) (fun _ => 0) 0 (xs 1) (xs 2) (xs 3) _) (cwV 3 hts (gzV wmt5_28 wmt5_29 wmt5_30 wmt1_8 wmt5_31) rfl rfl rfl (by decide +kernel) ⟨Nat.le_of_ble_eq_true rfl, Nat.le_of_ble_eq_true rfl⟩) (zpA_V (ci := 7) (q0 := 0) hK hP hD rfl rfl) rfl rfl hl.1 rfl (lv_room (Nat.le_of_ble_eq_true rfl)) dL_law_915 ⟨Nat.le_of_ble_eq_true rfl, Nat.le_of_ble_eq_true rfl⟩) hD hS hA (fun r2 u H locs hw2 hP hD hS => ?_)
  refine z_lcmp hx hb dL_law_918 ?_
  have hrr : r1 = r2 := hw1.trans hw2.symm
  refine lv_if_eq (tgt := 1527) hx hb dL_law_919 (by decide) (fun c_1 => ?_) (fun c_1 => ?_)
  · exact lw_end C0 hS hl
  · exact absurd ((lg_cmp_eq _ _).mpr hrr) c_1
set_option maxHeartbeats 4000000 in
set_option maxRecDepth 100000 in
theorem lw_c21 {p : Program} {l : Launch} {e : Env} {s : State} {m : MethodId} {below : List Frame} {meth : Method} {c : Code} {b : Nat} {xs : Nat → Int32} {dC : Nat → ClassId} {dI : Nat → Nat → Nat} {k : Nat → ClassId} {q q2 : Nat → Nat} (C0 : lw_At p s m meth c b 6 xs) (hK : zK dC dI k (zTX k) s) {H : Heap} {locs : List Loc} (hP : va_P (dC, dI) vwCl ((zX k q 0 (-1) 12 100 0 (fun _ => 0) 0 0 (fun _ => 0) (fun _ => 0) (fun _ => 0) (fun _ => 0) (fun _ => 0) (fun _ => 0) (fun _ => 0) 0 0 0 (fun _ => 0) 0 1 232792560 0 0 0 0 0 1 (fun _ => 0) (fun _ => 0) 232792560 0 0 0 0 0 1 (fun _ => 0) (fun _ => 0) 232792560 0 0 0 0 0 1 (fun _ => 0) (fun _ => 0) 232792560 0 0 0 0 0 1 (fun _ => 0) (fun _ => 0) (-1) 0 (fun _ => 0) (-1) 0 (fun _ => 0) (-1) 0 (fun _ => 0) (-1) 0 (fun _ => 0)) ++ (zM k q2 0 1 (fun _ => 0) (fun _ => 0) (fun _ => 0) (fun _ => 0) (fun _ => 0) (fun _ => 0) (fun _ => 0) (fun _ => 0) (fun _ => 0) 12 0 0 0 0 (fun _ => 0) (fun _ => 0) (fun _ => 0) 0 (-1) (fun _ => 0) 0 (fun _ => 0) (fun _ => 0) (fun _ => 0) (fun _ => 0) (fun _ => 0) 0 0 0 0 0 0 (fun _ => 0) 100 (fun _ => 0) (fun _ => 0) (fun _ => 0) (fun _ => 0) (fun _ => 0) 0)) H) (hD : va_D (fun a : Nat => s.heap.size ≤ a) ((zX k q 0 (-1) 12 100 0 (fun _ => 0) 0 0 (fun _ => 0) (fun _ => 0) (fun _ => 0) (fun _ => 0) (fun _ => 0) (fun _ => 0) (fun _ => 0) 0 0 0 (fun _ => 0) 0 1 232792560 0 0 0 0 0 1 (fun _ => 0) (fun _ => 0) 232792560 0 0 0 0 0 1 (fun _ => 0) (fun _ => 0) 232792560 0 0 0 0 0 1 (fun _ => 0) (fun _ => 0) 232792560 0 0 0 0 0 1 (fun _ => 0) (fun _ => 0) (-1) 0 (fun _ => 0) (-1) 0 (fun _ => 0) (-1) 0 (fun _ => 0) (-1) 0 (fun _ => 0)) ++ (zM k q2 0 1 (fun _ => 0) (fun _ => 0) (fun _ => 0) (fun _ => 0) (fun _ => 0) (fun _ => 0) (fun _ => 0) (fun _ => 0) (fun _ => 0) 12 0 0 0 0 (fun _ => 0) (fun _ => 0) (fun _ => 0) 0 (-1) (fun _ => 0) 0 (fun _ => 0) (fun _ => 0) (fun _ => 0) (fun _ => 0) (fun _ => 0) 0 0 0 0 0 0 (fun _ => 0) 100 (fun _ => 0) (fun _ => 0) (fun _ => 0) (fun _ => 0) (fun _ => 0) 0))) (hS : va_S (fun a : Nat => s.heap.size ≤ a) s.heap H locs) {ls : Array Slot} (hl : lv_has ls 4 [(3, .int 0), (2, .ref (q2 0)), (1, .ref (q 0)), (0, .ref b)]) : W p l e room_1 s m #[Value.ref b] below meth c H locs 1000 10000 (lw_Z below #[Value.ref b] s) (F0 m 924 ls []) := by
  obtain ⟨hx, hb, hr, hml, hown, hts0, hX, hbl, hlocks, hgv⟩ := id C0
  have hts : ∀ w ∈ zw, w.before #[Value.ref b] s = true := fun w h => hts0 w (List.mem_filter.mp h).1
  have hA : ∀ q : Nat, s.heap.size ≤ q → (fun a : Nat => s.heap.size ≤ a) q := fun _ h => h
  have hbA : ¬ (fun a : Nat => s.heap.size ≤ a) b := Nat.not_le.mpr hbl
  refine lv_aload_n hx hb dL_law_924 rfl (lv_at hl 2 rfl) ?_
  refine lv_aload_n hx hb dL_law_925 rfl (lv_at hl 3 rfl) ?_
  refine lv_iload_n hx hb dL_law_926 rfl (lv_at hl 0 rfl) ?_
  refine lv_iconst (v := 1) hx hb dL_law_927 (by decide) ?_
  refine lv_iadd hx hb dL_law_928 ?_
  refine z_top (v2 := .int 1) (congrArg Value.int (by decide)) ?_
  refine va_sld hx hb hX hbl hbA hS (show ¬ _ by decide) dL_law_929 ?_
  refine z_top (v2 := .int (xs 1)) rfl ?_
  refine lv_aload_n hx hb dL_law_930 rfl (lv_at hl 3 rfl) ?_
  refine lv_iload_n hx hb dL_law_931 rfl (lv_at hl 0 rfl) ?_
  refine lv_iconst (v := 2) hx hb dL_law_932 (by decide) ?_
  refine lv_iadd hx hb dL_law_933 ?_
  refine z_top (v2 := .int 2) (congrArg Value.int (by decide)) ?_
  refine va_sld hx hb hX hbl hbA hS (show ¬ _ by decide) dL_law_934 ?_
  refine z_top (v2 := .int (xs 2)) rfl ?_
  refine zc2_l (wx := (zX k q 0 (-1) 12 100 0 (fun _ => 0) 0 0 (fun _ => 0) (fun _ => 0) (fun _ => 0) (fun _ => 0) (fun _ => 0) (fun _ => 0) (fun _ => 0) 0 0 0 (fun _ => 0) 0 1 232792560 0 0 0 0 0 1 (fun _ => 0) (fun _ => 0) 232792560 0 0 0 0 0 1 (fun _ => 0) (fun _ => 0) 232792560 0 0 0 0 0 1 (fun _ => 0) (fun _ => 0) 232792560 0 0 0 0 0 1 (fun _ => 0) (fun _ => 0) (-1) 0 (fun _ => 0) (-1) 0 (fun _ => 0) (-1) 0 (fun _ => 0) (-1) 0 (fun _ => 0))) (wm := (zM k q2 0 1 (fun _ => 0) (fun _ => 0) (fun _ => 0) (fun _ => 0) (fun _ => 0) (fun _ => 0) (fun _ => 0) (fun _ => 0) (fun _ => 0) 12 0 0 0 0 (fun _ => 0) (fun _ => 0) (fun _ => 0) 0 (-1) (fun _ => 0) 0 (fun _ => 0) (fun _ => 0) (fun _ => 0) (fun _ => 0) (fun _ => 0) 0 0 0 0 0 0 (fun _ => 0) 100 (fun _ => 0) (fun _ => 0) (fun _ => 0) (fun _ => 0) (fun _ => 0) 0)) (va_runV (As := [.int (xs 1), .int (xs 2)]) (rest := []) ⟨hx, hb, hml, hown, hts⟩ (c_X6_given l dC dI k  q 0 (fun _ => 0) (fun _ => 0) (fun _ => 0) (fun _ => 0) (fun _ => 0) (fun _ => 0) (fun _ => 0) 0 0 0 (fun _ => 0) 0 1 232792560 0 0 0 1 (fun _ => 0) (fun _ => 0) 232792560 0 0 0 1 (fun _ => 0) (fun _ => 0) 232792560 0 0 0 1 (fun _ => 0) (fun _ => 0) 232792560 0 0 0 1 (fun _ => 0) (fun _ => 0) (fun _ => 0) (fun _ => 0) (fun _ => 0) (fun _ => 0) (xs 1) (xs 2) _) (cwV 2 hts (gzV wmt2_233 wmt2_234 wmt2_235 wmt1_1 wmt2_236) rfl rfl rfl (by decide +kernel) ⟨Nat.le_of_ble_eq_true rfl, Nat.le_of_ble_eq_true rfl⟩) (zpA_V (ci := 6) (q0 := 0) hK (z_PL hP) (z_DL hD) rfl rfl) rfl rfl hl.1 rfl (lv_room (Nat.le_of_ble_eq_true rfl)) dL_law_935 ⟨Nat.le_of_ble_eq_true rfl, Nat.le_of_ble_eq_true rfl⟩) hP hD hS hA (fun r1 u H locs hw1 hP hD hS => ?_)
  refine lv_aload_n hx hb dL_law_938 rfl (lv_at hl 1 rfl) ?_
  refine lv_aload_n hx hb dL_law_939 rfl (lv_at hl 3 rfl) ?_
  refine lv_iload_n hx hb dL_law_940 rfl (lv_at hl 0 rfl) ?_
  refine lv_iconst (v := 1) hx hb dL_law_941 (by decide) ?_
  refine lv_iadd hx hb dL_law_942 ?_
  refine z_top (v2 := .int 1) (congrArg Value.int (by decide)) ?_
  refine va_sld hx hb hX hbl hbA hS (show ¬ _ by decide) dL_law_943 ?_
  refine z_top (v2 := .int (xs 1)) rfl ?_
  refine lv_aload_n hx hb dL_law_944 rfl (lv_at hl 3 rfl) ?_
  refine lv_iload_n hx hb dL_law_945 rfl (lv_at hl 0 rfl) ?_
  refine lv_iconst (v := 2) hx hb dL_law_946 (by decide) ?_
  refine lv_iadd hx hb dL_law_947 ?_
  refine z_top (v2 := .int 2) (congrArg Value.int (by decide)) ?_
  refine va_sld hx hb hX hbl hbA hS (show ¬ _ by decide) dL_law_948 ?_
  refine z_top (v2 := .int (xs 2)) rfl ?_
  refine zcA_l (w := (zM k q2 0 1 (fun _ => 0) (fun _ => 0) (fun _ => 0) (fun _ => 0) (fun _ => 0) (fun _ => 0) (fun _ => 0) (fun _ => 0) (fun _ => 0) 12 0 0 0 0 (fun _ => 0) (fun _ => 0) (fun _ => 0) 0 (-1) (fun _ => 0) 0 (fun _ => 0) (fun _ => 0) (fun _ => 0) (fun _ => 0) (fun _ => 0) 0 0 0 0 0 0 (fun _ => 0) 100 (fun _ => 0) (fun _ => 0) (fun _ => 0) (fun _ => 0) (fun _ => 0) 0)) (va_runV (As := [.int (xs 1), .int (xs 2)]) (rest := [.long r1]) ⟨hx, hb, hml, hown, hts⟩ (c_X7_given l dC dI k (zTX k) q2 0 1 (fun _ => 0) (fun _ => 0) 0 0 0 0 0 0 0 0 0 0 (fun _ => 0) (fun _ => 0) 0 (xs 1) (xs 2) _) (cwV 2 hts (gzV wmt5_36 wmt5_37 wmt5_38 wmt1_8 wmt5_39) rfl rfl rfl (by decide +kernel) ⟨Nat.le_of_ble_eq_true rfl, Nat.le_of_ble_eq_true rfl⟩) (zpA_V (ci := 7) (q0 := 0) hK hP hD rfl rfl) rfl rfl hl.1 rfl (lv_room (Nat.le_of_ble_eq_true rfl)) dL_law_949 ⟨Nat.le_of_ble_eq_true rfl, Nat.le_of_ble_eq_true rfl⟩) hD hS hA (fun r2 u H locs hw2 hP hD hS => ?_)
  refine z_lcmp hx hb dL_law_952 ?_
  have hrr : r1 = r2 := hw1.trans hw2.symm
  refine lv_if_eq (tgt := 1527) hx hb dL_law_953 (by decide) (fun c_1 => ?_) (fun c_1 => ?_)
  · exact lw_end C0 hS hl
  · exact absurd ((lg_cmp_eq _ _).mpr hrr) c_1
set_option maxHeartbeats 4000000 in
set_option maxRecDepth 100000 in
theorem lw_c22 {p : Program} {l : Launch} {e : Env} {s : State} {m : MethodId} {below : List Frame} {meth : Method} {c : Code} {b : Nat} {xs : Nat → Int32} {dC : Nat → ClassId} {dI : Nat → Nat → Nat} {k : Nat → ClassId} {q q2 : Nat → Nat} (C0 : lw_At p s m meth c b 6 xs) (hK : zK dC dI k (zTX k) s) {H : Heap} {locs : List Loc} (hP : va_P (dC, dI) vwCl ((zX k q 0 (-1) 12 100 0 (fun _ => 0) 0 0 (fun _ => 0) (fun _ => 0) (fun _ => 0) (fun _ => 0) (fun _ => 0) (fun _ => 0) (fun _ => 0) 0 0 0 (fun _ => 0) 0 1 232792560 0 0 0 0 0 1 (fun _ => 0) (fun _ => 0) 232792560 0 0 0 0 0 1 (fun _ => 0) (fun _ => 0) 232792560 0 0 0 0 0 1 (fun _ => 0) (fun _ => 0) 232792560 0 0 0 0 0 1 (fun _ => 0) (fun _ => 0) (-1) 0 (fun _ => 0) (-1) 0 (fun _ => 0) (-1) 0 (fun _ => 0) (-1) 0 (fun _ => 0)) ++ (zM k q2 0 1 (fun _ => 0) (fun _ => 0) (fun _ => 0) (fun _ => 0) (fun _ => 0) (fun _ => 0) (fun _ => 0) (fun _ => 0) (fun _ => 0) 12 0 0 0 0 (fun _ => 0) (fun _ => 0) (fun _ => 0) 0 (-1) (fun _ => 0) 0 (fun _ => 0) (fun _ => 0) (fun _ => 0) (fun _ => 0) (fun _ => 0) 0 0 0 0 0 0 (fun _ => 0) 100 (fun _ => 0) (fun _ => 0) (fun _ => 0) (fun _ => 0) (fun _ => 0) 0)) H) (hD : va_D (fun a : Nat => s.heap.size ≤ a) ((zX k q 0 (-1) 12 100 0 (fun _ => 0) 0 0 (fun _ => 0) (fun _ => 0) (fun _ => 0) (fun _ => 0) (fun _ => 0) (fun _ => 0) (fun _ => 0) 0 0 0 (fun _ => 0) 0 1 232792560 0 0 0 0 0 1 (fun _ => 0) (fun _ => 0) 232792560 0 0 0 0 0 1 (fun _ => 0) (fun _ => 0) 232792560 0 0 0 0 0 1 (fun _ => 0) (fun _ => 0) 232792560 0 0 0 0 0 1 (fun _ => 0) (fun _ => 0) (-1) 0 (fun _ => 0) (-1) 0 (fun _ => 0) (-1) 0 (fun _ => 0) (-1) 0 (fun _ => 0)) ++ (zM k q2 0 1 (fun _ => 0) (fun _ => 0) (fun _ => 0) (fun _ => 0) (fun _ => 0) (fun _ => 0) (fun _ => 0) (fun _ => 0) (fun _ => 0) 12 0 0 0 0 (fun _ => 0) (fun _ => 0) (fun _ => 0) 0 (-1) (fun _ => 0) 0 (fun _ => 0) (fun _ => 0) (fun _ => 0) (fun _ => 0) (fun _ => 0) 0 0 0 0 0 0 (fun _ => 0) 100 (fun _ => 0) (fun _ => 0) (fun _ => 0) (fun _ => 0) (fun _ => 0) 0))) (hS : va_S (fun a : Nat => s.heap.size ≤ a) s.heap H locs) {ls : Array Slot} (hl : lv_has ls 4 [(3, .int 0), (2, .ref (q2 0)), (1, .ref (q 0)), (0, .ref b)]) : W p l e room_1 s m #[Value.ref b] below meth c H locs 1000 10000 (lw_Z below #[Value.ref b] s) (F0 m 958 ls []) := by
  obtain ⟨hx, hb, hr, hml, hown, hts0, hX, hbl, hlocks, hgv⟩ := id C0
  have hts : ∀ w ∈ zw, w.before #[Value.ref b] s = true := fun w h => hts0 w (List.mem_filter.mp h).1
  have hA : ∀ q : Nat, s.heap.size ≤ q → (fun a : Nat => s.heap.size ≤ a) q := fun _ h => h
  have hbA : ¬ (fun a : Nat => s.heap.size ≤ a) b := Nat.not_le.mpr hbl
  refine lv_aload_n hx hb dL_law_958 rfl (lv_at hl 2 rfl) ?_
  refine lv_aload_n hx hb dL_law_959 rfl (lv_at hl 3 rfl) ?_
  refine lv_iload_n hx hb dL_law_960 rfl (lv_at hl 0 rfl) ?_
  refine lv_iconst (v := 1) hx hb dL_law_961 (by decide) ?_
  refine lv_iadd hx hb dL_law_962 ?_
  refine z_top (v2 := .int 1) (congrArg Value.int (by decide)) ?_
  refine va_sld hx hb hX hbl hbA hS (show ¬ _ by decide) dL_law_963 ?_
  refine z_top (v2 := .int (xs 1)) rfl ?_
  refine lv_aload_n hx hb dL_law_964 rfl (lv_at hl 3 rfl) ?_
  refine lv_iload_n hx hb dL_law_965 rfl (lv_at hl 0 rfl) ?_
  refine lv_iconst (v := 2) hx hb dL_law_966 (by decide) ?_
  refine lv_iadd hx hb dL_law_967 ?_
  refine z_top (v2 := .int 2) (congrArg Value.int (by decide)) ?_
  refine va_sld hx hb hX hbl hbA hS (show ¬ _ by decide) dL_law_968 ?_
  refine z_top (v2 := .int (xs 2)) rfl ?_
  refine lv_aload_n hx hb dL_law_969 rfl (lv_at hl 3 rfl) ?_
  refine lv_iload_n hx hb dL_law_970 rfl (lv_at hl 0 rfl) ?_
  refine lv_iconst (v := 3) hx hb dL_law_971 (by decide) ?_
  refine lv_iadd hx hb dL_law_972 ?_
  refine z_top (v2 := .int 3) (congrArg Value.int (by decide)) ?_
  refine va_sld hx hb hX hbl hbA hS (show ¬ _ by decide) dL_law_973 ?_
  refine z_top (v2 := .int (xs 3)) rfl ?_
  refine zc2_l (wx := (zX k q 0 (-1) 12 100 0 (fun _ => 0) 0 0 (fun _ => 0) (fun _ => 0) (fun _ => 0) (fun _ => 0) (fun _ => 0) (fun _ => 0) (fun _ => 0) 0 0 0 (fun _ => 0) 0 1 232792560 0 0 0 0 0 1 (fun _ => 0) (fun _ => 0) 232792560 0 0 0 0 0 1 (fun _ => 0) (fun _ => 0) 232792560 0 0 0 0 0 1 (fun _ => 0) (fun _ => 0) 232792560 0 0 0 0 0 1 (fun _ => 0) (fun _ => 0) (-1) 0 (fun _ => 0) (-1) 0 (fun _ => 0) (-1) 0 (fun _ => 0) (-1) 0 (fun _ => 0))) (wm := (zM k q2 0 1 (fun _ => 0) (fun _ => 0) (fun _ => 0) (fun _ => 0) (fun _ => 0) (fun _ => 0) (fun _ => 0) (fun _ => 0) (fun _ => 0) 12 0 0 0 0 (fun _ => 0) (fun _ => 0) (fun _ => 0) 0 (-1) (fun _ => 0) 0 (fun _ => 0) (fun _ => 0) (fun _ => 0) (fun _ => 0) (fun _ => 0) 0 0 0 0 0 0 (fun _ => 0) 100 (fun _ => 0) (fun _ => 0) (fun _ => 0) (fun _ => 0) (fun _ => 0) 0)) (va_runV (As := [.int (xs 1), .int (xs 2), .int (xs 3)]) (rest := []) ⟨hx, hb, hml, hown, hts⟩ (c_X6_has l dC dI k  q 0 (fun _ => 0) (fun _ => 0) (fun _ => 0) (fun _ => 0) (fun _ => 0) (fun _ => 0) (fun _ => 0) 0 0 0 (fun _ => 0) 0 1 232792560 0 0 0 1 (fun _ => 0) (fun _ => 0) 232792560 0 0 0 1 (fun _ => 0) (fun _ => 0) 232792560 0 0 0 1 (fun _ => 0) (fun _ => 0) 232792560 0 0 0 1 (fun _ => 0) (fun _ => 0) (fun _ => 0) (fun _ => 0) (fun _ => 0) (fun _ => 0) (xs 1) (xs 2) (xs 3) _) (cwV 3 hts (gzV wmt3_22 wmt3_23 wmt3_24 wmt1_1 wmt3_25) rfl rfl rfl (by decide +kernel) ⟨Nat.le_of_ble_eq_true rfl, Nat.le_of_ble_eq_true rfl⟩) (zpA_V (ci := 6) (q0 := 0) hK (z_PL hP) (z_DL hD) rfl rfl) rfl rfl hl.1 rfl (lv_room (Nat.le_of_ble_eq_true rfl)) dL_law_974 ⟨Nat.le_of_ble_eq_true rfl, Nat.le_of_ble_eq_true rfl⟩) hP hD hS hA (fun r1 u H locs hw1 hP hD hS => ?_)
  refine lv_aload_n hx hb dL_law_977 rfl (lv_at hl 1 rfl) ?_
  refine lv_aload_n hx hb dL_law_978 rfl (lv_at hl 3 rfl) ?_
  refine lv_iload_n hx hb dL_law_979 rfl (lv_at hl 0 rfl) ?_
  refine lv_iconst (v := 1) hx hb dL_law_980 (by decide) ?_
  refine lv_iadd hx hb dL_law_981 ?_
  refine z_top (v2 := .int 1) (congrArg Value.int (by decide)) ?_
  refine va_sld hx hb hX hbl hbA hS (show ¬ _ by decide) dL_law_982 ?_
  refine z_top (v2 := .int (xs 1)) rfl ?_
  refine lv_aload_n hx hb dL_law_983 rfl (lv_at hl 3 rfl) ?_
  refine lv_iload_n hx hb dL_law_984 rfl (lv_at hl 0 rfl) ?_
  refine lv_iconst (v := 2) hx hb dL_law_985 (by decide) ?_
  refine lv_iadd hx hb dL_law_986 ?_
  refine z_top (v2 := .int 2) (congrArg Value.int (by decide)) ?_
  refine va_sld hx hb hX hbl hbA hS (show ¬ _ by decide) dL_law_987 ?_
  refine z_top (v2 := .int (xs 2)) rfl ?_
  refine lv_aload_n hx hb dL_law_988 rfl (lv_at hl 3 rfl) ?_
  refine lv_iload_n hx hb dL_law_989 rfl (lv_at hl 0 rfl) ?_
  refine lv_iconst (v := 3) hx hb dL_law_990 (by decide) ?_
  refine lv_iadd hx hb dL_law_991 ?_
  refine z_top (v2 := .int 3) (congrArg Value.int (by decide)) ?_
  refine va_sld hx hb hX hbl hbA hS (show ¬ _ by decide) dL_law_992 ?_
  refine z_top (v2 := .int (xs 3)) rfl ?_
  refine zcA_l (w := (zM k q2 0 1 (fun _ => 0) (fun _ => 0) (fun _ => 0) (fun _ => 0) (fun _ => 0) (fun _ => 0) (fun _ => 0) (fun _ => 0) (fun _ => 0) 12 0 0 0 0 (fun _ => 0) (fun _ => 0) (fun _ => 0) 0 (-1) (fun _ => 0) 0 (fun _ => 0) (fun _ => 0) (fun _ => 0) (fun _ => 0) (fun _ => 0) 0 0 0 0 0 0 (fun _ => 0) 100 (fun _ => 0) (fun _ => 0) (fun _ => 0) (fun _ => 0) (fun _ => 0) 0)) (va_runV (As := [.int (xs 1), .int (xs 2), .int (xs 3)]) (rest := [.long r1]) ⟨hx, hb, hml, hown, hts⟩ (c_X7_has l dC dI k (zTX k) q2 0 1 (fun _ => 0) (fun _ => 0) 0 0 0 0 0 0 0 0 0 0 (fun _ => 0) (fun _ => 0) 0 (xs 1) (xs 2) (xs 3) _) (cwV 3 hts (gzV wmt5_49 wmt5_50 wmt5_51 wmt1_8 wmt5_52) rfl rfl rfl (by decide +kernel) ⟨Nat.le_of_ble_eq_true rfl, Nat.le_of_ble_eq_true rfl⟩) (zpA_V (ci := 7) (q0 := 0) hK hP hD rfl rfl) rfl rfl hl.1 rfl (lv_room (Nat.le_of_ble_eq_true rfl)) dL_law_993 ⟨Nat.le_of_ble_eq_true rfl, Nat.le_of_ble_eq_true rfl⟩) hD hS hA (fun r2 u H locs hw2 hP hD hS => ?_)
  refine z_lcmp hx hb dL_law_996 ?_
  have hrr : r1 = r2 := hw1.trans hw2.symm
  refine lv_if_eq (tgt := 1527) hx hb dL_law_997 (by decide) (fun c_1 => ?_) (fun c_1 => ?_)
  · exact lw_end C0 hS hl
  · exact absurd ((lg_cmp_eq _ _).mpr hrr) c_1
set_option maxHeartbeats 4000000 in
set_option maxRecDepth 100000 in
theorem lw_c23 {p : Program} {l : Launch} {e : Env} {s : State} {m : MethodId} {below : List Frame} {meth : Method} {c : Code} {b : Nat} {xs : Nat → Int32} {dC : Nat → ClassId} {dI : Nat → Nat → Nat} {k : Nat → ClassId} {q q2 : Nat → Nat} (C0 : lw_At p s m meth c b 6 xs) (hK : zK dC dI k (zTX k) s) {H : Heap} {locs : List Loc} (hP : va_P (dC, dI) vwCl ((zX k q 0 (-1) 12 100 0 (fun _ => 0) 0 0 (fun _ => 0) (fun _ => 0) (fun _ => 0) (fun _ => 0) (fun _ => 0) (fun _ => 0) (fun _ => 0) 0 0 0 (fun _ => 0) 0 1 232792560 0 0 0 0 0 1 (fun _ => 0) (fun _ => 0) 232792560 0 0 0 0 0 1 (fun _ => 0) (fun _ => 0) 232792560 0 0 0 0 0 1 (fun _ => 0) (fun _ => 0) 232792560 0 0 0 0 0 1 (fun _ => 0) (fun _ => 0) (-1) 0 (fun _ => 0) (-1) 0 (fun _ => 0) (-1) 0 (fun _ => 0) (-1) 0 (fun _ => 0)) ++ (zM k q2 0 1 (fun _ => 0) (fun _ => 0) (fun _ => 0) (fun _ => 0) (fun _ => 0) (fun _ => 0) (fun _ => 0) (fun _ => 0) (fun _ => 0) 12 0 0 0 0 (fun _ => 0) (fun _ => 0) (fun _ => 0) 0 (-1) (fun _ => 0) 0 (fun _ => 0) (fun _ => 0) (fun _ => 0) (fun _ => 0) (fun _ => 0) 0 0 0 0 0 0 (fun _ => 0) 100 (fun _ => 0) (fun _ => 0) (fun _ => 0) (fun _ => 0) (fun _ => 0) 0)) H) (hD : va_D (fun a : Nat => s.heap.size ≤ a) ((zX k q 0 (-1) 12 100 0 (fun _ => 0) 0 0 (fun _ => 0) (fun _ => 0) (fun _ => 0) (fun _ => 0) (fun _ => 0) (fun _ => 0) (fun _ => 0) 0 0 0 (fun _ => 0) 0 1 232792560 0 0 0 0 0 1 (fun _ => 0) (fun _ => 0) 232792560 0 0 0 0 0 1 (fun _ => 0) (fun _ => 0) 232792560 0 0 0 0 0 1 (fun _ => 0) (fun _ => 0) 232792560 0 0 0 0 0 1 (fun _ => 0) (fun _ => 0) (-1) 0 (fun _ => 0) (-1) 0 (fun _ => 0) (-1) 0 (fun _ => 0) (-1) 0 (fun _ => 0)) ++ (zM k q2 0 1 (fun _ => 0) (fun _ => 0) (fun _ => 0) (fun _ => 0) (fun _ => 0) (fun _ => 0) (fun _ => 0) (fun _ => 0) (fun _ => 0) 12 0 0 0 0 (fun _ => 0) (fun _ => 0) (fun _ => 0) 0 (-1) (fun _ => 0) 0 (fun _ => 0) (fun _ => 0) (fun _ => 0) (fun _ => 0) (fun _ => 0) 0 0 0 0 0 0 (fun _ => 0) 100 (fun _ => 0) (fun _ => 0) (fun _ => 0) (fun _ => 0) (fun _ => 0) 0))) (hS : va_S (fun a : Nat => s.heap.size ≤ a) s.heap H locs) {ls : Array Slot} (hl : lv_has ls 4 [(3, .int 0), (2, .ref (q2 0)), (1, .ref (q 0)), (0, .ref b)]) : W p l e room_1 s m #[Value.ref b] below meth c H locs 1000 10000 (lw_Z below #[Value.ref b] s) (F0 m 1002 ls []) := by
  obtain ⟨hx, hb, hr, hml, hown, hts0, hX, hbl, hlocks, hgv⟩ := id C0
  have hts : ∀ w ∈ zw, w.before #[Value.ref b] s = true := fun w h => hts0 w (List.mem_filter.mp h).1
  have hA : ∀ q : Nat, s.heap.size ≤ q → (fun a : Nat => s.heap.size ≤ a) q := fun _ h => h
  have hbA : ¬ (fun a : Nat => s.heap.size ≤ a) b := Nat.not_le.mpr hbl
  refine lv_aload_n hx hb dL_law_1002 rfl (lv_at hl 2 rfl) ?_
  refine lv_aload_n hx hb dL_law_1003 rfl (lv_at hl 3 rfl) ?_
  refine lv_iload_n hx hb dL_law_1004 rfl (lv_at hl 0 rfl) ?_
  refine lv_iconst (v := 1) hx hb dL_law_1005 (by decide) ?_
  refine lv_iadd hx hb dL_law_1006 ?_
  refine z_top (v2 := .int 1) (congrArg Value.int (by decide)) ?_
  refine va_sld hx hb hX hbl hbA hS (show ¬ _ by decide) dL_law_1007 ?_
  refine z_top (v2 := .int (xs 1)) rfl ?_
  refine lv_aload_n hx hb dL_law_1008 rfl (lv_at hl 3 rfl) ?_
  refine lv_iload_n hx hb dL_law_1009 rfl (lv_at hl 0 rfl) ?_
  refine lv_iconst (v := 2) hx hb dL_law_1010 (by decide) ?_
  refine lv_iadd hx hb dL_law_1011 ?_
  refine z_top (v2 := .int 2) (congrArg Value.int (by decide)) ?_
  refine va_sld hx hb hX hbl hbA hS (show ¬ _ by decide) dL_law_1012 ?_
  refine z_top (v2 := .int (xs 2)) rfl ?_
  refine zc2_l (wx := (zX k q 0 (-1) 12 100 0 (fun _ => 0) 0 0 (fun _ => 0) (fun _ => 0) (fun _ => 0) (fun _ => 0) (fun _ => 0) (fun _ => 0) (fun _ => 0) 0 0 0 (fun _ => 0) 0 1 232792560 0 0 0 0 0 1 (fun _ => 0) (fun _ => 0) 232792560 0 0 0 0 0 1 (fun _ => 0) (fun _ => 0) 232792560 0 0 0 0 0 1 (fun _ => 0) (fun _ => 0) 232792560 0 0 0 0 0 1 (fun _ => 0) (fun _ => 0) (-1) 0 (fun _ => 0) (-1) 0 (fun _ => 0) (-1) 0 (fun _ => 0) (-1) 0 (fun _ => 0))) (wm := (zM k q2 0 1 (fun _ => 0) (fun _ => 0) (fun _ => 0) (fun _ => 0) (fun _ => 0) (fun _ => 0) (fun _ => 0) (fun _ => 0) (fun _ => 0) 12 0 0 0 0 (fun _ => 0) (fun _ => 0) (fun _ => 0) 0 (-1) (fun _ => 0) 0 (fun _ => 0) (fun _ => 0) (fun _ => 0) (fun _ => 0) (fun _ => 0) 0 0 0 0 0 0 (fun _ => 0) 100 (fun _ => 0) (fun _ => 0) (fun _ => 0) (fun _ => 0) (fun _ => 0) 0)) (va_runV (As := [.int (xs 1), .int (xs 2)]) (rest := []) ⟨hx, hb, hml, hown, hts⟩ (c_X6_exposed l dC dI k  q 0 (fun _ => 0) (fun _ => 0) (fun _ => 0) (fun _ => 0) (fun _ => 0) (fun _ => 0) (fun _ => 0) 0 0 0 (fun _ => 0) 0 1 232792560 0 0 0 1 (fun _ => 0) (fun _ => 0) 232792560 0 0 0 1 (fun _ => 0) (fun _ => 0) 232792560 0 0 0 1 (fun _ => 0) (fun _ => 0) 232792560 0 0 0 1 (fun _ => 0) (fun _ => 0) (fun _ => 0) (fun _ => 0) (fun _ => 0) (fun _ => 0) (xs 1) (xs 2) _) (cwV 2 hts (gzV wmt3_26 wmt3_27 wmt3_28 wmt1_1 wmt3_29) rfl rfl rfl (by decide +kernel) ⟨Nat.le_of_ble_eq_true rfl, Nat.le_of_ble_eq_true rfl⟩) (zpA_V (ci := 6) (q0 := 0) hK (z_PL hP) (z_DL hD) rfl rfl) rfl rfl hl.1 rfl (lv_room (Nat.le_of_ble_eq_true rfl)) dL_law_1013 ⟨Nat.le_of_ble_eq_true rfl, Nat.le_of_ble_eq_true rfl⟩) hP hD hS hA (fun r1 u H locs hw1 hP hD hS => ?_)
  refine lv_aload_n hx hb dL_law_1016 rfl (lv_at hl 1 rfl) ?_
  refine lv_aload_n hx hb dL_law_1017 rfl (lv_at hl 3 rfl) ?_
  refine lv_iload_n hx hb dL_law_1018 rfl (lv_at hl 0 rfl) ?_
  refine lv_iconst (v := 1) hx hb dL_law_1019 (by decide) ?_
  refine lv_iadd hx hb dL_law_1020 ?_
  refine z_top (v2 := .int 1) (congrArg Value.int (by decide)) ?_
  refine va_sld hx hb hX hbl hbA hS (show ¬ _ by decide) dL_law_1021 ?_
  refine z_top (v2 := .int (xs 1)) rfl ?_
  refine lv_aload_n hx hb dL_law_1022 rfl (lv_at hl 3 rfl) ?_
  refine lv_iload_n hx hb dL_law_1023 rfl (lv_at hl 0 rfl) ?_
  refine lv_iconst (v := 2) hx hb dL_law_1024 (by decide) ?_
  refine lv_iadd hx hb dL_law_1025 ?_
  refine z_top (v2 := .int 2) (congrArg Value.int (by decide)) ?_
  refine va_sld hx hb hX hbl hbA hS (show ¬ _ by decide) dL_law_1026 ?_
  refine z_top (v2 := .int (xs 2)) rfl ?_
  refine zcA_l (w := (zM k q2 0 1 (fun _ => 0) (fun _ => 0) (fun _ => 0) (fun _ => 0) (fun _ => 0) (fun _ => 0) (fun _ => 0) (fun _ => 0) (fun _ => 0) 12 0 0 0 0 (fun _ => 0) (fun _ => 0) (fun _ => 0) 0 (-1) (fun _ => 0) 0 (fun _ => 0) (fun _ => 0) (fun _ => 0) (fun _ => 0) (fun _ => 0) 0 0 0 0 0 0 (fun _ => 0) 100 (fun _ => 0) (fun _ => 0) (fun _ => 0) (fun _ => 0) (fun _ => 0) 0)) (va_runV (As := [.int (xs 1), .int (xs 2)]) (rest := [.long r1]) ⟨hx, hb, hml, hown, hts⟩ (c_X7_exposed l dC dI k (zTX k) q2 0 1 (fun _ => 0) (fun _ => 0) 0 0 0 0 0 0 0 0 0 0 (fun _ => 0) (fun _ => 0) 0 (xs 1) (xs 2) _) (cwV 2 hts (gzV wmt5_53 wmt5_54 wmt5_55 wmt1_8 wmt5_56) rfl rfl rfl (by decide +kernel) ⟨Nat.le_of_ble_eq_true rfl, Nat.le_of_ble_eq_true rfl⟩) (zpA_V (ci := 7) (q0 := 0) hK hP hD rfl rfl) rfl rfl hl.1 rfl (lv_room (Nat.le_of_ble_eq_true rfl)) dL_law_1027 ⟨Nat.le_of_ble_eq_true rfl, Nat.le_of_ble_eq_true rfl⟩) hD hS hA (fun r2 u H locs hw2 hP hD hS => ?_)
  refine z_lcmp hx hb dL_law_1030 ?_
  have hrr : r1 = r2 := hw1.trans hw2.symm
  refine lv_if_eq (tgt := 1527) hx hb dL_law_1031 (by decide) (fun c_1 => ?_) (fun c_1 => ?_)
  · exact lw_end C0 hS hl
  · exact absurd ((lg_cmp_eq _ _).mpr hrr) c_1
set_option maxHeartbeats 4000000 in
set_option maxRecDepth 100000 in
theorem lw_c24 {p : Program} {l : Launch} {e : Env} {s : State} {m : MethodId} {below : List Frame} {meth : Method} {c : Code} {b : Nat} {xs : Nat → Int32} {dC : Nat → ClassId} {dI : Nat → Nat → Nat} {k : Nat → ClassId} {q q2 : Nat → Nat} (C0 : lw_At p s m meth c b 6 xs) (hK : zK dC dI k (zTX k) s) {H : Heap} {locs : List Loc} (hP : va_P (dC, dI) vwCl ((zX k q 0 (-1) 12 100 0 (fun _ => 0) 0 0 (fun _ => 0) (fun _ => 0) (fun _ => 0) (fun _ => 0) (fun _ => 0) (fun _ => 0) (fun _ => 0) 0 0 0 (fun _ => 0) 0 1 232792560 0 0 0 0 0 1 (fun _ => 0) (fun _ => 0) 232792560 0 0 0 0 0 1 (fun _ => 0) (fun _ => 0) 232792560 0 0 0 0 0 1 (fun _ => 0) (fun _ => 0) 232792560 0 0 0 0 0 1 (fun _ => 0) (fun _ => 0) (-1) 0 (fun _ => 0) (-1) 0 (fun _ => 0) (-1) 0 (fun _ => 0) (-1) 0 (fun _ => 0)) ++ (zM k q2 0 1 (fun _ => 0) (fun _ => 0) (fun _ => 0) (fun _ => 0) (fun _ => 0) (fun _ => 0) (fun _ => 0) (fun _ => 0) (fun _ => 0) 12 0 0 0 0 (fun _ => 0) (fun _ => 0) (fun _ => 0) 0 (-1) (fun _ => 0) 0 (fun _ => 0) (fun _ => 0) (fun _ => 0) (fun _ => 0) (fun _ => 0) 0 0 0 0 0 0 (fun _ => 0) 100 (fun _ => 0) (fun _ => 0) (fun _ => 0) (fun _ => 0) (fun _ => 0) 0)) H) (hD : va_D (fun a : Nat => s.heap.size ≤ a) ((zX k q 0 (-1) 12 100 0 (fun _ => 0) 0 0 (fun _ => 0) (fun _ => 0) (fun _ => 0) (fun _ => 0) (fun _ => 0) (fun _ => 0) (fun _ => 0) 0 0 0 (fun _ => 0) 0 1 232792560 0 0 0 0 0 1 (fun _ => 0) (fun _ => 0) 232792560 0 0 0 0 0 1 (fun _ => 0) (fun _ => 0) 232792560 0 0 0 0 0 1 (fun _ => 0) (fun _ => 0) 232792560 0 0 0 0 0 1 (fun _ => 0) (fun _ => 0) (-1) 0 (fun _ => 0) (-1) 0 (fun _ => 0) (-1) 0 (fun _ => 0) (-1) 0 (fun _ => 0)) ++ (zM k q2 0 1 (fun _ => 0) (fun _ => 0) (fun _ => 0) (fun _ => 0) (fun _ => 0) (fun _ => 0) (fun _ => 0) (fun _ => 0) (fun _ => 0) 12 0 0 0 0 (fun _ => 0) (fun _ => 0) (fun _ => 0) 0 (-1) (fun _ => 0) 0 (fun _ => 0) (fun _ => 0) (fun _ => 0) (fun _ => 0) (fun _ => 0) 0 0 0 0 0 0 (fun _ => 0) 100 (fun _ => 0) (fun _ => 0) (fun _ => 0) (fun _ => 0) (fun _ => 0) 0))) (hS : va_S (fun a : Nat => s.heap.size ≤ a) s.heap H locs) {ls : Array Slot} (hl : lv_has ls 4 [(3, .int 0), (2, .ref (q2 0)), (1, .ref (q 0)), (0, .ref b)]) : W p l e room_1 s m #[Value.ref b] below meth c H locs 1000 10000 (lw_Z below #[Value.ref b] s) (F0 m 1036 ls []) := by
  obtain ⟨hx, hb, hr, hml, hown, hts0, hX, hbl, hlocks, hgv⟩ := id C0
  have hts : ∀ w ∈ zw, w.before #[Value.ref b] s = true := fun w h => hts0 w (List.mem_filter.mp h).1
  have hA : ∀ q : Nat, s.heap.size ≤ q → (fun a : Nat => s.heap.size ≤ a) q := fun _ h => h
  have hbA : ¬ (fun a : Nat => s.heap.size ≤ a) b := Nat.not_le.mpr hbl
  refine lv_aload_n hx hb dL_law_1036 rfl (lv_at hl 2 rfl) ?_
  refine lv_aload_n hx hb dL_law_1037 rfl (lv_at hl 3 rfl) ?_
  refine lv_iload_n hx hb dL_law_1038 rfl (lv_at hl 0 rfl) ?_
  refine lv_iconst (v := 1) hx hb dL_law_1039 (by decide) ?_
  refine lv_iadd hx hb dL_law_1040 ?_
  refine z_top (v2 := .int 1) (congrArg Value.int (by decide)) ?_
  refine va_sld hx hb hX hbl hbA hS (show ¬ _ by decide) dL_law_1041 ?_
  refine z_top (v2 := .int (xs 1)) rfl ?_
  refine zc2_i (wx := (zX k q 0 (-1) 12 100 0 (fun _ => 0) 0 0 (fun _ => 0) (fun _ => 0) (fun _ => 0) (fun _ => 0) (fun _ => 0) (fun _ => 0) (fun _ => 0) 0 0 0 (fun _ => 0) 0 1 232792560 0 0 0 0 0 1 (fun _ => 0) (fun _ => 0) 232792560 0 0 0 0 0 1 (fun _ => 0) (fun _ => 0) 232792560 0 0 0 0 0 1 (fun _ => 0) (fun _ => 0) 232792560 0 0 0 0 0 1 (fun _ => 0) (fun _ => 0) (-1) 0 (fun _ => 0) (-1) 0 (fun _ => 0) (-1) 0 (fun _ => 0) (-1) 0 (fun _ => 0))) (wm := (zM k q2 0 1 (fun _ => 0) (fun _ => 0) (fun _ => 0) (fun _ => 0) (fun _ => 0) (fun _ => 0) (fun _ => 0) (fun _ => 0) (fun _ => 0) 12 0 0 0 0 (fun _ => 0) (fun _ => 0) (fun _ => 0) 0 (-1) (fun _ => 0) 0 (fun _ => 0) (fun _ => 0) (fun _ => 0) (fun _ => 0) (fun _ => 0) 0 0 0 0 0 0 (fun _ => 0) 100 (fun _ => 0) (fun _ => 0) (fun _ => 0) (fun _ => 0) (fun _ => 0) 0)) (va_runV (As := [.int (xs 1)]) (rest := []) ⟨hx, hb, hml, hown, hts⟩ (c_X6_limit l dC dI k  q 0 (fun _ => 0) (fun _ => 0) (fun _ => 0) (fun _ => 0) (fun _ => 0) (fun _ => 0) (fun _ => 0) 0 0 0 (fun _ => 0) 0 1 232792560 0 0 0 1 (fun _ => 0) (fun _ => 0) 232792560 0 0 0 1 (fun _ => 0) (fun _ => 0) 232792560 0 0 0 1 (fun _ => 0) (fun _ => 0) 232792560 0 0 0 1 (fun _ => 0) (fun _ => 0) (fun _ => 0) (fun _ => 0) (fun _ => 0) (fun _ => 0) (xs 1) _) (cwV 1 hts (gzV wmt3_38 wmt3_39 wmt3_40 wmt1_1 wmt3_41) rfl rfl rfl (by decide +kernel) ⟨Nat.le_of_ble_eq_true rfl, Nat.le_of_ble_eq_true rfl⟩) (zpA_V (ci := 6) (q0 := 0) hK (z_PL hP) (z_DL hD) rfl rfl) rfl rfl hl.1 rfl (lv_room (Nat.le_of_ble_eq_true rfl)) dL_law_1042 ⟨Nat.le_of_ble_eq_true rfl, Nat.le_of_ble_eq_true rfl⟩) hP hD hS hA (fun r1 u H locs hw1 hP hD hS => ?_)
  refine lv_aload_n hx hb dL_law_1045 rfl (lv_at hl 1 rfl) ?_
  refine lv_aload_n hx hb dL_law_1046 rfl (lv_at hl 3 rfl) ?_
  refine lv_iload_n hx hb dL_law_1047 rfl (lv_at hl 0 rfl) ?_
  refine lv_iconst (v := 1) hx hb dL_law_1048 (by decide) ?_
  refine lv_iadd hx hb dL_law_1049 ?_
  refine z_top (v2 := .int 1) (congrArg Value.int (by decide)) ?_
  refine va_sld hx hb hX hbl hbA hS (show ¬ _ by decide) dL_law_1050 ?_
  refine z_top (v2 := .int (xs 1)) rfl ?_
  refine zcA_i (w := (zM k q2 0 1 (fun _ => 0) (fun _ => 0) (fun _ => 0) (fun _ => 0) (fun _ => 0) (fun _ => 0) (fun _ => 0) (fun _ => 0) (fun _ => 0) 12 0 0 0 0 (fun _ => 0) (fun _ => 0) (fun _ => 0) 0 (-1) (fun _ => 0) 0 (fun _ => 0) (fun _ => 0) (fun _ => 0) (fun _ => 0) (fun _ => 0) 0 0 0 0 0 0 (fun _ => 0) 100 (fun _ => 0) (fun _ => 0) (fun _ => 0) (fun _ => 0) (fun _ => 0) 0)) (va_runV (As := [.int (xs 1)]) (rest := [.int r1]) ⟨hx, hb, hml, hown, hts⟩ (c_X7_limit l dC dI k (zTX k) q2 0 1 (fun _ => 0) (fun _ => 0) 0 0 0 0 0 0 0 0 0 0 (fun _ => 0) (fun _ => 0) 0 (xs 1) _) (cwV 1 hts (gzV wmt5_61 wmt5_62 wmt5_63 wmt1_8 wmt5_64) rfl rfl rfl (by decide +kernel) ⟨Nat.le_of_ble_eq_true rfl, Nat.le_of_ble_eq_true rfl⟩) (zpA_V (ci := 7) (q0 := 0) hK hP hD rfl rfl) rfl rfl hl.1 rfl (lv_room (Nat.le_of_ble_eq_true rfl)) dL_law_1051 ⟨Nat.le_of_ble_eq_true rfl, Nat.le_of_ble_eq_true rfl⟩) hD hS hA (fun r2 u H locs hw2 hP hD hS => ?_)
  have hrr : r1 = r2 := hw1.trans hw2.symm
  refine lv_icmp_eq (tgt := 1527) hx hb dL_law_1054 (by decide) (fun c_1 => ?_) (fun c_1 => ?_)
  · exact lw_end C0 hS hl
  · exact absurd hrr c_1
set_option maxHeartbeats 4000000 in
set_option maxRecDepth 100000 in
theorem lw_c25 {p : Program} {l : Launch} {e : Env} {s : State} {m : MethodId} {below : List Frame} {meth : Method} {c : Code} {b : Nat} {xs : Nat → Int32} {dC : Nat → ClassId} {dI : Nat → Nat → Nat} {k : Nat → ClassId} {q q2 : Nat → Nat} (C0 : lw_At p s m meth c b 6 xs) (hK : zK dC dI k (zTX k) s) {H : Heap} {locs : List Loc} (hP : va_P (dC, dI) vwCl ((zX k q 0 (-1) 12 100 0 (fun _ => 0) 0 0 (fun _ => 0) (fun _ => 0) (fun _ => 0) (fun _ => 0) (fun _ => 0) (fun _ => 0) (fun _ => 0) 0 0 0 (fun _ => 0) 0 1 232792560 0 0 0 0 0 1 (fun _ => 0) (fun _ => 0) 232792560 0 0 0 0 0 1 (fun _ => 0) (fun _ => 0) 232792560 0 0 0 0 0 1 (fun _ => 0) (fun _ => 0) 232792560 0 0 0 0 0 1 (fun _ => 0) (fun _ => 0) (-1) 0 (fun _ => 0) (-1) 0 (fun _ => 0) (-1) 0 (fun _ => 0) (-1) 0 (fun _ => 0)) ++ (zM k q2 0 1 (fun _ => 0) (fun _ => 0) (fun _ => 0) (fun _ => 0) (fun _ => 0) (fun _ => 0) (fun _ => 0) (fun _ => 0) (fun _ => 0) 12 0 0 0 0 (fun _ => 0) (fun _ => 0) (fun _ => 0) 0 (-1) (fun _ => 0) 0 (fun _ => 0) (fun _ => 0) (fun _ => 0) (fun _ => 0) (fun _ => 0) 0 0 0 0 0 0 (fun _ => 0) 100 (fun _ => 0) (fun _ => 0) (fun _ => 0) (fun _ => 0) (fun _ => 0) 0)) H) (hD : va_D (fun a : Nat => s.heap.size ≤ a) ((zX k q 0 (-1) 12 100 0 (fun _ => 0) 0 0 (fun _ => 0) (fun _ => 0) (fun _ => 0) (fun _ => 0) (fun _ => 0) (fun _ => 0) (fun _ => 0) 0 0 0 (fun _ => 0) 0 1 232792560 0 0 0 0 0 1 (fun _ => 0) (fun _ => 0) 232792560 0 0 0 0 0 1 (fun _ => 0) (fun _ => 0) 232792560 0 0 0 0 0 1 (fun _ => 0) (fun _ => 0) 232792560 0 0 0 0 0 1 (fun _ => 0) (fun _ => 0) (-1) 0 (fun _ => 0) (-1) 0 (fun _ => 0) (-1) 0 (fun _ => 0) (-1) 0 (fun _ => 0)) ++ (zM k q2 0 1 (fun _ => 0) (fun _ => 0) (fun _ => 0) (fun _ => 0) (fun _ => 0) (fun _ => 0) (fun _ => 0) (fun _ => 0) (fun _ => 0) 12 0 0 0 0 (fun _ => 0) (fun _ => 0) (fun _ => 0) 0 (-1) (fun _ => 0) 0 (fun _ => 0) (fun _ => 0) (fun _ => 0) (fun _ => 0) (fun _ => 0) 0 0 0 0 0 0 (fun _ => 0) 100 (fun _ => 0) (fun _ => 0) (fun _ => 0) (fun _ => 0) (fun _ => 0) 0))) (hS : va_S (fun a : Nat => s.heap.size ≤ a) s.heap H locs) {ls : Array Slot} (hl : lv_has ls 4 [(3, .int 0), (2, .ref (q2 0)), (1, .ref (q 0)), (0, .ref b)]) : W p l e room_1 s m #[Value.ref b] below meth c H locs 1000 10000 (lw_Z below #[Value.ref b] s) (F0 m 1059 ls []) := by
  obtain ⟨hx, hb, hr, hml, hown, hts0, hX, hbl, hlocks, hgv⟩ := id C0
  have hts : ∀ w ∈ zw, w.before #[Value.ref b] s = true := fun w h => hts0 w (List.mem_filter.mp h).1
  have hA : ∀ q : Nat, s.heap.size ≤ q → (fun a : Nat => s.heap.size ≤ a) q := fun _ h => h
  have hbA : ¬ (fun a : Nat => s.heap.size ≤ a) b := Nat.not_le.mpr hbl
  refine lv_aload_n hx hb dL_law_1059 rfl (lv_at hl 2 rfl) ?_
  refine lv_aload_n hx hb dL_law_1060 rfl (lv_at hl 3 rfl) ?_
  refine lv_iload_n hx hb dL_law_1061 rfl (lv_at hl 0 rfl) ?_
  refine lv_iconst (v := 1) hx hb dL_law_1062 (by decide) ?_
  refine lv_iadd hx hb dL_law_1063 ?_
  refine z_top (v2 := .int 1) (congrArg Value.int (by decide)) ?_
  refine va_sld hx hb hX hbl hbA hS (show ¬ _ by decide) dL_law_1064 ?_
  refine z_top (v2 := .int (xs 1)) rfl ?_
  refine lv_aload_n hx hb dL_law_1065 rfl (lv_at hl 3 rfl) ?_
  refine lv_iload_n hx hb dL_law_1066 rfl (lv_at hl 0 rfl) ?_
  refine lv_iconst (v := 2) hx hb dL_law_1067 (by decide) ?_
  refine lv_iadd hx hb dL_law_1068 ?_
  refine z_top (v2 := .int 2) (congrArg Value.int (by decide)) ?_
  refine va_sld hx hb hX hbl hbA hS (show ¬ _ by decide) dL_law_1069 ?_
  refine z_top (v2 := .int (xs 2)) rfl ?_
  refine zc2_i (wx := (zX k q 0 (-1) 12 100 0 (fun _ => 0) 0 0 (fun _ => 0) (fun _ => 0) (fun _ => 0) (fun _ => 0) (fun _ => 0) (fun _ => 0) (fun _ => 0) 0 0 0 (fun _ => 0) 0 1 232792560 0 0 0 0 0 1 (fun _ => 0) (fun _ => 0) 232792560 0 0 0 0 0 1 (fun _ => 0) (fun _ => 0) 232792560 0 0 0 0 0 1 (fun _ => 0) (fun _ => 0) 232792560 0 0 0 0 0 1 (fun _ => 0) (fun _ => 0) (-1) 0 (fun _ => 0) (-1) 0 (fun _ => 0) (-1) 0 (fun _ => 0) (-1) 0 (fun _ => 0))) (wm := (zM k q2 0 1 (fun _ => 0) (fun _ => 0) (fun _ => 0) (fun _ => 0) (fun _ => 0) (fun _ => 0) (fun _ => 0) (fun _ => 0) (fun _ => 0) 12 0 0 0 0 (fun _ => 0) (fun _ => 0) (fun _ => 0) 0 (-1) (fun _ => 0) 0 (fun _ => 0) (fun _ => 0) (fun _ => 0) (fun _ => 0) (fun _ => 0) 0 0 0 0 0 0 (fun _ => 0) 100 (fun _ => 0) (fun _ => 0) (fun _ => 0) (fun _ => 0) (fun _ => 0) 0)) (va_runV (As := [.int (xs 1), .int (xs 2)]) (rest := []) ⟨hx, hb, hml, hown, hts⟩ (c_X6_may l dC dI k  q 0 (fun _ => 0) (fun _ => 0) (fun _ => 0) (fun _ => 0) (fun _ => 0) (fun _ => 0) (fun _ => 0) 0 0 0 (fun _ => 0) 0 1 232792560 0 0 0 1 (fun _ => 0) (fun _ => 0) 232792560 0 0 0 1 (fun _ => 0) (fun _ => 0) 232792560 0 0 0 1 (fun _ => 0) (fun _ => 0) 232792560 0 0 0 1 (fun _ => 0) (fun _ => 0) (fun _ => 0) (fun _ => 0) (fun _ => 0) (fun _ => 0) (xs 1) (xs 2) _) (cwV 2 hts (gzV wmt3_42 wmt3_43 wmt3_44 wmt1_1 wmt3_45) rfl rfl rfl (by decide +kernel) ⟨Nat.le_of_ble_eq_true rfl, Nat.le_of_ble_eq_true rfl⟩) (zpA_V (ci := 6) (q0 := 0) hK (z_PL hP) (z_DL hD) rfl rfl) rfl rfl hl.1 rfl (lv_room (Nat.le_of_ble_eq_true rfl)) dL_law_1070 ⟨Nat.le_of_ble_eq_true rfl, Nat.le_of_ble_eq_true rfl⟩) hP hD hS hA (fun r1 u H locs hw1 hP hD hS => ?_)
  refine lv_aload_n hx hb dL_law_1073 rfl (lv_at hl 1 rfl) ?_
  refine lv_aload_n hx hb dL_law_1074 rfl (lv_at hl 3 rfl) ?_
  refine lv_iload_n hx hb dL_law_1075 rfl (lv_at hl 0 rfl) ?_
  refine lv_iconst (v := 1) hx hb dL_law_1076 (by decide) ?_
  refine lv_iadd hx hb dL_law_1077 ?_
  refine z_top (v2 := .int 1) (congrArg Value.int (by decide)) ?_
  refine va_sld hx hb hX hbl hbA hS (show ¬ _ by decide) dL_law_1078 ?_
  refine z_top (v2 := .int (xs 1)) rfl ?_
  refine lv_aload_n hx hb dL_law_1079 rfl (lv_at hl 3 rfl) ?_
  refine lv_iload_n hx hb dL_law_1080 rfl (lv_at hl 0 rfl) ?_
  refine lv_iconst (v := 2) hx hb dL_law_1081 (by decide) ?_
  refine lv_iadd hx hb dL_law_1082 ?_
  refine z_top (v2 := .int 2) (congrArg Value.int (by decide)) ?_
  refine va_sld hx hb hX hbl hbA hS (show ¬ _ by decide) dL_law_1083 ?_
  refine z_top (v2 := .int (xs 2)) rfl ?_
  refine zcA_i (w := (zM k q2 0 1 (fun _ => 0) (fun _ => 0) (fun _ => 0) (fun _ => 0) (fun _ => 0) (fun _ => 0) (fun _ => 0) (fun _ => 0) (fun _ => 0) 12 0 0 0 0 (fun _ => 0) (fun _ => 0) (fun _ => 0) 0 (-1) (fun _ => 0) 0 (fun _ => 0) (fun _ => 0) (fun _ => 0) (fun _ => 0) (fun _ => 0) 0 0 0 0 0 0 (fun _ => 0) 100 (fun _ => 0) (fun _ => 0) (fun _ => 0) (fun _ => 0) (fun _ => 0) 0)) (va_runV (As := [.int (xs 1), .int (xs 2)]) (rest := [.int r1]) ⟨hx, hb, hml, hown, hts⟩ (c_X7_may l dC dI k (zTX k) q2 0 1 (fun _ => 0) (fun _ => 0) 0 0 0 0 0 0 0 0 0 0 (fun _ => 0) (fun _ => 0) 0 (xs 1) (xs 2) _) (cwV 2 hts (gzV wmt5_65 wmt5_66 wmt5_67 wmt1_8 wmt5_68) rfl rfl rfl (by decide +kernel) ⟨Nat.le_of_ble_eq_true rfl, Nat.le_of_ble_eq_true rfl⟩) (zpA_V (ci := 7) (q0 := 0) hK hP hD rfl rfl) rfl rfl hl.1 rfl (lv_room (Nat.le_of_ble_eq_true rfl)) dL_law_1084 ⟨Nat.le_of_ble_eq_true rfl, Nat.le_of_ble_eq_true rfl⟩) hD hS hA (fun r2 u H locs hw2 hP hD hS => ?_)
  have hrr : r1 = r2 := hw1.trans hw2.symm
  refine lv_icmp_eq (tgt := 1527) hx hb dL_law_1087 (by decide) (fun c_1 => ?_) (fun c_1 => ?_)
  · exact lw_end C0 hS hl
  · exact absurd hrr c_1
set_option maxHeartbeats 4000000 in
set_option maxRecDepth 100000 in
theorem lw_c26 {p : Program} {l : Launch} {e : Env} {s : State} {m : MethodId} {below : List Frame} {meth : Method} {c : Code} {b : Nat} {xs : Nat → Int32} {dC : Nat → ClassId} {dI : Nat → Nat → Nat} {k : Nat → ClassId} {q q2 : Nat → Nat} (C0 : lw_At p s m meth c b 6 xs) (hK : zK dC dI k (zTX k) s) {H : Heap} {locs : List Loc} (hP : va_P (dC, dI) vwCl ((zX k q 0 (-1) 12 100 0 (fun _ => 0) 0 0 (fun _ => 0) (fun _ => 0) (fun _ => 0) (fun _ => 0) (fun _ => 0) (fun _ => 0) (fun _ => 0) 0 0 0 (fun _ => 0) 0 1 232792560 0 0 0 0 0 1 (fun _ => 0) (fun _ => 0) 232792560 0 0 0 0 0 1 (fun _ => 0) (fun _ => 0) 232792560 0 0 0 0 0 1 (fun _ => 0) (fun _ => 0) 232792560 0 0 0 0 0 1 (fun _ => 0) (fun _ => 0) (-1) 0 (fun _ => 0) (-1) 0 (fun _ => 0) (-1) 0 (fun _ => 0) (-1) 0 (fun _ => 0)) ++ (zM k q2 0 1 (fun _ => 0) (fun _ => 0) (fun _ => 0) (fun _ => 0) (fun _ => 0) (fun _ => 0) (fun _ => 0) (fun _ => 0) (fun _ => 0) 12 0 0 0 0 (fun _ => 0) (fun _ => 0) (fun _ => 0) 0 (-1) (fun _ => 0) 0 (fun _ => 0) (fun _ => 0) (fun _ => 0) (fun _ => 0) (fun _ => 0) 0 0 0 0 0 0 (fun _ => 0) 100 (fun _ => 0) (fun _ => 0) (fun _ => 0) (fun _ => 0) (fun _ => 0) 0)) H) (hD : va_D (fun a : Nat => s.heap.size ≤ a) ((zX k q 0 (-1) 12 100 0 (fun _ => 0) 0 0 (fun _ => 0) (fun _ => 0) (fun _ => 0) (fun _ => 0) (fun _ => 0) (fun _ => 0) (fun _ => 0) 0 0 0 (fun _ => 0) 0 1 232792560 0 0 0 0 0 1 (fun _ => 0) (fun _ => 0) 232792560 0 0 0 0 0 1 (fun _ => 0) (fun _ => 0) 232792560 0 0 0 0 0 1 (fun _ => 0) (fun _ => 0) 232792560 0 0 0 0 0 1 (fun _ => 0) (fun _ => 0) (-1) 0 (fun _ => 0) (-1) 0 (fun _ => 0) (-1) 0 (fun _ => 0) (-1) 0 (fun _ => 0)) ++ (zM k q2 0 1 (fun _ => 0) (fun _ => 0) (fun _ => 0) (fun _ => 0) (fun _ => 0) (fun _ => 0) (fun _ => 0) (fun _ => 0) (fun _ => 0) 12 0 0 0 0 (fun _ => 0) (fun _ => 0) (fun _ => 0) 0 (-1) (fun _ => 0) 0 (fun _ => 0) (fun _ => 0) (fun _ => 0) (fun _ => 0) (fun _ => 0) 0 0 0 0 0 0 (fun _ => 0) 100 (fun _ => 0) (fun _ => 0) (fun _ => 0) (fun _ => 0) (fun _ => 0) 0))) (hS : va_S (fun a : Nat => s.heap.size ≤ a) s.heap H locs) {ls : Array Slot} (hl : lv_has ls 4 [(3, .int 0), (2, .ref (q2 0)), (1, .ref (q 0)), (0, .ref b)]) : W p l e room_1 s m #[Value.ref b] below meth c H locs 1000 10000 (lw_Z below #[Value.ref b] s) (F0 m 1092 ls []) := by
  obtain ⟨hx, hb, hr, hml, hown, hts0, hX, hbl, hlocks, hgv⟩ := id C0
  have hts : ∀ w ∈ zw, w.before #[Value.ref b] s = true := fun w h => hts0 w (List.mem_filter.mp h).1
  have hA : ∀ q : Nat, s.heap.size ≤ q → (fun a : Nat => s.heap.size ≤ a) q := fun _ h => h
  have hbA : ¬ (fun a : Nat => s.heap.size ≤ a) b := Nat.not_le.mpr hbl
  refine lv_aload_n hx hb dL_law_1092 rfl (lv_at hl 2 rfl) ?_
  refine lv_aload_n hx hb dL_law_1093 rfl (lv_at hl 3 rfl) ?_
  refine lv_iload_n hx hb dL_law_1094 rfl (lv_at hl 0 rfl) ?_
  refine lv_iconst (v := 1) hx hb dL_law_1095 (by decide) ?_
  refine lv_iadd hx hb dL_law_1096 ?_
  refine z_top (v2 := .int 1) (congrArg Value.int (by decide)) ?_
  refine va_sld hx hb hX hbl hbA hS (show ¬ _ by decide) dL_law_1097 ?_
  refine z_top (v2 := .int (xs 1)) rfl ?_
  refine lv_aload_n hx hb dL_law_1098 rfl (lv_at hl 3 rfl) ?_
  refine lv_iload_n hx hb dL_law_1099 rfl (lv_at hl 0 rfl) ?_
  refine lv_iconst (v := 2) hx hb dL_law_1100 (by decide) ?_
  refine lv_iadd hx hb dL_law_1101 ?_
  refine z_top (v2 := .int 2) (congrArg Value.int (by decide)) ?_
  refine va_sld hx hb hX hbl hbA hS (show ¬ _ by decide) dL_law_1102 ?_
  refine z_top (v2 := .int (xs 2)) rfl ?_
  refine lv_aload_n hx hb dL_law_1103 rfl (lv_at hl 3 rfl) ?_
  refine lv_iload_n hx hb dL_law_1104 rfl (lv_at hl 0 rfl) ?_
  refine lv_iconst (v := 3) hx hb dL_law_1105 (by decide) ?_
  refine lv_iadd hx hb dL_law_1106 ?_
  refine z_top (v2 := .int 3) (congrArg Value.int (by decide)) ?_
  refine va_sld hx hb hX hbl hbA hS (show ¬ _ by decide) dL_law_1107 ?_
  refine z_top (v2 := .int (xs 3)) rfl ?_
  refine zc2_i (wx := (zX k q 0 (-1) 12 100 0 (fun _ => 0) 0 0 (fun _ => 0) (fun _ => 0) (fun _ => 0) (fun _ => 0) (fun _ => 0) (fun _ => 0) (fun _ => 0) 0 0 0 (fun _ => 0) 0 1 232792560 0 0 0 0 0 1 (fun _ => 0) (fun _ => 0) 232792560 0 0 0 0 0 1 (fun _ => 0) (fun _ => 0) 232792560 0 0 0 0 0 1 (fun _ => 0) (fun _ => 0) 232792560 0 0 0 0 0 1 (fun _ => 0) (fun _ => 0) (-1) 0 (fun _ => 0) (-1) 0 (fun _ => 0) (-1) 0 (fun _ => 0) (-1) 0 (fun _ => 0))) (wm := (zM k q2 0 1 (fun _ => 0) (fun _ => 0) (fun _ => 0) (fun _ => 0) (fun _ => 0) (fun _ => 0) (fun _ => 0) (fun _ => 0) (fun _ => 0) 12 0 0 0 0 (fun _ => 0) (fun _ => 0) (fun _ => 0) 0 (-1) (fun _ => 0) 0 (fun _ => 0) (fun _ => 0) (fun _ => 0) (fun _ => 0) (fun _ => 0) 0 0 0 0 0 0 (fun _ => 0) 100 (fun _ => 0) (fun _ => 0) (fun _ => 0) (fun _ => 0) (fun _ => 0) 0)) (va_runV (As := [.int (xs 1), .int (xs 2), .int (xs 3)]) (rest := []) ⟨hx, hb, hml, hown, hts⟩ (c_X6_best l dC dI k  q 0 (fun _ => 0) (fun _ => 0) (fun _ => 0) (fun _ => 0) (fun _ => 0) (fun _ => 0) (fun _ => 0) 0 0 0 (fun _ => 0) 0 1 232792560 0 0 0 1 (fun _ => 0) (fun _ => 0) 232792560 0 0 0 1 (fun _ => 0) (fun _ => 0) 232792560 0 0 0 1 (fun _ => 0) (fun _ => 0) 232792560 0 0 0 1 (fun _ => 0) (fun _ => 0) (fun _ => 0) (fun _ => 0) (fun _ => 0) (fun _ => 0) (xs 1) (xs 2) (xs 3) _) (cwV 3 hts (gzV wmt3_54 wmt3_55 wmt3_56 wmt1_1 wmt3_57) rfl rfl rfl (by decide +kernel) ⟨Nat.le_of_ble_eq_true rfl, Nat.le_of_ble_eq_true rfl⟩) (zpA_V (ci := 6) (q0 := 0) hK (z_PL hP) (z_DL hD) rfl rfl) rfl rfl hl.1 rfl (lv_room (Nat.le_of_ble_eq_true rfl)) dL_law_1108 ⟨Nat.le_of_ble_eq_true rfl, Nat.le_of_ble_eq_true rfl⟩) hP hD hS hA (fun r1 u H locs hw1 hP hD hS => ?_)
  refine lv_aload_n hx hb dL_law_1111 rfl (lv_at hl 1 rfl) ?_
  refine lv_aload_n hx hb dL_law_1112 rfl (lv_at hl 3 rfl) ?_
  refine lv_iload_n hx hb dL_law_1113 rfl (lv_at hl 0 rfl) ?_
  refine lv_iconst (v := 1) hx hb dL_law_1114 (by decide) ?_
  refine lv_iadd hx hb dL_law_1115 ?_
  refine z_top (v2 := .int 1) (congrArg Value.int (by decide)) ?_
  refine va_sld hx hb hX hbl hbA hS (show ¬ _ by decide) dL_law_1116 ?_
  refine z_top (v2 := .int (xs 1)) rfl ?_
  refine lv_aload_n hx hb dL_law_1117 rfl (lv_at hl 3 rfl) ?_
  refine lv_iload_n hx hb dL_law_1118 rfl (lv_at hl 0 rfl) ?_
  refine lv_iconst (v := 2) hx hb dL_law_1119 (by decide) ?_
  refine lv_iadd hx hb dL_law_1120 ?_
  refine z_top (v2 := .int 2) (congrArg Value.int (by decide)) ?_
  refine va_sld hx hb hX hbl hbA hS (show ¬ _ by decide) dL_law_1121 ?_
  refine z_top (v2 := .int (xs 2)) rfl ?_
  refine lv_aload_n hx hb dL_law_1122 rfl (lv_at hl 3 rfl) ?_
  refine lv_iload_n hx hb dL_law_1123 rfl (lv_at hl 0 rfl) ?_
  refine lv_iconst (v := 3) hx hb dL_law_1124 (by decide) ?_
  refine lv_iadd hx hb dL_law_1125 ?_
  refine z_top (v2 := .int 3) (congrArg Value.int (by decide)) ?_
  refine va_sld hx hb hX hbl hbA hS (show ¬ _ by decide) dL_law_1126 ?_
  refine z_top (v2 := .int (xs 3)) rfl ?_
  refine zcA_i (w := (zM k q2 0 1 (fun _ => 0) (fun _ => 0) (fun _ => 0) (fun _ => 0) (fun _ => 0) (fun _ => 0) (fun _ => 0) (fun _ => 0) (fun _ => 0) 12 0 0 0 0 (fun _ => 0) (fun _ => 0) (fun _ => 0) 0 (-1) (fun _ => 0) 0 (fun _ => 0) (fun _ => 0) (fun _ => 0) (fun _ => 0) (fun _ => 0) 0 0 0 0 0 0 (fun _ => 0) 100 (fun _ => 0) (fun _ => 0) (fun _ => 0) (fun _ => 0) (fun _ => 0) 0)) (va_runV (As := [.int (xs 1), .int (xs 2), .int (xs 3)]) (rest := [.int r1]) ⟨hx, hb, hml, hown, hts⟩ (c_X7_best l dC dI k (zTX k) q2 0 1 (fun _ => 0) (fun _ => 0) 0 0 0 0 0 0 0 0 0 0 (fun _ => 0) (fun _ => 0) 0 (xs 1) (xs 2) (xs 3) _) (cwV 3 hts (gzV wmt5_77 wmt5_78 wmt5_79 wmt1_8 wmt5_80) rfl rfl rfl (by decide +kernel) ⟨Nat.le_of_ble_eq_true rfl, Nat.le_of_ble_eq_true rfl⟩) (zpA_V (ci := 7) (q0 := 0) hK hP hD rfl rfl) rfl rfl hl.1 rfl (lv_room (Nat.le_of_ble_eq_true rfl)) dL_law_1127 ⟨Nat.le_of_ble_eq_true rfl, Nat.le_of_ble_eq_true rfl⟩) hD hS hA (fun r2 u H locs hw2 hP hD hS => ?_)
  have hrr : r1 = r2 := hw1.trans hw2.symm
  refine lv_icmp_eq (tgt := 1527) hx hb dL_law_1130 (by decide) (fun c_1 => ?_) (fun c_1 => ?_)
  · exact lw_end C0 hS hl
  · exact absurd hrr c_1
set_option maxHeartbeats 4000000 in
set_option maxRecDepth 100000 in
theorem lw_c27 {p : Program} {l : Launch} {e : Env} {s : State} {m : MethodId} {below : List Frame} {meth : Method} {c : Code} {b : Nat} {xs : Nat → Int32} {dC : Nat → ClassId} {dI : Nat → Nat → Nat} {k : Nat → ClassId} {q q2 : Nat → Nat} (C0 : lw_At p s m meth c b 6 xs) (hK : zK dC dI k (zTX k) s) {H : Heap} {locs : List Loc} (hP : va_P (dC, dI) vwCl ((zX k q 0 (-1) 12 100 0 (fun _ => 0) 0 0 (fun _ => 0) (fun _ => 0) (fun _ => 0) (fun _ => 0) (fun _ => 0) (fun _ => 0) (fun _ => 0) 0 0 0 (fun _ => 0) 0 1 232792560 0 0 0 0 0 1 (fun _ => 0) (fun _ => 0) 232792560 0 0 0 0 0 1 (fun _ => 0) (fun _ => 0) 232792560 0 0 0 0 0 1 (fun _ => 0) (fun _ => 0) 232792560 0 0 0 0 0 1 (fun _ => 0) (fun _ => 0) (-1) 0 (fun _ => 0) (-1) 0 (fun _ => 0) (-1) 0 (fun _ => 0) (-1) 0 (fun _ => 0)) ++ (zM k q2 0 1 (fun _ => 0) (fun _ => 0) (fun _ => 0) (fun _ => 0) (fun _ => 0) (fun _ => 0) (fun _ => 0) (fun _ => 0) (fun _ => 0) 12 0 0 0 0 (fun _ => 0) (fun _ => 0) (fun _ => 0) 0 (-1) (fun _ => 0) 0 (fun _ => 0) (fun _ => 0) (fun _ => 0) (fun _ => 0) (fun _ => 0) 0 0 0 0 0 0 (fun _ => 0) 100 (fun _ => 0) (fun _ => 0) (fun _ => 0) (fun _ => 0) (fun _ => 0) 0)) H) (hD : va_D (fun a : Nat => s.heap.size ≤ a) ((zX k q 0 (-1) 12 100 0 (fun _ => 0) 0 0 (fun _ => 0) (fun _ => 0) (fun _ => 0) (fun _ => 0) (fun _ => 0) (fun _ => 0) (fun _ => 0) 0 0 0 (fun _ => 0) 0 1 232792560 0 0 0 0 0 1 (fun _ => 0) (fun _ => 0) 232792560 0 0 0 0 0 1 (fun _ => 0) (fun _ => 0) 232792560 0 0 0 0 0 1 (fun _ => 0) (fun _ => 0) 232792560 0 0 0 0 0 1 (fun _ => 0) (fun _ => 0) (-1) 0 (fun _ => 0) (-1) 0 (fun _ => 0) (-1) 0 (fun _ => 0) (-1) 0 (fun _ => 0)) ++ (zM k q2 0 1 (fun _ => 0) (fun _ => 0) (fun _ => 0) (fun _ => 0) (fun _ => 0) (fun _ => 0) (fun _ => 0) (fun _ => 0) (fun _ => 0) 12 0 0 0 0 (fun _ => 0) (fun _ => 0) (fun _ => 0) 0 (-1) (fun _ => 0) 0 (fun _ => 0) (fun _ => 0) (fun _ => 0) (fun _ => 0) (fun _ => 0) 0 0 0 0 0 0 (fun _ => 0) 100 (fun _ => 0) (fun _ => 0) (fun _ => 0) (fun _ => 0) (fun _ => 0) 0))) (hS : va_S (fun a : Nat => s.heap.size ≤ a) s.heap H locs) {ls : Array Slot} (hl : lv_has ls 4 [(3, .int 0), (2, .ref (q2 0)), (1, .ref (q 0)), (0, .ref b)]) : W p l e room_1 s m #[Value.ref b] below meth c H locs 1000 10000 (lw_Z below #[Value.ref b] s) (F0 m 1135 ls []) := by
  obtain ⟨hx, hb, hr, hml, hown, hts0, hX, hbl, hlocks, hgv⟩ := id C0
  have hts : ∀ w ∈ zw, w.before #[Value.ref b] s = true := fun w h => hts0 w (List.mem_filter.mp h).1
  have hA : ∀ q : Nat, s.heap.size ≤ q → (fun a : Nat => s.heap.size ≤ a) q := fun _ h => h
  have hbA : ¬ (fun a : Nat => s.heap.size ≤ a) b := Nat.not_le.mpr hbl
  refine lv_aload_n hx hb dL_law_1135 rfl (lv_at hl 2 rfl) ?_
  refine lv_aload_n hx hb dL_law_1136 rfl (lv_at hl 3 rfl) ?_
  refine lv_iload_n hx hb dL_law_1137 rfl (lv_at hl 0 rfl) ?_
  refine lv_iconst (v := 1) hx hb dL_law_1138 (by decide) ?_
  refine lv_iadd hx hb dL_law_1139 ?_
  refine z_top (v2 := .int 1) (congrArg Value.int (by decide)) ?_
  refine va_sld hx hb hX hbl hbA hS (show ¬ _ by decide) dL_law_1140 ?_
  refine z_top (v2 := .int (xs 1)) rfl ?_
  refine lv_aload_n hx hb dL_law_1141 rfl (lv_at hl 3 rfl) ?_
  refine lv_iload_n hx hb dL_law_1142 rfl (lv_at hl 0 rfl) ?_
  refine lv_iconst (v := 2) hx hb dL_law_1143 (by decide) ?_
  refine lv_iadd hx hb dL_law_1144 ?_
  refine z_top (v2 := .int 2) (congrArg Value.int (by decide)) ?_
  refine va_sld hx hb hX hbl hbA hS (show ¬ _ by decide) dL_law_1145 ?_
  refine z_top (v2 := .int (xs 2)) rfl ?_
  refine lv_aload_n hx hb dL_law_1146 rfl (lv_at hl 3 rfl) ?_
  refine lv_iload_n hx hb dL_law_1147 rfl (lv_at hl 0 rfl) ?_
  refine lv_iconst (v := 3) hx hb dL_law_1148 (by decide) ?_
  refine lv_iadd hx hb dL_law_1149 ?_
  refine z_top (v2 := .int 3) (congrArg Value.int (by decide)) ?_
  refine va_sld hx hb hX hbl hbA hS (show ¬ _ by decide) dL_law_1150 ?_
  refine z_top (v2 := .int (xs 3)) rfl ?_
  refine lv_aload_n hx hb dL_law_1151 rfl (lv_at hl 3 rfl) ?_
  refine lv_iload_n hx hb dL_law_1152 rfl (lv_at hl 0 rfl) ?_
  refine lv_iconst (v := 4) hx hb dL_law_1153 (by decide) ?_
  refine lv_iadd hx hb dL_law_1154 ?_
  refine z_top (v2 := .int 4) (congrArg Value.int (by decide)) ?_
  refine va_sld hx hb hX hbl hbA hS (show ¬ _ by decide) dL_law_1155 ?_
  refine z_top (v2 := .int (xs 4)) rfl ?_
  refine lv_aload_n hx hb dL_law_1156 rfl (lv_at hl 3 rfl) ?_
  refine lv_iload_n hx hb dL_law_1157 rfl (lv_at hl 0 rfl) ?_
  refine lv_iconst (v := 5) hx hb dL_law_1158 (by decide) ?_
  refine lv_iadd hx hb dL_law_1159 ?_
  refine z_top (v2 := .int 5) (congrArg Value.int (by decide)) ?_
  refine va_sld hx hb hX hbl hbA hS (show ¬ _ by decide) dL_law_1160 ?_
  refine z_top (v2 := .int (xs 5)) rfl ?_
  refine zc2_l (wx := (zX k q 0 (-1) 12 100 0 (fun _ => 0) 0 0 (fun _ => 0) (fun _ => 0) (fun _ => 0) (fun _ => 0) (fun _ => 0) (fun _ => 0) (fun _ => 0) 0 0 0 (fun _ => 0) 0 1 232792560 0 0 0 0 0 1 (fun _ => 0) (fun _ => 0) 232792560 0 0 0 0 0 1 (fun _ => 0) (fun _ => 0) 232792560 0 0 0 0 0 1 (fun _ => 0) (fun _ => 0) 232792560 0 0 0 0 0 1 (fun _ => 0) (fun _ => 0) (-1) 0 (fun _ => 0) (-1) 0 (fun _ => 0) (-1) 0 (fun _ => 0) (-1) 0 (fun _ => 0))) (wm := (zM k q2 0 1 (fun _ => 0) (fun _ => 0) (fun _ => 0) (fun _ => 0) (fun _ => 0) (fun _ => 0) (fun _ => 0) (fun _ => 0) (fun _ => 0) 12 0 0 0 0 (fun _ => 0) (fun _ => 0) (fun _ => 0) 0 (-1) (fun _ => 0) 0 (fun _ => 0) (fun _ => 0) (fun _ => 0) (fun _ => 0) (fun _ => 0) 0 0 0 0 0 0 (fun _ => 0) 100 (fun _ => 0) (fun _ => 0) (fun _ => 0) (fun _ => 0) (fun _ => 0) 0)) (va_runV (As := [.int (xs 1), .int (xs 2), .int (xs 3), .int (xs 4), .int (xs 5)]) (rest := []) ⟨hx, hb, hml, hown, hts⟩ (c_X6_parted l dC dI k  q 0 (fun _ => 0) (fun _ => 0) (fun _ => 0) (fun _ => 0) (fun _ => 0) (fun _ => 0) (fun _ => 0) 0 0 0 (fun _ => 0) 0 1 232792560 0 0 0 1 (fun _ => 0) (fun _ => 0) 232792560 0 0 0 1 (fun _ => 0) (fun _ => 0) 232792560 0 0 0 1 (fun _ => 0) (fun _ => 0) 232792560 0 0 0 1 (fun _ => 0) (fun _ => 0) (fun _ => 0) (fun _ => 0) (fun _ => 0) (fun _ => 0) (xs 1) (xs 2) (xs 3) (xs 4) (xs 5) _) (cwV 5 hts (gzV wmt3_65 wmt3_66 wmt3_67 wmt1_1 wmt3_68) rfl rfl rfl (by decide +kernel) ⟨Nat.le_of_ble_eq_true rfl, Nat.le_of_ble_eq_true rfl⟩) (zpA_V (ci := 6) (q0 := 0) hK (z_PL hP) (z_DL hD) rfl rfl) rfl rfl hl.1 rfl (lv_room (Nat.le_of_ble_eq_true rfl)) dL_law_1161 ⟨Nat.le_of_ble_eq_true rfl, Nat.le_of_ble_eq_true rfl⟩) hP hD hS hA (fun r1 u H locs hw1 hP hD hS => ?_)
  refine lv_aload_n hx hb dL_law_1164 rfl (lv_at hl 1 rfl) ?_
  refine lv_aload_n hx hb dL_law_1165 rfl (lv_at hl 3 rfl) ?_
  refine lv_iload_n hx hb dL_law_1166 rfl (lv_at hl 0 rfl) ?_
  refine lv_iconst (v := 1) hx hb dL_law_1167 (by decide) ?_
  refine lv_iadd hx hb dL_law_1168 ?_
  refine z_top (v2 := .int 1) (congrArg Value.int (by decide)) ?_
  refine va_sld hx hb hX hbl hbA hS (show ¬ _ by decide) dL_law_1169 ?_
  refine z_top (v2 := .int (xs 1)) rfl ?_
  refine lv_aload_n hx hb dL_law_1170 rfl (lv_at hl 3 rfl) ?_
  refine lv_iload_n hx hb dL_law_1171 rfl (lv_at hl 0 rfl) ?_
  refine lv_iconst (v := 2) hx hb dL_law_1172 (by decide) ?_
  refine lv_iadd hx hb dL_law_1173 ?_
  refine z_top (v2 := .int 2) (congrArg Value.int (by decide)) ?_
  refine va_sld hx hb hX hbl hbA hS (show ¬ _ by decide) dL_law_1174 ?_
  refine z_top (v2 := .int (xs 2)) rfl ?_
  refine lv_aload_n hx hb dL_law_1175 rfl (lv_at hl 3 rfl) ?_
  refine lv_iload_n hx hb dL_law_1176 rfl (lv_at hl 0 rfl) ?_
  refine lv_iconst (v := 3) hx hb dL_law_1177 (by decide) ?_
  refine lv_iadd hx hb dL_law_1178 ?_
  refine z_top (v2 := .int 3) (congrArg Value.int (by decide)) ?_
  refine va_sld hx hb hX hbl hbA hS (show ¬ _ by decide) dL_law_1179 ?_
  refine z_top (v2 := .int (xs 3)) rfl ?_
  refine lv_aload_n hx hb dL_law_1180 rfl (lv_at hl 3 rfl) ?_
  refine lv_iload_n hx hb dL_law_1181 rfl (lv_at hl 0 rfl) ?_
  refine lv_iconst (v := 4) hx hb dL_law_1182 (by decide) ?_
  refine lv_iadd hx hb dL_law_1183 ?_
  refine z_top (v2 := .int 4) (congrArg Value.int (by decide)) ?_
  refine va_sld hx hb hX hbl hbA hS (show ¬ _ by decide) dL_law_1184 ?_
  refine z_top (v2 := .int (xs 4)) rfl ?_
  refine lv_aload_n hx hb dL_law_1185 rfl (lv_at hl 3 rfl) ?_
  refine lv_iload_n hx hb dL_law_1186 rfl (lv_at hl 0 rfl) ?_
  refine lv_iconst (v := 5) hx hb dL_law_1187 (by decide) ?_
  refine lv_iadd hx hb dL_law_1188 ?_
  refine z_top (v2 := .int 5) (congrArg Value.int (by decide)) ?_
  refine va_sld hx hb hX hbl hbA hS (show ¬ _ by decide) dL_law_1189 ?_
  refine z_top (v2 := .int (xs 5)) rfl ?_
  refine zcA_l (w := (zM k q2 0 1 (fun _ => 0) (fun _ => 0) (fun _ => 0) (fun _ => 0) (fun _ => 0) (fun _ => 0) (fun _ => 0) (fun _ => 0) (fun _ => 0) 12 0 0 0 0 (fun _ => 0) (fun _ => 0) (fun _ => 0) 0 (-1) (fun _ => 0) 0 (fun _ => 0) (fun _ => 0) (fun _ => 0) (fun _ => 0) (fun _ => 0) 0 0 0 0 0 0 (fun _ => 0) 100 (fun _ => 0) (fun _ => 0) (fun _ => 0) (fun _ => 0) (fun _ => 0) 0)) (va_runV (As := [.int (xs 1), .int (xs 2), .int (xs 3), .int (xs 4), .int (xs 5)]) (rest := [.long r1]) ⟨hx, hb, hml, hown, hts⟩ (c_X7_parted l dC dI k (zTX k) q2 0 1 (fun _ => 0) (fun _ => 0) 0 0 0 0 0 0 0 0 0 0 (fun _ => 0) (fun _ => 0) 0 (xs 1) (xs 2) (xs 3) (xs 4) (xs 5) _) (cwV 5 hts (gzV wmt5_82 wmt5_83 wmt5_84 wmt1_8 wmt5_85) rfl rfl rfl (by decide +kernel) ⟨Nat.le_of_ble_eq_true rfl, Nat.le_of_ble_eq_true rfl⟩) (zpA_V (ci := 7) (q0 := 0) hK hP hD rfl rfl) rfl rfl hl.1 rfl (lv_room (Nat.le_of_ble_eq_true rfl)) dL_law_1190 ⟨Nat.le_of_ble_eq_true rfl, Nat.le_of_ble_eq_true rfl⟩) hD hS hA (fun r2 u H locs hw2 hP hD hS => ?_)
  refine z_lcmp hx hb dL_law_1193 ?_
  have hrr : r1 = r2 := hw1.trans hw2.symm
  refine lv_if_eq (tgt := 1527) hx hb dL_law_1194 (by decide) (fun c_1 => ?_) (fun c_1 => ?_)
  · exact lw_end C0 hS hl
  · exact absurd ((lg_cmp_eq _ _).mpr hrr) c_1
