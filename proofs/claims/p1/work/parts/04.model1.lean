set_option maxHeartbeats 4000000 in
set_option maxRecDepth 100000 in
theorem c_X7_byteNow (l : Launch) (dC : Nat → ClassId) (dI : Nat → Nat → Nat) (k : Nat → ClassId) (T : List (ClassId × FieldType)) (q : Nat → Nat) (j0 : Int64) (j1 : Int64) (r4 : Nat → Int32) (r6 : Nat → Int32) (i12 : Int32) (i14 : Int32) (i15 : Int32) (i28 : Int32) (i29 : Int32) (j30 : Int64) (j31 : Int64) (j32 : Int64) (i33 : Int32) (r34 : Nat → Int32) (r40 : Nat → Int32) (i41 : Int32) (sz : Nat) (hd : 0 ≤ i12 ∧ i12 ≤ 3) : Met l yX7_byteNow (wz yX7_byteNow cX7_byteNow 1 (some .int)) ({ frames := 0, cells := 0, slots := 0, locals := 0 }) (va_Pc [.ref (q 0)] (zPre dC dI k T (zM k q j0 j1 (fun _ => 0) (fun _ => 0) r4 (fun _ => 0) r6 (fun _ => 0) (fun _ => 0) (fun _ => 0) (fun _ => 0) 12 i12 0 i14 i15 (fun _ => 0) (fun _ => 0) (fun _ => 0) 0 (-1) (fun _ => 0) 0 (fun _ => 0) (fun _ => 0) (fun _ => 0) (fun _ => 0) (fun _ => 0) i28 i29 j30 j31 j32 i33 r34 100 (fun _ => 0) (fun _ => 0) (fun _ => 0) (fun _ => 0) r40 i41) sz)) (va_Qi (fun (r : Int32) (u : Unit) => r = (-1)) (fun u t => zPost dC dI (va_A (zM k q j0 j1 (fun _ => 0) (fun _ => 0) r4 (fun _ => 0) r6 (fun _ => 0) (fun _ => 0) (fun _ => 0) (fun _ => 0) 12 i12 0 i14 i15 (fun _ => 0) (fun _ => 0) (fun _ => 0) 0 (-1) (fun _ => 0) 0 (fun _ => 0) (fun _ => 0) (fun _ => 0) (fun _ => 0) (fun _ => 0) i28 i29 j30 j31 j32 i33 r34 100 (fun _ => 0) (fun _ => 0) (fun _ => 0) (fun _ => 0) r40 i41) sz) (zM k q j0 j1 (fun _ => 0) (fun _ => 0) r4 (fun _ => 0) r6 (fun _ => 0) (fun _ => 0) (fun _ => 0) (fun _ => 0) 12 i12 0 i14 i15 (fun _ => 0) (fun _ => 0) (fun _ => 0) 0 (-1) (fun _ => 0) 0 (fun _ => 0) (fun _ => 0) (fun _ => 0) (fun _ => 0) (fun _ => 0) i28 i29 j30 j31 j32 i33 r34 100 (fun _ => 0) (fun _ => 0) (fun _ => 0) (fun _ => 0) r40 i41) t) (va_A (zM k q j0 j1 (fun _ => 0) (fun _ => 0) r4 (fun _ => 0) r6 (fun _ => 0) (fun _ => 0) (fun _ => 0) (fun _ => 0) 12 i12 0 i14 i15 (fun _ => 0) (fun _ => 0) (fun _ => 0) 0 (-1) (fun _ => 0) 0 (fun _ => 0) (fun _ => 0) (fun _ => 0) (fun _ => 0) (fun _ => 0) i28 i29 j30 j31 j32 i33 r34 100 (fun _ => 0) (fun _ => 0) (fun _ => 0) (fun _ => 0) r40 i41) sz)) 0 0 (va_A (zM k q j0 j1 (fun _ => 0) (fun _ => 0) r4 (fun _ => 0) r6 (fun _ => 0) (fun _ => 0) (fun _ => 0) (fun _ => 0) 12 i12 0 i14 i15 (fun _ => 0) (fun _ => 0) (fun _ => 0) 0 (-1) (fun _ => 0) 0 (fun _ => 0) (fun _ => 0) (fun _ => 0) (fun _ => 0) (fun _ => 0) i28 i29 j30 j31 j32 i33 r34 100 (fun _ => 0) (fun _ => 0) (fun _ => 0) (fun _ => 0) r40 i41) sz) := by
  refine Met.ofW (cc := cX7_byteNow) (maxL := 1) (ret := (some .int)) (by decide) rfl ?_
  intro p e s m args below meth c s₁ B hml hv
  obtain ⟨rfl, hsz, hP, hK, hD0⟩ := hv
  have hx := B.exec
  have hb := B.bytes
  have hr := B.returns
  have hts : ∀ w ∈ zw, w.before _ s = true := fun w h => atoms_spec (ws := (wz yX7_byteNow cX7_byteNow 1 (some .int))) B.pre w (List.mem_cons_of_mem _ h)
  have hown : s.vm.findClass RX7 = some m.cls := findClass_of_methodNamed B.named
  have hlocks := B.notSynchronized
  subst hsz
  have hi7 := inw7
  have hD := hD0.self (sz := s.heap.size)
  generalize hAe : va_A (zM k q j0 j1 (fun _ => 0) (fun _ => 0) r4 (fun _ => 0) r6 (fun _ => 0) (fun _ => 0) (fun _ => 0) (fun _ => 0) 12 i12 0 i14 i15 (fun _ => 0) (fun _ => 0) (fun _ => 0) 0 (-1) (fun _ => 0) 0 (fun _ => 0) (fun _ => 0) (fun _ => 0) (fun _ => 0) (fun _ => 0) i28 i29 j30 j31 j32 i33 r34 100 (fun _ => 0) (fun _ => 0) (fun _ => 0) (fun _ => 0) r40 i41) s.heap.size = A at hD ⊢
  have hA : ∀ q : Nat, s.heap.size ≤ q → A q := fun q h => by rw [← hAe]; exact Or.inr h
  have hl := lv_entry ([.ref (q 0)]) (n := 1) (Nat.le_of_ble_eq_true rfl)
  rw [lg_entry_eq]
  generalize (lg_sl ([.ref (q 0)]) ++ List.replicate (1 - (lg_sl ([.ref (q 0)])).length) Slot.unset).toArray = ls at hl ⊢
  have hl : lv_has ls 1 [(0, .ref (q 0))] := hl
  refine z_start (w := (zM k q j0 j1 (fun _ => 0) (fun _ => 0) r4 (fun _ => 0) r6 (fun _ => 0) (fun _ => 0) (fun _ => 0) (fun _ => 0) 12 i12 0 i14 i15 (fun _ => 0) (fun _ => 0) (fun _ => 0) 0 (-1) (fun _ => 0) 0 (fun _ => 0) (fun _ => 0) (fun _ => 0) (fun _ => 0) (fun _ => 0) i28 i29 j30 j31 j32 i33 r34 100 (fun _ => 0) (fun _ => 0) (fun _ => 0) (fun _ => 0) r40 i41)) hP hD (fun H locs hP hD hS => ?_)
  refine lv_aload_n hx hb dX7_byteNow_0 rfl (lv_at hl 0 rfl) ?_
  refine va_get (D := (dC, dI)) (ci := 7) (v := .int 0) (C := RX7) (T := TX7) (N := 42) hx hb hts hi7 hown hK.1 hP 0 rfl rfl 13 (by decide) (hts _ wmt3_180) (fun _ h9 => h9) rfl dX7_byteNow_1 ?_
  refine lv_aload_n hx hb dX7_byteNow_4 rfl (lv_at hl 0 rfl) ?_
  refine va_get (D := (dC, dI)) (ci := 7) (v := .ref (q 2)) (C := RX7) (T := TX7) (N := 42) hx hb hts hi7 hown hK.1 hP 0 rfl rfl 2 (by decide) (hts _ wmt3_169) (fun _ h9 => h9) rfl dX7_byteNow_5 ?_
  refine lv_aload_n hx hb dX7_byteNow_8 rfl (lv_at hl 0 rfl) ?_
  refine va_get (D := (dC, dI)) (ci := 7) (v := .int i12) (C := RX7) (T := TX7) (N := 42) hx hb hts hi7 hown hK.1 hP 0 rfl rfl 12 (by decide) (hts _ wmt3_179) (fun _ h9 => h9) rfl dX7_byteNow_9 ?_
  refine va_iald (D := (dC, dI)) hx hb hK.1 hP 1 0 rfl rfl (by first | exact zin4 (by assumption) | exact zin24 (by assumption)) dX7_byteNow_12 ?_
  refine z_top (v2 := .int 0) (rfl) ?_
  refine lv_icmp_ge (tgt := 36) hx hb dX7_byteNow_13 (by decide) (fun c_1 => ?_) (fun c_1 => ?_)
  · skip
    refine lv_iconst (v := (-1)) hx hb dX7_byteNow_36 (by decide) ?_
    exact W.iret (v := (-1)) hx hb hr (fun t ht hW => ⟨⟨(-1), (), rfl, (by first | assumption | with_reducible rfl | exact (if_pos (by repeat' (first | assumption | decide | constructor))).symm | exact (if_neg (fun hh => absurd hh (by assumption))).symm | exact (if_neg (fun hh => absurd hh.1 (by assumption))).symm | exact (if_neg (fun hh => absurd hh.2 (by assumption))).symm | exact (if_neg (fun hh => absurd hh.1.1 (by assumption))).symm | exact (if_neg (fun hh => absurd hh.1.2 (by assumption))).symm | exact (if_neg (fun hh => absurd hh.2.1 (by assumption))).symm | exact (if_neg (fun hh => absurd hh.2.2 (by assumption))).symm | exact (if_neg (fun hh => absurd hh.2.2.1 (by assumption))).symm | exact (if_neg (fun hh => absurd hh.2.2.2 (by assumption))).symm | decide | (exfalso; simp only [zi_le, zi_lt, zi_eq, zi_n0, zi_n1, zi_n2, zi_n3, zi_n4, zi_n23, zi_n24, zi_n100, zi_n399, zi_n60, zi_n255, zi_n99, zi_nm1, zi_n30] at *; omega) | (simp_all; done)), ⟨by rw [ht]; exact hP, hD⟩⟩, hS.F ht⟩) hS.2.2 dX7_byteNow_37
  · skip
    exact absurd (by decide) c_1
set_option maxHeartbeats 4000000 in
set_option maxRecDepth 100000 in
theorem c_X7_partRead (l : Launch) (dC : Nat → ClassId) (dI : Nat → Nat → Nat) (k : Nat → ClassId) (T : List (ClassId × FieldType)) (q : Nat → Nat) (j0 : Int64) (j1 : Int64) (r4 : Nat → Int32) (r6 : Nat → Int32) (i12 : Int32) (i15 : Int32) (i28 : Int32) (i29 : Int32) (j30 : Int64) (j31 : Int64) (j32 : Int64) (i33 : Int32) (r34 : Nat → Int32) (r40 : Nat → Int32) (i41 : Int32) (sz : Nat) (hd : 0 ≤ i12 ∧ i12 ≤ 3) : Met l yX7_partRead (wz yX7_partRead cX7_partRead 4 none) ({ frames := 1, cells := 0, slots := 0, locals := 20 }) (va_Pc [.ref (q 0)] (zPre dC dI k T (zM k q j0 j1 (fun _ => 0) (fun _ => 0) r4 (fun _ => 0) r6 (fun _ => 0) (fun _ => 0) (fun _ => 0) (fun _ => 0) 12 i12 0 (-1) i15 (fun _ => 0) (fun _ => 0) (fun _ => 0) 0 (-1) (fun _ => 0) 0 (fun _ => 0) (fun _ => 0) (fun _ => 0) (fun _ => 0) (fun _ => 0) i28 i29 j30 j31 j32 i33 r34 100 (fun _ => 0) (fun _ => 0) (fun _ => 0) (fun _ => 0) r40 i41) sz)) (va_Qv (fun (u : Unit) => True) (fun u t => zPost dC dI (va_A (zM k q j0 j1 (fun _ => 0) (fun _ => 0) r4 (fun _ => 0) r6 (fun _ => 0) (fun _ => 0) (fun _ => 0) (fun _ => 0) 12 i12 0 (-1) i15 (fun _ => 0) (fun _ => 0) (fun _ => 0) 0 (-1) (fun _ => 0) 0 (fun _ => 0) (fun _ => 0) (fun _ => 0) (fun _ => 0) (fun _ => 0) i28 i29 j30 j31 j32 i33 r34 100 (fun _ => 0) (fun _ => 0) (fun _ => 0) (fun _ => 0) r40 i41) sz) (zM k q j0 j1 (fun _ => 0) (fun _ => 0) r4 (fun _ => 0) r6 (fun _ => 0) (fun _ => 0) (fun _ => 0) (fun _ => 0) 12 i12 0 0 i15 (fun _ => 0) (fun _ => 0) (fun _ => 0) 0 (-1) (fun _ => 0) 0 (fun _ => 0) (fun _ => 0) (fun _ => 0) (fun _ => 0) (fun _ => 0) i28 i29 j30 j31 j32 i33 r34 100 (fun _ => 0) (fun _ => 0) (fun _ => 0) (fun _ => 0) r40 i41) t) (va_A (zM k q j0 j1 (fun _ => 0) (fun _ => 0) r4 (fun _ => 0) r6 (fun _ => 0) (fun _ => 0) (fun _ => 0) (fun _ => 0) 12 i12 0 (-1) i15 (fun _ => 0) (fun _ => 0) (fun _ => 0) 0 (-1) (fun _ => 0) 0 (fun _ => 0) (fun _ => 0) (fun _ => 0) (fun _ => 0) (fun _ => 0) i28 i29 j30 j31 j32 i33 r34 100 (fun _ => 0) (fun _ => 0) (fun _ => 0) (fun _ => 0) r40 i41) sz)) 0 0 (va_A (zM k q j0 j1 (fun _ => 0) (fun _ => 0) r4 (fun _ => 0) r6 (fun _ => 0) (fun _ => 0) (fun _ => 0) (fun _ => 0) 12 i12 0 (-1) i15 (fun _ => 0) (fun _ => 0) (fun _ => 0) 0 (-1) (fun _ => 0) 0 (fun _ => 0) (fun _ => 0) (fun _ => 0) (fun _ => 0) (fun _ => 0) i28 i29 j30 j31 j32 i33 r34 100 (fun _ => 0) (fun _ => 0) (fun _ => 0) (fun _ => 0) r40 i41) sz) := by
  refine Met.ofW (cc := cX7_partRead) (maxL := 4) (ret := none) (by decide) rfl ?_
  intro p e s m args below meth c s₁ B hml hv
  obtain ⟨rfl, hsz, hP, hK, hD0⟩ := hv
  have hx := B.exec
  have hb := B.bytes
  have hr := B.returns
  have hts : ∀ w ∈ zw, w.before _ s = true := fun w h => atoms_spec (ws := (wz yX7_partRead cX7_partRead 4 none)) B.pre w (List.mem_cons_of_mem _ h)
  have hown : s.vm.findClass RX7 = some m.cls := findClass_of_methodNamed B.named
  have hlocks := B.notSynchronized
  subst hsz
  have hi7 := inw7
  have hD := hD0.self (sz := s.heap.size)
  generalize hAe : va_A (zM k q j0 j1 (fun _ => 0) (fun _ => 0) r4 (fun _ => 0) r6 (fun _ => 0) (fun _ => 0) (fun _ => 0) (fun _ => 0) 12 i12 0 (-1) i15 (fun _ => 0) (fun _ => 0) (fun _ => 0) 0 (-1) (fun _ => 0) 0 (fun _ => 0) (fun _ => 0) (fun _ => 0) (fun _ => 0) (fun _ => 0) i28 i29 j30 j31 j32 i33 r34 100 (fun _ => 0) (fun _ => 0) (fun _ => 0) (fun _ => 0) r40 i41) s.heap.size = A at hD ⊢
  have hA : ∀ q : Nat, s.heap.size ≤ q → A q := fun q h => by rw [← hAe]; exact Or.inr h
  have hl := lv_entry ([.ref (q 0)]) (n := 4) (Nat.le_of_ble_eq_true rfl)
  rw [lg_entry_eq]
  generalize (lg_sl ([.ref (q 0)]) ++ List.replicate (4 - (lg_sl ([.ref (q 0)])).length) Slot.unset).toArray = ls at hl ⊢
  have hl : lv_has ls 4 [(0, .ref (q 0))] := hl
  refine z_start (w := (zM k q j0 j1 (fun _ => 0) (fun _ => 0) r4 (fun _ => 0) r6 (fun _ => 0) (fun _ => 0) (fun _ => 0) (fun _ => 0) 12 i12 0 (-1) i15 (fun _ => 0) (fun _ => 0) (fun _ => 0) 0 (-1) (fun _ => 0) 0 (fun _ => 0) (fun _ => 0) (fun _ => 0) (fun _ => 0) (fun _ => 0) i28 i29 j30 j31 j32 i33 r34 100 (fun _ => 0) (fun _ => 0) (fun _ => 0) (fun _ => 0) r40 i41)) hP hD (fun H locs hP hD hS => ?_)
  refine lv_aload_n hx hb dX7_partRead_0 rfl (lv_at hl 0 rfl) ?_
  refine zc_i (w := (zM k q j0 j1 (fun _ => 0) (fun _ => 0) r4 (fun _ => 0) r6 (fun _ => 0) (fun _ => 0) (fun _ => 0) (fun _ => 0) 12 i12 0 (-1) i15 (fun _ => 0) (fun _ => 0) (fun _ => 0) 0 (-1) (fun _ => 0) 0 (fun _ => 0) (fun _ => 0) (fun _ => 0) (fun _ => 0) (fun _ => 0) i28 i29 j30 j31 j32 i33 r34 100 (fun _ => 0) (fun _ => 0) (fun _ => 0) (fun _ => 0) r40 i41)) (wc := (zM k q j0 j1 (fun _ => 0) (fun _ => 0) r4 (fun _ => 0) r6 (fun _ => 0) (fun _ => 0) (fun _ => 0) (fun _ => 0) 12 i12 0 (-1) i15 (fun _ => 0) (fun _ => 0) (fun _ => 0) 0 (-1) (fun _ => 0) 0 (fun _ => 0) (fun _ => 0) (fun _ => 0) (fun _ => 0) (fun _ => 0) i28 i29 j30 j31 j32 i33 r34 100 (fun _ => 0) (fun _ => 0) (fun _ => 0) (fun _ => 0) r40 i41)) (wr := []) (va_runV (As := []) (rest := []) ⟨hx, hb, hml, hown, hts⟩ (c_X7_byteNow l dC dI k T q j0 j1 r4 r6 i12 (-1) i15 i28 i29 j30 j31 j32 i33 r34 r40 i41 _ (by assumption)) (cwV 0 hts (gzV wmt4_85 wmt4_87 wmp2_9 wmt1_8 wmt4_88) rfl rfl rfl (by decide +kernel) ⟨Nat.le_of_ble_eq_true rfl, Nat.le_of_ble_eq_true rfl⟩) (zp_V (ci := 7) (q0 := 0) hK hP hD [0, 1, 2, 3, 4, 5, 6, 7, 8, 9, 10, 11, 12, 13, 14, 15, 16, 17, 18, 19, 20, 21, 22, 23, 24] rfl rfl rfl rfl) rfl rfl hl.1 rfl (lv_room (Nat.le_of_ble_eq_true rfl)) dX7_partRead_1 ⟨Nat.le_of_ble_eq_true rfl, Nat.le_of_ble_eq_true rfl⟩) hP hD hS hA [0, 1, 2, 3, 4, 5, 6, 7, 8, 9, 10, 11, 12, 13, 14, 15, 16, 17, 18, 19, 20, 21, 22, 23, 24] [] rfl rfl (by decide) (by decide) (fun r_1 u_2 H locs w_3 hP hD hS => ?_)
  have hP : va_P (dC, dI) vwCl (zM k q j0 j1 (fun _ => 0) (fun _ => 0) r4 (fun _ => 0) r6 (fun _ => 0) (fun _ => 0) (fun _ => 0) (fun _ => 0) 12 i12 0 (-1) i15 (fun _ => 0) (fun _ => 0) (fun _ => 0) 0 (-1) (fun _ => 0) 0 (fun _ => 0) (fun _ => 0) (fun _ => 0) (fun _ => 0) (fun _ => 0) i28 i29 j30 j31 j32 i33 r34 100 (fun _ => 0) (fun _ => 0) (fun _ => 0) (fun _ => 0) r40 i41) H := hP.sub [0, 1, 2, 3, 4, 5, 6, 7, 8, 9, 10, 11, 12, 13, 14, 15, 16, 17, 18, 19, 20, 21, 22, 23, 24] rfl
  have hD : va_D A (zM k q j0 j1 (fun _ => 0) (fun _ => 0) r4 (fun _ => 0) r6 (fun _ => 0) (fun _ => 0) (fun _ => 0) (fun _ => 0) 12 i12 0 (-1) i15 (fun _ => 0) (fun _ => 0) (fun _ => 0) 0 (-1) (fun _ => 0) 0 (fun _ => 0) (fun _ => 0) (fun _ => 0) (fun _ => 0) (fun _ => 0) i28 i29 j30 j31 j32 i33 r34 100 (fun _ => 0) (fun _ => 0) (fun _ => 0) (fun _ => 0) r40 i41) := hD.sub [0, 1, 2, 3, 4, 5, 6, 7, 8, 9, 10, 11, 12, 13, 14, 15, 16, 17, 18, 19, 20, 21, 22, 23, 24] (by decide) rfl
  have e_4 := w_3
  replace e_4 : r_1 = (-1) := e_4
  subst e_4
  refine lv_istore_n (lv' := [(1, .int (-1)), (0, .ref (q 0))]) hx hb dX7_partRead_4 rfl hl (by decide) rfl (fun ls hl => ?_)
  refine lv_iload_n hx hb dX7_partRead_5 rfl (lv_at hl 0 rfl) ?_
  refine lv_bipush (v := 116) hx hb dX7_partRead_6 (by decide) ?_
  refine lv_icmp_eq (tgt := 44) hx hb dX7_partRead_8 (by decide) (fun c_5 => ?_) (fun c_5 => ?_)
  · skip
    exact absurd c_5 (by decide)
  · skip
    refine lv_iload_n hx hb dX7_partRead_11 rfl (lv_at hl 0 rfl) ?_
    refine lv_bipush (v := 111) hx hb dX7_partRead_12 (by decide) ?_
    refine lv_icmp_eq (tgt := 44) hx hb dX7_partRead_14 (by decide) (fun c_6 => ?_) (fun c_6 => ?_)
    · skip
      exact absurd c_6 (by decide)
    · skip
      refine lv_iload_n hx hb dX7_partRead_17 rfl (lv_at hl 0 rfl) ?_
      refine lv_bipush (v := 121) hx hb dX7_partRead_18 (by decide) ?_
      refine lv_icmp_eq (tgt := 44) hx hb dX7_partRead_20 (by decide) (fun c_7 => ?_) (fun c_7 => ?_)
      · skip
        exact absurd c_7 (by decide)
      · skip
        refine lv_iload_n hx hb dX7_partRead_23 rfl (lv_at hl 0 rfl) ?_
        refine lv_bipush (v := 110) hx hb dX7_partRead_24 (by decide) ?_
        refine lv_icmp_eq (tgt := 44) hx hb dX7_partRead_26 (by decide) (fun c_8 => ?_) (fun c_8 => ?_)
        · skip
          exact absurd c_8 (by decide)
        · skip
          refine lv_iload_n hx hb dX7_partRead_29 rfl (lv_at hl 0 rfl) ?_
          refine lv_bipush (v := 117) hx hb dX7_partRead_30 (by decide) ?_
          refine lv_icmp_eq (tgt := 44) hx hb dX7_partRead_32 (by decide) (fun c_9 => ?_) (fun c_9 => ?_)
          · skip
            exact absurd c_9 (by decide)
          · skip
            refine lv_aload_n hx hb dX7_partRead_35 rfl (lv_at hl 1 rfl) ?_
            refine lv_aload_n hx hb dX7_partRead_36 rfl (lv_at hl 1 rfl) ?_
            refine va_get (D := (dC, dI)) (ci := 7) (v := .int 0) (C := RX7) (T := TX7) (N := 42) hx hb hts hi7 hown hK.1 hP 0 rfl rfl 13 (by decide) (hts _ wmt3_180) (fun _ h9 => h9) rfl dX7_partRead_37 ?_
            refine va_put (D := (dC, dI)) (ci := 7) (v := .int 0) (ty := .int) (C := RX7) (T := TX7) (N := 42) hx hb hts hi7 tyX7 tyX7_ok nmX7 hown hK.1 hP hD hS 0 rfl rfl 14 (by decide) (hts _ wmt3_181) (fun _ h9 => h9) rfl (by decide +kernel) rfl rfl (Nat.le_of_ble_eq_true rfl) dX7_partRead_40 (fun H locs hP hD hS => ?_)
            have hP : va_P (dC, dI) vwCl (zM k q j0 j1 (fun _ => 0) (fun _ => 0) r4 (fun _ => 0) r6 (fun _ => 0) (fun _ => 0) (fun _ => 0) (fun _ => 0) 12 i12 0 0 i15 (fun _ => 0) (fun _ => 0) (fun _ => 0) 0 (-1) (fun _ => 0) 0 (fun _ => 0) (fun _ => 0) (fun _ => 0) (fun _ => 0) (fun _ => 0) i28 i29 j30 j31 j32 i33 r34 100 (fun _ => 0) (fun _ => 0) (fun _ => 0) (fun _ => 0) r40 i41) H := hP
            have hD : va_D A (zM k q j0 j1 (fun _ => 0) (fun _ => 0) r4 (fun _ => 0) r6 (fun _ => 0) (fun _ => 0) (fun _ => 0) (fun _ => 0) 12 i12 0 0 i15 (fun _ => 0) (fun _ => 0) (fun _ => 0) 0 (-1) (fun _ => 0) 0 (fun _ => 0) (fun _ => 0) (fun _ => 0) (fun _ => 0) (fun _ => 0) i28 i29 j30 j31 j32 i33 r34 100 (fun _ => 0) (fun _ => 0) (fun _ => 0) (fun _ => 0) r40 i41) := hD
            exact W.vret hx hb hr (fun t ht hW => ⟨⟨(), rfl, trivial, ⟨by rw [ht]; exact hP, hD⟩⟩, hS.F ht⟩) hS.2.2 dX7_partRead_43
set_option maxHeartbeats 4000000 in
set_option maxRecDepth 100000 in
theorem c_X7_reads (l : Launch) (dC : Nat → ClassId) (dI : Nat → Nat → Nat) (k : Nat → ClassId) (T : List (ClassId × FieldType)) (q : Nat → Nat) (j0 : Int64) (j1 : Int64) (r4 : Nat → Int32) (r6 : Nat → Int32) (i12 : Int32) (i13 : Int32) (i14 : Int32) (i15 : Int32) (i28 : Int32) (i29 : Int32) (j30 : Int64) (j31 : Int64) (j32 : Int64) (i33 : Int32) (r34 : Nat → Int32) (r40 : Nat → Int32) (i41 : Int32) (d : Int32) (sz : Nat) (hd : 0 ≤ d ∧ d ≤ 3) : Met l yX7_reads (wz yX7_reads cX7_reads 5 none) ({ frames := 2, cells := 0, slots := 0, locals := 43 }) (va_Pc [.ref (q 0), .int d] (zPre dC dI k T (zM k q j0 j1 (fun _ => 0) (fun _ => 0) r4 (fun _ => 0) r6 (fun _ => 0) (fun _ => 0) (fun _ => 0) (fun _ => 0) 12 i12 i13 i14 i15 (fun _ => 0) (fun _ => 0) (fun _ => 0) 0 (-1) (fun _ => 0) 0 (fun _ => 0) (fun _ => 0) (fun _ => 0) (fun _ => 0) (fun _ => 0) i28 i29 j30 j31 j32 i33 r34 100 (fun _ => 0) (fun _ => 0) (fun _ => 0) (fun _ => 0) r40 i41) sz)) (va_Qv (fun (u : (Nat → Int32) × (Nat → Int32) × Int32 × Int32 × Int32 × Int32) => True) (fun u t => zPost dC dI (va_A (zM k q j0 j1 (fun _ => 0) (fun _ => 0) r4 (fun _ => 0) r6 (fun _ => 0) (fun _ => 0) (fun _ => 0) (fun _ => 0) 12 i12 i13 i14 i15 (fun _ => 0) (fun _ => 0) (fun _ => 0) 0 (-1) (fun _ => 0) 0 (fun _ => 0) (fun _ => 0) (fun _ => 0) (fun _ => 0) (fun _ => 0) i28 i29 j30 j31 j32 i33 r34 100 (fun _ => 0) (fun _ => 0) (fun _ => 0) (fun _ => 0) r40 i41) sz) (zM k q j0 j1 (fun _ => 0) (fun _ => 0) u.1 (fun _ => 0) u.2.1 (fun _ => 0) (fun _ => 0) (fun _ => 0) (fun _ => 0) 12 u.2.2.1 u.2.2.2.1 u.2.2.2.2.1 u.2.2.2.2.2 (fun _ => 0) (fun _ => 0) (fun _ => 0) 0 (-1) (fun _ => 0) 0 (fun _ => 0) (fun _ => 0) (fun _ => 0) (fun _ => 0) (fun _ => 0) i28 i29 j30 j31 j32 i33 r34 100 (fun _ => 0) (fun _ => 0) (fun _ => 0) (fun _ => 0) r40 i41) t) (va_A (zM k q j0 j1 (fun _ => 0) (fun _ => 0) r4 (fun _ => 0) r6 (fun _ => 0) (fun _ => 0) (fun _ => 0) (fun _ => 0) 12 i12 i13 i14 i15 (fun _ => 0) (fun _ => 0) (fun _ => 0) 0 (-1) (fun _ => 0) 0 (fun _ => 0) (fun _ => 0) (fun _ => 0) (fun _ => 0) (fun _ => 0) i28 i29 j30 j31 j32 i33 r34 100 (fun _ => 0) (fun _ => 0) (fun _ => 0) (fun _ => 0) r40 i41) sz)) 0 0 (va_A (zM k q j0 j1 (fun _ => 0) (fun _ => 0) r4 (fun _ => 0) r6 (fun _ => 0) (fun _ => 0) (fun _ => 0) (fun _ => 0) 12 i12 i13 i14 i15 (fun _ => 0) (fun _ => 0) (fun _ => 0) 0 (-1) (fun _ => 0) 0 (fun _ => 0) (fun _ => 0) (fun _ => 0) (fun _ => 0) (fun _ => 0) i28 i29 j30 j31 j32 i33 r34 100 (fun _ => 0) (fun _ => 0) (fun _ => 0) (fun _ => 0) r40 i41) sz) := by
  refine Met.ofW (cc := cX7_reads) (maxL := 5) (ret := none) (by decide) rfl ?_
  intro p e s m args below meth c s₁ B hml hv
  obtain ⟨rfl, hsz, hP, hK, hD0⟩ := hv
  have hx := B.exec
  have hb := B.bytes
  have hr := B.returns
  have hts : ∀ w ∈ zw, w.before _ s = true := fun w h => atoms_spec (ws := (wz yX7_reads cX7_reads 5 none)) B.pre w (List.mem_cons_of_mem _ h)
  have hown : s.vm.findClass RX7 = some m.cls := findClass_of_methodNamed B.named
  have hlocks := B.notSynchronized
  subst hsz
  have hi7 := inw7
  have hD := hD0.self (sz := s.heap.size)
  generalize hAe : va_A (zM k q j0 j1 (fun _ => 0) (fun _ => 0) r4 (fun _ => 0) r6 (fun _ => 0) (fun _ => 0) (fun _ => 0) (fun _ => 0) 12 i12 i13 i14 i15 (fun _ => 0) (fun _ => 0) (fun _ => 0) 0 (-1) (fun _ => 0) 0 (fun _ => 0) (fun _ => 0) (fun _ => 0) (fun _ => 0) (fun _ => 0) i28 i29 j30 j31 j32 i33 r34 100 (fun _ => 0) (fun _ => 0) (fun _ => 0) (fun _ => 0) r40 i41) s.heap.size = A at hD ⊢
  have hA : ∀ q : Nat, s.heap.size ≤ q → A q := fun q h => by rw [← hAe]; exact Or.inr h
  have hl := lv_entry ([.ref (q 0), .int d]) (n := 5) (Nat.le_of_ble_eq_true rfl)
  rw [lg_entry_eq]
  generalize (lg_sl ([.ref (q 0), .int d]) ++ List.replicate (5 - (lg_sl ([.ref (q 0), .int d])).length) Slot.unset).toArray = ls at hl ⊢
  have hl : lv_has ls 5 [(0, .ref (q 0)), (1, .int d)] := hl
  refine z_start (w := (zM k q j0 j1 (fun _ => 0) (fun _ => 0) r4 (fun _ => 0) r6 (fun _ => 0) (fun _ => 0) (fun _ => 0) (fun _ => 0) 12 i12 i13 i14 i15 (fun _ => 0) (fun _ => 0) (fun _ => 0) 0 (-1) (fun _ => 0) 0 (fun _ => 0) (fun _ => 0) (fun _ => 0) (fun _ => 0) (fun _ => 0) i28 i29 j30 j31 j32 i33 r34 100 (fun _ => 0) (fun _ => 0) (fun _ => 0) (fun _ => 0) r40 i41)) hP hD (fun H locs hP hD hS => ?_)
  refine lv_aload_n hx hb dX7_reads_0 rfl (lv_at hl 0 rfl) ?_
  refine va_get (D := (dC, dI)) (ci := 7) (v := .ref (q 4)) (C := RX7) (T := TX7) (N := 42) hx hb hts hi7 hown hK.1 hP 0 rfl rfl 4 (by decide) (hts _ wmt3_171) (fun _ h9 => h9) rfl dX7_reads_1 ?_
  refine lv_iload_n hx hb dX7_reads_4 rfl (lv_at hl 1 rfl) ?_
  refine va_zald (D := (dC, dI)) hx hb hK.1 hP 3 2 rfl rfl (by first | exact zin4 (by assumption) | exact zin24 (by assumption)) dX7_reads_5 ?_
  refine z_top (v2 := .int (r4 d.toNatClampNeg)) (rfl) ?_
  refine lv_topi (fun x_1 ex_1 => ?_)
  refine lv_if_eq (tgt := 10) hx hb dX7_reads_6 (by decide) (fun c_2 => ?_) (fun c_2 => ?_)
  · skip
    refine lv_aload_n hx hb dX7_reads_10 rfl (lv_at hl 0 rfl) ?_
    refine va_get (D := (dC, dI)) (ci := 7) (v := .ref (q 4)) (C := RX7) (T := TX7) (N := 42) hx hb hts hi7 hown hK.1 hP 0 rfl rfl 4 (by decide) (hts _ wmt3_171) (fun _ h9 => h9) rfl dX7_reads_11 ?_
    refine lv_iload_n hx hb dX7_reads_14 rfl (lv_at hl 1 rfl) ?_
    refine lv_iconst (v := 1) hx hb dX7_reads_15 (by decide) ?_
    refine va_zast (D := (dC, dI)) hx hb hK.1 hP hD hS 3 2 rfl rfl (by first | exact zin4 (by assumption) | exact zin24 (by assumption)) dX7_reads_16 (fun H locs hP hD hS => ?_)
    have hP : va_P (dC, dI) vwCl (zM k q j0 j1 (fun _ => 0) (fun _ => 0) (upd r4 d.toNatClampNeg 1) (fun _ => 0) r6 (fun _ => 0) (fun _ => 0) (fun _ => 0) (fun _ => 0) 12 i12 i13 i14 i15 (fun _ => 0) (fun _ => 0) (fun _ => 0) 0 (-1) (fun _ => 0) 0 (fun _ => 0) (fun _ => 0) (fun _ => 0) (fun _ => 0) (fun _ => 0) i28 i29 j30 j31 j32 i33 r34 100 (fun _ => 0) (fun _ => 0) (fun _ => 0) (fun _ => 0) r40 i41) H := hP
    have hD : va_D A (zM k q j0 j1 (fun _ => 0) (fun _ => 0) (upd r4 d.toNatClampNeg 1) (fun _ => 0) r6 (fun _ => 0) (fun _ => 0) (fun _ => 0) (fun _ => 0) 12 i12 i13 i14 i15 (fun _ => 0) (fun _ => 0) (fun _ => 0) 0 (-1) (fun _ => 0) 0 (fun _ => 0) (fun _ => 0) (fun _ => 0) (fun _ => 0) (fun _ => 0) i28 i29 j30 j31 j32 i33 r34 100 (fun _ => 0) (fun _ => 0) (fun _ => 0) (fun _ => 0) r40 i41) := hD
    refine lv_aload_n hx hb dX7_reads_17 rfl (lv_at hl 0 rfl) ?_
    refine lv_iload_n hx hb dX7_reads_18 rfl (lv_at hl 1 rfl) ?_
    refine va_put (D := (dC, dI)) (ci := 7) (v := .int d) (ty := .int) (C := RX7) (T := TX7) (N := 42) hx hb hts hi7 tyX7 tyX7_ok nmX7 hown hK.1 hP hD hS 0 rfl rfl 12 (by decide) (hts _ wmt3_179) (fun _ h9 => h9) rfl (by decide +kernel) rfl rfl (Nat.le_of_ble_eq_true rfl) dX7_reads_19 (fun H locs hP hD hS => ?_)
    have hP : va_P (dC, dI) vwCl (zM k q j0 j1 (fun _ => 0) (fun _ => 0) (upd r4 d.toNatClampNeg 1) (fun _ => 0) r6 (fun _ => 0) (fun _ => 0) (fun _ => 0) (fun _ => 0) 12 d i13 i14 i15 (fun _ => 0) (fun _ => 0) (fun _ => 0) 0 (-1) (fun _ => 0) 0 (fun _ => 0) (fun _ => 0) (fun _ => 0) (fun _ => 0) (fun _ => 0) i28 i29 j30 j31 j32 i33 r34 100 (fun _ => 0) (fun _ => 0) (fun _ => 0) (fun _ => 0) r40 i41) H := hP
    have hD : va_D A (zM k q j0 j1 (fun _ => 0) (fun _ => 0) (upd r4 d.toNatClampNeg 1) (fun _ => 0) r6 (fun _ => 0) (fun _ => 0) (fun _ => 0) (fun _ => 0) 12 d i13 i14 i15 (fun _ => 0) (fun _ => 0) (fun _ => 0) 0 (-1) (fun _ => 0) 0 (fun _ => 0) (fun _ => 0) (fun _ => 0) (fun _ => 0) (fun _ => 0) i28 i29 j30 j31 j32 i33 r34 100 (fun _ => 0) (fun _ => 0) (fun _ => 0) (fun _ => 0) r40 i41) := hD
    refine lv_aload_n hx hb dX7_reads_22 rfl (lv_at hl 0 rfl) ?_
    refine lv_iconst (v := 0) hx hb dX7_reads_23 (by decide) ?_
    refine va_put (D := (dC, dI)) (ci := 7) (v := .int 0) (ty := .int) (C := RX7) (T := TX7) (N := 42) hx hb hts hi7 tyX7 tyX7_ok nmX7 hown hK.1 hP hD hS 0 rfl rfl 13 (by decide) (hts _ wmt3_180) (fun _ h9 => h9) rfl (by decide +kernel) rfl rfl (Nat.le_of_ble_eq_true rfl) dX7_reads_24 (fun H locs hP hD hS => ?_)
    have hP : va_P (dC, dI) vwCl (zM k q j0 j1 (fun _ => 0) (fun _ => 0) (upd r4 d.toNatClampNeg 1) (fun _ => 0) r6 (fun _ => 0) (fun _ => 0) (fun _ => 0) (fun _ => 0) 12 d 0 i14 i15 (fun _ => 0) (fun _ => 0) (fun _ => 0) 0 (-1) (fun _ => 0) 0 (fun _ => 0) (fun _ => 0) (fun _ => 0) (fun _ => 0) (fun _ => 0) i28 i29 j30 j31 j32 i33 r34 100 (fun _ => 0) (fun _ => 0) (fun _ => 0) (fun _ => 0) r40 i41) H := hP
    have hD : va_D A (zM k q j0 j1 (fun _ => 0) (fun _ => 0) (upd r4 d.toNatClampNeg 1) (fun _ => 0) r6 (fun _ => 0) (fun _ => 0) (fun _ => 0) (fun _ => 0) 12 d 0 i14 i15 (fun _ => 0) (fun _ => 0) (fun _ => 0) 0 (-1) (fun _ => 0) 0 (fun _ => 0) (fun _ => 0) (fun _ => 0) (fun _ => 0) (fun _ => 0) i28 i29 j30 j31 j32 i33 r34 100 (fun _ => 0) (fun _ => 0) (fun _ => 0) (fun _ => 0) r40 i41) := hD
    refine lv_aload_n hx hb dX7_reads_27 rfl (lv_at hl 0 rfl) ?_
    refine lv_iconst (v := (-1)) hx hb dX7_reads_28 (by decide) ?_
    refine va_put (D := (dC, dI)) (ci := 7) (v := .int (-1)) (ty := .int) (C := RX7) (T := TX7) (N := 42) hx hb hts hi7 tyX7 tyX7_ok nmX7 hown hK.1 hP hD hS 0 rfl rfl 14 (by decide) (hts _ wmt3_181) (fun _ h9 => h9) rfl (by decide +kernel) rfl rfl (Nat.le_of_ble_eq_true rfl) dX7_reads_29 (fun H locs hP hD hS => ?_)
    have hP : va_P (dC, dI) vwCl (zM k q j0 j1 (fun _ => 0) (fun _ => 0) (upd r4 d.toNatClampNeg 1) (fun _ => 0) r6 (fun _ => 0) (fun _ => 0) (fun _ => 0) (fun _ => 0) 12 d 0 (-1) i15 (fun _ => 0) (fun _ => 0) (fun _ => 0) 0 (-1) (fun _ => 0) 0 (fun _ => 0) (fun _ => 0) (fun _ => 0) (fun _ => 0) (fun _ => 0) i28 i29 j30 j31 j32 i33 r34 100 (fun _ => 0) (fun _ => 0) (fun _ => 0) (fun _ => 0) r40 i41) H := hP
    have hD : va_D A (zM k q j0 j1 (fun _ => 0) (fun _ => 0) (upd r4 d.toNatClampNeg 1) (fun _ => 0) r6 (fun _ => 0) (fun _ => 0) (fun _ => 0) (fun _ => 0) 12 d 0 (-1) i15 (fun _ => 0) (fun _ => 0) (fun _ => 0) 0 (-1) (fun _ => 0) 0 (fun _ => 0) (fun _ => 0) (fun _ => 0) (fun _ => 0) (fun _ => 0) i28 i29 j30 j31 j32 i33 r34 100 (fun _ => 0) (fun _ => 0) (fun _ => 0) (fun _ => 0) r40 i41) := hD
    refine lv_aload_n hx hb dX7_reads_32 rfl (lv_at hl 0 rfl) ?_
    refine lv_iconst (v := 0) hx hb dX7_reads_33 (by decide) ?_
    refine va_put (D := (dC, dI)) (ci := 7) (v := .int 0) (ty := .int) (C := RX7) (T := TX7) (N := 42) hx hb hts hi7 tyX7 tyX7_ok nmX7 hown hK.1 hP hD hS 0 rfl rfl 15 (by decide) (hts _ wmt3_182) (fun _ h9 => h9) rfl (by decide +kernel) rfl rfl (Nat.le_of_ble_eq_true rfl) dX7_reads_34 (fun H locs hP hD hS => ?_)
    have hP : va_P (dC, dI) vwCl (zM k q j0 j1 (fun _ => 0) (fun _ => 0) (upd r4 d.toNatClampNeg 1) (fun _ => 0) r6 (fun _ => 0) (fun _ => 0) (fun _ => 0) (fun _ => 0) 12 d 0 (-1) 0 (fun _ => 0) (fun _ => 0) (fun _ => 0) 0 (-1) (fun _ => 0) 0 (fun _ => 0) (fun _ => 0) (fun _ => 0) (fun _ => 0) (fun _ => 0) i28 i29 j30 j31 j32 i33 r34 100 (fun _ => 0) (fun _ => 0) (fun _ => 0) (fun _ => 0) r40 i41) H := hP
    have hD : va_D A (zM k q j0 j1 (fun _ => 0) (fun _ => 0) (upd r4 d.toNatClampNeg 1) (fun _ => 0) r6 (fun _ => 0) (fun _ => 0) (fun _ => 0) (fun _ => 0) 12 d 0 (-1) 0 (fun _ => 0) (fun _ => 0) (fun _ => 0) 0 (-1) (fun _ => 0) 0 (fun _ => 0) (fun _ => 0) (fun _ => 0) (fun _ => 0) (fun _ => 0) i28 i29 j30 j31 j32 i33 r34 100 (fun _ => 0) (fun _ => 0) (fun _ => 0) (fun _ => 0) r40 i41) := hD
    refine lv_aload_n hx hb dX7_reads_37 rfl (lv_at hl 0 rfl) ?_
    refine zc_v (w := (zM k q j0 j1 (fun _ => 0) (fun _ => 0) (upd r4 d.toNatClampNeg 1) (fun _ => 0) r6 (fun _ => 0) (fun _ => 0) (fun _ => 0) (fun _ => 0) 12 d 0 (-1) 0 (fun _ => 0) (fun _ => 0) (fun _ => 0) 0 (-1) (fun _ => 0) 0 (fun _ => 0) (fun _ => 0) (fun _ => 0) (fun _ => 0) (fun _ => 0) i28 i29 j30 j31 j32 i33 r34 100 (fun _ => 0) (fun _ => 0) (fun _ => 0) (fun _ => 0) r40 i41)) (wc := (zM k q j0 j1 (fun _ => 0) (fun _ => 0) (upd r4 d.toNatClampNeg 1) (fun _ => 0) r6 (fun _ => 0) (fun _ => 0) (fun _ => 0) (fun _ => 0) 12 d 0 (-1) 0 (fun _ => 0) (fun _ => 0) (fun _ => 0) 0 (-1) (fun _ => 0) 0 (fun _ => 0) (fun _ => 0) (fun _ => 0) (fun _ => 0) (fun _ => 0) i28 i29 j30 j31 j32 i33 r34 100 (fun _ => 0) (fun _ => 0) (fun _ => 0) (fun _ => 0) r40 i41)) (wr := []) (va_runV (As := []) (rest := []) ⟨hx, hb, hml, hown, hts⟩ (c_X7_partRead l dC dI k T q j0 j1 (upd r4 d.toNatClampNeg 1) r6 d 0 i28 i29 j30 j31 j32 i33 r34 r40 i41 _ (by assumption)) (cwV 0 hts (gzV wmt4_81 wmt4_83 wmp2_8 wmt1_8 wmt4_84) rfl rfl rfl (by decide +kernel) ⟨Nat.le_of_ble_eq_true rfl, Nat.le_of_ble_eq_true rfl⟩) (zp_V (ci := 7) (q0 := 0) hK hP hD [0, 1, 2, 3, 4, 5, 6, 7, 8, 9, 10, 11, 12, 13, 14, 15, 16, 17, 18, 19, 20, 21, 22, 23, 24] rfl rfl rfl rfl) rfl rfl hl.1 rfl (lv_room (Nat.le_of_ble_eq_true rfl)) dX7_reads_38 ⟨Nat.le_of_ble_eq_true rfl, Nat.le_of_ble_eq_true rfl⟩) hP hD hS hA [0, 1, 2, 3, 4, 5, 6, 7, 8, 9, 10, 11, 12, 13, 14, 15, 16, 17, 18, 19, 20, 21, 22, 23, 24] [] rfl rfl (by decide) (by decide) (fun u_4 H locs w_5 hP hD hS => ?_)
    have hP : va_P (dC, dI) vwCl (zM k q j0 j1 (fun _ => 0) (fun _ => 0) (upd r4 d.toNatClampNeg 1) (fun _ => 0) r6 (fun _ => 0) (fun _ => 0) (fun _ => 0) (fun _ => 0) 12 d 0 0 0 (fun _ => 0) (fun _ => 0) (fun _ => 0) 0 (-1) (fun _ => 0) 0 (fun _ => 0) (fun _ => 0) (fun _ => 0) (fun _ => 0) (fun _ => 0) i28 i29 j30 j31 j32 i33 r34 100 (fun _ => 0) (fun _ => 0) (fun _ => 0) (fun _ => 0) r40 i41) H := hP.sub [0, 1, 2, 3, 4, 5, 6, 7, 8, 9, 10, 11, 12, 13, 14, 15, 16, 17, 18, 19, 20, 21, 22, 23, 24] rfl
    have hD : va_D A (zM k q j0 j1 (fun _ => 0) (fun _ => 0) (upd r4 d.toNatClampNeg 1) (fun _ => 0) r6 (fun _ => 0) (fun _ => 0) (fun _ => 0) (fun _ => 0) 12 d 0 0 0 (fun _ => 0) (fun _ => 0) (fun _ => 0) 0 (-1) (fun _ => 0) 0 (fun _ => 0) (fun _ => 0) (fun _ => 0) (fun _ => 0) (fun _ => 0) i28 i29 j30 j31 j32 i33 r34 100 (fun _ => 0) (fun _ => 0) (fun _ => 0) (fun _ => 0) r40 i41) := hD.sub [0, 1, 2, 3, 4, 5, 6, 7, 8, 9, 10, 11, 12, 13, 14, 15, 16, 17, 18, 19, 20, 21, 22, 23, 24] (by decide) rfl
    refine lv_aload_n hx hb dX7_reads_41 rfl (lv_at hl 0 rfl) ?_
    refine va_get (D := (dC, dI)) (ci := 7) (v := .int 0) (C := RX7) (T := TX7) (N := 42) hx hb hts hi7 hown hK.1 hP 0 rfl rfl 14 (by decide) (hts _ wmt3_181) (fun _ h9 => h9) rfl dX7_reads_42 ?_
    refine lv_iconst (v := (-1)) hx hb dX7_reads_45 (by decide) ?_
    refine lv_icmp_ne (tgt := 99) hx hb dX7_reads_46 (by decide) (fun c_6 => ?_) (fun c_6 => ?_)
    · skip
      refine lv_aload_n hx hb dX7_reads_99 rfl (lv_at hl 0 rfl) ?_
      refine va_get (D := (dC, dI)) (ci := 7) (v := .int 0) (C := RX7) (T := TX7) (N := 42) hx hb hts hi7 hown hK.1 hP 0 rfl rfl 14 (by decide) (hts _ wmt3_181) (fun _ h9 => h9) rfl dX7_reads_100 ?_
      refine lv_iconst (v := (-1)) hx hb dX7_reads_103 (by decide) ?_
      refine lv_icmp_ne (tgt := 114) hx hb dX7_reads_104 (by decide) (fun c_7 => ?_) (fun c_7 => ?_)
      · skip
        refine lv_bipush (v := 25) hx hb dX7_reads_114 (by decide) ?_
        refine lv_istore_n (lv' := [(2, .int 25), (0, .ref (q 0)), (1, .int d)]) hx hb dX7_reads_116 rfl hl (by decide) rfl (fun ls hl => ?_)
        refine lv_aload_n hx hb dX7_reads_117 rfl (lv_at hl 1 rfl) ?_
        refine va_get (D := (dC, dI)) (ci := 7) (v := .int 0) (C := RX7) (T := TX7) (N := 42) hx hb hts hi7 hown hK.1 hP 0 rfl rfl 14 (by decide) (hts _ wmt3_181) (fun _ h9 => h9) rfl dX7_reads_118 ?_
        refine lv_iconst (v := (-1)) hx hb dX7_reads_121 (by decide) ?_
        refine lv_icmp_ne (tgt := 299) hx hb dX7_reads_122 (by decide) (fun c_8 => ?_) (fun c_8 => ?_)
        · skip
          refine lv_aload_n hx hb dX7_reads_299 rfl (lv_at hl 1 rfl) ?_
          refine va_get (D := (dC, dI)) (ci := 7) (v := .int 0) (C := RX7) (T := TX7) (N := 42) hx hb hts hi7 hown hK.1 hP 0 rfl rfl 14 (by decide) (hts _ wmt3_181) (fun _ h9 => h9) rfl dX7_reads_300 ?_
          refine lv_iconst (v := (-1)) hx hb dX7_reads_303 (by decide) ?_
          refine lv_icmp_ne (tgt := 317) hx hb dX7_reads_304 (by decide) (fun c_9 => ?_) (fun c_9 => ?_)
          · skip
            refine lv_aload_n hx hb dX7_reads_317 rfl (lv_at hl 1 rfl) ?_
            refine va_get (D := (dC, dI)) (ci := 7) (v := .ref (q 6)) (C := RX7) (T := TX7) (N := 42) hx hb hts hi7 hown hK.1 hP 0 rfl rfl 6 (by decide) (hts _ wmt3_173) (fun _ h9 => h9) rfl dX7_reads_318 ?_
            refine lv_iload_n hx hb dX7_reads_321 rfl (lv_at hl 2 rfl) ?_
            refine lv_iload_n hx hb dX7_reads_322 rfl (lv_at hl 0 rfl) ?_
            refine va_iast (D := (dC, dI)) hx hb hK.1 hP hD hS 5 0 rfl rfl (by first | exact zin4 (by assumption) | exact zin24 (by assumption)) dX7_reads_323 (fun H locs hP hD hS => ?_)
            have hP : va_P (dC, dI) vwCl (zM k q j0 j1 (fun _ => 0) (fun _ => 0) (upd r4 d.toNatClampNeg 1) (fun _ => 0) (upd r6 d.toNatClampNeg 25) (fun _ => 0) (fun _ => 0) (fun _ => 0) (fun _ => 0) 12 d 0 0 0 (fun _ => 0) (fun _ => 0) (fun _ => 0) 0 (-1) (fun _ => 0) 0 (fun _ => 0) (fun _ => 0) (fun _ => 0) (fun _ => 0) (fun _ => 0) i28 i29 j30 j31 j32 i33 r34 100 (fun _ => 0) (fun _ => 0) (fun _ => 0) (fun _ => 0) r40 i41) H := hP
            have hD : va_D A (zM k q j0 j1 (fun _ => 0) (fun _ => 0) (upd r4 d.toNatClampNeg 1) (fun _ => 0) (upd r6 d.toNatClampNeg 25) (fun _ => 0) (fun _ => 0) (fun _ => 0) (fun _ => 0) 12 d 0 0 0 (fun _ => 0) (fun _ => 0) (fun _ => 0) 0 (-1) (fun _ => 0) 0 (fun _ => 0) (fun _ => 0) (fun _ => 0) (fun _ => 0) (fun _ => 0) i28 i29 j30 j31 j32 i33 r34 100 (fun _ => 0) (fun _ => 0) (fun _ => 0) (fun _ => 0) r40 i41) := hD
            refine lv_aload_n hx hb dX7_reads_324 rfl (lv_at hl 1 rfl) ?_
            refine va_get (D := (dC, dI)) (ci := 7) (v := .ref (q 5)) (C := RX7) (T := TX7) (N := 42) hx hb hts hi7 hown hK.1 hP 0 rfl rfl 5 (by decide) (hts _ wmt3_172) (fun _ h9 => h9) rfl dX7_reads_325 ?_
            refine lv_iload_n hx hb dX7_reads_328 rfl (lv_at hl 2 rfl) ?_
            refine lv_aload_n hx hb dX7_reads_329 rfl (lv_at hl 1 rfl) ?_
            refine va_get (D := (dC, dI)) (ci := 7) (v := .int 0) (C := RX7) (T := TX7) (N := 42) hx hb hts hi7 hown hK.1 hP 0 rfl rfl 14 (by decide) (hts _ wmt3_181) (fun _ h9 => h9) rfl dX7_reads_330 ?_
            refine va_iast (D := (dC, dI)) hx hb hK.1 hP hD hS 4 0 rfl rfl (by first | exact zin4 (by assumption) | exact zin24 (by assumption)) dX7_reads_333 (fun H locs hP hD hS => ?_)
            rw [z_upd0] at hP hD
            have hP : va_P (dC, dI) vwCl (zM k q j0 j1 (fun _ => 0) (fun _ => 0) (upd r4 d.toNatClampNeg 1) (fun _ => 0) (upd r6 d.toNatClampNeg 25) (fun _ => 0) (fun _ => 0) (fun _ => 0) (fun _ => 0) 12 d 0 0 0 (fun _ => 0) (fun _ => 0) (fun _ => 0) 0 (-1) (fun _ => 0) 0 (fun _ => 0) (fun _ => 0) (fun _ => 0) (fun _ => 0) (fun _ => 0) i28 i29 j30 j31 j32 i33 r34 100 (fun _ => 0) (fun _ => 0) (fun _ => 0) (fun _ => 0) r40 i41) H := hP
            have hD : va_D A (zM k q j0 j1 (fun _ => 0) (fun _ => 0) (upd r4 d.toNatClampNeg 1) (fun _ => 0) (upd r6 d.toNatClampNeg 25) (fun _ => 0) (fun _ => 0) (fun _ => 0) (fun _ => 0) 12 d 0 0 0 (fun _ => 0) (fun _ => 0) (fun _ => 0) 0 (-1) (fun _ => 0) 0 (fun _ => 0) (fun _ => 0) (fun _ => 0) (fun _ => 0) (fun _ => 0) i28 i29 j30 j31 j32 i33 r34 100 (fun _ => 0) (fun _ => 0) (fun _ => 0) (fun _ => 0) r40 i41) := hD
            exact W.vret hx hb hr (fun t ht hW => ⟨⟨((upd r4 d.toNatClampNeg 1), upd r6 d.toNatClampNeg 25, d, 0, 0, 0), rfl, trivial, ⟨by rw [ht]; exact hP, hD⟩⟩, hS.F ht⟩) hS.2.2 dX7_reads_334
          · skip
            exact absurd c_9 (by decide)
        · skip
          exact absurd c_8 (by decide)
      · skip
        exact absurd c_7 (by decide)
    · skip
      exact absurd c_6 (by decide)
  · skip
    exact W.vret hx hb hr (fun t ht hW => ⟨⟨(r4, r6, i12, i13, i14, i15), rfl, trivial, ⟨by rw [ht]; exact hP, hD⟩⟩, hS.F ht⟩) hS.2.2 dX7_reads_9
set_option maxHeartbeats 4000000 in
set_option maxRecDepth 100000 in
theorem c_X7_faultOf (l : Launch) (dC : Nat → ClassId) (dI : Nat → Nat → Nat) (k : Nat → ClassId) (T : List (ClassId × FieldType)) (q : Nat → Nat) (j0 : Int64) (j1 : Int64) (r4 : Nat → Int32) (r6 : Nat → Int32) (i12 : Int32) (i13 : Int32) (i14 : Int32) (i15 : Int32) (i28 : Int32) (i29 : Int32) (j30 : Int64) (j31 : Int64) (j32 : Int64) (i33 : Int32) (r34 : Nat → Int32) (r40 : Nat → Int32) (i41 : Int32) (d : Int32) (sz : Nat) (hd : 0 ≤ d ∧ d ≤ 3) : Met l yX7_faultOf (wz yX7_faultOf cX7_faultOf 2 (some .int)) ({ frames := 3, cells := 0, slots := 0, locals := 67 }) (va_Pc [.ref (q 0), .int d] (zPre dC dI k T (zM k q j0 j1 (fun _ => 0) (fun _ => 0) r4 (fun _ => 0) r6 (fun _ => 0) (fun _ => 0) (fun _ => 0) (fun _ => 0) 12 i12 i13 i14 i15 (fun _ => 0) (fun _ => 0) (fun _ => 0) 0 (-1) (fun _ => 0) 0 (fun _ => 0) (fun _ => 0) (fun _ => 0) (fun _ => 0) (fun _ => 0) i28 i29 j30 j31 j32 i33 r34 100 (fun _ => 0) (fun _ => 0) (fun _ => 0) (fun _ => 0) r40 i41) sz)) (va_Qi (fun (r : Int32) (u : (Nat → Int32) × (Nat → Int32) × Int32 × Int32 × Int32 × Int32) => r = 0) (fun u t => zPost dC dI (va_A (zM k q j0 j1 (fun _ => 0) (fun _ => 0) r4 (fun _ => 0) r6 (fun _ => 0) (fun _ => 0) (fun _ => 0) (fun _ => 0) 12 i12 i13 i14 i15 (fun _ => 0) (fun _ => 0) (fun _ => 0) 0 (-1) (fun _ => 0) 0 (fun _ => 0) (fun _ => 0) (fun _ => 0) (fun _ => 0) (fun _ => 0) i28 i29 j30 j31 j32 i33 r34 100 (fun _ => 0) (fun _ => 0) (fun _ => 0) (fun _ => 0) r40 i41) sz) (zM k q j0 j1 (fun _ => 0) (fun _ => 0) u.1 (fun _ => 0) u.2.1 (fun _ => 0) (fun _ => 0) (fun _ => 0) (fun _ => 0) 12 u.2.2.1 u.2.2.2.1 u.2.2.2.2.1 u.2.2.2.2.2 (fun _ => 0) (fun _ => 0) (fun _ => 0) 0 (-1) (fun _ => 0) 0 (fun _ => 0) (fun _ => 0) (fun _ => 0) (fun _ => 0) (fun _ => 0) i28 i29 j30 j31 j32 i33 r34 100 (fun _ => 0) (fun _ => 0) (fun _ => 0) (fun _ => 0) r40 i41) t) (va_A (zM k q j0 j1 (fun _ => 0) (fun _ => 0) r4 (fun _ => 0) r6 (fun _ => 0) (fun _ => 0) (fun _ => 0) (fun _ => 0) 12 i12 i13 i14 i15 (fun _ => 0) (fun _ => 0) (fun _ => 0) 0 (-1) (fun _ => 0) 0 (fun _ => 0) (fun _ => 0) (fun _ => 0) (fun _ => 0) (fun _ => 0) i28 i29 j30 j31 j32 i33 r34 100 (fun _ => 0) (fun _ => 0) (fun _ => 0) (fun _ => 0) r40 i41) sz)) 0 0 (va_A (zM k q j0 j1 (fun _ => 0) (fun _ => 0) r4 (fun _ => 0) r6 (fun _ => 0) (fun _ => 0) (fun _ => 0) (fun _ => 0) 12 i12 i13 i14 i15 (fun _ => 0) (fun _ => 0) (fun _ => 0) 0 (-1) (fun _ => 0) 0 (fun _ => 0) (fun _ => 0) (fun _ => 0) (fun _ => 0) (fun _ => 0) i28 i29 j30 j31 j32 i33 r34 100 (fun _ => 0) (fun _ => 0) (fun _ => 0) (fun _ => 0) r40 i41) sz) := by
  refine Met.ofW (cc := cX7_faultOf) (maxL := 2) (ret := (some .int)) (by decide) rfl ?_
  intro p e s m args below meth c s₁ B hml hv
  obtain ⟨rfl, hsz, hP, hK, hD0⟩ := hv
  have hx := B.exec
  have hb := B.bytes
  have hr := B.returns
  have hts : ∀ w ∈ zw, w.before _ s = true := fun w h => atoms_spec (ws := (wz yX7_faultOf cX7_faultOf 2 (some .int))) B.pre w (List.mem_cons_of_mem _ h)
  have hown : s.vm.findClass RX7 = some m.cls := findClass_of_methodNamed B.named
  have hlocks := B.notSynchronized
  subst hsz
  have hi7 := inw7
  have hD := hD0.self (sz := s.heap.size)
  generalize hAe : va_A (zM k q j0 j1 (fun _ => 0) (fun _ => 0) r4 (fun _ => 0) r6 (fun _ => 0) (fun _ => 0) (fun _ => 0) (fun _ => 0) 12 i12 i13 i14 i15 (fun _ => 0) (fun _ => 0) (fun _ => 0) 0 (-1) (fun _ => 0) 0 (fun _ => 0) (fun _ => 0) (fun _ => 0) (fun _ => 0) (fun _ => 0) i28 i29 j30 j31 j32 i33 r34 100 (fun _ => 0) (fun _ => 0) (fun _ => 0) (fun _ => 0) r40 i41) s.heap.size = A at hD ⊢
  have hA : ∀ q : Nat, s.heap.size ≤ q → A q := fun q h => by rw [← hAe]; exact Or.inr h
  have hl := lv_entry ([.ref (q 0), .int d]) (n := 2) (Nat.le_of_ble_eq_true rfl)
  rw [lg_entry_eq]
  generalize (lg_sl ([.ref (q 0), .int d]) ++ List.replicate (2 - (lg_sl ([.ref (q 0), .int d])).length) Slot.unset).toArray = ls at hl ⊢
  have hl : lv_has ls 2 [(0, .ref (q 0)), (1, .int d)] := hl
  refine z_start (w := (zM k q j0 j1 (fun _ => 0) (fun _ => 0) r4 (fun _ => 0) r6 (fun _ => 0) (fun _ => 0) (fun _ => 0) (fun _ => 0) 12 i12 i13 i14 i15 (fun _ => 0) (fun _ => 0) (fun _ => 0) 0 (-1) (fun _ => 0) 0 (fun _ => 0) (fun _ => 0) (fun _ => 0) (fun _ => 0) (fun _ => 0) i28 i29 j30 j31 j32 i33 r34 100 (fun _ => 0) (fun _ => 0) (fun _ => 0) (fun _ => 0) r40 i41)) hP hD (fun H locs hP hD hS => ?_)
  refine lv_aload_n hx hb dX7_faultOf_0 rfl (lv_at hl 0 rfl) ?_
  refine lv_iload_n hx hb dX7_faultOf_1 rfl (lv_at hl 1 rfl) ?_
  refine zc_v (w := (zM k q j0 j1 (fun _ => 0) (fun _ => 0) r4 (fun _ => 0) r6 (fun _ => 0) (fun _ => 0) (fun _ => 0) (fun _ => 0) 12 i12 i13 i14 i15 (fun _ => 0) (fun _ => 0) (fun _ => 0) 0 (-1) (fun _ => 0) 0 (fun _ => 0) (fun _ => 0) (fun _ => 0) (fun _ => 0) (fun _ => 0) i28 i29 j30 j31 j32 i33 r34 100 (fun _ => 0) (fun _ => 0) (fun _ => 0) (fun _ => 0) r40 i41)) (wc := (zM k q j0 j1 (fun _ => 0) (fun _ => 0) r4 (fun _ => 0) r6 (fun _ => 0) (fun _ => 0) (fun _ => 0) (fun _ => 0) 12 i12 i13 i14 i15 (fun _ => 0) (fun _ => 0) (fun _ => 0) 0 (-1) (fun _ => 0) 0 (fun _ => 0) (fun _ => 0) (fun _ => 0) (fun _ => 0) (fun _ => 0) i28 i29 j30 j31 j32 i33 r34 100 (fun _ => 0) (fun _ => 0) (fun _ => 0) (fun _ => 0) r40 i41)) (wr := []) (va_runV (As := [.int d]) (rest := []) ⟨hx, hb, hml, hown, hts⟩ (c_X7_reads l dC dI k T q j0 j1 r4 r6 i12 i13 i14 i15 i28 i29 j30 j31 j32 i33 r34 r40 i41 d _ (by assumption)) (cwV 1 hts (gzV wmt4_77 wmt4_79 wmp2_7 wmt1_8 wmt4_80) rfl rfl rfl (by decide +kernel) ⟨Nat.le_of_ble_eq_true rfl, Nat.le_of_ble_eq_true rfl⟩) (zp_V (ci := 7) (q0 := 0) hK hP hD [0, 1, 2, 3, 4, 5, 6, 7, 8, 9, 10, 11, 12, 13, 14, 15, 16, 17, 18, 19, 20, 21, 22, 23, 24] rfl rfl rfl rfl) rfl rfl hl.1 rfl (lv_room (Nat.le_of_ble_eq_true rfl)) dX7_faultOf_2 ⟨Nat.le_of_ble_eq_true rfl, Nat.le_of_ble_eq_true rfl⟩) hP hD hS hA [0, 1, 2, 3, 4, 5, 6, 7, 8, 9, 10, 11, 12, 13, 14, 15, 16, 17, 18, 19, 20, 21, 22, 23, 24] [] rfl rfl (by decide) (by decide) (fun u_2 H locs w_3 hP hD hS => ?_)
  obtain ⟨o4_4, o6_5, o12_6, o13_7, o14_8, o15_9⟩ := u_2
  have hP : va_P (dC, dI) vwCl (zM k q j0 j1 (fun _ => 0) (fun _ => 0) o4_4 (fun _ => 0) o6_5 (fun _ => 0) (fun _ => 0) (fun _ => 0) (fun _ => 0) 12 o12_6 o13_7 o14_8 o15_9 (fun _ => 0) (fun _ => 0) (fun _ => 0) 0 (-1) (fun _ => 0) 0 (fun _ => 0) (fun _ => 0) (fun _ => 0) (fun _ => 0) (fun _ => 0) i28 i29 j30 j31 j32 i33 r34 100 (fun _ => 0) (fun _ => 0) (fun _ => 0) (fun _ => 0) r40 i41) H := hP.sub [0, 1, 2, 3, 4, 5, 6, 7, 8, 9, 10, 11, 12, 13, 14, 15, 16, 17, 18, 19, 20, 21, 22, 23, 24] rfl
  have hD : va_D A (zM k q j0 j1 (fun _ => 0) (fun _ => 0) o4_4 (fun _ => 0) o6_5 (fun _ => 0) (fun _ => 0) (fun _ => 0) (fun _ => 0) 12 o12_6 o13_7 o14_8 o15_9 (fun _ => 0) (fun _ => 0) (fun _ => 0) 0 (-1) (fun _ => 0) 0 (fun _ => 0) (fun _ => 0) (fun _ => 0) (fun _ => 0) (fun _ => 0) i28 i29 j30 j31 j32 i33 r34 100 (fun _ => 0) (fun _ => 0) (fun _ => 0) (fun _ => 0) r40 i41) := hD.sub [0, 1, 2, 3, 4, 5, 6, 7, 8, 9, 10, 11, 12, 13, 14, 15, 16, 17, 18, 19, 20, 21, 22, 23, 24] (by decide) rfl
  refine lv_aload_n hx hb dX7_faultOf_5 rfl (lv_at hl 0 rfl) ?_
  refine va_get (D := (dC, dI)) (ci := 7) (v := .ref (q 5)) (C := RX7) (T := TX7) (N := 42) hx hb hts hi7 hown hK.1 hP 0 rfl rfl 5 (by decide) (hts _ wmt3_172) (fun _ h9 => h9) rfl dX7_faultOf_6 ?_
  refine lv_iload_n hx hb dX7_faultOf_9 rfl (lv_at hl 1 rfl) ?_
  refine va_iald (D := (dC, dI)) hx hb hK.1 hP 4 0 rfl rfl (by first | exact zin4 (by assumption) | exact zin24 (by assumption)) dX7_faultOf_10 ?_
  refine z_top (v2 := .int 0) (rfl) ?_
  exact W.iret (v := 0) hx hb hr (fun t ht hW => ⟨⟨0, (o4_4, o6_5, o12_6, o13_7, o14_8, o15_9), rfl, (by first | assumption | with_reducible rfl | exact (if_pos (by repeat' (first | assumption | decide | constructor))).symm | exact (if_neg (fun hh => absurd hh (by assumption))).symm | exact (if_neg (fun hh => absurd hh.1 (by assumption))).symm | exact (if_neg (fun hh => absurd hh.2 (by assumption))).symm | exact (if_neg (fun hh => absurd hh.1.1 (by assumption))).symm | exact (if_neg (fun hh => absurd hh.1.2 (by assumption))).symm | exact (if_neg (fun hh => absurd hh.2.1 (by assumption))).symm | exact (if_neg (fun hh => absurd hh.2.2 (by assumption))).symm | exact (if_neg (fun hh => absurd hh.2.2.1 (by assumption))).symm | exact (if_neg (fun hh => absurd hh.2.2.2 (by assumption))).symm | decide | (exfalso; simp only [zi_le, zi_lt, zi_eq, zi_n0, zi_n1, zi_n2, zi_n3, zi_n4, zi_n23, zi_n24, zi_n100, zi_n399, zi_n60, zi_n255, zi_n99, zi_nm1, zi_n30] at *; omega) | (simp_all; done)), ⟨by rw [ht]; exact hP, hD⟩⟩, hS.F ht⟩) hS.2.2 dX7_faultOf_11
