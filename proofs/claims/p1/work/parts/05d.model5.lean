set_option maxHeartbeats 4000000 in
set_option maxRecDepth 100000 in
theorem c_X7_lose (l : Launch) (dC : Nat → ClassId) (dI : Nat → Nat → Nat) (k : Nat → ClassId) (T : List (ClassId × FieldType)) (q : Nat → Nat) (j0 : Int64) (j1 : Int64) (r4 : Nat → Int32) (r6 : Nat → Int32) (i12 : Int32) (i13 : Int32) (i14 : Int32) (i15 : Int32) (i28 : Int32) (i29 : Int32) (j30 : Int64) (j31 : Int64) (j32 : Int64) (i33 : Int32) (r34 : Nat → Int32) (r40 : Nat → Int32) (i41 : Int32) (z : Int32) (sz : Nat)  : Met l yX7_lose wsX7_lose ({ frames := 2, cells := 0, slots := 0, locals := 42 }) (va_Pc [.ref (q 0), .int z] (zPre dC dI k T (zM k q j0 j1 (fun _ => 0) (fun _ => 0) r4 (fun _ => 0) r6 (fun _ => 0) (fun _ => 0) (fun _ => 0) (fun _ => 0) 12 i12 i13 i14 i15 (fun _ => 0) (fun _ => 0) (fun _ => 0) 0 (-1) (fun _ => 0) 0 (fun _ => 0) (fun _ => 0) (fun _ => 0) (fun _ => 0) (fun _ => 0) i28 i29 j30 j31 j32 i33 r34 100 (fun _ => 0) (fun _ => 0) (fun _ => 0) (fun _ => 0) r40 i41) sz)) (va_Qi (fun (r : Int32) (u : Int32) => (r = if (0 ≤ z ∧ z ≤ 3) then (-11) else (-2))) (fun u t => zPost dC dI (va_A (zM k q j0 j1 (fun _ => 0) (fun _ => 0) r4 (fun _ => 0) r6 (fun _ => 0) (fun _ => 0) (fun _ => 0) (fun _ => 0) 12 i12 i13 i14 i15 (fun _ => 0) (fun _ => 0) (fun _ => 0) 0 (-1) (fun _ => 0) 0 (fun _ => 0) (fun _ => 0) (fun _ => 0) (fun _ => 0) (fun _ => 0) i28 i29 j30 j31 j32 i33 r34 100 (fun _ => 0) (fun _ => 0) (fun _ => 0) (fun _ => 0) r40 i41) sz) (zM k q j0 j1 (fun _ => 0) (fun _ => 0) r4 (fun _ => 0) r6 (fun _ => 0) (fun _ => 0) (fun _ => 0) (fun _ => 0) 12 i12 i13 i14 i15 (fun _ => 0) (fun _ => 0) (fun _ => 0) 0 (-1) (fun _ => 0) 0 (fun _ => 0) (fun _ => 0) (fun _ => 0) (fun _ => 0) (fun _ => 0) i28 i29 j30 j31 j32 i33 r34 100 (fun _ => 0) (fun _ => 0) (fun _ => 0) (fun _ => 0) r40 u) t) (va_A (zM k q j0 j1 (fun _ => 0) (fun _ => 0) r4 (fun _ => 0) r6 (fun _ => 0) (fun _ => 0) (fun _ => 0) (fun _ => 0) 12 i12 i13 i14 i15 (fun _ => 0) (fun _ => 0) (fun _ => 0) 0 (-1) (fun _ => 0) 0 (fun _ => 0) (fun _ => 0) (fun _ => 0) (fun _ => 0) (fun _ => 0) i28 i29 j30 j31 j32 i33 r34 100 (fun _ => 0) (fun _ => 0) (fun _ => 0) (fun _ => 0) r40 i41) sz)) 0 0 (va_A (zM k q j0 j1 (fun _ => 0) (fun _ => 0) r4 (fun _ => 0) r6 (fun _ => 0) (fun _ => 0) (fun _ => 0) (fun _ => 0) 12 i12 i13 i14 i15 (fun _ => 0) (fun _ => 0) (fun _ => 0) 0 (-1) (fun _ => 0) 0 (fun _ => 0) (fun _ => 0) (fun _ => 0) (fun _ => 0) (fun _ => 0) i28 i29 j30 j31 j32 i33 r34 100 (fun _ => 0) (fun _ => 0) (fun _ => 0) (fun _ => 0) r40 i41) sz) := by
  refine Met.ofW (cc := cX7_lose) (maxL := 2) (ret := (some .int)) (by decide) rfl ?_
  intro p e s m args below meth c s₁ B hml hv
  obtain ⟨rfl, hsz, hP, hK, hD0⟩ := hv
  have hx := B.exec
  have hb := B.bytes
  have hr := B.returns
  have hts := atoms_spec (ws := wsX7_lose) B.pre
  have hown : s.vm.findClass RX7 = some m.cls := findClass_of_methodNamed B.named
  have hlocks := B.notSynchronized
  subst hsz
  have hi7 : ∀ w ∈ u_ws RX7 TX7 42, w ∈ wsX7_lose := by decide +kernel
  have hD := hD0.self (sz := s.heap.size)
  generalize hAe : va_A (zM k q j0 j1 (fun _ => 0) (fun _ => 0) r4 (fun _ => 0) r6 (fun _ => 0) (fun _ => 0) (fun _ => 0) (fun _ => 0) 12 i12 i13 i14 i15 (fun _ => 0) (fun _ => 0) (fun _ => 0) 0 (-1) (fun _ => 0) 0 (fun _ => 0) (fun _ => 0) (fun _ => 0) (fun _ => 0) (fun _ => 0) i28 i29 j30 j31 j32 i33 r34 100 (fun _ => 0) (fun _ => 0) (fun _ => 0) (fun _ => 0) r40 i41) s.heap.size = A at hD ⊢
  have hA : ∀ q : Nat, s.heap.size ≤ q → A q := fun q h => by rw [← hAe]; exact Or.inr h
  have hl := lv_entry ([.ref (q 0), .int z]) (n := 2) (Nat.le_of_ble_eq_true rfl)
  rw [lg_entry_eq]
  generalize (lg_sl ([.ref (q 0), .int z]) ++ List.replicate (2 - (lg_sl ([.ref (q 0), .int z])).length) Slot.unset).toArray = ls at hl ⊢
  have hl : lv_has ls 2 [(0, .ref (q 0)), (1, .int z)] := hl
  refine z_start (w := (zM k q j0 j1 (fun _ => 0) (fun _ => 0) r4 (fun _ => 0) r6 (fun _ => 0) (fun _ => 0) (fun _ => 0) (fun _ => 0) 12 i12 i13 i14 i15 (fun _ => 0) (fun _ => 0) (fun _ => 0) 0 (-1) (fun _ => 0) 0 (fun _ => 0) (fun _ => 0) (fun _ => 0) (fun _ => 0) (fun _ => 0) i28 i29 j30 j31 j32 i33 r34 100 (fun _ => 0) (fun _ => 0) (fun _ => 0) (fun _ => 0) r40 i41)) hP hD (fun H locs hP hD hS => ?_)
  refine lv_iload_n hx hb dX7_lose_0 rfl (lv_at hl 1 rfl) ?_
  refine zc_i (w := (zM k q j0 j1 (fun _ => 0) (fun _ => 0) r4 (fun _ => 0) r6 (fun _ => 0) (fun _ => 0) (fun _ => 0) (fun _ => 0) 12 i12 i13 i14 i15 (fun _ => 0) (fun _ => 0) (fun _ => 0) 0 (-1) (fun _ => 0) 0 (fun _ => 0) (fun _ => 0) (fun _ => 0) (fun _ => 0) (fun _ => 0) i28 i29 j30 j31 j32 i33 r34 100 (fun _ => 0) (fun _ => 0) (fun _ => 0) (fun _ => 0) r40 i41)) (wc := []) (wr := ([0, 1, 2, 3, 4, 5, 6, 7, 8, 9, 10, 11, 12, 13, 14, 15, 16, 17, 18, 19, 20, 21, 22, 23, 24].filterMap (fun i => (zM k q j0 j1 (fun _ => 0) (fun _ => 0) r4 (fun _ => 0) r6 (fun _ => 0) (fun _ => 0) (fun _ => 0) (fun _ => 0) 12 i12 i13 i14 i15 (fun _ => 0) (fun _ => 0) (fun _ => 0) 0 (-1) (fun _ => 0) 0 (fun _ => 0) (fun _ => 0) (fun _ => 0) (fun _ => 0) (fun _ => 0) i28 i29 j30 j31 j32 i33 r34 100 (fun _ => 0) (fun _ => 0) (fun _ => 0) (fun _ => 0) r40 i41)[i]?))) (va_runS (As := [.int z]) (rest := []) ⟨hx, hb, hml, hown, hts⟩ (c_X7_isSheet l dC dI k T z _ ) (va_cwS 1 hts gX7_lose_X7_isSheet rfl rfl rfl (by decide +kernel) ⟨Nat.le_of_ble_eq_true rfl, Nat.le_of_ble_eq_true rfl⟩) (zp_S hK hP hD [] rfl rfl) rfl rfl hl.1 rfl (lv_room (Nat.le_of_ble_eq_true rfl)) dX7_lose_1 ⟨Nat.le_of_ble_eq_true rfl, Nat.le_of_ble_eq_true rfl⟩) hP hD hS hA [] [0, 1, 2, 3, 4, 5, 6, 7, 8, 9, 10, 11, 12, 13, 14, 15, 16, 17, 18, 19, 20, 21, 22, 23, 24] rfl rfl (by decide) (by decide) (fun r_1 u_2 H locs w_3 hP hD hS => ?_)
  have hP : va_P (dC, dI) vwCl (zM k q j0 j1 (fun _ => 0) (fun _ => 0) r4 (fun _ => 0) r6 (fun _ => 0) (fun _ => 0) (fun _ => 0) (fun _ => 0) 12 i12 i13 i14 i15 (fun _ => 0) (fun _ => 0) (fun _ => 0) 0 (-1) (fun _ => 0) 0 (fun _ => 0) (fun _ => 0) (fun _ => 0) (fun _ => 0) (fun _ => 0) i28 i29 j30 j31 j32 i33 r34 100 (fun _ => 0) (fun _ => 0) (fun _ => 0) (fun _ => 0) r40 i41) H := hP.sub [0, 1, 2, 3, 4, 5, 6, 7, 8, 9, 10, 11, 12, 13, 14, 15, 16, 17, 18, 19, 20, 21, 22, 23, 24] rfl
  have hD : va_D A (zM k q j0 j1 (fun _ => 0) (fun _ => 0) r4 (fun _ => 0) r6 (fun _ => 0) (fun _ => 0) (fun _ => 0) (fun _ => 0) 12 i12 i13 i14 i15 (fun _ => 0) (fun _ => 0) (fun _ => 0) 0 (-1) (fun _ => 0) 0 (fun _ => 0) (fun _ => 0) (fun _ => 0) (fun _ => 0) (fun _ => 0) i28 i29 j30 j31 j32 i33 r34 100 (fun _ => 0) (fun _ => 0) (fun _ => 0) (fun _ => 0) r40 i41) := hD.sub [0, 1, 2, 3, 4, 5, 6, 7, 8, 9, 10, 11, 12, 13, 14, 15, 16, 17, 18, 19, 20, 21, 22, 23, 24] (by decide) rfl
  rcases w_3 with ⟨e_5, h_4⟩ | ⟨e_7, h_6⟩
  · skip
    replace e_5 : r_1 = 1 := e_5
    subst e_5
    replace h_4 : 0 ≤ z ∧ z ≤ 3 := h_4
    refine lv_if_ne (tgt := 10) hx hb dX7_lose_4 (by decide) (fun c_8 => ?_) (fun c_8 => ?_)
    · skip
      refine lv_aload_n hx hb dX7_lose_10 rfl (lv_at hl 0 rfl) ?_
      refine va_get (D := (dC, dI)) (ci := 7) (v := .ref (q 36)) (C := RX7) (T := TX7) (N := 42) hx hb hts hi7 hown hK.1 hP 0 rfl rfl 36 (by decide) (hts (.fieldLink RX7 82 "SecretLotsModel" "isThere" "[Z") (by decide +kernel)) (fun _ h9 => h9) rfl dX7_lose_11 ?_
      refine lv_iload_n hx hb dX7_lose_14 rfl (lv_at hl 1 rfl) ?_
      refine va_zald (D := (dC, dI)) hx hb hK.1 hP 20 2 rfl rfl (by first | exact zin4 (by assumption) | exact zin24 (by assumption)) dX7_lose_15 ?_
      refine z_top (v2 := .int 0) (rfl) ?_
      refine lv_if_ne (tgt := 25) hx hb dX7_lose_16 (by decide) (fun c_9 => ?_) (fun c_9 => ?_)
      · skip
        exact absurd c_9 (by decide)
      · skip
        refine lv_aload_n hx hb dX7_lose_19 rfl (lv_at hl 0 rfl) ?_
        refine lv_iconst (v := 1) hx hb dX7_lose_20 (by decide) ?_
        refine zc_i (w := (zM k q j0 j1 (fun _ => 0) (fun _ => 0) r4 (fun _ => 0) r6 (fun _ => 0) (fun _ => 0) (fun _ => 0) (fun _ => 0) 12 i12 i13 i14 i15 (fun _ => 0) (fun _ => 0) (fun _ => 0) 0 (-1) (fun _ => 0) 0 (fun _ => 0) (fun _ => 0) (fun _ => 0) (fun _ => 0) (fun _ => 0) i28 i29 j30 j31 j32 i33 r34 100 (fun _ => 0) (fun _ => 0) (fun _ => 0) (fun _ => 0) r40 i41)) (wc := (zM k q j0 j1 (fun _ => 0) (fun _ => 0) r4 (fun _ => 0) r6 (fun _ => 0) (fun _ => 0) (fun _ => 0) (fun _ => 0) 12 i12 i13 i14 i15 (fun _ => 0) (fun _ => 0) (fun _ => 0) 0 (-1) (fun _ => 0) 0 (fun _ => 0) (fun _ => 0) (fun _ => 0) (fun _ => 0) (fun _ => 0) i28 i29 j30 j31 j32 i33 r34 100 (fun _ => 0) (fun _ => 0) (fun _ => 0) (fun _ => 0) r40 i41)) (wr := []) (va_runV (As := [.int 1]) (rest := []) ⟨hx, hb, hml, hown, hts⟩ (c_X7_meets_1 l dC dI k T q j0 j1 r4 r6 i12 i13 i14 i15 i28 i29 j30 j31 j32 i33 r34 r40 i41 _ ) (cwV 1 hts gX7_lose_X7_meets rfl rfl rfl (by decide +kernel) ⟨Nat.le_of_ble_eq_true rfl, Nat.le_of_ble_eq_true rfl⟩) (zp_V (ci := 7) (q0 := 0) hK hP hD [0, 1, 2, 3, 4, 5, 6, 7, 8, 9, 10, 11, 12, 13, 14, 15, 16, 17, 18, 19, 20, 21, 22, 23, 24] rfl rfl rfl rfl) rfl rfl hl.1 rfl (lv_room (Nat.le_of_ble_eq_true rfl)) dX7_lose_21 ⟨Nat.le_of_ble_eq_true rfl, Nat.le_of_ble_eq_true rfl⟩) hP hD hS hA [0, 1, 2, 3, 4, 5, 6, 7, 8, 9, 10, 11, 12, 13, 14, 15, 16, 17, 18, 19, 20, 21, 22, 23, 24] [] rfl rfl (by decide) (by decide) (fun r_10 u_11 H locs w_12 hP hD hS => ?_)
        obtain ⟨oi41_13, rfl⟩ : ∃ z, z = u_11 := ⟨_, rfl⟩
        have hP : va_P (dC, dI) vwCl (zM k q j0 j1 (fun _ => 0) (fun _ => 0) r4 (fun _ => 0) r6 (fun _ => 0) (fun _ => 0) (fun _ => 0) (fun _ => 0) 12 i12 i13 i14 i15 (fun _ => 0) (fun _ => 0) (fun _ => 0) 0 (-1) (fun _ => 0) 0 (fun _ => 0) (fun _ => 0) (fun _ => 0) (fun _ => 0) (fun _ => 0) i28 i29 j30 j31 j32 i33 r34 100 (fun _ => 0) (fun _ => 0) (fun _ => 0) (fun _ => 0) r40 oi41_13) H := hP.sub [0, 1, 2, 3, 4, 5, 6, 7, 8, 9, 10, 11, 12, 13, 14, 15, 16, 17, 18, 19, 20, 21, 22, 23, 24] rfl
        have hD : va_D A (zM k q j0 j1 (fun _ => 0) (fun _ => 0) r4 (fun _ => 0) r6 (fun _ => 0) (fun _ => 0) (fun _ => 0) (fun _ => 0) 12 i12 i13 i14 i15 (fun _ => 0) (fun _ => 0) (fun _ => 0) 0 (-1) (fun _ => 0) 0 (fun _ => 0) (fun _ => 0) (fun _ => 0) (fun _ => 0) (fun _ => 0) i28 i29 j30 j31 j32 i33 r34 100 (fun _ => 0) (fun _ => 0) (fun _ => 0) (fun _ => 0) r40 oi41_13) := hD.sub [0, 1, 2, 3, 4, 5, 6, 7, 8, 9, 10, 11, 12, 13, 14, 15, 16, 17, 18, 19, 20, 21, 22, 23, 24] (by decide) rfl
        have e_14 := w_12
        replace e_14 : r_10 = (-11) := e_14
        subst e_14
        exact W.iret (v := (-11)) hx hb hr (fun t ht hW => ⟨⟨(-11), (oi41_13), rfl, (by first | assumption | with_reducible rfl | exact (if_pos (by repeat' (first | assumption | decide | constructor))).symm | exact (if_neg (fun hh => absurd hh (by assumption))).symm | exact (if_neg (fun hh => absurd hh.1 (by assumption))).symm | exact (if_neg (fun hh => absurd hh.2 (by assumption))).symm | exact (if_neg (fun hh => absurd hh.1.1 (by assumption))).symm | exact (if_neg (fun hh => absurd hh.1.2 (by assumption))).symm | exact (if_neg (fun hh => absurd hh.2.1 (by assumption))).symm | exact (if_neg (fun hh => absurd hh.2.2 (by assumption))).symm | exact (if_neg (fun hh => absurd hh.2.2.1 (by assumption))).symm | exact (if_neg (fun hh => absurd hh.2.2.2 (by assumption))).symm | decide | (exfalso; simp only [zi_le, zi_lt, zi_eq, zi_n0, zi_n1, zi_n2, zi_n3, zi_n4, zi_n23, zi_n24, zi_n100, zi_n399, zi_n60, zi_n255, zi_n99, zi_nm1, zi_n30] at *; omega) | (simp_all; done)), ⟨by rw [ht]; exact hP, hD⟩⟩, hS.F ht⟩) hS.2.2 dX7_lose_24
    · skip
      exact absurd c_8 (by decide)
  · skip
    replace e_7 : r_1 = 0 := e_7
    subst e_7
    replace h_6 : ¬ (0 ≤ z ∧ z ≤ 3) := h_6
    refine lv_if_ne (tgt := 10) hx hb dX7_lose_4 (by decide) (fun c_15 => ?_) (fun c_15 => ?_)
    · skip
      exact absurd c_15 (by decide)
    · skip
      refine lv_bipush (v := (-2)) hx hb dX7_lose_7 (by decide) ?_
      exact W.iret (v := (-2)) hx hb hr (fun t ht hW => ⟨⟨(-2), (i41), rfl, (by first | assumption | with_reducible rfl | exact (if_pos (by repeat' (first | assumption | decide | constructor))).symm | exact (if_neg (fun hh => absurd hh (by assumption))).symm | exact (if_neg (fun hh => absurd hh.1 (by assumption))).symm | exact (if_neg (fun hh => absurd hh.2 (by assumption))).symm | exact (if_neg (fun hh => absurd hh.1.1 (by assumption))).symm | exact (if_neg (fun hh => absurd hh.1.2 (by assumption))).symm | exact (if_neg (fun hh => absurd hh.2.1 (by assumption))).symm | exact (if_neg (fun hh => absurd hh.2.2 (by assumption))).symm | exact (if_neg (fun hh => absurd hh.2.2.1 (by assumption))).symm | exact (if_neg (fun hh => absurd hh.2.2.2 (by assumption))).symm | decide | (exfalso; simp only [zi_le, zi_lt, zi_eq, zi_n0, zi_n1, zi_n2, zi_n3, zi_n4, zi_n23, zi_n24, zi_n100, zi_n399, zi_n60, zi_n255, zi_n99, zi_nm1, zi_n30] at *; omega) | (simp_all; done)), ⟨by rw [ht]; exact hP, hD⟩⟩, hS.F ht⟩) hS.2.2 dX7_lose_9
set_option maxHeartbeats 4000000 in
set_option maxRecDepth 100000 in
theorem c_X7_lacks (l : Launch) (dC : Nat → ClassId) (dI : Nat → Nat → Nat) (k : Nat → ClassId) (T : List (ClassId × FieldType)) (q : Nat → Nat) (j0 : Int64) (j1 : Int64) (r4 : Nat → Int32) (r6 : Nat → Int32) (i12 : Int32) (i13 : Int32) (i14 : Int32) (i15 : Int32) (i28 : Int32) (i29 : Int32) (j30 : Int64) (j31 : Int64) (j32 : Int64) (i33 : Int32) (r34 : Nat → Int32) (r40 : Nat → Int32) (i41 : Int32) (z : Int32) (t : Int32) (i : Int32) (sz : Nat) (hz : 0 ≤ z ∧ z ≤ 3) : Met l yX7_lacks wsX7_lacks ({ frames := 0, cells := 0, slots := 0, locals := 0 }) (va_Pc [.ref (q 0), .int z, .int t, .int i] (zPre dC dI k T (zM k q j0 j1 (fun _ => 0) (fun _ => 0) r4 (fun _ => 0) r6 (fun _ => 0) (fun _ => 0) (fun _ => 0) (fun _ => 0) 12 i12 i13 i14 i15 (fun _ => 0) (fun _ => 0) (fun _ => 0) 0 (-1) (fun _ => 0) 0 (fun _ => 0) (fun _ => 0) (fun _ => 0) (fun _ => 0) (fun _ => 0) i28 i29 j30 j31 j32 i33 r34 100 (fun _ => 0) (fun _ => 0) (fun _ => 0) (fun _ => 0) r40 i41) sz)) (va_Qi (fun (r : Int32) (u : Unit) => r = 1) (fun u t => zPost dC dI (va_A (zM k q j0 j1 (fun _ => 0) (fun _ => 0) r4 (fun _ => 0) r6 (fun _ => 0) (fun _ => 0) (fun _ => 0) (fun _ => 0) 12 i12 i13 i14 i15 (fun _ => 0) (fun _ => 0) (fun _ => 0) 0 (-1) (fun _ => 0) 0 (fun _ => 0) (fun _ => 0) (fun _ => 0) (fun _ => 0) (fun _ => 0) i28 i29 j30 j31 j32 i33 r34 100 (fun _ => 0) (fun _ => 0) (fun _ => 0) (fun _ => 0) r40 i41) sz) (zM k q j0 j1 (fun _ => 0) (fun _ => 0) r4 (fun _ => 0) r6 (fun _ => 0) (fun _ => 0) (fun _ => 0) (fun _ => 0) 12 i12 i13 i14 i15 (fun _ => 0) (fun _ => 0) (fun _ => 0) 0 (-1) (fun _ => 0) 0 (fun _ => 0) (fun _ => 0) (fun _ => 0) (fun _ => 0) (fun _ => 0) i28 i29 j30 j31 j32 i33 r34 100 (fun _ => 0) (fun _ => 0) (fun _ => 0) (fun _ => 0) r40 i41) t) (va_A (zM k q j0 j1 (fun _ => 0) (fun _ => 0) r4 (fun _ => 0) r6 (fun _ => 0) (fun _ => 0) (fun _ => 0) (fun _ => 0) 12 i12 i13 i14 i15 (fun _ => 0) (fun _ => 0) (fun _ => 0) 0 (-1) (fun _ => 0) 0 (fun _ => 0) (fun _ => 0) (fun _ => 0) (fun _ => 0) (fun _ => 0) i28 i29 j30 j31 j32 i33 r34 100 (fun _ => 0) (fun _ => 0) (fun _ => 0) (fun _ => 0) r40 i41) sz)) 0 0 (va_A (zM k q j0 j1 (fun _ => 0) (fun _ => 0) r4 (fun _ => 0) r6 (fun _ => 0) (fun _ => 0) (fun _ => 0) (fun _ => 0) 12 i12 i13 i14 i15 (fun _ => 0) (fun _ => 0) (fun _ => 0) 0 (-1) (fun _ => 0) 0 (fun _ => 0) (fun _ => 0) (fun _ => 0) (fun _ => 0) (fun _ => 0) i28 i29 j30 j31 j32 i33 r34 100 (fun _ => 0) (fun _ => 0) (fun _ => 0) (fun _ => 0) r40 i41) sz) := by
  refine Met.ofW (cc := cX7_lacks) (maxL := 4) (ret := (some .int)) (by decide) rfl ?_
  intro p e s m args below meth c s₁ B hml hv
  obtain ⟨rfl, hsz, hP, hK, hD0⟩ := hv
  have hx := B.exec
  have hb := B.bytes
  have hr := B.returns
  have hts := atoms_spec (ws := wsX7_lacks) B.pre
  have hown : s.vm.findClass RX7 = some m.cls := findClass_of_methodNamed B.named
  have hlocks := B.notSynchronized
  subst hsz
  have hi7 : ∀ w ∈ u_ws RX7 TX7 42, w ∈ wsX7_lacks := by decide +kernel
  have hD := hD0.self (sz := s.heap.size)
  generalize hAe : va_A (zM k q j0 j1 (fun _ => 0) (fun _ => 0) r4 (fun _ => 0) r6 (fun _ => 0) (fun _ => 0) (fun _ => 0) (fun _ => 0) 12 i12 i13 i14 i15 (fun _ => 0) (fun _ => 0) (fun _ => 0) 0 (-1) (fun _ => 0) 0 (fun _ => 0) (fun _ => 0) (fun _ => 0) (fun _ => 0) (fun _ => 0) i28 i29 j30 j31 j32 i33 r34 100 (fun _ => 0) (fun _ => 0) (fun _ => 0) (fun _ => 0) r40 i41) s.heap.size = A at hD ⊢
  have hA : ∀ q : Nat, s.heap.size ≤ q → A q := fun q h => by rw [← hAe]; exact Or.inr h
  have hl := lv_entry ([.ref (q 0), .int z, .int t, .int i]) (n := 4) (Nat.le_of_ble_eq_true rfl)
  rw [lg_entry_eq]
  generalize (lg_sl ([.ref (q 0), .int z, .int t, .int i]) ++ List.replicate (4 - (lg_sl ([.ref (q 0), .int z, .int t, .int i])).length) Slot.unset).toArray = ls at hl ⊢
  have hl : lv_has ls 4 [(0, .ref (q 0)), (1, .int z), (2, .int t), (3, .int i)] := hl
  refine z_start (w := (zM k q j0 j1 (fun _ => 0) (fun _ => 0) r4 (fun _ => 0) r6 (fun _ => 0) (fun _ => 0) (fun _ => 0) (fun _ => 0) 12 i12 i13 i14 i15 (fun _ => 0) (fun _ => 0) (fun _ => 0) 0 (-1) (fun _ => 0) 0 (fun _ => 0) (fun _ => 0) (fun _ => 0) (fun _ => 0) (fun _ => 0) i28 i29 j30 j31 j32 i33 r34 100 (fun _ => 0) (fun _ => 0) (fun _ => 0) (fun _ => 0) r40 i41)) hP hD (fun H locs hP hD hS => ?_)
  refine lv_aload_n hx hb dX7_lacks_0 rfl (lv_at hl 0 rfl) ?_
  refine va_get (D := (dC, dI)) (ci := 7) (v := .ref (q 36)) (C := RX7) (T := TX7) (N := 42) hx hb hts hi7 hown hK.1 hP 0 rfl rfl 36 (by decide) (hts (.fieldLink RX7 82 "SecretLotsModel" "isThere" "[Z") (by decide +kernel)) (fun _ h9 => h9) rfl dX7_lacks_1 ?_
  refine lv_iload_n hx hb dX7_lacks_4 rfl (lv_at hl 1 rfl) ?_
  refine va_zald (D := (dC, dI)) hx hb hK.1 hP 20 2 rfl rfl (by first | exact zin4 (by assumption) | exact zin24 (by assumption)) dX7_lacks_5 ?_
  refine z_top (v2 := .int 0) (rfl) ?_
  refine lv_if_ne (tgt := 13) hx hb dX7_lacks_6 (by decide) (fun c_1 => ?_) (fun c_1 => ?_)
  · skip
    exact absurd c_1 (by decide)
  · skip
    refine lv_iconst (v := 1) hx hb dX7_lacks_9 (by decide) ?_
    refine lv_goto (tgt := 48) hx hb dX7_lacks_10 (by decide) ?_
    exact W.iret (v := 1) hx hb hr (fun t ht hW => ⟨⟨1, (), rfl, (by first | assumption | with_reducible rfl | exact (if_pos (by repeat' (first | assumption | decide | constructor))).symm | exact (if_neg (fun hh => absurd hh (by assumption))).symm | exact (if_neg (fun hh => absurd hh.1 (by assumption))).symm | exact (if_neg (fun hh => absurd hh.2 (by assumption))).symm | exact (if_neg (fun hh => absurd hh.1.1 (by assumption))).symm | exact (if_neg (fun hh => absurd hh.1.2 (by assumption))).symm | exact (if_neg (fun hh => absurd hh.2.1 (by assumption))).symm | exact (if_neg (fun hh => absurd hh.2.2 (by assumption))).symm | exact (if_neg (fun hh => absurd hh.2.2.1 (by assumption))).symm | exact (if_neg (fun hh => absurd hh.2.2.2 (by assumption))).symm | decide | (exfalso; simp only [zi_le, zi_lt, zi_eq, zi_n0, zi_n1, zi_n2, zi_n3, zi_n4, zi_n23, zi_n24, zi_n100, zi_n399, zi_n60, zi_n255, zi_n99, zi_nm1, zi_n30] at *; omega) | (simp_all; done)), ⟨by rw [ht]; exact hP, hD⟩⟩, hS.F ht⟩) hS.2.2 dX7_lacks_48
set_option maxHeartbeats 4000000 in
set_option maxRecDepth 100000 in
theorem c_X7_put (l : Launch) (dC : Nat → ClassId) (dI : Nat → Nat → Nat) (k : Nat → ClassId) (T : List (ClassId × FieldType)) (q : Nat → Nat) (j0 : Int64) (j1 : Int64) (r4 : Nat → Int32) (r6 : Nat → Int32) (i12 : Int32) (i13 : Int32) (i14 : Int32) (i15 : Int32) (i28 : Int32) (i29 : Int32) (j30 : Int64) (j31 : Int64) (j32 : Int64) (i33 : Int32) (r34 : Nat → Int32) (r40 : Nat → Int32) (i41 : Int32) (z : Int32) (t : Int32) (i : Int32) (v : Int32) (sz : Nat)  : Met l yX7_put wsX7_put ({ frames := 2, cells := 0, slots := 0, locals := 42 }) (va_Pc [.ref (q 0), .int z, .int t, .int i, .int v] (zPre dC dI k T (zM k q j0 j1 (fun _ => 0) (fun _ => 0) r4 (fun _ => 0) r6 (fun _ => 0) (fun _ => 0) (fun _ => 0) (fun _ => 0) 12 i12 i13 i14 i15 (fun _ => 0) (fun _ => 0) (fun _ => 0) 0 (-1) (fun _ => 0) 0 (fun _ => 0) (fun _ => 0) (fun _ => 0) (fun _ => 0) (fun _ => 0) i28 i29 j30 j31 j32 i33 r34 100 (fun _ => 0) (fun _ => 0) (fun _ => 0) (fun _ => 0) r40 i41) sz)) (va_Qi (fun (r : Int32) (u : Int32) => (r = if (0 ≤ z ∧ z ≤ 3) ∧ (0 ≤ t ∧ t ≤ 2) then (-11) else (-2))) (fun u t => zPost dC dI (va_A (zM k q j0 j1 (fun _ => 0) (fun _ => 0) r4 (fun _ => 0) r6 (fun _ => 0) (fun _ => 0) (fun _ => 0) (fun _ => 0) 12 i12 i13 i14 i15 (fun _ => 0) (fun _ => 0) (fun _ => 0) 0 (-1) (fun _ => 0) 0 (fun _ => 0) (fun _ => 0) (fun _ => 0) (fun _ => 0) (fun _ => 0) i28 i29 j30 j31 j32 i33 r34 100 (fun _ => 0) (fun _ => 0) (fun _ => 0) (fun _ => 0) r40 i41) sz) (zM k q j0 j1 (fun _ => 0) (fun _ => 0) r4 (fun _ => 0) r6 (fun _ => 0) (fun _ => 0) (fun _ => 0) (fun _ => 0) 12 i12 i13 i14 i15 (fun _ => 0) (fun _ => 0) (fun _ => 0) 0 (-1) (fun _ => 0) 0 (fun _ => 0) (fun _ => 0) (fun _ => 0) (fun _ => 0) (fun _ => 0) i28 i29 j30 j31 j32 i33 r34 100 (fun _ => 0) (fun _ => 0) (fun _ => 0) (fun _ => 0) r40 u) t) (va_A (zM k q j0 j1 (fun _ => 0) (fun _ => 0) r4 (fun _ => 0) r6 (fun _ => 0) (fun _ => 0) (fun _ => 0) (fun _ => 0) 12 i12 i13 i14 i15 (fun _ => 0) (fun _ => 0) (fun _ => 0) 0 (-1) (fun _ => 0) 0 (fun _ => 0) (fun _ => 0) (fun _ => 0) (fun _ => 0) (fun _ => 0) i28 i29 j30 j31 j32 i33 r34 100 (fun _ => 0) (fun _ => 0) (fun _ => 0) (fun _ => 0) r40 i41) sz)) 0 0 (va_A (zM k q j0 j1 (fun _ => 0) (fun _ => 0) r4 (fun _ => 0) r6 (fun _ => 0) (fun _ => 0) (fun _ => 0) (fun _ => 0) 12 i12 i13 i14 i15 (fun _ => 0) (fun _ => 0) (fun _ => 0) 0 (-1) (fun _ => 0) 0 (fun _ => 0) (fun _ => 0) (fun _ => 0) (fun _ => 0) (fun _ => 0) i28 i29 j30 j31 j32 i33 r34 100 (fun _ => 0) (fun _ => 0) (fun _ => 0) (fun _ => 0) r40 i41) sz) := by
  refine Met.ofW (cc := cX7_put) (maxL := 6) (ret := (some .int)) (by decide) rfl ?_
  intro p e s m args below meth c s₁ B hml hv
  obtain ⟨rfl, hsz, hP, hK, hD0⟩ := hv
  have hx := B.exec
  have hb := B.bytes
  have hr := B.returns
  have hts := atoms_spec (ws := wsX7_put) B.pre
  have hown : s.vm.findClass RX7 = some m.cls := findClass_of_methodNamed B.named
  have hlocks := B.notSynchronized
  subst hsz
  have hD := hD0.self (sz := s.heap.size)
  generalize hAe : va_A (zM k q j0 j1 (fun _ => 0) (fun _ => 0) r4 (fun _ => 0) r6 (fun _ => 0) (fun _ => 0) (fun _ => 0) (fun _ => 0) 12 i12 i13 i14 i15 (fun _ => 0) (fun _ => 0) (fun _ => 0) 0 (-1) (fun _ => 0) 0 (fun _ => 0) (fun _ => 0) (fun _ => 0) (fun _ => 0) (fun _ => 0) i28 i29 j30 j31 j32 i33 r34 100 (fun _ => 0) (fun _ => 0) (fun _ => 0) (fun _ => 0) r40 i41) s.heap.size = A at hD ⊢
  have hA : ∀ q : Nat, s.heap.size ≤ q → A q := fun q h => by rw [← hAe]; exact Or.inr h
  have hl := lv_entry ([.ref (q 0), .int z, .int t, .int i, .int v]) (n := 6) (Nat.le_of_ble_eq_true rfl)
  rw [lg_entry_eq]
  generalize (lg_sl ([.ref (q 0), .int z, .int t, .int i, .int v]) ++ List.replicate (6 - (lg_sl ([.ref (q 0), .int z, .int t, .int i, .int v])).length) Slot.unset).toArray = ls at hl ⊢
  have hl : lv_has ls 6 [(0, .ref (q 0)), (1, .int z), (2, .int t), (3, .int i), (4, .int v)] := hl
  refine z_start (w := (zM k q j0 j1 (fun _ => 0) (fun _ => 0) r4 (fun _ => 0) r6 (fun _ => 0) (fun _ => 0) (fun _ => 0) (fun _ => 0) 12 i12 i13 i14 i15 (fun _ => 0) (fun _ => 0) (fun _ => 0) 0 (-1) (fun _ => 0) 0 (fun _ => 0) (fun _ => 0) (fun _ => 0) (fun _ => 0) (fun _ => 0) i28 i29 j30 j31 j32 i33 r34 100 (fun _ => 0) (fun _ => 0) (fun _ => 0) (fun _ => 0) r40 i41)) hP hD (fun H locs hP hD hS => ?_)
  refine lv_iload_n hx hb dX7_put_0 rfl (lv_at hl 1 rfl) ?_
  refine zc_i (w := (zM k q j0 j1 (fun _ => 0) (fun _ => 0) r4 (fun _ => 0) r6 (fun _ => 0) (fun _ => 0) (fun _ => 0) (fun _ => 0) 12 i12 i13 i14 i15 (fun _ => 0) (fun _ => 0) (fun _ => 0) 0 (-1) (fun _ => 0) 0 (fun _ => 0) (fun _ => 0) (fun _ => 0) (fun _ => 0) (fun _ => 0) i28 i29 j30 j31 j32 i33 r34 100 (fun _ => 0) (fun _ => 0) (fun _ => 0) (fun _ => 0) r40 i41)) (wc := []) (wr := ([0, 1, 2, 3, 4, 5, 6, 7, 8, 9, 10, 11, 12, 13, 14, 15, 16, 17, 18, 19, 20, 21, 22, 23, 24].filterMap (fun i => (zM k q j0 j1 (fun _ => 0) (fun _ => 0) r4 (fun _ => 0) r6 (fun _ => 0) (fun _ => 0) (fun _ => 0) (fun _ => 0) 12 i12 i13 i14 i15 (fun _ => 0) (fun _ => 0) (fun _ => 0) 0 (-1) (fun _ => 0) 0 (fun _ => 0) (fun _ => 0) (fun _ => 0) (fun _ => 0) (fun _ => 0) i28 i29 j30 j31 j32 i33 r34 100 (fun _ => 0) (fun _ => 0) (fun _ => 0) (fun _ => 0) r40 i41)[i]?))) (va_runS (As := [.int z]) (rest := []) ⟨hx, hb, hml, hown, hts⟩ (c_X7_isSheet l dC dI k T z _ ) (va_cwS 1 hts gX7_put_X7_isSheet rfl rfl rfl (by decide +kernel) ⟨Nat.le_of_ble_eq_true rfl, Nat.le_of_ble_eq_true rfl⟩) (zp_S hK hP hD [] rfl rfl) rfl rfl hl.1 rfl (lv_room (Nat.le_of_ble_eq_true rfl)) dX7_put_1 ⟨Nat.le_of_ble_eq_true rfl, Nat.le_of_ble_eq_true rfl⟩) hP hD hS hA [] [0, 1, 2, 3, 4, 5, 6, 7, 8, 9, 10, 11, 12, 13, 14, 15, 16, 17, 18, 19, 20, 21, 22, 23, 24] rfl rfl (by decide) (by decide) (fun r_1 u_2 H locs w_3 hP hD hS => ?_)
  have hP : va_P (dC, dI) vwCl (zM k q j0 j1 (fun _ => 0) (fun _ => 0) r4 (fun _ => 0) r6 (fun _ => 0) (fun _ => 0) (fun _ => 0) (fun _ => 0) 12 i12 i13 i14 i15 (fun _ => 0) (fun _ => 0) (fun _ => 0) 0 (-1) (fun _ => 0) 0 (fun _ => 0) (fun _ => 0) (fun _ => 0) (fun _ => 0) (fun _ => 0) i28 i29 j30 j31 j32 i33 r34 100 (fun _ => 0) (fun _ => 0) (fun _ => 0) (fun _ => 0) r40 i41) H := hP.sub [0, 1, 2, 3, 4, 5, 6, 7, 8, 9, 10, 11, 12, 13, 14, 15, 16, 17, 18, 19, 20, 21, 22, 23, 24] rfl
  have hD : va_D A (zM k q j0 j1 (fun _ => 0) (fun _ => 0) r4 (fun _ => 0) r6 (fun _ => 0) (fun _ => 0) (fun _ => 0) (fun _ => 0) 12 i12 i13 i14 i15 (fun _ => 0) (fun _ => 0) (fun _ => 0) 0 (-1) (fun _ => 0) 0 (fun _ => 0) (fun _ => 0) (fun _ => 0) (fun _ => 0) (fun _ => 0) i28 i29 j30 j31 j32 i33 r34 100 (fun _ => 0) (fun _ => 0) (fun _ => 0) (fun _ => 0) r40 i41) := hD.sub [0, 1, 2, 3, 4, 5, 6, 7, 8, 9, 10, 11, 12, 13, 14, 15, 16, 17, 18, 19, 20, 21, 22, 23, 24] (by decide) rfl
  rcases w_3 with ⟨e_5, h_4⟩ | ⟨e_7, h_6⟩
  · skip
    replace e_5 : r_1 = 1 := e_5
    subst e_5
    replace h_4 : 0 ≤ z ∧ z ≤ 3 := h_4
    refine lv_if_eq (tgt := 16) hx hb dX7_put_4 (by decide) (fun c_8 => ?_) (fun c_8 => ?_)
    · skip
      exact absurd c_8 (by decide)
    · skip
      refine lv_iload_n hx hb dX7_put_7 rfl (lv_at hl 2 rfl) ?_
      refine lv_iconst (v := 0) hx hb dX7_put_8 (by decide) ?_
      refine lv_iconst (v := 2) hx hb dX7_put_9 (by decide) ?_
      refine zc_i (w := (zM k q j0 j1 (fun _ => 0) (fun _ => 0) r4 (fun _ => 0) r6 (fun _ => 0) (fun _ => 0) (fun _ => 0) (fun _ => 0) 12 i12 i13 i14 i15 (fun _ => 0) (fun _ => 0) (fun _ => 0) 0 (-1) (fun _ => 0) 0 (fun _ => 0) (fun _ => 0) (fun _ => 0) (fun _ => 0) (fun _ => 0) i28 i29 j30 j31 j32 i33 r34 100 (fun _ => 0) (fun _ => 0) (fun _ => 0) (fun _ => 0) r40 i41)) (wc := []) (wr := ([0, 1, 2, 3, 4, 5, 6, 7, 8, 9, 10, 11, 12, 13, 14, 15, 16, 17, 18, 19, 20, 21, 22, 23, 24].filterMap (fun i => (zM k q j0 j1 (fun _ => 0) (fun _ => 0) r4 (fun _ => 0) r6 (fun _ => 0) (fun _ => 0) (fun _ => 0) (fun _ => 0) 12 i12 i13 i14 i15 (fun _ => 0) (fun _ => 0) (fun _ => 0) 0 (-1) (fun _ => 0) 0 (fun _ => 0) (fun _ => 0) (fun _ => 0) (fun _ => 0) (fun _ => 0) i28 i29 j30 j31 j32 i33 r34 100 (fun _ => 0) (fun _ => 0) (fun _ => 0) (fun _ => 0) r40 i41)[i]?))) (va_runS (As := [.int t, .int 0, .int 2]) (rest := []) ⟨hx, hb, hml, hown, hts⟩ (c_X7_in l dC dI k T t 0 2 _ ) (va_cwS 3 hts gX7_put_X7_in rfl rfl rfl (by decide +kernel) ⟨Nat.le_of_ble_eq_true rfl, Nat.le_of_ble_eq_true rfl⟩) (zp_S hK hP hD [] rfl rfl) rfl rfl hl.1 rfl (lv_room (Nat.le_of_ble_eq_true rfl)) dX7_put_10 ⟨Nat.le_of_ble_eq_true rfl, Nat.le_of_ble_eq_true rfl⟩) hP hD hS hA [] [0, 1, 2, 3, 4, 5, 6, 7, 8, 9, 10, 11, 12, 13, 14, 15, 16, 17, 18, 19, 20, 21, 22, 23, 24] rfl rfl (by decide) (by decide) (fun r_9 u_10 H locs w_11 hP hD hS => ?_)
      have hP : va_P (dC, dI) vwCl (zM k q j0 j1 (fun _ => 0) (fun _ => 0) r4 (fun _ => 0) r6 (fun _ => 0) (fun _ => 0) (fun _ => 0) (fun _ => 0) 12 i12 i13 i14 i15 (fun _ => 0) (fun _ => 0) (fun _ => 0) 0 (-1) (fun _ => 0) 0 (fun _ => 0) (fun _ => 0) (fun _ => 0) (fun _ => 0) (fun _ => 0) i28 i29 j30 j31 j32 i33 r34 100 (fun _ => 0) (fun _ => 0) (fun _ => 0) (fun _ => 0) r40 i41) H := hP.sub [0, 1, 2, 3, 4, 5, 6, 7, 8, 9, 10, 11, 12, 13, 14, 15, 16, 17, 18, 19, 20, 21, 22, 23, 24] rfl
      have hD : va_D A (zM k q j0 j1 (fun _ => 0) (fun _ => 0) r4 (fun _ => 0) r6 (fun _ => 0) (fun _ => 0) (fun _ => 0) (fun _ => 0) 12 i12 i13 i14 i15 (fun _ => 0) (fun _ => 0) (fun _ => 0) 0 (-1) (fun _ => 0) 0 (fun _ => 0) (fun _ => 0) (fun _ => 0) (fun _ => 0) (fun _ => 0) i28 i29 j30 j31 j32 i33 r34 100 (fun _ => 0) (fun _ => 0) (fun _ => 0) (fun _ => 0) r40 i41) := hD.sub [0, 1, 2, 3, 4, 5, 6, 7, 8, 9, 10, 11, 12, 13, 14, 15, 16, 17, 18, 19, 20, 21, 22, 23, 24] (by decide) rfl
      rcases w_11 with ⟨e_13, h_12⟩ | ⟨e_15, h_14⟩
      · skip
        replace e_13 : r_9 = 1 := e_13
        subst e_13
        replace h_12 : 0 ≤ t ∧ t ≤ 2 := h_12
        refine lv_if_ne (tgt := 19) hx hb dX7_put_13 (by decide) (fun c_16 => ?_) (fun c_16 => ?_)
        · skip
          refine lv_aload_n hx hb dX7_put_19 rfl (lv_at hl 0 rfl) ?_
          refine lv_iload_n hx hb dX7_put_20 rfl (lv_at hl 1 rfl) ?_
          refine lv_iload_n hx hb dX7_put_21 rfl (lv_at hl 2 rfl) ?_
          refine lv_iload_n hx hb dX7_put_22 rfl (lv_at hl 3 rfl) ?_
          refine zc_i (w := (zM k q j0 j1 (fun _ => 0) (fun _ => 0) r4 (fun _ => 0) r6 (fun _ => 0) (fun _ => 0) (fun _ => 0) (fun _ => 0) 12 i12 i13 i14 i15 (fun _ => 0) (fun _ => 0) (fun _ => 0) 0 (-1) (fun _ => 0) 0 (fun _ => 0) (fun _ => 0) (fun _ => 0) (fun _ => 0) (fun _ => 0) i28 i29 j30 j31 j32 i33 r34 100 (fun _ => 0) (fun _ => 0) (fun _ => 0) (fun _ => 0) r40 i41)) (wc := (zM k q j0 j1 (fun _ => 0) (fun _ => 0) r4 (fun _ => 0) r6 (fun _ => 0) (fun _ => 0) (fun _ => 0) (fun _ => 0) 12 i12 i13 i14 i15 (fun _ => 0) (fun _ => 0) (fun _ => 0) 0 (-1) (fun _ => 0) 0 (fun _ => 0) (fun _ => 0) (fun _ => 0) (fun _ => 0) (fun _ => 0) i28 i29 j30 j31 j32 i33 r34 100 (fun _ => 0) (fun _ => 0) (fun _ => 0) (fun _ => 0) r40 i41)) (wr := []) (va_runV (As := [.int z, .int t, .int i]) (rest := []) ⟨hx, hb, hml, hown, hts⟩ (c_X7_lacks l dC dI k T q j0 j1 r4 r6 i12 i13 i14 i15 i28 i29 j30 j31 j32 i33 r34 r40 i41 z t i _ (by assumption)) (cwV 3 hts gX7_put_X7_lacks rfl rfl rfl (by decide +kernel) ⟨Nat.le_of_ble_eq_true rfl, Nat.le_of_ble_eq_true rfl⟩) (zp_V (ci := 7) (q0 := 0) hK hP hD [0, 1, 2, 3, 4, 5, 6, 7, 8, 9, 10, 11, 12, 13, 14, 15, 16, 17, 18, 19, 20, 21, 22, 23, 24] rfl rfl rfl rfl) rfl rfl hl.1 rfl (lv_room (Nat.le_of_ble_eq_true rfl)) dX7_put_23 ⟨Nat.le_of_ble_eq_true rfl, Nat.le_of_ble_eq_true rfl⟩) hP hD hS hA [0, 1, 2, 3, 4, 5, 6, 7, 8, 9, 10, 11, 12, 13, 14, 15, 16, 17, 18, 19, 20, 21, 22, 23, 24] [] rfl rfl (by decide) (by decide) (fun r_17 u_18 H locs w_19 hP hD hS => ?_)
          have hP : va_P (dC, dI) vwCl (zM k q j0 j1 (fun _ => 0) (fun _ => 0) r4 (fun _ => 0) r6 (fun _ => 0) (fun _ => 0) (fun _ => 0) (fun _ => 0) 12 i12 i13 i14 i15 (fun _ => 0) (fun _ => 0) (fun _ => 0) 0 (-1) (fun _ => 0) 0 (fun _ => 0) (fun _ => 0) (fun _ => 0) (fun _ => 0) (fun _ => 0) i28 i29 j30 j31 j32 i33 r34 100 (fun _ => 0) (fun _ => 0) (fun _ => 0) (fun _ => 0) r40 i41) H := hP.sub [0, 1, 2, 3, 4, 5, 6, 7, 8, 9, 10, 11, 12, 13, 14, 15, 16, 17, 18, 19, 20, 21, 22, 23, 24] rfl
          have hD : va_D A (zM k q j0 j1 (fun _ => 0) (fun _ => 0) r4 (fun _ => 0) r6 (fun _ => 0) (fun _ => 0) (fun _ => 0) (fun _ => 0) 12 i12 i13 i14 i15 (fun _ => 0) (fun _ => 0) (fun _ => 0) 0 (-1) (fun _ => 0) 0 (fun _ => 0) (fun _ => 0) (fun _ => 0) (fun _ => 0) (fun _ => 0) i28 i29 j30 j31 j32 i33 r34 100 (fun _ => 0) (fun _ => 0) (fun _ => 0) (fun _ => 0) r40 i41) := hD.sub [0, 1, 2, 3, 4, 5, 6, 7, 8, 9, 10, 11, 12, 13, 14, 15, 16, 17, 18, 19, 20, 21, 22, 23, 24] (by decide) rfl
          have e_20 := w_19
          replace e_20 : r_17 = 1 := e_20
          subst e_20
          refine lv_istore (lv' := [(5, .int 1), (0, .ref (q 0)), (1, .int z), (2, .int t), (3, .int i), (4, .int v)]) hx hb dX7_put_26 hl (by decide) rfl (fun ls hl => ?_)
          refine lv_iload hx hb dX7_put_28 (lv_at hl 0 rfl) ?_
          refine lv_if_le (tgt := 40) hx hb dX7_put_30 (by decide) (fun c_21 => ?_) (fun c_21 => ?_)
          · skip
            exact absurd c_21 (by decide)
          · skip
            refine lv_aload_n hx hb dX7_put_33 rfl (lv_at hl 1 rfl) ?_
            refine lv_iload hx hb dX7_put_34 (lv_at hl 0 rfl) ?_
            refine zc_i (w := (zM k q j0 j1 (fun _ => 0) (fun _ => 0) r4 (fun _ => 0) r6 (fun _ => 0) (fun _ => 0) (fun _ => 0) (fun _ => 0) 12 i12 i13 i14 i15 (fun _ => 0) (fun _ => 0) (fun _ => 0) 0 (-1) (fun _ => 0) 0 (fun _ => 0) (fun _ => 0) (fun _ => 0) (fun _ => 0) (fun _ => 0) i28 i29 j30 j31 j32 i33 r34 100 (fun _ => 0) (fun _ => 0) (fun _ => 0) (fun _ => 0) r40 i41)) (wc := (zM k q j0 j1 (fun _ => 0) (fun _ => 0) r4 (fun _ => 0) r6 (fun _ => 0) (fun _ => 0) (fun _ => 0) (fun _ => 0) 12 i12 i13 i14 i15 (fun _ => 0) (fun _ => 0) (fun _ => 0) 0 (-1) (fun _ => 0) 0 (fun _ => 0) (fun _ => 0) (fun _ => 0) (fun _ => 0) (fun _ => 0) i28 i29 j30 j31 j32 i33 r34 100 (fun _ => 0) (fun _ => 0) (fun _ => 0) (fun _ => 0) r40 i41)) (wr := []) (va_runV (As := [.int 1]) (rest := []) ⟨hx, hb, hml, hown, hts⟩ (c_X7_meets_1 l dC dI k T q j0 j1 r4 r6 i12 i13 i14 i15 i28 i29 j30 j31 j32 i33 r34 r40 i41 _ ) (cwV 1 hts gX7_put_X7_meets rfl rfl rfl (by decide +kernel) ⟨Nat.le_of_ble_eq_true rfl, Nat.le_of_ble_eq_true rfl⟩) (zp_V (ci := 7) (q0 := 0) hK hP hD [0, 1, 2, 3, 4, 5, 6, 7, 8, 9, 10, 11, 12, 13, 14, 15, 16, 17, 18, 19, 20, 21, 22, 23, 24] rfl rfl rfl rfl) rfl rfl hl.1 rfl (lv_room (Nat.le_of_ble_eq_true rfl)) dX7_put_36 ⟨Nat.le_of_ble_eq_true rfl, Nat.le_of_ble_eq_true rfl⟩) hP hD hS hA [0, 1, 2, 3, 4, 5, 6, 7, 8, 9, 10, 11, 12, 13, 14, 15, 16, 17, 18, 19, 20, 21, 22, 23, 24] [] rfl rfl (by decide) (by decide) (fun r_22 u_23 H locs w_24 hP hD hS => ?_)
            obtain ⟨oi41_25, rfl⟩ : ∃ z, z = u_23 := ⟨_, rfl⟩
            have hP : va_P (dC, dI) vwCl (zM k q j0 j1 (fun _ => 0) (fun _ => 0) r4 (fun _ => 0) r6 (fun _ => 0) (fun _ => 0) (fun _ => 0) (fun _ => 0) 12 i12 i13 i14 i15 (fun _ => 0) (fun _ => 0) (fun _ => 0) 0 (-1) (fun _ => 0) 0 (fun _ => 0) (fun _ => 0) (fun _ => 0) (fun _ => 0) (fun _ => 0) i28 i29 j30 j31 j32 i33 r34 100 (fun _ => 0) (fun _ => 0) (fun _ => 0) (fun _ => 0) r40 oi41_25) H := hP.sub [0, 1, 2, 3, 4, 5, 6, 7, 8, 9, 10, 11, 12, 13, 14, 15, 16, 17, 18, 19, 20, 21, 22, 23, 24] rfl
            have hD : va_D A (zM k q j0 j1 (fun _ => 0) (fun _ => 0) r4 (fun _ => 0) r6 (fun _ => 0) (fun _ => 0) (fun _ => 0) (fun _ => 0) 12 i12 i13 i14 i15 (fun _ => 0) (fun _ => 0) (fun _ => 0) 0 (-1) (fun _ => 0) 0 (fun _ => 0) (fun _ => 0) (fun _ => 0) (fun _ => 0) (fun _ => 0) i28 i29 j30 j31 j32 i33 r34 100 (fun _ => 0) (fun _ => 0) (fun _ => 0) (fun _ => 0) r40 oi41_25) := hD.sub [0, 1, 2, 3, 4, 5, 6, 7, 8, 9, 10, 11, 12, 13, 14, 15, 16, 17, 18, 19, 20, 21, 22, 23, 24] (by decide) rfl
            have e_26 := w_24
            replace e_26 : r_22 = (-11) := e_26
            subst e_26
            exact W.iret (v := (-11)) hx hb hr (fun t ht hW => ⟨⟨(-11), (oi41_25), rfl, (by first | assumption | with_reducible rfl | exact (if_pos (by repeat' (first | assumption | decide | constructor))).symm | exact (if_neg (fun hh => absurd hh (by assumption))).symm | exact (if_neg (fun hh => absurd hh.1 (by assumption))).symm | exact (if_neg (fun hh => absurd hh.2 (by assumption))).symm | exact (if_neg (fun hh => absurd hh.1.1 (by assumption))).symm | exact (if_neg (fun hh => absurd hh.1.2 (by assumption))).symm | exact (if_neg (fun hh => absurd hh.2.1 (by assumption))).symm | exact (if_neg (fun hh => absurd hh.2.2 (by assumption))).symm | exact (if_neg (fun hh => absurd hh.2.2.1 (by assumption))).symm | exact (if_neg (fun hh => absurd hh.2.2.2 (by assumption))).symm | decide | (exfalso; simp only [zi_le, zi_lt, zi_eq, zi_n0, zi_n1, zi_n2, zi_n3, zi_n4, zi_n23, zi_n24, zi_n100, zi_n399, zi_n60, zi_n255, zi_n99, zi_nm1, zi_n30] at *; omega) | (simp_all; done)), ⟨by rw [ht]; exact hP, hD⟩⟩, hS.F ht⟩) hS.2.2 dX7_put_39
        · skip
          exact absurd c_16 (by decide)
      · skip
        replace e_15 : r_9 = 0 := e_15
        subst e_15
        replace h_14 : ¬ (0 ≤ t ∧ t ≤ 2) := h_14
        refine lv_if_ne (tgt := 19) hx hb dX7_put_13 (by decide) (fun c_27 => ?_) (fun c_27 => ?_)
        · skip
          exact absurd c_27 (by decide)
        · skip
          refine lv_bipush (v := (-2)) hx hb dX7_put_16 (by decide) ?_
          exact W.iret (v := (-2)) hx hb hr (fun t ht hW => ⟨⟨(-2), (i41), rfl, (by first | assumption | with_reducible rfl | exact (if_pos (by repeat' (first | assumption | decide | constructor))).symm | exact (if_neg (fun hh => absurd hh (by assumption))).symm | exact (if_neg (fun hh => absurd hh.1 (by assumption))).symm | exact (if_neg (fun hh => absurd hh.2 (by assumption))).symm | exact (if_neg (fun hh => absurd hh.1.1 (by assumption))).symm | exact (if_neg (fun hh => absurd hh.1.2 (by assumption))).symm | exact (if_neg (fun hh => absurd hh.2.1 (by assumption))).symm | exact (if_neg (fun hh => absurd hh.2.2 (by assumption))).symm | exact (if_neg (fun hh => absurd hh.2.2.1 (by assumption))).symm | exact (if_neg (fun hh => absurd hh.2.2.2 (by assumption))).symm | decide | (exfalso; simp only [zi_le, zi_lt, zi_eq, zi_n0, zi_n1, zi_n2, zi_n3, zi_n4, zi_n23, zi_n24, zi_n100, zi_n399, zi_n60, zi_n255, zi_n99, zi_nm1, zi_n30] at *; omega) | (simp_all; done)), ⟨by rw [ht]; exact hP, hD⟩⟩, hS.F ht⟩) hS.2.2 dX7_put_18
  · skip
    replace e_7 : r_1 = 0 := e_7
    subst e_7
    replace h_6 : ¬ (0 ≤ z ∧ z ≤ 3) := h_6
    refine lv_if_eq (tgt := 16) hx hb dX7_put_4 (by decide) (fun c_28 => ?_) (fun c_28 => ?_)
    · skip
      refine lv_bipush (v := (-2)) hx hb dX7_put_16 (by decide) ?_
      exact W.iret (v := (-2)) hx hb hr (fun t ht hW => ⟨⟨(-2), (i41), rfl, (by first | assumption | with_reducible rfl | exact (if_pos (by repeat' (first | assumption | decide | constructor))).symm | exact (if_neg (fun hh => absurd hh (by assumption))).symm | exact (if_neg (fun hh => absurd hh.1 (by assumption))).symm | exact (if_neg (fun hh => absurd hh.2 (by assumption))).symm | exact (if_neg (fun hh => absurd hh.1.1 (by assumption))).symm | exact (if_neg (fun hh => absurd hh.1.2 (by assumption))).symm | exact (if_neg (fun hh => absurd hh.2.1 (by assumption))).symm | exact (if_neg (fun hh => absurd hh.2.2 (by assumption))).symm | exact (if_neg (fun hh => absurd hh.2.2.1 (by assumption))).symm | exact (if_neg (fun hh => absurd hh.2.2.2 (by assumption))).symm | decide | (exfalso; simp only [zi_le, zi_lt, zi_eq, zi_n0, zi_n1, zi_n2, zi_n3, zi_n4, zi_n23, zi_n24, zi_n100, zi_n399, zi_n60, zi_n255, zi_n99, zi_nm1, zi_n30] at *; omega) | (simp_all; done)), ⟨by rw [ht]; exact hP, hD⟩⟩, hS.F ht⟩) hS.2.2 dX7_put_18
    · skip
      exact absurd (by decide) c_28
set_option maxHeartbeats 4000000 in
set_option maxRecDepth 100000 in
theorem c_X7_get (l : Launch) (dC : Nat → ClassId) (dI : Nat → Nat → Nat) (k : Nat → ClassId) (T : List (ClassId × FieldType)) (q : Nat → Nat) (j0 : Int64) (j1 : Int64) (r4 : Nat → Int32) (r6 : Nat → Int32) (i12 : Int32) (i13 : Int32) (i14 : Int32) (i15 : Int32) (i28 : Int32) (i29 : Int32) (j30 : Int64) (j31 : Int64) (j32 : Int64) (i33 : Int32) (r34 : Nat → Int32) (r40 : Nat → Int32) (i41 : Int32) (z : Int32) (t : Int32) (i : Int32) (sz : Nat)  : Met l yX7_get wsX7_get ({ frames := 2, cells := 0, slots := 0, locals := 42 }) (va_Pc [.ref (q 0), .int z, .int t, .int i] (zPre dC dI k T (zM k q j0 j1 (fun _ => 0) (fun _ => 0) r4 (fun _ => 0) r6 (fun _ => 0) (fun _ => 0) (fun _ => 0) (fun _ => 0) 12 i12 i13 i14 i15 (fun _ => 0) (fun _ => 0) (fun _ => 0) 0 (-1) (fun _ => 0) 0 (fun _ => 0) (fun _ => 0) (fun _ => 0) (fun _ => 0) (fun _ => 0) i28 i29 j30 j31 j32 i33 r34 100 (fun _ => 0) (fun _ => 0) (fun _ => 0) (fun _ => 0) r40 i41) sz)) (va_Qi (fun (r : Int32) (u : Int32) => r = (-2147483648)) (fun u t => zPost dC dI (va_A (zM k q j0 j1 (fun _ => 0) (fun _ => 0) r4 (fun _ => 0) r6 (fun _ => 0) (fun _ => 0) (fun _ => 0) (fun _ => 0) 12 i12 i13 i14 i15 (fun _ => 0) (fun _ => 0) (fun _ => 0) 0 (-1) (fun _ => 0) 0 (fun _ => 0) (fun _ => 0) (fun _ => 0) (fun _ => 0) (fun _ => 0) i28 i29 j30 j31 j32 i33 r34 100 (fun _ => 0) (fun _ => 0) (fun _ => 0) (fun _ => 0) r40 i41) sz) (zM k q j0 j1 (fun _ => 0) (fun _ => 0) r4 (fun _ => 0) r6 (fun _ => 0) (fun _ => 0) (fun _ => 0) (fun _ => 0) 12 i12 i13 i14 i15 (fun _ => 0) (fun _ => 0) (fun _ => 0) 0 (-1) (fun _ => 0) 0 (fun _ => 0) (fun _ => 0) (fun _ => 0) (fun _ => 0) (fun _ => 0) i28 i29 j30 j31 j32 i33 r34 100 (fun _ => 0) (fun _ => 0) (fun _ => 0) (fun _ => 0) r40 u) t) (va_A (zM k q j0 j1 (fun _ => 0) (fun _ => 0) r4 (fun _ => 0) r6 (fun _ => 0) (fun _ => 0) (fun _ => 0) (fun _ => 0) 12 i12 i13 i14 i15 (fun _ => 0) (fun _ => 0) (fun _ => 0) 0 (-1) (fun _ => 0) 0 (fun _ => 0) (fun _ => 0) (fun _ => 0) (fun _ => 0) (fun _ => 0) i28 i29 j30 j31 j32 i33 r34 100 (fun _ => 0) (fun _ => 0) (fun _ => 0) (fun _ => 0) r40 i41) sz)) 0 0 (va_A (zM k q j0 j1 (fun _ => 0) (fun _ => 0) r4 (fun _ => 0) r6 (fun _ => 0) (fun _ => 0) (fun _ => 0) (fun _ => 0) 12 i12 i13 i14 i15 (fun _ => 0) (fun _ => 0) (fun _ => 0) 0 (-1) (fun _ => 0) 0 (fun _ => 0) (fun _ => 0) (fun _ => 0) (fun _ => 0) (fun _ => 0) i28 i29 j30 j31 j32 i33 r34 100 (fun _ => 0) (fun _ => 0) (fun _ => 0) (fun _ => 0) r40 i41) sz) := by
  refine Met.ofW (cc := cX7_get) (maxL := 5) (ret := (some .int)) (by decide) rfl ?_
  intro p e s m args below meth c s₁ B hml hv
  obtain ⟨rfl, hsz, hP, hK, hD0⟩ := hv
  have hx := B.exec
  have hb := B.bytes
  have hr := B.returns
  have hts := atoms_spec (ws := wsX7_get) B.pre
  have hown : s.vm.findClass RX7 = some m.cls := findClass_of_methodNamed B.named
  have hlocks := B.notSynchronized
  subst hsz
  have hi7 : ∀ w ∈ u_ws RX7 TX7 42, w ∈ wsX7_get := by decide +kernel
  have hD := hD0.self (sz := s.heap.size)
  generalize hAe : va_A (zM k q j0 j1 (fun _ => 0) (fun _ => 0) r4 (fun _ => 0) r6 (fun _ => 0) (fun _ => 0) (fun _ => 0) (fun _ => 0) 12 i12 i13 i14 i15 (fun _ => 0) (fun _ => 0) (fun _ => 0) 0 (-1) (fun _ => 0) 0 (fun _ => 0) (fun _ => 0) (fun _ => 0) (fun _ => 0) (fun _ => 0) i28 i29 j30 j31 j32 i33 r34 100 (fun _ => 0) (fun _ => 0) (fun _ => 0) (fun _ => 0) r40 i41) s.heap.size = A at hD ⊢
  have hA : ∀ q : Nat, s.heap.size ≤ q → A q := fun q h => by rw [← hAe]; exact Or.inr h
  have hl := lv_entry ([.ref (q 0), .int z, .int t, .int i]) (n := 5) (Nat.le_of_ble_eq_true rfl)
  rw [lg_entry_eq]
  generalize (lg_sl ([.ref (q 0), .int z, .int t, .int i]) ++ List.replicate (5 - (lg_sl ([.ref (q 0), .int z, .int t, .int i])).length) Slot.unset).toArray = ls at hl ⊢
  have hl : lv_has ls 5 [(0, .ref (q 0)), (1, .int z), (2, .int t), (3, .int i)] := hl
  refine z_start (w := (zM k q j0 j1 (fun _ => 0) (fun _ => 0) r4 (fun _ => 0) r6 (fun _ => 0) (fun _ => 0) (fun _ => 0) (fun _ => 0) 12 i12 i13 i14 i15 (fun _ => 0) (fun _ => 0) (fun _ => 0) 0 (-1) (fun _ => 0) 0 (fun _ => 0) (fun _ => 0) (fun _ => 0) (fun _ => 0) (fun _ => 0) i28 i29 j30 j31 j32 i33 r34 100 (fun _ => 0) (fun _ => 0) (fun _ => 0) (fun _ => 0) r40 i41)) hP hD (fun H locs hP hD hS => ?_)
  refine lv_iload_n hx hb dX7_get_0 rfl (lv_at hl 1 rfl) ?_
  refine zc_i (w := (zM k q j0 j1 (fun _ => 0) (fun _ => 0) r4 (fun _ => 0) r6 (fun _ => 0) (fun _ => 0) (fun _ => 0) (fun _ => 0) 12 i12 i13 i14 i15 (fun _ => 0) (fun _ => 0) (fun _ => 0) 0 (-1) (fun _ => 0) 0 (fun _ => 0) (fun _ => 0) (fun _ => 0) (fun _ => 0) (fun _ => 0) i28 i29 j30 j31 j32 i33 r34 100 (fun _ => 0) (fun _ => 0) (fun _ => 0) (fun _ => 0) r40 i41)) (wc := []) (wr := ([0, 1, 2, 3, 4, 5, 6, 7, 8, 9, 10, 11, 12, 13, 14, 15, 16, 17, 18, 19, 20, 21, 22, 23, 24].filterMap (fun i => (zM k q j0 j1 (fun _ => 0) (fun _ => 0) r4 (fun _ => 0) r6 (fun _ => 0) (fun _ => 0) (fun _ => 0) (fun _ => 0) 12 i12 i13 i14 i15 (fun _ => 0) (fun _ => 0) (fun _ => 0) 0 (-1) (fun _ => 0) 0 (fun _ => 0) (fun _ => 0) (fun _ => 0) (fun _ => 0) (fun _ => 0) i28 i29 j30 j31 j32 i33 r34 100 (fun _ => 0) (fun _ => 0) (fun _ => 0) (fun _ => 0) r40 i41)[i]?))) (va_runS (As := [.int z]) (rest := []) ⟨hx, hb, hml, hown, hts⟩ (c_X7_isSheet l dC dI k T z _ ) (va_cwS 1 hts gX7_get_X7_isSheet rfl rfl rfl (by decide +kernel) ⟨Nat.le_of_ble_eq_true rfl, Nat.le_of_ble_eq_true rfl⟩) (zp_S hK hP hD [] rfl rfl) rfl rfl hl.1 rfl (lv_room (Nat.le_of_ble_eq_true rfl)) dX7_get_1 ⟨Nat.le_of_ble_eq_true rfl, Nat.le_of_ble_eq_true rfl⟩) hP hD hS hA [] [0, 1, 2, 3, 4, 5, 6, 7, 8, 9, 10, 11, 12, 13, 14, 15, 16, 17, 18, 19, 20, 21, 22, 23, 24] rfl rfl (by decide) (by decide) (fun r_1 u_2 H locs w_3 hP hD hS => ?_)
  have hP : va_P (dC, dI) vwCl (zM k q j0 j1 (fun _ => 0) (fun _ => 0) r4 (fun _ => 0) r6 (fun _ => 0) (fun _ => 0) (fun _ => 0) (fun _ => 0) 12 i12 i13 i14 i15 (fun _ => 0) (fun _ => 0) (fun _ => 0) 0 (-1) (fun _ => 0) 0 (fun _ => 0) (fun _ => 0) (fun _ => 0) (fun _ => 0) (fun _ => 0) i28 i29 j30 j31 j32 i33 r34 100 (fun _ => 0) (fun _ => 0) (fun _ => 0) (fun _ => 0) r40 i41) H := hP.sub [0, 1, 2, 3, 4, 5, 6, 7, 8, 9, 10, 11, 12, 13, 14, 15, 16, 17, 18, 19, 20, 21, 22, 23, 24] rfl
  have hD : va_D A (zM k q j0 j1 (fun _ => 0) (fun _ => 0) r4 (fun _ => 0) r6 (fun _ => 0) (fun _ => 0) (fun _ => 0) (fun _ => 0) 12 i12 i13 i14 i15 (fun _ => 0) (fun _ => 0) (fun _ => 0) 0 (-1) (fun _ => 0) 0 (fun _ => 0) (fun _ => 0) (fun _ => 0) (fun _ => 0) (fun _ => 0) i28 i29 j30 j31 j32 i33 r34 100 (fun _ => 0) (fun _ => 0) (fun _ => 0) (fun _ => 0) r40 i41) := hD.sub [0, 1, 2, 3, 4, 5, 6, 7, 8, 9, 10, 11, 12, 13, 14, 15, 16, 17, 18, 19, 20, 21, 22, 23, 24] (by decide) rfl
  rcases w_3 with ⟨e_5, h_4⟩ | ⟨e_7, h_6⟩
  · skip
    replace e_5 : r_1 = 1 := e_5
    subst e_5
    replace h_4 : 0 ≤ z ∧ z ≤ 3 := h_4
    refine lv_if_eq (tgt := 16) hx hb dX7_get_4 (by decide) (fun c_8 => ?_) (fun c_8 => ?_)
    · skip
      exact absurd c_8 (by decide)
    · skip
      refine lv_iload_n hx hb dX7_get_7 rfl (lv_at hl 2 rfl) ?_
      refine lv_iconst (v := 0) hx hb dX7_get_8 (by decide) ?_
      refine lv_iconst (v := 2) hx hb dX7_get_9 (by decide) ?_
      refine zc_i (w := (zM k q j0 j1 (fun _ => 0) (fun _ => 0) r4 (fun _ => 0) r6 (fun _ => 0) (fun _ => 0) (fun _ => 0) (fun _ => 0) 12 i12 i13 i14 i15 (fun _ => 0) (fun _ => 0) (fun _ => 0) 0 (-1) (fun _ => 0) 0 (fun _ => 0) (fun _ => 0) (fun _ => 0) (fun _ => 0) (fun _ => 0) i28 i29 j30 j31 j32 i33 r34 100 (fun _ => 0) (fun _ => 0) (fun _ => 0) (fun _ => 0) r40 i41)) (wc := []) (wr := ([0, 1, 2, 3, 4, 5, 6, 7, 8, 9, 10, 11, 12, 13, 14, 15, 16, 17, 18, 19, 20, 21, 22, 23, 24].filterMap (fun i => (zM k q j0 j1 (fun _ => 0) (fun _ => 0) r4 (fun _ => 0) r6 (fun _ => 0) (fun _ => 0) (fun _ => 0) (fun _ => 0) 12 i12 i13 i14 i15 (fun _ => 0) (fun _ => 0) (fun _ => 0) 0 (-1) (fun _ => 0) 0 (fun _ => 0) (fun _ => 0) (fun _ => 0) (fun _ => 0) (fun _ => 0) i28 i29 j30 j31 j32 i33 r34 100 (fun _ => 0) (fun _ => 0) (fun _ => 0) (fun _ => 0) r40 i41)[i]?))) (va_runS (As := [.int t, .int 0, .int 2]) (rest := []) ⟨hx, hb, hml, hown, hts⟩ (c_X7_in l dC dI k T t 0 2 _ ) (va_cwS 3 hts gX7_get_X7_in rfl rfl rfl (by decide +kernel) ⟨Nat.le_of_ble_eq_true rfl, Nat.le_of_ble_eq_true rfl⟩) (zp_S hK hP hD [] rfl rfl) rfl rfl hl.1 rfl (lv_room (Nat.le_of_ble_eq_true rfl)) dX7_get_10 ⟨Nat.le_of_ble_eq_true rfl, Nat.le_of_ble_eq_true rfl⟩) hP hD hS hA [] [0, 1, 2, 3, 4, 5, 6, 7, 8, 9, 10, 11, 12, 13, 14, 15, 16, 17, 18, 19, 20, 21, 22, 23, 24] rfl rfl (by decide) (by decide) (fun r_9 u_10 H locs w_11 hP hD hS => ?_)
      have hP : va_P (dC, dI) vwCl (zM k q j0 j1 (fun _ => 0) (fun _ => 0) r4 (fun _ => 0) r6 (fun _ => 0) (fun _ => 0) (fun _ => 0) (fun _ => 0) 12 i12 i13 i14 i15 (fun _ => 0) (fun _ => 0) (fun _ => 0) 0 (-1) (fun _ => 0) 0 (fun _ => 0) (fun _ => 0) (fun _ => 0) (fun _ => 0) (fun _ => 0) i28 i29 j30 j31 j32 i33 r34 100 (fun _ => 0) (fun _ => 0) (fun _ => 0) (fun _ => 0) r40 i41) H := hP.sub [0, 1, 2, 3, 4, 5, 6, 7, 8, 9, 10, 11, 12, 13, 14, 15, 16, 17, 18, 19, 20, 21, 22, 23, 24] rfl
      have hD : va_D A (zM k q j0 j1 (fun _ => 0) (fun _ => 0) r4 (fun _ => 0) r6 (fun _ => 0) (fun _ => 0) (fun _ => 0) (fun _ => 0) 12 i12 i13 i14 i15 (fun _ => 0) (fun _ => 0) (fun _ => 0) 0 (-1) (fun _ => 0) 0 (fun _ => 0) (fun _ => 0) (fun _ => 0) (fun _ => 0) (fun _ => 0) i28 i29 j30 j31 j32 i33 r34 100 (fun _ => 0) (fun _ => 0) (fun _ => 0) (fun _ => 0) r40 i41) := hD.sub [0, 1, 2, 3, 4, 5, 6, 7, 8, 9, 10, 11, 12, 13, 14, 15, 16, 17, 18, 19, 20, 21, 22, 23, 24] (by decide) rfl
      rcases w_11 with ⟨e_13, h_12⟩ | ⟨e_15, h_14⟩
      · skip
        replace e_13 : r_9 = 1 := e_13
        subst e_13
        replace h_12 : 0 ≤ t ∧ t ≤ 2 := h_12
        refine lv_if_ne (tgt := 20) hx hb dX7_get_13 (by decide) (fun c_16 => ?_) (fun c_16 => ?_)
        · skip
          refine lv_aload_n hx hb dX7_get_20 rfl (lv_at hl 0 rfl) ?_
          refine lv_iload_n hx hb dX7_get_21 rfl (lv_at hl 1 rfl) ?_
          refine lv_iload_n hx hb dX7_get_22 rfl (lv_at hl 2 rfl) ?_
          refine lv_iload_n hx hb dX7_get_23 rfl (lv_at hl 3 rfl) ?_
          refine zc_i (w := (zM k q j0 j1 (fun _ => 0) (fun _ => 0) r4 (fun _ => 0) r6 (fun _ => 0) (fun _ => 0) (fun _ => 0) (fun _ => 0) 12 i12 i13 i14 i15 (fun _ => 0) (fun _ => 0) (fun _ => 0) 0 (-1) (fun _ => 0) 0 (fun _ => 0) (fun _ => 0) (fun _ => 0) (fun _ => 0) (fun _ => 0) i28 i29 j30 j31 j32 i33 r34 100 (fun _ => 0) (fun _ => 0) (fun _ => 0) (fun _ => 0) r40 i41)) (wc := (zM k q j0 j1 (fun _ => 0) (fun _ => 0) r4 (fun _ => 0) r6 (fun _ => 0) (fun _ => 0) (fun _ => 0) (fun _ => 0) 12 i12 i13 i14 i15 (fun _ => 0) (fun _ => 0) (fun _ => 0) 0 (-1) (fun _ => 0) 0 (fun _ => 0) (fun _ => 0) (fun _ => 0) (fun _ => 0) (fun _ => 0) i28 i29 j30 j31 j32 i33 r34 100 (fun _ => 0) (fun _ => 0) (fun _ => 0) (fun _ => 0) r40 i41)) (wr := []) (va_runV (As := [.int z, .int t, .int i]) (rest := []) ⟨hx, hb, hml, hown, hts⟩ (c_X7_lacks l dC dI k T q j0 j1 r4 r6 i12 i13 i14 i15 i28 i29 j30 j31 j32 i33 r34 r40 i41 z t i _ (by assumption)) (cwV 3 hts gX7_get_X7_lacks rfl rfl rfl (by decide +kernel) ⟨Nat.le_of_ble_eq_true rfl, Nat.le_of_ble_eq_true rfl⟩) (zp_V (ci := 7) (q0 := 0) hK hP hD [0, 1, 2, 3, 4, 5, 6, 7, 8, 9, 10, 11, 12, 13, 14, 15, 16, 17, 18, 19, 20, 21, 22, 23, 24] rfl rfl rfl rfl) rfl rfl hl.1 rfl (lv_room (Nat.le_of_ble_eq_true rfl)) dX7_get_24 ⟨Nat.le_of_ble_eq_true rfl, Nat.le_of_ble_eq_true rfl⟩) hP hD hS hA [0, 1, 2, 3, 4, 5, 6, 7, 8, 9, 10, 11, 12, 13, 14, 15, 16, 17, 18, 19, 20, 21, 22, 23, 24] [] rfl rfl (by decide) (by decide) (fun r_17 u_18 H locs w_19 hP hD hS => ?_)
          have hP : va_P (dC, dI) vwCl (zM k q j0 j1 (fun _ => 0) (fun _ => 0) r4 (fun _ => 0) r6 (fun _ => 0) (fun _ => 0) (fun _ => 0) (fun _ => 0) 12 i12 i13 i14 i15 (fun _ => 0) (fun _ => 0) (fun _ => 0) 0 (-1) (fun _ => 0) 0 (fun _ => 0) (fun _ => 0) (fun _ => 0) (fun _ => 0) (fun _ => 0) i28 i29 j30 j31 j32 i33 r34 100 (fun _ => 0) (fun _ => 0) (fun _ => 0) (fun _ => 0) r40 i41) H := hP.sub [0, 1, 2, 3, 4, 5, 6, 7, 8, 9, 10, 11, 12, 13, 14, 15, 16, 17, 18, 19, 20, 21, 22, 23, 24] rfl
          have hD : va_D A (zM k q j0 j1 (fun _ => 0) (fun _ => 0) r4 (fun _ => 0) r6 (fun _ => 0) (fun _ => 0) (fun _ => 0) (fun _ => 0) 12 i12 i13 i14 i15 (fun _ => 0) (fun _ => 0) (fun _ => 0) 0 (-1) (fun _ => 0) 0 (fun _ => 0) (fun _ => 0) (fun _ => 0) (fun _ => 0) (fun _ => 0) i28 i29 j30 j31 j32 i33 r34 100 (fun _ => 0) (fun _ => 0) (fun _ => 0) (fun _ => 0) r40 i41) := hD.sub [0, 1, 2, 3, 4, 5, 6, 7, 8, 9, 10, 11, 12, 13, 14, 15, 16, 17, 18, 19, 20, 21, 22, 23, 24] (by decide) rfl
          have e_20 := w_19
          replace e_20 : r_17 = 1 := e_20
          subst e_20
          refine lv_istore (lv' := [(4, .int 1), (0, .ref (q 0)), (1, .int z), (2, .int t), (3, .int i)]) hx hb dX7_get_27 hl (by decide) rfl (fun ls hl => ?_)
          refine lv_iload hx hb dX7_get_29 (lv_at hl 0 rfl) ?_
          refine lv_if_le (tgt := 44) hx hb dX7_get_31 (by decide) (fun c_21 => ?_) (fun c_21 => ?_)
          · skip
            exact absurd c_21 (by decide)
          · skip
            refine lv_aload_n hx hb dX7_get_34 rfl (lv_at hl 1 rfl) ?_
            refine lv_iload hx hb dX7_get_35 (lv_at hl 0 rfl) ?_
            refine va_put (D := (dC, dI)) (ci := 7) (v := .int 1) (ty := .int) (C := RX7) (T := TX7) (N := 42) hx hb hts hi7 tyX7 tyX7_ok nmX7 hown hK.1 hP hD hS 0 rfl rfl 41 (by decide) (hts (.fieldLink RX7 291 "SecretLotsModel" "finding" "I") (by decide +kernel)) (fun _ h9 => h9) rfl (by decide +kernel) rfl rfl (Nat.le_of_ble_eq_true rfl) dX7_get_37 (fun H locs hP hD hS => ?_)
            have hP : va_P (dC, dI) vwCl (zM k q j0 j1 (fun _ => 0) (fun _ => 0) r4 (fun _ => 0) r6 (fun _ => 0) (fun _ => 0) (fun _ => 0) (fun _ => 0) 12 i12 i13 i14 i15 (fun _ => 0) (fun _ => 0) (fun _ => 0) 0 (-1) (fun _ => 0) 0 (fun _ => 0) (fun _ => 0) (fun _ => 0) (fun _ => 0) (fun _ => 0) i28 i29 j30 j31 j32 i33 r34 100 (fun _ => 0) (fun _ => 0) (fun _ => 0) (fun _ => 0) r40 1) H := hP
            have hD : va_D A (zM k q j0 j1 (fun _ => 0) (fun _ => 0) r4 (fun _ => 0) r6 (fun _ => 0) (fun _ => 0) (fun _ => 0) (fun _ => 0) 12 i12 i13 i14 i15 (fun _ => 0) (fun _ => 0) (fun _ => 0) 0 (-1) (fun _ => 0) 0 (fun _ => 0) (fun _ => 0) (fun _ => 0) (fun _ => 0) (fun _ => 0) i28 i29 j30 j31 j32 i33 r34 100 (fun _ => 0) (fun _ => 0) (fun _ => 0) (fun _ => 0) r40 1) := hD
            refine lv_ldcw (v := (-2147483648)) hx hb hown (hts (.constant RX7 301 (-2147483648)) (by decide +kernel)) dX7_get_40 ?_
            exact W.iret (v := (-2147483648)) hx hb hr (fun t ht hW => ⟨⟨(-2147483648), (1), rfl, (by first | assumption | with_reducible rfl | exact (if_pos (by repeat' (first | assumption | decide | constructor))).symm | exact (if_neg (fun hh => absurd hh (by assumption))).symm | exact (if_neg (fun hh => absurd hh.1 (by assumption))).symm | exact (if_neg (fun hh => absurd hh.2 (by assumption))).symm | exact (if_neg (fun hh => absurd hh.1.1 (by assumption))).symm | exact (if_neg (fun hh => absurd hh.1.2 (by assumption))).symm | exact (if_neg (fun hh => absurd hh.2.1 (by assumption))).symm | exact (if_neg (fun hh => absurd hh.2.2 (by assumption))).symm | exact (if_neg (fun hh => absurd hh.2.2.1 (by assumption))).symm | exact (if_neg (fun hh => absurd hh.2.2.2 (by assumption))).symm | decide | (exfalso; simp only [zi_le, zi_lt, zi_eq, zi_n0, zi_n1, zi_n2, zi_n3, zi_n4, zi_n23, zi_n24, zi_n100, zi_n399, zi_n60, zi_n255, zi_n99, zi_nm1, zi_n30] at *; omega) | (simp_all; done)), ⟨by rw [ht]; exact hP, hD⟩⟩, hS.F ht⟩) hS.2.2 dX7_get_43
        · skip
          exact absurd c_16 (by decide)
      · skip
        replace e_15 : r_9 = 0 := e_15
        subst e_15
        replace h_14 : ¬ (0 ≤ t ∧ t ≤ 2) := h_14
        refine lv_if_ne (tgt := 20) hx hb dX7_get_13 (by decide) (fun c_22 => ?_) (fun c_22 => ?_)
        · skip
          exact absurd c_22 (by decide)
        · skip
          refine lv_ldcw (v := (-2147483648)) hx hb hown (hts (.constant RX7 301 (-2147483648)) (by decide +kernel)) dX7_get_16 ?_
          exact W.iret (v := (-2147483648)) hx hb hr (fun t ht hW => ⟨⟨(-2147483648), (i41), rfl, (by first | assumption | with_reducible rfl | exact (if_pos (by repeat' (first | assumption | decide | constructor))).symm | exact (if_neg (fun hh => absurd hh (by assumption))).symm | exact (if_neg (fun hh => absurd hh.1 (by assumption))).symm | exact (if_neg (fun hh => absurd hh.2 (by assumption))).symm | exact (if_neg (fun hh => absurd hh.1.1 (by assumption))).symm | exact (if_neg (fun hh => absurd hh.1.2 (by assumption))).symm | exact (if_neg (fun hh => absurd hh.2.1 (by assumption))).symm | exact (if_neg (fun hh => absurd hh.2.2 (by assumption))).symm | exact (if_neg (fun hh => absurd hh.2.2.1 (by assumption))).symm | exact (if_neg (fun hh => absurd hh.2.2.2 (by assumption))).symm | decide | (exfalso; simp only [zi_le, zi_lt, zi_eq, zi_n0, zi_n1, zi_n2, zi_n3, zi_n4, zi_n23, zi_n24, zi_n100, zi_n399, zi_n60, zi_n255, zi_n99, zi_nm1, zi_n30] at *; omega) | (simp_all; done)), ⟨by rw [ht]; exact hP, hD⟩⟩, hS.F ht⟩) hS.2.2 dX7_get_19
  · skip
    replace e_7 : r_1 = 0 := e_7
    subst e_7
    replace h_6 : ¬ (0 ≤ z ∧ z ≤ 3) := h_6
    refine lv_if_eq (tgt := 16) hx hb dX7_get_4 (by decide) (fun c_23 => ?_) (fun c_23 => ?_)
    · skip
      refine lv_ldcw (v := (-2147483648)) hx hb hown (hts (.constant RX7 301 (-2147483648)) (by decide +kernel)) dX7_get_16 ?_
      exact W.iret (v := (-2147483648)) hx hb hr (fun t ht hW => ⟨⟨(-2147483648), (i41), rfl, (by first | assumption | with_reducible rfl | exact (if_pos (by repeat' (first | assumption | decide | constructor))).symm | exact (if_neg (fun hh => absurd hh (by assumption))).symm | exact (if_neg (fun hh => absurd hh.1 (by assumption))).symm | exact (if_neg (fun hh => absurd hh.2 (by assumption))).symm | exact (if_neg (fun hh => absurd hh.1.1 (by assumption))).symm | exact (if_neg (fun hh => absurd hh.1.2 (by assumption))).symm | exact (if_neg (fun hh => absurd hh.2.1 (by assumption))).symm | exact (if_neg (fun hh => absurd hh.2.2 (by assumption))).symm | exact (if_neg (fun hh => absurd hh.2.2.1 (by assumption))).symm | exact (if_neg (fun hh => absurd hh.2.2.2 (by assumption))).symm | decide | (exfalso; simp only [zi_le, zi_lt, zi_eq, zi_n0, zi_n1, zi_n2, zi_n3, zi_n4, zi_n23, zi_n24, zi_n100, zi_n399, zi_n60, zi_n255, zi_n99, zi_nm1, zi_n30] at *; omega) | (simp_all; done)), ⟨by rw [ht]; exact hP, hD⟩⟩, hS.F ht⟩) hS.2.2 dX7_get_19
    · skip
      exact absurd (by decide) c_23
set_option maxHeartbeats 4000000 in
set_option maxRecDepth 100000 in
theorem c_X7_copy (l : Launch) (dC : Nat → ClassId) (dI : Nat → Nat → Nat) (k : Nat → ClassId) (T : List (ClassId × FieldType)) (q : Nat → Nat) (j0 : Int64) (j1 : Int64) (r4 : Nat → Int32) (r6 : Nat → Int32) (i12 : Int32) (i13 : Int32) (i14 : Int32) (i15 : Int32) (i28 : Int32) (i29 : Int32) (j30 : Int64) (j31 : Int64) (j32 : Int64) (i33 : Int32) (r34 : Nat → Int32) (r40 : Nat → Int32) (i41 : Int32) (z : Int32) (i : Int32) (z2 : Int32) (j : Int32) (n : Int32) (sz : Nat)  : Met l yX7_copy wsX7_copy ({ frames := 2, cells := 0, slots := 0, locals := 42 }) (va_Pc [.ref (q 0), .int z, .int i, .int z2, .int j, .int n] (zPre dC dI k T (zM k q j0 j1 (fun _ => 0) (fun _ => 0) r4 (fun _ => 0) r6 (fun _ => 0) (fun _ => 0) (fun _ => 0) (fun _ => 0) 12 i12 i13 i14 i15 (fun _ => 0) (fun _ => 0) (fun _ => 0) 0 (-1) (fun _ => 0) 0 (fun _ => 0) (fun _ => 0) (fun _ => 0) (fun _ => 0) (fun _ => 0) i28 i29 j30 j31 j32 i33 r34 100 (fun _ => 0) (fun _ => 0) (fun _ => 0) (fun _ => 0) r40 i41) sz)) (va_Qi (fun (r : Int32) (u : Int32) => (r = if (0 ≤ z ∧ z ≤ 3) ∧ (0 ≤ z2 ∧ z2 ≤ 3) then (-11) else (-2))) (fun u t => zPost dC dI (va_A (zM k q j0 j1 (fun _ => 0) (fun _ => 0) r4 (fun _ => 0) r6 (fun _ => 0) (fun _ => 0) (fun _ => 0) (fun _ => 0) 12 i12 i13 i14 i15 (fun _ => 0) (fun _ => 0) (fun _ => 0) 0 (-1) (fun _ => 0) 0 (fun _ => 0) (fun _ => 0) (fun _ => 0) (fun _ => 0) (fun _ => 0) i28 i29 j30 j31 j32 i33 r34 100 (fun _ => 0) (fun _ => 0) (fun _ => 0) (fun _ => 0) r40 i41) sz) (zM k q j0 j1 (fun _ => 0) (fun _ => 0) r4 (fun _ => 0) r6 (fun _ => 0) (fun _ => 0) (fun _ => 0) (fun _ => 0) 12 i12 i13 i14 i15 (fun _ => 0) (fun _ => 0) (fun _ => 0) 0 (-1) (fun _ => 0) 0 (fun _ => 0) (fun _ => 0) (fun _ => 0) (fun _ => 0) (fun _ => 0) i28 i29 j30 j31 j32 i33 r34 100 (fun _ => 0) (fun _ => 0) (fun _ => 0) (fun _ => 0) r40 u) t) (va_A (zM k q j0 j1 (fun _ => 0) (fun _ => 0) r4 (fun _ => 0) r6 (fun _ => 0) (fun _ => 0) (fun _ => 0) (fun _ => 0) 12 i12 i13 i14 i15 (fun _ => 0) (fun _ => 0) (fun _ => 0) 0 (-1) (fun _ => 0) 0 (fun _ => 0) (fun _ => 0) (fun _ => 0) (fun _ => 0) (fun _ => 0) i28 i29 j30 j31 j32 i33 r34 100 (fun _ => 0) (fun _ => 0) (fun _ => 0) (fun _ => 0) r40 i41) sz)) 0 0 (va_A (zM k q j0 j1 (fun _ => 0) (fun _ => 0) r4 (fun _ => 0) r6 (fun _ => 0) (fun _ => 0) (fun _ => 0) (fun _ => 0) 12 i12 i13 i14 i15 (fun _ => 0) (fun _ => 0) (fun _ => 0) 0 (-1) (fun _ => 0) 0 (fun _ => 0) (fun _ => 0) (fun _ => 0) (fun _ => 0) (fun _ => 0) i28 i29 j30 j31 j32 i33 r34 100 (fun _ => 0) (fun _ => 0) (fun _ => 0) (fun _ => 0) r40 i41) sz) := by
  refine Met.ofW (cc := cX7_copy) (maxL := 7) (ret := (some .int)) (by decide) rfl ?_
  intro p e s m args below meth c s₁ B hml hv
  obtain ⟨rfl, hsz, hP, hK, hD0⟩ := hv
  have hx := B.exec
  have hb := B.bytes
  have hr := B.returns
  have hts := atoms_spec (ws := wsX7_copy) B.pre
  have hown : s.vm.findClass RX7 = some m.cls := findClass_of_methodNamed B.named
  have hlocks := B.notSynchronized
  subst hsz
  have hi7 : ∀ w ∈ u_ws RX7 TX7 42, w ∈ wsX7_copy := by decide +kernel
  have hD := hD0.self (sz := s.heap.size)
  generalize hAe : va_A (zM k q j0 j1 (fun _ => 0) (fun _ => 0) r4 (fun _ => 0) r6 (fun _ => 0) (fun _ => 0) (fun _ => 0) (fun _ => 0) 12 i12 i13 i14 i15 (fun _ => 0) (fun _ => 0) (fun _ => 0) 0 (-1) (fun _ => 0) 0 (fun _ => 0) (fun _ => 0) (fun _ => 0) (fun _ => 0) (fun _ => 0) i28 i29 j30 j31 j32 i33 r34 100 (fun _ => 0) (fun _ => 0) (fun _ => 0) (fun _ => 0) r40 i41) s.heap.size = A at hD ⊢
  have hA : ∀ q : Nat, s.heap.size ≤ q → A q := fun q h => by rw [← hAe]; exact Or.inr h
  have hl := lv_entry ([.ref (q 0), .int z, .int i, .int z2, .int j, .int n]) (n := 7) (Nat.le_of_ble_eq_true rfl)
  rw [lg_entry_eq]
  generalize (lg_sl ([.ref (q 0), .int z, .int i, .int z2, .int j, .int n]) ++ List.replicate (7 - (lg_sl ([.ref (q 0), .int z, .int i, .int z2, .int j, .int n])).length) Slot.unset).toArray = ls at hl ⊢
  have hl : lv_has ls 7 [(0, .ref (q 0)), (1, .int z), (2, .int i), (3, .int z2), (4, .int j), (5, .int n)] := hl
  refine z_start (w := (zM k q j0 j1 (fun _ => 0) (fun _ => 0) r4 (fun _ => 0) r6 (fun _ => 0) (fun _ => 0) (fun _ => 0) (fun _ => 0) 12 i12 i13 i14 i15 (fun _ => 0) (fun _ => 0) (fun _ => 0) 0 (-1) (fun _ => 0) 0 (fun _ => 0) (fun _ => 0) (fun _ => 0) (fun _ => 0) (fun _ => 0) i28 i29 j30 j31 j32 i33 r34 100 (fun _ => 0) (fun _ => 0) (fun _ => 0) (fun _ => 0) r40 i41)) hP hD (fun H locs hP hD hS => ?_)
  refine lv_iload_n hx hb dX7_copy_0 rfl (lv_at hl 1 rfl) ?_
  refine zc_i (w := (zM k q j0 j1 (fun _ => 0) (fun _ => 0) r4 (fun _ => 0) r6 (fun _ => 0) (fun _ => 0) (fun _ => 0) (fun _ => 0) 12 i12 i13 i14 i15 (fun _ => 0) (fun _ => 0) (fun _ => 0) 0 (-1) (fun _ => 0) 0 (fun _ => 0) (fun _ => 0) (fun _ => 0) (fun _ => 0) (fun _ => 0) i28 i29 j30 j31 j32 i33 r34 100 (fun _ => 0) (fun _ => 0) (fun _ => 0) (fun _ => 0) r40 i41)) (wc := []) (wr := ([0, 1, 2, 3, 4, 5, 6, 7, 8, 9, 10, 11, 12, 13, 14, 15, 16, 17, 18, 19, 20, 21, 22, 23, 24].filterMap (fun i => (zM k q j0 j1 (fun _ => 0) (fun _ => 0) r4 (fun _ => 0) r6 (fun _ => 0) (fun _ => 0) (fun _ => 0) (fun _ => 0) 12 i12 i13 i14 i15 (fun _ => 0) (fun _ => 0) (fun _ => 0) 0 (-1) (fun _ => 0) 0 (fun _ => 0) (fun _ => 0) (fun _ => 0) (fun _ => 0) (fun _ => 0) i28 i29 j30 j31 j32 i33 r34 100 (fun _ => 0) (fun _ => 0) (fun _ => 0) (fun _ => 0) r40 i41)[i]?))) (va_runS (As := [.int z]) (rest := []) ⟨hx, hb, hml, hown, hts⟩ (c_X7_isSheet l dC dI k T z _ ) (va_cwS 1 hts gX7_copy_X7_isSheet rfl rfl rfl (by decide +kernel) ⟨Nat.le_of_ble_eq_true rfl, Nat.le_of_ble_eq_true rfl⟩) (zp_S hK hP hD [] rfl rfl) rfl rfl hl.1 rfl (lv_room (Nat.le_of_ble_eq_true rfl)) dX7_copy_1 ⟨Nat.le_of_ble_eq_true rfl, Nat.le_of_ble_eq_true rfl⟩) hP hD hS hA [] [0, 1, 2, 3, 4, 5, 6, 7, 8, 9, 10, 11, 12, 13, 14, 15, 16, 17, 18, 19, 20, 21, 22, 23, 24] rfl rfl (by decide) (by decide) (fun r_1 u_2 H locs w_3 hP hD hS => ?_)
  have hP : va_P (dC, dI) vwCl (zM k q j0 j1 (fun _ => 0) (fun _ => 0) r4 (fun _ => 0) r6 (fun _ => 0) (fun _ => 0) (fun _ => 0) (fun _ => 0) 12 i12 i13 i14 i15 (fun _ => 0) (fun _ => 0) (fun _ => 0) 0 (-1) (fun _ => 0) 0 (fun _ => 0) (fun _ => 0) (fun _ => 0) (fun _ => 0) (fun _ => 0) i28 i29 j30 j31 j32 i33 r34 100 (fun _ => 0) (fun _ => 0) (fun _ => 0) (fun _ => 0) r40 i41) H := hP.sub [0, 1, 2, 3, 4, 5, 6, 7, 8, 9, 10, 11, 12, 13, 14, 15, 16, 17, 18, 19, 20, 21, 22, 23, 24] rfl
  have hD : va_D A (zM k q j0 j1 (fun _ => 0) (fun _ => 0) r4 (fun _ => 0) r6 (fun _ => 0) (fun _ => 0) (fun _ => 0) (fun _ => 0) 12 i12 i13 i14 i15 (fun _ => 0) (fun _ => 0) (fun _ => 0) 0 (-1) (fun _ => 0) 0 (fun _ => 0) (fun _ => 0) (fun _ => 0) (fun _ => 0) (fun _ => 0) i28 i29 j30 j31 j32 i33 r34 100 (fun _ => 0) (fun _ => 0) (fun _ => 0) (fun _ => 0) r40 i41) := hD.sub [0, 1, 2, 3, 4, 5, 6, 7, 8, 9, 10, 11, 12, 13, 14, 15, 16, 17, 18, 19, 20, 21, 22, 23, 24] (by decide) rfl
  rcases w_3 with ⟨e_5, h_4⟩ | ⟨e_7, h_6⟩
  · skip
    replace e_5 : r_1 = 1 := e_5
    subst e_5
    replace h_4 : 0 ≤ z ∧ z ≤ 3 := h_4
    refine lv_if_eq (tgt := 14) hx hb dX7_copy_4 (by decide) (fun c_8 => ?_) (fun c_8 => ?_)
    · skip
      exact absurd c_8 (by decide)
    · skip
      refine lv_iload_n hx hb dX7_copy_7 rfl (lv_at hl 3 rfl) ?_
      refine zc_i (w := (zM k q j0 j1 (fun _ => 0) (fun _ => 0) r4 (fun _ => 0) r6 (fun _ => 0) (fun _ => 0) (fun _ => 0) (fun _ => 0) 12 i12 i13 i14 i15 (fun _ => 0) (fun _ => 0) (fun _ => 0) 0 (-1) (fun _ => 0) 0 (fun _ => 0) (fun _ => 0) (fun _ => 0) (fun _ => 0) (fun _ => 0) i28 i29 j30 j31 j32 i33 r34 100 (fun _ => 0) (fun _ => 0) (fun _ => 0) (fun _ => 0) r40 i41)) (wc := []) (wr := ([0, 1, 2, 3, 4, 5, 6, 7, 8, 9, 10, 11, 12, 13, 14, 15, 16, 17, 18, 19, 20, 21, 22, 23, 24].filterMap (fun i => (zM k q j0 j1 (fun _ => 0) (fun _ => 0) r4 (fun _ => 0) r6 (fun _ => 0) (fun _ => 0) (fun _ => 0) (fun _ => 0) 12 i12 i13 i14 i15 (fun _ => 0) (fun _ => 0) (fun _ => 0) 0 (-1) (fun _ => 0) 0 (fun _ => 0) (fun _ => 0) (fun _ => 0) (fun _ => 0) (fun _ => 0) i28 i29 j30 j31 j32 i33 r34 100 (fun _ => 0) (fun _ => 0) (fun _ => 0) (fun _ => 0) r40 i41)[i]?))) (va_runS (As := [.int z2]) (rest := []) ⟨hx, hb, hml, hown, hts⟩ (c_X7_isSheet l dC dI k T z2 _ ) (va_cwS 1 hts gX7_copy_X7_isSheet rfl rfl rfl (by decide +kernel) ⟨Nat.le_of_ble_eq_true rfl, Nat.le_of_ble_eq_true rfl⟩) (zp_S hK hP hD [] rfl rfl) rfl rfl hl.1 rfl (lv_room (Nat.le_of_ble_eq_true rfl)) dX7_copy_8 ⟨Nat.le_of_ble_eq_true rfl, Nat.le_of_ble_eq_true rfl⟩) hP hD hS hA [] [0, 1, 2, 3, 4, 5, 6, 7, 8, 9, 10, 11, 12, 13, 14, 15, 16, 17, 18, 19, 20, 21, 22, 23, 24] rfl rfl (by decide) (by decide) (fun r_9 u_10 H locs w_11 hP hD hS => ?_)
      have hP : va_P (dC, dI) vwCl (zM k q j0 j1 (fun _ => 0) (fun _ => 0) r4 (fun _ => 0) r6 (fun _ => 0) (fun _ => 0) (fun _ => 0) (fun _ => 0) 12 i12 i13 i14 i15 (fun _ => 0) (fun _ => 0) (fun _ => 0) 0 (-1) (fun _ => 0) 0 (fun _ => 0) (fun _ => 0) (fun _ => 0) (fun _ => 0) (fun _ => 0) i28 i29 j30 j31 j32 i33 r34 100 (fun _ => 0) (fun _ => 0) (fun _ => 0) (fun _ => 0) r40 i41) H := hP.sub [0, 1, 2, 3, 4, 5, 6, 7, 8, 9, 10, 11, 12, 13, 14, 15, 16, 17, 18, 19, 20, 21, 22, 23, 24] rfl
      have hD : va_D A (zM k q j0 j1 (fun _ => 0) (fun _ => 0) r4 (fun _ => 0) r6 (fun _ => 0) (fun _ => 0) (fun _ => 0) (fun _ => 0) 12 i12 i13 i14 i15 (fun _ => 0) (fun _ => 0) (fun _ => 0) 0 (-1) (fun _ => 0) 0 (fun _ => 0) (fun _ => 0) (fun _ => 0) (fun _ => 0) (fun _ => 0) i28 i29 j30 j31 j32 i33 r34 100 (fun _ => 0) (fun _ => 0) (fun _ => 0) (fun _ => 0) r40 i41) := hD.sub [0, 1, 2, 3, 4, 5, 6, 7, 8, 9, 10, 11, 12, 13, 14, 15, 16, 17, 18, 19, 20, 21, 22, 23, 24] (by decide) rfl
      rcases w_11 with ⟨e_13, h_12⟩ | ⟨e_15, h_14⟩
      · skip
        replace e_13 : r_9 = 1 := e_13
        subst e_13
        replace h_12 : 0 ≤ z2 ∧ z2 ≤ 3 := h_12
        refine lv_if_ne (tgt := 17) hx hb dX7_copy_11 (by decide) (fun c_16 => ?_) (fun c_16 => ?_)
        · skip
          refine lv_aload_n hx hb dX7_copy_17 rfl (lv_at hl 0 rfl) ?_
          refine va_get (D := (dC, dI)) (ci := 7) (v := .ref (q 36)) (C := RX7) (T := TX7) (N := 42) hx hb hts hi7 hown hK.1 hP 0 rfl rfl 36 (by decide) (hts (.fieldLink RX7 82 "SecretLotsModel" "isThere" "[Z") (by decide +kernel)) (fun _ h9 => h9) rfl dX7_copy_18 ?_
          refine lv_iload_n hx hb dX7_copy_21 rfl (lv_at hl 1 rfl) ?_
          refine va_zald (D := (dC, dI)) hx hb hK.1 hP 20 2 rfl rfl (by first | exact zin4 (by assumption) | exact zin24 (by assumption)) dX7_copy_22 ?_
          refine z_top (v2 := .int 0) (rfl) ?_
          refine lv_if_eq (tgt := 35) hx hb dX7_copy_23 (by decide) (fun c_17 => ?_) (fun c_17 => ?_)
          · skip
            refine lv_aload_n hx hb dX7_copy_35 rfl (lv_at hl 0 rfl) ?_
            refine lv_iconst (v := 1) hx hb dX7_copy_36 (by decide) ?_
            refine zc_i (w := (zM k q j0 j1 (fun _ => 0) (fun _ => 0) r4 (fun _ => 0) r6 (fun _ => 0) (fun _ => 0) (fun _ => 0) (fun _ => 0) 12 i12 i13 i14 i15 (fun _ => 0) (fun _ => 0) (fun _ => 0) 0 (-1) (fun _ => 0) 0 (fun _ => 0) (fun _ => 0) (fun _ => 0) (fun _ => 0) (fun _ => 0) i28 i29 j30 j31 j32 i33 r34 100 (fun _ => 0) (fun _ => 0) (fun _ => 0) (fun _ => 0) r40 i41)) (wc := (zM k q j0 j1 (fun _ => 0) (fun _ => 0) r4 (fun _ => 0) r6 (fun _ => 0) (fun _ => 0) (fun _ => 0) (fun _ => 0) 12 i12 i13 i14 i15 (fun _ => 0) (fun _ => 0) (fun _ => 0) 0 (-1) (fun _ => 0) 0 (fun _ => 0) (fun _ => 0) (fun _ => 0) (fun _ => 0) (fun _ => 0) i28 i29 j30 j31 j32 i33 r34 100 (fun _ => 0) (fun _ => 0) (fun _ => 0) (fun _ => 0) r40 i41)) (wr := []) (va_runV (As := [.int 1]) (rest := []) ⟨hx, hb, hml, hown, hts⟩ (c_X7_meets_1 l dC dI k T q j0 j1 r4 r6 i12 i13 i14 i15 i28 i29 j30 j31 j32 i33 r34 r40 i41 _ ) (cwV 1 hts gX7_copy_X7_meets rfl rfl rfl (by decide +kernel) ⟨Nat.le_of_ble_eq_true rfl, Nat.le_of_ble_eq_true rfl⟩) (zp_V (ci := 7) (q0 := 0) hK hP hD [0, 1, 2, 3, 4, 5, 6, 7, 8, 9, 10, 11, 12, 13, 14, 15, 16, 17, 18, 19, 20, 21, 22, 23, 24] rfl rfl rfl rfl) rfl rfl hl.1 rfl (lv_room (Nat.le_of_ble_eq_true rfl)) dX7_copy_37 ⟨Nat.le_of_ble_eq_true rfl, Nat.le_of_ble_eq_true rfl⟩) hP hD hS hA [0, 1, 2, 3, 4, 5, 6, 7, 8, 9, 10, 11, 12, 13, 14, 15, 16, 17, 18, 19, 20, 21, 22, 23, 24] [] rfl rfl (by decide) (by decide) (fun r_18 u_19 H locs w_20 hP hD hS => ?_)
            obtain ⟨oi41_21, rfl⟩ : ∃ z, z = u_19 := ⟨_, rfl⟩
            have hP : va_P (dC, dI) vwCl (zM k q j0 j1 (fun _ => 0) (fun _ => 0) r4 (fun _ => 0) r6 (fun _ => 0) (fun _ => 0) (fun _ => 0) (fun _ => 0) 12 i12 i13 i14 i15 (fun _ => 0) (fun _ => 0) (fun _ => 0) 0 (-1) (fun _ => 0) 0 (fun _ => 0) (fun _ => 0) (fun _ => 0) (fun _ => 0) (fun _ => 0) i28 i29 j30 j31 j32 i33 r34 100 (fun _ => 0) (fun _ => 0) (fun _ => 0) (fun _ => 0) r40 oi41_21) H := hP.sub [0, 1, 2, 3, 4, 5, 6, 7, 8, 9, 10, 11, 12, 13, 14, 15, 16, 17, 18, 19, 20, 21, 22, 23, 24] rfl
            have hD : va_D A (zM k q j0 j1 (fun _ => 0) (fun _ => 0) r4 (fun _ => 0) r6 (fun _ => 0) (fun _ => 0) (fun _ => 0) (fun _ => 0) 12 i12 i13 i14 i15 (fun _ => 0) (fun _ => 0) (fun _ => 0) 0 (-1) (fun _ => 0) 0 (fun _ => 0) (fun _ => 0) (fun _ => 0) (fun _ => 0) (fun _ => 0) i28 i29 j30 j31 j32 i33 r34 100 (fun _ => 0) (fun _ => 0) (fun _ => 0) (fun _ => 0) r40 oi41_21) := hD.sub [0, 1, 2, 3, 4, 5, 6, 7, 8, 9, 10, 11, 12, 13, 14, 15, 16, 17, 18, 19, 20, 21, 22, 23, 24] (by decide) rfl
            have e_22 := w_20
            replace e_22 : r_18 = (-11) := e_22
            subst e_22
            exact W.iret (v := (-11)) hx hb hr (fun t ht hW => ⟨⟨(-11), (oi41_21), rfl, (by first | assumption | with_reducible rfl | exact (if_pos (by repeat' (first | assumption | decide | constructor))).symm | exact (if_neg (fun hh => absurd hh (by assumption))).symm | exact (if_neg (fun hh => absurd hh.1 (by assumption))).symm | exact (if_neg (fun hh => absurd hh.2 (by assumption))).symm | exact (if_neg (fun hh => absurd hh.1.1 (by assumption))).symm | exact (if_neg (fun hh => absurd hh.1.2 (by assumption))).symm | exact (if_neg (fun hh => absurd hh.2.1 (by assumption))).symm | exact (if_neg (fun hh => absurd hh.2.2 (by assumption))).symm | exact (if_neg (fun hh => absurd hh.2.2.1 (by assumption))).symm | exact (if_neg (fun hh => absurd hh.2.2.2 (by assumption))).symm | decide | (exfalso; simp only [zi_le, zi_lt, zi_eq, zi_n0, zi_n1, zi_n2, zi_n3, zi_n4, zi_n23, zi_n24, zi_n100, zi_n399, zi_n60, zi_n255, zi_n99, zi_nm1, zi_n30] at *; omega) | (simp_all; done)), ⟨by rw [ht]; exact hP, hD⟩⟩, hS.F ht⟩) hS.2.2 dX7_copy_40
          · skip
            exact absurd (by decide) c_17
        · skip
          exact absurd c_16 (by decide)
      · skip
        replace e_15 : r_9 = 0 := e_15
        subst e_15
        replace h_14 : ¬ (0 ≤ z2 ∧ z2 ≤ 3) := h_14
        refine lv_if_ne (tgt := 17) hx hb dX7_copy_11 (by decide) (fun c_23 => ?_) (fun c_23 => ?_)
        · skip
          exact absurd c_23 (by decide)
        · skip
          refine lv_bipush (v := (-2)) hx hb dX7_copy_14 (by decide) ?_
          exact W.iret (v := (-2)) hx hb hr (fun t ht hW => ⟨⟨(-2), (i41), rfl, (by first | assumption | with_reducible rfl | exact (if_pos (by repeat' (first | assumption | decide | constructor))).symm | exact (if_neg (fun hh => absurd hh (by assumption))).symm | exact (if_neg (fun hh => absurd hh.1 (by assumption))).symm | exact (if_neg (fun hh => absurd hh.2 (by assumption))).symm | exact (if_neg (fun hh => absurd hh.1.1 (by assumption))).symm | exact (if_neg (fun hh => absurd hh.1.2 (by assumption))).symm | exact (if_neg (fun hh => absurd hh.2.1 (by assumption))).symm | exact (if_neg (fun hh => absurd hh.2.2 (by assumption))).symm | exact (if_neg (fun hh => absurd hh.2.2.1 (by assumption))).symm | exact (if_neg (fun hh => absurd hh.2.2.2 (by assumption))).symm | decide | (exfalso; simp only [zi_le, zi_lt, zi_eq, zi_n0, zi_n1, zi_n2, zi_n3, zi_n4, zi_n23, zi_n24, zi_n100, zi_n399, zi_n60, zi_n255, zi_n99, zi_nm1, zi_n30] at *; omega) | (simp_all; done)), ⟨by rw [ht]; exact hP, hD⟩⟩, hS.F ht⟩) hS.2.2 dX7_copy_16
  · skip
    replace e_7 : r_1 = 0 := e_7
    subst e_7
    replace h_6 : ¬ (0 ≤ z ∧ z ≤ 3) := h_6
    refine lv_if_eq (tgt := 14) hx hb dX7_copy_4 (by decide) (fun c_24 => ?_) (fun c_24 => ?_)
    · skip
      refine lv_bipush (v := (-2)) hx hb dX7_copy_14 (by decide) ?_
      exact W.iret (v := (-2)) hx hb hr (fun t ht hW => ⟨⟨(-2), (i41), rfl, (by first | assumption | with_reducible rfl | exact (if_pos (by repeat' (first | assumption | decide | constructor))).symm | exact (if_neg (fun hh => absurd hh (by assumption))).symm | exact (if_neg (fun hh => absurd hh.1 (by assumption))).symm | exact (if_neg (fun hh => absurd hh.2 (by assumption))).symm | exact (if_neg (fun hh => absurd hh.1.1 (by assumption))).symm | exact (if_neg (fun hh => absurd hh.1.2 (by assumption))).symm | exact (if_neg (fun hh => absurd hh.2.1 (by assumption))).symm | exact (if_neg (fun hh => absurd hh.2.2 (by assumption))).symm | exact (if_neg (fun hh => absurd hh.2.2.1 (by assumption))).symm | exact (if_neg (fun hh => absurd hh.2.2.2 (by assumption))).symm | decide | (exfalso; simp only [zi_le, zi_lt, zi_eq, zi_n0, zi_n1, zi_n2, zi_n3, zi_n4, zi_n23, zi_n24, zi_n100, zi_n399, zi_n60, zi_n255, zi_n99, zi_nm1, zi_n30] at *; omega) | (simp_all; done)), ⟨by rw [ht]; exact hP, hD⟩⟩, hS.F ht⟩) hS.2.2 dX7_copy_16
    · skip
      exact absurd (by decide) c_24
set_option maxHeartbeats 4000000 in
set_option maxRecDepth 100000 in
theorem c_X7_write (l : Launch) (dC : Nat → ClassId) (dI : Nat → Nat → Nat) (k : Nat → ClassId) (T : List (ClassId × FieldType)) (q : Nat → Nat) (j0 : Int64) (j1 : Int64) (r4 : Nat → Int32) (r6 : Nat → Int32) (i12 : Int32) (i13 : Int32) (i14 : Int32) (i15 : Int32) (i28 : Int32) (i29 : Int32) (j30 : Int64) (j31 : Int64) (j32 : Int64) (i33 : Int32) (r34 : Nat → Int32) (r40 : Nat → Int32) (i41 : Int32) (d : Int32) (z : Int32) (sz : Nat)  : Met l yX7_write wsX7_write ({ frames := 2, cells := 0, slots := 0, locals := 42 }) (va_Pc [.ref (q 0), .int d, .int z] (zPre dC dI k T (zM k q j0 j1 (fun _ => 0) (fun _ => 0) r4 (fun _ => 0) r6 (fun _ => 0) (fun _ => 0) (fun _ => 0) (fun _ => 0) 12 i12 i13 i14 i15 (fun _ => 0) (fun _ => 0) (fun _ => 0) 0 (-1) (fun _ => 0) 0 (fun _ => 0) (fun _ => 0) (fun _ => 0) (fun _ => 0) (fun _ => 0) i28 i29 j30 j31 j32 i33 r34 100 (fun _ => 0) (fun _ => 0) (fun _ => 0) (fun _ => 0) r40 i41) sz)) (va_Qi (fun (r : Int32) (u : Int32) => (r = if (0 ≤ d ∧ d ≤ 3) ∧ (0 ≤ z ∧ z ≤ 3) then (-11) else (-2))) (fun u t => zPost dC dI (va_A (zM k q j0 j1 (fun _ => 0) (fun _ => 0) r4 (fun _ => 0) r6 (fun _ => 0) (fun _ => 0) (fun _ => 0) (fun _ => 0) 12 i12 i13 i14 i15 (fun _ => 0) (fun _ => 0) (fun _ => 0) 0 (-1) (fun _ => 0) 0 (fun _ => 0) (fun _ => 0) (fun _ => 0) (fun _ => 0) (fun _ => 0) i28 i29 j30 j31 j32 i33 r34 100 (fun _ => 0) (fun _ => 0) (fun _ => 0) (fun _ => 0) r40 i41) sz) (zM k q j0 j1 (fun _ => 0) (fun _ => 0) r4 (fun _ => 0) r6 (fun _ => 0) (fun _ => 0) (fun _ => 0) (fun _ => 0) 12 i12 i13 i14 i15 (fun _ => 0) (fun _ => 0) (fun _ => 0) 0 (-1) (fun _ => 0) 0 (fun _ => 0) (fun _ => 0) (fun _ => 0) (fun _ => 0) (fun _ => 0) i28 i29 j30 j31 j32 i33 r34 100 (fun _ => 0) (fun _ => 0) (fun _ => 0) (fun _ => 0) r40 u) t) (va_A (zM k q j0 j1 (fun _ => 0) (fun _ => 0) r4 (fun _ => 0) r6 (fun _ => 0) (fun _ => 0) (fun _ => 0) (fun _ => 0) 12 i12 i13 i14 i15 (fun _ => 0) (fun _ => 0) (fun _ => 0) 0 (-1) (fun _ => 0) 0 (fun _ => 0) (fun _ => 0) (fun _ => 0) (fun _ => 0) (fun _ => 0) i28 i29 j30 j31 j32 i33 r34 100 (fun _ => 0) (fun _ => 0) (fun _ => 0) (fun _ => 0) r40 i41) sz)) 0 0 (va_A (zM k q j0 j1 (fun _ => 0) (fun _ => 0) r4 (fun _ => 0) r6 (fun _ => 0) (fun _ => 0) (fun _ => 0) (fun _ => 0) 12 i12 i13 i14 i15 (fun _ => 0) (fun _ => 0) (fun _ => 0) 0 (-1) (fun _ => 0) 0 (fun _ => 0) (fun _ => 0) (fun _ => 0) (fun _ => 0) (fun _ => 0) i28 i29 j30 j31 j32 i33 r34 100 (fun _ => 0) (fun _ => 0) (fun _ => 0) (fun _ => 0) r40 i41) sz) := by
  refine Met.ofW (cc := cX7_write) (maxL := 4) (ret := (some .int)) (by decide) rfl ?_
  intro p e s m args below meth c s₁ B hml hv
  obtain ⟨rfl, hsz, hP, hK, hD0⟩ := hv
  have hx := B.exec
  have hb := B.bytes
  have hr := B.returns
  have hts := atoms_spec (ws := wsX7_write) B.pre
  have hown : s.vm.findClass RX7 = some m.cls := findClass_of_methodNamed B.named
  have hlocks := B.notSynchronized
  subst hsz
  have hi7 : ∀ w ∈ u_ws RX7 TX7 42, w ∈ wsX7_write := by decide +kernel
  have hD := hD0.self (sz := s.heap.size)
  generalize hAe : va_A (zM k q j0 j1 (fun _ => 0) (fun _ => 0) r4 (fun _ => 0) r6 (fun _ => 0) (fun _ => 0) (fun _ => 0) (fun _ => 0) 12 i12 i13 i14 i15 (fun _ => 0) (fun _ => 0) (fun _ => 0) 0 (-1) (fun _ => 0) 0 (fun _ => 0) (fun _ => 0) (fun _ => 0) (fun _ => 0) (fun _ => 0) i28 i29 j30 j31 j32 i33 r34 100 (fun _ => 0) (fun _ => 0) (fun _ => 0) (fun _ => 0) r40 i41) s.heap.size = A at hD ⊢
  have hA : ∀ q : Nat, s.heap.size ≤ q → A q := fun q h => by rw [← hAe]; exact Or.inr h
  have hl := lv_entry ([.ref (q 0), .int d, .int z]) (n := 4) (Nat.le_of_ble_eq_true rfl)
  rw [lg_entry_eq]
  generalize (lg_sl ([.ref (q 0), .int d, .int z]) ++ List.replicate (4 - (lg_sl ([.ref (q 0), .int d, .int z])).length) Slot.unset).toArray = ls at hl ⊢
  have hl : lv_has ls 4 [(0, .ref (q 0)), (1, .int d), (2, .int z)] := hl
  refine z_start (w := (zM k q j0 j1 (fun _ => 0) (fun _ => 0) r4 (fun _ => 0) r6 (fun _ => 0) (fun _ => 0) (fun _ => 0) (fun _ => 0) 12 i12 i13 i14 i15 (fun _ => 0) (fun _ => 0) (fun _ => 0) 0 (-1) (fun _ => 0) 0 (fun _ => 0) (fun _ => 0) (fun _ => 0) (fun _ => 0) (fun _ => 0) i28 i29 j30 j31 j32 i33 r34 100 (fun _ => 0) (fun _ => 0) (fun _ => 0) (fun _ => 0) r40 i41)) hP hD (fun H locs hP hD hS => ?_)
  refine lv_iload_n hx hb dX7_write_0 rfl (lv_at hl 1 rfl) ?_
  refine zc_i (w := (zM k q j0 j1 (fun _ => 0) (fun _ => 0) r4 (fun _ => 0) r6 (fun _ => 0) (fun _ => 0) (fun _ => 0) (fun _ => 0) 12 i12 i13 i14 i15 (fun _ => 0) (fun _ => 0) (fun _ => 0) 0 (-1) (fun _ => 0) 0 (fun _ => 0) (fun _ => 0) (fun _ => 0) (fun _ => 0) (fun _ => 0) i28 i29 j30 j31 j32 i33 r34 100 (fun _ => 0) (fun _ => 0) (fun _ => 0) (fun _ => 0) r40 i41)) (wc := []) (wr := ([0, 1, 2, 3, 4, 5, 6, 7, 8, 9, 10, 11, 12, 13, 14, 15, 16, 17, 18, 19, 20, 21, 22, 23, 24].filterMap (fun i => (zM k q j0 j1 (fun _ => 0) (fun _ => 0) r4 (fun _ => 0) r6 (fun _ => 0) (fun _ => 0) (fun _ => 0) (fun _ => 0) 12 i12 i13 i14 i15 (fun _ => 0) (fun _ => 0) (fun _ => 0) 0 (-1) (fun _ => 0) 0 (fun _ => 0) (fun _ => 0) (fun _ => 0) (fun _ => 0) (fun _ => 0) i28 i29 j30 j31 j32 i33 r34 100 (fun _ => 0) (fun _ => 0) (fun _ => 0) (fun _ => 0) r40 i41)[i]?))) (va_runS (As := [.int d]) (rest := []) ⟨hx, hb, hml, hown, hts⟩ (c_X7_isDesign l dC dI k T d _ ) (va_cwS 1 hts gX7_write_X7_isDesign rfl rfl rfl (by decide +kernel) ⟨Nat.le_of_ble_eq_true rfl, Nat.le_of_ble_eq_true rfl⟩) (zp_S hK hP hD [] rfl rfl) rfl rfl hl.1 rfl (lv_room (Nat.le_of_ble_eq_true rfl)) dX7_write_1 ⟨Nat.le_of_ble_eq_true rfl, Nat.le_of_ble_eq_true rfl⟩) hP hD hS hA [] [0, 1, 2, 3, 4, 5, 6, 7, 8, 9, 10, 11, 12, 13, 14, 15, 16, 17, 18, 19, 20, 21, 22, 23, 24] rfl rfl (by decide) (by decide) (fun r_1 u_2 H locs w_3 hP hD hS => ?_)
  have hP : va_P (dC, dI) vwCl (zM k q j0 j1 (fun _ => 0) (fun _ => 0) r4 (fun _ => 0) r6 (fun _ => 0) (fun _ => 0) (fun _ => 0) (fun _ => 0) 12 i12 i13 i14 i15 (fun _ => 0) (fun _ => 0) (fun _ => 0) 0 (-1) (fun _ => 0) 0 (fun _ => 0) (fun _ => 0) (fun _ => 0) (fun _ => 0) (fun _ => 0) i28 i29 j30 j31 j32 i33 r34 100 (fun _ => 0) (fun _ => 0) (fun _ => 0) (fun _ => 0) r40 i41) H := hP.sub [0, 1, 2, 3, 4, 5, 6, 7, 8, 9, 10, 11, 12, 13, 14, 15, 16, 17, 18, 19, 20, 21, 22, 23, 24] rfl
  have hD : va_D A (zM k q j0 j1 (fun _ => 0) (fun _ => 0) r4 (fun _ => 0) r6 (fun _ => 0) (fun _ => 0) (fun _ => 0) (fun _ => 0) 12 i12 i13 i14 i15 (fun _ => 0) (fun _ => 0) (fun _ => 0) 0 (-1) (fun _ => 0) 0 (fun _ => 0) (fun _ => 0) (fun _ => 0) (fun _ => 0) (fun _ => 0) i28 i29 j30 j31 j32 i33 r34 100 (fun _ => 0) (fun _ => 0) (fun _ => 0) (fun _ => 0) r40 i41) := hD.sub [0, 1, 2, 3, 4, 5, 6, 7, 8, 9, 10, 11, 12, 13, 14, 15, 16, 17, 18, 19, 20, 21, 22, 23, 24] (by decide) rfl
  rcases w_3 with ⟨e_5, h_4⟩ | ⟨e_7, h_6⟩
  · skip
    replace e_5 : r_1 = 1 := e_5
    subst e_5
    replace h_4 : 0 ≤ d ∧ d ≤ 3 := h_4
    refine lv_if_eq (tgt := 14) hx hb dX7_write_4 (by decide) (fun c_8 => ?_) (fun c_8 => ?_)
    · skip
      exact absurd c_8 (by decide)
    · skip
      refine lv_iload_n hx hb dX7_write_7 rfl (lv_at hl 2 rfl) ?_
      refine zc_i (w := (zM k q j0 j1 (fun _ => 0) (fun _ => 0) r4 (fun _ => 0) r6 (fun _ => 0) (fun _ => 0) (fun _ => 0) (fun _ => 0) 12 i12 i13 i14 i15 (fun _ => 0) (fun _ => 0) (fun _ => 0) 0 (-1) (fun _ => 0) 0 (fun _ => 0) (fun _ => 0) (fun _ => 0) (fun _ => 0) (fun _ => 0) i28 i29 j30 j31 j32 i33 r34 100 (fun _ => 0) (fun _ => 0) (fun _ => 0) (fun _ => 0) r40 i41)) (wc := []) (wr := ([0, 1, 2, 3, 4, 5, 6, 7, 8, 9, 10, 11, 12, 13, 14, 15, 16, 17, 18, 19, 20, 21, 22, 23, 24].filterMap (fun i => (zM k q j0 j1 (fun _ => 0) (fun _ => 0) r4 (fun _ => 0) r6 (fun _ => 0) (fun _ => 0) (fun _ => 0) (fun _ => 0) 12 i12 i13 i14 i15 (fun _ => 0) (fun _ => 0) (fun _ => 0) 0 (-1) (fun _ => 0) 0 (fun _ => 0) (fun _ => 0) (fun _ => 0) (fun _ => 0) (fun _ => 0) i28 i29 j30 j31 j32 i33 r34 100 (fun _ => 0) (fun _ => 0) (fun _ => 0) (fun _ => 0) r40 i41)[i]?))) (va_runS (As := [.int z]) (rest := []) ⟨hx, hb, hml, hown, hts⟩ (c_X7_isSheet l dC dI k T z _ ) (va_cwS 1 hts gX7_write_X7_isSheet rfl rfl rfl (by decide +kernel) ⟨Nat.le_of_ble_eq_true rfl, Nat.le_of_ble_eq_true rfl⟩) (zp_S hK hP hD [] rfl rfl) rfl rfl hl.1 rfl (lv_room (Nat.le_of_ble_eq_true rfl)) dX7_write_8 ⟨Nat.le_of_ble_eq_true rfl, Nat.le_of_ble_eq_true rfl⟩) hP hD hS hA [] [0, 1, 2, 3, 4, 5, 6, 7, 8, 9, 10, 11, 12, 13, 14, 15, 16, 17, 18, 19, 20, 21, 22, 23, 24] rfl rfl (by decide) (by decide) (fun r_9 u_10 H locs w_11 hP hD hS => ?_)
      have hP : va_P (dC, dI) vwCl (zM k q j0 j1 (fun _ => 0) (fun _ => 0) r4 (fun _ => 0) r6 (fun _ => 0) (fun _ => 0) (fun _ => 0) (fun _ => 0) 12 i12 i13 i14 i15 (fun _ => 0) (fun _ => 0) (fun _ => 0) 0 (-1) (fun _ => 0) 0 (fun _ => 0) (fun _ => 0) (fun _ => 0) (fun _ => 0) (fun _ => 0) i28 i29 j30 j31 j32 i33 r34 100 (fun _ => 0) (fun _ => 0) (fun _ => 0) (fun _ => 0) r40 i41) H := hP.sub [0, 1, 2, 3, 4, 5, 6, 7, 8, 9, 10, 11, 12, 13, 14, 15, 16, 17, 18, 19, 20, 21, 22, 23, 24] rfl
      have hD : va_D A (zM k q j0 j1 (fun _ => 0) (fun _ => 0) r4 (fun _ => 0) r6 (fun _ => 0) (fun _ => 0) (fun _ => 0) (fun _ => 0) 12 i12 i13 i14 i15 (fun _ => 0) (fun _ => 0) (fun _ => 0) 0 (-1) (fun _ => 0) 0 (fun _ => 0) (fun _ => 0) (fun _ => 0) (fun _ => 0) (fun _ => 0) i28 i29 j30 j31 j32 i33 r34 100 (fun _ => 0) (fun _ => 0) (fun _ => 0) (fun _ => 0) r40 i41) := hD.sub [0, 1, 2, 3, 4, 5, 6, 7, 8, 9, 10, 11, 12, 13, 14, 15, 16, 17, 18, 19, 20, 21, 22, 23, 24] (by decide) rfl
      rcases w_11 with ⟨e_13, h_12⟩ | ⟨e_15, h_14⟩
      · skip
        replace e_13 : r_9 = 1 := e_13
        subst e_13
        replace h_12 : 0 ≤ z ∧ z ≤ 3 := h_12
        refine lv_if_ne (tgt := 17) hx hb dX7_write_11 (by decide) (fun c_16 => ?_) (fun c_16 => ?_)
        · skip
          refine lv_aload_n hx hb dX7_write_17 rfl (lv_at hl 0 rfl) ?_
          refine va_get (D := (dC, dI)) (ci := 7) (v := .ref (q 36)) (C := RX7) (T := TX7) (N := 42) hx hb hts hi7 hown hK.1 hP 0 rfl rfl 36 (by decide) (hts (.fieldLink RX7 82 "SecretLotsModel" "isThere" "[Z") (by decide +kernel)) (fun _ h9 => h9) rfl dX7_write_18 ?_
          refine lv_iload_n hx hb dX7_write_21 rfl (lv_at hl 2 rfl) ?_
          refine va_zald (D := (dC, dI)) hx hb hK.1 hP 20 2 rfl rfl (by first | exact zin4 (by assumption) | exact zin24 (by assumption)) dX7_write_22 ?_
          refine z_top (v2 := .int 0) (rfl) ?_
          refine lv_if_ne (tgt := 32) hx hb dX7_write_23 (by decide) (fun c_17 => ?_) (fun c_17 => ?_)
          · skip
            exact absurd c_17 (by decide)
          · skip
            refine lv_aload_n hx hb dX7_write_26 rfl (lv_at hl 0 rfl) ?_
            refine lv_iconst (v := 1) hx hb dX7_write_27 (by decide) ?_
            refine zc_i (w := (zM k q j0 j1 (fun _ => 0) (fun _ => 0) r4 (fun _ => 0) r6 (fun _ => 0) (fun _ => 0) (fun _ => 0) (fun _ => 0) 12 i12 i13 i14 i15 (fun _ => 0) (fun _ => 0) (fun _ => 0) 0 (-1) (fun _ => 0) 0 (fun _ => 0) (fun _ => 0) (fun _ => 0) (fun _ => 0) (fun _ => 0) i28 i29 j30 j31 j32 i33 r34 100 (fun _ => 0) (fun _ => 0) (fun _ => 0) (fun _ => 0) r40 i41)) (wc := (zM k q j0 j1 (fun _ => 0) (fun _ => 0) r4 (fun _ => 0) r6 (fun _ => 0) (fun _ => 0) (fun _ => 0) (fun _ => 0) 12 i12 i13 i14 i15 (fun _ => 0) (fun _ => 0) (fun _ => 0) 0 (-1) (fun _ => 0) 0 (fun _ => 0) (fun _ => 0) (fun _ => 0) (fun _ => 0) (fun _ => 0) i28 i29 j30 j31 j32 i33 r34 100 (fun _ => 0) (fun _ => 0) (fun _ => 0) (fun _ => 0) r40 i41)) (wr := []) (va_runV (As := [.int 1]) (rest := []) ⟨hx, hb, hml, hown, hts⟩ (c_X7_meets_1 l dC dI k T q j0 j1 r4 r6 i12 i13 i14 i15 i28 i29 j30 j31 j32 i33 r34 r40 i41 _ ) (cwV 1 hts gX7_write_X7_meets rfl rfl rfl (by decide +kernel) ⟨Nat.le_of_ble_eq_true rfl, Nat.le_of_ble_eq_true rfl⟩) (zp_V (ci := 7) (q0 := 0) hK hP hD [0, 1, 2, 3, 4, 5, 6, 7, 8, 9, 10, 11, 12, 13, 14, 15, 16, 17, 18, 19, 20, 21, 22, 23, 24] rfl rfl rfl rfl) rfl rfl hl.1 rfl (lv_room (Nat.le_of_ble_eq_true rfl)) dX7_write_28 ⟨Nat.le_of_ble_eq_true rfl, Nat.le_of_ble_eq_true rfl⟩) hP hD hS hA [0, 1, 2, 3, 4, 5, 6, 7, 8, 9, 10, 11, 12, 13, 14, 15, 16, 17, 18, 19, 20, 21, 22, 23, 24] [] rfl rfl (by decide) (by decide) (fun r_18 u_19 H locs w_20 hP hD hS => ?_)
            obtain ⟨oi41_21, rfl⟩ : ∃ z, z = u_19 := ⟨_, rfl⟩
            have hP : va_P (dC, dI) vwCl (zM k q j0 j1 (fun _ => 0) (fun _ => 0) r4 (fun _ => 0) r6 (fun _ => 0) (fun _ => 0) (fun _ => 0) (fun _ => 0) 12 i12 i13 i14 i15 (fun _ => 0) (fun _ => 0) (fun _ => 0) 0 (-1) (fun _ => 0) 0 (fun _ => 0) (fun _ => 0) (fun _ => 0) (fun _ => 0) (fun _ => 0) i28 i29 j30 j31 j32 i33 r34 100 (fun _ => 0) (fun _ => 0) (fun _ => 0) (fun _ => 0) r40 oi41_21) H := hP.sub [0, 1, 2, 3, 4, 5, 6, 7, 8, 9, 10, 11, 12, 13, 14, 15, 16, 17, 18, 19, 20, 21, 22, 23, 24] rfl
            have hD : va_D A (zM k q j0 j1 (fun _ => 0) (fun _ => 0) r4 (fun _ => 0) r6 (fun _ => 0) (fun _ => 0) (fun _ => 0) (fun _ => 0) 12 i12 i13 i14 i15 (fun _ => 0) (fun _ => 0) (fun _ => 0) 0 (-1) (fun _ => 0) 0 (fun _ => 0) (fun _ => 0) (fun _ => 0) (fun _ => 0) (fun _ => 0) i28 i29 j30 j31 j32 i33 r34 100 (fun _ => 0) (fun _ => 0) (fun _ => 0) (fun _ => 0) r40 oi41_21) := hD.sub [0, 1, 2, 3, 4, 5, 6, 7, 8, 9, 10, 11, 12, 13, 14, 15, 16, 17, 18, 19, 20, 21, 22, 23, 24] (by decide) rfl
            have e_22 := w_20
            replace e_22 : r_18 = (-11) := e_22
            subst e_22
            exact W.iret (v := (-11)) hx hb hr (fun t ht hW => ⟨⟨(-11), (oi41_21), rfl, (by first | assumption | with_reducible rfl | exact (if_pos (by repeat' (first | assumption | decide | constructor))).symm | exact (if_neg (fun hh => absurd hh (by assumption))).symm | exact (if_neg (fun hh => absurd hh.1 (by assumption))).symm | exact (if_neg (fun hh => absurd hh.2 (by assumption))).symm | exact (if_neg (fun hh => absurd hh.1.1 (by assumption))).symm | exact (if_neg (fun hh => absurd hh.1.2 (by assumption))).symm | exact (if_neg (fun hh => absurd hh.2.1 (by assumption))).symm | exact (if_neg (fun hh => absurd hh.2.2 (by assumption))).symm | exact (if_neg (fun hh => absurd hh.2.2.1 (by assumption))).symm | exact (if_neg (fun hh => absurd hh.2.2.2 (by assumption))).symm | decide | (exfalso; simp only [zi_le, zi_lt, zi_eq, zi_n0, zi_n1, zi_n2, zi_n3, zi_n4, zi_n23, zi_n24, zi_n100, zi_n399, zi_n60, zi_n255, zi_n99, zi_nm1, zi_n30] at *; omega) | (simp_all; done)), ⟨by rw [ht]; exact hP, hD⟩⟩, hS.F ht⟩) hS.2.2 dX7_write_31
        · skip
          exact absurd c_16 (by decide)
      · skip
        replace e_15 : r_9 = 0 := e_15
        subst e_15
        replace h_14 : ¬ (0 ≤ z ∧ z ≤ 3) := h_14
        refine lv_if_ne (tgt := 17) hx hb dX7_write_11 (by decide) (fun c_23 => ?_) (fun c_23 => ?_)
        · skip
          exact absurd c_23 (by decide)
        · skip
          refine lv_bipush (v := (-2)) hx hb dX7_write_14 (by decide) ?_
          exact W.iret (v := (-2)) hx hb hr (fun t ht hW => ⟨⟨(-2), (i41), rfl, (by first | assumption | with_reducible rfl | exact (if_pos (by repeat' (first | assumption | decide | constructor))).symm | exact (if_neg (fun hh => absurd hh (by assumption))).symm | exact (if_neg (fun hh => absurd hh.1 (by assumption))).symm | exact (if_neg (fun hh => absurd hh.2 (by assumption))).symm | exact (if_neg (fun hh => absurd hh.1.1 (by assumption))).symm | exact (if_neg (fun hh => absurd hh.1.2 (by assumption))).symm | exact (if_neg (fun hh => absurd hh.2.1 (by assumption))).symm | exact (if_neg (fun hh => absurd hh.2.2 (by assumption))).symm | exact (if_neg (fun hh => absurd hh.2.2.1 (by assumption))).symm | exact (if_neg (fun hh => absurd hh.2.2.2 (by assumption))).symm | decide | (exfalso; simp only [zi_le, zi_lt, zi_eq, zi_n0, zi_n1, zi_n2, zi_n3, zi_n4, zi_n23, zi_n24, zi_n100, zi_n399, zi_n60, zi_n255, zi_n99, zi_nm1, zi_n30] at *; omega) | (simp_all; done)), ⟨by rw [ht]; exact hP, hD⟩⟩, hS.F ht⟩) hS.2.2 dX7_write_16
  · skip
    replace e_7 : r_1 = 0 := e_7
    subst e_7
    replace h_6 : ¬ (0 ≤ d ∧ d ≤ 3) := h_6
    refine lv_if_eq (tgt := 14) hx hb dX7_write_4 (by decide) (fun c_24 => ?_) (fun c_24 => ?_)
    · skip
      refine lv_bipush (v := (-2)) hx hb dX7_write_14 (by decide) ?_
      exact W.iret (v := (-2)) hx hb hr (fun t ht hW => ⟨⟨(-2), (i41), rfl, (by first | assumption | with_reducible rfl | exact (if_pos (by repeat' (first | assumption | decide | constructor))).symm | exact (if_neg (fun hh => absurd hh (by assumption))).symm | exact (if_neg (fun hh => absurd hh.1 (by assumption))).symm | exact (if_neg (fun hh => absurd hh.2 (by assumption))).symm | exact (if_neg (fun hh => absurd hh.1.1 (by assumption))).symm | exact (if_neg (fun hh => absurd hh.1.2 (by assumption))).symm | exact (if_neg (fun hh => absurd hh.2.1 (by assumption))).symm | exact (if_neg (fun hh => absurd hh.2.2 (by assumption))).symm | exact (if_neg (fun hh => absurd hh.2.2.1 (by assumption))).symm | exact (if_neg (fun hh => absurd hh.2.2.2 (by assumption))).symm | decide | (exfalso; simp only [zi_le, zi_lt, zi_eq, zi_n0, zi_n1, zi_n2, zi_n3, zi_n4, zi_n23, zi_n24, zi_n100, zi_n399, zi_n60, zi_n255, zi_n99, zi_nm1, zi_n30] at *; omega) | (simp_all; done)), ⟨by rw [ht]; exact hP, hD⟩⟩, hS.F ht⟩) hS.2.2 dX7_write_16
    · skip
      exact absurd (by decide) c_24
