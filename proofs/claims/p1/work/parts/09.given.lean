set_option maxHeartbeats 4000000 in
set_option maxRecDepth 100000 in
theorem c_X7_type (l : Launch) (dC : Nat → ClassId) (dI : Nat → Nat → Nat) (k : Nat → ClassId) (T : List (ClassId × FieldType)) (q : Nat → Nat) (j0 : Int64) (j1 : Int64) (r4 : Nat → Int32) (r6 : Nat → Int32) (i12 : Int32) (i13 : Int32) (i14 : Int32) (i15 : Int32) (i28 : Int32) (i29 : Int32) (j30 : Int64) (j31 : Int64) (j32 : Int64) (i33 : Int32) (r34 : Nat → Int32) (r40 : Nat → Int32) (i41 : Int32) (d : Int32) (b : Int32) (sz : Nat)  : Met l yX7_type (wz yX7_type cX7_type 3 (some .int)) ({ frames := 2, cells := 0, slots := 0, locals := 42 }) (va_Pc [.ref (q 0), .int d, .int b] (zPre dC dI k T (zM k q j0 j1 (fun _ => 0) (fun _ => 0) r4 (fun _ => 0) r6 (fun _ => 0) (fun _ => 0) (fun _ => 0) (fun _ => 0) 12 i12 i13 i14 i15 (fun _ => 0) (fun _ => 0) (fun _ => 0) 0 (-1) (fun _ => 0) 0 (fun _ => 0) (fun _ => 0) (fun _ => 0) (fun _ => 0) (fun _ => 0) i28 i29 j30 j31 j32 i33 r34 100 (fun _ => 0) (fun _ => 0) (fun _ => 0) (fun _ => 0) r40 i41) sz)) (va_Qi (fun (r : Int32) (u : (Nat → Int32) × (Nat → Int32) × (Nat → Int32)) => (r = if (0 ≤ (d : Int32) ∧ (d : Int32) ≤ 3) ∧ (0 ≤ (b : Int32) ∧ (b : Int32) ≤ 255) then 1 else (-2))) (fun u t => zPost dC dI (va_A (zM k q j0 j1 (fun _ => 0) (fun _ => 0) r4 (fun _ => 0) r6 (fun _ => 0) (fun _ => 0) (fun _ => 0) (fun _ => 0) 12 i12 i13 i14 i15 (fun _ => 0) (fun _ => 0) (fun _ => 0) 0 (-1) (fun _ => 0) 0 (fun _ => 0) (fun _ => 0) (fun _ => 0) (fun _ => 0) (fun _ => 0) i28 i29 j30 j31 j32 i33 r34 100 (fun _ => 0) (fun _ => 0) (fun _ => 0) (fun _ => 0) r40 i41) sz) (zM k q j0 j1 u.1 u.2.1 u.2.2 (fun _ => 0) r6 (fun _ => 0) (fun _ => 0) (fun _ => 0) (fun _ => 0) 12 i12 i13 i14 i15 (fun _ => 0) (fun _ => 0) (fun _ => 0) 0 (-1) (fun _ => 0) 0 (fun _ => 0) (fun _ => 0) (fun _ => 0) (fun _ => 0) (fun _ => 0) i28 i29 j30 j31 j32 i33 r34 100 (fun _ => 0) (fun _ => 0) (fun _ => 0) (fun _ => 0) r40 i41) t) (va_A (zM k q j0 j1 (fun _ => 0) (fun _ => 0) r4 (fun _ => 0) r6 (fun _ => 0) (fun _ => 0) (fun _ => 0) (fun _ => 0) 12 i12 i13 i14 i15 (fun _ => 0) (fun _ => 0) (fun _ => 0) 0 (-1) (fun _ => 0) 0 (fun _ => 0) (fun _ => 0) (fun _ => 0) (fun _ => 0) (fun _ => 0) i28 i29 j30 j31 j32 i33 r34 100 (fun _ => 0) (fun _ => 0) (fun _ => 0) (fun _ => 0) r40 i41) sz)) 0 0 (va_A (zM k q j0 j1 (fun _ => 0) (fun _ => 0) r4 (fun _ => 0) r6 (fun _ => 0) (fun _ => 0) (fun _ => 0) (fun _ => 0) 12 i12 i13 i14 i15 (fun _ => 0) (fun _ => 0) (fun _ => 0) 0 (-1) (fun _ => 0) 0 (fun _ => 0) (fun _ => 0) (fun _ => 0) (fun _ => 0) (fun _ => 0) i28 i29 j30 j31 j32 i33 r34 100 (fun _ => 0) (fun _ => 0) (fun _ => 0) (fun _ => 0) r40 i41) sz) := by
  refine Met.ofW (cc := cX7_type) (maxL := 3) (ret := (some .int)) (by decide) rfl ?_
  intro p e s m args below meth c s₁ B hml hv
  obtain ⟨rfl, hsz, hP, hK, hD0⟩ := hv
  have hx := B.exec
  have hb := B.bytes
  have hr := B.returns
  have hts : ∀ w ∈ zw, w.before _ s = true := fun w h => atoms_spec (ws := (wz yX7_type cX7_type 3 (some .int))) B.pre w (List.mem_cons_of_mem _ h)
  have hown : s.vm.findClass RX7 = some m.cls := findClass_of_methodNamed B.named
  have hlocks := B.notSynchronized
  subst hsz
  have hi7 := inw7
  have hD := hD0.self (sz := s.heap.size)
  generalize hAe : va_A (zM k q j0 j1 (fun _ => 0) (fun _ => 0) r4 (fun _ => 0) r6 (fun _ => 0) (fun _ => 0) (fun _ => 0) (fun _ => 0) 12 i12 i13 i14 i15 (fun _ => 0) (fun _ => 0) (fun _ => 0) 0 (-1) (fun _ => 0) 0 (fun _ => 0) (fun _ => 0) (fun _ => 0) (fun _ => 0) (fun _ => 0) i28 i29 j30 j31 j32 i33 r34 100 (fun _ => 0) (fun _ => 0) (fun _ => 0) (fun _ => 0) r40 i41) s.heap.size = A at hD ⊢
  have hA : ∀ q : Nat, s.heap.size ≤ q → A q := fun q h => by rw [← hAe]; exact Or.inr h
  have hl := lv_entry ([.ref (q 0), .int d, .int b]) (n := 3) (Nat.le_of_ble_eq_true rfl)
  rw [lg_entry_eq]
  generalize (lg_sl ([.ref (q 0), .int d, .int b]) ++ List.replicate (3 - (lg_sl ([.ref (q 0), .int d, .int b])).length) Slot.unset).toArray = ls at hl ⊢
  have hl : lv_has ls 3 [(0, .ref (q 0)), (1, .int d), (2, .int b)] := hl
  refine z_start (w := (zM k q j0 j1 (fun _ => 0) (fun _ => 0) r4 (fun _ => 0) r6 (fun _ => 0) (fun _ => 0) (fun _ => 0) (fun _ => 0) 12 i12 i13 i14 i15 (fun _ => 0) (fun _ => 0) (fun _ => 0) 0 (-1) (fun _ => 0) 0 (fun _ => 0) (fun _ => 0) (fun _ => 0) (fun _ => 0) (fun _ => 0) i28 i29 j30 j31 j32 i33 r34 100 (fun _ => 0) (fun _ => 0) (fun _ => 0) (fun _ => 0) r40 i41)) hP hD (fun H locs hP hD hS => ?_)
  refine lv_iload_n hx hb dX7_type_0 rfl (lv_at hl 1 rfl) ?_
  refine zc0_i (w := (zM k q j0 j1 (fun _ => 0) (fun _ => 0) r4 (fun _ => 0) r6 (fun _ => 0) (fun _ => 0) (fun _ => 0) (fun _ => 0) 12 i12 i13 i14 i15 (fun _ => 0) (fun _ => 0) (fun _ => 0) 0 (-1) (fun _ => 0) 0 (fun _ => 0) (fun _ => 0) (fun _ => 0) (fun _ => 0) (fun _ => 0) i28 i29 j30 j31 j32 i33 r34 100 (fun _ => 0) (fun _ => 0) (fun _ => 0) (fun _ => 0) r40 i41)) (va_runS (As := [.int d]) (rest := []) ⟨hx, hb, hml, hown, hts⟩ (c_X7_isDesign l dC dI k T d _ ) (va_cwS 1 hts (gzS wmt4_59 wmt4_60 wmt1_8 wmt4_61) rfl rfl rfl (by decide +kernel) ⟨Nat.le_of_ble_eq_true rfl, Nat.le_of_ble_eq_true rfl⟩) (zp0_S hK) rfl rfl hl.1 rfl (lv_room (Nat.le_of_ble_eq_true rfl)) dX7_type_1 ⟨Nat.le_of_ble_eq_true rfl, Nat.le_of_ble_eq_true rfl⟩) hP hS hA (fun r_1 u_2 H locs w_3 hP hS => ?_)
  rcases w_3 with ⟨e_5, h_4⟩ | ⟨e_7, h_6⟩
  · skip
    replace e_5 : r_1 = 1 := e_5
    subst e_5
    replace h_4 : 0 ≤ (d : Int32) ∧ (d : Int32) ≤ 3 := h_4
    rcases zi_4 h_4 with rfl | rfl | rfl | rfl
    · skip
      refine lv_if_eq (tgt := 18) hx hb dX7_type_4 (by decide) (fun c_8 => ?_) (fun c_8 => ?_)
      · skip
        exact absurd c_8 (by decide)
      · skip
        refine lv_iload_n hx hb dX7_type_7 rfl (lv_at hl 2 rfl) ?_
        refine lv_iconst (v := 0) hx hb dX7_type_8 (by decide) ?_
        refine lv_sipush (v := 255) hx hb dX7_type_9 (by decide) ?_
        refine zc0_i (w := (zM k q j0 j1 (fun _ => 0) (fun _ => 0) r4 (fun _ => 0) r6 (fun _ => 0) (fun _ => 0) (fun _ => 0) (fun _ => 0) 12 i12 i13 i14 i15 (fun _ => 0) (fun _ => 0) (fun _ => 0) 0 (-1) (fun _ => 0) 0 (fun _ => 0) (fun _ => 0) (fun _ => 0) (fun _ => 0) (fun _ => 0) i28 i29 j30 j31 j32 i33 r34 100 (fun _ => 0) (fun _ => 0) (fun _ => 0) (fun _ => 0) r40 i41)) (va_runS (As := [.int b, .int 0, .int 255]) (rest := []) ⟨hx, hb, hml, hown, hts⟩ (c_X7_in l dC dI k T b 0 255 _ ) (va_cwS 3 hts (gzS wmt4_62 wmt4_63 wmt1_8 wmt4_64) rfl rfl rfl (by decide +kernel) ⟨Nat.le_of_ble_eq_true rfl, Nat.le_of_ble_eq_true rfl⟩) (zp0_S hK) rfl rfl hl.1 rfl (lv_room (Nat.le_of_ble_eq_true rfl)) dX7_type_12 ⟨Nat.le_of_ble_eq_true rfl, Nat.le_of_ble_eq_true rfl⟩) hP hS hA (fun r_9 u_10 H locs w_11 hP hS => ?_)
        rcases w_11 with ⟨e_13, h_12⟩ | ⟨e_15, h_14⟩
        · skip
          replace e_13 : r_9 = 1 := e_13
          subst e_13
          replace h_12 : 0 ≤ b ∧ b ≤ 255 := h_12
          refine lv_if_ne (tgt := 21) hx hb dX7_type_15 (by decide) (fun c_16 => ?_) (fun c_16 => ?_)
          · skip
            refine lv_aload_n hx hb dX7_type_21 rfl (lv_at hl 0 rfl) ?_
            refine va_get (D := (dC, dI)) (ci := 7) (v := .ref (q 2)) (C := RX7) (T := TX7) (N := 42) hx hb hts hi7 hown hK.1 hP 0 rfl rfl 2 (by decide) (hts _ wmt3_169) (fun _ h9 => h9) rfl dX7_type_22 ?_
            refine lv_iload_n hx hb dX7_type_25 rfl (lv_at hl 1 rfl) ?_
            refine va_iald (D := (dC, dI)) hx hb hK.1 hP 1 0 rfl rfl (show ¬ _ by decide) dX7_type_26 ?_
            refine z_top (v2 := .int 0) (rfl) ?_
            refine lv_bipush (v := 60) hx hb dX7_type_27 (by decide) ?_
            refine lv_icmp_ne (tgt := 35) hx hb dX7_type_29 (by decide) (fun c_17 => ?_) (fun c_17 => ?_)
            · skip
              refine lv_aload_n hx hb dX7_type_35 rfl (lv_at hl 0 rfl) ?_
              refine va_get (D := (dC, dI)) (ci := 7) (v := .ref (q 3)) (C := RX7) (T := TX7) (N := 42) hx hb hts hi7 hown hK.1 hP 0 rfl rfl 3 (by decide) (hts _ wmt3_170) (fun _ h9 => h9) rfl dX7_type_36 ?_
              refine lv_bipush (v := 60) hx hb dX7_type_39 (by decide) ?_
              refine lv_iload_n hx hb dX7_type_41 rfl (lv_at hl 1 rfl) ?_
              refine lv_imul hx hb dX7_type_42 ?_
              refine z_top (v2 := .int 0) (congrArg Value.int (by decide)) ?_
              refine lv_aload_n hx hb dX7_type_43 rfl (lv_at hl 0 rfl) ?_
              refine va_get (D := (dC, dI)) (ci := 7) (v := .ref (q 2)) (C := RX7) (T := TX7) (N := 42) hx hb hts hi7 hown hK.1 hP 0 rfl rfl 2 (by decide) (hts _ wmt3_169) (fun _ h9 => h9) rfl dX7_type_44 ?_
              refine lv_iload_n hx hb dX7_type_47 rfl (lv_at hl 1 rfl) ?_
              refine va_iald (D := (dC, dI)) hx hb hK.1 hP 1 0 rfl rfl (show ¬ _ by decide) dX7_type_48 ?_
              refine z_top (v2 := .int 0) (rfl) ?_
              refine lv_iadd hx hb dX7_type_49 ?_
              refine z_top (v2 := .int 0) (congrArg Value.int (by decide)) ?_
              refine lv_iload_n hx hb dX7_type_50 rfl (lv_at hl 2 rfl) ?_
              refine va_iast (D := (dC, dI)) hx hb hK.1 hP hD hS 2 0 rfl rfl (show ¬ _ by decide) dX7_type_51 (fun H locs hP hD hS => ?_)
              have hP : va_P (dC, dI) vwCl (zM k q j0 j1 (fun _ => 0) (upd (fun _ => 0) 0 b) r4 (fun _ => 0) r6 (fun _ => 0) (fun _ => 0) (fun _ => 0) (fun _ => 0) 12 i12 i13 i14 i15 (fun _ => 0) (fun _ => 0) (fun _ => 0) 0 (-1) (fun _ => 0) 0 (fun _ => 0) (fun _ => 0) (fun _ => 0) (fun _ => 0) (fun _ => 0) i28 i29 j30 j31 j32 i33 r34 100 (fun _ => 0) (fun _ => 0) (fun _ => 0) (fun _ => 0) r40 i41) H := hP
              have hD : va_D A (zM k q j0 j1 (fun _ => 0) (upd (fun _ => 0) 0 b) r4 (fun _ => 0) r6 (fun _ => 0) (fun _ => 0) (fun _ => 0) (fun _ => 0) 12 i12 i13 i14 i15 (fun _ => 0) (fun _ => 0) (fun _ => 0) 0 (-1) (fun _ => 0) 0 (fun _ => 0) (fun _ => 0) (fun _ => 0) (fun _ => 0) (fun _ => 0) i28 i29 j30 j31 j32 i33 r34 100 (fun _ => 0) (fun _ => 0) (fun _ => 0) (fun _ => 0) r40 i41) := hD
              refine lv_aload_n hx hb dX7_type_52 rfl (lv_at hl 0 rfl) ?_
              refine va_get (D := (dC, dI)) (ci := 7) (v := .ref (q 2)) (C := RX7) (T := TX7) (N := 42) hx hb hts hi7 hown hK.1 hP 0 rfl rfl 2 (by decide) (hts _ wmt3_169) (fun _ h9 => h9) rfl dX7_type_53 ?_
              refine lv_iload_n hx hb dX7_type_56 rfl (lv_at hl 1 rfl) ?_
              refine lv_dup2_11 hx hb dX7_type_57 rfl rfl ?_
              refine va_iald (D := (dC, dI)) hx hb hK.1 hP 1 0 rfl rfl (show ¬ _ by decide) dX7_type_58 ?_
              refine z_top (v2 := .int 0) (rfl) ?_
              refine lv_iconst (v := 1) hx hb dX7_type_59 (by decide) ?_
              refine lv_iadd hx hb dX7_type_60 ?_
              refine z_top (v2 := .int 1) (congrArg Value.int (by decide)) ?_
              refine va_iast (D := (dC, dI)) hx hb hK.1 hP hD hS 1 0 rfl rfl (show ¬ _ by decide) dX7_type_61 (fun H locs hP hD hS => ?_)
              have hP : va_P (dC, dI) vwCl (zM k q j0 j1 (upd (fun _ => 0) 0 1) (upd (fun _ => 0) 0 b) r4 (fun _ => 0) r6 (fun _ => 0) (fun _ => 0) (fun _ => 0) (fun _ => 0) 12 i12 i13 i14 i15 (fun _ => 0) (fun _ => 0) (fun _ => 0) 0 (-1) (fun _ => 0) 0 (fun _ => 0) (fun _ => 0) (fun _ => 0) (fun _ => 0) (fun _ => 0) i28 i29 j30 j31 j32 i33 r34 100 (fun _ => 0) (fun _ => 0) (fun _ => 0) (fun _ => 0) r40 i41) H := hP
              have hD : va_D A (zM k q j0 j1 (upd (fun _ => 0) 0 1) (upd (fun _ => 0) 0 b) r4 (fun _ => 0) r6 (fun _ => 0) (fun _ => 0) (fun _ => 0) (fun _ => 0) 12 i12 i13 i14 i15 (fun _ => 0) (fun _ => 0) (fun _ => 0) 0 (-1) (fun _ => 0) 0 (fun _ => 0) (fun _ => 0) (fun _ => 0) (fun _ => 0) (fun _ => 0) i28 i29 j30 j31 j32 i33 r34 100 (fun _ => 0) (fun _ => 0) (fun _ => 0) (fun _ => 0) r40 i41) := hD
              refine lv_aload_n hx hb dX7_type_62 rfl (lv_at hl 0 rfl) ?_
              refine va_get (D := (dC, dI)) (ci := 7) (v := .ref (q 4)) (C := RX7) (T := TX7) (N := 42) hx hb hts hi7 hown hK.1 hP 0 rfl rfl 4 (by decide) (hts _ wmt3_171) (fun _ h9 => h9) rfl dX7_type_63 ?_
              refine lv_iload_n hx hb dX7_type_66 rfl (lv_at hl 1 rfl) ?_
              refine lv_iconst (v := 0) hx hb dX7_type_67 (by decide) ?_
              refine va_zast (D := (dC, dI)) hx hb hK.1 hP hD hS 3 2 rfl rfl (show ¬ _ by decide) dX7_type_68 (fun H locs hP hD hS => ?_)
              have hP : va_P (dC, dI) vwCl (zM k q j0 j1 (upd (fun _ => 0) 0 1) (upd (fun _ => 0) 0 b) (upd r4 0 0) (fun _ => 0) r6 (fun _ => 0) (fun _ => 0) (fun _ => 0) (fun _ => 0) 12 i12 i13 i14 i15 (fun _ => 0) (fun _ => 0) (fun _ => 0) 0 (-1) (fun _ => 0) 0 (fun _ => 0) (fun _ => 0) (fun _ => 0) (fun _ => 0) (fun _ => 0) i28 i29 j30 j31 j32 i33 r34 100 (fun _ => 0) (fun _ => 0) (fun _ => 0) (fun _ => 0) r40 i41) H := hP
              have hD : va_D A (zM k q j0 j1 (upd (fun _ => 0) 0 1) (upd (fun _ => 0) 0 b) (upd r4 0 0) (fun _ => 0) r6 (fun _ => 0) (fun _ => 0) (fun _ => 0) (fun _ => 0) 12 i12 i13 i14 i15 (fun _ => 0) (fun _ => 0) (fun _ => 0) 0 (-1) (fun _ => 0) 0 (fun _ => 0) (fun _ => 0) (fun _ => 0) (fun _ => 0) (fun _ => 0) i28 i29 j30 j31 j32 i33 r34 100 (fun _ => 0) (fun _ => 0) (fun _ => 0) (fun _ => 0) r40 i41) := hD
              refine lv_aload_n hx hb dX7_type_69 rfl (lv_at hl 0 rfl) ?_
              refine va_get (D := (dC, dI)) (ci := 7) (v := .ref (q 2)) (C := RX7) (T := TX7) (N := 42) hx hb hts hi7 hown hK.1 hP 0 rfl rfl 2 (by decide) (hts _ wmt3_169) (fun _ h9 => h9) rfl dX7_type_70 ?_
              refine lv_iload_n hx hb dX7_type_73 rfl (lv_at hl 1 rfl) ?_
              refine va_iald (D := (dC, dI)) hx hb hK.1 hP 1 0 rfl rfl (show ¬ _ by decide) dX7_type_74 ?_
              refine z_top (v2 := .int 1) (rfl) ?_
              exact W.iret (v := 1) hx hb hr (fun t ht hW => ⟨⟨1, (upd (fun _ => 0) 0 1, upd (fun _ => 0) 0 b, upd r4 0 0), rfl, (by first | assumption | with_reducible rfl | contradiction | exact (if_pos (by repeat' (first | assumption | decide | constructor))).symm | exact (if_neg (fun hh => absurd hh (by assumption))).symm | exact (if_neg (fun hh => absurd hh.1 (by assumption))).symm | exact (if_neg (fun hh => absurd hh.1.1 (by assumption))).symm | exact (if_neg (fun hh => absurd hh.1.2 (by assumption))).symm | exact (if_neg (fun hh => absurd hh.2 (by assumption))).symm | exact (if_neg (fun hh => absurd hh.2.1 (by assumption))).symm | exact (if_neg (fun hh => absurd hh.2.2 (by assumption))).symm | decide | (exfalso; simp only [zi_le, zi_lt, zi_eq, zi_n0, zi_n1, zi_n2, zi_n3, zi_n4, zi_n23, zi_n24, zi_n100, zi_n399, zi_n60, zi_n255, zi_n99, zi_nm1, zi_n30] at *; omega) | (simp_all; done)), ⟨by rw [ht]; exact hP, hD⟩⟩, hS.F ht⟩) hS.2.2 dX7_type_75
            · skip
              exact absurd c_17 (by decide)
          · skip
            exact absurd c_16 (by decide)
        · skip
          replace e_15 : r_9 = 0 := e_15
          subst e_15
          replace h_14 : ¬ (0 ≤ b ∧ b ≤ 255) := h_14
          refine lv_if_ne (tgt := 21) hx hb dX7_type_15 (by decide) (fun c_18 => ?_) (fun c_18 => ?_)
          · skip
            exact absurd c_18 (by decide)
          · skip
            refine lv_bipush (v := (-2)) hx hb dX7_type_18 (by decide) ?_
            exact W.iret (v := (-2)) hx hb hr (fun t ht hW => ⟨⟨(-2), ((fun _ => 0), (fun _ => 0), r4), rfl, (by first | assumption | with_reducible rfl | contradiction | exact (if_pos (by repeat' (first | assumption | decide | constructor))).symm | exact (if_neg (fun hh => absurd hh (by assumption))).symm | exact (if_neg (fun hh => absurd hh.1 (by assumption))).symm | exact (if_neg (fun hh => absurd hh.1.1 (by assumption))).symm | exact (if_neg (fun hh => absurd hh.1.2 (by assumption))).symm | exact (if_neg (fun hh => absurd hh.2 (by assumption))).symm | exact (if_neg (fun hh => absurd hh.2.1 (by assumption))).symm | exact (if_neg (fun hh => absurd hh.2.2 (by assumption))).symm | decide | (exfalso; simp only [zi_le, zi_lt, zi_eq, zi_n0, zi_n1, zi_n2, zi_n3, zi_n4, zi_n23, zi_n24, zi_n100, zi_n399, zi_n60, zi_n255, zi_n99, zi_nm1, zi_n30] at *; omega) | (simp_all; done)), ⟨by rw [ht]; exact hP, hD⟩⟩, hS.F ht⟩) hS.2.2 dX7_type_20
    · skip
      refine lv_if_eq (tgt := 18) hx hb dX7_type_4 (by decide) (fun c_19 => ?_) (fun c_19 => ?_)
      · skip
        exact absurd c_19 (by decide)
      · skip
        refine lv_iload_n hx hb dX7_type_7 rfl (lv_at hl 2 rfl) ?_
        refine lv_iconst (v := 0) hx hb dX7_type_8 (by decide) ?_
        refine lv_sipush (v := 255) hx hb dX7_type_9 (by decide) ?_
        refine zc0_i (w := (zM k q j0 j1 (fun _ => 0) (fun _ => 0) r4 (fun _ => 0) r6 (fun _ => 0) (fun _ => 0) (fun _ => 0) (fun _ => 0) 12 i12 i13 i14 i15 (fun _ => 0) (fun _ => 0) (fun _ => 0) 0 (-1) (fun _ => 0) 0 (fun _ => 0) (fun _ => 0) (fun _ => 0) (fun _ => 0) (fun _ => 0) i28 i29 j30 j31 j32 i33 r34 100 (fun _ => 0) (fun _ => 0) (fun _ => 0) (fun _ => 0) r40 i41)) (va_runS (As := [.int b, .int 0, .int 255]) (rest := []) ⟨hx, hb, hml, hown, hts⟩ (c_X7_in l dC dI k T b 0 255 _ ) (va_cwS 3 hts (gzS wmt4_62 wmt4_63 wmt1_8 wmt4_64) rfl rfl rfl (by decide +kernel) ⟨Nat.le_of_ble_eq_true rfl, Nat.le_of_ble_eq_true rfl⟩) (zp0_S hK) rfl rfl hl.1 rfl (lv_room (Nat.le_of_ble_eq_true rfl)) dX7_type_12 ⟨Nat.le_of_ble_eq_true rfl, Nat.le_of_ble_eq_true rfl⟩) hP hS hA (fun r_20 u_21 H locs w_22 hP hS => ?_)
        rcases w_22 with ⟨e_24, h_23⟩ | ⟨e_26, h_25⟩
        · skip
          replace e_24 : r_20 = 1 := e_24
          subst e_24
          replace h_23 : 0 ≤ b ∧ b ≤ 255 := h_23
          refine lv_if_ne (tgt := 21) hx hb dX7_type_15 (by decide) (fun c_27 => ?_) (fun c_27 => ?_)
          · skip
            refine lv_aload_n hx hb dX7_type_21 rfl (lv_at hl 0 rfl) ?_
            refine va_get (D := (dC, dI)) (ci := 7) (v := .ref (q 2)) (C := RX7) (T := TX7) (N := 42) hx hb hts hi7 hown hK.1 hP 0 rfl rfl 2 (by decide) (hts _ wmt3_169) (fun _ h9 => h9) rfl dX7_type_22 ?_
            refine lv_iload_n hx hb dX7_type_25 rfl (lv_at hl 1 rfl) ?_
            refine va_iald (D := (dC, dI)) hx hb hK.1 hP 1 0 rfl rfl (show ¬ _ by decide) dX7_type_26 ?_
            refine z_top (v2 := .int 0) (rfl) ?_
            refine lv_bipush (v := 60) hx hb dX7_type_27 (by decide) ?_
            refine lv_icmp_ne (tgt := 35) hx hb dX7_type_29 (by decide) (fun c_28 => ?_) (fun c_28 => ?_)
            · skip
              refine lv_aload_n hx hb dX7_type_35 rfl (lv_at hl 0 rfl) ?_
              refine va_get (D := (dC, dI)) (ci := 7) (v := .ref (q 3)) (C := RX7) (T := TX7) (N := 42) hx hb hts hi7 hown hK.1 hP 0 rfl rfl 3 (by decide) (hts _ wmt3_170) (fun _ h9 => h9) rfl dX7_type_36 ?_
              refine lv_bipush (v := 60) hx hb dX7_type_39 (by decide) ?_
              refine lv_iload_n hx hb dX7_type_41 rfl (lv_at hl 1 rfl) ?_
              refine lv_imul hx hb dX7_type_42 ?_
              refine z_top (v2 := .int 60) (congrArg Value.int (by decide)) ?_
              refine lv_aload_n hx hb dX7_type_43 rfl (lv_at hl 0 rfl) ?_
              refine va_get (D := (dC, dI)) (ci := 7) (v := .ref (q 2)) (C := RX7) (T := TX7) (N := 42) hx hb hts hi7 hown hK.1 hP 0 rfl rfl 2 (by decide) (hts _ wmt3_169) (fun _ h9 => h9) rfl dX7_type_44 ?_
              refine lv_iload_n hx hb dX7_type_47 rfl (lv_at hl 1 rfl) ?_
              refine va_iald (D := (dC, dI)) hx hb hK.1 hP 1 0 rfl rfl (show ¬ _ by decide) dX7_type_48 ?_
              refine z_top (v2 := .int 0) (rfl) ?_
              refine lv_iadd hx hb dX7_type_49 ?_
              refine z_top (v2 := .int 60) (congrArg Value.int (by decide)) ?_
              refine lv_iload_n hx hb dX7_type_50 rfl (lv_at hl 2 rfl) ?_
              refine va_iast (D := (dC, dI)) hx hb hK.1 hP hD hS 2 0 rfl rfl (show ¬ _ by decide) dX7_type_51 (fun H locs hP hD hS => ?_)
              have hP : va_P (dC, dI) vwCl (zM k q j0 j1 (fun _ => 0) (upd (fun _ => 0) 60 b) r4 (fun _ => 0) r6 (fun _ => 0) (fun _ => 0) (fun _ => 0) (fun _ => 0) 12 i12 i13 i14 i15 (fun _ => 0) (fun _ => 0) (fun _ => 0) 0 (-1) (fun _ => 0) 0 (fun _ => 0) (fun _ => 0) (fun _ => 0) (fun _ => 0) (fun _ => 0) i28 i29 j30 j31 j32 i33 r34 100 (fun _ => 0) (fun _ => 0) (fun _ => 0) (fun _ => 0) r40 i41) H := hP
              have hD : va_D A (zM k q j0 j1 (fun _ => 0) (upd (fun _ => 0) 60 b) r4 (fun _ => 0) r6 (fun _ => 0) (fun _ => 0) (fun _ => 0) (fun _ => 0) 12 i12 i13 i14 i15 (fun _ => 0) (fun _ => 0) (fun _ => 0) 0 (-1) (fun _ => 0) 0 (fun _ => 0) (fun _ => 0) (fun _ => 0) (fun _ => 0) (fun _ => 0) i28 i29 j30 j31 j32 i33 r34 100 (fun _ => 0) (fun _ => 0) (fun _ => 0) (fun _ => 0) r40 i41) := hD
              refine lv_aload_n hx hb dX7_type_52 rfl (lv_at hl 0 rfl) ?_
              refine va_get (D := (dC, dI)) (ci := 7) (v := .ref (q 2)) (C := RX7) (T := TX7) (N := 42) hx hb hts hi7 hown hK.1 hP 0 rfl rfl 2 (by decide) (hts _ wmt3_169) (fun _ h9 => h9) rfl dX7_type_53 ?_
              refine lv_iload_n hx hb dX7_type_56 rfl (lv_at hl 1 rfl) ?_
              refine lv_dup2_11 hx hb dX7_type_57 rfl rfl ?_
              refine va_iald (D := (dC, dI)) hx hb hK.1 hP 1 0 rfl rfl (show ¬ _ by decide) dX7_type_58 ?_
              refine z_top (v2 := .int 0) (rfl) ?_
              refine lv_iconst (v := 1) hx hb dX7_type_59 (by decide) ?_
              refine lv_iadd hx hb dX7_type_60 ?_
              refine z_top (v2 := .int 1) (congrArg Value.int (by decide)) ?_
              refine va_iast (D := (dC, dI)) hx hb hK.1 hP hD hS 1 0 rfl rfl (show ¬ _ by decide) dX7_type_61 (fun H locs hP hD hS => ?_)
              have hP : va_P (dC, dI) vwCl (zM k q j0 j1 (upd (fun _ => 0) 1 1) (upd (fun _ => 0) 60 b) r4 (fun _ => 0) r6 (fun _ => 0) (fun _ => 0) (fun _ => 0) (fun _ => 0) 12 i12 i13 i14 i15 (fun _ => 0) (fun _ => 0) (fun _ => 0) 0 (-1) (fun _ => 0) 0 (fun _ => 0) (fun _ => 0) (fun _ => 0) (fun _ => 0) (fun _ => 0) i28 i29 j30 j31 j32 i33 r34 100 (fun _ => 0) (fun _ => 0) (fun _ => 0) (fun _ => 0) r40 i41) H := hP
              have hD : va_D A (zM k q j0 j1 (upd (fun _ => 0) 1 1) (upd (fun _ => 0) 60 b) r4 (fun _ => 0) r6 (fun _ => 0) (fun _ => 0) (fun _ => 0) (fun _ => 0) 12 i12 i13 i14 i15 (fun _ => 0) (fun _ => 0) (fun _ => 0) 0 (-1) (fun _ => 0) 0 (fun _ => 0) (fun _ => 0) (fun _ => 0) (fun _ => 0) (fun _ => 0) i28 i29 j30 j31 j32 i33 r34 100 (fun _ => 0) (fun _ => 0) (fun _ => 0) (fun _ => 0) r40 i41) := hD
              refine lv_aload_n hx hb dX7_type_62 rfl (lv_at hl 0 rfl) ?_
              refine va_get (D := (dC, dI)) (ci := 7) (v := .ref (q 4)) (C := RX7) (T := TX7) (N := 42) hx hb hts hi7 hown hK.1 hP 0 rfl rfl 4 (by decide) (hts _ wmt3_171) (fun _ h9 => h9) rfl dX7_type_63 ?_
              refine lv_iload_n hx hb dX7_type_66 rfl (lv_at hl 1 rfl) ?_
              refine lv_iconst (v := 0) hx hb dX7_type_67 (by decide) ?_
              refine va_zast (D := (dC, dI)) hx hb hK.1 hP hD hS 3 2 rfl rfl (show ¬ _ by decide) dX7_type_68 (fun H locs hP hD hS => ?_)
              have hP : va_P (dC, dI) vwCl (zM k q j0 j1 (upd (fun _ => 0) 1 1) (upd (fun _ => 0) 60 b) (upd r4 1 0) (fun _ => 0) r6 (fun _ => 0) (fun _ => 0) (fun _ => 0) (fun _ => 0) 12 i12 i13 i14 i15 (fun _ => 0) (fun _ => 0) (fun _ => 0) 0 (-1) (fun _ => 0) 0 (fun _ => 0) (fun _ => 0) (fun _ => 0) (fun _ => 0) (fun _ => 0) i28 i29 j30 j31 j32 i33 r34 100 (fun _ => 0) (fun _ => 0) (fun _ => 0) (fun _ => 0) r40 i41) H := hP
              have hD : va_D A (zM k q j0 j1 (upd (fun _ => 0) 1 1) (upd (fun _ => 0) 60 b) (upd r4 1 0) (fun _ => 0) r6 (fun _ => 0) (fun _ => 0) (fun _ => 0) (fun _ => 0) 12 i12 i13 i14 i15 (fun _ => 0) (fun _ => 0) (fun _ => 0) 0 (-1) (fun _ => 0) 0 (fun _ => 0) (fun _ => 0) (fun _ => 0) (fun _ => 0) (fun _ => 0) i28 i29 j30 j31 j32 i33 r34 100 (fun _ => 0) (fun _ => 0) (fun _ => 0) (fun _ => 0) r40 i41) := hD
              refine lv_aload_n hx hb dX7_type_69 rfl (lv_at hl 0 rfl) ?_
              refine va_get (D := (dC, dI)) (ci := 7) (v := .ref (q 2)) (C := RX7) (T := TX7) (N := 42) hx hb hts hi7 hown hK.1 hP 0 rfl rfl 2 (by decide) (hts _ wmt3_169) (fun _ h9 => h9) rfl dX7_type_70 ?_
              refine lv_iload_n hx hb dX7_type_73 rfl (lv_at hl 1 rfl) ?_
              refine va_iald (D := (dC, dI)) hx hb hK.1 hP 1 0 rfl rfl (show ¬ _ by decide) dX7_type_74 ?_
              refine z_top (v2 := .int 1) (rfl) ?_
              exact W.iret (v := 1) hx hb hr (fun t ht hW => ⟨⟨1, (upd (fun _ => 0) 1 1, upd (fun _ => 0) 60 b, upd r4 1 0), rfl, (by first | assumption | with_reducible rfl | contradiction | exact (if_pos (by repeat' (first | assumption | decide | constructor))).symm | exact (if_neg (fun hh => absurd hh (by assumption))).symm | exact (if_neg (fun hh => absurd hh.1 (by assumption))).symm | exact (if_neg (fun hh => absurd hh.1.1 (by assumption))).symm | exact (if_neg (fun hh => absurd hh.1.2 (by assumption))).symm | exact (if_neg (fun hh => absurd hh.2 (by assumption))).symm | exact (if_neg (fun hh => absurd hh.2.1 (by assumption))).symm | exact (if_neg (fun hh => absurd hh.2.2 (by assumption))).symm | decide | (exfalso; simp only [zi_le, zi_lt, zi_eq, zi_n0, zi_n1, zi_n2, zi_n3, zi_n4, zi_n23, zi_n24, zi_n100, zi_n399, zi_n60, zi_n255, zi_n99, zi_nm1, zi_n30] at *; omega) | (simp_all; done)), ⟨by rw [ht]; exact hP, hD⟩⟩, hS.F ht⟩) hS.2.2 dX7_type_75
            · skip
              exact absurd c_28 (by decide)
          · skip
            exact absurd c_27 (by decide)
        · skip
          replace e_26 : r_20 = 0 := e_26
          subst e_26
          replace h_25 : ¬ (0 ≤ b ∧ b ≤ 255) := h_25
          refine lv_if_ne (tgt := 21) hx hb dX7_type_15 (by decide) (fun c_29 => ?_) (fun c_29 => ?_)
          · skip
            exact absurd c_29 (by decide)
          · skip
            refine lv_bipush (v := (-2)) hx hb dX7_type_18 (by decide) ?_
            exact W.iret (v := (-2)) hx hb hr (fun t ht hW => ⟨⟨(-2), ((fun _ => 0), (fun _ => 0), r4), rfl, (by first | assumption | with_reducible rfl | contradiction | exact (if_pos (by repeat' (first | assumption | decide | constructor))).symm | exact (if_neg (fun hh => absurd hh (by assumption))).symm | exact (if_neg (fun hh => absurd hh.1 (by assumption))).symm | exact (if_neg (fun hh => absurd hh.1.1 (by assumption))).symm | exact (if_neg (fun hh => absurd hh.1.2 (by assumption))).symm | exact (if_neg (fun hh => absurd hh.2 (by assumption))).symm | exact (if_neg (fun hh => absurd hh.2.1 (by assumption))).symm | exact (if_neg (fun hh => absurd hh.2.2 (by assumption))).symm | decide | (exfalso; simp only [zi_le, zi_lt, zi_eq, zi_n0, zi_n1, zi_n2, zi_n3, zi_n4, zi_n23, zi_n24, zi_n100, zi_n399, zi_n60, zi_n255, zi_n99, zi_nm1, zi_n30] at *; omega) | (simp_all; done)), ⟨by rw [ht]; exact hP, hD⟩⟩, hS.F ht⟩) hS.2.2 dX7_type_20
    · skip
      refine lv_if_eq (tgt := 18) hx hb dX7_type_4 (by decide) (fun c_30 => ?_) (fun c_30 => ?_)
      · skip
        exact absurd c_30 (by decide)
      · skip
        refine lv_iload_n hx hb dX7_type_7 rfl (lv_at hl 2 rfl) ?_
        refine lv_iconst (v := 0) hx hb dX7_type_8 (by decide) ?_
        refine lv_sipush (v := 255) hx hb dX7_type_9 (by decide) ?_
        refine zc0_i (w := (zM k q j0 j1 (fun _ => 0) (fun _ => 0) r4 (fun _ => 0) r6 (fun _ => 0) (fun _ => 0) (fun _ => 0) (fun _ => 0) 12 i12 i13 i14 i15 (fun _ => 0) (fun _ => 0) (fun _ => 0) 0 (-1) (fun _ => 0) 0 (fun _ => 0) (fun _ => 0) (fun _ => 0) (fun _ => 0) (fun _ => 0) i28 i29 j30 j31 j32 i33 r34 100 (fun _ => 0) (fun _ => 0) (fun _ => 0) (fun _ => 0) r40 i41)) (va_runS (As := [.int b, .int 0, .int 255]) (rest := []) ⟨hx, hb, hml, hown, hts⟩ (c_X7_in l dC dI k T b 0 255 _ ) (va_cwS 3 hts (gzS wmt4_62 wmt4_63 wmt1_8 wmt4_64) rfl rfl rfl (by decide +kernel) ⟨Nat.le_of_ble_eq_true rfl, Nat.le_of_ble_eq_true rfl⟩) (zp0_S hK) rfl rfl hl.1 rfl (lv_room (Nat.le_of_ble_eq_true rfl)) dX7_type_12 ⟨Nat.le_of_ble_eq_true rfl, Nat.le_of_ble_eq_true rfl⟩) hP hS hA (fun r_31 u_32 H locs w_33 hP hS => ?_)
        rcases w_33 with ⟨e_35, h_34⟩ | ⟨e_37, h_36⟩
        · skip
          replace e_35 : r_31 = 1 := e_35
          subst e_35
          replace h_34 : 0 ≤ b ∧ b ≤ 255 := h_34
          refine lv_if_ne (tgt := 21) hx hb dX7_type_15 (by decide) (fun c_38 => ?_) (fun c_38 => ?_)
          · skip
            refine lv_aload_n hx hb dX7_type_21 rfl (lv_at hl 0 rfl) ?_
            refine va_get (D := (dC, dI)) (ci := 7) (v := .ref (q 2)) (C := RX7) (T := TX7) (N := 42) hx hb hts hi7 hown hK.1 hP 0 rfl rfl 2 (by decide) (hts _ wmt3_169) (fun _ h9 => h9) rfl dX7_type_22 ?_
            refine lv_iload_n hx hb dX7_type_25 rfl (lv_at hl 1 rfl) ?_
            refine va_iald (D := (dC, dI)) hx hb hK.1 hP 1 0 rfl rfl (show ¬ _ by decide) dX7_type_26 ?_
            refine z_top (v2 := .int 0) (rfl) ?_
            refine lv_bipush (v := 60) hx hb dX7_type_27 (by decide) ?_
            refine lv_icmp_ne (tgt := 35) hx hb dX7_type_29 (by decide) (fun c_39 => ?_) (fun c_39 => ?_)
            · skip
              refine lv_aload_n hx hb dX7_type_35 rfl (lv_at hl 0 rfl) ?_
              refine va_get (D := (dC, dI)) (ci := 7) (v := .ref (q 3)) (C := RX7) (T := TX7) (N := 42) hx hb hts hi7 hown hK.1 hP 0 rfl rfl 3 (by decide) (hts _ wmt3_170) (fun _ h9 => h9) rfl dX7_type_36 ?_
              refine lv_bipush (v := 60) hx hb dX7_type_39 (by decide) ?_
              refine lv_iload_n hx hb dX7_type_41 rfl (lv_at hl 1 rfl) ?_
              refine lv_imul hx hb dX7_type_42 ?_
              refine z_top (v2 := .int 120) (congrArg Value.int (by decide)) ?_
              refine lv_aload_n hx hb dX7_type_43 rfl (lv_at hl 0 rfl) ?_
              refine va_get (D := (dC, dI)) (ci := 7) (v := .ref (q 2)) (C := RX7) (T := TX7) (N := 42) hx hb hts hi7 hown hK.1 hP 0 rfl rfl 2 (by decide) (hts _ wmt3_169) (fun _ h9 => h9) rfl dX7_type_44 ?_
              refine lv_iload_n hx hb dX7_type_47 rfl (lv_at hl 1 rfl) ?_
              refine va_iald (D := (dC, dI)) hx hb hK.1 hP 1 0 rfl rfl (show ¬ _ by decide) dX7_type_48 ?_
              refine z_top (v2 := .int 0) (rfl) ?_
              refine lv_iadd hx hb dX7_type_49 ?_
              refine z_top (v2 := .int 120) (congrArg Value.int (by decide)) ?_
              refine lv_iload_n hx hb dX7_type_50 rfl (lv_at hl 2 rfl) ?_
              refine va_iast (D := (dC, dI)) hx hb hK.1 hP hD hS 2 0 rfl rfl (show ¬ _ by decide) dX7_type_51 (fun H locs hP hD hS => ?_)
              have hP : va_P (dC, dI) vwCl (zM k q j0 j1 (fun _ => 0) (upd (fun _ => 0) 120 b) r4 (fun _ => 0) r6 (fun _ => 0) (fun _ => 0) (fun _ => 0) (fun _ => 0) 12 i12 i13 i14 i15 (fun _ => 0) (fun _ => 0) (fun _ => 0) 0 (-1) (fun _ => 0) 0 (fun _ => 0) (fun _ => 0) (fun _ => 0) (fun _ => 0) (fun _ => 0) i28 i29 j30 j31 j32 i33 r34 100 (fun _ => 0) (fun _ => 0) (fun _ => 0) (fun _ => 0) r40 i41) H := hP
              have hD : va_D A (zM k q j0 j1 (fun _ => 0) (upd (fun _ => 0) 120 b) r4 (fun _ => 0) r6 (fun _ => 0) (fun _ => 0) (fun _ => 0) (fun _ => 0) 12 i12 i13 i14 i15 (fun _ => 0) (fun _ => 0) (fun _ => 0) 0 (-1) (fun _ => 0) 0 (fun _ => 0) (fun _ => 0) (fun _ => 0) (fun _ => 0) (fun _ => 0) i28 i29 j30 j31 j32 i33 r34 100 (fun _ => 0) (fun _ => 0) (fun _ => 0) (fun _ => 0) r40 i41) := hD
              refine lv_aload_n hx hb dX7_type_52 rfl (lv_at hl 0 rfl) ?_
              refine va_get (D := (dC, dI)) (ci := 7) (v := .ref (q 2)) (C := RX7) (T := TX7) (N := 42) hx hb hts hi7 hown hK.1 hP 0 rfl rfl 2 (by decide) (hts _ wmt3_169) (fun _ h9 => h9) rfl dX7_type_53 ?_
              refine lv_iload_n hx hb dX7_type_56 rfl (lv_at hl 1 rfl) ?_
              refine lv_dup2_11 hx hb dX7_type_57 rfl rfl ?_
              refine va_iald (D := (dC, dI)) hx hb hK.1 hP 1 0 rfl rfl (show ¬ _ by decide) dX7_type_58 ?_
              refine z_top (v2 := .int 0) (rfl) ?_
              refine lv_iconst (v := 1) hx hb dX7_type_59 (by decide) ?_
              refine lv_iadd hx hb dX7_type_60 ?_
              refine z_top (v2 := .int 1) (congrArg Value.int (by decide)) ?_
              refine va_iast (D := (dC, dI)) hx hb hK.1 hP hD hS 1 0 rfl rfl (show ¬ _ by decide) dX7_type_61 (fun H locs hP hD hS => ?_)
              have hP : va_P (dC, dI) vwCl (zM k q j0 j1 (upd (fun _ => 0) 2 1) (upd (fun _ => 0) 120 b) r4 (fun _ => 0) r6 (fun _ => 0) (fun _ => 0) (fun _ => 0) (fun _ => 0) 12 i12 i13 i14 i15 (fun _ => 0) (fun _ => 0) (fun _ => 0) 0 (-1) (fun _ => 0) 0 (fun _ => 0) (fun _ => 0) (fun _ => 0) (fun _ => 0) (fun _ => 0) i28 i29 j30 j31 j32 i33 r34 100 (fun _ => 0) (fun _ => 0) (fun _ => 0) (fun _ => 0) r40 i41) H := hP
              have hD : va_D A (zM k q j0 j1 (upd (fun _ => 0) 2 1) (upd (fun _ => 0) 120 b) r4 (fun _ => 0) r6 (fun _ => 0) (fun _ => 0) (fun _ => 0) (fun _ => 0) 12 i12 i13 i14 i15 (fun _ => 0) (fun _ => 0) (fun _ => 0) 0 (-1) (fun _ => 0) 0 (fun _ => 0) (fun _ => 0) (fun _ => 0) (fun _ => 0) (fun _ => 0) i28 i29 j30 j31 j32 i33 r34 100 (fun _ => 0) (fun _ => 0) (fun _ => 0) (fun _ => 0) r40 i41) := hD
              refine lv_aload_n hx hb dX7_type_62 rfl (lv_at hl 0 rfl) ?_
              refine va_get (D := (dC, dI)) (ci := 7) (v := .ref (q 4)) (C := RX7) (T := TX7) (N := 42) hx hb hts hi7 hown hK.1 hP 0 rfl rfl 4 (by decide) (hts _ wmt3_171) (fun _ h9 => h9) rfl dX7_type_63 ?_
              refine lv_iload_n hx hb dX7_type_66 rfl (lv_at hl 1 rfl) ?_
              refine lv_iconst (v := 0) hx hb dX7_type_67 (by decide) ?_
              refine va_zast (D := (dC, dI)) hx hb hK.1 hP hD hS 3 2 rfl rfl (show ¬ _ by decide) dX7_type_68 (fun H locs hP hD hS => ?_)
              have hP : va_P (dC, dI) vwCl (zM k q j0 j1 (upd (fun _ => 0) 2 1) (upd (fun _ => 0) 120 b) (upd r4 2 0) (fun _ => 0) r6 (fun _ => 0) (fun _ => 0) (fun _ => 0) (fun _ => 0) 12 i12 i13 i14 i15 (fun _ => 0) (fun _ => 0) (fun _ => 0) 0 (-1) (fun _ => 0) 0 (fun _ => 0) (fun _ => 0) (fun _ => 0) (fun _ => 0) (fun _ => 0) i28 i29 j30 j31 j32 i33 r34 100 (fun _ => 0) (fun _ => 0) (fun _ => 0) (fun _ => 0) r40 i41) H := hP
              have hD : va_D A (zM k q j0 j1 (upd (fun _ => 0) 2 1) (upd (fun _ => 0) 120 b) (upd r4 2 0) (fun _ => 0) r6 (fun _ => 0) (fun _ => 0) (fun _ => 0) (fun _ => 0) 12 i12 i13 i14 i15 (fun _ => 0) (fun _ => 0) (fun _ => 0) 0 (-1) (fun _ => 0) 0 (fun _ => 0) (fun _ => 0) (fun _ => 0) (fun _ => 0) (fun _ => 0) i28 i29 j30 j31 j32 i33 r34 100 (fun _ => 0) (fun _ => 0) (fun _ => 0) (fun _ => 0) r40 i41) := hD
              refine lv_aload_n hx hb dX7_type_69 rfl (lv_at hl 0 rfl) ?_
              refine va_get (D := (dC, dI)) (ci := 7) (v := .ref (q 2)) (C := RX7) (T := TX7) (N := 42) hx hb hts hi7 hown hK.1 hP 0 rfl rfl 2 (by decide) (hts _ wmt3_169) (fun _ h9 => h9) rfl dX7_type_70 ?_
              refine lv_iload_n hx hb dX7_type_73 rfl (lv_at hl 1 rfl) ?_
              refine va_iald (D := (dC, dI)) hx hb hK.1 hP 1 0 rfl rfl (show ¬ _ by decide) dX7_type_74 ?_
              refine z_top (v2 := .int 1) (rfl) ?_
              exact W.iret (v := 1) hx hb hr (fun t ht hW => ⟨⟨1, (upd (fun _ => 0) 2 1, upd (fun _ => 0) 120 b, upd r4 2 0), rfl, (by first | assumption | with_reducible rfl | contradiction | exact (if_pos (by repeat' (first | assumption | decide | constructor))).symm | exact (if_neg (fun hh => absurd hh (by assumption))).symm | exact (if_neg (fun hh => absurd hh.1 (by assumption))).symm | exact (if_neg (fun hh => absurd hh.1.1 (by assumption))).symm | exact (if_neg (fun hh => absurd hh.1.2 (by assumption))).symm | exact (if_neg (fun hh => absurd hh.2 (by assumption))).symm | exact (if_neg (fun hh => absurd hh.2.1 (by assumption))).symm | exact (if_neg (fun hh => absurd hh.2.2 (by assumption))).symm | decide | (exfalso; simp only [zi_le, zi_lt, zi_eq, zi_n0, zi_n1, zi_n2, zi_n3, zi_n4, zi_n23, zi_n24, zi_n100, zi_n399, zi_n60, zi_n255, zi_n99, zi_nm1, zi_n30] at *; omega) | (simp_all; done)), ⟨by rw [ht]; exact hP, hD⟩⟩, hS.F ht⟩) hS.2.2 dX7_type_75
            · skip
              exact absurd c_39 (by decide)
          · skip
            exact absurd c_38 (by decide)
        · skip
          replace e_37 : r_31 = 0 := e_37
          subst e_37
          replace h_36 : ¬ (0 ≤ b ∧ b ≤ 255) := h_36
          refine lv_if_ne (tgt := 21) hx hb dX7_type_15 (by decide) (fun c_40 => ?_) (fun c_40 => ?_)
          · skip
            exact absurd c_40 (by decide)
          · skip
            refine lv_bipush (v := (-2)) hx hb dX7_type_18 (by decide) ?_
            exact W.iret (v := (-2)) hx hb hr (fun t ht hW => ⟨⟨(-2), ((fun _ => 0), (fun _ => 0), r4), rfl, (by first | assumption | with_reducible rfl | contradiction | exact (if_pos (by repeat' (first | assumption | decide | constructor))).symm | exact (if_neg (fun hh => absurd hh (by assumption))).symm | exact (if_neg (fun hh => absurd hh.1 (by assumption))).symm | exact (if_neg (fun hh => absurd hh.1.1 (by assumption))).symm | exact (if_neg (fun hh => absurd hh.1.2 (by assumption))).symm | exact (if_neg (fun hh => absurd hh.2 (by assumption))).symm | exact (if_neg (fun hh => absurd hh.2.1 (by assumption))).symm | exact (if_neg (fun hh => absurd hh.2.2 (by assumption))).symm | decide | (exfalso; simp only [zi_le, zi_lt, zi_eq, zi_n0, zi_n1, zi_n2, zi_n3, zi_n4, zi_n23, zi_n24, zi_n100, zi_n399, zi_n60, zi_n255, zi_n99, zi_nm1, zi_n30] at *; omega) | (simp_all; done)), ⟨by rw [ht]; exact hP, hD⟩⟩, hS.F ht⟩) hS.2.2 dX7_type_20
    · skip
      refine lv_if_eq (tgt := 18) hx hb dX7_type_4 (by decide) (fun c_41 => ?_) (fun c_41 => ?_)
      · skip
        exact absurd c_41 (by decide)
      · skip
        refine lv_iload_n hx hb dX7_type_7 rfl (lv_at hl 2 rfl) ?_
        refine lv_iconst (v := 0) hx hb dX7_type_8 (by decide) ?_
        refine lv_sipush (v := 255) hx hb dX7_type_9 (by decide) ?_
        refine zc0_i (w := (zM k q j0 j1 (fun _ => 0) (fun _ => 0) r4 (fun _ => 0) r6 (fun _ => 0) (fun _ => 0) (fun _ => 0) (fun _ => 0) 12 i12 i13 i14 i15 (fun _ => 0) (fun _ => 0) (fun _ => 0) 0 (-1) (fun _ => 0) 0 (fun _ => 0) (fun _ => 0) (fun _ => 0) (fun _ => 0) (fun _ => 0) i28 i29 j30 j31 j32 i33 r34 100 (fun _ => 0) (fun _ => 0) (fun _ => 0) (fun _ => 0) r40 i41)) (va_runS (As := [.int b, .int 0, .int 255]) (rest := []) ⟨hx, hb, hml, hown, hts⟩ (c_X7_in l dC dI k T b 0 255 _ ) (va_cwS 3 hts (gzS wmt4_62 wmt4_63 wmt1_8 wmt4_64) rfl rfl rfl (by decide +kernel) ⟨Nat.le_of_ble_eq_true rfl, Nat.le_of_ble_eq_true rfl⟩) (zp0_S hK) rfl rfl hl.1 rfl (lv_room (Nat.le_of_ble_eq_true rfl)) dX7_type_12 ⟨Nat.le_of_ble_eq_true rfl, Nat.le_of_ble_eq_true rfl⟩) hP hS hA (fun r_42 u_43 H locs w_44 hP hS => ?_)
        rcases w_44 with ⟨e_46, h_45⟩ | ⟨e_48, h_47⟩
        · skip
          replace e_46 : r_42 = 1 := e_46
          subst e_46
          replace h_45 : 0 ≤ b ∧ b ≤ 255 := h_45
          refine lv_if_ne (tgt := 21) hx hb dX7_type_15 (by decide) (fun c_49 => ?_) (fun c_49 => ?_)
          · skip
            refine lv_aload_n hx hb dX7_type_21 rfl (lv_at hl 0 rfl) ?_
            refine va_get (D := (dC, dI)) (ci := 7) (v := .ref (q 2)) (C := RX7) (T := TX7) (N := 42) hx hb hts hi7 hown hK.1 hP 0 rfl rfl 2 (by decide) (hts _ wmt3_169) (fun _ h9 => h9) rfl dX7_type_22 ?_
            refine lv_iload_n hx hb dX7_type_25 rfl (lv_at hl 1 rfl) ?_
            refine va_iald (D := (dC, dI)) hx hb hK.1 hP 1 0 rfl rfl (show ¬ _ by decide) dX7_type_26 ?_
            refine z_top (v2 := .int 0) (rfl) ?_
            refine lv_bipush (v := 60) hx hb dX7_type_27 (by decide) ?_
            refine lv_icmp_ne (tgt := 35) hx hb dX7_type_29 (by decide) (fun c_50 => ?_) (fun c_50 => ?_)
            · skip
              refine lv_aload_n hx hb dX7_type_35 rfl (lv_at hl 0 rfl) ?_
              refine va_get (D := (dC, dI)) (ci := 7) (v := .ref (q 3)) (C := RX7) (T := TX7) (N := 42) hx hb hts hi7 hown hK.1 hP 0 rfl rfl 3 (by decide) (hts _ wmt3_170) (fun _ h9 => h9) rfl dX7_type_36 ?_
              refine lv_bipush (v := 60) hx hb dX7_type_39 (by decide) ?_
              refine lv_iload_n hx hb dX7_type_41 rfl (lv_at hl 1 rfl) ?_
              refine lv_imul hx hb dX7_type_42 ?_
              refine z_top (v2 := .int 180) (congrArg Value.int (by decide)) ?_
              refine lv_aload_n hx hb dX7_type_43 rfl (lv_at hl 0 rfl) ?_
              refine va_get (D := (dC, dI)) (ci := 7) (v := .ref (q 2)) (C := RX7) (T := TX7) (N := 42) hx hb hts hi7 hown hK.1 hP 0 rfl rfl 2 (by decide) (hts _ wmt3_169) (fun _ h9 => h9) rfl dX7_type_44 ?_
              refine lv_iload_n hx hb dX7_type_47 rfl (lv_at hl 1 rfl) ?_
              refine va_iald (D := (dC, dI)) hx hb hK.1 hP 1 0 rfl rfl (show ¬ _ by decide) dX7_type_48 ?_
              refine z_top (v2 := .int 0) (rfl) ?_
              refine lv_iadd hx hb dX7_type_49 ?_
              refine z_top (v2 := .int 180) (congrArg Value.int (by decide)) ?_
              refine lv_iload_n hx hb dX7_type_50 rfl (lv_at hl 2 rfl) ?_
              refine va_iast (D := (dC, dI)) hx hb hK.1 hP hD hS 2 0 rfl rfl (show ¬ _ by decide) dX7_type_51 (fun H locs hP hD hS => ?_)
              have hP : va_P (dC, dI) vwCl (zM k q j0 j1 (fun _ => 0) (upd (fun _ => 0) 180 b) r4 (fun _ => 0) r6 (fun _ => 0) (fun _ => 0) (fun _ => 0) (fun _ => 0) 12 i12 i13 i14 i15 (fun _ => 0) (fun _ => 0) (fun _ => 0) 0 (-1) (fun _ => 0) 0 (fun _ => 0) (fun _ => 0) (fun _ => 0) (fun _ => 0) (fun _ => 0) i28 i29 j30 j31 j32 i33 r34 100 (fun _ => 0) (fun _ => 0) (fun _ => 0) (fun _ => 0) r40 i41) H := hP
              have hD : va_D A (zM k q j0 j1 (fun _ => 0) (upd (fun _ => 0) 180 b) r4 (fun _ => 0) r6 (fun _ => 0) (fun _ => 0) (fun _ => 0) (fun _ => 0) 12 i12 i13 i14 i15 (fun _ => 0) (fun _ => 0) (fun _ => 0) 0 (-1) (fun _ => 0) 0 (fun _ => 0) (fun _ => 0) (fun _ => 0) (fun _ => 0) (fun _ => 0) i28 i29 j30 j31 j32 i33 r34 100 (fun _ => 0) (fun _ => 0) (fun _ => 0) (fun _ => 0) r40 i41) := hD
              refine lv_aload_n hx hb dX7_type_52 rfl (lv_at hl 0 rfl) ?_
              refine va_get (D := (dC, dI)) (ci := 7) (v := .ref (q 2)) (C := RX7) (T := TX7) (N := 42) hx hb hts hi7 hown hK.1 hP 0 rfl rfl 2 (by decide) (hts _ wmt3_169) (fun _ h9 => h9) rfl dX7_type_53 ?_
              refine lv_iload_n hx hb dX7_type_56 rfl (lv_at hl 1 rfl) ?_
              refine lv_dup2_11 hx hb dX7_type_57 rfl rfl ?_
              refine va_iald (D := (dC, dI)) hx hb hK.1 hP 1 0 rfl rfl (show ¬ _ by decide) dX7_type_58 ?_
              refine z_top (v2 := .int 0) (rfl) ?_
              refine lv_iconst (v := 1) hx hb dX7_type_59 (by decide) ?_
              refine lv_iadd hx hb dX7_type_60 ?_
              refine z_top (v2 := .int 1) (congrArg Value.int (by decide)) ?_
              refine va_iast (D := (dC, dI)) hx hb hK.1 hP hD hS 1 0 rfl rfl (show ¬ _ by decide) dX7_type_61 (fun H locs hP hD hS => ?_)
              have hP : va_P (dC, dI) vwCl (zM k q j0 j1 (upd (fun _ => 0) 3 1) (upd (fun _ => 0) 180 b) r4 (fun _ => 0) r6 (fun _ => 0) (fun _ => 0) (fun _ => 0) (fun _ => 0) 12 i12 i13 i14 i15 (fun _ => 0) (fun _ => 0) (fun _ => 0) 0 (-1) (fun _ => 0) 0 (fun _ => 0) (fun _ => 0) (fun _ => 0) (fun _ => 0) (fun _ => 0) i28 i29 j30 j31 j32 i33 r34 100 (fun _ => 0) (fun _ => 0) (fun _ => 0) (fun _ => 0) r40 i41) H := hP
              have hD : va_D A (zM k q j0 j1 (upd (fun _ => 0) 3 1) (upd (fun _ => 0) 180 b) r4 (fun _ => 0) r6 (fun _ => 0) (fun _ => 0) (fun _ => 0) (fun _ => 0) 12 i12 i13 i14 i15 (fun _ => 0) (fun _ => 0) (fun _ => 0) 0 (-1) (fun _ => 0) 0 (fun _ => 0) (fun _ => 0) (fun _ => 0) (fun _ => 0) (fun _ => 0) i28 i29 j30 j31 j32 i33 r34 100 (fun _ => 0) (fun _ => 0) (fun _ => 0) (fun _ => 0) r40 i41) := hD
              refine lv_aload_n hx hb dX7_type_62 rfl (lv_at hl 0 rfl) ?_
              refine va_get (D := (dC, dI)) (ci := 7) (v := .ref (q 4)) (C := RX7) (T := TX7) (N := 42) hx hb hts hi7 hown hK.1 hP 0 rfl rfl 4 (by decide) (hts _ wmt3_171) (fun _ h9 => h9) rfl dX7_type_63 ?_
              refine lv_iload_n hx hb dX7_type_66 rfl (lv_at hl 1 rfl) ?_
              refine lv_iconst (v := 0) hx hb dX7_type_67 (by decide) ?_
              refine va_zast (D := (dC, dI)) hx hb hK.1 hP hD hS 3 2 rfl rfl (show ¬ _ by decide) dX7_type_68 (fun H locs hP hD hS => ?_)
              have hP : va_P (dC, dI) vwCl (zM k q j0 j1 (upd (fun _ => 0) 3 1) (upd (fun _ => 0) 180 b) (upd r4 3 0) (fun _ => 0) r6 (fun _ => 0) (fun _ => 0) (fun _ => 0) (fun _ => 0) 12 i12 i13 i14 i15 (fun _ => 0) (fun _ => 0) (fun _ => 0) 0 (-1) (fun _ => 0) 0 (fun _ => 0) (fun _ => 0) (fun _ => 0) (fun _ => 0) (fun _ => 0) i28 i29 j30 j31 j32 i33 r34 100 (fun _ => 0) (fun _ => 0) (fun _ => 0) (fun _ => 0) r40 i41) H := hP
              have hD : va_D A (zM k q j0 j1 (upd (fun _ => 0) 3 1) (upd (fun _ => 0) 180 b) (upd r4 3 0) (fun _ => 0) r6 (fun _ => 0) (fun _ => 0) (fun _ => 0) (fun _ => 0) 12 i12 i13 i14 i15 (fun _ => 0) (fun _ => 0) (fun _ => 0) 0 (-1) (fun _ => 0) 0 (fun _ => 0) (fun _ => 0) (fun _ => 0) (fun _ => 0) (fun _ => 0) i28 i29 j30 j31 j32 i33 r34 100 (fun _ => 0) (fun _ => 0) (fun _ => 0) (fun _ => 0) r40 i41) := hD
              refine lv_aload_n hx hb dX7_type_69 rfl (lv_at hl 0 rfl) ?_
              refine va_get (D := (dC, dI)) (ci := 7) (v := .ref (q 2)) (C := RX7) (T := TX7) (N := 42) hx hb hts hi7 hown hK.1 hP 0 rfl rfl 2 (by decide) (hts _ wmt3_169) (fun _ h9 => h9) rfl dX7_type_70 ?_
              refine lv_iload_n hx hb dX7_type_73 rfl (lv_at hl 1 rfl) ?_
              refine va_iald (D := (dC, dI)) hx hb hK.1 hP 1 0 rfl rfl (show ¬ _ by decide) dX7_type_74 ?_
              refine z_top (v2 := .int 1) (rfl) ?_
              exact W.iret (v := 1) hx hb hr (fun t ht hW => ⟨⟨1, (upd (fun _ => 0) 3 1, upd (fun _ => 0) 180 b, upd r4 3 0), rfl, (by first | assumption | with_reducible rfl | contradiction | exact (if_pos (by repeat' (first | assumption | decide | constructor))).symm | exact (if_neg (fun hh => absurd hh (by assumption))).symm | exact (if_neg (fun hh => absurd hh.1 (by assumption))).symm | exact (if_neg (fun hh => absurd hh.1.1 (by assumption))).symm | exact (if_neg (fun hh => absurd hh.1.2 (by assumption))).symm | exact (if_neg (fun hh => absurd hh.2 (by assumption))).symm | exact (if_neg (fun hh => absurd hh.2.1 (by assumption))).symm | exact (if_neg (fun hh => absurd hh.2.2 (by assumption))).symm | decide | (exfalso; simp only [zi_le, zi_lt, zi_eq, zi_n0, zi_n1, zi_n2, zi_n3, zi_n4, zi_n23, zi_n24, zi_n100, zi_n399, zi_n60, zi_n255, zi_n99, zi_nm1, zi_n30] at *; omega) | (simp_all; done)), ⟨by rw [ht]; exact hP, hD⟩⟩, hS.F ht⟩) hS.2.2 dX7_type_75
            · skip
              exact absurd c_50 (by decide)
          · skip
            exact absurd c_49 (by decide)
        · skip
          replace e_48 : r_42 = 0 := e_48
          subst e_48
          replace h_47 : ¬ (0 ≤ b ∧ b ≤ 255) := h_47
          refine lv_if_ne (tgt := 21) hx hb dX7_type_15 (by decide) (fun c_51 => ?_) (fun c_51 => ?_)
          · skip
            exact absurd c_51 (by decide)
          · skip
            refine lv_bipush (v := (-2)) hx hb dX7_type_18 (by decide) ?_
            exact W.iret (v := (-2)) hx hb hr (fun t ht hW => ⟨⟨(-2), ((fun _ => 0), (fun _ => 0), r4), rfl, (by first | assumption | with_reducible rfl | contradiction | exact (if_pos (by repeat' (first | assumption | decide | constructor))).symm | exact (if_neg (fun hh => absurd hh (by assumption))).symm | exact (if_neg (fun hh => absurd hh.1 (by assumption))).symm | exact (if_neg (fun hh => absurd hh.1.1 (by assumption))).symm | exact (if_neg (fun hh => absurd hh.1.2 (by assumption))).symm | exact (if_neg (fun hh => absurd hh.2 (by assumption))).symm | exact (if_neg (fun hh => absurd hh.2.1 (by assumption))).symm | exact (if_neg (fun hh => absurd hh.2.2 (by assumption))).symm | decide | (exfalso; simp only [zi_le, zi_lt, zi_eq, zi_n0, zi_n1, zi_n2, zi_n3, zi_n4, zi_n23, zi_n24, zi_n100, zi_n399, zi_n60, zi_n255, zi_n99, zi_nm1, zi_n30] at *; omega) | (simp_all; done)), ⟨by rw [ht]; exact hP, hD⟩⟩, hS.F ht⟩) hS.2.2 dX7_type_20
  · skip
    replace e_7 : r_1 = 0 := e_7
    subst e_7
    replace h_6 : ¬ (0 ≤ (d : Int32) ∧ (d : Int32) ≤ 3) := h_6
    refine lv_if_eq (tgt := 18) hx hb dX7_type_4 (by decide) (fun c_52 => ?_) (fun c_52 => ?_)
    · skip
      refine lv_bipush (v := (-2)) hx hb dX7_type_18 (by decide) ?_
      exact W.iret (v := (-2)) hx hb hr (fun t ht hW => ⟨⟨(-2), ((fun _ => 0), (fun _ => 0), r4), rfl, (by first | assumption | with_reducible rfl | contradiction | exact (if_pos (by repeat' (first | assumption | decide | constructor))).symm | exact (if_neg (fun hh => absurd hh (by assumption))).symm | exact (if_neg (fun hh => absurd hh.1 (by assumption))).symm | exact (if_neg (fun hh => absurd hh.1.1 (by assumption))).symm | exact (if_neg (fun hh => absurd hh.1.2 (by assumption))).symm | exact (if_neg (fun hh => absurd hh.2 (by assumption))).symm | exact (if_neg (fun hh => absurd hh.2.1 (by assumption))).symm | exact (if_neg (fun hh => absurd hh.2.2 (by assumption))).symm | decide | (exfalso; simp only [zi_le, zi_lt, zi_eq, zi_n0, zi_n1, zi_n2, zi_n3, zi_n4, zi_n23, zi_n24, zi_n100, zi_n399, zi_n60, zi_n255, zi_n99, zi_nm1, zi_n30] at *; omega) | (simp_all; done)), ⟨by rw [ht]; exact hP, hD⟩⟩, hS.F ht⟩) hS.2.2 dX7_type_20
    · skip
      exact absurd (by decide) c_52
set_option maxHeartbeats 4000000 in
set_option maxRecDepth 100000 in
theorem c_X7_knownMany (l : Launch) (dC : Nat → ClassId) (dI : Nat → Nat → Nat) (k : Nat → ClassId) (T : List (ClassId × FieldType)) (q : Nat → Nat) (j0 : Int64) (j1 : Int64) (r4 : Nat → Int32) (r6 : Nat → Int32) (i12 : Int32) (i13 : Int32) (i14 : Int32) (i15 : Int32) (i28 : Int32) (i29 : Int32) (j30 : Int64) (j31 : Int64) (j32 : Int64) (i33 : Int32) (r34 : Nat → Int32) (r40 : Nat → Int32) (i41 : Int32) (w : Int32) (sz : Nat)  : Met l yX7_knownMany (wz yX7_knownMany cX7_knownMany 4 (some .int)) ({ frames := 0, cells := 0, slots := 0, locals := 0 }) (va_Pc [.ref (q 0), .int w] (zPre dC dI k T (zM k q j0 j1 (fun _ => 0) (fun _ => 0) r4 (fun _ => 0) r6 (fun _ => 0) (fun _ => 0) (fun _ => 0) (fun _ => 0) 12 i12 i13 i14 i15 (fun _ => 0) (fun _ => 0) (fun _ => 0) 0 (-1) (fun _ => 0) 0 (fun _ => 0) (fun _ => 0) (fun _ => 0) (fun _ => 0) (fun _ => 0) i28 i29 j30 j31 j32 i33 r34 100 (fun _ => 0) (fun _ => 0) (fun _ => 0) (fun _ => 0) r40 i41) sz)) (va_Qi (fun (r : Int32) (u : Unit) => r = 0) (fun u t => zPost dC dI (va_A (zM k q j0 j1 (fun _ => 0) (fun _ => 0) r4 (fun _ => 0) r6 (fun _ => 0) (fun _ => 0) (fun _ => 0) (fun _ => 0) 12 i12 i13 i14 i15 (fun _ => 0) (fun _ => 0) (fun _ => 0) 0 (-1) (fun _ => 0) 0 (fun _ => 0) (fun _ => 0) (fun _ => 0) (fun _ => 0) (fun _ => 0) i28 i29 j30 j31 j32 i33 r34 100 (fun _ => 0) (fun _ => 0) (fun _ => 0) (fun _ => 0) r40 i41) sz) (zM k q j0 j1 (fun _ => 0) (fun _ => 0) r4 (fun _ => 0) r6 (fun _ => 0) (fun _ => 0) (fun _ => 0) (fun _ => 0) 12 i12 i13 i14 i15 (fun _ => 0) (fun _ => 0) (fun _ => 0) 0 (-1) (fun _ => 0) 0 (fun _ => 0) (fun _ => 0) (fun _ => 0) (fun _ => 0) (fun _ => 0) i28 i29 j30 j31 j32 i33 r34 100 (fun _ => 0) (fun _ => 0) (fun _ => 0) (fun _ => 0) r40 i41) t) (va_A (zM k q j0 j1 (fun _ => 0) (fun _ => 0) r4 (fun _ => 0) r6 (fun _ => 0) (fun _ => 0) (fun _ => 0) (fun _ => 0) 12 i12 i13 i14 i15 (fun _ => 0) (fun _ => 0) (fun _ => 0) 0 (-1) (fun _ => 0) 0 (fun _ => 0) (fun _ => 0) (fun _ => 0) (fun _ => 0) (fun _ => 0) i28 i29 j30 j31 j32 i33 r34 100 (fun _ => 0) (fun _ => 0) (fun _ => 0) (fun _ => 0) r40 i41) sz)) 0 0 (va_A (zM k q j0 j1 (fun _ => 0) (fun _ => 0) r4 (fun _ => 0) r6 (fun _ => 0) (fun _ => 0) (fun _ => 0) (fun _ => 0) 12 i12 i13 i14 i15 (fun _ => 0) (fun _ => 0) (fun _ => 0) 0 (-1) (fun _ => 0) 0 (fun _ => 0) (fun _ => 0) (fun _ => 0) (fun _ => 0) (fun _ => 0) i28 i29 j30 j31 j32 i33 r34 100 (fun _ => 0) (fun _ => 0) (fun _ => 0) (fun _ => 0) r40 i41) sz) := by
  refine Met.ofW (cc := cX7_knownMany) (maxL := 4) (ret := (some .int)) (by decide) rfl ?_
  intro p e s m args below meth c s₁ B hml hv
  obtain ⟨rfl, hsz, hP, hK, hD0⟩ := hv
  have hx := B.exec
  have hb := B.bytes
  have hr := B.returns
  have hts : ∀ w ∈ zw, w.before _ s = true := fun w h => atoms_spec (ws := (wz yX7_knownMany cX7_knownMany 4 (some .int))) B.pre w (List.mem_cons_of_mem _ h)
  have hown : s.vm.findClass RX7 = some m.cls := findClass_of_methodNamed B.named
  have hlocks := B.notSynchronized
  subst hsz
  have hi7 := inw7
  have hD := hD0.self (sz := s.heap.size)
  generalize hAe : va_A (zM k q j0 j1 (fun _ => 0) (fun _ => 0) r4 (fun _ => 0) r6 (fun _ => 0) (fun _ => 0) (fun _ => 0) (fun _ => 0) 12 i12 i13 i14 i15 (fun _ => 0) (fun _ => 0) (fun _ => 0) 0 (-1) (fun _ => 0) 0 (fun _ => 0) (fun _ => 0) (fun _ => 0) (fun _ => 0) (fun _ => 0) i28 i29 j30 j31 j32 i33 r34 100 (fun _ => 0) (fun _ => 0) (fun _ => 0) (fun _ => 0) r40 i41) s.heap.size = A at hD ⊢
  have hA : ∀ q : Nat, s.heap.size ≤ q → A q := fun q h => by rw [← hAe]; exact Or.inr h
  have hl := lv_entry ([.ref (q 0), .int w]) (n := 4) (Nat.le_of_ble_eq_true rfl)
  rw [lg_entry_eq]
  generalize (lg_sl ([.ref (q 0), .int w]) ++ List.replicate (4 - (lg_sl ([.ref (q 0), .int w])).length) Slot.unset).toArray = ls at hl ⊢
  have hl : lv_has ls 4 [(0, .ref (q 0)), (1, .int w)] := hl
  refine z_start (w := (zM k q j0 j1 (fun _ => 0) (fun _ => 0) r4 (fun _ => 0) r6 (fun _ => 0) (fun _ => 0) (fun _ => 0) (fun _ => 0) 12 i12 i13 i14 i15 (fun _ => 0) (fun _ => 0) (fun _ => 0) 0 (-1) (fun _ => 0) 0 (fun _ => 0) (fun _ => 0) (fun _ => 0) (fun _ => 0) (fun _ => 0) i28 i29 j30 j31 j32 i33 r34 100 (fun _ => 0) (fun _ => 0) (fun _ => 0) (fun _ => 0) r40 i41)) hP hD (fun H locs hP hD hS => ?_)
  refine lv_iconst (v := 0) hx hb dX7_knownMany_0 (by decide) ?_
  refine lv_istore_n (lv' := [(2, .int 0), (0, .ref (q 0)), (1, .int w)]) hx hb dX7_knownMany_1 rfl hl (by decide) rfl (fun ls hl => ?_)
  refine lv_iconst (v := 0) hx hb dX7_knownMany_2 (by decide) ?_
  refine lv_istore_n (lv' := [(3, .int 0), (2, .int 0), (0, .ref (q 0)), (1, .int w)]) hx hb dX7_knownMany_3 rfl hl (by decide) rfl (fun ls hl => ?_)
  refine lv_iload_n hx hb dX7_knownMany_4 rfl (lv_at hl 0 rfl) ?_
  refine lv_aload_n hx hb dX7_knownMany_5 rfl (lv_at hl 2 rfl) ?_
  refine va_get (D := (dC, dI)) (ci := 7) (v := .int 0) (C := RX7) (T := TX7) (N := 42) hx hb hts hi7 hown hK.1 hP 0 rfl rfl 22 (by decide) (hts _ wmt3_189) (fun _ h9 => h9) rfl dX7_knownMany_6 ?_
  refine lv_icmp_ge (tgt := 48) hx hb dX7_knownMany_9 (by decide) (fun c_1 => ?_) (fun c_1 => ?_)
  · skip
    refine lv_iload_n hx hb dX7_knownMany_48 rfl (lv_at hl 1 rfl) ?_
    exact W.iret (v := 0) hx hb hr (fun t ht hW => ⟨⟨0, (), rfl, (by first | assumption | with_reducible rfl | contradiction | exact (if_pos (by repeat' (first | assumption | decide | constructor))).symm | exact (if_neg (fun hh => absurd hh (by assumption))).symm | decide | (exfalso; simp only [zi_le, zi_lt, zi_eq, zi_n0, zi_n1, zi_n2, zi_n3, zi_n4, zi_n23, zi_n24, zi_n100, zi_n399, zi_n60, zi_n255, zi_n99, zi_nm1, zi_n30] at *; omega) | (simp_all; done)), ⟨by rw [ht]; exact hP, hD⟩⟩, hS.F ht⟩) hS.2.2 dX7_knownMany_49
  · skip
    exact absurd (by decide) c_1
set_option maxHeartbeats 4000000 in
set_option maxRecDepth 100000 in
theorem c_X7_count (l : Launch) (dC : Nat → ClassId) (dI : Nat → Nat → Nat) (k : Nat → ClassId) (T : List (ClassId × FieldType)) (q : Nat → Nat) (j0 : Int64) (j1 : Int64) (r4 : Nat → Int32) (r6 : Nat → Int32) (i12 : Int32) (i13 : Int32) (i14 : Int32) (i15 : Int32) (i28 : Int32) (i29 : Int32) (j30 : Int64) (j31 : Int64) (j32 : Int64) (i33 : Int32) (r34 : Nat → Int32) (r40 : Nat → Int32) (w : Int32) (sz : Nat)  : Met l yX7_count (wz yX7_count cX7_count 2 (some .int)) ({ frames := 1, cells := 0, slots := 0, locals := 23 }) (va_Pc [.ref (q 0), .int w] (zPre dC dI k T (zM k q j0 j1 (fun _ => 0) (fun _ => 0) r4 (fun _ => 0) r6 (fun _ => 0) (fun _ => 0) (fun _ => 0) (fun _ => 0) 12 i12 i13 i14 i15 (fun _ => 0) (fun _ => 0) (fun _ => 0) 0 (-1) (fun _ => 0) 0 (fun _ => 0) (fun _ => 0) (fun _ => 0) (fun _ => 0) (fun _ => 0) i28 i29 j30 j31 j32 i33 r34 100 (fun _ => 0) (fun _ => 0) (fun _ => 0) (fun _ => 0) r40 0) sz)) (va_Qi (fun (r : Int32) (u : Unit) => r = zCount w) (fun u t => zPost dC dI (va_A (zM k q j0 j1 (fun _ => 0) (fun _ => 0) r4 (fun _ => 0) r6 (fun _ => 0) (fun _ => 0) (fun _ => 0) (fun _ => 0) 12 i12 i13 i14 i15 (fun _ => 0) (fun _ => 0) (fun _ => 0) 0 (-1) (fun _ => 0) 0 (fun _ => 0) (fun _ => 0) (fun _ => 0) (fun _ => 0) (fun _ => 0) i28 i29 j30 j31 j32 i33 r34 100 (fun _ => 0) (fun _ => 0) (fun _ => 0) (fun _ => 0) r40 0) sz) (zM k q j0 j1 (fun _ => 0) (fun _ => 0) r4 (fun _ => 0) r6 (fun _ => 0) (fun _ => 0) (fun _ => 0) (fun _ => 0) 12 i12 i13 i14 i15 (fun _ => 0) (fun _ => 0) (fun _ => 0) 0 (-1) (fun _ => 0) 0 (fun _ => 0) (fun _ => 0) (fun _ => 0) (fun _ => 0) (fun _ => 0) i28 i29 j30 j31 j32 i33 r34 100 (fun _ => 0) (fun _ => 0) (fun _ => 0) (fun _ => 0) r40 0) t) (va_A (zM k q j0 j1 (fun _ => 0) (fun _ => 0) r4 (fun _ => 0) r6 (fun _ => 0) (fun _ => 0) (fun _ => 0) (fun _ => 0) 12 i12 i13 i14 i15 (fun _ => 0) (fun _ => 0) (fun _ => 0) 0 (-1) (fun _ => 0) 0 (fun _ => 0) (fun _ => 0) (fun _ => 0) (fun _ => 0) (fun _ => 0) i28 i29 j30 j31 j32 i33 r34 100 (fun _ => 0) (fun _ => 0) (fun _ => 0) (fun _ => 0) r40 0) sz)) 0 0 (va_A (zM k q j0 j1 (fun _ => 0) (fun _ => 0) r4 (fun _ => 0) r6 (fun _ => 0) (fun _ => 0) (fun _ => 0) (fun _ => 0) 12 i12 i13 i14 i15 (fun _ => 0) (fun _ => 0) (fun _ => 0) 0 (-1) (fun _ => 0) 0 (fun _ => 0) (fun _ => 0) (fun _ => 0) (fun _ => 0) (fun _ => 0) i28 i29 j30 j31 j32 i33 r34 100 (fun _ => 0) (fun _ => 0) (fun _ => 0) (fun _ => 0) r40 0) sz) := by
  refine Met.ofW (cc := cX7_count) (maxL := 2) (ret := (some .int)) (by decide) rfl ?_
  intro p e s m args below meth c s₁ B hml hv
  obtain ⟨rfl, hsz, hP, hK, hD0⟩ := hv
  have hx := B.exec
  have hb := B.bytes
  have hr := B.returns
  have hts : ∀ w ∈ zw, w.before _ s = true := fun w h => atoms_spec (ws := (wz yX7_count cX7_count 2 (some .int))) B.pre w (List.mem_cons_of_mem _ h)
  have hown : s.vm.findClass RX7 = some m.cls := findClass_of_methodNamed B.named
  have hlocks := B.notSynchronized
  subst hsz
  have hi7 := inw7
  have hD := hD0.self (sz := s.heap.size)
  generalize hAe : va_A (zM k q j0 j1 (fun _ => 0) (fun _ => 0) r4 (fun _ => 0) r6 (fun _ => 0) (fun _ => 0) (fun _ => 0) (fun _ => 0) 12 i12 i13 i14 i15 (fun _ => 0) (fun _ => 0) (fun _ => 0) 0 (-1) (fun _ => 0) 0 (fun _ => 0) (fun _ => 0) (fun _ => 0) (fun _ => 0) (fun _ => 0) i28 i29 j30 j31 j32 i33 r34 100 (fun _ => 0) (fun _ => 0) (fun _ => 0) (fun _ => 0) r40 0) s.heap.size = A at hD ⊢
  have hA : ∀ q : Nat, s.heap.size ≤ q → A q := fun q h => by rw [← hAe]; exact Or.inr h
  have hl := lv_entry ([.ref (q 0), .int w]) (n := 2) (Nat.le_of_ble_eq_true rfl)
  rw [lg_entry_eq]
  generalize (lg_sl ([.ref (q 0), .int w]) ++ List.replicate (2 - (lg_sl ([.ref (q 0), .int w])).length) Slot.unset).toArray = ls at hl ⊢
  have hl : lv_has ls 2 [(0, .ref (q 0)), (1, .int w)] := hl
  refine z_start (w := (zM k q j0 j1 (fun _ => 0) (fun _ => 0) r4 (fun _ => 0) r6 (fun _ => 0) (fun _ => 0) (fun _ => 0) (fun _ => 0) 12 i12 i13 i14 i15 (fun _ => 0) (fun _ => 0) (fun _ => 0) 0 (-1) (fun _ => 0) 0 (fun _ => 0) (fun _ => 0) (fun _ => 0) (fun _ => 0) (fun _ => 0) i28 i29 j30 j31 j32 i33 r34 100 (fun _ => 0) (fun _ => 0) (fun _ => 0) (fun _ => 0) r40 0)) hP hD (fun H locs hP hD hS => ?_)
  refine lv_iload_n hx hb dX7_count_0 rfl (lv_at hl 1 rfl) ?_
  rcases Decidable.em (w.toInt < 0 ∨ 8 < w.toInt) with sw_1 | sw_1
  · skip
    refine lv_tableOut (tgt := 122) hx hb dX7_count_1 sw_1 (by decide) ?_
    refine lv_bipush (v := (-2)) hx hb dX7_count_122 (by decide) ?_
    exact W.iret (v := (-2)) hx hb hr (fun t ht hW => ⟨⟨(-2), (), rfl, (by first | assumption | with_reducible rfl | contradiction | exact (if_pos (by repeat' (first | assumption | decide | constructor))).symm | exact (if_neg (fun hh => absurd hh (by assumption))).symm | decide | (exfalso; simp only [zi_le, zi_lt, zi_eq, zi_n0, zi_n1, zi_n2, zi_n3, zi_n4, zi_n23, zi_n24, zi_n100, zi_n399, zi_n60, zi_n255, zi_n99, zi_nm1, zi_n30] at *; omega) | (simp_all; done)), ⟨by rw [ht]; exact hP, hD⟩⟩, hS.F ht⟩) hS.2.2 dX7_count_124
  · skip
    have sw_2 : w = 0 ∨ w = 1 ∨ w = 2 ∨ w = 3 ∨ w = 4 ∨ w = 5 ∨ w = 6 ∨ w = 7 ∨ w = 8 := by simp only [zi_eq, (by decide : (0 : Int32).toInt = 0), (by decide : (1 : Int32).toInt = 1), (by decide : (2 : Int32).toInt = 2), (by decide : (3 : Int32).toInt = 3), (by decide : (4 : Int32).toInt = 4), (by decide : (5 : Int32).toInt = 5), (by decide : (6 : Int32).toInt = 6), (by decide : (7 : Int32).toInt = 7), (by decide : (8 : Int32).toInt = 8)]; omega
    clear sw_1
    rcases sw_2 with rfl | rfl | rfl | rfl | rfl | rfl | rfl | rfl | rfl
    · skip
      refine lv_tableIn (off := 51) (tgt := 52) hx hb dX7_count_1 (by decide) (by decide) (by decide) (by decide) ?_
      refine lv_aload_n hx hb dX7_count_52 rfl (lv_at hl 0 rfl) ?_
      refine va_get (D := (dC, dI)) (ci := 7) (v := .int 0) (C := RX7) (T := TX7) (N := 42) hx hb hts hi7 hown hK.1 hP 0 rfl rfl 19 (by decide) (hts _ wmt3_186) (fun _ h9 => h9) rfl dX7_count_53 ?_
      exact W.iret (v := 0) hx hb hr (fun t ht hW => ⟨⟨0, (), rfl, (by first | assumption | with_reducible rfl | contradiction | exact (if_pos (by repeat' (first | assumption | decide | constructor))).symm | exact (if_neg (fun hh => absurd hh (by assumption))).symm | decide | (exfalso; simp only [zi_le, zi_lt, zi_eq, zi_n0, zi_n1, zi_n2, zi_n3, zi_n4, zi_n23, zi_n24, zi_n100, zi_n399, zi_n60, zi_n255, zi_n99, zi_nm1, zi_n30] at *; omega) | (simp_all; done)), ⟨by rw [ht]; exact hP, hD⟩⟩, hS.F ht⟩) hS.2.2 dX7_count_56
    · skip
      refine lv_tableIn (off := 56) (tgt := 57) hx hb dX7_count_1 (by decide) (by decide) (by decide) (by decide) ?_
      refine lv_aload_n hx hb dX7_count_57 rfl (lv_at hl 0 rfl) ?_
      refine va_get (D := (dC, dI)) (ci := 7) (v := .int 0) (C := RX7) (T := TX7) (N := 42) hx hb hts hi7 hown hK.1 hP 0 rfl rfl 22 (by decide) (hts _ wmt3_189) (fun _ h9 => h9) rfl dX7_count_58 ?_
      exact W.iret (v := 0) hx hb hr (fun t ht hW => ⟨⟨0, (), rfl, (by first | assumption | with_reducible rfl | contradiction | exact (if_pos (by repeat' (first | assumption | decide | constructor))).symm | exact (if_neg (fun hh => absurd hh (by assumption))).symm | decide | (exfalso; simp only [zi_le, zi_lt, zi_eq, zi_n0, zi_n1, zi_n2, zi_n3, zi_n4, zi_n23, zi_n24, zi_n100, zi_n399, zi_n60, zi_n255, zi_n99, zi_nm1, zi_n30] at *; omega) | (simp_all; done)), ⟨by rw [ht]; exact hP, hD⟩⟩, hS.F ht⟩) hS.2.2 dX7_count_61
    · skip
      refine lv_tableIn (off := 61) (tgt := 62) hx hb dX7_count_1 (by decide) (by decide) (by decide) (by decide) ?_
      refine lv_aload_n hx hb dX7_count_62 rfl (lv_at hl 0 rfl) ?_
      refine lv_iconst (v := 0) hx hb dX7_count_63 (by decide) ?_
      refine zcA_i (w := (zM k q j0 j1 (fun _ => 0) (fun _ => 0) r4 (fun _ => 0) r6 (fun _ => 0) (fun _ => 0) (fun _ => 0) (fun _ => 0) 12 i12 i13 i14 i15 (fun _ => 0) (fun _ => 0) (fun _ => 0) 0 (-1) (fun _ => 0) 0 (fun _ => 0) (fun _ => 0) (fun _ => 0) (fun _ => 0) (fun _ => 0) i28 i29 j30 j31 j32 i33 r34 100 (fun _ => 0) (fun _ => 0) (fun _ => 0) (fun _ => 0) r40 0)) (va_runV (As := [.int 0]) (rest := []) ⟨hx, hb, hml, hown, hts⟩ (c_X7_knownMany l dC dI k T q j0 j1 r4 r6 i12 i13 i14 i15 i28 i29 j30 j31 j32 i33 r34 r40 0 0 _ ) (cwV 1 hts (gzV wmt5_131 wmt5_133 wmp4_7 wmt1_8 wmt5_134) rfl rfl rfl (by decide +kernel) ⟨Nat.le_of_ble_eq_true rfl, Nat.le_of_ble_eq_true rfl⟩) (zpA_V (ci := 7) (q0 := 0) hK hP hD rfl rfl) rfl rfl hl.1 rfl (lv_room (Nat.le_of_ble_eq_true rfl)) dX7_count_64 ⟨Nat.le_of_ble_eq_true rfl, Nat.le_of_ble_eq_true rfl⟩) hD hS hA (fun r_3 u_4 H locs w_5 hP hD hS => ?_)
      have hP : va_P (dC, dI) vwCl (zM k q j0 j1 (fun _ => 0) (fun _ => 0) r4 (fun _ => 0) r6 (fun _ => 0) (fun _ => 0) (fun _ => 0) (fun _ => 0) 12 i12 i13 i14 i15 (fun _ => 0) (fun _ => 0) (fun _ => 0) 0 (-1) (fun _ => 0) 0 (fun _ => 0) (fun _ => 0) (fun _ => 0) (fun _ => 0) (fun _ => 0) i28 i29 j30 j31 j32 i33 r34 100 (fun _ => 0) (fun _ => 0) (fun _ => 0) (fun _ => 0) r40 0) H := hP
      have hD : va_D A (zM k q j0 j1 (fun _ => 0) (fun _ => 0) r4 (fun _ => 0) r6 (fun _ => 0) (fun _ => 0) (fun _ => 0) (fun _ => 0) 12 i12 i13 i14 i15 (fun _ => 0) (fun _ => 0) (fun _ => 0) 0 (-1) (fun _ => 0) 0 (fun _ => 0) (fun _ => 0) (fun _ => 0) (fun _ => 0) (fun _ => 0) i28 i29 j30 j31 j32 i33 r34 100 (fun _ => 0) (fun _ => 0) (fun _ => 0) (fun _ => 0) r40 0) := hD
      have e_6 := w_5
      replace e_6 : r_3 = 0 := e_6
      subst e_6
      exact W.iret (v := 0) hx hb hr (fun t ht hW => ⟨⟨0, (), rfl, (by first | assumption | with_reducible rfl | contradiction | exact (if_pos (by repeat' (first | assumption | decide | constructor))).symm | exact (if_neg (fun hh => absurd hh (by assumption))).symm | decide | (exfalso; simp only [zi_le, zi_lt, zi_eq, zi_n0, zi_n1, zi_n2, zi_n3, zi_n4, zi_n23, zi_n24, zi_n100, zi_n399, zi_n60, zi_n255, zi_n99, zi_nm1, zi_n30] at *; omega) | (simp_all; done)), ⟨by rw [ht]; exact hP, hD⟩⟩, hS.F ht⟩) hS.2.2 dX7_count_67
    · skip
      refine lv_tableIn (off := 67) (tgt := 68) hx hb dX7_count_1 (by decide) (by decide) (by decide) (by decide) ?_
      refine lv_aload_n hx hb dX7_count_68 rfl (lv_at hl 0 rfl) ?_
      refine lv_iconst (v := 1) hx hb dX7_count_69 (by decide) ?_
      refine zcA_i (w := (zM k q j0 j1 (fun _ => 0) (fun _ => 0) r4 (fun _ => 0) r6 (fun _ => 0) (fun _ => 0) (fun _ => 0) (fun _ => 0) 12 i12 i13 i14 i15 (fun _ => 0) (fun _ => 0) (fun _ => 0) 0 (-1) (fun _ => 0) 0 (fun _ => 0) (fun _ => 0) (fun _ => 0) (fun _ => 0) (fun _ => 0) i28 i29 j30 j31 j32 i33 r34 100 (fun _ => 0) (fun _ => 0) (fun _ => 0) (fun _ => 0) r40 0)) (va_runV (As := [.int 1]) (rest := []) ⟨hx, hb, hml, hown, hts⟩ (c_X7_knownMany l dC dI k T q j0 j1 r4 r6 i12 i13 i14 i15 i28 i29 j30 j31 j32 i33 r34 r40 0 1 _ ) (cwV 1 hts (gzV wmt5_131 wmt5_133 wmp4_7 wmt1_8 wmt5_134) rfl rfl rfl (by decide +kernel) ⟨Nat.le_of_ble_eq_true rfl, Nat.le_of_ble_eq_true rfl⟩) (zpA_V (ci := 7) (q0 := 0) hK hP hD rfl rfl) rfl rfl hl.1 rfl (lv_room (Nat.le_of_ble_eq_true rfl)) dX7_count_70 ⟨Nat.le_of_ble_eq_true rfl, Nat.le_of_ble_eq_true rfl⟩) hD hS hA (fun r_7 u_8 H locs w_9 hP hD hS => ?_)
      have hP : va_P (dC, dI) vwCl (zM k q j0 j1 (fun _ => 0) (fun _ => 0) r4 (fun _ => 0) r6 (fun _ => 0) (fun _ => 0) (fun _ => 0) (fun _ => 0) 12 i12 i13 i14 i15 (fun _ => 0) (fun _ => 0) (fun _ => 0) 0 (-1) (fun _ => 0) 0 (fun _ => 0) (fun _ => 0) (fun _ => 0) (fun _ => 0) (fun _ => 0) i28 i29 j30 j31 j32 i33 r34 100 (fun _ => 0) (fun _ => 0) (fun _ => 0) (fun _ => 0) r40 0) H := hP
      have hD : va_D A (zM k q j0 j1 (fun _ => 0) (fun _ => 0) r4 (fun _ => 0) r6 (fun _ => 0) (fun _ => 0) (fun _ => 0) (fun _ => 0) 12 i12 i13 i14 i15 (fun _ => 0) (fun _ => 0) (fun _ => 0) 0 (-1) (fun _ => 0) 0 (fun _ => 0) (fun _ => 0) (fun _ => 0) (fun _ => 0) (fun _ => 0) i28 i29 j30 j31 j32 i33 r34 100 (fun _ => 0) (fun _ => 0) (fun _ => 0) (fun _ => 0) r40 0) := hD
      have e_10 := w_9
      replace e_10 : r_7 = 0 := e_10
      subst e_10
      exact W.iret (v := 0) hx hb hr (fun t ht hW => ⟨⟨0, (), rfl, (by first | assumption | with_reducible rfl | contradiction | exact (if_pos (by repeat' (first | assumption | decide | constructor))).symm | exact (if_neg (fun hh => absurd hh (by assumption))).symm | decide | (exfalso; simp only [zi_le, zi_lt, zi_eq, zi_n0, zi_n1, zi_n2, zi_n3, zi_n4, zi_n23, zi_n24, zi_n100, zi_n399, zi_n60, zi_n255, zi_n99, zi_nm1, zi_n30] at *; omega) | (simp_all; done)), ⟨by rw [ht]; exact hP, hD⟩⟩, hS.F ht⟩) hS.2.2 dX7_count_73
    · skip
      refine lv_tableIn (off := 73) (tgt := 74) hx hb dX7_count_1 (by decide) (by decide) (by decide) (by decide) ?_
      refine lv_aload_n hx hb dX7_count_74 rfl (lv_at hl 0 rfl) ?_
      refine va_get (D := (dC, dI)) (ci := 7) (v := .ref (q 2)) (C := RX7) (T := TX7) (N := 42) hx hb hts hi7 hown hK.1 hP 0 rfl rfl 2 (by decide) (hts _ wmt3_169) (fun _ h9 => h9) rfl dX7_count_75 ?_
      refine lv_iconst (v := 0) hx hb dX7_count_78 (by decide) ?_
      refine va_iald (D := (dC, dI)) hx hb hK.1 hP 1 0 rfl rfl (show ¬ _ by decide) dX7_count_79 ?_
      refine z_top (v2 := .int 0) (rfl) ?_
      refine lv_aload_n hx hb dX7_count_80 rfl (lv_at hl 0 rfl) ?_
      refine va_get (D := (dC, dI)) (ci := 7) (v := .ref (q 2)) (C := RX7) (T := TX7) (N := 42) hx hb hts hi7 hown hK.1 hP 0 rfl rfl 2 (by decide) (hts _ wmt3_169) (fun _ h9 => h9) rfl dX7_count_81 ?_
      refine lv_iconst (v := 1) hx hb dX7_count_84 (by decide) ?_
      refine va_iald (D := (dC, dI)) hx hb hK.1 hP 1 0 rfl rfl (show ¬ _ by decide) dX7_count_85 ?_
      refine z_top (v2 := .int 0) (rfl) ?_
      refine lv_iadd hx hb dX7_count_86 ?_
      refine z_top (v2 := .int 0) (congrArg Value.int (by decide)) ?_
      refine lv_aload_n hx hb dX7_count_87 rfl (lv_at hl 0 rfl) ?_
      refine va_get (D := (dC, dI)) (ci := 7) (v := .ref (q 2)) (C := RX7) (T := TX7) (N := 42) hx hb hts hi7 hown hK.1 hP 0 rfl rfl 2 (by decide) (hts _ wmt3_169) (fun _ h9 => h9) rfl dX7_count_88 ?_
      refine lv_iconst (v := 2) hx hb dX7_count_91 (by decide) ?_
      refine va_iald (D := (dC, dI)) hx hb hK.1 hP 1 0 rfl rfl (show ¬ _ by decide) dX7_count_92 ?_
      refine z_top (v2 := .int 0) (rfl) ?_
      refine lv_iadd hx hb dX7_count_93 ?_
      refine z_top (v2 := .int 0) (congrArg Value.int (by decide)) ?_
      refine lv_aload_n hx hb dX7_count_94 rfl (lv_at hl 0 rfl) ?_
      refine va_get (D := (dC, dI)) (ci := 7) (v := .ref (q 2)) (C := RX7) (T := TX7) (N := 42) hx hb hts hi7 hown hK.1 hP 0 rfl rfl 2 (by decide) (hts _ wmt3_169) (fun _ h9 => h9) rfl dX7_count_95 ?_
      refine lv_iconst (v := 3) hx hb dX7_count_98 (by decide) ?_
      refine va_iald (D := (dC, dI)) hx hb hK.1 hP 1 0 rfl rfl (show ¬ _ by decide) dX7_count_99 ?_
      refine z_top (v2 := .int 0) (rfl) ?_
      refine lv_iadd hx hb dX7_count_100 ?_
      refine z_top (v2 := .int 0) (congrArg Value.int (by decide)) ?_
      exact W.iret (v := 0) hx hb hr (fun t ht hW => ⟨⟨0, (), rfl, (by first | assumption | with_reducible rfl | contradiction | exact (if_pos (by repeat' (first | assumption | decide | constructor))).symm | exact (if_neg (fun hh => absurd hh (by assumption))).symm | decide | (exfalso; simp only [zi_le, zi_lt, zi_eq, zi_n0, zi_n1, zi_n2, zi_n3, zi_n4, zi_n23, zi_n24, zi_n100, zi_n399, zi_n60, zi_n255, zi_n99, zi_nm1, zi_n30] at *; omega) | (simp_all; done)), ⟨by rw [ht]; exact hP, hD⟩⟩, hS.F ht⟩) hS.2.2 dX7_count_101
    · skip
      refine lv_tableIn (off := 101) (tgt := 102) hx hb dX7_count_1 (by decide) (by decide) (by decide) (by decide) ?_
      refine lv_aload_n hx hb dX7_count_102 rfl (lv_at hl 0 rfl) ?_
      refine va_get (D := (dC, dI)) (ci := 7) (v := .int 12) (C := RX7) (T := TX7) (N := 42) hx hb hts hi7 hown hK.1 hP 0 rfl rfl 11 (by decide) (hts _ wmt3_178) (fun _ h9 => h9) rfl dX7_count_103 ?_
      exact W.iret (v := 12) hx hb hr (fun t ht hW => ⟨⟨12, (), rfl, (by first | assumption | with_reducible rfl | contradiction | exact (if_pos (by repeat' (first | assumption | decide | constructor))).symm | exact (if_neg (fun hh => absurd hh (by assumption))).symm | decide | (exfalso; simp only [zi_le, zi_lt, zi_eq, zi_n0, zi_n1, zi_n2, zi_n3, zi_n4, zi_n23, zi_n24, zi_n100, zi_n399, zi_n60, zi_n255, zi_n99, zi_nm1, zi_n30] at *; omega) | (simp_all; done)), ⟨by rw [ht]; exact hP, hD⟩⟩, hS.F ht⟩) hS.2.2 dX7_count_106
    · skip
      refine lv_tableIn (off := 106) (tgt := 107) hx hb dX7_count_1 (by decide) (by decide) (by decide) (by decide) ?_
      refine lv_aload_n hx hb dX7_count_107 rfl (lv_at hl 0 rfl) ?_
      refine va_get (D := (dC, dI)) (ci := 7) (v := .int 100) (C := RX7) (T := TX7) (N := 42) hx hb hts hi7 hown hK.1 hP 0 rfl rfl 35 (by decide) (hts _ wmt3_202) (fun _ h9 => h9) rfl dX7_count_108 ?_
      exact W.iret (v := 100) hx hb hr (fun t ht hW => ⟨⟨100, (), rfl, (by first | assumption | with_reducible rfl | contradiction | exact (if_pos (by repeat' (first | assumption | decide | constructor))).symm | exact (if_neg (fun hh => absurd hh (by assumption))).symm | decide | (exfalso; simp only [zi_le, zi_lt, zi_eq, zi_n0, zi_n1, zi_n2, zi_n3, zi_n4, zi_n23, zi_n24, zi_n100, zi_n399, zi_n60, zi_n255, zi_n99, zi_nm1, zi_n30] at *; omega) | (simp_all; done)), ⟨by rw [ht]; exact hP, hD⟩⟩, hS.F ht⟩) hS.2.2 dX7_count_111
    · skip
      refine lv_tableIn (off := 111) (tgt := 112) hx hb dX7_count_1 (by decide) (by decide) (by decide) (by decide) ?_
      refine lv_aload_n hx hb dX7_count_112 rfl (lv_at hl 0 rfl) ?_
      refine va_get (D := (dC, dI)) (ci := 7) (v := .int (-1)) (C := RX7) (T := TX7) (N := 42) hx hb hts hi7 hown hK.1 hP 0 rfl rfl 20 (by decide) (hts _ wmt3_187) (fun _ h9 => h9) rfl dX7_count_113 ?_
      exact W.iret (v := (-1)) hx hb hr (fun t ht hW => ⟨⟨(-1), (), rfl, (by first | assumption | with_reducible rfl | contradiction | exact (if_pos (by repeat' (first | assumption | decide | constructor))).symm | exact (if_neg (fun hh => absurd hh (by assumption))).symm | decide | (exfalso; simp only [zi_le, zi_lt, zi_eq, zi_n0, zi_n1, zi_n2, zi_n3, zi_n4, zi_n23, zi_n24, zi_n100, zi_n399, zi_n60, zi_n255, zi_n99, zi_nm1, zi_n30] at *; omega) | (simp_all; done)), ⟨by rw [ht]; exact hP, hD⟩⟩, hS.F ht⟩) hS.2.2 dX7_count_116
    · skip
      refine lv_tableIn (off := 116) (tgt := 117) hx hb dX7_count_1 (by decide) (by decide) (by decide) (by decide) ?_
      refine lv_aload_n hx hb dX7_count_117 rfl (lv_at hl 0 rfl) ?_
      refine va_get (D := (dC, dI)) (ci := 7) (v := .int 0) (C := RX7) (T := TX7) (N := 42) hx hb hts hi7 hown hK.1 hP 0 rfl rfl 41 (by decide) (hts _ wmt3_208) (fun _ h9 => h9) rfl dX7_count_118 ?_
      exact W.iret (v := 0) hx hb hr (fun t ht hW => ⟨⟨0, (), rfl, (by first | assumption | with_reducible rfl | contradiction | exact (if_pos (by repeat' (first | assumption | decide | constructor))).symm | exact (if_neg (fun hh => absurd hh (by assumption))).symm | decide | (exfalso; simp only [zi_le, zi_lt, zi_eq, zi_n0, zi_n1, zi_n2, zi_n3, zi_n4, zi_n23, zi_n24, zi_n100, zi_n399, zi_n60, zi_n255, zi_n99, zi_nm1, zi_n30] at *; omega) | (simp_all; done)), ⟨by rw [ht]; exact hP, hD⟩⟩, hS.F ht⟩) hS.2.2 dX7_count_121
set_option maxHeartbeats 4000000 in
set_option maxRecDepth 100000 in
theorem c_X7_part (l : Launch) (dC : Nat → ClassId) (dI : Nat → Nat → Nat) (k : Nat → ClassId) (T : List (ClassId × FieldType)) (q : Nat → Nat) (j0 : Int64) (j1 : Int64) (r4 : Nat → Int32) (r6 : Nat → Int32) (i12 : Int32) (i13 : Int32) (i14 : Int32) (i15 : Int32) (i28 : Int32) (i29 : Int32) (j30 : Int64) (j31 : Int64) (j32 : Int64) (i33 : Int32) (r34 : Nat → Int32) (r40 : Nat → Int32) (i41 : Int32) (w : Int32) (sz : Nat)  : Met l yX7_part (wz yX7_part cX7_part 2 (some .long)) ({ frames := 0, cells := 0, slots := 0, locals := 0 }) (va_Pc [.ref (q 0), .int w] (zPre dC dI k T (zM k q j0 j1 (fun _ => 0) (fun _ => 0) r4 (fun _ => 0) r6 (fun _ => 0) (fun _ => 0) (fun _ => 0) (fun _ => 0) 12 i12 i13 i14 i15 (fun _ => 0) (fun _ => 0) (fun _ => 0) 0 (-1) (fun _ => 0) 0 (fun _ => 0) (fun _ => 0) (fun _ => 0) (fun _ => 0) (fun _ => 0) i28 i29 j30 j31 j32 i33 r34 100 (fun _ => 0) (fun _ => 0) (fun _ => 0) (fun _ => 0) r40 i41) sz)) (va_Ql (fun (r : Int64) (u : Unit) => (r = if w = 0 then j0 else j1)) (fun u t => zPost dC dI (va_A (zM k q j0 j1 (fun _ => 0) (fun _ => 0) r4 (fun _ => 0) r6 (fun _ => 0) (fun _ => 0) (fun _ => 0) (fun _ => 0) 12 i12 i13 i14 i15 (fun _ => 0) (fun _ => 0) (fun _ => 0) 0 (-1) (fun _ => 0) 0 (fun _ => 0) (fun _ => 0) (fun _ => 0) (fun _ => 0) (fun _ => 0) i28 i29 j30 j31 j32 i33 r34 100 (fun _ => 0) (fun _ => 0) (fun _ => 0) (fun _ => 0) r40 i41) sz) (zM k q j0 j1 (fun _ => 0) (fun _ => 0) r4 (fun _ => 0) r6 (fun _ => 0) (fun _ => 0) (fun _ => 0) (fun _ => 0) 12 i12 i13 i14 i15 (fun _ => 0) (fun _ => 0) (fun _ => 0) 0 (-1) (fun _ => 0) 0 (fun _ => 0) (fun _ => 0) (fun _ => 0) (fun _ => 0) (fun _ => 0) i28 i29 j30 j31 j32 i33 r34 100 (fun _ => 0) (fun _ => 0) (fun _ => 0) (fun _ => 0) r40 i41) t) (va_A (zM k q j0 j1 (fun _ => 0) (fun _ => 0) r4 (fun _ => 0) r6 (fun _ => 0) (fun _ => 0) (fun _ => 0) (fun _ => 0) 12 i12 i13 i14 i15 (fun _ => 0) (fun _ => 0) (fun _ => 0) 0 (-1) (fun _ => 0) 0 (fun _ => 0) (fun _ => 0) (fun _ => 0) (fun _ => 0) (fun _ => 0) i28 i29 j30 j31 j32 i33 r34 100 (fun _ => 0) (fun _ => 0) (fun _ => 0) (fun _ => 0) r40 i41) sz)) 0 0 (va_A (zM k q j0 j1 (fun _ => 0) (fun _ => 0) r4 (fun _ => 0) r6 (fun _ => 0) (fun _ => 0) (fun _ => 0) (fun _ => 0) 12 i12 i13 i14 i15 (fun _ => 0) (fun _ => 0) (fun _ => 0) 0 (-1) (fun _ => 0) 0 (fun _ => 0) (fun _ => 0) (fun _ => 0) (fun _ => 0) (fun _ => 0) i28 i29 j30 j31 j32 i33 r34 100 (fun _ => 0) (fun _ => 0) (fun _ => 0) (fun _ => 0) r40 i41) sz) := by
  refine Met.ofW (cc := cX7_part) (maxL := 2) (ret := (some .long)) (by decide) rfl ?_
  intro p e s m args below meth c s₁ B hml hv
  obtain ⟨rfl, hsz, hP, hK, hD0⟩ := hv
  have hx := B.exec
  have hb := B.bytes
  have hr := B.returns
  have hts : ∀ w ∈ zw, w.before _ s = true := fun w h => atoms_spec (ws := (wz yX7_part cX7_part 2 (some .long))) B.pre w (List.mem_cons_of_mem _ h)
  have hown : s.vm.findClass RX7 = some m.cls := findClass_of_methodNamed B.named
  have hlocks := B.notSynchronized
  subst hsz
  have hi7 := inw7
  have hD := hD0.self (sz := s.heap.size)
  generalize hAe : va_A (zM k q j0 j1 (fun _ => 0) (fun _ => 0) r4 (fun _ => 0) r6 (fun _ => 0) (fun _ => 0) (fun _ => 0) (fun _ => 0) 12 i12 i13 i14 i15 (fun _ => 0) (fun _ => 0) (fun _ => 0) 0 (-1) (fun _ => 0) 0 (fun _ => 0) (fun _ => 0) (fun _ => 0) (fun _ => 0) (fun _ => 0) i28 i29 j30 j31 j32 i33 r34 100 (fun _ => 0) (fun _ => 0) (fun _ => 0) (fun _ => 0) r40 i41) s.heap.size = A at hD ⊢
  have hA : ∀ q : Nat, s.heap.size ≤ q → A q := fun q h => by rw [← hAe]; exact Or.inr h
  have hl := lv_entry ([.ref (q 0), .int w]) (n := 2) (Nat.le_of_ble_eq_true rfl)
  rw [lg_entry_eq]
  generalize (lg_sl ([.ref (q 0), .int w]) ++ List.replicate (2 - (lg_sl ([.ref (q 0), .int w])).length) Slot.unset).toArray = ls at hl ⊢
  have hl : lv_has ls 2 [(0, .ref (q 0)), (1, .int w)] := hl
  refine z_start (w := (zM k q j0 j1 (fun _ => 0) (fun _ => 0) r4 (fun _ => 0) r6 (fun _ => 0) (fun _ => 0) (fun _ => 0) (fun _ => 0) 12 i12 i13 i14 i15 (fun _ => 0) (fun _ => 0) (fun _ => 0) 0 (-1) (fun _ => 0) 0 (fun _ => 0) (fun _ => 0) (fun _ => 0) (fun _ => 0) (fun _ => 0) i28 i29 j30 j31 j32 i33 r34 100 (fun _ => 0) (fun _ => 0) (fun _ => 0) (fun _ => 0) r40 i41)) hP hD (fun H locs hP hD hS => ?_)
  refine lv_iload_n hx hb dX7_part_0 rfl (lv_at hl 1 rfl) ?_
  refine lv_if_ne (tgt := 11) hx hb dX7_part_1 (by decide) (fun c_1 => ?_) (fun c_1 => ?_)
  · skip
    refine lv_aload_n hx hb dX7_part_11 rfl (lv_at hl 0 rfl) ?_
    refine va_get (D := (dC, dI)) (ci := 7) (v := .long j1) (C := RX7) (T := TX7) (N := 42) hx hb hts hi7 hown hK.1 hP 0 rfl rfl 1 (by decide) (hts _ wmt3_168) (fun _ h9 => h9) rfl dX7_part_12 ?_
    exact W.lret (v := j1) hx hb hr (fun t ht hW => ⟨⟨j1, (), rfl, (by first | assumption | with_reducible rfl | contradiction | exact (if_pos (by repeat' (first | assumption | decide | constructor))).symm | exact (if_neg (fun hh => absurd hh (by assumption))).symm | decide | (exfalso; simp only [zi_le, zi_lt, zi_eq, zi_n0, zi_n1, zi_n2, zi_n3, zi_n4, zi_n23, zi_n24, zi_n100, zi_n399, zi_n60, zi_n255, zi_n99, zi_nm1, zi_n30] at *; omega) | (simp_all; done)), ⟨by rw [ht]; exact hP, hD⟩⟩, hS.F ht⟩) hS.2.2 dX7_part_15
  · skip
    refine lv_aload_n hx hb dX7_part_4 rfl (lv_at hl 0 rfl) ?_
    refine va_get (D := (dC, dI)) (ci := 7) (v := .long j0) (C := RX7) (T := TX7) (N := 42) hx hb hts hi7 hown hK.1 hP 0 rfl rfl 0 (by decide) (hts _ wmt3_167) (fun _ h9 => h9) rfl dX7_part_5 ?_
    refine lv_goto (tgt := 15) hx hb dX7_part_8 (by decide) ?_
    exact W.lret (v := j0) hx hb hr (fun t ht hW => ⟨⟨j0, (), rfl, (by first | assumption | with_reducible rfl | contradiction | exact (if_pos (by repeat' (first | assumption | decide | constructor))).symm | exact (if_neg (fun hh => absurd hh (by assumption))).symm | decide | (exfalso; simp only [zi_le, zi_lt, zi_eq, zi_n0, zi_n1, zi_n2, zi_n3, zi_n4, zi_n23, zi_n24, zi_n100, zi_n399, zi_n60, zi_n255, zi_n99, zi_nm1, zi_n30] at *; omega) | (simp_all; done)), ⟨by rw [ht]; exact hP, hD⟩⟩, hS.F ht⟩) hS.2.2 dX7_part_15
set_option maxHeartbeats 4000000 in
set_option maxRecDepth 100000 in
theorem c_X7_givenOf (l : Launch) (dC : Nat → ClassId) (dI : Nat → Nat → Nat) (k : Nat → ClassId) (T : List (ClassId × FieldType)) (q : Nat → Nat) (j0 : Int64) (j1 : Int64) (r4 : Nat → Int32) (r6 : Nat → Int32) (i12 : Int32) (i13 : Int32) (i14 : Int32) (i15 : Int32) (i28 : Int32) (i29 : Int32) (j30 : Int64) (j31 : Int64) (j32 : Int64) (i33 : Int32) (r34 : Nat → Int32) (r40 : Nat → Int32) (i41 : Int32) (pe : Int32) (sz : Nat)  : Met l yX7_givenOf (wz yX7_givenOf cX7_givenOf 11 (some .int)) ({ frames := 0, cells := 0, slots := 0, locals := 0 }) (va_Pc [.ref (q 0), .int pe] (zPre dC dI k T (zM k q j0 j1 (fun _ => 0) (fun _ => 0) r4 (fun _ => 0) r6 (fun _ => 0) (fun _ => 0) (fun _ => 0) (fun _ => 0) 12 i12 i13 i14 i15 (fun _ => 0) (fun _ => 0) (fun _ => 0) 0 (-1) (fun _ => 0) 0 (fun _ => 0) (fun _ => 0) (fun _ => 0) (fun _ => 0) (fun _ => 0) i28 i29 j30 j31 j32 i33 r34 100 (fun _ => 0) (fun _ => 0) (fun _ => 0) (fun _ => 0) r40 i41) sz)) (va_Qi (fun (r : Int32) (u : (Nat → Int32)) => r = 0) (fun u t => zPost dC dI (va_A (zM k q j0 j1 (fun _ => 0) (fun _ => 0) r4 (fun _ => 0) r6 (fun _ => 0) (fun _ => 0) (fun _ => 0) (fun _ => 0) 12 i12 i13 i14 i15 (fun _ => 0) (fun _ => 0) (fun _ => 0) 0 (-1) (fun _ => 0) 0 (fun _ => 0) (fun _ => 0) (fun _ => 0) (fun _ => 0) (fun _ => 0) i28 i29 j30 j31 j32 i33 r34 100 (fun _ => 0) (fun _ => 0) (fun _ => 0) (fun _ => 0) r40 i41) sz) (zM k q 1 1 (fun _ => 0) (fun _ => 0) r4 (fun _ => 0) r6 (fun _ => 0) (fun _ => 0) (fun _ => 0) (fun _ => 0) 12 i12 i13 i14 i15 (fun _ => 0) (fun _ => 0) (fun _ => 0) 0 (-1) (fun _ => 0) 0 (fun _ => 0) (fun _ => 0) (fun _ => 0) (fun _ => 0) (fun _ => 0) i28 i29 j30 j31 j32 0 u 100 (fun _ => 0) (fun _ => 0) (fun _ => 0) (fun _ => 0) r40 i41) t) (va_A (zM k q j0 j1 (fun _ => 0) (fun _ => 0) r4 (fun _ => 0) r6 (fun _ => 0) (fun _ => 0) (fun _ => 0) (fun _ => 0) 12 i12 i13 i14 i15 (fun _ => 0) (fun _ => 0) (fun _ => 0) 0 (-1) (fun _ => 0) 0 (fun _ => 0) (fun _ => 0) (fun _ => 0) (fun _ => 0) (fun _ => 0) i28 i29 j30 j31 j32 i33 r34 100 (fun _ => 0) (fun _ => 0) (fun _ => 0) (fun _ => 0) r40 i41) sz)) 0 0 (va_A (zM k q j0 j1 (fun _ => 0) (fun _ => 0) r4 (fun _ => 0) r6 (fun _ => 0) (fun _ => 0) (fun _ => 0) (fun _ => 0) 12 i12 i13 i14 i15 (fun _ => 0) (fun _ => 0) (fun _ => 0) 0 (-1) (fun _ => 0) 0 (fun _ => 0) (fun _ => 0) (fun _ => 0) (fun _ => 0) (fun _ => 0) i28 i29 j30 j31 j32 i33 r34 100 (fun _ => 0) (fun _ => 0) (fun _ => 0) (fun _ => 0) r40 i41) sz) := by
  refine Met.ofW (cc := cX7_givenOf) (maxL := 11) (ret := (some .int)) (by decide) rfl ?_
  intro p e s m args below meth c s₁ B hml hv
  obtain ⟨rfl, hsz, hP, hK, hD0⟩ := hv
  have hx := B.exec
  have hb := B.bytes
  have hr := B.returns
  have hts : ∀ w ∈ zw, w.before _ s = true := fun w h => atoms_spec (ws := (wz yX7_givenOf cX7_givenOf 11 (some .int))) B.pre w (List.mem_cons_of_mem _ h)
  have hown : s.vm.findClass RX7 = some m.cls := findClass_of_methodNamed B.named
  have hlocks := B.notSynchronized
  subst hsz
  have hi7 := inw7
  have hD := hD0.self (sz := s.heap.size)
  generalize hAe : va_A (zM k q j0 j1 (fun _ => 0) (fun _ => 0) r4 (fun _ => 0) r6 (fun _ => 0) (fun _ => 0) (fun _ => 0) (fun _ => 0) 12 i12 i13 i14 i15 (fun _ => 0) (fun _ => 0) (fun _ => 0) 0 (-1) (fun _ => 0) 0 (fun _ => 0) (fun _ => 0) (fun _ => 0) (fun _ => 0) (fun _ => 0) i28 i29 j30 j31 j32 i33 r34 100 (fun _ => 0) (fun _ => 0) (fun _ => 0) (fun _ => 0) r40 i41) s.heap.size = A at hD ⊢
  have hA : ∀ q : Nat, s.heap.size ≤ q → A q := fun q h => by rw [← hAe]; exact Or.inr h
  have hl := lv_entry ([.ref (q 0), .int pe]) (n := 11) (Nat.le_of_ble_eq_true rfl)
  rw [lg_entry_eq]
  generalize (lg_sl ([.ref (q 0), .int pe]) ++ List.replicate (11 - (lg_sl ([.ref (q 0), .int pe])).length) Slot.unset).toArray = ls at hl ⊢
  have hl : lv_has ls 11 [(0, .ref (q 0)), (1, .int pe)] := hl
  refine z_start (w := (zM k q j0 j1 (fun _ => 0) (fun _ => 0) r4 (fun _ => 0) r6 (fun _ => 0) (fun _ => 0) (fun _ => 0) (fun _ => 0) 12 i12 i13 i14 i15 (fun _ => 0) (fun _ => 0) (fun _ => 0) 0 (-1) (fun _ => 0) 0 (fun _ => 0) (fun _ => 0) (fun _ => 0) (fun _ => 0) (fun _ => 0) i28 i29 j30 j31 j32 i33 r34 100 (fun _ => 0) (fun _ => 0) (fun _ => 0) (fun _ => 0) r40 i41)) hP hD (fun H locs hP hD hS => ?_)
  refine lv_iconst (v := 0) hx hb dX7_givenOf_0 (by decide) ?_
  refine lv_istore_n (lv' := [(2, .int 0), (0, .ref (q 0)), (1, .int pe)]) hx hb dX7_givenOf_1 rfl hl (by decide) rfl (fun ls hl => ?_)
  refine lv_iconst (v := 0) hx hb dX7_givenOf_2 (by decide) ?_
  refine lv_istore_n (lv' := [(3, .int 0), (2, .int 0), (0, .ref (q 0)), (1, .int pe)]) hx hb dX7_givenOf_3 rfl hl (by decide) rfl (fun ls hl => ?_)
  refine lv_aload_n hx hb dX7_givenOf_4 rfl (lv_at hl 2 rfl) ?_
  refine lv_iconst (v := 0) hx hb dX7_givenOf_5 (by decide) ?_
  refine va_put (D := (dC, dI)) (ci := 7) (v := .int 0) (ty := .boolean) (C := RX7) (T := TX7) (N := 42) hx hb hts hi7 tyX7 tyX7_ok nmX7 hown hK.1 hP hD hS 0 rfl rfl 33 (by decide) (hts _ wmt3_200) (fun _ h9 => h9) rfl (by decide +kernel) rfl rfl (Nat.le_of_ble_eq_true rfl) dX7_givenOf_6 (fun H locs hP hD hS => ?_)
  have hP : va_P (dC, dI) vwCl (zM k q j0 j1 (fun _ => 0) (fun _ => 0) r4 (fun _ => 0) r6 (fun _ => 0) (fun _ => 0) (fun _ => 0) (fun _ => 0) 12 i12 i13 i14 i15 (fun _ => 0) (fun _ => 0) (fun _ => 0) 0 (-1) (fun _ => 0) 0 (fun _ => 0) (fun _ => 0) (fun _ => 0) (fun _ => 0) (fun _ => 0) i28 i29 j30 j31 j32 0 r34 100 (fun _ => 0) (fun _ => 0) (fun _ => 0) (fun _ => 0) r40 i41) H := hP
  have hD : va_D A (zM k q j0 j1 (fun _ => 0) (fun _ => 0) r4 (fun _ => 0) r6 (fun _ => 0) (fun _ => 0) (fun _ => 0) (fun _ => 0) 12 i12 i13 i14 i15 (fun _ => 0) (fun _ => 0) (fun _ => 0) 0 (-1) (fun _ => 0) 0 (fun _ => 0) (fun _ => 0) (fun _ => 0) (fun _ => 0) (fun _ => 0) i28 i29 j30 j31 j32 0 r34 100 (fun _ => 0) (fun _ => 0) (fun _ => 0) (fun _ => 0) r40 i41) := hD
  refine lv_lconst (v := 1) hx hb dX7_givenOf_9 (by decide) ?_
  refine lv_lstore (lv' := [(4, .long 1), (3, .int 0), (2, .int 0), (0, .ref (q 0)), (1, .int pe)]) hx hb dX7_givenOf_10 hl (by decide) rfl (fun ls hl => ?_)
  refine lv_lconst (v := 1) hx hb dX7_givenOf_12 (by decide) ?_
  refine lv_lstore (lv' := [(6, .long 1), (4, .long 1), (3, .int 0), (2, .int 0), (0, .ref (q 0)), (1, .int pe)]) hx hb dX7_givenOf_13 hl (by decide) rfl (fun ls hl => ?_)
  refine lv_iconst (v := 0) hx hb dX7_givenOf_15 (by decide) ?_
  refine lv_istore (lv' := [(8, .int 0), (6, .long 1), (4, .long 1), (3, .int 0), (2, .int 0), (0, .ref (q 0)), (1, .int pe)]) hx hb dX7_givenOf_16 hl (by decide) rfl (fun ls hl => ?_)
  refine lv_iload hx hb dX7_givenOf_18 (lv_at hl 0 rfl) ?_
  refine lv_iconst (v := 4) hx hb dX7_givenOf_20 (by decide) ?_
  refine lv_icmp_ge (tgt := 112) hx hb dX7_givenOf_21 (by decide) (fun c_1 => ?_) (fun c_1 => ?_)
  · skip
    exact absurd c_1 (by decide)
  · skip
    refine lv_iconst (v := 0) hx hb dX7_givenOf_24 (by decide) ?_
    refine lv_istore (lv' := [(9, .int 0), (8, .int 0), (6, .long 1), (4, .long 1), (3, .int 0), (2, .int 0), (0, .ref (q 0)), (1, .int pe)]) hx hb dX7_givenOf_25 hl (by decide) rfl (fun ls hl => ?_)
    refine lv_iload hx hb dX7_givenOf_27 (lv_at hl 0 rfl) ?_
    refine lv_aload_n hx hb dX7_givenOf_29 rfl (lv_at hl 6 rfl) ?_
    refine va_get (D := (dC, dI)) (ci := 7) (v := .int 0) (C := RX7) (T := TX7) (N := 42) hx hb hts hi7 hown hK.1 hP 0 rfl rfl 22 (by decide) (hts _ wmt3_189) (fun _ h9 => h9) rfl dX7_givenOf_30 ?_
    refine lv_icmp_ge (tgt := 106) hx hb dX7_givenOf_33 (by decide) (fun c_2 => ?_) (fun c_2 => ?_)
    · skip
      refine lv_iinc (v := 1) (lv' := [(8, .int 1), (9, .int 0), (6, .long 1), (4, .long 1), (3, .int 0), (2, .int 0), (0, .ref (q 0)), (1, .int pe)]) hx hb dX7_givenOf_106 hl (k := 1) rfl (by decide) (by decide) rfl (fun ls hl => ?_)
      refine lv_goto (tgt := 18) hx hb dX7_givenOf_109 (by decide) ?_
      refine lv_iload hx hb dX7_givenOf_18 (lv_at hl 0 rfl) ?_
      refine lv_iconst (v := 4) hx hb dX7_givenOf_20 (by decide) ?_
      refine lv_icmp_ge (tgt := 112) hx hb dX7_givenOf_21 (by decide) (fun c_3 => ?_) (fun c_3 => ?_)
      · skip
        exact absurd c_3 (by decide)
      · skip
        refine lv_iconst (v := 0) hx hb dX7_givenOf_24 (by decide) ?_
        refine lv_istore (lv' := [(9, .int 0), (8, .int 1), (6, .long 1), (4, .long 1), (3, .int 0), (2, .int 0), (0, .ref (q 0)), (1, .int pe)]) hx hb dX7_givenOf_25 hl (by decide) rfl (fun ls hl => ?_)
        refine lv_iload hx hb dX7_givenOf_27 (lv_at hl 0 rfl) ?_
        refine lv_aload_n hx hb dX7_givenOf_29 rfl (lv_at hl 6 rfl) ?_
        refine va_get (D := (dC, dI)) (ci := 7) (v := .int 0) (C := RX7) (T := TX7) (N := 42) hx hb hts hi7 hown hK.1 hP 0 rfl rfl 22 (by decide) (hts _ wmt3_189) (fun _ h9 => h9) rfl dX7_givenOf_30 ?_
        refine lv_icmp_ge (tgt := 106) hx hb dX7_givenOf_33 (by decide) (fun c_4 => ?_) (fun c_4 => ?_)
        · skip
          refine lv_iinc (v := 2) (lv' := [(8, .int 2), (9, .int 0), (6, .long 1), (4, .long 1), (3, .int 0), (2, .int 0), (0, .ref (q 0)), (1, .int pe)]) hx hb dX7_givenOf_106 hl (k := 1) rfl (by decide) (by decide) rfl (fun ls hl => ?_)
          refine lv_goto (tgt := 18) hx hb dX7_givenOf_109 (by decide) ?_
          refine lv_iload hx hb dX7_givenOf_18 (lv_at hl 0 rfl) ?_
          refine lv_iconst (v := 4) hx hb dX7_givenOf_20 (by decide) ?_
          refine lv_icmp_ge (tgt := 112) hx hb dX7_givenOf_21 (by decide) (fun c_5 => ?_) (fun c_5 => ?_)
          · skip
            exact absurd c_5 (by decide)
          · skip
            refine lv_iconst (v := 0) hx hb dX7_givenOf_24 (by decide) ?_
            refine lv_istore (lv' := [(9, .int 0), (8, .int 2), (6, .long 1), (4, .long 1), (3, .int 0), (2, .int 0), (0, .ref (q 0)), (1, .int pe)]) hx hb dX7_givenOf_25 hl (by decide) rfl (fun ls hl => ?_)
            refine lv_iload hx hb dX7_givenOf_27 (lv_at hl 0 rfl) ?_
            refine lv_aload_n hx hb dX7_givenOf_29 rfl (lv_at hl 6 rfl) ?_
            refine va_get (D := (dC, dI)) (ci := 7) (v := .int 0) (C := RX7) (T := TX7) (N := 42) hx hb hts hi7 hown hK.1 hP 0 rfl rfl 22 (by decide) (hts _ wmt3_189) (fun _ h9 => h9) rfl dX7_givenOf_30 ?_
            refine lv_icmp_ge (tgt := 106) hx hb dX7_givenOf_33 (by decide) (fun c_6 => ?_) (fun c_6 => ?_)
            · skip
              refine lv_iinc (v := 3) (lv' := [(8, .int 3), (9, .int 0), (6, .long 1), (4, .long 1), (3, .int 0), (2, .int 0), (0, .ref (q 0)), (1, .int pe)]) hx hb dX7_givenOf_106 hl (k := 1) rfl (by decide) (by decide) rfl (fun ls hl => ?_)
              refine lv_goto (tgt := 18) hx hb dX7_givenOf_109 (by decide) ?_
              refine lv_iload hx hb dX7_givenOf_18 (lv_at hl 0 rfl) ?_
              refine lv_iconst (v := 4) hx hb dX7_givenOf_20 (by decide) ?_
              refine lv_icmp_ge (tgt := 112) hx hb dX7_givenOf_21 (by decide) (fun c_7 => ?_) (fun c_7 => ?_)
              · skip
                exact absurd c_7 (by decide)
              · skip
                refine lv_iconst (v := 0) hx hb dX7_givenOf_24 (by decide) ?_
                refine lv_istore (lv' := [(9, .int 0), (8, .int 3), (6, .long 1), (4, .long 1), (3, .int 0), (2, .int 0), (0, .ref (q 0)), (1, .int pe)]) hx hb dX7_givenOf_25 hl (by decide) rfl (fun ls hl => ?_)
                refine lv_iload hx hb dX7_givenOf_27 (lv_at hl 0 rfl) ?_
                refine lv_aload_n hx hb dX7_givenOf_29 rfl (lv_at hl 6 rfl) ?_
                refine va_get (D := (dC, dI)) (ci := 7) (v := .int 0) (C := RX7) (T := TX7) (N := 42) hx hb hts hi7 hown hK.1 hP 0 rfl rfl 22 (by decide) (hts _ wmt3_189) (fun _ h9 => h9) rfl dX7_givenOf_30 ?_
                refine lv_icmp_ge (tgt := 106) hx hb dX7_givenOf_33 (by decide) (fun c_8 => ?_) (fun c_8 => ?_)
                · skip
                  refine lv_iinc (v := 4) (lv' := [(8, .int 4), (9, .int 0), (6, .long 1), (4, .long 1), (3, .int 0), (2, .int 0), (0, .ref (q 0)), (1, .int pe)]) hx hb dX7_givenOf_106 hl (k := 1) rfl (by decide) (by decide) rfl (fun ls hl => ?_)
                  refine lv_goto (tgt := 18) hx hb dX7_givenOf_109 (by decide) ?_
                  refine lv_iload hx hb dX7_givenOf_18 (lv_at hl 0 rfl) ?_
                  refine lv_iconst (v := 4) hx hb dX7_givenOf_20 (by decide) ?_
                  refine lv_icmp_ge (tgt := 112) hx hb dX7_givenOf_21 (by decide) (fun c_9 => ?_) (fun c_9 => ?_)
                  · skip
                    refine lv_iload_n hx hb dX7_givenOf_112 rfl (lv_at hl 5 rfl) ?_
                    refine lv_if_eq (tgt := 119) hx hb dX7_givenOf_113 (by decide) (fun c_10 => ?_) (fun c_10 => ?_)
                    · skip
                      refine lv_iconst (v := 0) hx hb dX7_givenOf_119 (by decide) ?_
                      refine lv_istore (lv' := [(8, .int 0), (9, .int 0), (6, .long 1), (4, .long 1), (3, .int 0), (2, .int 0), (0, .ref (q 0)), (1, .int pe)]) hx hb dX7_givenOf_120 hl (by decide) rfl (fun ls hl => ?_)
                      refine lv_iload hx hb dX7_givenOf_122 (lv_at hl 0 rfl) ?_
                      refine lv_iconst (v := 4) hx hb dX7_givenOf_124 (by decide) ?_
                      refine lv_icmp_ge (tgt := 142) hx hb dX7_givenOf_125 (by decide) (fun c_11 => ?_) (fun c_11 => ?_)
                      · skip
                        exact absurd c_11 (by decide)
                      · skip
                        refine lv_aload_n hx hb dX7_givenOf_128 rfl (lv_at hl 6 rfl) ?_
                        refine va_get (D := (dC, dI)) (ci := 7) (v := .ref (q 34)) (C := RX7) (T := TX7) (N := 42) hx hb hts hi7 hown hK.1 hP 0 rfl rfl 34 (by decide) (hts _ wmt3_201) (fun _ h9 => h9) rfl dX7_givenOf_129 ?_
                        refine lv_iload hx hb dX7_givenOf_132 (lv_at hl 0 rfl) ?_
                        refine lv_iconst (v := 0) hx hb dX7_givenOf_134 (by decide) ?_
                        refine va_iast (D := (dC, dI)) hx hb hK.1 hP hD hS 19 0 rfl rfl (show ¬ _ by decide) dX7_givenOf_135 (fun H locs hP hD hS => ?_)
                        have hP : va_P (dC, dI) vwCl (zM k q j0 j1 (fun _ => 0) (fun _ => 0) r4 (fun _ => 0) r6 (fun _ => 0) (fun _ => 0) (fun _ => 0) (fun _ => 0) 12 i12 i13 i14 i15 (fun _ => 0) (fun _ => 0) (fun _ => 0) 0 (-1) (fun _ => 0) 0 (fun _ => 0) (fun _ => 0) (fun _ => 0) (fun _ => 0) (fun _ => 0) i28 i29 j30 j31 j32 0 (upd r34 0 0) 100 (fun _ => 0) (fun _ => 0) (fun _ => 0) (fun _ => 0) r40 i41) H := hP
                        have hD : va_D A (zM k q j0 j1 (fun _ => 0) (fun _ => 0) r4 (fun _ => 0) r6 (fun _ => 0) (fun _ => 0) (fun _ => 0) (fun _ => 0) 12 i12 i13 i14 i15 (fun _ => 0) (fun _ => 0) (fun _ => 0) 0 (-1) (fun _ => 0) 0 (fun _ => 0) (fun _ => 0) (fun _ => 0) (fun _ => 0) (fun _ => 0) i28 i29 j30 j31 j32 0 (upd r34 0 0) 100 (fun _ => 0) (fun _ => 0) (fun _ => 0) (fun _ => 0) r40 i41) := hD
                        refine lv_iinc (v := 1) (lv' := [(8, .int 1), (9, .int 0), (6, .long 1), (4, .long 1), (3, .int 0), (2, .int 0), (0, .ref (q 0)), (1, .int pe)]) hx hb dX7_givenOf_136 hl (k := 0) rfl (by decide) (by decide) rfl (fun ls hl => ?_)
                        refine lv_goto (tgt := 122) hx hb dX7_givenOf_139 (by decide) ?_
                        refine lv_iload hx hb dX7_givenOf_122 (lv_at hl 0 rfl) ?_
                        refine lv_iconst (v := 4) hx hb dX7_givenOf_124 (by decide) ?_
                        refine lv_icmp_ge (tgt := 142) hx hb dX7_givenOf_125 (by decide) (fun c_12 => ?_) (fun c_12 => ?_)
                        · skip
                          exact absurd c_12 (by decide)
                        · skip
                          refine lv_aload_n hx hb dX7_givenOf_128 rfl (lv_at hl 6 rfl) ?_
                          refine va_get (D := (dC, dI)) (ci := 7) (v := .ref (q 34)) (C := RX7) (T := TX7) (N := 42) hx hb hts hi7 hown hK.1 hP 0 rfl rfl 34 (by decide) (hts _ wmt3_201) (fun _ h9 => h9) rfl dX7_givenOf_129 ?_
                          refine lv_iload hx hb dX7_givenOf_132 (lv_at hl 0 rfl) ?_
                          refine lv_iconst (v := 0) hx hb dX7_givenOf_134 (by decide) ?_
                          refine va_iast (D := (dC, dI)) hx hb hK.1 hP hD hS 19 0 rfl rfl (show ¬ _ by decide) dX7_givenOf_135 (fun H locs hP hD hS => ?_)
                          have hP : va_P (dC, dI) vwCl (zM k q j0 j1 (fun _ => 0) (fun _ => 0) r4 (fun _ => 0) r6 (fun _ => 0) (fun _ => 0) (fun _ => 0) (fun _ => 0) 12 i12 i13 i14 i15 (fun _ => 0) (fun _ => 0) (fun _ => 0) 0 (-1) (fun _ => 0) 0 (fun _ => 0) (fun _ => 0) (fun _ => 0) (fun _ => 0) (fun _ => 0) i28 i29 j30 j31 j32 0 (upd (upd r34 0 0) 1 0) 100 (fun _ => 0) (fun _ => 0) (fun _ => 0) (fun _ => 0) r40 i41) H := hP
                          have hD : va_D A (zM k q j0 j1 (fun _ => 0) (fun _ => 0) r4 (fun _ => 0) r6 (fun _ => 0) (fun _ => 0) (fun _ => 0) (fun _ => 0) 12 i12 i13 i14 i15 (fun _ => 0) (fun _ => 0) (fun _ => 0) 0 (-1) (fun _ => 0) 0 (fun _ => 0) (fun _ => 0) (fun _ => 0) (fun _ => 0) (fun _ => 0) i28 i29 j30 j31 j32 0 (upd (upd r34 0 0) 1 0) 100 (fun _ => 0) (fun _ => 0) (fun _ => 0) (fun _ => 0) r40 i41) := hD
                          refine lv_iinc (v := 2) (lv' := [(8, .int 2), (9, .int 0), (6, .long 1), (4, .long 1), (3, .int 0), (2, .int 0), (0, .ref (q 0)), (1, .int pe)]) hx hb dX7_givenOf_136 hl (k := 0) rfl (by decide) (by decide) rfl (fun ls hl => ?_)
                          refine lv_goto (tgt := 122) hx hb dX7_givenOf_139 (by decide) ?_
                          refine lv_iload hx hb dX7_givenOf_122 (lv_at hl 0 rfl) ?_
                          refine lv_iconst (v := 4) hx hb dX7_givenOf_124 (by decide) ?_
                          refine lv_icmp_ge (tgt := 142) hx hb dX7_givenOf_125 (by decide) (fun c_13 => ?_) (fun c_13 => ?_)
                          · skip
                            exact absurd c_13 (by decide)
                          · skip
                            refine lv_aload_n hx hb dX7_givenOf_128 rfl (lv_at hl 6 rfl) ?_
                            refine va_get (D := (dC, dI)) (ci := 7) (v := .ref (q 34)) (C := RX7) (T := TX7) (N := 42) hx hb hts hi7 hown hK.1 hP 0 rfl rfl 34 (by decide) (hts _ wmt3_201) (fun _ h9 => h9) rfl dX7_givenOf_129 ?_
                            refine lv_iload hx hb dX7_givenOf_132 (lv_at hl 0 rfl) ?_
                            refine lv_iconst (v := 0) hx hb dX7_givenOf_134 (by decide) ?_
                            refine va_iast (D := (dC, dI)) hx hb hK.1 hP hD hS 19 0 rfl rfl (show ¬ _ by decide) dX7_givenOf_135 (fun H locs hP hD hS => ?_)
                            have hP : va_P (dC, dI) vwCl (zM k q j0 j1 (fun _ => 0) (fun _ => 0) r4 (fun _ => 0) r6 (fun _ => 0) (fun _ => 0) (fun _ => 0) (fun _ => 0) 12 i12 i13 i14 i15 (fun _ => 0) (fun _ => 0) (fun _ => 0) 0 (-1) (fun _ => 0) 0 (fun _ => 0) (fun _ => 0) (fun _ => 0) (fun _ => 0) (fun _ => 0) i28 i29 j30 j31 j32 0 (upd (upd (upd r34 0 0) 1 0) 2 0) 100 (fun _ => 0) (fun _ => 0) (fun _ => 0) (fun _ => 0) r40 i41) H := hP
                            have hD : va_D A (zM k q j0 j1 (fun _ => 0) (fun _ => 0) r4 (fun _ => 0) r6 (fun _ => 0) (fun _ => 0) (fun _ => 0) (fun _ => 0) 12 i12 i13 i14 i15 (fun _ => 0) (fun _ => 0) (fun _ => 0) 0 (-1) (fun _ => 0) 0 (fun _ => 0) (fun _ => 0) (fun _ => 0) (fun _ => 0) (fun _ => 0) i28 i29 j30 j31 j32 0 (upd (upd (upd r34 0 0) 1 0) 2 0) 100 (fun _ => 0) (fun _ => 0) (fun _ => 0) (fun _ => 0) r40 i41) := hD
                            refine lv_iinc (v := 3) (lv' := [(8, .int 3), (9, .int 0), (6, .long 1), (4, .long 1), (3, .int 0), (2, .int 0), (0, .ref (q 0)), (1, .int pe)]) hx hb dX7_givenOf_136 hl (k := 0) rfl (by decide) (by decide) rfl (fun ls hl => ?_)
                            refine lv_goto (tgt := 122) hx hb dX7_givenOf_139 (by decide) ?_
                            refine lv_iload hx hb dX7_givenOf_122 (lv_at hl 0 rfl) ?_
                            refine lv_iconst (v := 4) hx hb dX7_givenOf_124 (by decide) ?_
                            refine lv_icmp_ge (tgt := 142) hx hb dX7_givenOf_125 (by decide) (fun c_14 => ?_) (fun c_14 => ?_)
                            · skip
                              exact absurd c_14 (by decide)
                            · skip
                              refine lv_aload_n hx hb dX7_givenOf_128 rfl (lv_at hl 6 rfl) ?_
                              refine va_get (D := (dC, dI)) (ci := 7) (v := .ref (q 34)) (C := RX7) (T := TX7) (N := 42) hx hb hts hi7 hown hK.1 hP 0 rfl rfl 34 (by decide) (hts _ wmt3_201) (fun _ h9 => h9) rfl dX7_givenOf_129 ?_
                              refine lv_iload hx hb dX7_givenOf_132 (lv_at hl 0 rfl) ?_
                              refine lv_iconst (v := 0) hx hb dX7_givenOf_134 (by decide) ?_
                              refine va_iast (D := (dC, dI)) hx hb hK.1 hP hD hS 19 0 rfl rfl (show ¬ _ by decide) dX7_givenOf_135 (fun H locs hP hD hS => ?_)
                              have hP : va_P (dC, dI) vwCl (zM k q j0 j1 (fun _ => 0) (fun _ => 0) r4 (fun _ => 0) r6 (fun _ => 0) (fun _ => 0) (fun _ => 0) (fun _ => 0) 12 i12 i13 i14 i15 (fun _ => 0) (fun _ => 0) (fun _ => 0) 0 (-1) (fun _ => 0) 0 (fun _ => 0) (fun _ => 0) (fun _ => 0) (fun _ => 0) (fun _ => 0) i28 i29 j30 j31 j32 0 (upd (upd (upd (upd r34 0 0) 1 0) 2 0) 3 0) 100 (fun _ => 0) (fun _ => 0) (fun _ => 0) (fun _ => 0) r40 i41) H := hP
                              have hD : va_D A (zM k q j0 j1 (fun _ => 0) (fun _ => 0) r4 (fun _ => 0) r6 (fun _ => 0) (fun _ => 0) (fun _ => 0) (fun _ => 0) 12 i12 i13 i14 i15 (fun _ => 0) (fun _ => 0) (fun _ => 0) 0 (-1) (fun _ => 0) 0 (fun _ => 0) (fun _ => 0) (fun _ => 0) (fun _ => 0) (fun _ => 0) i28 i29 j30 j31 j32 0 (upd (upd (upd (upd r34 0 0) 1 0) 2 0) 3 0) 100 (fun _ => 0) (fun _ => 0) (fun _ => 0) (fun _ => 0) r40 i41) := hD
                              refine lv_iinc (v := 4) (lv' := [(8, .int 4), (9, .int 0), (6, .long 1), (4, .long 1), (3, .int 0), (2, .int 0), (0, .ref (q 0)), (1, .int pe)]) hx hb dX7_givenOf_136 hl (k := 0) rfl (by decide) (by decide) rfl (fun ls hl => ?_)
                              refine lv_goto (tgt := 122) hx hb dX7_givenOf_139 (by decide) ?_
                              refine lv_iload hx hb dX7_givenOf_122 (lv_at hl 0 rfl) ?_
                              refine lv_iconst (v := 4) hx hb dX7_givenOf_124 (by decide) ?_
                              refine lv_icmp_ge (tgt := 142) hx hb dX7_givenOf_125 (by decide) (fun c_15 => ?_) (fun c_15 => ?_)
                              · skip
                                refine lv_iconst (v := 0) hx hb dX7_givenOf_142 (by decide) ?_
                                refine lv_istore (lv' := [(8, .int 0), (9, .int 0), (6, .long 1), (4, .long 1), (3, .int 0), (2, .int 0), (0, .ref (q 0)), (1, .int pe)]) hx hb dX7_givenOf_143 hl (by decide) rfl (fun ls hl => ?_)
                                refine lv_iload hx hb dX7_givenOf_145 (lv_at hl 0 rfl) ?_
                                refine lv_aload_n hx hb dX7_givenOf_147 rfl (lv_at hl 6 rfl) ?_
                                refine va_get (D := (dC, dI)) (ci := 7) (v := .int 0) (C := RX7) (T := TX7) (N := 42) hx hb hts hi7 hown hK.1 hP 0 rfl rfl 22 (by decide) (hts _ wmt3_189) (fun _ h9 => h9) rfl dX7_givenOf_148 ?_
                                refine lv_icmp_ge (tgt := 310) hx hb dX7_givenOf_151 (by decide) (fun c_16 => ?_) (fun c_16 => ?_)
                                · skip
                                  refine lv_aload_n hx hb dX7_givenOf_310 rfl (lv_at hl 6 rfl) ?_
                                  refine va_get (D := (dC, dI)) (ci := 7) (v := .int 0) (C := RX7) (T := TX7) (N := 42) hx hb hts hi7 hown hK.1 hP 0 rfl rfl 33 (by decide) (hts _ wmt3_200) (fun _ h9 => h9) rfl dX7_givenOf_311 ?_
                                  refine lv_if_eq (tgt := 320) hx hb dX7_givenOf_314 (by decide) (fun c_17 => ?_) (fun c_17 => ?_)
                                  · skip
                                    refine lv_aload_n hx hb dX7_givenOf_320 rfl (lv_at hl 6 rfl) ?_
                                    refine lv_lload hx hb dX7_givenOf_321 (lv_at hl 3 rfl) ?_
                                    refine va_put (D := (dC, dI)) (ci := 7) (v := .long 1) (ty := .long) (C := RX7) (T := TX7) (N := 42) hx hb hts hi7 tyX7 tyX7_ok nmX7 hown hK.1 hP hD hS 0 rfl rfl 0 (by decide) (hts _ wmt3_167) (fun _ h9 => h9) rfl (by decide +kernel) rfl rfl (Nat.le_of_ble_eq_true rfl) dX7_givenOf_323 (fun H locs hP hD hS => ?_)
                                    have hP : va_P (dC, dI) vwCl (zM k q 1 j1 (fun _ => 0) (fun _ => 0) r4 (fun _ => 0) r6 (fun _ => 0) (fun _ => 0) (fun _ => 0) (fun _ => 0) 12 i12 i13 i14 i15 (fun _ => 0) (fun _ => 0) (fun _ => 0) 0 (-1) (fun _ => 0) 0 (fun _ => 0) (fun _ => 0) (fun _ => 0) (fun _ => 0) (fun _ => 0) i28 i29 j30 j31 j32 0 (upd (upd (upd (upd r34 0 0) 1 0) 2 0) 3 0) 100 (fun _ => 0) (fun _ => 0) (fun _ => 0) (fun _ => 0) r40 i41) H := hP
                                    have hD : va_D A (zM k q 1 j1 (fun _ => 0) (fun _ => 0) r4 (fun _ => 0) r6 (fun _ => 0) (fun _ => 0) (fun _ => 0) (fun _ => 0) 12 i12 i13 i14 i15 (fun _ => 0) (fun _ => 0) (fun _ => 0) 0 (-1) (fun _ => 0) 0 (fun _ => 0) (fun _ => 0) (fun _ => 0) (fun _ => 0) (fun _ => 0) i28 i29 j30 j31 j32 0 (upd (upd (upd (upd r34 0 0) 1 0) 2 0) 3 0) 100 (fun _ => 0) (fun _ => 0) (fun _ => 0) (fun _ => 0) r40 i41) := hD
                                    refine lv_aload_n hx hb dX7_givenOf_326 rfl (lv_at hl 6 rfl) ?_
                                    refine lv_lload hx hb dX7_givenOf_327 (lv_at hl 2 rfl) ?_
                                    refine va_put (D := (dC, dI)) (ci := 7) (v := .long 1) (ty := .long) (C := RX7) (T := TX7) (N := 42) hx hb hts hi7 tyX7 tyX7_ok nmX7 hown hK.1 hP hD hS 0 rfl rfl 1 (by decide) (hts _ wmt3_168) (fun _ h9 => h9) rfl (by decide +kernel) rfl rfl (Nat.le_of_ble_eq_true rfl) dX7_givenOf_329 (fun H locs hP hD hS => ?_)
                                    have hP : va_P (dC, dI) vwCl (zM k q 1 1 (fun _ => 0) (fun _ => 0) r4 (fun _ => 0) r6 (fun _ => 0) (fun _ => 0) (fun _ => 0) (fun _ => 0) 12 i12 i13 i14 i15 (fun _ => 0) (fun _ => 0) (fun _ => 0) 0 (-1) (fun _ => 0) 0 (fun _ => 0) (fun _ => 0) (fun _ => 0) (fun _ => 0) (fun _ => 0) i28 i29 j30 j31 j32 0 (upd (upd (upd (upd r34 0 0) 1 0) 2 0) 3 0) 100 (fun _ => 0) (fun _ => 0) (fun _ => 0) (fun _ => 0) r40 i41) H := hP
                                    have hD : va_D A (zM k q 1 1 (fun _ => 0) (fun _ => 0) r4 (fun _ => 0) r6 (fun _ => 0) (fun _ => 0) (fun _ => 0) (fun _ => 0) 12 i12 i13 i14 i15 (fun _ => 0) (fun _ => 0) (fun _ => 0) 0 (-1) (fun _ => 0) 0 (fun _ => 0) (fun _ => 0) (fun _ => 0) (fun _ => 0) (fun _ => 0) i28 i29 j30 j31 j32 0 (upd (upd (upd (upd r34 0 0) 1 0) 2 0) 3 0) 100 (fun _ => 0) (fun _ => 0) (fun _ => 0) (fun _ => 0) r40 i41) := hD
                                    refine lv_iload_n hx hb dX7_givenOf_332 rfl (lv_at hl 4 rfl) ?_
                                    refine lv_if_eq (tgt := 341) hx hb dX7_givenOf_333 (by decide) (fun c_18 => ?_) (fun c_18 => ?_)
                                    · skip
                                      refine lv_iconst (v := 0) hx hb dX7_givenOf_341 (by decide) ?_
                                      exact W.iret (v := 0) hx hb hr (fun t ht hW => ⟨⟨0, (upd (upd (upd (upd r34 0 0) 1 0) 2 0) 3 0), rfl, (by first | assumption | with_reducible rfl | contradiction | exact (if_pos (by repeat' (first | assumption | decide | constructor))).symm | exact (if_neg (fun hh => absurd hh (by assumption))).symm | decide | (exfalso; simp only [zi_le, zi_lt, zi_eq, zi_n0, zi_n1, zi_n2, zi_n3, zi_n4, zi_n23, zi_n24, zi_n100, zi_n399, zi_n60, zi_n255, zi_n99, zi_nm1, zi_n30] at *; omega) | (simp_all; done)), ⟨by rw [ht]; exact hP, hD⟩⟩, hS.F ht⟩) hS.2.2 dX7_givenOf_342
                                    · skip
                                      exact absurd (by decide) c_18
                                  · skip
                                    exact absurd (by decide) c_17
                                · skip
                                  exact absurd (by decide) c_16
                              · skip
                                exact absurd (by decide) c_15
                    · skip
                      exact absurd (by decide) c_10
                  · skip
                    exact absurd (by decide) c_9
                · skip
                  exact absurd (by decide) c_8
            · skip
              exact absurd (by decide) c_6
        · skip
          exact absurd (by decide) c_4
    · skip
      exact absurd (by decide) c_2
set_option maxHeartbeats 4000000 in
set_option maxRecDepth 100000 in
theorem c_X7_givenTold (l : Launch) (dC : Nat → ClassId) (dI : Nat → Nat → Nat) (k : Nat → ClassId) (T : List (ClassId × FieldType)) (q : Nat → Nat) (j0 : Int64) (j1 : Int64) (r4 : Nat → Int32) (r6 : Nat → Int32) (i12 : Int32) (i13 : Int32) (i14 : Int32) (i15 : Int32) (i28 : Int32) (i29 : Int32) (j30 : Int64) (j31 : Int64) (j32 : Int64) (i33 : Int32) (r34 : Nat → Int32) (r40 : Nat → Int32) (i41 : Int32) (pe : Int32) (w : Int32) (sz : Nat)  : Met l yX7_givenTold (wz yX7_givenTold cX7_givenTold 4 (some .long)) ({ frames := 1, cells := 0, slots := 0, locals := 30 }) (va_Pc [.ref (q 0), .int pe, .int w] (zPre dC dI k T (zM k q j0 j1 (fun _ => 0) (fun _ => 0) r4 (fun _ => 0) r6 (fun _ => 0) (fun _ => 0) (fun _ => 0) (fun _ => 0) 12 i12 i13 i14 i15 (fun _ => 0) (fun _ => 0) (fun _ => 0) 0 (-1) (fun _ => 0) 0 (fun _ => 0) (fun _ => 0) (fun _ => 0) (fun _ => 0) (fun _ => 0) i28 i29 j30 j31 j32 i33 r34 100 (fun _ => 0) (fun _ => 0) (fun _ => 0) (fun _ => 0) r40 i41) sz)) (va_Ql (fun (r : Int64) (u : Int64 × Int64 × Int32 × (Nat → Int32)) => r = 1) (fun u t => zPost dC dI (va_A (zM k q j0 j1 (fun _ => 0) (fun _ => 0) r4 (fun _ => 0) r6 (fun _ => 0) (fun _ => 0) (fun _ => 0) (fun _ => 0) 12 i12 i13 i14 i15 (fun _ => 0) (fun _ => 0) (fun _ => 0) 0 (-1) (fun _ => 0) 0 (fun _ => 0) (fun _ => 0) (fun _ => 0) (fun _ => 0) (fun _ => 0) i28 i29 j30 j31 j32 i33 r34 100 (fun _ => 0) (fun _ => 0) (fun _ => 0) (fun _ => 0) r40 i41) sz) (zM k q u.1 u.2.1 (fun _ => 0) (fun _ => 0) r4 (fun _ => 0) r6 (fun _ => 0) (fun _ => 0) (fun _ => 0) (fun _ => 0) 12 i12 i13 i14 i15 (fun _ => 0) (fun _ => 0) (fun _ => 0) 0 (-1) (fun _ => 0) 0 (fun _ => 0) (fun _ => 0) (fun _ => 0) (fun _ => 0) (fun _ => 0) i28 i29 j30 j31 j32 u.2.2.1 u.2.2.2 100 (fun _ => 0) (fun _ => 0) (fun _ => 0) (fun _ => 0) r40 i41) t) (va_A (zM k q j0 j1 (fun _ => 0) (fun _ => 0) r4 (fun _ => 0) r6 (fun _ => 0) (fun _ => 0) (fun _ => 0) (fun _ => 0) 12 i12 i13 i14 i15 (fun _ => 0) (fun _ => 0) (fun _ => 0) 0 (-1) (fun _ => 0) 0 (fun _ => 0) (fun _ => 0) (fun _ => 0) (fun _ => 0) (fun _ => 0) i28 i29 j30 j31 j32 i33 r34 100 (fun _ => 0) (fun _ => 0) (fun _ => 0) (fun _ => 0) r40 i41) sz)) 0 0 (va_A (zM k q j0 j1 (fun _ => 0) (fun _ => 0) r4 (fun _ => 0) r6 (fun _ => 0) (fun _ => 0) (fun _ => 0) (fun _ => 0) 12 i12 i13 i14 i15 (fun _ => 0) (fun _ => 0) (fun _ => 0) 0 (-1) (fun _ => 0) 0 (fun _ => 0) (fun _ => 0) (fun _ => 0) (fun _ => 0) (fun _ => 0) i28 i29 j30 j31 j32 i33 r34 100 (fun _ => 0) (fun _ => 0) (fun _ => 0) (fun _ => 0) r40 i41) sz) := by
  refine Met.ofW (cc := cX7_givenTold) (maxL := 4) (ret := (some .long)) (by decide) rfl ?_
  intro p e s m args below meth c s₁ B hml hv
  obtain ⟨rfl, hsz, hP, hK, hD0⟩ := hv
  have hx := B.exec
  have hb := B.bytes
  have hr := B.returns
  have hts : ∀ w ∈ zw, w.before _ s = true := fun w h => atoms_spec (ws := (wz yX7_givenTold cX7_givenTold 4 (some .long))) B.pre w (List.mem_cons_of_mem _ h)
  have hown : s.vm.findClass RX7 = some m.cls := findClass_of_methodNamed B.named
  have hlocks := B.notSynchronized
  subst hsz
  have hD := hD0.self (sz := s.heap.size)
  generalize hAe : va_A (zM k q j0 j1 (fun _ => 0) (fun _ => 0) r4 (fun _ => 0) r6 (fun _ => 0) (fun _ => 0) (fun _ => 0) (fun _ => 0) 12 i12 i13 i14 i15 (fun _ => 0) (fun _ => 0) (fun _ => 0) 0 (-1) (fun _ => 0) 0 (fun _ => 0) (fun _ => 0) (fun _ => 0) (fun _ => 0) (fun _ => 0) i28 i29 j30 j31 j32 i33 r34 100 (fun _ => 0) (fun _ => 0) (fun _ => 0) (fun _ => 0) r40 i41) s.heap.size = A at hD ⊢
  have hA : ∀ q : Nat, s.heap.size ≤ q → A q := fun q h => by rw [← hAe]; exact Or.inr h
  have hl := lv_entry ([.ref (q 0), .int pe, .int w]) (n := 4) (Nat.le_of_ble_eq_true rfl)
  rw [lg_entry_eq]
  generalize (lg_sl ([.ref (q 0), .int pe, .int w]) ++ List.replicate (4 - (lg_sl ([.ref (q 0), .int pe, .int w])).length) Slot.unset).toArray = ls at hl ⊢
  have hl : lv_has ls 4 [(0, .ref (q 0)), (1, .int pe), (2, .int w)] := hl
  refine z_start (w := (zM k q j0 j1 (fun _ => 0) (fun _ => 0) r4 (fun _ => 0) r6 (fun _ => 0) (fun _ => 0) (fun _ => 0) (fun _ => 0) 12 i12 i13 i14 i15 (fun _ => 0) (fun _ => 0) (fun _ => 0) 0 (-1) (fun _ => 0) 0 (fun _ => 0) (fun _ => 0) (fun _ => 0) (fun _ => 0) (fun _ => 0) i28 i29 j30 j31 j32 i33 r34 100 (fun _ => 0) (fun _ => 0) (fun _ => 0) (fun _ => 0) r40 i41)) hP hD (fun H locs hP hD hS => ?_)
  refine lv_aload_n hx hb dX7_givenTold_0 rfl (lv_at hl 0 rfl) ?_
  refine lv_iload_n hx hb dX7_givenTold_1 rfl (lv_at hl 1 rfl) ?_
  refine zcA_i (w := (zM k q j0 j1 (fun _ => 0) (fun _ => 0) r4 (fun _ => 0) r6 (fun _ => 0) (fun _ => 0) (fun _ => 0) (fun _ => 0) 12 i12 i13 i14 i15 (fun _ => 0) (fun _ => 0) (fun _ => 0) 0 (-1) (fun _ => 0) 0 (fun _ => 0) (fun _ => 0) (fun _ => 0) (fun _ => 0) (fun _ => 0) i28 i29 j30 j31 j32 i33 r34 100 (fun _ => 0) (fun _ => 0) (fun _ => 0) (fun _ => 0) r40 i41)) (va_runV (As := [.int pe]) (rest := []) ⟨hx, hb, hml, hown, hts⟩ (c_X7_givenOf l dC dI k T q j0 j1 r4 r6 i12 i13 i14 i15 i28 i29 j30 j31 j32 i33 r34 r40 i41 pe _ ) (cwV 1 hts (gzV wmt5_44 wmt5_46 wmp4_0 wmt1_8 wmt5_47) rfl rfl rfl (by decide +kernel) ⟨Nat.le_of_ble_eq_true rfl, Nat.le_of_ble_eq_true rfl⟩) (zpA_V (ci := 7) (q0 := 0) hK hP hD rfl rfl) rfl rfl hl.1 rfl (lv_room (Nat.le_of_ble_eq_true rfl)) dX7_givenTold_2 ⟨Nat.le_of_ble_eq_true rfl, Nat.le_of_ble_eq_true rfl⟩) hD hS hA (fun r_1 u_2 H locs w_3 hP hD hS => ?_)
  obtain ⟨or34_4, rfl⟩ : ∃ z, z = u_2 := ⟨_, rfl⟩
  have hP : va_P (dC, dI) vwCl (zM k q 1 1 (fun _ => 0) (fun _ => 0) r4 (fun _ => 0) r6 (fun _ => 0) (fun _ => 0) (fun _ => 0) (fun _ => 0) 12 i12 i13 i14 i15 (fun _ => 0) (fun _ => 0) (fun _ => 0) 0 (-1) (fun _ => 0) 0 (fun _ => 0) (fun _ => 0) (fun _ => 0) (fun _ => 0) (fun _ => 0) i28 i29 j30 j31 j32 0 or34_4 100 (fun _ => 0) (fun _ => 0) (fun _ => 0) (fun _ => 0) r40 i41) H := hP
  have hD : va_D A (zM k q 1 1 (fun _ => 0) (fun _ => 0) r4 (fun _ => 0) r6 (fun _ => 0) (fun _ => 0) (fun _ => 0) (fun _ => 0) 12 i12 i13 i14 i15 (fun _ => 0) (fun _ => 0) (fun _ => 0) 0 (-1) (fun _ => 0) 0 (fun _ => 0) (fun _ => 0) (fun _ => 0) (fun _ => 0) (fun _ => 0) i28 i29 j30 j31 j32 0 or34_4 100 (fun _ => 0) (fun _ => 0) (fun _ => 0) (fun _ => 0) r40 i41) := hD
  have e_5 := w_3
  replace e_5 : r_1 = 0 := e_5
  subst e_5
  refine lv_istore_n (lv' := [(3, .int 0), (0, .ref (q 0)), (1, .int pe), (2, .int w)]) hx hb dX7_givenTold_5 rfl hl (by decide) rfl (fun ls hl => ?_)
  refine lv_iload_n hx hb dX7_givenTold_6 rfl (lv_at hl 0 rfl) ?_
  refine lv_if_eq (tgt := 17) hx hb dX7_givenTold_7 (by decide) (fun c_6 => ?_) (fun c_6 => ?_)
  · skip
    refine lv_aload_n hx hb dX7_givenTold_17 rfl (lv_at hl 1 rfl) ?_
    refine lv_iload_n hx hb dX7_givenTold_18 rfl (lv_at hl 3 rfl) ?_
    refine zcA_l (w := (zM k q 1 1 (fun _ => 0) (fun _ => 0) r4 (fun _ => 0) r6 (fun _ => 0) (fun _ => 0) (fun _ => 0) (fun _ => 0) 12 i12 i13 i14 i15 (fun _ => 0) (fun _ => 0) (fun _ => 0) 0 (-1) (fun _ => 0) 0 (fun _ => 0) (fun _ => 0) (fun _ => 0) (fun _ => 0) (fun _ => 0) i28 i29 j30 j31 j32 0 or34_4 100 (fun _ => 0) (fun _ => 0) (fun _ => 0) (fun _ => 0) r40 i41)) (va_runV (As := [.int w]) (rest := []) ⟨hx, hb, hml, hown, hts⟩ (c_X7_part l dC dI k T q 1 1 r4 r6 i12 i13 i14 i15 i28 i29 j30 j31 j32 0 or34_4 r40 i41 w _ ) (cwV 1 hts (gzV wmt4_133 wmt4_135 wmp3_1 wmt1_8 wmt4_136) rfl rfl rfl (by decide +kernel) ⟨Nat.le_of_ble_eq_true rfl, Nat.le_of_ble_eq_true rfl⟩) (zpA_V (ci := 7) (q0 := 0) hK hP hD rfl rfl) rfl rfl hl.1 rfl (lv_room (Nat.le_of_ble_eq_true rfl)) dX7_givenTold_19 ⟨Nat.le_of_ble_eq_true rfl, Nat.le_of_ble_eq_true rfl⟩) hD hS hA (fun r_7 u_8 H locs w_9 hP hD hS => ?_)
    have hP : va_P (dC, dI) vwCl (zM k q 1 1 (fun _ => 0) (fun _ => 0) r4 (fun _ => 0) r6 (fun _ => 0) (fun _ => 0) (fun _ => 0) (fun _ => 0) 12 i12 i13 i14 i15 (fun _ => 0) (fun _ => 0) (fun _ => 0) 0 (-1) (fun _ => 0) 0 (fun _ => 0) (fun _ => 0) (fun _ => 0) (fun _ => 0) (fun _ => 0) i28 i29 j30 j31 j32 0 or34_4 100 (fun _ => 0) (fun _ => 0) (fun _ => 0) (fun _ => 0) r40 i41) H := hP
    have hD : va_D A (zM k q 1 1 (fun _ => 0) (fun _ => 0) r4 (fun _ => 0) r6 (fun _ => 0) (fun _ => 0) (fun _ => 0) (fun _ => 0) 12 i12 i13 i14 i15 (fun _ => 0) (fun _ => 0) (fun _ => 0) 0 (-1) (fun _ => 0) 0 (fun _ => 0) (fun _ => 0) (fun _ => 0) (fun _ => 0) (fun _ => 0) i28 i29 j30 j31 j32 0 or34_4 100 (fun _ => 0) (fun _ => 0) (fun _ => 0) (fun _ => 0) r40 i41) := hD
    have e_10 := w_9
    replace e_10 : r_7 = if w = 0 then 1 else 1 := e_10
    subst e_10
    refine z_top (v2 := .long 1) (congrArg Value.long (ite_self 1)) ?_
    exact W.lret (v := 1) hx hb hr (fun t ht hW => ⟨⟨1, (1, 1, 0, or34_4), rfl, (by first | assumption | with_reducible rfl | contradiction | exact (if_pos (by repeat' (first | assumption | decide | constructor))).symm | exact (if_neg (fun hh => absurd hh (by assumption))).symm | decide | (exfalso; simp only [zi_le, zi_lt, zi_eq, zi_n0, zi_n1, zi_n2, zi_n3, zi_n4, zi_n23, zi_n24, zi_n100, zi_n399, zi_n60, zi_n255, zi_n99, zi_nm1, zi_n30] at *; omega) | (simp_all; done)), ⟨by rw [ht]; exact hP, hD⟩⟩, hS.F ht⟩) hS.2.2 dX7_givenTold_22
  · skip
    exact absurd (by decide) c_6
set_option maxHeartbeats 4000000 in
set_option maxRecDepth 100000 in
theorem c_X7_given (l : Launch) (dC : Nat → ClassId) (dI : Nat → Nat → Nat) (k : Nat → ClassId) (T : List (ClassId × FieldType)) (q : Nat → Nat) (j0 : Int64) (j1 : Int64) (r4 : Nat → Int32) (r6 : Nat → Int32) (i12 : Int32) (i13 : Int32) (i14 : Int32) (i15 : Int32) (i28 : Int32) (i29 : Int32) (j30 : Int64) (j31 : Int64) (j32 : Int64) (i33 : Int32) (r34 : Nat → Int32) (r40 : Nat → Int32) (i41 : Int32) (pe : Int32) (w : Int32) (sz : Nat)  : Met l yX7_given (wz yX7_given cX7_given 3 (some .long)) ({ frames := 2, cells := 0, slots := 0, locals := 53 }) (va_Pc [.ref (q 0), .int pe, .int w] (zPre dC dI k T (zM k q j0 j1 (fun _ => 0) (fun _ => 0) r4 (fun _ => 0) r6 (fun _ => 0) (fun _ => 0) (fun _ => 0) (fun _ => 0) 12 i12 i13 i14 i15 (fun _ => 0) (fun _ => 0) (fun _ => 0) 0 (-1) (fun _ => 0) 0 (fun _ => 0) (fun _ => 0) (fun _ => 0) (fun _ => 0) (fun _ => 0) i28 i29 j30 j31 j32 i33 r34 100 (fun _ => 0) (fun _ => 0) (fun _ => 0) (fun _ => 0) r40 i41) sz)) (va_Ql (fun (r : Int64) (u : Int64 × Int64 × Int32 × (Nat → Int32)) => (r = if (0 ≤ (pe : Int32) ∧ (pe : Int32) ≤ 23) ∧ (0 ≤ (w : Int32) ∧ (w : Int32) ≤ 1) then 1 else (-9223372036854775806))) (fun u t => zPost dC dI (va_A (zM k q j0 j1 (fun _ => 0) (fun _ => 0) r4 (fun _ => 0) r6 (fun _ => 0) (fun _ => 0) (fun _ => 0) (fun _ => 0) 12 i12 i13 i14 i15 (fun _ => 0) (fun _ => 0) (fun _ => 0) 0 (-1) (fun _ => 0) 0 (fun _ => 0) (fun _ => 0) (fun _ => 0) (fun _ => 0) (fun _ => 0) i28 i29 j30 j31 j32 i33 r34 100 (fun _ => 0) (fun _ => 0) (fun _ => 0) (fun _ => 0) r40 i41) sz) (zM k q u.1 u.2.1 (fun _ => 0) (fun _ => 0) r4 (fun _ => 0) r6 (fun _ => 0) (fun _ => 0) (fun _ => 0) (fun _ => 0) 12 i12 i13 i14 i15 (fun _ => 0) (fun _ => 0) (fun _ => 0) 0 (-1) (fun _ => 0) 0 (fun _ => 0) (fun _ => 0) (fun _ => 0) (fun _ => 0) (fun _ => 0) i28 i29 j30 j31 j32 u.2.2.1 u.2.2.2 100 (fun _ => 0) (fun _ => 0) (fun _ => 0) (fun _ => 0) r40 i41) t) (va_A (zM k q j0 j1 (fun _ => 0) (fun _ => 0) r4 (fun _ => 0) r6 (fun _ => 0) (fun _ => 0) (fun _ => 0) (fun _ => 0) 12 i12 i13 i14 i15 (fun _ => 0) (fun _ => 0) (fun _ => 0) 0 (-1) (fun _ => 0) 0 (fun _ => 0) (fun _ => 0) (fun _ => 0) (fun _ => 0) (fun _ => 0) i28 i29 j30 j31 j32 i33 r34 100 (fun _ => 0) (fun _ => 0) (fun _ => 0) (fun _ => 0) r40 i41) sz)) 0 0 (va_A (zM k q j0 j1 (fun _ => 0) (fun _ => 0) r4 (fun _ => 0) r6 (fun _ => 0) (fun _ => 0) (fun _ => 0) (fun _ => 0) 12 i12 i13 i14 i15 (fun _ => 0) (fun _ => 0) (fun _ => 0) 0 (-1) (fun _ => 0) 0 (fun _ => 0) (fun _ => 0) (fun _ => 0) (fun _ => 0) (fun _ => 0) i28 i29 j30 j31 j32 i33 r34 100 (fun _ => 0) (fun _ => 0) (fun _ => 0) (fun _ => 0) r40 i41) sz) := by
  refine Met.ofW (cc := cX7_given) (maxL := 3) (ret := (some .long)) (by decide) rfl ?_
  intro p e s m args below meth c s₁ B hml hv
  obtain ⟨rfl, hsz, hP, hK, hD0⟩ := hv
  have hx := B.exec
  have hb := B.bytes
  have hr := B.returns
  have hts : ∀ w ∈ zw, w.before _ s = true := fun w h => atoms_spec (ws := (wz yX7_given cX7_given 3 (some .long))) B.pre w (List.mem_cons_of_mem _ h)
  have hown : s.vm.findClass RX7 = some m.cls := findClass_of_methodNamed B.named
  have hlocks := B.notSynchronized
  subst hsz
  have hD := hD0.self (sz := s.heap.size)
  generalize hAe : va_A (zM k q j0 j1 (fun _ => 0) (fun _ => 0) r4 (fun _ => 0) r6 (fun _ => 0) (fun _ => 0) (fun _ => 0) (fun _ => 0) 12 i12 i13 i14 i15 (fun _ => 0) (fun _ => 0) (fun _ => 0) 0 (-1) (fun _ => 0) 0 (fun _ => 0) (fun _ => 0) (fun _ => 0) (fun _ => 0) (fun _ => 0) i28 i29 j30 j31 j32 i33 r34 100 (fun _ => 0) (fun _ => 0) (fun _ => 0) (fun _ => 0) r40 i41) s.heap.size = A at hD ⊢
  have hA : ∀ q : Nat, s.heap.size ≤ q → A q := fun q h => by rw [← hAe]; exact Or.inr h
  have hl := lv_entry ([.ref (q 0), .int pe, .int w]) (n := 3) (Nat.le_of_ble_eq_true rfl)
  rw [lg_entry_eq]
  generalize (lg_sl ([.ref (q 0), .int pe, .int w]) ++ List.replicate (3 - (lg_sl ([.ref (q 0), .int pe, .int w])).length) Slot.unset).toArray = ls at hl ⊢
  have hl : lv_has ls 3 [(0, .ref (q 0)), (1, .int pe), (2, .int w)] := hl
  refine z_start (w := (zM k q j0 j1 (fun _ => 0) (fun _ => 0) r4 (fun _ => 0) r6 (fun _ => 0) (fun _ => 0) (fun _ => 0) (fun _ => 0) 12 i12 i13 i14 i15 (fun _ => 0) (fun _ => 0) (fun _ => 0) 0 (-1) (fun _ => 0) 0 (fun _ => 0) (fun _ => 0) (fun _ => 0) (fun _ => 0) (fun _ => 0) i28 i29 j30 j31 j32 i33 r34 100 (fun _ => 0) (fun _ => 0) (fun _ => 0) (fun _ => 0) r40 i41)) hP hD (fun H locs hP hD hS => ?_)
  refine lv_iload_n hx hb dX7_given_0 rfl (lv_at hl 1 rfl) ?_
  refine zc0_i (w := (zM k q j0 j1 (fun _ => 0) (fun _ => 0) r4 (fun _ => 0) r6 (fun _ => 0) (fun _ => 0) (fun _ => 0) (fun _ => 0) 12 i12 i13 i14 i15 (fun _ => 0) (fun _ => 0) (fun _ => 0) 0 (-1) (fun _ => 0) 0 (fun _ => 0) (fun _ => 0) (fun _ => 0) (fun _ => 0) (fun _ => 0) i28 i29 j30 j31 j32 i33 r34 100 (fun _ => 0) (fun _ => 0) (fun _ => 0) (fun _ => 0) r40 i41)) (va_runS (As := [.int pe]) (rest := []) ⟨hx, hb, hml, hown, hts⟩ (c_X7_isPerson l dC dI k T pe _ ) (va_cwS 1 hts (gzS wmt4_153 wmt4_154 wmt1_8 wmt4_155) rfl rfl rfl (by decide +kernel) ⟨Nat.le_of_ble_eq_true rfl, Nat.le_of_ble_eq_true rfl⟩) (zp0_S hK) rfl rfl hl.1 rfl (lv_room (Nat.le_of_ble_eq_true rfl)) dX7_given_1 ⟨Nat.le_of_ble_eq_true rfl, Nat.le_of_ble_eq_true rfl⟩) hP hS hA (fun r_1 u_2 H locs w_3 hP hS => ?_)
  rcases w_3 with ⟨e_5, h_4⟩ | ⟨e_7, h_6⟩
  · skip
    replace e_5 : r_1 = 1 := e_5
    subst e_5
    replace h_4 : 0 ≤ (pe : Int32) ∧ (pe : Int32) ≤ 23 := h_4
    refine lv_if_eq (tgt := 25) hx hb dX7_given_4 (by decide) (fun c_8 => ?_) (fun c_8 => ?_)
    · skip
      exact absurd c_8 (by decide)
    · skip
      refine lv_iload_n hx hb dX7_given_7 rfl (lv_at hl 2 rfl) ?_
      refine lv_iconst (v := 0) hx hb dX7_given_8 (by decide) ?_
      refine lv_iconst (v := 1) hx hb dX7_given_9 (by decide) ?_
      refine zc0_i (w := (zM k q j0 j1 (fun _ => 0) (fun _ => 0) r4 (fun _ => 0) r6 (fun _ => 0) (fun _ => 0) (fun _ => 0) (fun _ => 0) 12 i12 i13 i14 i15 (fun _ => 0) (fun _ => 0) (fun _ => 0) 0 (-1) (fun _ => 0) 0 (fun _ => 0) (fun _ => 0) (fun _ => 0) (fun _ => 0) (fun _ => 0) i28 i29 j30 j31 j32 i33 r34 100 (fun _ => 0) (fun _ => 0) (fun _ => 0) (fun _ => 0) r40 i41)) (va_runS (As := [.int w, .int 0, .int 1]) (rest := []) ⟨hx, hb, hml, hown, hts⟩ (c_X7_in l dC dI k T w 0 1 _ ) (va_cwS 3 hts (gzS wmt4_62 wmt4_63 wmt1_8 wmt4_64) rfl rfl rfl (by decide +kernel) ⟨Nat.le_of_ble_eq_true rfl, Nat.le_of_ble_eq_true rfl⟩) (zp0_S hK) rfl rfl hl.1 rfl (lv_room (Nat.le_of_ble_eq_true rfl)) dX7_given_10 ⟨Nat.le_of_ble_eq_true rfl, Nat.le_of_ble_eq_true rfl⟩) hP hS hA (fun r_9 u_10 H locs w_11 hP hS => ?_)
      rcases w_11 with ⟨e_13, h_12⟩ | ⟨e_15, h_14⟩
      · skip
        replace e_13 : r_9 = 1 := e_13
        subst e_13
        replace h_12 : 0 ≤ w ∧ w ≤ 1 := h_12
        refine lv_if_eq (tgt := 25) hx hb dX7_given_13 (by decide) (fun c_16 => ?_) (fun c_16 => ?_)
        · skip
          exact absurd c_16 (by decide)
        · skip
          refine lv_aload_n hx hb dX7_given_16 rfl (lv_at hl 0 rfl) ?_
          refine lv_iload_n hx hb dX7_given_17 rfl (lv_at hl 1 rfl) ?_
          refine lv_iload_n hx hb dX7_given_18 rfl (lv_at hl 2 rfl) ?_
          refine zcA_l (w := (zM k q j0 j1 (fun _ => 0) (fun _ => 0) r4 (fun _ => 0) r6 (fun _ => 0) (fun _ => 0) (fun _ => 0) (fun _ => 0) 12 i12 i13 i14 i15 (fun _ => 0) (fun _ => 0) (fun _ => 0) 0 (-1) (fun _ => 0) 0 (fun _ => 0) (fun _ => 0) (fun _ => 0) (fun _ => 0) (fun _ => 0) i28 i29 j30 j31 j32 i33 r34 100 (fun _ => 0) (fun _ => 0) (fun _ => 0) (fun _ => 0) r40 i41)) (va_runV (As := [.int pe, .int w]) (rest := []) ⟨hx, hb, hml, hown, hts⟩ (c_X7_givenTold l dC dI k T q j0 j1 r4 r6 i12 i13 i14 i15 i28 i29 j30 j31 j32 i33 r34 r40 i41 pe w _ ) (cwV 2 hts (gzV wmt5_40 wmt5_42 wmp3_15 wmt1_8 wmt5_43) rfl rfl rfl (by decide +kernel) ⟨Nat.le_of_ble_eq_true rfl, Nat.le_of_ble_eq_true rfl⟩) (zpA_V (ci := 7) (q0 := 0) hK hP hD rfl rfl) rfl rfl hl.1 rfl (lv_room (Nat.le_of_ble_eq_true rfl)) dX7_given_19 ⟨Nat.le_of_ble_eq_true rfl, Nat.le_of_ble_eq_true rfl⟩) hD hS hA (fun r_17 u_18 H locs w_19 hP hD hS => ?_)
          obtain ⟨oj0_20, oj1_21, oi33_22, or34_23⟩ := u_18
          have hP : va_P (dC, dI) vwCl (zM k q oj0_20 oj1_21 (fun _ => 0) (fun _ => 0) r4 (fun _ => 0) r6 (fun _ => 0) (fun _ => 0) (fun _ => 0) (fun _ => 0) 12 i12 i13 i14 i15 (fun _ => 0) (fun _ => 0) (fun _ => 0) 0 (-1) (fun _ => 0) 0 (fun _ => 0) (fun _ => 0) (fun _ => 0) (fun _ => 0) (fun _ => 0) i28 i29 j30 j31 j32 oi33_22 or34_23 100 (fun _ => 0) (fun _ => 0) (fun _ => 0) (fun _ => 0) r40 i41) H := hP
          have hD : va_D A (zM k q oj0_20 oj1_21 (fun _ => 0) (fun _ => 0) r4 (fun _ => 0) r6 (fun _ => 0) (fun _ => 0) (fun _ => 0) (fun _ => 0) 12 i12 i13 i14 i15 (fun _ => 0) (fun _ => 0) (fun _ => 0) 0 (-1) (fun _ => 0) 0 (fun _ => 0) (fun _ => 0) (fun _ => 0) (fun _ => 0) (fun _ => 0) i28 i29 j30 j31 j32 oi33_22 or34_23 100 (fun _ => 0) (fun _ => 0) (fun _ => 0) (fun _ => 0) r40 i41) := hD
          have e_24 := w_19
          replace e_24 : r_17 = 1 := e_24
          subst e_24
          refine lv_goto (tgt := 30) hx hb dX7_given_22 (by decide) ?_
          exact W.lret (v := 1) hx hb hr (fun t ht hW => ⟨⟨1, (oj0_20, oj1_21, oi33_22, or34_23), rfl, (by first | assumption | with_reducible rfl | contradiction | exact (if_pos (by repeat' (first | assumption | decide | constructor))).symm | exact (if_neg (fun hh => absurd hh (by assumption))).symm | exact (if_neg (fun hh => absurd hh.1 (by assumption))).symm | exact (if_neg (fun hh => absurd hh.1.1 (by assumption))).symm | exact (if_neg (fun hh => absurd hh.1.2 (by assumption))).symm | exact (if_neg (fun hh => absurd hh.2 (by assumption))).symm | exact (if_neg (fun hh => absurd hh.2.1 (by assumption))).symm | exact (if_neg (fun hh => absurd hh.2.2 (by assumption))).symm | decide | (exfalso; simp only [zi_le, zi_lt, zi_eq, zi_n0, zi_n1, zi_n2, zi_n3, zi_n4, zi_n23, zi_n24, zi_n100, zi_n399, zi_n60, zi_n255, zi_n99, zi_nm1, zi_n30] at *; omega) | (simp_all; done)), ⟨by rw [ht]; exact hP, hD⟩⟩, hS.F ht⟩) hS.2.2 dX7_given_30
      · skip
        replace e_15 : r_9 = 0 := e_15
        subst e_15
        replace h_14 : ¬ (0 ≤ w ∧ w ≤ 1) := h_14
        refine lv_if_eq (tgt := 25) hx hb dX7_given_13 (by decide) (fun c_25 => ?_) (fun c_25 => ?_)
        · skip
          refine lv_bipush (v := (-2)) hx hb dX7_given_25 (by decide) ?_
          refine zc0_l (w := (zM k q j0 j1 (fun _ => 0) (fun _ => 0) r4 (fun _ => 0) r6 (fun _ => 0) (fun _ => 0) (fun _ => 0) (fun _ => 0) 12 i12 i13 i14 i15 (fun _ => 0) (fun _ => 0) (fun _ => 0) 0 (-1) (fun _ => 0) 0 (fun _ => 0) (fun _ => 0) (fun _ => 0) (fun _ => 0) (fun _ => 0) i28 i29 j30 j31 j32 i33 r34 100 (fun _ => 0) (fun _ => 0) (fun _ => 0) (fun _ => 0) r40 i41)) (va_runS (As := [.int (-2)]) (rest := []) ⟨hx, hb, hml, hown, hts⟩ (c_X7_told_2 l dC dI k T  _ ) (va_cwS 1 hts (gzS wmt4_116 wmt4_117 wmt1_8 wmt4_118) rfl rfl rfl (by decide +kernel) ⟨Nat.le_of_ble_eq_true rfl, Nat.le_of_ble_eq_true rfl⟩) (zp0_S hK) rfl rfl hl.1 rfl (lv_room (Nat.le_of_ble_eq_true rfl)) dX7_given_27 ⟨Nat.le_of_ble_eq_true rfl, Nat.le_of_ble_eq_true rfl⟩) hP hS hA (fun r_26 u_27 H locs w_28 hP hS => ?_)
          have e_29 := w_28
          replace e_29 : r_26 = (-9223372036854775806) := e_29
          subst e_29
          exact W.lret (v := (-9223372036854775806)) hx hb hr (fun t ht hW => ⟨⟨(-9223372036854775806), (j0, j1, i33, r34), rfl, (by first | assumption | with_reducible rfl | contradiction | exact (if_pos (by repeat' (first | assumption | decide | constructor))).symm | exact (if_neg (fun hh => absurd hh (by assumption))).symm | exact (if_neg (fun hh => absurd hh.1 (by assumption))).symm | exact (if_neg (fun hh => absurd hh.1.1 (by assumption))).symm | exact (if_neg (fun hh => absurd hh.1.2 (by assumption))).symm | exact (if_neg (fun hh => absurd hh.2 (by assumption))).symm | exact (if_neg (fun hh => absurd hh.2.1 (by assumption))).symm | exact (if_neg (fun hh => absurd hh.2.2 (by assumption))).symm | decide | (exfalso; simp only [zi_le, zi_lt, zi_eq, zi_n0, zi_n1, zi_n2, zi_n3, zi_n4, zi_n23, zi_n24, zi_n100, zi_n399, zi_n60, zi_n255, zi_n99, zi_nm1, zi_n30] at *; omega) | (simp_all; done)), ⟨by rw [ht]; exact hP, hD⟩⟩, hS.F ht⟩) hS.2.2 dX7_given_30
        · skip
          exact absurd (by decide) c_25
  · skip
    replace e_7 : r_1 = 0 := e_7
    subst e_7
    replace h_6 : ¬ (0 ≤ (pe : Int32) ∧ (pe : Int32) ≤ 23) := h_6
    refine lv_if_eq (tgt := 25) hx hb dX7_given_4 (by decide) (fun c_30 => ?_) (fun c_30 => ?_)
    · skip
      refine lv_bipush (v := (-2)) hx hb dX7_given_25 (by decide) ?_
      refine zc0_l (w := (zM k q j0 j1 (fun _ => 0) (fun _ => 0) r4 (fun _ => 0) r6 (fun _ => 0) (fun _ => 0) (fun _ => 0) (fun _ => 0) 12 i12 i13 i14 i15 (fun _ => 0) (fun _ => 0) (fun _ => 0) 0 (-1) (fun _ => 0) 0 (fun _ => 0) (fun _ => 0) (fun _ => 0) (fun _ => 0) (fun _ => 0) i28 i29 j30 j31 j32 i33 r34 100 (fun _ => 0) (fun _ => 0) (fun _ => 0) (fun _ => 0) r40 i41)) (va_runS (As := [.int (-2)]) (rest := []) ⟨hx, hb, hml, hown, hts⟩ (c_X7_told_2 l dC dI k T  _ ) (va_cwS 1 hts (gzS wmt4_116 wmt4_117 wmt1_8 wmt4_118) rfl rfl rfl (by decide +kernel) ⟨Nat.le_of_ble_eq_true rfl, Nat.le_of_ble_eq_true rfl⟩) (zp0_S hK) rfl rfl hl.1 rfl (lv_room (Nat.le_of_ble_eq_true rfl)) dX7_given_27 ⟨Nat.le_of_ble_eq_true rfl, Nat.le_of_ble_eq_true rfl⟩) hP hS hA (fun r_31 u_32 H locs w_33 hP hS => ?_)
      have e_34 := w_33
      replace e_34 : r_31 = (-9223372036854775806) := e_34
      subst e_34
      exact W.lret (v := (-9223372036854775806)) hx hb hr (fun t ht hW => ⟨⟨(-9223372036854775806), (j0, j1, i33, r34), rfl, (by first | assumption | with_reducible rfl | contradiction | exact (if_pos (by repeat' (first | assumption | decide | constructor))).symm | exact (if_neg (fun hh => absurd hh (by assumption))).symm | exact (if_neg (fun hh => absurd hh.1 (by assumption))).symm | exact (if_neg (fun hh => absurd hh.1.1 (by assumption))).symm | exact (if_neg (fun hh => absurd hh.1.2 (by assumption))).symm | exact (if_neg (fun hh => absurd hh.2 (by assumption))).symm | exact (if_neg (fun hh => absurd hh.2.1 (by assumption))).symm | exact (if_neg (fun hh => absurd hh.2.2 (by assumption))).symm | decide | (exfalso; simp only [zi_le, zi_lt, zi_eq, zi_n0, zi_n1, zi_n2, zi_n3, zi_n4, zi_n23, zi_n24, zi_n100, zi_n399, zi_n60, zi_n255, zi_n99, zi_nm1, zi_n30] at *; omega) | (simp_all; done)), ⟨by rw [ht]; exact hP, hD⟩⟩, hS.F ht⟩) hS.2.2 dX7_given_30
    · skip
      exact absurd (by decide) c_30
set_option maxHeartbeats 4000000 in
set_option maxRecDepth 100000 in
theorem c_X6_bytesOfDesigns (l : Launch) (dC : Nat → ClassId) (dI : Nat → Nat → Nat) (k : Nat → ClassId)  (q : Nat → Nat) (aps : Int32) (ar1 : Nat → Int32) (ar2 : Nat → Int32) (ar3 : Nat → Int32) (ar4 : Nat → Int32) (ar5 : Nat → Int32) (ar6 : Nat → Int32) (ar7 : Nat → Int32) (ph : Int32) (pp : Int32) (py : Int32) (wy : Nat → Int64) (fa : Int64) (fb : Int64) (cm0 : Int64) (ia0 : Int32) (ih0 : Int32) (in0 : Int32) (il0 : Int32) (tx0 : Nat → Int32) (sh0 : Nat → Int64) (cm1 : Int64) (ia1 : Int32) (ih1 : Int32) (in1 : Int32) (il1 : Int32) (tx1 : Nat → Int32) (sh1 : Nat → Int64) (cm2 : Int64) (ia2 : Int32) (ih2 : Int32) (in2 : Int32) (il2 : Int32) (tx2 : Nat → Int32) (sh2 : Nat → Int64) (cm3 : Int64) (ia3 : Int32) (ih3 : Int32) (in3 : Int32) (il3 : Int32) (tx3 : Nat → Int32) (sh3 : Nat → Int64) (it0 : Nat → Int32) (it1 : Nat → Int32) (it2 : Nat → Int32) (it3 : Nat → Int32) (sz : Nat)  : Met l yX6_bytesOfDesigns (wz yX6_bytesOfDesigns cX6_bytesOfDesigns 3 (some .int)) ({ frames := 0, cells := 0, slots := 0, locals := 0 }) (va_Pc [.ref (q 0)] (zPre dC dI k (zTX k) (zX k q 0 (-1) 12 100 0 (fun _ => 0) aps 0 ar1 ar2 ar3 ar4 ar5 ar6 ar7 ph pp py wy fa fb cm0 ia0 0 0 ih0 in0 il0 tx0 sh0 cm1 ia1 0 0 ih1 in1 il1 tx1 sh1 cm2 ia2 0 0 ih2 in2 il2 tx2 sh2 cm3 ia3 0 0 ih3 in3 il3 tx3 sh3 (-1) 0 it0 (-1) 0 it1 (-1) 0 it2 (-1) 0 it3) sz)) (va_Qi (fun (r : Int32) (u : Unit) => r = 0) (fun u t => zPost dC dI (va_A (zX k q 0 (-1) 12 100 0 (fun _ => 0) aps 0 ar1 ar2 ar3 ar4 ar5 ar6 ar7 ph pp py wy fa fb cm0 ia0 0 0 ih0 in0 il0 tx0 sh0 cm1 ia1 0 0 ih1 in1 il1 tx1 sh1 cm2 ia2 0 0 ih2 in2 il2 tx2 sh2 cm3 ia3 0 0 ih3 in3 il3 tx3 sh3 (-1) 0 it0 (-1) 0 it1 (-1) 0 it2 (-1) 0 it3) sz) (zX k q 0 (-1) 12 100 0 (fun _ => 0) aps 0 ar1 ar2 ar3 ar4 ar5 ar6 ar7 ph pp py wy fa fb cm0 ia0 0 0 ih0 in0 il0 tx0 sh0 cm1 ia1 0 0 ih1 in1 il1 tx1 sh1 cm2 ia2 0 0 ih2 in2 il2 tx2 sh2 cm3 ia3 0 0 ih3 in3 il3 tx3 sh3 (-1) 0 it0 (-1) 0 it1 (-1) 0 it2 (-1) 0 it3) t) (va_A (zX k q 0 (-1) 12 100 0 (fun _ => 0) aps 0 ar1 ar2 ar3 ar4 ar5 ar6 ar7 ph pp py wy fa fb cm0 ia0 0 0 ih0 in0 il0 tx0 sh0 cm1 ia1 0 0 ih1 in1 il1 tx1 sh1 cm2 ia2 0 0 ih2 in2 il2 tx2 sh2 cm3 ia3 0 0 ih3 in3 il3 tx3 sh3 (-1) 0 it0 (-1) 0 it1 (-1) 0 it2 (-1) 0 it3) sz)) 0 0 (va_A (zX k q 0 (-1) 12 100 0 (fun _ => 0) aps 0 ar1 ar2 ar3 ar4 ar5 ar6 ar7 ph pp py wy fa fb cm0 ia0 0 0 ih0 in0 il0 tx0 sh0 cm1 ia1 0 0 ih1 in1 il1 tx1 sh1 cm2 ia2 0 0 ih2 in2 il2 tx2 sh2 cm3 ia3 0 0 ih3 in3 il3 tx3 sh3 (-1) 0 it0 (-1) 0 it1 (-1) 0 it2 (-1) 0 it3) sz) := by
  refine Met.ofW (cc := cX6_bytesOfDesigns) (maxL := 3) (ret := (some .int)) (by decide) rfl ?_
  intro p e s m args below meth c s₁ B hml hv
  obtain ⟨rfl, hsz, hP, hK, hD0⟩ := hv
  have hx := B.exec
  have hb := B.bytes
  have hr := B.returns
  have hts : ∀ w ∈ zw, w.before _ s = true := fun w h => atoms_spec (ws := (wz yX6_bytesOfDesigns cX6_bytesOfDesigns 3 (some .int))) B.pre w (List.mem_cons_of_mem _ h)
  have hown : s.vm.findClass RX6 = some m.cls := findClass_of_methodNamed B.named
  have hlocks := B.notSynchronized
  subst hsz
  have hi1 := inw1
  have hi6 := inw6
  have hD := hD0.self (sz := s.heap.size)
  generalize hAe : va_A (zX k q 0 (-1) 12 100 0 (fun _ => 0) aps 0 ar1 ar2 ar3 ar4 ar5 ar6 ar7 ph pp py wy fa fb cm0 ia0 0 0 ih0 in0 il0 tx0 sh0 cm1 ia1 0 0 ih1 in1 il1 tx1 sh1 cm2 ia2 0 0 ih2 in2 il2 tx2 sh2 cm3 ia3 0 0 ih3 in3 il3 tx3 sh3 (-1) 0 it0 (-1) 0 it1 (-1) 0 it2 (-1) 0 it3) s.heap.size = A at hD ⊢
  have hA : ∀ q : Nat, s.heap.size ≤ q → A q := fun q h => by rw [← hAe]; exact Or.inr h
  have hl := lv_entry ([.ref (q 0)]) (n := 3) (Nat.le_of_ble_eq_true rfl)
  rw [lg_entry_eq]
  generalize (lg_sl ([.ref (q 0)]) ++ List.replicate (3 - (lg_sl ([.ref (q 0)])).length) Slot.unset).toArray = ls at hl ⊢
  have hl : lv_has ls 3 [(0, .ref (q 0))] := hl
  refine z_start (w := (zX k q 0 (-1) 12 100 0 (fun _ => 0) aps 0 ar1 ar2 ar3 ar4 ar5 ar6 ar7 ph pp py wy fa fb cm0 ia0 0 0 ih0 in0 il0 tx0 sh0 cm1 ia1 0 0 ih1 in1 il1 tx1 sh1 cm2 ia2 0 0 ih2 in2 il2 tx2 sh2 cm3 ia3 0 0 ih3 in3 il3 tx3 sh3 (-1) 0 it0 (-1) 0 it1 (-1) 0 it2 (-1) 0 it3)) hP hD (fun H locs hP hD hS => ?_)
  refine lv_iconst (v := 0) hx hb dX6_bytesOfDesigns_0 (by decide) ?_
  refine lv_istore_n (lv' := [(1, .int 0), (0, .ref (q 0))]) hx hb dX6_bytesOfDesigns_1 rfl hl (by decide) rfl (fun ls hl => ?_)
  refine lv_iconst (v := 0) hx hb dX6_bytesOfDesigns_2 (by decide) ?_
  refine lv_istore_n (lv' := [(2, .int 0), (1, .int 0), (0, .ref (q 0))]) hx hb dX6_bytesOfDesigns_3 rfl hl (by decide) rfl (fun ls hl => ?_)
  refine lv_iload_n hx hb dX6_bytesOfDesigns_4 rfl (lv_at hl 0 rfl) ?_
  refine lv_iconst (v := 4) hx hb dX6_bytesOfDesigns_5 (by decide) ?_
  refine lv_icmp_ge (tgt := 27) hx hb dX6_bytesOfDesigns_6 (by decide) (fun c_1 => ?_) (fun c_1 => ?_)
  · skip
    exact absurd c_1 (by decide)
  · skip
    refine lv_iload_n hx hb dX6_bytesOfDesigns_9 rfl (lv_at hl 1 rfl) ?_
    refine lv_aload_n hx hb dX6_bytesOfDesigns_10 rfl (lv_at hl 2 rfl) ?_
    refine va_get (D := (dC, dI)) (ci := 6) (v := .ref (q 1)) (C := RX6) (T := TX6) (N := 12) hx hb hts hi6 hown hK.1 hP 0 rfl rfl 0 (by decide) (hts _ wmt1_170) (fun _ h9 => h9) rfl dX6_bytesOfDesigns_11 ?_
    refine lv_iload_n hx hb dX6_bytesOfDesigns_14 rfl (lv_at hl 0 rfl) ?_
    refine va_aldq (D := (dC, dI)) hx hb hK.1 hP 1 3 rfl rfl (show ¬ _ by decide) dX6_bytesOfDesigns_15 ?_
    refine z_top (v2 := .ref (q 16)) (rfl) ?_
    refine va_get (D := (dC, dI)) (ci := 1) (v := .int 0) (C := RX1) (T := TX1) (N := 9) hx hb hts hi1 hown hK.1 hP 16 rfl rfl 4 (by decide) (hts _ wmt1_123) (fun _ h9 => h9) rfl dX6_bytesOfDesigns_16 ?_
    refine lv_iadd hx hb dX6_bytesOfDesigns_19 ?_
    refine z_top (v2 := .int 0) (congrArg Value.int (by decide)) ?_
    refine lv_istore_n (lv' := [(1, .int 0), (2, .int 0), (0, .ref (q 0))]) hx hb dX6_bytesOfDesigns_20 rfl hl (by decide) rfl (fun ls hl => ?_)
    refine lv_iinc (v := 1) (lv' := [(2, .int 1), (1, .int 0), (0, .ref (q 0))]) hx hb dX6_bytesOfDesigns_21 hl (k := 1) rfl (by decide) (by decide) rfl (fun ls hl => ?_)
    refine lv_goto (tgt := 4) hx hb dX6_bytesOfDesigns_24 (by decide) ?_
    refine lv_iload_n hx hb dX6_bytesOfDesigns_4 rfl (lv_at hl 0 rfl) ?_
    refine lv_iconst (v := 4) hx hb dX6_bytesOfDesigns_5 (by decide) ?_
    refine lv_icmp_ge (tgt := 27) hx hb dX6_bytesOfDesigns_6 (by decide) (fun c_2 => ?_) (fun c_2 => ?_)
    · skip
      exact absurd c_2 (by decide)
    · skip
      refine lv_iload_n hx hb dX6_bytesOfDesigns_9 rfl (lv_at hl 1 rfl) ?_
      refine lv_aload_n hx hb dX6_bytesOfDesigns_10 rfl (lv_at hl 2 rfl) ?_
      refine va_get (D := (dC, dI)) (ci := 6) (v := .ref (q 1)) (C := RX6) (T := TX6) (N := 12) hx hb hts hi6 hown hK.1 hP 0 rfl rfl 0 (by decide) (hts _ wmt1_170) (fun _ h9 => h9) rfl dX6_bytesOfDesigns_11 ?_
      refine lv_iload_n hx hb dX6_bytesOfDesigns_14 rfl (lv_at hl 0 rfl) ?_
      refine va_aldq (D := (dC, dI)) hx hb hK.1 hP 1 3 rfl rfl (show ¬ _ by decide) dX6_bytesOfDesigns_15 ?_
      refine z_top (v2 := .ref (q 19)) (rfl) ?_
      refine va_get (D := (dC, dI)) (ci := 1) (v := .int 0) (C := RX1) (T := TX1) (N := 9) hx hb hts hi1 hown hK.1 hP 19 rfl rfl 4 (by decide) (hts _ wmt1_123) (fun _ h9 => h9) rfl dX6_bytesOfDesigns_16 ?_
      refine lv_iadd hx hb dX6_bytesOfDesigns_19 ?_
      refine z_top (v2 := .int 0) (congrArg Value.int (by decide)) ?_
      refine lv_istore_n (lv' := [(1, .int 0), (2, .int 1), (0, .ref (q 0))]) hx hb dX6_bytesOfDesigns_20 rfl hl (by decide) rfl (fun ls hl => ?_)
      refine lv_iinc (v := 2) (lv' := [(2, .int 2), (1, .int 0), (0, .ref (q 0))]) hx hb dX6_bytesOfDesigns_21 hl (k := 1) rfl (by decide) (by decide) rfl (fun ls hl => ?_)
      refine lv_goto (tgt := 4) hx hb dX6_bytesOfDesigns_24 (by decide) ?_
      refine lv_iload_n hx hb dX6_bytesOfDesigns_4 rfl (lv_at hl 0 rfl) ?_
      refine lv_iconst (v := 4) hx hb dX6_bytesOfDesigns_5 (by decide) ?_
      refine lv_icmp_ge (tgt := 27) hx hb dX6_bytesOfDesigns_6 (by decide) (fun c_3 => ?_) (fun c_3 => ?_)
      · skip
        exact absurd c_3 (by decide)
      · skip
        refine lv_iload_n hx hb dX6_bytesOfDesigns_9 rfl (lv_at hl 1 rfl) ?_
        refine lv_aload_n hx hb dX6_bytesOfDesigns_10 rfl (lv_at hl 2 rfl) ?_
        refine va_get (D := (dC, dI)) (ci := 6) (v := .ref (q 1)) (C := RX6) (T := TX6) (N := 12) hx hb hts hi6 hown hK.1 hP 0 rfl rfl 0 (by decide) (hts _ wmt1_170) (fun _ h9 => h9) rfl dX6_bytesOfDesigns_11 ?_
        refine lv_iload_n hx hb dX6_bytesOfDesigns_14 rfl (lv_at hl 0 rfl) ?_
        refine va_aldq (D := (dC, dI)) hx hb hK.1 hP 1 3 rfl rfl (show ¬ _ by decide) dX6_bytesOfDesigns_15 ?_
        refine z_top (v2 := .ref (q 22)) (rfl) ?_
        refine va_get (D := (dC, dI)) (ci := 1) (v := .int 0) (C := RX1) (T := TX1) (N := 9) hx hb hts hi1 hown hK.1 hP 22 rfl rfl 4 (by decide) (hts _ wmt1_123) (fun _ h9 => h9) rfl dX6_bytesOfDesigns_16 ?_
        refine lv_iadd hx hb dX6_bytesOfDesigns_19 ?_
        refine z_top (v2 := .int 0) (congrArg Value.int (by decide)) ?_
        refine lv_istore_n (lv' := [(1, .int 0), (2, .int 2), (0, .ref (q 0))]) hx hb dX6_bytesOfDesigns_20 rfl hl (by decide) rfl (fun ls hl => ?_)
        refine lv_iinc (v := 3) (lv' := [(2, .int 3), (1, .int 0), (0, .ref (q 0))]) hx hb dX6_bytesOfDesigns_21 hl (k := 1) rfl (by decide) (by decide) rfl (fun ls hl => ?_)
        refine lv_goto (tgt := 4) hx hb dX6_bytesOfDesigns_24 (by decide) ?_
        refine lv_iload_n hx hb dX6_bytesOfDesigns_4 rfl (lv_at hl 0 rfl) ?_
        refine lv_iconst (v := 4) hx hb dX6_bytesOfDesigns_5 (by decide) ?_
        refine lv_icmp_ge (tgt := 27) hx hb dX6_bytesOfDesigns_6 (by decide) (fun c_4 => ?_) (fun c_4 => ?_)
        · skip
          exact absurd c_4 (by decide)
        · skip
          refine lv_iload_n hx hb dX6_bytesOfDesigns_9 rfl (lv_at hl 1 rfl) ?_
          refine lv_aload_n hx hb dX6_bytesOfDesigns_10 rfl (lv_at hl 2 rfl) ?_
          refine va_get (D := (dC, dI)) (ci := 6) (v := .ref (q 1)) (C := RX6) (T := TX6) (N := 12) hx hb hts hi6 hown hK.1 hP 0 rfl rfl 0 (by decide) (hts _ wmt1_170) (fun _ h9 => h9) rfl dX6_bytesOfDesigns_11 ?_
          refine lv_iload_n hx hb dX6_bytesOfDesigns_14 rfl (lv_at hl 0 rfl) ?_
          refine va_aldq (D := (dC, dI)) hx hb hK.1 hP 1 3 rfl rfl (show ¬ _ by decide) dX6_bytesOfDesigns_15 ?_
          refine z_top (v2 := .ref (q 25)) (rfl) ?_
          refine va_get (D := (dC, dI)) (ci := 1) (v := .int 0) (C := RX1) (T := TX1) (N := 9) hx hb hts hi1 hown hK.1 hP 25 rfl rfl 4 (by decide) (hts _ wmt1_123) (fun _ h9 => h9) rfl dX6_bytesOfDesigns_16 ?_
          refine lv_iadd hx hb dX6_bytesOfDesigns_19 ?_
          refine z_top (v2 := .int 0) (congrArg Value.int (by decide)) ?_
          refine lv_istore_n (lv' := [(1, .int 0), (2, .int 3), (0, .ref (q 0))]) hx hb dX6_bytesOfDesigns_20 rfl hl (by decide) rfl (fun ls hl => ?_)
          refine lv_iinc (v := 4) (lv' := [(2, .int 4), (1, .int 0), (0, .ref (q 0))]) hx hb dX6_bytesOfDesigns_21 hl (k := 1) rfl (by decide) (by decide) rfl (fun ls hl => ?_)
          refine lv_goto (tgt := 4) hx hb dX6_bytesOfDesigns_24 (by decide) ?_
          refine lv_iload_n hx hb dX6_bytesOfDesigns_4 rfl (lv_at hl 0 rfl) ?_
          refine lv_iconst (v := 4) hx hb dX6_bytesOfDesigns_5 (by decide) ?_
          refine lv_icmp_ge (tgt := 27) hx hb dX6_bytesOfDesigns_6 (by decide) (fun c_5 => ?_) (fun c_5 => ?_)
          · skip
            refine lv_iload_n hx hb dX6_bytesOfDesigns_27 rfl (lv_at hl 1 rfl) ?_
            exact W.iret (v := 0) hx hb hr (fun t ht hW => ⟨⟨0, (), rfl, (by first | assumption | with_reducible rfl | contradiction | exact (if_pos (by repeat' (first | assumption | decide | constructor))).symm | exact (if_neg (fun hh => absurd hh (by assumption))).symm | decide | (exfalso; simp only [zi_le, zi_lt, zi_eq, zi_n0, zi_n1, zi_n2, zi_n3, zi_n4, zi_n23, zi_n24, zi_n100, zi_n399, zi_n60, zi_n255, zi_n99, zi_nm1, zi_n30] at *; omega) | (simp_all; done)), ⟨by rw [ht]; exact hP, hD⟩⟩, hS.F ht⟩) hS.2.2 dX6_bytesOfDesigns_28
          · skip
            exact absurd (by decide) c_5
set_option maxHeartbeats 4000000 in
set_option maxRecDepth 100000 in
theorem c_X6_count (l : Launch) (dC : Nat → ClassId) (dI : Nat → Nat → Nat) (k : Nat → ClassId)  (q : Nat → Nat) (aps : Int32) (ar1 : Nat → Int32) (ar2 : Nat → Int32) (ar3 : Nat → Int32) (ar4 : Nat → Int32) (ar5 : Nat → Int32) (ar6 : Nat → Int32) (ar7 : Nat → Int32) (ph : Int32) (pp : Int32) (py : Int32) (wy : Nat → Int64) (fa : Int64) (fb : Int64) (cm0 : Int64) (ia0 : Int32) (ih0 : Int32) (in0 : Int32) (il0 : Int32) (tx0 : Nat → Int32) (sh0 : Nat → Int64) (cm1 : Int64) (ia1 : Int32) (ih1 : Int32) (in1 : Int32) (il1 : Int32) (tx1 : Nat → Int32) (sh1 : Nat → Int64) (cm2 : Int64) (ia2 : Int32) (ih2 : Int32) (in2 : Int32) (il2 : Int32) (tx2 : Nat → Int32) (sh2 : Nat → Int64) (cm3 : Int64) (ia3 : Int32) (ih3 : Int32) (in3 : Int32) (il3 : Int32) (tx3 : Nat → Int32) (sh3 : Nat → Int64) (it0 : Nat → Int32) (it1 : Nat → Int32) (it2 : Nat → Int32) (it3 : Nat → Int32) (w : Int32) (sz : Nat)  : Met l yX6_count (wz yX6_count cX6_count 2 (some .int)) ({ frames := 1, cells := 0, slots := 0, locals := 24 }) (va_Pc [.ref (q 0), .int w] (zPre dC dI k (zTX k) (zX k q 0 (-1) 12 100 0 (fun _ => 0) aps 0 ar1 ar2 ar3 ar4 ar5 ar6 ar7 ph pp py wy fa fb cm0 ia0 0 0 ih0 in0 il0 tx0 sh0 cm1 ia1 0 0 ih1 in1 il1 tx1 sh1 cm2 ia2 0 0 ih2 in2 il2 tx2 sh2 cm3 ia3 0 0 ih3 in3 il3 tx3 sh3 (-1) 0 it0 (-1) 0 it1 (-1) 0 it2 (-1) 0 it3) sz)) (va_Qi (fun (r : Int32) (u : Unit) => r = zCount w) (fun u t => zPost dC dI (va_A (zX k q 0 (-1) 12 100 0 (fun _ => 0) aps 0 ar1 ar2 ar3 ar4 ar5 ar6 ar7 ph pp py wy fa fb cm0 ia0 0 0 ih0 in0 il0 tx0 sh0 cm1 ia1 0 0 ih1 in1 il1 tx1 sh1 cm2 ia2 0 0 ih2 in2 il2 tx2 sh2 cm3 ia3 0 0 ih3 in3 il3 tx3 sh3 (-1) 0 it0 (-1) 0 it1 (-1) 0 it2 (-1) 0 it3) sz) (zX k q 0 (-1) 12 100 0 (fun _ => 0) aps 0 ar1 ar2 ar3 ar4 ar5 ar6 ar7 ph pp py wy fa fb cm0 ia0 0 0 ih0 in0 il0 tx0 sh0 cm1 ia1 0 0 ih1 in1 il1 tx1 sh1 cm2 ia2 0 0 ih2 in2 il2 tx2 sh2 cm3 ia3 0 0 ih3 in3 il3 tx3 sh3 (-1) 0 it0 (-1) 0 it1 (-1) 0 it2 (-1) 0 it3) t) (va_A (zX k q 0 (-1) 12 100 0 (fun _ => 0) aps 0 ar1 ar2 ar3 ar4 ar5 ar6 ar7 ph pp py wy fa fb cm0 ia0 0 0 ih0 in0 il0 tx0 sh0 cm1 ia1 0 0 ih1 in1 il1 tx1 sh1 cm2 ia2 0 0 ih2 in2 il2 tx2 sh2 cm3 ia3 0 0 ih3 in3 il3 tx3 sh3 (-1) 0 it0 (-1) 0 it1 (-1) 0 it2 (-1) 0 it3) sz)) 0 0 (va_A (zX k q 0 (-1) 12 100 0 (fun _ => 0) aps 0 ar1 ar2 ar3 ar4 ar5 ar6 ar7 ph pp py wy fa fb cm0 ia0 0 0 ih0 in0 il0 tx0 sh0 cm1 ia1 0 0 ih1 in1 il1 tx1 sh1 cm2 ia2 0 0 ih2 in2 il2 tx2 sh2 cm3 ia3 0 0 ih3 in3 il3 tx3 sh3 (-1) 0 it0 (-1) 0 it1 (-1) 0 it2 (-1) 0 it3) sz) := by
  refine Met.ofW (cc := cX6_count) (maxL := 2) (ret := (some .int)) (by decide) rfl ?_
  intro p e s m args below meth c s₁ B hml hv
  obtain ⟨rfl, hsz, hP, hK, hD0⟩ := hv
  have hx := B.exec
  have hb := B.bytes
  have hr := B.returns
  have hts : ∀ w ∈ zw, w.before _ s = true := fun w h => atoms_spec (ws := (wz yX6_count cX6_count 2 (some .int))) B.pre w (List.mem_cons_of_mem _ h)
  have hown : s.vm.findClass RX6 = some m.cls := findClass_of_methodNamed B.named
  have hlocks := B.notSynchronized
  subst hsz
  have hi0 := inw0
  have hi6 := inw6
  have hD := hD0.self (sz := s.heap.size)
  generalize hAe : va_A (zX k q 0 (-1) 12 100 0 (fun _ => 0) aps 0 ar1 ar2 ar3 ar4 ar5 ar6 ar7 ph pp py wy fa fb cm0 ia0 0 0 ih0 in0 il0 tx0 sh0 cm1 ia1 0 0 ih1 in1 il1 tx1 sh1 cm2 ia2 0 0 ih2 in2 il2 tx2 sh2 cm3 ia3 0 0 ih3 in3 il3 tx3 sh3 (-1) 0 it0 (-1) 0 it1 (-1) 0 it2 (-1) 0 it3) s.heap.size = A at hD ⊢
  have hA : ∀ q : Nat, s.heap.size ≤ q → A q := fun q h => by rw [← hAe]; exact Or.inr h
  have hl := lv_entry ([.ref (q 0), .int w]) (n := 2) (Nat.le_of_ble_eq_true rfl)
  rw [lg_entry_eq]
  generalize (lg_sl ([.ref (q 0), .int w]) ++ List.replicate (2 - (lg_sl ([.ref (q 0), .int w])).length) Slot.unset).toArray = ls at hl ⊢
  have hl : lv_has ls 2 [(0, .ref (q 0)), (1, .int w)] := hl
  refine z_start (w := (zX k q 0 (-1) 12 100 0 (fun _ => 0) aps 0 ar1 ar2 ar3 ar4 ar5 ar6 ar7 ph pp py wy fa fb cm0 ia0 0 0 ih0 in0 il0 tx0 sh0 cm1 ia1 0 0 ih1 in1 il1 tx1 sh1 cm2 ia2 0 0 ih2 in2 il2 tx2 sh2 cm3 ia3 0 0 ih3 in3 il3 tx3 sh3 (-1) 0 it0 (-1) 0 it1 (-1) 0 it2 (-1) 0 it3)) hP hD (fun H locs hP hD hS => ?_)
  refine lv_iload_n hx hb dX6_count_0 rfl (lv_at hl 1 rfl) ?_
  rcases Decidable.em (w.toInt < 0 ∨ 8 < w.toInt) with sw_1 | sw_1
  · skip
    refine lv_tableOut (tgt := 116) hx hb dX6_count_1 sw_1 (by decide) ?_
    refine lv_bipush (v := (-2)) hx hb dX6_count_116 (by decide) ?_
    exact W.iret (v := (-2)) hx hb hr (fun t ht hW => ⟨⟨(-2), (), rfl, (by first | assumption | with_reducible rfl | contradiction | exact (if_pos (by repeat' (first | assumption | decide | constructor))).symm | exact (if_neg (fun hh => absurd hh (by assumption))).symm | decide | (exfalso; simp only [zi_le, zi_lt, zi_eq, zi_n0, zi_n1, zi_n2, zi_n3, zi_n4, zi_n23, zi_n24, zi_n100, zi_n399, zi_n60, zi_n255, zi_n99, zi_nm1, zi_n30] at *; omega) | (simp_all; done)), ⟨by rw [ht]; exact hP, hD⟩⟩, hS.F ht⟩) hS.2.2 dX6_count_118
  · skip
    have sw_2 : w = 0 ∨ w = 1 ∨ w = 2 ∨ w = 3 ∨ w = 4 ∨ w = 5 ∨ w = 6 ∨ w = 7 ∨ w = 8 := by simp only [zi_eq, (by decide : (0 : Int32).toInt = 0), (by decide : (1 : Int32).toInt = 1), (by decide : (2 : Int32).toInt = 2), (by decide : (3 : Int32).toInt = 3), (by decide : (4 : Int32).toInt = 4), (by decide : (5 : Int32).toInt = 5), (by decide : (6 : Int32).toInt = 6), (by decide : (7 : Int32).toInt = 7), (by decide : (8 : Int32).toInt = 8)]; omega
    clear sw_1
    rcases sw_2 with rfl | rfl | rfl | rfl | rfl | rfl | rfl | rfl | rfl
    · skip
      refine lv_tableIn (off := 51) (tgt := 52) hx hb dX6_count_1 (by decide) (by decide) (by decide) (by decide) ?_
      refine lv_aload_n hx hb dX6_count_52 rfl (lv_at hl 0 rfl) ?_
      refine va_get (D := (dC, dI)) (ci := 6) (v := .int 0) (C := RX6) (T := TX6) (N := 12) hx hb hts hi6 hown hK.1 hP 0 rfl rfl 7 (by decide) (hts _ wmt1_177) (fun _ h9 => h9) rfl dX6_count_53 ?_
      exact W.iret (v := 0) hx hb hr (fun t ht hW => ⟨⟨0, (), rfl, (by first | assumption | with_reducible rfl | contradiction | exact (if_pos (by repeat' (first | assumption | decide | constructor))).symm | exact (if_neg (fun hh => absurd hh (by assumption))).symm | decide | (exfalso; simp only [zi_le, zi_lt, zi_eq, zi_n0, zi_n1, zi_n2, zi_n3, zi_n4, zi_n23, zi_n24, zi_n100, zi_n399, zi_n60, zi_n255, zi_n99, zi_nm1, zi_n30] at *; omega) | (simp_all; done)), ⟨by rw [ht]; exact hP, hD⟩⟩, hS.F ht⟩) hS.2.2 dX6_count_56
    · skip
      refine lv_tableIn (off := 56) (tgt := 57) hx hb dX6_count_1 (by decide) (by decide) (by decide) (by decide) ?_
      refine lv_aload_n hx hb dX6_count_57 rfl (lv_at hl 0 rfl) ?_
      refine va_get (D := (dC, dI)) (ci := 6) (v := .ref (q 4)) (C := RX6) (T := TX6) (N := 12) hx hb hts hi6 hown hK.1 hP 0 rfl rfl 3 (by decide) (hts _ wmt1_173) (fun _ h9 => h9) rfl dX6_count_58 ?_
      refine va_get (D := (dC, dI)) (ci := 0) (v := .int 0) (C := RX0) (T := TX0) (N := 9) hx hb hts hi0 hown hK.1 hP 4 rfl rfl 8 (by decide) (hts _ wmt1_47) (fun _ h9 => h9) rfl dX6_count_61 ?_
      exact W.iret (v := 0) hx hb hr (fun t ht hW => ⟨⟨0, (), rfl, (by first | assumption | with_reducible rfl | contradiction | exact (if_pos (by repeat' (first | assumption | decide | constructor))).symm | exact (if_neg (fun hh => absurd hh (by assumption))).symm | decide | (exfalso; simp only [zi_le, zi_lt, zi_eq, zi_n0, zi_n1, zi_n2, zi_n3, zi_n4, zi_n23, zi_n24, zi_n100, zi_n399, zi_n60, zi_n255, zi_n99, zi_nm1, zi_n30] at *; omega) | (simp_all; done)), ⟨by rw [ht]; exact hP, hD⟩⟩, hS.F ht⟩) hS.2.2 dX6_count_64
    · skip
      refine lv_tableIn (off := 64) (tgt := 65) hx hb dX6_count_1 (by decide) (by decide) (by decide) (by decide) ?_
      refine lv_aload_n hx hb dX6_count_65 rfl (lv_at hl 0 rfl) ?_
      refine va_get (D := (dC, dI)) (ci := 6) (v := .ref (q 4)) (C := RX6) (T := TX6) (N := 12) hx hb hts hi6 hown hK.1 hP 0 rfl rfl 3 (by decide) (hts _ wmt1_173) (fun _ h9 => h9) rfl dX6_count_66 ?_
      refine lv_aload_n hx hb dX6_count_69 rfl (lv_at hl 0 rfl) ?_
      refine zcA_i (w := (zX k q 0 (-1) 12 100 0 (fun _ => 0) aps 0 ar1 ar2 ar3 ar4 ar5 ar6 ar7 ph pp py wy fa fb cm0 ia0 0 0 ih0 in0 il0 tx0 sh0 cm1 ia1 0 0 ih1 in1 il1 tx1 sh1 cm2 ia2 0 0 ih2 in2 il2 tx2 sh2 cm3 ia3 0 0 ih3 in3 il3 tx3 sh3 (-1) 0 it0 (-1) 0 it1 (-1) 0 it2 (-1) 0 it3)) (va_runV (As := []) (rest := [.ref (q 4)]) ⟨hx, hb, hml, hown, hts⟩ (c_X6_dayOfView l dC dI k  q aps ar1 ar2 ar3 ar4 ar5 ar6 ar7 ph pp py wy fa fb cm0 ia0 ih0 in0 il0 tx0 sh0 cm1 ia1 ih1 in1 il1 tx1 sh1 cm2 ia2 ih2 in2 il2 tx2 sh2 cm3 ia3 ih3 in3 il3 tx3 sh3 it0 it1 it2 it3 _ ) (cwV 0 hts (gzV wmt2_118 wmt2_120 wmp1_8 wmt1_1 wmt2_121) rfl rfl rfl (by decide +kernel) ⟨Nat.le_of_ble_eq_true rfl, Nat.le_of_ble_eq_true rfl⟩) (zpA_V (ci := 6) (q0 := 0) hK hP hD rfl rfl) rfl rfl hl.1 rfl (lv_room (Nat.le_of_ble_eq_true rfl)) dX6_count_70 ⟨Nat.le_of_ble_eq_true rfl, Nat.le_of_ble_eq_true rfl⟩) hD hS hA (fun r_3 u_4 H locs w_5 hP hD hS => ?_)
      have hP : va_P (dC, dI) vwCl (zX k q 0 (-1) 12 100 0 (fun _ => 0) aps 0 ar1 ar2 ar3 ar4 ar5 ar6 ar7 ph pp py wy fa fb cm0 ia0 0 0 ih0 in0 il0 tx0 sh0 cm1 ia1 0 0 ih1 in1 il1 tx1 sh1 cm2 ia2 0 0 ih2 in2 il2 tx2 sh2 cm3 ia3 0 0 ih3 in3 il3 tx3 sh3 (-1) 0 it0 (-1) 0 it1 (-1) 0 it2 (-1) 0 it3) H := hP
      have hD : va_D A (zX k q 0 (-1) 12 100 0 (fun _ => 0) aps 0 ar1 ar2 ar3 ar4 ar5 ar6 ar7 ph pp py wy fa fb cm0 ia0 0 0 ih0 in0 il0 tx0 sh0 cm1 ia1 0 0 ih1 in1 il1 tx1 sh1 cm2 ia2 0 0 ih2 in2 il2 tx2 sh2 cm3 ia3 0 0 ih3 in3 il3 tx3 sh3 (-1) 0 it0 (-1) 0 it1 (-1) 0 it2 (-1) 0 it3) := hD
      have e_6 := w_5
      replace e_6 : r_3 = 0 := e_6
      subst e_6
      refine lv_iconst (v := 0) hx hb dX6_count_73 (by decide) ?_
      refine zcS_i (w := (zX k q 0 (-1) 12 100 0 (fun _ => 0) aps 0 ar1 ar2 ar3 ar4 ar5 ar6 ar7 ph pp py wy fa fb cm0 ia0 0 0 ih0 in0 il0 tx0 sh0 cm1 ia1 0 0 ih1 in1 il1 tx1 sh1 cm2 ia2 0 0 ih2 in2 il2 tx2 sh2 cm3 ia3 0 0 ih3 in3 il3 tx3 sh3 (-1) 0 it0 (-1) 0 it1 (-1) 0 it2 (-1) 0 it3)) (wc := (zAns k (q 4) (q 5) (q 6) (q 7) (q 8) (q 9) (q 10) (q 11) ar1 ar2 ar3 ar4 ar5 ar6 ar7 aps 0)) (va_runV (As := [.int 0, .int 0]) (rest := []) ⟨hx, hb, hml, hown, hts⟩ (c_X0_knownOnes l dC dI k (zTX k) (q 4) (q 5) (q 6) (q 7) (q 8) (q 9) (q 10) (q 11) ar1 ar2 ar3 ar4 ar5 ar6 ar7 aps 0 0 _ ) (cwV 2 hts (gzV wmt3_140 wmt3_141 wmt3_142 wmt1_2 wmt3_143) rfl rfl rfl (by decide +kernel) ⟨Nat.le_of_ble_eq_true rfl, Nat.le_of_ble_eq_true rfl⟩) (zp_V (ci := 0) (q0 := 4) hK hP hD [4, 5, 6, 7, 8, 9, 10, 11] rfl rfl rfl rfl) rfl rfl hl.1 rfl (lv_room (Nat.le_of_ble_eq_true rfl)) dX6_count_74 ⟨Nat.le_of_ble_eq_true rfl, Nat.le_of_ble_eq_true rfl⟩) hP hD hS hA [4, 5, 6, 7, 8, 9, 10, 11] rfl (fun _ => rfl) (fun r_7 u_8 H locs w_9 hP hD hS => ?_)
      have hP : va_P (dC, dI) vwCl (zX k q 0 (-1) 12 100 0 (fun _ => 0) aps 0 ar1 ar2 ar3 ar4 ar5 ar6 ar7 ph pp py wy fa fb cm0 ia0 0 0 ih0 in0 il0 tx0 sh0 cm1 ia1 0 0 ih1 in1 il1 tx1 sh1 cm2 ia2 0 0 ih2 in2 il2 tx2 sh2 cm3 ia3 0 0 ih3 in3 il3 tx3 sh3 (-1) 0 it0 (-1) 0 it1 (-1) 0 it2 (-1) 0 it3) H := hP
      have hD : va_D A (zX k q 0 (-1) 12 100 0 (fun _ => 0) aps 0 ar1 ar2 ar3 ar4 ar5 ar6 ar7 ph pp py wy fa fb cm0 ia0 0 0 ih0 in0 il0 tx0 sh0 cm1 ia1 0 0 ih1 in1 il1 tx1 sh1 cm2 ia2 0 0 ih2 in2 il2 tx2 sh2 cm3 ia3 0 0 ih3 in3 il3 tx3 sh3 (-1) 0 it0 (-1) 0 it1 (-1) 0 it2 (-1) 0 it3) := hD
      have e_10 := w_9
      replace e_10 : r_7 = 0 := e_10
      subst e_10
      exact W.iret (v := 0) hx hb hr (fun t ht hW => ⟨⟨0, (), rfl, (by first | assumption | with_reducible rfl | contradiction | exact (if_pos (by repeat' (first | assumption | decide | constructor))).symm | exact (if_neg (fun hh => absurd hh (by assumption))).symm | decide | (exfalso; simp only [zi_le, zi_lt, zi_eq, zi_n0, zi_n1, zi_n2, zi_n3, zi_n4, zi_n23, zi_n24, zi_n100, zi_n399, zi_n60, zi_n255, zi_n99, zi_nm1, zi_n30] at *; omega) | (simp_all; done)), ⟨by rw [ht]; exact hP, hD⟩⟩, hS.F ht⟩) hS.2.2 dX6_count_77
    · skip
      refine lv_tableIn (off := 77) (tgt := 78) hx hb dX6_count_1 (by decide) (by decide) (by decide) (by decide) ?_
      refine lv_aload_n hx hb dX6_count_78 rfl (lv_at hl 0 rfl) ?_
      refine va_get (D := (dC, dI)) (ci := 6) (v := .ref (q 4)) (C := RX6) (T := TX6) (N := 12) hx hb hts hi6 hown hK.1 hP 0 rfl rfl 3 (by decide) (hts _ wmt1_173) (fun _ h9 => h9) rfl dX6_count_79 ?_
      refine lv_aload_n hx hb dX6_count_82 rfl (lv_at hl 0 rfl) ?_
      refine zcA_i (w := (zX k q 0 (-1) 12 100 0 (fun _ => 0) aps 0 ar1 ar2 ar3 ar4 ar5 ar6 ar7 ph pp py wy fa fb cm0 ia0 0 0 ih0 in0 il0 tx0 sh0 cm1 ia1 0 0 ih1 in1 il1 tx1 sh1 cm2 ia2 0 0 ih2 in2 il2 tx2 sh2 cm3 ia3 0 0 ih3 in3 il3 tx3 sh3 (-1) 0 it0 (-1) 0 it1 (-1) 0 it2 (-1) 0 it3)) (va_runV (As := []) (rest := [.ref (q 4)]) ⟨hx, hb, hml, hown, hts⟩ (c_X6_dayOfView l dC dI k  q aps ar1 ar2 ar3 ar4 ar5 ar6 ar7 ph pp py wy fa fb cm0 ia0 ih0 in0 il0 tx0 sh0 cm1 ia1 ih1 in1 il1 tx1 sh1 cm2 ia2 ih2 in2 il2 tx2 sh2 cm3 ia3 ih3 in3 il3 tx3 sh3 it0 it1 it2 it3 _ ) (cwV 0 hts (gzV wmt2_118 wmt2_120 wmp1_8 wmt1_1 wmt2_121) rfl rfl rfl (by decide +kernel) ⟨Nat.le_of_ble_eq_true rfl, Nat.le_of_ble_eq_true rfl⟩) (zpA_V (ci := 6) (q0 := 0) hK hP hD rfl rfl) rfl rfl hl.1 rfl (lv_room (Nat.le_of_ble_eq_true rfl)) dX6_count_83 ⟨Nat.le_of_ble_eq_true rfl, Nat.le_of_ble_eq_true rfl⟩) hD hS hA (fun r_11 u_12 H locs w_13 hP hD hS => ?_)
      have hP : va_P (dC, dI) vwCl (zX k q 0 (-1) 12 100 0 (fun _ => 0) aps 0 ar1 ar2 ar3 ar4 ar5 ar6 ar7 ph pp py wy fa fb cm0 ia0 0 0 ih0 in0 il0 tx0 sh0 cm1 ia1 0 0 ih1 in1 il1 tx1 sh1 cm2 ia2 0 0 ih2 in2 il2 tx2 sh2 cm3 ia3 0 0 ih3 in3 il3 tx3 sh3 (-1) 0 it0 (-1) 0 it1 (-1) 0 it2 (-1) 0 it3) H := hP
      have hD : va_D A (zX k q 0 (-1) 12 100 0 (fun _ => 0) aps 0 ar1 ar2 ar3 ar4 ar5 ar6 ar7 ph pp py wy fa fb cm0 ia0 0 0 ih0 in0 il0 tx0 sh0 cm1 ia1 0 0 ih1 in1 il1 tx1 sh1 cm2 ia2 0 0 ih2 in2 il2 tx2 sh2 cm3 ia3 0 0 ih3 in3 il3 tx3 sh3 (-1) 0 it0 (-1) 0 it1 (-1) 0 it2 (-1) 0 it3) := hD
      have e_14 := w_13
      replace e_14 : r_11 = 0 := e_14
      subst e_14
      refine lv_iconst (v := 1) hx hb dX6_count_86 (by decide) ?_
      refine zcS_i (w := (zX k q 0 (-1) 12 100 0 (fun _ => 0) aps 0 ar1 ar2 ar3 ar4 ar5 ar6 ar7 ph pp py wy fa fb cm0 ia0 0 0 ih0 in0 il0 tx0 sh0 cm1 ia1 0 0 ih1 in1 il1 tx1 sh1 cm2 ia2 0 0 ih2 in2 il2 tx2 sh2 cm3 ia3 0 0 ih3 in3 il3 tx3 sh3 (-1) 0 it0 (-1) 0 it1 (-1) 0 it2 (-1) 0 it3)) (wc := (zAns k (q 4) (q 5) (q 6) (q 7) (q 8) (q 9) (q 10) (q 11) ar1 ar2 ar3 ar4 ar5 ar6 ar7 aps 0)) (va_runV (As := [.int 0, .int 1]) (rest := []) ⟨hx, hb, hml, hown, hts⟩ (c_X0_knownOnes l dC dI k (zTX k) (q 4) (q 5) (q 6) (q 7) (q 8) (q 9) (q 10) (q 11) ar1 ar2 ar3 ar4 ar5 ar6 ar7 aps 0 1 _ ) (cwV 2 hts (gzV wmt3_140 wmt3_141 wmt3_142 wmt1_2 wmt3_143) rfl rfl rfl (by decide +kernel) ⟨Nat.le_of_ble_eq_true rfl, Nat.le_of_ble_eq_true rfl⟩) (zp_V (ci := 0) (q0 := 4) hK hP hD [4, 5, 6, 7, 8, 9, 10, 11] rfl rfl rfl rfl) rfl rfl hl.1 rfl (lv_room (Nat.le_of_ble_eq_true rfl)) dX6_count_87 ⟨Nat.le_of_ble_eq_true rfl, Nat.le_of_ble_eq_true rfl⟩) hP hD hS hA [4, 5, 6, 7, 8, 9, 10, 11] rfl (fun _ => rfl) (fun r_15 u_16 H locs w_17 hP hD hS => ?_)
      have hP : va_P (dC, dI) vwCl (zX k q 0 (-1) 12 100 0 (fun _ => 0) aps 0 ar1 ar2 ar3 ar4 ar5 ar6 ar7 ph pp py wy fa fb cm0 ia0 0 0 ih0 in0 il0 tx0 sh0 cm1 ia1 0 0 ih1 in1 il1 tx1 sh1 cm2 ia2 0 0 ih2 in2 il2 tx2 sh2 cm3 ia3 0 0 ih3 in3 il3 tx3 sh3 (-1) 0 it0 (-1) 0 it1 (-1) 0 it2 (-1) 0 it3) H := hP
      have hD : va_D A (zX k q 0 (-1) 12 100 0 (fun _ => 0) aps 0 ar1 ar2 ar3 ar4 ar5 ar6 ar7 ph pp py wy fa fb cm0 ia0 0 0 ih0 in0 il0 tx0 sh0 cm1 ia1 0 0 ih1 in1 il1 tx1 sh1 cm2 ia2 0 0 ih2 in2 il2 tx2 sh2 cm3 ia3 0 0 ih3 in3 il3 tx3 sh3 (-1) 0 it0 (-1) 0 it1 (-1) 0 it2 (-1) 0 it3) := hD
      have e_18 := w_17
      replace e_18 : r_15 = 0 := e_18
      subst e_18
      exact W.iret (v := 0) hx hb hr (fun t ht hW => ⟨⟨0, (), rfl, (by first | assumption | with_reducible rfl | contradiction | exact (if_pos (by repeat' (first | assumption | decide | constructor))).symm | exact (if_neg (fun hh => absurd hh (by assumption))).symm | decide | (exfalso; simp only [zi_le, zi_lt, zi_eq, zi_n0, zi_n1, zi_n2, zi_n3, zi_n4, zi_n23, zi_n24, zi_n100, zi_n399, zi_n60, zi_n255, zi_n99, zi_nm1, zi_n30] at *; omega) | (simp_all; done)), ⟨by rw [ht]; exact hP, hD⟩⟩, hS.F ht⟩) hS.2.2 dX6_count_90
    · skip
      refine lv_tableIn (off := 90) (tgt := 91) hx hb dX6_count_1 (by decide) (by decide) (by decide) (by decide) ?_
      refine lv_aload_n hx hb dX6_count_91 rfl (lv_at hl 0 rfl) ?_
      refine zcA_i (w := (zX k q 0 (-1) 12 100 0 (fun _ => 0) aps 0 ar1 ar2 ar3 ar4 ar5 ar6 ar7 ph pp py wy fa fb cm0 ia0 0 0 ih0 in0 il0 tx0 sh0 cm1 ia1 0 0 ih1 in1 il1 tx1 sh1 cm2 ia2 0 0 ih2 in2 il2 tx2 sh2 cm3 ia3 0 0 ih3 in3 il3 tx3 sh3 (-1) 0 it0 (-1) 0 it1 (-1) 0 it2 (-1) 0 it3)) (va_runV (As := []) (rest := []) ⟨hx, hb, hml, hown, hts⟩ (c_X6_bytesOfDesigns l dC dI k  q aps ar1 ar2 ar3 ar4 ar5 ar6 ar7 ph pp py wy fa fb cm0 ia0 ih0 in0 il0 tx0 sh0 cm1 ia1 ih1 in1 il1 tx1 sh1 cm2 ia2 ih2 in2 il2 tx2 sh2 cm3 ia3 ih3 in3 il3 tx3 sh3 it0 it1 it2 it3 _ ) (cwV 0 hts (gzV wmt3_144 wmt3_146 wmp2_5 wmt1_1 wmt3_147) rfl rfl rfl (by decide +kernel) ⟨Nat.le_of_ble_eq_true rfl, Nat.le_of_ble_eq_true rfl⟩) (zpA_V (ci := 6) (q0 := 0) hK hP hD rfl rfl) rfl rfl hl.1 rfl (lv_room (Nat.le_of_ble_eq_true rfl)) dX6_count_92 ⟨Nat.le_of_ble_eq_true rfl, Nat.le_of_ble_eq_true rfl⟩) hD hS hA (fun r_19 u_20 H locs w_21 hP hD hS => ?_)
      have hP : va_P (dC, dI) vwCl (zX k q 0 (-1) 12 100 0 (fun _ => 0) aps 0 ar1 ar2 ar3 ar4 ar5 ar6 ar7 ph pp py wy fa fb cm0 ia0 0 0 ih0 in0 il0 tx0 sh0 cm1 ia1 0 0 ih1 in1 il1 tx1 sh1 cm2 ia2 0 0 ih2 in2 il2 tx2 sh2 cm3 ia3 0 0 ih3 in3 il3 tx3 sh3 (-1) 0 it0 (-1) 0 it1 (-1) 0 it2 (-1) 0 it3) H := hP
      have hD : va_D A (zX k q 0 (-1) 12 100 0 (fun _ => 0) aps 0 ar1 ar2 ar3 ar4 ar5 ar6 ar7 ph pp py wy fa fb cm0 ia0 0 0 ih0 in0 il0 tx0 sh0 cm1 ia1 0 0 ih1 in1 il1 tx1 sh1 cm2 ia2 0 0 ih2 in2 il2 tx2 sh2 cm3 ia3 0 0 ih3 in3 il3 tx3 sh3 (-1) 0 it0 (-1) 0 it1 (-1) 0 it2 (-1) 0 it3) := hD
      have e_22 := w_21
      replace e_22 : r_19 = 0 := e_22
      subst e_22
      exact W.iret (v := 0) hx hb hr (fun t ht hW => ⟨⟨0, (), rfl, (by first | assumption | with_reducible rfl | contradiction | exact (if_pos (by repeat' (first | assumption | decide | constructor))).symm | exact (if_neg (fun hh => absurd hh (by assumption))).symm | decide | (exfalso; simp only [zi_le, zi_lt, zi_eq, zi_n0, zi_n1, zi_n2, zi_n3, zi_n4, zi_n23, zi_n24, zi_n100, zi_n399, zi_n60, zi_n255, zi_n99, zi_nm1, zi_n30] at *; omega) | (simp_all; done)), ⟨by rw [ht]; exact hP, hD⟩⟩, hS.F ht⟩) hS.2.2 dX6_count_95
    · skip
      refine lv_tableIn (off := 95) (tgt := 96) hx hb dX6_count_1 (by decide) (by decide) (by decide) (by decide) ?_
      refine lv_aload_n hx hb dX6_count_96 rfl (lv_at hl 0 rfl) ?_
      refine va_get (D := (dC, dI)) (ci := 6) (v := .int 12) (C := RX6) (T := TX6) (N := 12) hx hb hts hi6 hown hK.1 hP 0 rfl rfl 9 (by decide) (hts _ wmt1_179) (fun _ h9 => h9) rfl dX6_count_97 ?_
      exact W.iret (v := 12) hx hb hr (fun t ht hW => ⟨⟨12, (), rfl, (by first | assumption | with_reducible rfl | contradiction | exact (if_pos (by repeat' (first | assumption | decide | constructor))).symm | exact (if_neg (fun hh => absurd hh (by assumption))).symm | decide | (exfalso; simp only [zi_le, zi_lt, zi_eq, zi_n0, zi_n1, zi_n2, zi_n3, zi_n4, zi_n23, zi_n24, zi_n100, zi_n399, zi_n60, zi_n255, zi_n99, zi_nm1, zi_n30] at *; omega) | (simp_all; done)), ⟨by rw [ht]; exact hP, hD⟩⟩, hS.F ht⟩) hS.2.2 dX6_count_100
    · skip
      refine lv_tableIn (off := 100) (tgt := 101) hx hb dX6_count_1 (by decide) (by decide) (by decide) (by decide) ?_
      refine lv_aload_n hx hb dX6_count_101 rfl (lv_at hl 0 rfl) ?_
      refine va_get (D := (dC, dI)) (ci := 6) (v := .int 100) (C := RX6) (T := TX6) (N := 12) hx hb hts hi6 hown hK.1 hP 0 rfl rfl 10 (by decide) (hts _ wmt1_180) (fun _ h9 => h9) rfl dX6_count_102 ?_
      exact W.iret (v := 100) hx hb hr (fun t ht hW => ⟨⟨100, (), rfl, (by first | assumption | with_reducible rfl | contradiction | exact (if_pos (by repeat' (first | assumption | decide | constructor))).symm | exact (if_neg (fun hh => absurd hh (by assumption))).symm | decide | (exfalso; simp only [zi_le, zi_lt, zi_eq, zi_n0, zi_n1, zi_n2, zi_n3, zi_n4, zi_n23, zi_n24, zi_n100, zi_n399, zi_n60, zi_n255, zi_n99, zi_nm1, zi_n30] at *; omega) | (simp_all; done)), ⟨by rw [ht]; exact hP, hD⟩⟩, hS.F ht⟩) hS.2.2 dX6_count_105
    · skip
      refine lv_tableIn (off := 105) (tgt := 106) hx hb dX6_count_1 (by decide) (by decide) (by decide) (by decide) ?_
      refine lv_aload_n hx hb dX6_count_106 rfl (lv_at hl 0 rfl) ?_
      refine va_get (D := (dC, dI)) (ci := 6) (v := .int (-1)) (C := RX6) (T := TX6) (N := 12) hx hb hts hi6 hown hK.1 hP 0 rfl rfl 8 (by decide) (hts _ wmt1_178) (fun _ h9 => h9) rfl dX6_count_107 ?_
      exact W.iret (v := (-1)) hx hb hr (fun t ht hW => ⟨⟨(-1), (), rfl, (by first | assumption | with_reducible rfl | contradiction | exact (if_pos (by repeat' (first | assumption | decide | constructor))).symm | exact (if_neg (fun hh => absurd hh (by assumption))).symm | decide | (exfalso; simp only [zi_le, zi_lt, zi_eq, zi_n0, zi_n1, zi_n2, zi_n3, zi_n4, zi_n23, zi_n24, zi_n100, zi_n399, zi_n60, zi_n255, zi_n99, zi_nm1, zi_n30] at *; omega) | (simp_all; done)), ⟨by rw [ht]; exact hP, hD⟩⟩, hS.F ht⟩) hS.2.2 dX6_count_110
    · skip
      refine lv_tableIn (off := 110) (tgt := 111) hx hb dX6_count_1 (by decide) (by decide) (by decide) (by decide) ?_
      refine lv_aload_n hx hb dX6_count_111 rfl (lv_at hl 0 rfl) ?_
      refine va_get (D := (dC, dI)) (ci := 6) (v := .int 0) (C := RX6) (T := TX6) (N := 12) hx hb hts hi6 hown hK.1 hP 0 rfl rfl 11 (by decide) (hts _ wmt1_181) (fun _ h9 => h9) rfl dX6_count_112 ?_
      exact W.iret (v := 0) hx hb hr (fun t ht hW => ⟨⟨0, (), rfl, (by first | assumption | with_reducible rfl | contradiction | exact (if_pos (by repeat' (first | assumption | decide | constructor))).symm | exact (if_neg (fun hh => absurd hh (by assumption))).symm | decide | (exfalso; simp only [zi_le, zi_lt, zi_eq, zi_n0, zi_n1, zi_n2, zi_n3, zi_n4, zi_n23, zi_n24, zi_n100, zi_n399, zi_n60, zi_n255, zi_n99, zi_nm1, zi_n30] at *; omega) | (simp_all; done)), ⟨by rw [ht]; exact hP, hD⟩⟩, hS.F ht⟩) hS.2.2 dX6_count_115
set_option maxHeartbeats 4000000 in
set_option maxRecDepth 100000 in
theorem c_X6_pickedRefusal (l : Launch) (dC : Nat → ClassId) (dI : Nat → Nat → Nat) (k : Nat → ClassId)  (q : Nat → Nat) (ar1 : Nat → Int32) (ar2 : Nat → Int32) (ar3 : Nat → Int32) (ar4 : Nat → Int32) (ar5 : Nat → Int32) (ar6 : Nat → Int32) (ar7 : Nat → Int32) (ph : Int32) (pp : Int32) (py : Int32) (wy : Nat → Int64) (fa : Int64) (fb : Int64) (cm0 : Int64) (ia0 : Int32) (ih0 : Int32) (in0 : Int32) (il0 : Int32) (tx0 : Nat → Int32) (sh0 : Nat → Int64) (cm1 : Int64) (ia1 : Int32) (ih1 : Int32) (in1 : Int32) (il1 : Int32) (tx1 : Nat → Int32) (sh1 : Nat → Int64) (cm2 : Int64) (ia2 : Int32) (ih2 : Int32) (in2 : Int32) (il2 : Int32) (tx2 : Nat → Int32) (sh2 : Nat → Int64) (cm3 : Int64) (ia3 : Int32) (ih3 : Int32) (in3 : Int32) (il3 : Int32) (tx3 : Nat → Int32) (sh3 : Nat → Int64) (it0 : Nat → Int32) (it1 : Nat → Int32) (it2 : Nat → Int32) (it3 : Nat → Int32) (sz : Nat)  : Met l yX6_pickedRefusal (wz yX6_pickedRefusal cX6_pickedRefusal 5 (some .int)) ({ frames := 0, cells := 0, slots := 0, locals := 0 }) (va_Pc [.ref (q 0)] (zPre dC dI k (zTX k) (zX k q 0 (-1) 12 100 0 (fun _ => 0) 0 0 ar1 ar2 ar3 ar4 ar5 ar6 ar7 ph pp py wy fa fb cm0 ia0 0 0 ih0 in0 il0 tx0 sh0 cm1 ia1 0 0 ih1 in1 il1 tx1 sh1 cm2 ia2 0 0 ih2 in2 il2 tx2 sh2 cm3 ia3 0 0 ih3 in3 il3 tx3 sh3 (-1) 0 it0 (-1) 0 it1 (-1) 0 it2 (-1) 0 it3) sz)) (va_Qi (fun (r : Int32) (u : Unit) => r = 0) (fun u t => zPost dC dI (va_A (zX k q 0 (-1) 12 100 0 (fun _ => 0) 0 0 ar1 ar2 ar3 ar4 ar5 ar6 ar7 ph pp py wy fa fb cm0 ia0 0 0 ih0 in0 il0 tx0 sh0 cm1 ia1 0 0 ih1 in1 il1 tx1 sh1 cm2 ia2 0 0 ih2 in2 il2 tx2 sh2 cm3 ia3 0 0 ih3 in3 il3 tx3 sh3 (-1) 0 it0 (-1) 0 it1 (-1) 0 it2 (-1) 0 it3) sz) (zX k q 0 (-1) 12 100 0 (fun _ => 0) 0 0 ar1 ar2 ar3 ar4 ar5 ar6 ar7 ph pp py wy fa fb cm0 ia0 0 0 ih0 in0 il0 tx0 sh0 cm1 ia1 0 0 ih1 in1 il1 tx1 sh1 cm2 ia2 0 0 ih2 in2 il2 tx2 sh2 cm3 ia3 0 0 ih3 in3 il3 tx3 sh3 (-1) 0 it0 (-1) 0 it1 (-1) 0 it2 (-1) 0 it3) t) (va_A (zX k q 0 (-1) 12 100 0 (fun _ => 0) 0 0 ar1 ar2 ar3 ar4 ar5 ar6 ar7 ph pp py wy fa fb cm0 ia0 0 0 ih0 in0 il0 tx0 sh0 cm1 ia1 0 0 ih1 in1 il1 tx1 sh1 cm2 ia2 0 0 ih2 in2 il2 tx2 sh2 cm3 ia3 0 0 ih3 in3 il3 tx3 sh3 (-1) 0 it0 (-1) 0 it1 (-1) 0 it2 (-1) 0 it3) sz)) 0 0 (va_A (zX k q 0 (-1) 12 100 0 (fun _ => 0) 0 0 ar1 ar2 ar3 ar4 ar5 ar6 ar7 ph pp py wy fa fb cm0 ia0 0 0 ih0 in0 il0 tx0 sh0 cm1 ia1 0 0 ih1 in1 il1 tx1 sh1 cm2 ia2 0 0 ih2 in2 il2 tx2 sh2 cm3 ia3 0 0 ih3 in3 il3 tx3 sh3 (-1) 0 it0 (-1) 0 it1 (-1) 0 it2 (-1) 0 it3) sz) := by
  refine Met.ofW (cc := cX6_pickedRefusal) (maxL := 5) (ret := (some .int)) (by decide) rfl ?_
  intro p e s m args below meth c s₁ B hml hv
  obtain ⟨rfl, hsz, hP, hK, hD0⟩ := hv
  have hx := B.exec
  have hb := B.bytes
  have hr := B.returns
  have hts : ∀ w ∈ zw, w.before _ s = true := fun w h => atoms_spec (ws := (wz yX6_pickedRefusal cX6_pickedRefusal 5 (some .int))) B.pre w (List.mem_cons_of_mem _ h)
  have hown : s.vm.findClass RX6 = some m.cls := findClass_of_methodNamed B.named
  have hlocks := B.notSynchronized
  subst hsz
  have hi0 := inw0
  have hi6 := inw6
  have hD := hD0.self (sz := s.heap.size)
  generalize hAe : va_A (zX k q 0 (-1) 12 100 0 (fun _ => 0) 0 0 ar1 ar2 ar3 ar4 ar5 ar6 ar7 ph pp py wy fa fb cm0 ia0 0 0 ih0 in0 il0 tx0 sh0 cm1 ia1 0 0 ih1 in1 il1 tx1 sh1 cm2 ia2 0 0 ih2 in2 il2 tx2 sh2 cm3 ia3 0 0 ih3 in3 il3 tx3 sh3 (-1) 0 it0 (-1) 0 it1 (-1) 0 it2 (-1) 0 it3) s.heap.size = A at hD ⊢
  have hA : ∀ q : Nat, s.heap.size ≤ q → A q := fun q h => by rw [← hAe]; exact Or.inr h
  have hl := lv_entry ([.ref (q 0)]) (n := 5) (Nat.le_of_ble_eq_true rfl)
  rw [lg_entry_eq]
  generalize (lg_sl ([.ref (q 0)]) ++ List.replicate (5 - (lg_sl ([.ref (q 0)])).length) Slot.unset).toArray = ls at hl ⊢
  have hl : lv_has ls 5 [(0, .ref (q 0))] := hl
  refine z_start (w := (zX k q 0 (-1) 12 100 0 (fun _ => 0) 0 0 ar1 ar2 ar3 ar4 ar5 ar6 ar7 ph pp py wy fa fb cm0 ia0 0 0 ih0 in0 il0 tx0 sh0 cm1 ia1 0 0 ih1 in1 il1 tx1 sh1 cm2 ia2 0 0 ih2 in2 il2 tx2 sh2 cm3 ia3 0 0 ih3 in3 il3 tx3 sh3 (-1) 0 it0 (-1) 0 it1 (-1) 0 it2 (-1) 0 it3)) hP hD (fun H locs hP hD hS => ?_)
  refine lv_iconst (v := 0) hx hb dX6_pickedRefusal_0 (by decide) ?_
  refine lv_istore_n (lv' := [(1, .int 0), (0, .ref (q 0))]) hx hb dX6_pickedRefusal_1 rfl hl (by decide) rfl (fun ls hl => ?_)
  refine lv_iconst (v := 0) hx hb dX6_pickedRefusal_2 (by decide) ?_
  refine lv_istore_n (lv' := [(2, .int 0), (1, .int 0), (0, .ref (q 0))]) hx hb dX6_pickedRefusal_3 rfl hl (by decide) rfl (fun ls hl => ?_)
  refine lv_iload_n hx hb dX6_pickedRefusal_4 rfl (lv_at hl 0 rfl) ?_
  refine lv_aload_n hx hb dX6_pickedRefusal_5 rfl (lv_at hl 2 rfl) ?_
  refine va_get (D := (dC, dI)) (ci := 6) (v := .ref (q 4)) (C := RX6) (T := TX6) (N := 12) hx hb hts hi6 hown hK.1 hP 0 rfl rfl 3 (by decide) (hts _ wmt1_173) (fun _ h9 => h9) rfl dX6_pickedRefusal_6 ?_
  refine va_get (D := (dC, dI)) (ci := 0) (v := .int 0) (C := RX0) (T := TX0) (N := 9) hx hb hts hi0 hown hK.1 hP 4 rfl rfl 7 (by decide) (hts _ wmt1_45) (fun _ h9 => h9) rfl dX6_pickedRefusal_9 ?_
  refine lv_icmp_ge (tgt := 79) hx hb dX6_pickedRefusal_12 (by decide) (fun c_1 => ?_) (fun c_1 => ?_)
  · skip
    refine lv_iload_n hx hb dX6_pickedRefusal_79 rfl (lv_at hl 1 rfl) ?_
    exact W.iret (v := 0) hx hb hr (fun t ht hW => ⟨⟨0, (), rfl, (by first | assumption | with_reducible rfl | contradiction | exact (if_pos (by repeat' (first | assumption | decide | constructor))).symm | exact (if_neg (fun hh => absurd hh (by assumption))).symm | decide | (exfalso; simp only [zi_le, zi_lt, zi_eq, zi_n0, zi_n1, zi_n2, zi_n3, zi_n4, zi_n23, zi_n24, zi_n100, zi_n399, zi_n60, zi_n255, zi_n99, zi_nm1, zi_n30] at *; omega) | (simp_all; done)), ⟨by rw [ht]; exact hP, hD⟩⟩, hS.F ht⟩) hS.2.2 dX6_pickedRefusal_80
  · skip
    exact absurd (by decide) c_1
set_option maxHeartbeats 4000000 in
set_option maxRecDepth 100000 in
theorem c_X6_multiplyGivenAway (l : Launch) (dC : Nat → ClassId) (dI : Nat → Nat → Nat) (k : Nat → ClassId)  (q : Nat → Nat) (aps : Int32) (ar1 : Nat → Int32) (ar2 : Nat → Int32) (ar3 : Nat → Int32) (ar4 : Nat → Int32) (ar5 : Nat → Int32) (ar6 : Nat → Int32) (ar7 : Nat → Int32) (ph : Int32) (pp : Int32) (py : Int32) (wy : Nat → Int64) (fa : Int64) (fb : Int64) (cm0 : Int64) (ia0 : Int32) (ih0 : Int32) (in0 : Int32) (il0 : Int32) (tx0 : Nat → Int32) (sh0 : Nat → Int64) (cm1 : Int64) (ia1 : Int32) (ih1 : Int32) (in1 : Int32) (il1 : Int32) (tx1 : Nat → Int32) (sh1 : Nat → Int64) (cm2 : Int64) (ia2 : Int32) (ih2 : Int32) (in2 : Int32) (il2 : Int32) (tx2 : Nat → Int32) (sh2 : Nat → Int64) (cm3 : Int64) (ia3 : Int32) (ih3 : Int32) (in3 : Int32) (il3 : Int32) (tx3 : Nat → Int32) (sh3 : Nat → Int64) (it0 : Nat → Int32) (it1 : Nat → Int32) (it2 : Nat → Int32) (it3 : Nat → Int32) (pe : Int32) (sz : Nat)  : Met l yX6_multiplyGivenAway (wz yX6_multiplyGivenAway cX6_multiplyGivenAway 5 (some .int)) ({ frames := 3, cells := 0, slots := 0, locals := 69 }) (va_Pc [.ref (q 0), .int pe] (zPre dC dI k (zTX k) (zX k q 0 (-1) 12 100 0 (fun _ => 0) aps 0 ar1 ar2 ar3 ar4 ar5 ar6 ar7 ph pp py wy fa fb cm0 ia0 0 0 ih0 in0 il0 tx0 sh0 cm1 ia1 0 0 ih1 in1 il1 tx1 sh1 cm2 ia2 0 0 ih2 in2 il2 tx2 sh2 cm3 ia3 0 0 ih3 in3 il3 tx3 sh3 (-1) 0 it0 (-1) 0 it1 (-1) 0 it2 (-1) 0 it3) sz)) (va_Qi (fun (r : Int32) (u : (Nat → Int32)) => r = 0) (fun u t => zPost dC dI (va_A (zX k q 0 (-1) 12 100 0 (fun _ => 0) aps 0 ar1 ar2 ar3 ar4 ar5 ar6 ar7 ph pp py wy fa fb cm0 ia0 0 0 ih0 in0 il0 tx0 sh0 cm1 ia1 0 0 ih1 in1 il1 tx1 sh1 cm2 ia2 0 0 ih2 in2 il2 tx2 sh2 cm3 ia3 0 0 ih3 in3 il3 tx3 sh3 (-1) 0 it0 (-1) 0 it1 (-1) 0 it2 (-1) 0 it3) sz) (zX k q 0 (-1) 12 100 0 (fun _ => 0) 0 0 ar1 ar2 ar3 ar4 ar5 u ar7 ph pp py wy 1 1 cm0 ia0 0 0 ih0 in0 il0 tx0 sh0 cm1 ia1 0 0 ih1 in1 il1 tx1 sh1 cm2 ia2 0 0 ih2 in2 il2 tx2 sh2 cm3 ia3 0 0 ih3 in3 il3 tx3 sh3 (-1) 0 it0 (-1) 0 it1 (-1) 0 it2 (-1) 0 it3) t) (va_A (zX k q 0 (-1) 12 100 0 (fun _ => 0) aps 0 ar1 ar2 ar3 ar4 ar5 ar6 ar7 ph pp py wy fa fb cm0 ia0 0 0 ih0 in0 il0 tx0 sh0 cm1 ia1 0 0 ih1 in1 il1 tx1 sh1 cm2 ia2 0 0 ih2 in2 il2 tx2 sh2 cm3 ia3 0 0 ih3 in3 il3 tx3 sh3 (-1) 0 it0 (-1) 0 it1 (-1) 0 it2 (-1) 0 it3) sz)) 0 0 (va_A (zX k q 0 (-1) 12 100 0 (fun _ => 0) aps 0 ar1 ar2 ar3 ar4 ar5 ar6 ar7 ph pp py wy fa fb cm0 ia0 0 0 ih0 in0 il0 tx0 sh0 cm1 ia1 0 0 ih1 in1 il1 tx1 sh1 cm2 ia2 0 0 ih2 in2 il2 tx2 sh2 cm3 ia3 0 0 ih3 in3 il3 tx3 sh3 (-1) 0 it0 (-1) 0 it1 (-1) 0 it2 (-1) 0 it3) sz) := by
  refine Met.ofW (cc := cX6_multiplyGivenAway) (maxL := 5) (ret := (some .int)) (by decide) rfl ?_
  intro p e s m args below meth c s₁ B hml hv
  obtain ⟨rfl, hsz, hP, hK, hD0⟩ := hv
  have hx := B.exec
  have hb := B.bytes
  have hr := B.returns
  have hts : ∀ w ∈ zw, w.before _ s = true := fun w h => atoms_spec (ws := (wz yX6_multiplyGivenAway cX6_multiplyGivenAway 5 (some .int))) B.pre w (List.mem_cons_of_mem _ h)
  have hown : s.vm.findClass RX6 = some m.cls := findClass_of_methodNamed B.named
  have hlocks := B.notSynchronized
  subst hsz
  have hi0 := inw0
  have hi6 := inw6
  have hD := hD0.self (sz := s.heap.size)
  generalize hAe : va_A (zX k q 0 (-1) 12 100 0 (fun _ => 0) aps 0 ar1 ar2 ar3 ar4 ar5 ar6 ar7 ph pp py wy fa fb cm0 ia0 0 0 ih0 in0 il0 tx0 sh0 cm1 ia1 0 0 ih1 in1 il1 tx1 sh1 cm2 ia2 0 0 ih2 in2 il2 tx2 sh2 cm3 ia3 0 0 ih3 in3 il3 tx3 sh3 (-1) 0 it0 (-1) 0 it1 (-1) 0 it2 (-1) 0 it3) s.heap.size = A at hD ⊢
  have hA : ∀ q : Nat, s.heap.size ≤ q → A q := fun q h => by rw [← hAe]; exact Or.inr h
  have hl := lv_entry ([.ref (q 0), .int pe]) (n := 5) (Nat.le_of_ble_eq_true rfl)
  rw [lg_entry_eq]
  generalize (lg_sl ([.ref (q 0), .int pe]) ++ List.replicate (5 - (lg_sl ([.ref (q 0), .int pe])).length) Slot.unset).toArray = ls at hl ⊢
  have hl : lv_has ls 5 [(0, .ref (q 0)), (1, .int pe)] := hl
  refine z_start (w := (zX k q 0 (-1) 12 100 0 (fun _ => 0) aps 0 ar1 ar2 ar3 ar4 ar5 ar6 ar7 ph pp py wy fa fb cm0 ia0 0 0 ih0 in0 il0 tx0 sh0 cm1 ia1 0 0 ih1 in1 il1 tx1 sh1 cm2 ia2 0 0 ih2 in2 il2 tx2 sh2 cm3 ia3 0 0 ih3 in3 il3 tx3 sh3 (-1) 0 it0 (-1) 0 it1 (-1) 0 it2 (-1) 0 it3)) hP hD (fun H locs hP hD hS => ?_)
  refine lv_aload_n hx hb dX6_multiplyGivenAway_0 rfl (lv_at hl 0 rfl) ?_
  refine va_get (D := (dC, dI)) (ci := 6) (v := .ref (q 4)) (C := RX6) (T := TX6) (N := 12) hx hb hts hi6 hown hK.1 hP 0 rfl rfl 3 (by decide) (hts _ wmt1_173) (fun _ h9 => h9) rfl dX6_multiplyGivenAway_1 ?_
  refine lv_iload_n hx hb dX6_multiplyGivenAway_4 rfl (lv_at hl 1 rfl) ?_
  refine lv_aload_n hx hb dX6_multiplyGivenAway_5 rfl (lv_at hl 0 rfl) ?_
  refine zcA_i (w := (zX k q 0 (-1) 12 100 0 (fun _ => 0) aps 0 ar1 ar2 ar3 ar4 ar5 ar6 ar7 ph pp py wy fa fb cm0 ia0 0 0 ih0 in0 il0 tx0 sh0 cm1 ia1 0 0 ih1 in1 il1 tx1 sh1 cm2 ia2 0 0 ih2 in2 il2 tx2 sh2 cm3 ia3 0 0 ih3 in3 il3 tx3 sh3 (-1) 0 it0 (-1) 0 it1 (-1) 0 it2 (-1) 0 it3)) (va_runV (As := []) (rest := [.int pe, .ref (q 4)]) ⟨hx, hb, hml, hown, hts⟩ (c_X6_dayOfView l dC dI k  q aps ar1 ar2 ar3 ar4 ar5 ar6 ar7 ph pp py wy fa fb cm0 ia0 ih0 in0 il0 tx0 sh0 cm1 ia1 ih1 in1 il1 tx1 sh1 cm2 ia2 ih2 in2 il2 tx2 sh2 cm3 ia3 ih3 in3 il3 tx3 sh3 it0 it1 it2 it3 _ ) (cwV 0 hts (gzV wmt2_118 wmt2_120 wmp1_8 wmt1_1 wmt2_121) rfl rfl rfl (by decide +kernel) ⟨Nat.le_of_ble_eq_true rfl, Nat.le_of_ble_eq_true rfl⟩) (zpA_V (ci := 6) (q0 := 0) hK hP hD rfl rfl) rfl rfl hl.1 rfl (lv_room (Nat.le_of_ble_eq_true rfl)) dX6_multiplyGivenAway_6 ⟨Nat.le_of_ble_eq_true rfl, Nat.le_of_ble_eq_true rfl⟩) hD hS hA (fun r_1 u_2 H locs w_3 hP hD hS => ?_)
  have hP : va_P (dC, dI) vwCl (zX k q 0 (-1) 12 100 0 (fun _ => 0) aps 0 ar1 ar2 ar3 ar4 ar5 ar6 ar7 ph pp py wy fa fb cm0 ia0 0 0 ih0 in0 il0 tx0 sh0 cm1 ia1 0 0 ih1 in1 il1 tx1 sh1 cm2 ia2 0 0 ih2 in2 il2 tx2 sh2 cm3 ia3 0 0 ih3 in3 il3 tx3 sh3 (-1) 0 it0 (-1) 0 it1 (-1) 0 it2 (-1) 0 it3) H := hP
  have hD : va_D A (zX k q 0 (-1) 12 100 0 (fun _ => 0) aps 0 ar1 ar2 ar3 ar4 ar5 ar6 ar7 ph pp py wy fa fb cm0 ia0 0 0 ih0 in0 il0 tx0 sh0 cm1 ia1 0 0 ih1 in1 il1 tx1 sh1 cm2 ia2 0 0 ih2 in2 il2 tx2 sh2 cm3 ia3 0 0 ih3 in3 il3 tx3 sh3 (-1) 0 it0 (-1) 0 it1 (-1) 0 it2 (-1) 0 it3) := hD
  have e_4 := w_3
  replace e_4 : r_1 = 0 := e_4
  subst e_4
  refine zcS_v (w := (zX k q 0 (-1) 12 100 0 (fun _ => 0) aps 0 ar1 ar2 ar3 ar4 ar5 ar6 ar7 ph pp py wy fa fb cm0 ia0 0 0 ih0 in0 il0 tx0 sh0 cm1 ia1 0 0 ih1 in1 il1 tx1 sh1 cm2 ia2 0 0 ih2 in2 il2 tx2 sh2 cm3 ia3 0 0 ih3 in3 il3 tx3 sh3 (-1) 0 it0 (-1) 0 it1 (-1) 0 it2 (-1) 0 it3)) (wc := (zAns k (q 4) (q 5) (q 6) (q 7) (q 8) (q 9) (q 10) (q 11) ar1 ar2 ar3 ar4 ar5 ar6 ar7 aps 0)) (va_runV (As := [.int pe, .int 0]) (rest := []) ⟨hx, hb, hml, hown, hts⟩ (c_X0_pick l dC dI k (zTX k) (q 4) (q 5) (q 6) (q 7) (q 8) (q 9) (q 10) (q 11) ar1 ar2 ar3 ar4 ar5 ar6 ar7 aps pe 0 _ ) (cwV 2 hts (gzV wmt3_1 wmt3_2 wmt3_3 wmt1_2 wmt3_4) rfl rfl rfl (by decide +kernel) ⟨Nat.le_of_ble_eq_true rfl, Nat.le_of_ble_eq_true rfl⟩) (zp_V (ci := 0) (q0 := 4) hK hP hD [4, 5, 6, 7, 8, 9, 10, 11] rfl rfl rfl rfl) rfl rfl hl.1 rfl (lv_room (Nat.le_of_ble_eq_true rfl)) dX6_multiplyGivenAway_9 ⟨Nat.le_of_ble_eq_true rfl, Nat.le_of_ble_eq_true rfl⟩) hP hD hS hA [4, 5, 6, 7, 8, 9, 10, 11] rfl (fun _ => rfl) (fun u_6 H locs w_7 hP hD hS => ?_)
  obtain ⟨or6_8, rfl⟩ : ∃ z, z = u_6 := ⟨_, rfl⟩
  have hP : va_P (dC, dI) vwCl (zX k q 0 (-1) 12 100 0 (fun _ => 0) 0 0 ar1 ar2 ar3 ar4 ar5 or6_8 ar7 ph pp py wy fa fb cm0 ia0 0 0 ih0 in0 il0 tx0 sh0 cm1 ia1 0 0 ih1 in1 il1 tx1 sh1 cm2 ia2 0 0 ih2 in2 il2 tx2 sh2 cm3 ia3 0 0 ih3 in3 il3 tx3 sh3 (-1) 0 it0 (-1) 0 it1 (-1) 0 it2 (-1) 0 it3) H := hP
  have hD : va_D A (zX k q 0 (-1) 12 100 0 (fun _ => 0) 0 0 ar1 ar2 ar3 ar4 ar5 or6_8 ar7 ph pp py wy fa fb cm0 ia0 0 0 ih0 in0 il0 tx0 sh0 cm1 ia1 0 0 ih1 in1 il1 tx1 sh1 cm2 ia2 0 0 ih2 in2 il2 tx2 sh2 cm3 ia3 0 0 ih3 in3 il3 tx3 sh3 (-1) 0 it0 (-1) 0 it1 (-1) 0 it2 (-1) 0 it3) := hD
  refine lv_aload_n hx hb dX6_multiplyGivenAway_12 rfl (lv_at hl 0 rfl) ?_
  refine zcA_i (w := (zX k q 0 (-1) 12 100 0 (fun _ => 0) 0 0 ar1 ar2 ar3 ar4 ar5 or6_8 ar7 ph pp py wy fa fb cm0 ia0 0 0 ih0 in0 il0 tx0 sh0 cm1 ia1 0 0 ih1 in1 il1 tx1 sh1 cm2 ia2 0 0 ih2 in2 il2 tx2 sh2 cm3 ia3 0 0 ih3 in3 il3 tx3 sh3 (-1) 0 it0 (-1) 0 it1 (-1) 0 it2 (-1) 0 it3)) (va_runV (As := []) (rest := []) ⟨hx, hb, hml, hown, hts⟩ (c_X6_pickedRefusal l dC dI k  q ar1 ar2 ar3 ar4 ar5 or6_8 ar7 ph pp py wy fa fb cm0 ia0 ih0 in0 il0 tx0 sh0 cm1 ia1 ih1 in1 il1 tx1 sh1 cm2 ia2 ih2 in2 il2 tx2 sh2 cm3 ia3 ih3 in3 il3 tx3 sh3 it0 it1 it2 it3 _ ) (cwV 0 hts (gzV wmt3_9 wmt3_11 wmp2_0 wmt1_1 wmt3_12) rfl rfl rfl (by decide +kernel) ⟨Nat.le_of_ble_eq_true rfl, Nat.le_of_ble_eq_true rfl⟩) (zpA_V (ci := 6) (q0 := 0) hK hP hD rfl rfl) rfl rfl hl.1 rfl (lv_room (Nat.le_of_ble_eq_true rfl)) dX6_multiplyGivenAway_13 ⟨Nat.le_of_ble_eq_true rfl, Nat.le_of_ble_eq_true rfl⟩) hD hS hA (fun r_9 u_10 H locs w_11 hP hD hS => ?_)
  have hP : va_P (dC, dI) vwCl (zX k q 0 (-1) 12 100 0 (fun _ => 0) 0 0 ar1 ar2 ar3 ar4 ar5 or6_8 ar7 ph pp py wy fa fb cm0 ia0 0 0 ih0 in0 il0 tx0 sh0 cm1 ia1 0 0 ih1 in1 il1 tx1 sh1 cm2 ia2 0 0 ih2 in2 il2 tx2 sh2 cm3 ia3 0 0 ih3 in3 il3 tx3 sh3 (-1) 0 it0 (-1) 0 it1 (-1) 0 it2 (-1) 0 it3) H := hP
  have hD : va_D A (zX k q 0 (-1) 12 100 0 (fun _ => 0) 0 0 ar1 ar2 ar3 ar4 ar5 or6_8 ar7 ph pp py wy fa fb cm0 ia0 0 0 ih0 in0 il0 tx0 sh0 cm1 ia1 0 0 ih1 in1 il1 tx1 sh1 cm2 ia2 0 0 ih2 in2 il2 tx2 sh2 cm3 ia3 0 0 ih3 in3 il3 tx3 sh3 (-1) 0 it0 (-1) 0 it1 (-1) 0 it2 (-1) 0 it3) := hD
  have e_12 := w_11
  replace e_12 : r_9 = 0 := e_12
  subst e_12
  refine lv_istore_n (lv' := [(2, .int 0), (0, .ref (q 0)), (1, .int pe)]) hx hb dX6_multiplyGivenAway_16 rfl hl (by decide) rfl (fun ls hl => ?_)
  refine lv_aload_n hx hb dX6_multiplyGivenAway_17 rfl (lv_at hl 1 rfl) ?_
  refine va_get (D := (dC, dI)) (ci := 6) (v := .ref (q 15)) (C := RX6) (T := TX6) (N := 12) hx hb hts hi6 hown hK.1 hP 0 rfl rfl 6 (by decide) (hts _ wmt1_176) (fun _ h9 => h9) rfl dX6_multiplyGivenAway_18 ?_
  refine lv_lconst (v := 1) hx hb dX6_multiplyGivenAway_21 (by decide) ?_
  refine lv_lconst (v := 1) hx hb dX6_multiplyGivenAway_22 (by decide) ?_
  refine zcS_v (w := (zX k q 0 (-1) 12 100 0 (fun _ => 0) 0 0 ar1 ar2 ar3 ar4 ar5 or6_8 ar7 ph pp py wy fa fb cm0 ia0 0 0 ih0 in0 il0 tx0 sh0 cm1 ia1 0 0 ih1 in1 il1 tx1 sh1 cm2 ia2 0 0 ih2 in2 il2 tx2 sh2 cm3 ia3 0 0 ih3 in3 il3 tx3 sh3 (-1) 0 it0 (-1) 0 it1 (-1) 0 it2 (-1) 0 it3)) (wc := (zFra k (q 15) fa fb)) (va_runV (As := [.long 1, .long 1]) (rest := []) ⟨hx, hb, hml, hown, hts⟩ (c_X2_become_11 l dC dI k (zTX k) (q 15) fa fb _ ) (cwV 2 hts (gzV wmt2_56 wmt2_57 wmt2_58 wmt1_5 wmt2_59) rfl rfl rfl (by decide +kernel) ⟨Nat.le_of_ble_eq_true rfl, Nat.le_of_ble_eq_true rfl⟩) (zp_V (ci := 2) (q0 := 15) hK hP hD [15] rfl rfl rfl rfl) rfl rfl hl.1 rfl (lv_room (Nat.le_of_ble_eq_true rfl)) dX6_multiplyGivenAway_23 ⟨Nat.le_of_ble_eq_true rfl, Nat.le_of_ble_eq_true rfl⟩) hP hD hS hA [15] rfl (fun _ => rfl) (fun u_14 H locs w_15 hP hD hS => ?_)
  have hP : va_P (dC, dI) vwCl (zX k q 0 (-1) 12 100 0 (fun _ => 0) 0 0 ar1 ar2 ar3 ar4 ar5 or6_8 ar7 ph pp py wy 1 1 cm0 ia0 0 0 ih0 in0 il0 tx0 sh0 cm1 ia1 0 0 ih1 in1 il1 tx1 sh1 cm2 ia2 0 0 ih2 in2 il2 tx2 sh2 cm3 ia3 0 0 ih3 in3 il3 tx3 sh3 (-1) 0 it0 (-1) 0 it1 (-1) 0 it2 (-1) 0 it3) H := hP
  have hD : va_D A (zX k q 0 (-1) 12 100 0 (fun _ => 0) 0 0 ar1 ar2 ar3 ar4 ar5 or6_8 ar7 ph pp py wy 1 1 cm0 ia0 0 0 ih0 in0 il0 tx0 sh0 cm1 ia1 0 0 ih1 in1 il1 tx1 sh1 cm2 ia2 0 0 ih2 in2 il2 tx2 sh2 cm3 ia3 0 0 ih3 in3 il3 tx3 sh3 (-1) 0 it0 (-1) 0 it1 (-1) 0 it2 (-1) 0 it3) := hD
  refine lv_iconst (v := 0) hx hb dX6_multiplyGivenAway_26 (by decide) ?_
  refine lv_istore_n (lv' := [(3, .int 0), (2, .int 0), (0, .ref (q 0)), (1, .int pe)]) hx hb dX6_multiplyGivenAway_27 rfl hl (by decide) rfl (fun ls hl => ?_)
  refine lv_iload_n hx hb dX6_multiplyGivenAway_28 rfl (lv_at hl 0 rfl) ?_
  refine lv_aload_n hx hb dX6_multiplyGivenAway_29 rfl (lv_at hl 2 rfl) ?_
  refine va_get (D := (dC, dI)) (ci := 6) (v := .ref (q 4)) (C := RX6) (T := TX6) (N := 12) hx hb hts hi6 hown hK.1 hP 0 rfl rfl 3 (by decide) (hts _ wmt1_173) (fun _ h9 => h9) rfl dX6_multiplyGivenAway_30 ?_
  refine va_get (D := (dC, dI)) (ci := 0) (v := .int 0) (C := RX0) (T := TX0) (N := 9) hx hb hts hi0 hown hK.1 hP 4 rfl rfl 7 (by decide) (hts _ wmt1_45) (fun _ h9 => h9) rfl dX6_multiplyGivenAway_33 ?_
  refine lv_icmp_ge (tgt := 105) hx hb dX6_multiplyGivenAway_36 (by decide) (fun c_16 => ?_) (fun c_16 => ?_)
  · skip
    refine lv_iload_n hx hb dX6_multiplyGivenAway_105 rfl (lv_at hl 1 rfl) ?_
    exact W.iret (v := 0) hx hb hr (fun t ht hW => ⟨⟨0, (or6_8), rfl, (by first | assumption | with_reducible rfl | contradiction | exact (if_pos (by repeat' (first | assumption | decide | constructor))).symm | exact (if_neg (fun hh => absurd hh (by assumption))).symm | decide | (exfalso; simp only [zi_le, zi_lt, zi_eq, zi_n0, zi_n1, zi_n2, zi_n3, zi_n4, zi_n23, zi_n24, zi_n100, zi_n399, zi_n60, zi_n255, zi_n99, zi_nm1, zi_n30] at *; omega) | (simp_all; done)), ⟨by rw [ht]; exact hP, hD⟩⟩, hS.F ht⟩) hS.2.2 dX6_multiplyGivenAway_106
  · skip
    exact absurd (by decide) c_16
set_option maxHeartbeats 4000000 in
set_option maxRecDepth 100000 in
theorem c_X6_given (l : Launch) (dC : Nat → ClassId) (dI : Nat → Nat → Nat) (k : Nat → ClassId)  (q : Nat → Nat) (aps : Int32) (ar1 : Nat → Int32) (ar2 : Nat → Int32) (ar3 : Nat → Int32) (ar4 : Nat → Int32) (ar5 : Nat → Int32) (ar6 : Nat → Int32) (ar7 : Nat → Int32) (ph : Int32) (pp : Int32) (py : Int32) (wy : Nat → Int64) (fa : Int64) (fb : Int64) (cm0 : Int64) (ia0 : Int32) (ih0 : Int32) (in0 : Int32) (il0 : Int32) (tx0 : Nat → Int32) (sh0 : Nat → Int64) (cm1 : Int64) (ia1 : Int32) (ih1 : Int32) (in1 : Int32) (il1 : Int32) (tx1 : Nat → Int32) (sh1 : Nat → Int64) (cm2 : Int64) (ia2 : Int32) (ih2 : Int32) (in2 : Int32) (il2 : Int32) (tx2 : Nat → Int32) (sh2 : Nat → Int64) (cm3 : Int64) (ia3 : Int32) (ih3 : Int32) (in3 : Int32) (il3 : Int32) (tx3 : Nat → Int32) (sh3 : Nat → Int64) (it0 : Nat → Int32) (it1 : Nat → Int32) (it2 : Nat → Int32) (it3 : Nat → Int32) (pe : Int32) (w : Int32) (sz : Nat)  : Met l yX6_given (wz yX6_given cX6_given 4 (some .long)) ({ frames := 4, cells := 0, slots := 0, locals := 93 }) (va_Pc [.ref (q 0), .int pe, .int w] (zPre dC dI k (zTX k) (zX k q 0 (-1) 12 100 0 (fun _ => 0) aps 0 ar1 ar2 ar3 ar4 ar5 ar6 ar7 ph pp py wy fa fb cm0 ia0 0 0 ih0 in0 il0 tx0 sh0 cm1 ia1 0 0 ih1 in1 il1 tx1 sh1 cm2 ia2 0 0 ih2 in2 il2 tx2 sh2 cm3 ia3 0 0 ih3 in3 il3 tx3 sh3 (-1) 0 it0 (-1) 0 it1 (-1) 0 it2 (-1) 0 it3) sz)) (va_Ql (fun (r : Int64) (u : Int32 × (Nat → Int32) × Int64 × Int64) => (r = if (0 ≤ (pe : Int32) ∧ (pe : Int32) ≤ 23) ∧ (0 ≤ (w : Int32) ∧ (w : Int32) ≤ 1) then 1 else (-9223372036854775806))) (fun u t => zPost dC dI (va_A (zX k q 0 (-1) 12 100 0 (fun _ => 0) aps 0 ar1 ar2 ar3 ar4 ar5 ar6 ar7 ph pp py wy fa fb cm0 ia0 0 0 ih0 in0 il0 tx0 sh0 cm1 ia1 0 0 ih1 in1 il1 tx1 sh1 cm2 ia2 0 0 ih2 in2 il2 tx2 sh2 cm3 ia3 0 0 ih3 in3 il3 tx3 sh3 (-1) 0 it0 (-1) 0 it1 (-1) 0 it2 (-1) 0 it3) sz) (zX k q 0 (-1) 12 100 0 (fun _ => 0) u.1 0 ar1 ar2 ar3 ar4 ar5 u.2.1 ar7 ph pp py wy u.2.2.1 u.2.2.2 cm0 ia0 0 0 ih0 in0 il0 tx0 sh0 cm1 ia1 0 0 ih1 in1 il1 tx1 sh1 cm2 ia2 0 0 ih2 in2 il2 tx2 sh2 cm3 ia3 0 0 ih3 in3 il3 tx3 sh3 (-1) 0 it0 (-1) 0 it1 (-1) 0 it2 (-1) 0 it3) t) (va_A (zX k q 0 (-1) 12 100 0 (fun _ => 0) aps 0 ar1 ar2 ar3 ar4 ar5 ar6 ar7 ph pp py wy fa fb cm0 ia0 0 0 ih0 in0 il0 tx0 sh0 cm1 ia1 0 0 ih1 in1 il1 tx1 sh1 cm2 ia2 0 0 ih2 in2 il2 tx2 sh2 cm3 ia3 0 0 ih3 in3 il3 tx3 sh3 (-1) 0 it0 (-1) 0 it1 (-1) 0 it2 (-1) 0 it3) sz)) 0 0 (va_A (zX k q 0 (-1) 12 100 0 (fun _ => 0) aps 0 ar1 ar2 ar3 ar4 ar5 ar6 ar7 ph pp py wy fa fb cm0 ia0 0 0 ih0 in0 il0 tx0 sh0 cm1 ia1 0 0 ih1 in1 il1 tx1 sh1 cm2 ia2 0 0 ih2 in2 il2 tx2 sh2 cm3 ia3 0 0 ih3 in3 il3 tx3 sh3 (-1) 0 it0 (-1) 0 it1 (-1) 0 it2 (-1) 0 it3) sz) := by
  refine Met.ofW (cc := cX6_given) (maxL := 4) (ret := (some .long)) (by decide) rfl ?_
  intro p e s m args below meth c s₁ B hml hv
  obtain ⟨rfl, hsz, hP, hK, hD0⟩ := hv
  have hx := B.exec
  have hb := B.bytes
  have hr := B.returns
  have hts : ∀ w ∈ zw, w.before _ s = true := fun w h => atoms_spec (ws := (wz yX6_given cX6_given 4 (some .long))) B.pre w (List.mem_cons_of_mem _ h)
  have hown : s.vm.findClass RX6 = some m.cls := findClass_of_methodNamed B.named
  have hlocks := B.notSynchronized
  subst hsz
  have hi6 := inw6
  have hD := hD0.self (sz := s.heap.size)
  generalize hAe : va_A (zX k q 0 (-1) 12 100 0 (fun _ => 0) aps 0 ar1 ar2 ar3 ar4 ar5 ar6 ar7 ph pp py wy fa fb cm0 ia0 0 0 ih0 in0 il0 tx0 sh0 cm1 ia1 0 0 ih1 in1 il1 tx1 sh1 cm2 ia2 0 0 ih2 in2 il2 tx2 sh2 cm3 ia3 0 0 ih3 in3 il3 tx3 sh3 (-1) 0 it0 (-1) 0 it1 (-1) 0 it2 (-1) 0 it3) s.heap.size = A at hD ⊢
  have hA : ∀ q : Nat, s.heap.size ≤ q → A q := fun q h => by rw [← hAe]; exact Or.inr h
  have hl := lv_entry ([.ref (q 0), .int pe, .int w]) (n := 4) (Nat.le_of_ble_eq_true rfl)
  rw [lg_entry_eq]
  generalize (lg_sl ([.ref (q 0), .int pe, .int w]) ++ List.replicate (4 - (lg_sl ([.ref (q 0), .int pe, .int w])).length) Slot.unset).toArray = ls at hl ⊢
  have hl : lv_has ls 4 [(0, .ref (q 0)), (1, .int pe), (2, .int w)] := hl
  refine z_start (w := (zX k q 0 (-1) 12 100 0 (fun _ => 0) aps 0 ar1 ar2 ar3 ar4 ar5 ar6 ar7 ph pp py wy fa fb cm0 ia0 0 0 ih0 in0 il0 tx0 sh0 cm1 ia1 0 0 ih1 in1 il1 tx1 sh1 cm2 ia2 0 0 ih2 in2 il2 tx2 sh2 cm3 ia3 0 0 ih3 in3 il3 tx3 sh3 (-1) 0 it0 (-1) 0 it1 (-1) 0 it2 (-1) 0 it3)) hP hD (fun H locs hP hD hS => ?_)
  refine lv_iload_n hx hb dX6_given_0 rfl (lv_at hl 1 rfl) ?_
  refine zc0_i (w := (zX k q 0 (-1) 12 100 0 (fun _ => 0) aps 0 ar1 ar2 ar3 ar4 ar5 ar6 ar7 ph pp py wy fa fb cm0 ia0 0 0 ih0 in0 il0 tx0 sh0 cm1 ia1 0 0 ih1 in1 il1 tx1 sh1 cm2 ia2 0 0 ih2 in2 il2 tx2 sh2 cm3 ia3 0 0 ih3 in3 il3 tx3 sh3 (-1) 0 it0 (-1) 0 it1 (-1) 0 it2 (-1) 0 it3)) (va_runS (As := [.int pe]) (rest := []) ⟨hx, hb, hml, hown, hts⟩ (c_X6_isPerson l dC dI k (zTX k) pe _ ) (va_cwS 1 hts (gzS wmt2_77 wmt2_78 wmt1_1 wmt2_79) rfl rfl rfl (by decide +kernel) ⟨Nat.le_of_ble_eq_true rfl, Nat.le_of_ble_eq_true rfl⟩) (zp0_S hK) rfl rfl hl.1 rfl (lv_room (Nat.le_of_ble_eq_true rfl)) dX6_given_1 ⟨Nat.le_of_ble_eq_true rfl, Nat.le_of_ble_eq_true rfl⟩) hP hS hA (fun r_1 u_2 H locs w_3 hP hS => ?_)
  rcases w_3 with ⟨e_5, h_4⟩ | ⟨e_7, h_6⟩
  · skip
    replace e_5 : r_1 = 1 := e_5
    subst e_5
    replace h_4 : 0 ≤ (pe : Int32) ∧ (pe : Int32) ≤ 23 := h_4
    refine lv_if_eq (tgt := 14) hx hb dX6_given_4 (by decide) (fun c_8 => ?_) (fun c_8 => ?_)
    · skip
      exact absurd c_8 (by decide)
    · skip
      refine lv_iload_n hx hb dX6_given_7 rfl (lv_at hl 2 rfl) ?_
      refine zc0_i (w := (zX k q 0 (-1) 12 100 0 (fun _ => 0) aps 0 ar1 ar2 ar3 ar4 ar5 ar6 ar7 ph pp py wy fa fb cm0 ia0 0 0 ih0 in0 il0 tx0 sh0 cm1 ia1 0 0 ih1 in1 il1 tx1 sh1 cm2 ia2 0 0 ih2 in2 il2 tx2 sh2 cm3 ia3 0 0 ih3 in3 il3 tx3 sh3 (-1) 0 it0 (-1) 0 it1 (-1) 0 it2 (-1) 0 it3)) (va_runS (As := [.int w]) (rest := []) ⟨hx, hb, hml, hown, hts⟩ (c_X6_isEither l dC dI k (zTX k) w _ ) (va_cwS 1 hts (gzS wmt2_48 wmt2_49 wmt1_1 wmt2_50) rfl rfl rfl (by decide +kernel) ⟨Nat.le_of_ble_eq_true rfl, Nat.le_of_ble_eq_true rfl⟩) (zp0_S hK) rfl rfl hl.1 rfl (lv_room (Nat.le_of_ble_eq_true rfl)) dX6_given_8 ⟨Nat.le_of_ble_eq_true rfl, Nat.le_of_ble_eq_true rfl⟩) hP hS hA (fun r_9 u_10 H locs w_11 hP hS => ?_)
      rcases w_11 with ⟨e_13, h_12⟩ | ⟨e_15, h_14⟩
      · skip
        replace e_13 : r_9 = 1 := e_13
        subst e_13
        replace h_12 : 0 ≤ (w : Int32) ∧ (w : Int32) ≤ 1 := h_12
        refine lv_if_ne (tgt := 20) hx hb dX6_given_11 (by decide) (fun c_16 => ?_) (fun c_16 => ?_)
        · skip
          refine lv_aload_n hx hb dX6_given_20 rfl (lv_at hl 0 rfl) ?_
          refine lv_iload_n hx hb dX6_given_21 rfl (lv_at hl 1 rfl) ?_
          refine zcA_i (w := (zX k q 0 (-1) 12 100 0 (fun _ => 0) aps 0 ar1 ar2 ar3 ar4 ar5 ar6 ar7 ph pp py wy fa fb cm0 ia0 0 0 ih0 in0 il0 tx0 sh0 cm1 ia1 0 0 ih1 in1 il1 tx1 sh1 cm2 ia2 0 0 ih2 in2 il2 tx2 sh2 cm3 ia3 0 0 ih3 in3 il3 tx3 sh3 (-1) 0 it0 (-1) 0 it1 (-1) 0 it2 (-1) 0 it3)) (va_runV (As := [.int pe]) (rest := []) ⟨hx, hb, hml, hown, hts⟩ (c_X6_multiplyGivenAway l dC dI k  q aps ar1 ar2 ar3 ar4 ar5 ar6 ar7 ph pp py wy fa fb cm0 ia0 ih0 in0 il0 tx0 sh0 cm1 ia1 ih1 in1 il1 tx1 sh1 cm2 ia2 ih2 in2 il2 tx2 sh2 cm3 ia3 ih3 in3 il3 tx3 sh3 it0 it1 it2 it3 pe _ ) (cwV 1 hts (gzV wmt2_237 wmt2_239 wmp1_15 wmt1_1 wmt3_0) rfl rfl rfl (by decide +kernel) ⟨Nat.le_of_ble_eq_true rfl, Nat.le_of_ble_eq_true rfl⟩) (zpA_V (ci := 6) (q0 := 0) hK hP hD rfl rfl) rfl rfl hl.1 rfl (lv_room (Nat.le_of_ble_eq_true rfl)) dX6_given_22 ⟨Nat.le_of_ble_eq_true rfl, Nat.le_of_ble_eq_true rfl⟩) hD hS hA (fun r_17 u_18 H locs w_19 hP hD hS => ?_)
          obtain ⟨oar6_20, rfl⟩ : ∃ z, z = u_18 := ⟨_, rfl⟩
          have hP : va_P (dC, dI) vwCl (zX k q 0 (-1) 12 100 0 (fun _ => 0) 0 0 ar1 ar2 ar3 ar4 ar5 oar6_20 ar7 ph pp py wy 1 1 cm0 ia0 0 0 ih0 in0 il0 tx0 sh0 cm1 ia1 0 0 ih1 in1 il1 tx1 sh1 cm2 ia2 0 0 ih2 in2 il2 tx2 sh2 cm3 ia3 0 0 ih3 in3 il3 tx3 sh3 (-1) 0 it0 (-1) 0 it1 (-1) 0 it2 (-1) 0 it3) H := hP
          have hD : va_D A (zX k q 0 (-1) 12 100 0 (fun _ => 0) 0 0 ar1 ar2 ar3 ar4 ar5 oar6_20 ar7 ph pp py wy 1 1 cm0 ia0 0 0 ih0 in0 il0 tx0 sh0 cm1 ia1 0 0 ih1 in1 il1 tx1 sh1 cm2 ia2 0 0 ih2 in2 il2 tx2 sh2 cm3 ia3 0 0 ih3 in3 il3 tx3 sh3 (-1) 0 it0 (-1) 0 it1 (-1) 0 it2 (-1) 0 it3) := hD
          have e_21 := w_19
          replace e_21 : r_17 = 0 := e_21
          subst e_21
          refine lv_istore_n (lv' := [(3, .int 0), (0, .ref (q 0)), (1, .int pe), (2, .int w)]) hx hb dX6_given_25 rfl hl (by decide) rfl (fun ls hl => ?_)
          refine lv_iload_n hx hb dX6_given_26 rfl (lv_at hl 0 rfl) ?_
          refine lv_if_eq (tgt := 45) hx hb dX6_given_27 (by decide) (fun c_22 => ?_) (fun c_22 => ?_)
          · skip
            refine lv_aload_n hx hb dX6_given_45 rfl (lv_at hl 1 rfl) ?_
            refine va_get (D := (dC, dI)) (ci := 6) (v := .ref (q 15)) (C := RX6) (T := TX6) (N := 12) hx hb hts hi6 hown hK.1 hP 0 rfl rfl 6 (by decide) (hts _ wmt1_176) (fun _ h9 => h9) rfl dX6_given_46 ?_
            refine lv_iload_n hx hb dX6_given_49 rfl (lv_at hl 3 rfl) ?_
            refine zcS_l (w := (zX k q 0 (-1) 12 100 0 (fun _ => 0) 0 0 ar1 ar2 ar3 ar4 ar5 oar6_20 ar7 ph pp py wy 1 1 cm0 ia0 0 0 ih0 in0 il0 tx0 sh0 cm1 ia1 0 0 ih1 in1 il1 tx1 sh1 cm2 ia2 0 0 ih2 in2 il2 tx2 sh2 cm3 ia3 0 0 ih3 in3 il3 tx3 sh3 (-1) 0 it0 (-1) 0 it1 (-1) 0 it2 (-1) 0 it3)) (wc := (zFra k (q 15) 1 1)) (va_runV (As := [.int w]) (rest := []) ⟨hx, hb, hml, hown, hts⟩ (c_X2_told l dC dI k (zTX k) (q 15) 1 1 w _ ) (cwV 1 hts (gzV wmt2_61 wmt2_62 wmt2_63 wmt1_5 wmt2_64) rfl rfl rfl (by decide +kernel) ⟨Nat.le_of_ble_eq_true rfl, Nat.le_of_ble_eq_true rfl⟩) (zp_V (ci := 2) (q0 := 15) hK hP hD [15] rfl rfl rfl rfl) rfl rfl hl.1 rfl (lv_room (Nat.le_of_ble_eq_true rfl)) dX6_given_50 ⟨Nat.le_of_ble_eq_true rfl, Nat.le_of_ble_eq_true rfl⟩) hP hD hS hA [15] rfl (fun _ => rfl) (fun r_23 u_24 H locs w_25 hP hD hS => ?_)
            have hP : va_P (dC, dI) vwCl (zX k q 0 (-1) 12 100 0 (fun _ => 0) 0 0 ar1 ar2 ar3 ar4 ar5 oar6_20 ar7 ph pp py wy 1 1 cm0 ia0 0 0 ih0 in0 il0 tx0 sh0 cm1 ia1 0 0 ih1 in1 il1 tx1 sh1 cm2 ia2 0 0 ih2 in2 il2 tx2 sh2 cm3 ia3 0 0 ih3 in3 il3 tx3 sh3 (-1) 0 it0 (-1) 0 it1 (-1) 0 it2 (-1) 0 it3) H := hP
            have hD : va_D A (zX k q 0 (-1) 12 100 0 (fun _ => 0) 0 0 ar1 ar2 ar3 ar4 ar5 oar6_20 ar7 ph pp py wy 1 1 cm0 ia0 0 0 ih0 in0 il0 tx0 sh0 cm1 ia1 0 0 ih1 in1 il1 tx1 sh1 cm2 ia2 0 0 ih2 in2 il2 tx2 sh2 cm3 ia3 0 0 ih3 in3 il3 tx3 sh3 (-1) 0 it0 (-1) 0 it1 (-1) 0 it2 (-1) 0 it3) := hD
            have e_26 := w_25
            replace e_26 : r_23 = if w = 0 then 1 else 1 := e_26
            subst e_26
            refine z_top (v2 := .long 1) (congrArg Value.long (ite_self 1)) ?_
            exact W.lret (v := 1) hx hb hr (fun t ht hW => ⟨⟨1, (0, oar6_20, 1, 1), rfl, (by first | assumption | with_reducible rfl | contradiction | exact (if_pos (by repeat' (first | assumption | decide | constructor))).symm | exact (if_neg (fun hh => absurd hh (by assumption))).symm | exact (if_neg (fun hh => absurd hh.1 (by assumption))).symm | exact (if_neg (fun hh => absurd hh.1.1 (by assumption))).symm | exact (if_neg (fun hh => absurd hh.1.2 (by assumption))).symm | exact (if_neg (fun hh => absurd hh.2 (by assumption))).symm | exact (if_neg (fun hh => absurd hh.2.1 (by assumption))).symm | exact (if_neg (fun hh => absurd hh.2.2 (by assumption))).symm | decide | (exfalso; simp only [zi_le, zi_lt, zi_eq, zi_n0, zi_n1, zi_n2, zi_n3, zi_n4, zi_n23, zi_n24, zi_n100, zi_n399, zi_n60, zi_n255, zi_n99, zi_nm1, zi_n30] at *; omega) | (simp_all; done)), ⟨by rw [ht]; exact hP, hD⟩⟩, hS.F ht⟩) hS.2.2 dX6_given_53
          · skip
            exact absurd (by decide) c_22
        · skip
          exact absurd c_16 (by decide)
      · skip
        replace e_15 : r_9 = 0 := e_15
        subst e_15
        replace h_14 : ¬ (0 ≤ (w : Int32) ∧ (w : Int32) ≤ 1) := h_14
        refine lv_if_ne (tgt := 20) hx hb dX6_given_11 (by decide) (fun c_27 => ?_) (fun c_27 => ?_)
        · skip
          exact absurd c_27 (by decide)
        · skip
          refine lv_bipush (v := (-2)) hx hb dX6_given_14 (by decide) ?_
          refine zc0_l (w := (zX k q 0 (-1) 12 100 0 (fun _ => 0) aps 0 ar1 ar2 ar3 ar4 ar5 ar6 ar7 ph pp py wy fa fb cm0 ia0 0 0 ih0 in0 il0 tx0 sh0 cm1 ia1 0 0 ih1 in1 il1 tx1 sh1 cm2 ia2 0 0 ih2 in2 il2 tx2 sh2 cm3 ia3 0 0 ih3 in3 il3 tx3 sh3 (-1) 0 it0 (-1) 0 it1 (-1) 0 it2 (-1) 0 it3)) (va_runS (As := [.int (-2)]) (rest := []) ⟨hx, hb, hml, hown, hts⟩ (c_X6_asLong_2 l dC dI k (zTX k)  _ ) (va_cwS 1 hts (gzS wmt2_51 wmt2_52 wmt1_1 wmt2_53) rfl rfl rfl (by decide +kernel) ⟨Nat.le_of_ble_eq_true rfl, Nat.le_of_ble_eq_true rfl⟩) (zp0_S hK) rfl rfl hl.1 rfl (lv_room (Nat.le_of_ble_eq_true rfl)) dX6_given_16 ⟨Nat.le_of_ble_eq_true rfl, Nat.le_of_ble_eq_true rfl⟩) hP hS hA (fun r_28 u_29 H locs w_30 hP hS => ?_)
          have e_31 := w_30
          replace e_31 : r_28 = (-9223372036854775806) := e_31
          subst e_31
          exact W.lret (v := (-9223372036854775806)) hx hb hr (fun t ht hW => ⟨⟨(-9223372036854775806), (aps, ar6, fa, fb), rfl, (by first | assumption | with_reducible rfl | contradiction | exact (if_pos (by repeat' (first | assumption | decide | constructor))).symm | exact (if_neg (fun hh => absurd hh (by assumption))).symm | exact (if_neg (fun hh => absurd hh.1 (by assumption))).symm | exact (if_neg (fun hh => absurd hh.1.1 (by assumption))).symm | exact (if_neg (fun hh => absurd hh.1.2 (by assumption))).symm | exact (if_neg (fun hh => absurd hh.2 (by assumption))).symm | exact (if_neg (fun hh => absurd hh.2.1 (by assumption))).symm | exact (if_neg (fun hh => absurd hh.2.2 (by assumption))).symm | decide | (exfalso; simp only [zi_le, zi_lt, zi_eq, zi_n0, zi_n1, zi_n2, zi_n3, zi_n4, zi_n23, zi_n24, zi_n100, zi_n399, zi_n60, zi_n255, zi_n99, zi_nm1, zi_n30] at *; omega) | (simp_all; done)), ⟨by rw [ht]; exact hP, hD⟩⟩, hS.F ht⟩) hS.2.2 dX6_given_19
  · skip
    replace e_7 : r_1 = 0 := e_7
    subst e_7
    replace h_6 : ¬ (0 ≤ (pe : Int32) ∧ (pe : Int32) ≤ 23) := h_6
    refine lv_if_eq (tgt := 14) hx hb dX6_given_4 (by decide) (fun c_32 => ?_) (fun c_32 => ?_)
    · skip
      refine lv_bipush (v := (-2)) hx hb dX6_given_14 (by decide) ?_
      refine zc0_l (w := (zX k q 0 (-1) 12 100 0 (fun _ => 0) aps 0 ar1 ar2 ar3 ar4 ar5 ar6 ar7 ph pp py wy fa fb cm0 ia0 0 0 ih0 in0 il0 tx0 sh0 cm1 ia1 0 0 ih1 in1 il1 tx1 sh1 cm2 ia2 0 0 ih2 in2 il2 tx2 sh2 cm3 ia3 0 0 ih3 in3 il3 tx3 sh3 (-1) 0 it0 (-1) 0 it1 (-1) 0 it2 (-1) 0 it3)) (va_runS (As := [.int (-2)]) (rest := []) ⟨hx, hb, hml, hown, hts⟩ (c_X6_asLong_2 l dC dI k (zTX k)  _ ) (va_cwS 1 hts (gzS wmt2_51 wmt2_52 wmt1_1 wmt2_53) rfl rfl rfl (by decide +kernel) ⟨Nat.le_of_ble_eq_true rfl, Nat.le_of_ble_eq_true rfl⟩) (zp0_S hK) rfl rfl hl.1 rfl (lv_room (Nat.le_of_ble_eq_true rfl)) dX6_given_16 ⟨Nat.le_of_ble_eq_true rfl, Nat.le_of_ble_eq_true rfl⟩) hP hS hA (fun r_33 u_34 H locs w_35 hP hS => ?_)
      have e_36 := w_35
      replace e_36 : r_33 = (-9223372036854775806) := e_36
      subst e_36
      exact W.lret (v := (-9223372036854775806)) hx hb hr (fun t ht hW => ⟨⟨(-9223372036854775806), (aps, ar6, fa, fb), rfl, (by first | assumption | with_reducible rfl | contradiction | exact (if_pos (by repeat' (first | assumption | decide | constructor))).symm | exact (if_neg (fun hh => absurd hh (by assumption))).symm | exact (if_neg (fun hh => absurd hh.1 (by assumption))).symm | exact (if_neg (fun hh => absurd hh.1.1 (by assumption))).symm | exact (if_neg (fun hh => absurd hh.1.2 (by assumption))).symm | exact (if_neg (fun hh => absurd hh.2 (by assumption))).symm | exact (if_neg (fun hh => absurd hh.2.1 (by assumption))).symm | exact (if_neg (fun hh => absurd hh.2.2 (by assumption))).symm | decide | (exfalso; simp only [zi_le, zi_lt, zi_eq, zi_n0, zi_n1, zi_n2, zi_n3, zi_n4, zi_n23, zi_n24, zi_n100, zi_n399, zi_n60, zi_n255, zi_n99, zi_nm1, zi_n30] at *; omega) | (simp_all; done)), ⟨by rw [ht]; exact hP, hD⟩⟩, hS.F ht⟩) hS.2.2 dX6_given_19
    · skip
      exact absurd (by decide) c_32
set_option maxHeartbeats 4000000 in
set_option maxRecDepth 100000 in
theorem c_X6_has (l : Launch) (dC : Nat → ClassId) (dI : Nat → Nat → Nat) (k : Nat → ClassId)  (q : Nat → Nat) (aps : Int32) (ar1 : Nat → Int32) (ar2 : Nat → Int32) (ar3 : Nat → Int32) (ar4 : Nat → Int32) (ar5 : Nat → Int32) (ar6 : Nat → Int32) (ar7 : Nat → Int32) (ph : Int32) (pp : Int32) (py : Int32) (wy : Nat → Int64) (fa : Int64) (fb : Int64) (cm0 : Int64) (ia0 : Int32) (ih0 : Int32) (in0 : Int32) (il0 : Int32) (tx0 : Nat → Int32) (sh0 : Nat → Int64) (cm1 : Int64) (ia1 : Int32) (ih1 : Int32) (in1 : Int32) (il1 : Int32) (tx1 : Nat → Int32) (sh1 : Nat → Int64) (cm2 : Int64) (ia2 : Int32) (ih2 : Int32) (in2 : Int32) (il2 : Int32) (tx2 : Nat → Int32) (sh2 : Nat → Int64) (cm3 : Int64) (ia3 : Int32) (ih3 : Int32) (in3 : Int32) (il3 : Int32) (tx3 : Nat → Int32) (sh3 : Nat → Int64) (it0 : Nat → Int32) (it1 : Nat → Int32) (it2 : Nat → Int32) (it3 : Nat → Int32) (pe : Int32) (n : Int32) (w : Int32) (sz : Nat)  : Met l yX6_has (wz yX6_has cX6_has 7 (some .long)) ({ frames := 4, cells := 0, slots := 0, locals := 93 }) (va_Pc [.ref (q 0), .int pe, .int n, .int w] (zPre dC dI k (zTX k) (zX k q 0 (-1) 12 100 0 (fun _ => 0) aps 0 ar1 ar2 ar3 ar4 ar5 ar6 ar7 ph pp py wy fa fb cm0 ia0 0 0 ih0 in0 il0 tx0 sh0 cm1 ia1 0 0 ih1 in1 il1 tx1 sh1 cm2 ia2 0 0 ih2 in2 il2 tx2 sh2 cm3 ia3 0 0 ih3 in3 il3 tx3 sh3 (-1) 0 it0 (-1) 0 it1 (-1) 0 it2 (-1) 0 it3) sz)) (va_Ql (fun (r : Int64) (u : Int32 × (Nat → Int32) × Int64 × Int64) => (r = if (0 ≤ (pe : Int32) ∧ (pe : Int32) ≤ 23) ∧ (1 ≤ n ∧ n ≤ 99) ∧ (0 ≤ (w : Int32) ∧ (w : Int32) ≤ 1) then zHas n w else (-9223372036854775806))) (fun u t => zPost dC dI (va_A (zX k q 0 (-1) 12 100 0 (fun _ => 0) aps 0 ar1 ar2 ar3 ar4 ar5 ar6 ar7 ph pp py wy fa fb cm0 ia0 0 0 ih0 in0 il0 tx0 sh0 cm1 ia1 0 0 ih1 in1 il1 tx1 sh1 cm2 ia2 0 0 ih2 in2 il2 tx2 sh2 cm3 ia3 0 0 ih3 in3 il3 tx3 sh3 (-1) 0 it0 (-1) 0 it1 (-1) 0 it2 (-1) 0 it3) sz) (zX k q 0 (-1) 12 100 0 (fun _ => 0) u.1 0 ar1 ar2 ar3 ar4 ar5 u.2.1 ar7 ph pp py wy u.2.2.1 u.2.2.2 cm0 ia0 0 0 ih0 in0 il0 tx0 sh0 cm1 ia1 0 0 ih1 in1 il1 tx1 sh1 cm2 ia2 0 0 ih2 in2 il2 tx2 sh2 cm3 ia3 0 0 ih3 in3 il3 tx3 sh3 (-1) 0 it0 (-1) 0 it1 (-1) 0 it2 (-1) 0 it3) t) (va_A (zX k q 0 (-1) 12 100 0 (fun _ => 0) aps 0 ar1 ar2 ar3 ar4 ar5 ar6 ar7 ph pp py wy fa fb cm0 ia0 0 0 ih0 in0 il0 tx0 sh0 cm1 ia1 0 0 ih1 in1 il1 tx1 sh1 cm2 ia2 0 0 ih2 in2 il2 tx2 sh2 cm3 ia3 0 0 ih3 in3 il3 tx3 sh3 (-1) 0 it0 (-1) 0 it1 (-1) 0 it2 (-1) 0 it3) sz)) 0 0 (va_A (zX k q 0 (-1) 12 100 0 (fun _ => 0) aps 0 ar1 ar2 ar3 ar4 ar5 ar6 ar7 ph pp py wy fa fb cm0 ia0 0 0 ih0 in0 il0 tx0 sh0 cm1 ia1 0 0 ih1 in1 il1 tx1 sh1 cm2 ia2 0 0 ih2 in2 il2 tx2 sh2 cm3 ia3 0 0 ih3 in3 il3 tx3 sh3 (-1) 0 it0 (-1) 0 it1 (-1) 0 it2 (-1) 0 it3) sz) := by
  refine Met.ofW (cc := cX6_has) (maxL := 7) (ret := (some .long)) (by decide) rfl ?_
  intro p e s m args below meth c s₁ B hml hv
  obtain ⟨rfl, hsz, hP, hK, hD0⟩ := hv
  have hx := B.exec
  have hb := B.bytes
  have hr := B.returns
  have hts : ∀ w ∈ zw, w.before _ s = true := fun w h => atoms_spec (ws := (wz yX6_has cX6_has 7 (some .long))) B.pre w (List.mem_cons_of_mem _ h)
  have hown : s.vm.findClass RX6 = some m.cls := findClass_of_methodNamed B.named
  have hlocks := B.notSynchronized
  subst hsz
  have hi2 := inw2
  have hi6 := inw6
  have hD := hD0.self (sz := s.heap.size)
  generalize hAe : va_A (zX k q 0 (-1) 12 100 0 (fun _ => 0) aps 0 ar1 ar2 ar3 ar4 ar5 ar6 ar7 ph pp py wy fa fb cm0 ia0 0 0 ih0 in0 il0 tx0 sh0 cm1 ia1 0 0 ih1 in1 il1 tx1 sh1 cm2 ia2 0 0 ih2 in2 il2 tx2 sh2 cm3 ia3 0 0 ih3 in3 il3 tx3 sh3 (-1) 0 it0 (-1) 0 it1 (-1) 0 it2 (-1) 0 it3) s.heap.size = A at hD ⊢
  have hA : ∀ q : Nat, s.heap.size ≤ q → A q := fun q h => by rw [← hAe]; exact Or.inr h
  have hl := lv_entry ([.ref (q 0), .int pe, .int n, .int w]) (n := 7) (Nat.le_of_ble_eq_true rfl)
  rw [lg_entry_eq]
  generalize (lg_sl ([.ref (q 0), .int pe, .int n, .int w]) ++ List.replicate (7 - (lg_sl ([.ref (q 0), .int pe, .int n, .int w])).length) Slot.unset).toArray = ls at hl ⊢
  have hl : lv_has ls 7 [(0, .ref (q 0)), (1, .int pe), (2, .int n), (3, .int w)] := hl
  refine z_start (w := (zX k q 0 (-1) 12 100 0 (fun _ => 0) aps 0 ar1 ar2 ar3 ar4 ar5 ar6 ar7 ph pp py wy fa fb cm0 ia0 0 0 ih0 in0 il0 tx0 sh0 cm1 ia1 0 0 ih1 in1 il1 tx1 sh1 cm2 ia2 0 0 ih2 in2 il2 tx2 sh2 cm3 ia3 0 0 ih3 in3 il3 tx3 sh3 (-1) 0 it0 (-1) 0 it1 (-1) 0 it2 (-1) 0 it3)) hP hD (fun H locs hP hD hS => ?_)
  refine lv_iload_n hx hb dX6_has_0 rfl (lv_at hl 1 rfl) ?_
  refine zc0_i (w := (zX k q 0 (-1) 12 100 0 (fun _ => 0) aps 0 ar1 ar2 ar3 ar4 ar5 ar6 ar7 ph pp py wy fa fb cm0 ia0 0 0 ih0 in0 il0 tx0 sh0 cm1 ia1 0 0 ih1 in1 il1 tx1 sh1 cm2 ia2 0 0 ih2 in2 il2 tx2 sh2 cm3 ia3 0 0 ih3 in3 il3 tx3 sh3 (-1) 0 it0 (-1) 0 it1 (-1) 0 it2 (-1) 0 it3)) (va_runS (As := [.int pe]) (rest := []) ⟨hx, hb, hml, hown, hts⟩ (c_X6_isPerson l dC dI k (zTX k) pe _ ) (va_cwS 1 hts (gzS wmt2_77 wmt2_78 wmt1_1 wmt2_79) rfl rfl rfl (by decide +kernel) ⟨Nat.le_of_ble_eq_true rfl, Nat.le_of_ble_eq_true rfl⟩) (zp0_S hK) rfl rfl hl.1 rfl (lv_room (Nat.le_of_ble_eq_true rfl)) dX6_has_1 ⟨Nat.le_of_ble_eq_true rfl, Nat.le_of_ble_eq_true rfl⟩) hP hS hA (fun r_1 u_2 H locs w_3 hP hS => ?_)
  rcases w_3 with ⟨e_5, h_4⟩ | ⟨e_7, h_6⟩
  · skip
    replace e_5 : r_1 = 1 := e_5
    subst e_5
    replace h_4 : 0 ≤ (pe : Int32) ∧ (pe : Int32) ≤ 23 := h_4
    refine lv_if_eq (tgt := 25) hx hb dX6_has_4 (by decide) (fun c_8 => ?_) (fun c_8 => ?_)
    · skip
      exact absurd c_8 (by decide)
    · skip
      refine lv_iload_n hx hb dX6_has_7 rfl (lv_at hl 2 rfl) ?_
      refine lv_iconst (v := 1) hx hb dX6_has_8 (by decide) ?_
      refine lv_icmp_lt (tgt := 25) hx hb dX6_has_9 (by decide) (fun c_9 => ?_) (fun c_9 => ?_)
      · skip
        replace c_9 := Int32.not_le.mpr c_9
        have c_9' : n ≤ 0 := Decidable.not_not.mp (fun h => c_9 ((z_ge_pred (by decide)).mpr h))
        refine lv_bipush (v := (-2)) hx hb dX6_has_25 (by decide) ?_
        refine zc0_l (w := (zX k q 0 (-1) 12 100 0 (fun _ => 0) aps 0 ar1 ar2 ar3 ar4 ar5 ar6 ar7 ph pp py wy fa fb cm0 ia0 0 0 ih0 in0 il0 tx0 sh0 cm1 ia1 0 0 ih1 in1 il1 tx1 sh1 cm2 ia2 0 0 ih2 in2 il2 tx2 sh2 cm3 ia3 0 0 ih3 in3 il3 tx3 sh3 (-1) 0 it0 (-1) 0 it1 (-1) 0 it2 (-1) 0 it3)) (va_runS (As := [.int (-2)]) (rest := []) ⟨hx, hb, hml, hown, hts⟩ (c_X6_asLong_2 l dC dI k (zTX k)  _ ) (va_cwS 1 hts (gzS wmt2_51 wmt2_52 wmt1_1 wmt2_53) rfl rfl rfl (by decide +kernel) ⟨Nat.le_of_ble_eq_true rfl, Nat.le_of_ble_eq_true rfl⟩) (zp0_S hK) rfl rfl hl.1 rfl (lv_room (Nat.le_of_ble_eq_true rfl)) dX6_has_27 ⟨Nat.le_of_ble_eq_true rfl, Nat.le_of_ble_eq_true rfl⟩) hP hS hA (fun r_10 u_11 H locs w_12 hP hS => ?_)
        have e_13 := w_12
        replace e_13 : r_10 = (-9223372036854775806) := e_13
        subst e_13
        exact W.lret (v := (-9223372036854775806)) hx hb hr (fun t ht hW => ⟨⟨(-9223372036854775806), (aps, ar6, fa, fb), rfl, (by first | assumption | with_reducible rfl | contradiction | exact (if_pos (by repeat' (first | assumption | decide | constructor))).symm | exact (if_neg (fun hh => absurd hh (by assumption))).symm | exact (if_neg (fun hh => absurd hh.1 (by assumption))).symm | exact (if_neg (fun hh => absurd hh.1.1 (by assumption))).symm | exact (if_neg (fun hh => absurd hh.1.2 (by assumption))).symm | exact (if_neg (fun hh => absurd hh.2 (by assumption))).symm | exact (if_neg (fun hh => absurd hh.2.1 (by assumption))).symm | exact (if_neg (fun hh => absurd hh.2.1.1 (by assumption))).symm | exact (if_neg (fun hh => absurd hh.2.1.2 (by assumption))).symm | exact (if_neg (fun hh => absurd hh.2.2 (by assumption))).symm | exact (if_neg (fun hh => absurd hh.2.2.1 (by assumption))).symm | exact (if_neg (fun hh => absurd hh.2.2.2 (by assumption))).symm | decide | (exfalso; simp only [zi_le, zi_lt, zi_eq, zi_n0, zi_n1, zi_n2, zi_n3, zi_n4, zi_n23, zi_n24, zi_n100, zi_n399, zi_n60, zi_n255, zi_n99, zi_nm1, zi_n30] at *; omega) | (simp_all; done)), ⟨by rw [ht]; exact hP, hD⟩⟩, hS.F ht⟩) hS.2.2 dX6_has_30
      · skip
        replace c_9 := Int32.not_lt.mp c_9
        have c_9' : ¬ n ≤ 0 := (z_ge_pred (by decide)).mp c_9
        refine lv_iload_n hx hb dX6_has_12 rfl (lv_at hl 2 rfl) ?_
        refine lv_bipush (v := 99) hx hb dX6_has_13 (by decide) ?_
        refine lv_icmp_gt (tgt := 25) hx hb dX6_has_15 (by decide) (fun c_14 => ?_) (fun c_14 => ?_)
        · skip
          replace c_14 := Int32.not_le.mpr c_14
          refine lv_bipush (v := (-2)) hx hb dX6_has_25 (by decide) ?_
          refine zc0_l (w := (zX k q 0 (-1) 12 100 0 (fun _ => 0) aps 0 ar1 ar2 ar3 ar4 ar5 ar6 ar7 ph pp py wy fa fb cm0 ia0 0 0 ih0 in0 il0 tx0 sh0 cm1 ia1 0 0 ih1 in1 il1 tx1 sh1 cm2 ia2 0 0 ih2 in2 il2 tx2 sh2 cm3 ia3 0 0 ih3 in3 il3 tx3 sh3 (-1) 0 it0 (-1) 0 it1 (-1) 0 it2 (-1) 0 it3)) (va_runS (As := [.int (-2)]) (rest := []) ⟨hx, hb, hml, hown, hts⟩ (c_X6_asLong_2 l dC dI k (zTX k)  _ ) (va_cwS 1 hts (gzS wmt2_51 wmt2_52 wmt1_1 wmt2_53) rfl rfl rfl (by decide +kernel) ⟨Nat.le_of_ble_eq_true rfl, Nat.le_of_ble_eq_true rfl⟩) (zp0_S hK) rfl rfl hl.1 rfl (lv_room (Nat.le_of_ble_eq_true rfl)) dX6_has_27 ⟨Nat.le_of_ble_eq_true rfl, Nat.le_of_ble_eq_true rfl⟩) hP hS hA (fun r_15 u_16 H locs w_17 hP hS => ?_)
          have e_18 := w_17
          replace e_18 : r_15 = (-9223372036854775806) := e_18
          subst e_18
          exact W.lret (v := (-9223372036854775806)) hx hb hr (fun t ht hW => ⟨⟨(-9223372036854775806), (aps, ar6, fa, fb), rfl, (by first | assumption | with_reducible rfl | contradiction | exact (if_pos (by repeat' (first | assumption | decide | constructor))).symm | exact (if_neg (fun hh => absurd hh (by assumption))).symm | exact (if_neg (fun hh => absurd hh.1 (by assumption))).symm | exact (if_neg (fun hh => absurd hh.1.1 (by assumption))).symm | exact (if_neg (fun hh => absurd hh.1.2 (by assumption))).symm | exact (if_neg (fun hh => absurd hh.2 (by assumption))).symm | exact (if_neg (fun hh => absurd hh.2.1 (by assumption))).symm | exact (if_neg (fun hh => absurd hh.2.1.1 (by assumption))).symm | exact (if_neg (fun hh => absurd hh.2.1.2 (by assumption))).symm | exact (if_neg (fun hh => absurd hh.2.2 (by assumption))).symm | exact (if_neg (fun hh => absurd hh.2.2.1 (by assumption))).symm | exact (if_neg (fun hh => absurd hh.2.2.2 (by assumption))).symm | decide | (exfalso; simp only [zi_le, zi_lt, zi_eq, zi_n0, zi_n1, zi_n2, zi_n3, zi_n4, zi_n23, zi_n24, zi_n100, zi_n399, zi_n60, zi_n255, zi_n99, zi_nm1, zi_n30] at *; omega) | (simp_all; done)), ⟨by rw [ht]; exact hP, hD⟩⟩, hS.F ht⟩) hS.2.2 dX6_has_30
        · skip
          replace c_14 := Int32.not_lt.mp c_14
          refine lv_iload_n hx hb dX6_has_18 rfl (lv_at hl 3 rfl) ?_
          refine zc0_i (w := (zX k q 0 (-1) 12 100 0 (fun _ => 0) aps 0 ar1 ar2 ar3 ar4 ar5 ar6 ar7 ph pp py wy fa fb cm0 ia0 0 0 ih0 in0 il0 tx0 sh0 cm1 ia1 0 0 ih1 in1 il1 tx1 sh1 cm2 ia2 0 0 ih2 in2 il2 tx2 sh2 cm3 ia3 0 0 ih3 in3 il3 tx3 sh3 (-1) 0 it0 (-1) 0 it1 (-1) 0 it2 (-1) 0 it3)) (va_runS (As := [.int w]) (rest := []) ⟨hx, hb, hml, hown, hts⟩ (c_X6_isEither l dC dI k (zTX k) w _ ) (va_cwS 1 hts (gzS wmt2_48 wmt2_49 wmt1_1 wmt2_50) rfl rfl rfl (by decide +kernel) ⟨Nat.le_of_ble_eq_true rfl, Nat.le_of_ble_eq_true rfl⟩) (zp0_S hK) rfl rfl hl.1 rfl (lv_room (Nat.le_of_ble_eq_true rfl)) dX6_has_19 ⟨Nat.le_of_ble_eq_true rfl, Nat.le_of_ble_eq_true rfl⟩) hP hS hA (fun r_19 u_20 H locs w_21 hP hS => ?_)
          rcases w_21 with ⟨e_23, h_22⟩ | ⟨e_25, h_24⟩
          · skip
            replace e_23 : r_19 = 1 := e_23
            subst e_23
            replace h_22 : 0 ≤ (w : Int32) ∧ (w : Int32) ≤ 1 := h_22
            refine lv_if_ne (tgt := 31) hx hb dX6_has_22 (by decide) (fun c_26 => ?_) (fun c_26 => ?_)
            · skip
              obtain ⟨j, hj0, hj1, rfl⟩ : ∃ j : Nat, 1 ≤ j ∧ j ≤ 99 ∧ n = nI j := z_of99 (by assumption) (by assumption)
              refine lv_aload_n hx hb dX6_has_31 rfl (lv_at hl 0 rfl) ?_
              refine lv_iload_n hx hb dX6_has_32 rfl (lv_at hl 1 rfl) ?_
              refine zcA_i (w := (zX k q 0 (-1) 12 100 0 (fun _ => 0) aps 0 ar1 ar2 ar3 ar4 ar5 ar6 ar7 ph pp py wy fa fb cm0 ia0 0 0 ih0 in0 il0 tx0 sh0 cm1 ia1 0 0 ih1 in1 il1 tx1 sh1 cm2 ia2 0 0 ih2 in2 il2 tx2 sh2 cm3 ia3 0 0 ih3 in3 il3 tx3 sh3 (-1) 0 it0 (-1) 0 it1 (-1) 0 it2 (-1) 0 it3)) (va_runV (As := [.int pe]) (rest := []) ⟨hx, hb, hml, hown, hts⟩ (c_X6_multiplyGivenAway l dC dI k  q aps ar1 ar2 ar3 ar4 ar5 ar6 ar7 ph pp py wy fa fb cm0 ia0 ih0 in0 il0 tx0 sh0 cm1 ia1 ih1 in1 il1 tx1 sh1 cm2 ia2 ih2 in2 il2 tx2 sh2 cm3 ia3 ih3 in3 il3 tx3 sh3 it0 it1 it2 it3 pe _ ) (cwV 1 hts (gzV wmt2_237 wmt2_239 wmp1_15 wmt1_1 wmt3_0) rfl rfl rfl (by decide +kernel) ⟨Nat.le_of_ble_eq_true rfl, Nat.le_of_ble_eq_true rfl⟩) (zpA_V (ci := 6) (q0 := 0) hK hP hD rfl rfl) rfl rfl hl.1 rfl (lv_room (Nat.le_of_ble_eq_true rfl)) dX6_has_33 ⟨Nat.le_of_ble_eq_true rfl, Nat.le_of_ble_eq_true rfl⟩) hD hS hA (fun r_27 u_28 H locs w_29 hP hD hS => ?_)
              obtain ⟨oar6_30, rfl⟩ : ∃ z, z = u_28 := ⟨_, rfl⟩
              have hP : va_P (dC, dI) vwCl (zX k q 0 (-1) 12 100 0 (fun _ => 0) 0 0 ar1 ar2 ar3 ar4 ar5 oar6_30 ar7 ph pp py wy 1 1 cm0 ia0 0 0 ih0 in0 il0 tx0 sh0 cm1 ia1 0 0 ih1 in1 il1 tx1 sh1 cm2 ia2 0 0 ih2 in2 il2 tx2 sh2 cm3 ia3 0 0 ih3 in3 il3 tx3 sh3 (-1) 0 it0 (-1) 0 it1 (-1) 0 it2 (-1) 0 it3) H := hP
              have hD : va_D A (zX k q 0 (-1) 12 100 0 (fun _ => 0) 0 0 ar1 ar2 ar3 ar4 ar5 oar6_30 ar7 ph pp py wy 1 1 cm0 ia0 0 0 ih0 in0 il0 tx0 sh0 cm1 ia1 0 0 ih1 in1 il1 tx1 sh1 cm2 ia2 0 0 ih2 in2 il2 tx2 sh2 cm3 ia3 0 0 ih3 in3 il3 tx3 sh3 (-1) 0 it0 (-1) 0 it1 (-1) 0 it2 (-1) 0 it3) := hD
              have e_31 := w_29
              replace e_31 : r_27 = 0 := e_31
              subst e_31
              refine lv_istore (lv' := [(4, .int 0), (0, .ref (q 0)), (1, .int pe), (2, .int (nI j)), (3, .int w)]) hx hb dX6_has_36 hl (by decide) rfl (fun ls hl => ?_)
              refine lv_iload hx hb dX6_has_38 (lv_at hl 0 rfl) ?_
              refine lv_iconst (v := (-1)) hx hb dX6_has_40 (by decide) ?_
              refine lv_icmp_ne (tgt := 46) hx hb dX6_has_41 (by decide) (fun c_32 => ?_) (fun c_32 => ?_)
              · skip
                refine lv_iload hx hb dX6_has_46 (lv_at hl 0 rfl) ?_
                refine lv_if_eq (tgt := 57) hx hb dX6_has_48 (by decide) (fun c_33 => ?_) (fun c_33 => ?_)
                · skip
                  refine lv_iload_n hx hb dX6_has_57 rfl (lv_at hl 3 rfl) ?_
                  refine lv_i2l (v := (nI j).toInt64) hx hb dX6_has_58 rfl ?_
                  refine z_top (v2 := .long (lN j)) (congrArg Value.long (nI_l (by omega))) ?_
                  refine lv_aload_n hx hb dX6_has_59 rfl (lv_at hl 1 rfl) ?_
                  refine va_get (D := (dC, dI)) (ci := 6) (v := .ref (q 15)) (C := RX6) (T := TX6) (N := 12) hx hb hts hi6 hown hK.1 hP 0 rfl rfl 6 (by decide) (hts _ wmt1_176) (fun _ h9 => h9) rfl dX6_has_60 ?_
                  refine va_get (D := (dC, dI)) (ci := 2) (v := .long 1) (C := RX2) (T := TX2) (N := 2) hx hb hts hi2 hown hK.1 hP 15 rfl rfl 0 (by decide) (hts _ wmt1_104) (fun _ h9 => h9) rfl dX6_has_63 ?_
                  refine lv_lmul hx hb dX6_has_66 ?_
                  refine z_top (v2 := .long (lN j)) (congrArg Value.long (Int64.mul_one (lN j))) ?_
                  refine lv_lstore (lv' := [(5, .long (lN j)), (4, .int 0), (0, .ref (q 0)), (1, .int pe), (2, .int (nI j)), (3, .int w)]) hx hb dX6_has_67 hl (by decide) rfl (fun ls hl => ?_)
                  refine lv_aload_n hx hb dX6_has_69 rfl (lv_at hl 2 rfl) ?_
                  refine va_get (D := (dC, dI)) (ci := 6) (v := .ref (q 15)) (C := RX6) (T := TX6) (N := 12) hx hb hts hi6 hown hK.1 hP 0 rfl rfl 6 (by decide) (hts _ wmt1_176) (fun _ h9 => h9) rfl dX6_has_70 ?_
                  refine lv_lload hx hb dX6_has_73 (lv_at hl 0 rfl) ?_
                  refine lv_lload hx hb dX6_has_75 (lv_at hl 0 rfl) ?_
                  refine lv_bipush (v := 100) hx hb dX6_has_77 (by decide) ?_
                  refine lv_iload_n hx hb dX6_has_79 rfl (lv_at hl 4 rfl) ?_
                  refine lv_isub hx hb dX6_has_80 ?_
                  refine lv_topi (fun x_34 ex_34 => ?_)
                  refine lv_i2l (v := x_34.toInt64) hx hb dX6_has_81 rfl ?_
                  refine z_top (v2 := .long (lN (100 - j))) (congrArg Value.long (by rw [ex_34]; exact z_100 hj1)) ?_
                  refine lv_aload_n hx hb dX6_has_82 rfl (lv_at hl 2 rfl) ?_
                  refine va_get (D := (dC, dI)) (ci := 6) (v := .ref (q 15)) (C := RX6) (T := TX6) (N := 12) hx hb hts hi6 hown hK.1 hP 0 rfl rfl 6 (by decide) (hts _ wmt1_176) (fun _ h9 => h9) rfl dX6_has_83 ?_
                  refine va_get (D := (dC, dI)) (ci := 2) (v := .long 1) (C := RX2) (T := TX2) (N := 2) hx hb hts hi2 hown hK.1 hP 15 rfl rfl 1 (by decide) (hts _ wmt1_106) (fun _ h9 => h9) rfl dX6_has_86 ?_
                  refine lv_lmul hx hb dX6_has_89 ?_
                  refine z_top (v2 := .long (lN (100 - j))) (congrArg Value.long (Int64.mul_one (lN (100 - j)))) ?_
                  refine lv_ladd hx hb dX6_has_90 ?_
                  refine lv_topl (fun x_35 ex_35 => ?_)
                  refine z_top (v2 := .long (lN 100)) (congrArg Value.long (by rw [ex_35, lN_add, show j + (100 - j) = 100 by omega])) ?_
                  refine zcS_v (w := (zX k q 0 (-1) 12 100 0 (fun _ => 0) 0 0 ar1 ar2 ar3 ar4 ar5 oar6_30 ar7 ph pp py wy 1 1 cm0 ia0 0 0 ih0 in0 il0 tx0 sh0 cm1 ia1 0 0 ih1 in1 il1 tx1 sh1 cm2 ia2 0 0 ih2 in2 il2 tx2 sh2 cm3 ia3 0 0 ih3 in3 il3 tx3 sh3 (-1) 0 it0 (-1) 0 it1 (-1) 0 it2 (-1) 0 it3)) (wc := (zFra k (q 15) 1 1)) (va_runV (As := [.long (lN j), .long (lN 100)]) (rest := []) ⟨hx, hb, hml, hown, hts⟩ (c_X2_become l dC dI k (zTX k) (q 15) 1 1 j 100 _ (by omega) (by decide) (by decide) (by decide)) (cwV 2 hts (gzV wmt2_56 wmt2_57 wmt2_58 wmt1_5 wmt2_59) rfl rfl rfl (by decide +kernel) ⟨Nat.le_of_ble_eq_true rfl, Nat.le_of_ble_eq_true rfl⟩) (zp_V (ci := 2) (q0 := 15) hK hP hD [15] rfl rfl rfl rfl) rfl rfl hl.1 rfl (lv_room (Nat.le_of_ble_eq_true rfl)) dX6_has_91 ⟨Nat.le_of_ble_eq_true rfl, Nat.le_of_ble_eq_true rfl⟩) hP hD hS hA [15] rfl (fun _ => rfl) (fun u_37 H locs w_38 hP hD hS => ?_)
                  have hP : va_P (dC, dI) vwCl (zX k q 0 (-1) 12 100 0 (fun _ => 0) 0 0 ar1 ar2 ar3 ar4 ar5 oar6_30 ar7 ph pp py wy (lN (j / Nat.gcd j 100)) (lN (100 / Nat.gcd j 100)) cm0 ia0 0 0 ih0 in0 il0 tx0 sh0 cm1 ia1 0 0 ih1 in1 il1 tx1 sh1 cm2 ia2 0 0 ih2 in2 il2 tx2 sh2 cm3 ia3 0 0 ih3 in3 il3 tx3 sh3 (-1) 0 it0 (-1) 0 it1 (-1) 0 it2 (-1) 0 it3) H := hP
                  have hD : va_D A (zX k q 0 (-1) 12 100 0 (fun _ => 0) 0 0 ar1 ar2 ar3 ar4 ar5 oar6_30 ar7 ph pp py wy (lN (j / Nat.gcd j 100)) (lN (100 / Nat.gcd j 100)) cm0 ia0 0 0 ih0 in0 il0 tx0 sh0 cm1 ia1 0 0 ih1 in1 il1 tx1 sh1 cm2 ia2 0 0 ih2 in2 il2 tx2 sh2 cm3 ia3 0 0 ih3 in3 il3 tx3 sh3 (-1) 0 it0 (-1) 0 it1 (-1) 0 it2 (-1) 0 it3) := hD
                  refine lv_aload_n hx hb dX6_has_94 rfl (lv_at hl 2 rfl) ?_
                  refine va_get (D := (dC, dI)) (ci := 6) (v := .ref (q 15)) (C := RX6) (T := TX6) (N := 12) hx hb hts hi6 hown hK.1 hP 0 rfl rfl 6 (by decide) (hts _ wmt1_176) (fun _ h9 => h9) rfl dX6_has_95 ?_
                  refine lv_iload_n hx hb dX6_has_98 rfl (lv_at hl 5 rfl) ?_
                  refine zcS_l (w := (zX k q 0 (-1) 12 100 0 (fun _ => 0) 0 0 ar1 ar2 ar3 ar4 ar5 oar6_30 ar7 ph pp py wy (lN (j / Nat.gcd j 100)) (lN (100 / Nat.gcd j 100)) cm0 ia0 0 0 ih0 in0 il0 tx0 sh0 cm1 ia1 0 0 ih1 in1 il1 tx1 sh1 cm2 ia2 0 0 ih2 in2 il2 tx2 sh2 cm3 ia3 0 0 ih3 in3 il3 tx3 sh3 (-1) 0 it0 (-1) 0 it1 (-1) 0 it2 (-1) 0 it3)) (wc := (zFra k (q 15) (lN (j / Nat.gcd j 100)) (lN (100 / Nat.gcd j 100)))) (va_runV (As := [.int w]) (rest := []) ⟨hx, hb, hml, hown, hts⟩ (c_X2_told l dC dI k (zTX k) (q 15) (lN (j / Nat.gcd j 100)) (lN (100 / Nat.gcd j 100)) w _ ) (cwV 1 hts (gzV wmt2_61 wmt2_62 wmt2_63 wmt1_5 wmt2_64) rfl rfl rfl (by decide +kernel) ⟨Nat.le_of_ble_eq_true rfl, Nat.le_of_ble_eq_true rfl⟩) (zp_V (ci := 2) (q0 := 15) hK hP hD [15] rfl rfl rfl rfl) rfl rfl hl.1 rfl (lv_room (Nat.le_of_ble_eq_true rfl)) dX6_has_99 ⟨Nat.le_of_ble_eq_true rfl, Nat.le_of_ble_eq_true rfl⟩) hP hD hS hA [15] rfl (fun _ => rfl) (fun r_39 u_40 H locs w_41 hP hD hS => ?_)
                  have hP : va_P (dC, dI) vwCl (zX k q 0 (-1) 12 100 0 (fun _ => 0) 0 0 ar1 ar2 ar3 ar4 ar5 oar6_30 ar7 ph pp py wy (lN (j / Nat.gcd j 100)) (lN (100 / Nat.gcd j 100)) cm0 ia0 0 0 ih0 in0 il0 tx0 sh0 cm1 ia1 0 0 ih1 in1 il1 tx1 sh1 cm2 ia2 0 0 ih2 in2 il2 tx2 sh2 cm3 ia3 0 0 ih3 in3 il3 tx3 sh3 (-1) 0 it0 (-1) 0 it1 (-1) 0 it2 (-1) 0 it3) H := hP
                  have hD : va_D A (zX k q 0 (-1) 12 100 0 (fun _ => 0) 0 0 ar1 ar2 ar3 ar4 ar5 oar6_30 ar7 ph pp py wy (lN (j / Nat.gcd j 100)) (lN (100 / Nat.gcd j 100)) cm0 ia0 0 0 ih0 in0 il0 tx0 sh0 cm1 ia1 0 0 ih1 in1 il1 tx1 sh1 cm2 ia2 0 0 ih2 in2 il2 tx2 sh2 cm3 ia3 0 0 ih3 in3 il3 tx3 sh3 (-1) 0 it0 (-1) 0 it1 (-1) 0 it2 (-1) 0 it3) := hD
                  have e_42 := w_41
                  replace e_42 : r_39 = if w = 0 then (lN (j / Nat.gcd j 100)) else (lN (100 / Nat.gcd j 100)) := e_42
                  subst e_42
                  exact W.lret (v := (if w = 0 then (lN (j / Nat.gcd j 100)) else (lN (100 / Nat.gcd j 100)))) hx hb hr (fun t ht hW => ⟨⟨(if w = 0 then (lN (j / Nat.gcd j 100)) else (lN (100 / Nat.gcd j 100))), (0, oar6_30, (lN (j / Nat.gcd j 100)), (lN (100 / Nat.gcd j 100))), rfl, (by rw [if_pos (show _ ∧ _ ∧ _ from ⟨by assumption, ⟨by assumption, by assumption⟩, by assumption⟩), zHas, nI_clamp (by omega)]), ⟨by rw [ht]; exact hP, hD⟩⟩, hS.F ht⟩) hS.2.2 dX6_has_102
                · skip
                  exact absurd (by decide) c_33
              · skip
                exact absurd c_32 (by decide)
            · skip
              exact absurd c_26 (by decide)
          · skip
            replace e_25 : r_19 = 0 := e_25
            subst e_25
            replace h_24 : ¬ (0 ≤ (w : Int32) ∧ (w : Int32) ≤ 1) := h_24
            refine lv_if_ne (tgt := 31) hx hb dX6_has_22 (by decide) (fun c_43 => ?_) (fun c_43 => ?_)
            · skip
              exact absurd c_43 (by decide)
            · skip
              refine lv_bipush (v := (-2)) hx hb dX6_has_25 (by decide) ?_
              refine zc0_l (w := (zX k q 0 (-1) 12 100 0 (fun _ => 0) aps 0 ar1 ar2 ar3 ar4 ar5 ar6 ar7 ph pp py wy fa fb cm0 ia0 0 0 ih0 in0 il0 tx0 sh0 cm1 ia1 0 0 ih1 in1 il1 tx1 sh1 cm2 ia2 0 0 ih2 in2 il2 tx2 sh2 cm3 ia3 0 0 ih3 in3 il3 tx3 sh3 (-1) 0 it0 (-1) 0 it1 (-1) 0 it2 (-1) 0 it3)) (va_runS (As := [.int (-2)]) (rest := []) ⟨hx, hb, hml, hown, hts⟩ (c_X6_asLong_2 l dC dI k (zTX k)  _ ) (va_cwS 1 hts (gzS wmt2_51 wmt2_52 wmt1_1 wmt2_53) rfl rfl rfl (by decide +kernel) ⟨Nat.le_of_ble_eq_true rfl, Nat.le_of_ble_eq_true rfl⟩) (zp0_S hK) rfl rfl hl.1 rfl (lv_room (Nat.le_of_ble_eq_true rfl)) dX6_has_27 ⟨Nat.le_of_ble_eq_true rfl, Nat.le_of_ble_eq_true rfl⟩) hP hS hA (fun r_44 u_45 H locs w_46 hP hS => ?_)
              have e_47 := w_46
              replace e_47 : r_44 = (-9223372036854775806) := e_47
              subst e_47
              exact W.lret (v := (-9223372036854775806)) hx hb hr (fun t ht hW => ⟨⟨(-9223372036854775806), (aps, ar6, fa, fb), rfl, (by first | assumption | with_reducible rfl | contradiction | exact (if_pos (by repeat' (first | assumption | decide | constructor))).symm | exact (if_neg (fun hh => absurd hh (by assumption))).symm | exact (if_neg (fun hh => absurd hh.1 (by assumption))).symm | exact (if_neg (fun hh => absurd hh.1.1 (by assumption))).symm | exact (if_neg (fun hh => absurd hh.1.2 (by assumption))).symm | exact (if_neg (fun hh => absurd hh.2 (by assumption))).symm | exact (if_neg (fun hh => absurd hh.2.1 (by assumption))).symm | exact (if_neg (fun hh => absurd hh.2.1.1 (by assumption))).symm | exact (if_neg (fun hh => absurd hh.2.1.2 (by assumption))).symm | exact (if_neg (fun hh => absurd hh.2.2 (by assumption))).symm | exact (if_neg (fun hh => absurd hh.2.2.1 (by assumption))).symm | exact (if_neg (fun hh => absurd hh.2.2.2 (by assumption))).symm | decide | (exfalso; simp only [zi_le, zi_lt, zi_eq, zi_n0, zi_n1, zi_n2, zi_n3, zi_n4, zi_n23, zi_n24, zi_n100, zi_n399, zi_n60, zi_n255, zi_n99, zi_nm1, zi_n30] at *; omega) | (simp_all; done)), ⟨by rw [ht]; exact hP, hD⟩⟩, hS.F ht⟩) hS.2.2 dX6_has_30
  · skip
    replace e_7 : r_1 = 0 := e_7
    subst e_7
    replace h_6 : ¬ (0 ≤ (pe : Int32) ∧ (pe : Int32) ≤ 23) := h_6
    refine lv_if_eq (tgt := 25) hx hb dX6_has_4 (by decide) (fun c_48 => ?_) (fun c_48 => ?_)
    · skip
      refine lv_bipush (v := (-2)) hx hb dX6_has_25 (by decide) ?_
      refine zc0_l (w := (zX k q 0 (-1) 12 100 0 (fun _ => 0) aps 0 ar1 ar2 ar3 ar4 ar5 ar6 ar7 ph pp py wy fa fb cm0 ia0 0 0 ih0 in0 il0 tx0 sh0 cm1 ia1 0 0 ih1 in1 il1 tx1 sh1 cm2 ia2 0 0 ih2 in2 il2 tx2 sh2 cm3 ia3 0 0 ih3 in3 il3 tx3 sh3 (-1) 0 it0 (-1) 0 it1 (-1) 0 it2 (-1) 0 it3)) (va_runS (As := [.int (-2)]) (rest := []) ⟨hx, hb, hml, hown, hts⟩ (c_X6_asLong_2 l dC dI k (zTX k)  _ ) (va_cwS 1 hts (gzS wmt2_51 wmt2_52 wmt1_1 wmt2_53) rfl rfl rfl (by decide +kernel) ⟨Nat.le_of_ble_eq_true rfl, Nat.le_of_ble_eq_true rfl⟩) (zp0_S hK) rfl rfl hl.1 rfl (lv_room (Nat.le_of_ble_eq_true rfl)) dX6_has_27 ⟨Nat.le_of_ble_eq_true rfl, Nat.le_of_ble_eq_true rfl⟩) hP hS hA (fun r_49 u_50 H locs w_51 hP hS => ?_)
      have e_52 := w_51
      replace e_52 : r_49 = (-9223372036854775806) := e_52
      subst e_52
      exact W.lret (v := (-9223372036854775806)) hx hb hr (fun t ht hW => ⟨⟨(-9223372036854775806), (aps, ar6, fa, fb), rfl, (by first | assumption | with_reducible rfl | contradiction | exact (if_pos (by repeat' (first | assumption | decide | constructor))).symm | exact (if_neg (fun hh => absurd hh (by assumption))).symm | exact (if_neg (fun hh => absurd hh.1 (by assumption))).symm | exact (if_neg (fun hh => absurd hh.1.1 (by assumption))).symm | exact (if_neg (fun hh => absurd hh.1.2 (by assumption))).symm | exact (if_neg (fun hh => absurd hh.2 (by assumption))).symm | exact (if_neg (fun hh => absurd hh.2.1 (by assumption))).symm | exact (if_neg (fun hh => absurd hh.2.1.1 (by assumption))).symm | exact (if_neg (fun hh => absurd hh.2.1.2 (by assumption))).symm | exact (if_neg (fun hh => absurd hh.2.2 (by assumption))).symm | exact (if_neg (fun hh => absurd hh.2.2.1 (by assumption))).symm | exact (if_neg (fun hh => absurd hh.2.2.2 (by assumption))).symm | decide | (exfalso; simp only [zi_le, zi_lt, zi_eq, zi_n0, zi_n1, zi_n2, zi_n3, zi_n4, zi_n23, zi_n24, zi_n100, zi_n399, zi_n60, zi_n255, zi_n99, zi_nm1, zi_n30] at *; omega) | (simp_all; done)), ⟨by rw [ht]; exact hP, hD⟩⟩, hS.F ht⟩) hS.2.2 dX6_has_30
    · skip
      exact absurd (by decide) c_48
set_option maxHeartbeats 4000000 in
set_option maxRecDepth 100000 in
theorem c_X7_has (l : Launch) (dC : Nat → ClassId) (dI : Nat → Nat → Nat) (k : Nat → ClassId) (T : List (ClassId × FieldType)) (q : Nat → Nat) (j0 : Int64) (j1 : Int64) (r4 : Nat → Int32) (r6 : Nat → Int32) (i12 : Int32) (i13 : Int32) (i14 : Int32) (i15 : Int32) (i28 : Int32) (i29 : Int32) (j30 : Int64) (j31 : Int64) (j32 : Int64) (i33 : Int32) (r34 : Nat → Int32) (r40 : Nat → Int32) (i41 : Int32) (pe : Int32) (n : Int32) (w : Int32) (sz : Nat)  : Met l yX7_has (wz yX7_has cX7_has 5 (some .long)) ({ frames := 2, cells := 0, slots := 0, locals := 55 }) (va_Pc [.ref (q 0), .int pe, .int n, .int w] (zPre dC dI k T (zM k q j0 j1 (fun _ => 0) (fun _ => 0) r4 (fun _ => 0) r6 (fun _ => 0) (fun _ => 0) (fun _ => 0) (fun _ => 0) 12 i12 i13 i14 i15 (fun _ => 0) (fun _ => 0) (fun _ => 0) 0 (-1) (fun _ => 0) 0 (fun _ => 0) (fun _ => 0) (fun _ => 0) (fun _ => 0) (fun _ => 0) i28 i29 j30 j31 j32 i33 r34 100 (fun _ => 0) (fun _ => 0) (fun _ => 0) (fun _ => 0) r40 i41) sz)) (va_Ql (fun (r : Int64) (u : Int64 × Int64 × Int32 × (Nat → Int32)) => (r = if (0 ≤ (pe : Int32) ∧ (pe : Int32) ≤ 23) ∧ (1 ≤ n ∧ n ≤ 99) ∧ (0 ≤ (w : Int32) ∧ (w : Int32) ≤ 1) then zHas n w else (-9223372036854775806))) (fun u t => zPost dC dI (va_A (zM k q j0 j1 (fun _ => 0) (fun _ => 0) r4 (fun _ => 0) r6 (fun _ => 0) (fun _ => 0) (fun _ => 0) (fun _ => 0) 12 i12 i13 i14 i15 (fun _ => 0) (fun _ => 0) (fun _ => 0) 0 (-1) (fun _ => 0) 0 (fun _ => 0) (fun _ => 0) (fun _ => 0) (fun _ => 0) (fun _ => 0) i28 i29 j30 j31 j32 i33 r34 100 (fun _ => 0) (fun _ => 0) (fun _ => 0) (fun _ => 0) r40 i41) sz) (zM k q u.1 u.2.1 (fun _ => 0) (fun _ => 0) r4 (fun _ => 0) r6 (fun _ => 0) (fun _ => 0) (fun _ => 0) (fun _ => 0) 12 i12 i13 i14 i15 (fun _ => 0) (fun _ => 0) (fun _ => 0) 0 (-1) (fun _ => 0) 0 (fun _ => 0) (fun _ => 0) (fun _ => 0) (fun _ => 0) (fun _ => 0) i28 i29 j30 j31 j32 u.2.2.1 u.2.2.2 100 (fun _ => 0) (fun _ => 0) (fun _ => 0) (fun _ => 0) r40 i41) t) (va_A (zM k q j0 j1 (fun _ => 0) (fun _ => 0) r4 (fun _ => 0) r6 (fun _ => 0) (fun _ => 0) (fun _ => 0) (fun _ => 0) 12 i12 i13 i14 i15 (fun _ => 0) (fun _ => 0) (fun _ => 0) 0 (-1) (fun _ => 0) 0 (fun _ => 0) (fun _ => 0) (fun _ => 0) (fun _ => 0) (fun _ => 0) i28 i29 j30 j31 j32 i33 r34 100 (fun _ => 0) (fun _ => 0) (fun _ => 0) (fun _ => 0) r40 i41) sz)) 0 0 (va_A (zM k q j0 j1 (fun _ => 0) (fun _ => 0) r4 (fun _ => 0) r6 (fun _ => 0) (fun _ => 0) (fun _ => 0) (fun _ => 0) 12 i12 i13 i14 i15 (fun _ => 0) (fun _ => 0) (fun _ => 0) 0 (-1) (fun _ => 0) 0 (fun _ => 0) (fun _ => 0) (fun _ => 0) (fun _ => 0) (fun _ => 0) i28 i29 j30 j31 j32 i33 r34 100 (fun _ => 0) (fun _ => 0) (fun _ => 0) (fun _ => 0) r40 i41) sz) := by
  refine Met.ofW (cc := cX7_has) (maxL := 5) (ret := (some .long)) (by decide) rfl ?_
  intro p e s m args below meth c s₁ B hml hv
  obtain ⟨rfl, hsz, hP, hK, hD0⟩ := hv
  have hx := B.exec
  have hb := B.bytes
  have hr := B.returns
  have hts : ∀ w ∈ zw, w.before _ s = true := fun w h => atoms_spec (ws := (wz yX7_has cX7_has 5 (some .long))) B.pre w (List.mem_cons_of_mem _ h)
  have hown : s.vm.findClass RX7 = some m.cls := findClass_of_methodNamed B.named
  have hlocks := B.notSynchronized
  subst hsz
  have hi7 := inw7
  have hD := hD0.self (sz := s.heap.size)
  generalize hAe : va_A (zM k q j0 j1 (fun _ => 0) (fun _ => 0) r4 (fun _ => 0) r6 (fun _ => 0) (fun _ => 0) (fun _ => 0) (fun _ => 0) 12 i12 i13 i14 i15 (fun _ => 0) (fun _ => 0) (fun _ => 0) 0 (-1) (fun _ => 0) 0 (fun _ => 0) (fun _ => 0) (fun _ => 0) (fun _ => 0) (fun _ => 0) i28 i29 j30 j31 j32 i33 r34 100 (fun _ => 0) (fun _ => 0) (fun _ => 0) (fun _ => 0) r40 i41) s.heap.size = A at hD ⊢
  have hA : ∀ q : Nat, s.heap.size ≤ q → A q := fun q h => by rw [← hAe]; exact Or.inr h
  have hl := lv_entry ([.ref (q 0), .int pe, .int n, .int w]) (n := 5) (Nat.le_of_ble_eq_true rfl)
  rw [lg_entry_eq]
  generalize (lg_sl ([.ref (q 0), .int pe, .int n, .int w]) ++ List.replicate (5 - (lg_sl ([.ref (q 0), .int pe, .int n, .int w])).length) Slot.unset).toArray = ls at hl ⊢
  have hl : lv_has ls 5 [(0, .ref (q 0)), (1, .int pe), (2, .int n), (3, .int w)] := hl
  refine z_start (w := (zM k q j0 j1 (fun _ => 0) (fun _ => 0) r4 (fun _ => 0) r6 (fun _ => 0) (fun _ => 0) (fun _ => 0) (fun _ => 0) 12 i12 i13 i14 i15 (fun _ => 0) (fun _ => 0) (fun _ => 0) 0 (-1) (fun _ => 0) 0 (fun _ => 0) (fun _ => 0) (fun _ => 0) (fun _ => 0) (fun _ => 0) i28 i29 j30 j31 j32 i33 r34 100 (fun _ => 0) (fun _ => 0) (fun _ => 0) (fun _ => 0) r40 i41)) hP hD (fun H locs hP hD hS => ?_)
  refine lv_iload_n hx hb dX7_has_0 rfl (lv_at hl 1 rfl) ?_
  refine zc0_i (w := (zM k q j0 j1 (fun _ => 0) (fun _ => 0) r4 (fun _ => 0) r6 (fun _ => 0) (fun _ => 0) (fun _ => 0) (fun _ => 0) 12 i12 i13 i14 i15 (fun _ => 0) (fun _ => 0) (fun _ => 0) 0 (-1) (fun _ => 0) 0 (fun _ => 0) (fun _ => 0) (fun _ => 0) (fun _ => 0) (fun _ => 0) i28 i29 j30 j31 j32 i33 r34 100 (fun _ => 0) (fun _ => 0) (fun _ => 0) (fun _ => 0) r40 i41)) (va_runS (As := [.int pe]) (rest := []) ⟨hx, hb, hml, hown, hts⟩ (c_X7_isPerson l dC dI k T pe _ ) (va_cwS 1 hts (gzS wmt4_153 wmt4_154 wmt1_8 wmt4_155) rfl rfl rfl (by decide +kernel) ⟨Nat.le_of_ble_eq_true rfl, Nat.le_of_ble_eq_true rfl⟩) (zp0_S hK) rfl rfl hl.1 rfl (lv_room (Nat.le_of_ble_eq_true rfl)) dX7_has_1 ⟨Nat.le_of_ble_eq_true rfl, Nat.le_of_ble_eq_true rfl⟩) hP hS hA (fun r_1 u_2 H locs w_3 hP hS => ?_)
  rcases w_3 with ⟨e_5, h_4⟩ | ⟨e_7, h_6⟩
  · skip
    replace e_5 : r_1 = 1 := e_5
    subst e_5
    replace h_4 : 0 ≤ (pe : Int32) ∧ (pe : Int32) ≤ 23 := h_4
    refine lv_if_eq (tgt := 26) hx hb dX7_has_4 (by decide) (fun c_8 => ?_) (fun c_8 => ?_)
    · skip
      exact absurd c_8 (by decide)
    · skip
      refine lv_iload_n hx hb dX7_has_7 rfl (lv_at hl 2 rfl) ?_
      refine lv_iconst (v := 1) hx hb dX7_has_8 (by decide) ?_
      refine lv_bipush (v := 99) hx hb dX7_has_9 (by decide) ?_
      refine zc0_i (w := (zM k q j0 j1 (fun _ => 0) (fun _ => 0) r4 (fun _ => 0) r6 (fun _ => 0) (fun _ => 0) (fun _ => 0) (fun _ => 0) 12 i12 i13 i14 i15 (fun _ => 0) (fun _ => 0) (fun _ => 0) 0 (-1) (fun _ => 0) 0 (fun _ => 0) (fun _ => 0) (fun _ => 0) (fun _ => 0) (fun _ => 0) i28 i29 j30 j31 j32 i33 r34 100 (fun _ => 0) (fun _ => 0) (fun _ => 0) (fun _ => 0) r40 i41)) (va_runS (As := [.int n, .int 1, .int 99]) (rest := []) ⟨hx, hb, hml, hown, hts⟩ (c_X7_in l dC dI k T n 1 99 _ ) (va_cwS 3 hts (gzS wmt4_62 wmt4_63 wmt1_8 wmt4_64) rfl rfl rfl (by decide +kernel) ⟨Nat.le_of_ble_eq_true rfl, Nat.le_of_ble_eq_true rfl⟩) (zp0_S hK) rfl rfl hl.1 rfl (lv_room (Nat.le_of_ble_eq_true rfl)) dX7_has_11 ⟨Nat.le_of_ble_eq_true rfl, Nat.le_of_ble_eq_true rfl⟩) hP hS hA (fun r_9 u_10 H locs w_11 hP hS => ?_)
      rcases w_11 with ⟨e_13, h_12⟩ | ⟨e_15, h_14⟩
      · skip
        replace e_13 : r_9 = 1 := e_13
        subst e_13
        replace h_12 : 1 ≤ n ∧ n ≤ 99 := h_12
        refine lv_if_eq (tgt := 26) hx hb dX7_has_14 (by decide) (fun c_16 => ?_) (fun c_16 => ?_)
        · skip
          exact absurd c_16 (by decide)
        · skip
          refine lv_iload_n hx hb dX7_has_17 rfl (lv_at hl 3 rfl) ?_
          refine lv_iconst (v := 0) hx hb dX7_has_18 (by decide) ?_
          refine lv_iconst (v := 1) hx hb dX7_has_19 (by decide) ?_
          refine zc0_i (w := (zM k q j0 j1 (fun _ => 0) (fun _ => 0) r4 (fun _ => 0) r6 (fun _ => 0) (fun _ => 0) (fun _ => 0) (fun _ => 0) 12 i12 i13 i14 i15 (fun _ => 0) (fun _ => 0) (fun _ => 0) 0 (-1) (fun _ => 0) 0 (fun _ => 0) (fun _ => 0) (fun _ => 0) (fun _ => 0) (fun _ => 0) i28 i29 j30 j31 j32 i33 r34 100 (fun _ => 0) (fun _ => 0) (fun _ => 0) (fun _ => 0) r40 i41)) (va_runS (As := [.int w, .int 0, .int 1]) (rest := []) ⟨hx, hb, hml, hown, hts⟩ (c_X7_in l dC dI k T w 0 1 _ ) (va_cwS 3 hts (gzS wmt4_62 wmt4_63 wmt1_8 wmt4_64) rfl rfl rfl (by decide +kernel) ⟨Nat.le_of_ble_eq_true rfl, Nat.le_of_ble_eq_true rfl⟩) (zp0_S hK) rfl rfl hl.1 rfl (lv_room (Nat.le_of_ble_eq_true rfl)) dX7_has_20 ⟨Nat.le_of_ble_eq_true rfl, Nat.le_of_ble_eq_true rfl⟩) hP hS hA (fun r_17 u_18 H locs w_19 hP hS => ?_)
          rcases w_19 with ⟨e_21, h_20⟩ | ⟨e_23, h_22⟩
          · skip
            replace e_21 : r_17 = 1 := e_21
            subst e_21
            replace h_20 : 0 ≤ w ∧ w ≤ 1 := h_20
            refine lv_if_ne (tgt := 32) hx hb dX7_has_23 (by decide) (fun c_24 => ?_) (fun c_24 => ?_)
            · skip
              refine lv_aload_n hx hb dX7_has_32 rfl (lv_at hl 0 rfl) ?_
              refine lv_iload_n hx hb dX7_has_33 rfl (lv_at hl 1 rfl) ?_
              refine zcA_i (w := (zM k q j0 j1 (fun _ => 0) (fun _ => 0) r4 (fun _ => 0) r6 (fun _ => 0) (fun _ => 0) (fun _ => 0) (fun _ => 0) 12 i12 i13 i14 i15 (fun _ => 0) (fun _ => 0) (fun _ => 0) 0 (-1) (fun _ => 0) 0 (fun _ => 0) (fun _ => 0) (fun _ => 0) (fun _ => 0) (fun _ => 0) i28 i29 j30 j31 j32 i33 r34 100 (fun _ => 0) (fun _ => 0) (fun _ => 0) (fun _ => 0) r40 i41)) (va_runV (As := [.int pe]) (rest := []) ⟨hx, hb, hml, hown, hts⟩ (c_X7_givenOf l dC dI k T q j0 j1 r4 r6 i12 i13 i14 i15 i28 i29 j30 j31 j32 i33 r34 r40 i41 pe _ ) (cwV 1 hts (gzV wmt5_44 wmt5_46 wmp4_0 wmt1_8 wmt5_47) rfl rfl rfl (by decide +kernel) ⟨Nat.le_of_ble_eq_true rfl, Nat.le_of_ble_eq_true rfl⟩) (zpA_V (ci := 7) (q0 := 0) hK hP hD rfl rfl) rfl rfl hl.1 rfl (lv_room (Nat.le_of_ble_eq_true rfl)) dX7_has_34 ⟨Nat.le_of_ble_eq_true rfl, Nat.le_of_ble_eq_true rfl⟩) hD hS hA (fun r_25 u_26 H locs w_27 hP hD hS => ?_)
              obtain ⟨or34_28, rfl⟩ : ∃ z, z = u_26 := ⟨_, rfl⟩
              have hP : va_P (dC, dI) vwCl (zM k q 1 1 (fun _ => 0) (fun _ => 0) r4 (fun _ => 0) r6 (fun _ => 0) (fun _ => 0) (fun _ => 0) (fun _ => 0) 12 i12 i13 i14 i15 (fun _ => 0) (fun _ => 0) (fun _ => 0) 0 (-1) (fun _ => 0) 0 (fun _ => 0) (fun _ => 0) (fun _ => 0) (fun _ => 0) (fun _ => 0) i28 i29 j30 j31 j32 0 or34_28 100 (fun _ => 0) (fun _ => 0) (fun _ => 0) (fun _ => 0) r40 i41) H := hP
              have hD : va_D A (zM k q 1 1 (fun _ => 0) (fun _ => 0) r4 (fun _ => 0) r6 (fun _ => 0) (fun _ => 0) (fun _ => 0) (fun _ => 0) 12 i12 i13 i14 i15 (fun _ => 0) (fun _ => 0) (fun _ => 0) 0 (-1) (fun _ => 0) 0 (fun _ => 0) (fun _ => 0) (fun _ => 0) (fun _ => 0) (fun _ => 0) i28 i29 j30 j31 j32 0 or34_28 100 (fun _ => 0) (fun _ => 0) (fun _ => 0) (fun _ => 0) r40 i41) := hD
              have e_29 := w_27
              replace e_29 : r_25 = 0 := e_29
              subst e_29
              refine lv_istore (lv' := [(4, .int 0), (0, .ref (q 0)), (1, .int pe), (2, .int n), (3, .int w)]) hx hb dX7_has_37 hl (by decide) rfl (fun ls hl => ?_)
              refine lv_iload hx hb dX7_has_39 (lv_at hl 0 rfl) ?_
              refine lv_bipush (v := (-3)) hx hb dX7_has_41 (by decide) ?_
              refine lv_icmp_ne (tgt := 55) hx hb dX7_has_43 (by decide) (fun c_30 => ?_) (fun c_30 => ?_)
              · skip
                refine lv_iload hx hb dX7_has_55 (lv_at hl 0 rfl) ?_
                refine lv_if_eq (tgt := 66) hx hb dX7_has_57 (by decide) (fun c_31 => ?_) (fun c_31 => ?_)
                · skip
                  obtain ⟨j, hj0, hj1, rfl⟩ : ∃ j : Nat, 1 ≤ j ∧ j ≤ 99 ∧ n = nI j := z_of99 (And.left (a := 1 ≤ n) (b := n ≤ 99) (by assumption)) (And.right (a := 1 ≤ n) (b := n ≤ 99) (by assumption))
                  refine lv_aload_n hx hb dX7_has_66 rfl (lv_at hl 1 rfl) ?_
                  refine lv_iload_n hx hb dX7_has_67 rfl (lv_at hl 3 rfl) ?_
                  refine lv_i2l (v := (nI j).toInt64) hx hb dX7_has_68 rfl ?_
                  refine z_top (v2 := .long (lN j)) (congrArg Value.long (nI_l (by omega))) ?_
                  refine lv_aload_n hx hb dX7_has_69 rfl (lv_at hl 1 rfl) ?_
                  refine va_get (D := (dC, dI)) (ci := 7) (v := .long 1) (C := RX7) (T := TX7) (N := 42) hx hb hts hi7 hown hK.1 hP 0 rfl rfl 0 (by decide) (hts _ wmt3_167) (fun _ h9 => h9) rfl dX7_has_70 ?_
                  refine lv_lmul hx hb dX7_has_73 ?_
                  refine z_top (v2 := .long (lN j)) (congrArg Value.long (Int64.mul_one (lN j))) ?_
                  refine lv_iload_n hx hb dX7_has_74 rfl (lv_at hl 3 rfl) ?_
                  refine lv_i2l (v := (nI j).toInt64) hx hb dX7_has_75 rfl ?_
                  refine z_top (v2 := .long (lN j)) (congrArg Value.long (nI_l (by omega))) ?_
                  refine lv_aload_n hx hb dX7_has_76 rfl (lv_at hl 1 rfl) ?_
                  refine va_get (D := (dC, dI)) (ci := 7) (v := .long 1) (C := RX7) (T := TX7) (N := 42) hx hb hts hi7 hown hK.1 hP 0 rfl rfl 0 (by decide) (hts _ wmt3_167) (fun _ h9 => h9) rfl dX7_has_77 ?_
                  refine lv_lmul hx hb dX7_has_80 ?_
                  refine z_top (v2 := .long (lN j)) (congrArg Value.long (Int64.mul_one (lN j))) ?_
                  refine lv_ldc2 (v := 100) hx hb hown (hts _ wmt5_15) dX7_has_81 ?_
                  refine lv_iload_n hx hb dX7_has_84 rfl (lv_at hl 3 rfl) ?_
                  refine lv_i2l (v := (nI j).toInt64) hx hb dX7_has_85 rfl ?_
                  refine z_top (v2 := .long (lN j)) (congrArg Value.long (nI_l (by omega))) ?_
                  refine lv_lsub hx hb dX7_has_86 ?_
                  refine lv_topl (fun x_32 ex_32 => ?_)
                  refine z_top (v2 := .long (lN (100 - j))) (congrArg Value.long (by rw [ex_32]; exact z_100L hj1)) ?_
                  refine lv_aload_n hx hb dX7_has_87 rfl (lv_at hl 1 rfl) ?_
                  refine va_get (D := (dC, dI)) (ci := 7) (v := .long 1) (C := RX7) (T := TX7) (N := 42) hx hb hts hi7 hown hK.1 hP 0 rfl rfl 1 (by decide) (hts _ wmt3_168) (fun _ h9 => h9) rfl dX7_has_88 ?_
                  refine lv_lmul hx hb dX7_has_91 ?_
                  refine z_top (v2 := .long (lN (100 - j))) (congrArg Value.long (Int64.mul_one (lN (100 - j)))) ?_
                  refine lv_ladd hx hb dX7_has_92 ?_
                  refine lv_topl (fun x_33 ex_33 => ?_)
                  refine z_top (v2 := .long (lN 100)) (congrArg Value.long (by rw [ex_33, lN_add, show j + (100 - j) = 100 by omega])) ?_
                  refine zcA_v (w := (zM k q 1 1 (fun _ => 0) (fun _ => 0) r4 (fun _ => 0) r6 (fun _ => 0) (fun _ => 0) (fun _ => 0) (fun _ => 0) 12 i12 i13 i14 i15 (fun _ => 0) (fun _ => 0) (fun _ => 0) 0 (-1) (fun _ => 0) 0 (fun _ => 0) (fun _ => 0) (fun _ => 0) (fun _ => 0) (fun _ => 0) i28 i29 j30 j31 j32 0 or34_28 100 (fun _ => 0) (fun _ => 0) (fun _ => 0) (fun _ => 0) r40 i41)) (va_runV (As := [.long (lN j), .long (lN 100)]) (rest := []) ⟨hx, hb, hml, hown, hts⟩ (c_X7_is l dC dI k T q 1 1 r4 r6 i12 i13 i14 i15 i28 i29 j30 j31 j32 0 or34_28 r40 i41 j 100 _ (by omega) (by decide) (by decide)) (cwV 2 hts (gzV wmt4_129 wmt4_131 wmp3_0 wmt1_8 wmt4_132) rfl rfl rfl (by decide +kernel) ⟨Nat.le_of_ble_eq_true rfl, Nat.le_of_ble_eq_true rfl⟩) (zpA_V (ci := 7) (q0 := 0) hK hP hD rfl rfl) rfl rfl hl.1 rfl (lv_room (Nat.le_of_ble_eq_true rfl)) dX7_has_93 ⟨Nat.le_of_ble_eq_true rfl, Nat.le_of_ble_eq_true rfl⟩) hD hS hA (fun u_35 H locs w_36 hP hD hS => ?_)
                  have hP : va_P (dC, dI) vwCl (zM k q (lN (j / Nat.gcd j 100)) (lN (100 / Nat.gcd j 100)) (fun _ => 0) (fun _ => 0) r4 (fun _ => 0) r6 (fun _ => 0) (fun _ => 0) (fun _ => 0) (fun _ => 0) 12 i12 i13 i14 i15 (fun _ => 0) (fun _ => 0) (fun _ => 0) 0 (-1) (fun _ => 0) 0 (fun _ => 0) (fun _ => 0) (fun _ => 0) (fun _ => 0) (fun _ => 0) i28 i29 j30 j31 j32 0 or34_28 100 (fun _ => 0) (fun _ => 0) (fun _ => 0) (fun _ => 0) r40 i41) H := hP
                  have hD : va_D A (zM k q (lN (j / Nat.gcd j 100)) (lN (100 / Nat.gcd j 100)) (fun _ => 0) (fun _ => 0) r4 (fun _ => 0) r6 (fun _ => 0) (fun _ => 0) (fun _ => 0) (fun _ => 0) 12 i12 i13 i14 i15 (fun _ => 0) (fun _ => 0) (fun _ => 0) 0 (-1) (fun _ => 0) 0 (fun _ => 0) (fun _ => 0) (fun _ => 0) (fun _ => 0) (fun _ => 0) i28 i29 j30 j31 j32 0 or34_28 100 (fun _ => 0) (fun _ => 0) (fun _ => 0) (fun _ => 0) r40 i41) := hD
                  refine lv_aload_n hx hb dX7_has_96 rfl (lv_at hl 1 rfl) ?_
                  refine lv_iload_n hx hb dX7_has_97 rfl (lv_at hl 4 rfl) ?_
                  refine zcA_l (w := (zM k q (lN (j / Nat.gcd j 100)) (lN (100 / Nat.gcd j 100)) (fun _ => 0) (fun _ => 0) r4 (fun _ => 0) r6 (fun _ => 0) (fun _ => 0) (fun _ => 0) (fun _ => 0) 12 i12 i13 i14 i15 (fun _ => 0) (fun _ => 0) (fun _ => 0) 0 (-1) (fun _ => 0) 0 (fun _ => 0) (fun _ => 0) (fun _ => 0) (fun _ => 0) (fun _ => 0) i28 i29 j30 j31 j32 0 or34_28 100 (fun _ => 0) (fun _ => 0) (fun _ => 0) (fun _ => 0) r40 i41)) (va_runV (As := [.int w]) (rest := []) ⟨hx, hb, hml, hown, hts⟩ (c_X7_part l dC dI k T q (lN (j / Nat.gcd j 100)) (lN (100 / Nat.gcd j 100)) r4 r6 i12 i13 i14 i15 i28 i29 j30 j31 j32 0 or34_28 r40 i41 w _ ) (cwV 1 hts (gzV wmt4_133 wmt4_135 wmp3_1 wmt1_8 wmt4_136) rfl rfl rfl (by decide +kernel) ⟨Nat.le_of_ble_eq_true rfl, Nat.le_of_ble_eq_true rfl⟩) (zpA_V (ci := 7) (q0 := 0) hK hP hD rfl rfl) rfl rfl hl.1 rfl (lv_room (Nat.le_of_ble_eq_true rfl)) dX7_has_98 ⟨Nat.le_of_ble_eq_true rfl, Nat.le_of_ble_eq_true rfl⟩) hD hS hA (fun r_37 u_38 H locs w_39 hP hD hS => ?_)
                  have hP : va_P (dC, dI) vwCl (zM k q (lN (j / Nat.gcd j 100)) (lN (100 / Nat.gcd j 100)) (fun _ => 0) (fun _ => 0) r4 (fun _ => 0) r6 (fun _ => 0) (fun _ => 0) (fun _ => 0) (fun _ => 0) 12 i12 i13 i14 i15 (fun _ => 0) (fun _ => 0) (fun _ => 0) 0 (-1) (fun _ => 0) 0 (fun _ => 0) (fun _ => 0) (fun _ => 0) (fun _ => 0) (fun _ => 0) i28 i29 j30 j31 j32 0 or34_28 100 (fun _ => 0) (fun _ => 0) (fun _ => 0) (fun _ => 0) r40 i41) H := hP
                  have hD : va_D A (zM k q (lN (j / Nat.gcd j 100)) (lN (100 / Nat.gcd j 100)) (fun _ => 0) (fun _ => 0) r4 (fun _ => 0) r6 (fun _ => 0) (fun _ => 0) (fun _ => 0) (fun _ => 0) 12 i12 i13 i14 i15 (fun _ => 0) (fun _ => 0) (fun _ => 0) 0 (-1) (fun _ => 0) 0 (fun _ => 0) (fun _ => 0) (fun _ => 0) (fun _ => 0) (fun _ => 0) i28 i29 j30 j31 j32 0 or34_28 100 (fun _ => 0) (fun _ => 0) (fun _ => 0) (fun _ => 0) r40 i41) := hD
                  have e_40 := w_39
                  replace e_40 : r_37 = if w = 0 then (lN (j / Nat.gcd j 100)) else (lN (100 / Nat.gcd j 100)) := e_40
                  subst e_40
                  exact W.lret (v := (if w = 0 then (lN (j / Nat.gcd j 100)) else (lN (100 / Nat.gcd j 100)))) hx hb hr (fun t ht hW => ⟨⟨(if w = 0 then (lN (j / Nat.gcd j 100)) else (lN (100 / Nat.gcd j 100))), ((lN (j / Nat.gcd j 100)), (lN (100 / Nat.gcd j 100)), 0, or34_28), rfl, (by rw [if_pos (show _ ∧ _ ∧ _ from ⟨by assumption, by assumption, by assumption⟩), zHas, nI_clamp (by omega)]), ⟨by rw [ht]; exact hP, hD⟩⟩, hS.F ht⟩) hS.2.2 dX7_has_101
                · skip
                  exact absurd (by decide) c_31
              · skip
                exact absurd c_30 (by decide)
            · skip
              exact absurd c_24 (by decide)
          · skip
            replace e_23 : r_17 = 0 := e_23
            subst e_23
            replace h_22 : ¬ (0 ≤ w ∧ w ≤ 1) := h_22
            refine lv_if_ne (tgt := 32) hx hb dX7_has_23 (by decide) (fun c_41 => ?_) (fun c_41 => ?_)
            · skip
              exact absurd c_41 (by decide)
            · skip
              refine lv_bipush (v := (-2)) hx hb dX7_has_26 (by decide) ?_
              refine zc0_l (w := (zM k q j0 j1 (fun _ => 0) (fun _ => 0) r4 (fun _ => 0) r6 (fun _ => 0) (fun _ => 0) (fun _ => 0) (fun _ => 0) 12 i12 i13 i14 i15 (fun _ => 0) (fun _ => 0) (fun _ => 0) 0 (-1) (fun _ => 0) 0 (fun _ => 0) (fun _ => 0) (fun _ => 0) (fun _ => 0) (fun _ => 0) i28 i29 j30 j31 j32 i33 r34 100 (fun _ => 0) (fun _ => 0) (fun _ => 0) (fun _ => 0) r40 i41)) (va_runS (As := [.int (-2)]) (rest := []) ⟨hx, hb, hml, hown, hts⟩ (c_X7_told_2 l dC dI k T  _ ) (va_cwS 1 hts (gzS wmt4_116 wmt4_117 wmt1_8 wmt4_118) rfl rfl rfl (by decide +kernel) ⟨Nat.le_of_ble_eq_true rfl, Nat.le_of_ble_eq_true rfl⟩) (zp0_S hK) rfl rfl hl.1 rfl (lv_room (Nat.le_of_ble_eq_true rfl)) dX7_has_28 ⟨Nat.le_of_ble_eq_true rfl, Nat.le_of_ble_eq_true rfl⟩) hP hS hA (fun r_42 u_43 H locs w_44 hP hS => ?_)
              have e_45 := w_44
              replace e_45 : r_42 = (-9223372036854775806) := e_45
              subst e_45
              exact W.lret (v := (-9223372036854775806)) hx hb hr (fun t ht hW => ⟨⟨(-9223372036854775806), (j0, j1, i33, r34), rfl, (by first | assumption | with_reducible rfl | contradiction | exact (if_pos (by repeat' (first | assumption | decide | constructor))).symm | exact (if_neg (fun hh => absurd hh (by assumption))).symm | exact (if_neg (fun hh => absurd hh.1 (by assumption))).symm | exact (if_neg (fun hh => absurd hh.1.1 (by assumption))).symm | exact (if_neg (fun hh => absurd hh.1.2 (by assumption))).symm | exact (if_neg (fun hh => absurd hh.2 (by assumption))).symm | exact (if_neg (fun hh => absurd hh.2.1 (by assumption))).symm | exact (if_neg (fun hh => absurd hh.2.1.1 (by assumption))).symm | exact (if_neg (fun hh => absurd hh.2.1.2 (by assumption))).symm | exact (if_neg (fun hh => absurd hh.2.2 (by assumption))).symm | exact (if_neg (fun hh => absurd hh.2.2.1 (by assumption))).symm | exact (if_neg (fun hh => absurd hh.2.2.2 (by assumption))).symm | decide | (exfalso; simp only [zi_le, zi_lt, zi_eq, zi_n0, zi_n1, zi_n2, zi_n3, zi_n4, zi_n23, zi_n24, zi_n100, zi_n399, zi_n60, zi_n255, zi_n99, zi_nm1, zi_n30] at *; omega) | (simp_all; done)), ⟨by rw [ht]; exact hP, hD⟩⟩, hS.F ht⟩) hS.2.2 dX7_has_31
      · skip
        replace e_15 : r_9 = 0 := e_15
        subst e_15
        replace h_14 : ¬ (1 ≤ n ∧ n ≤ 99) := h_14
        refine lv_if_eq (tgt := 26) hx hb dX7_has_14 (by decide) (fun c_46 => ?_) (fun c_46 => ?_)
        · skip
          refine lv_bipush (v := (-2)) hx hb dX7_has_26 (by decide) ?_
          refine zc0_l (w := (zM k q j0 j1 (fun _ => 0) (fun _ => 0) r4 (fun _ => 0) r6 (fun _ => 0) (fun _ => 0) (fun _ => 0) (fun _ => 0) 12 i12 i13 i14 i15 (fun _ => 0) (fun _ => 0) (fun _ => 0) 0 (-1) (fun _ => 0) 0 (fun _ => 0) (fun _ => 0) (fun _ => 0) (fun _ => 0) (fun _ => 0) i28 i29 j30 j31 j32 i33 r34 100 (fun _ => 0) (fun _ => 0) (fun _ => 0) (fun _ => 0) r40 i41)) (va_runS (As := [.int (-2)]) (rest := []) ⟨hx, hb, hml, hown, hts⟩ (c_X7_told_2 l dC dI k T  _ ) (va_cwS 1 hts (gzS wmt4_116 wmt4_117 wmt1_8 wmt4_118) rfl rfl rfl (by decide +kernel) ⟨Nat.le_of_ble_eq_true rfl, Nat.le_of_ble_eq_true rfl⟩) (zp0_S hK) rfl rfl hl.1 rfl (lv_room (Nat.le_of_ble_eq_true rfl)) dX7_has_28 ⟨Nat.le_of_ble_eq_true rfl, Nat.le_of_ble_eq_true rfl⟩) hP hS hA (fun r_47 u_48 H locs w_49 hP hS => ?_)
          have e_50 := w_49
          replace e_50 : r_47 = (-9223372036854775806) := e_50
          subst e_50
          exact W.lret (v := (-9223372036854775806)) hx hb hr (fun t ht hW => ⟨⟨(-9223372036854775806), (j0, j1, i33, r34), rfl, (by first | assumption | with_reducible rfl | contradiction | exact (if_pos (by repeat' (first | assumption | decide | constructor))).symm | exact (if_neg (fun hh => absurd hh (by assumption))).symm | exact (if_neg (fun hh => absurd hh.1 (by assumption))).symm | exact (if_neg (fun hh => absurd hh.1.1 (by assumption))).symm | exact (if_neg (fun hh => absurd hh.1.2 (by assumption))).symm | exact (if_neg (fun hh => absurd hh.2 (by assumption))).symm | exact (if_neg (fun hh => absurd hh.2.1 (by assumption))).symm | exact (if_neg (fun hh => absurd hh.2.1.1 (by assumption))).symm | exact (if_neg (fun hh => absurd hh.2.1.2 (by assumption))).symm | exact (if_neg (fun hh => absurd hh.2.2 (by assumption))).symm | exact (if_neg (fun hh => absurd hh.2.2.1 (by assumption))).symm | exact (if_neg (fun hh => absurd hh.2.2.2 (by assumption))).symm | decide | (exfalso; simp only [zi_le, zi_lt, zi_eq, zi_n0, zi_n1, zi_n2, zi_n3, zi_n4, zi_n23, zi_n24, zi_n100, zi_n399, zi_n60, zi_n255, zi_n99, zi_nm1, zi_n30] at *; omega) | (simp_all; done)), ⟨by rw [ht]; exact hP, hD⟩⟩, hS.F ht⟩) hS.2.2 dX7_has_31
        · skip
          exact absurd (by decide) c_46
  · skip
    replace e_7 : r_1 = 0 := e_7
    subst e_7
    replace h_6 : ¬ (0 ≤ (pe : Int32) ∧ (pe : Int32) ≤ 23) := h_6
    refine lv_if_eq (tgt := 26) hx hb dX7_has_4 (by decide) (fun c_51 => ?_) (fun c_51 => ?_)
    · skip
      refine lv_bipush (v := (-2)) hx hb dX7_has_26 (by decide) ?_
      refine zc0_l (w := (zM k q j0 j1 (fun _ => 0) (fun _ => 0) r4 (fun _ => 0) r6 (fun _ => 0) (fun _ => 0) (fun _ => 0) (fun _ => 0) 12 i12 i13 i14 i15 (fun _ => 0) (fun _ => 0) (fun _ => 0) 0 (-1) (fun _ => 0) 0 (fun _ => 0) (fun _ => 0) (fun _ => 0) (fun _ => 0) (fun _ => 0) i28 i29 j30 j31 j32 i33 r34 100 (fun _ => 0) (fun _ => 0) (fun _ => 0) (fun _ => 0) r40 i41)) (va_runS (As := [.int (-2)]) (rest := []) ⟨hx, hb, hml, hown, hts⟩ (c_X7_told_2 l dC dI k T  _ ) (va_cwS 1 hts (gzS wmt4_116 wmt4_117 wmt1_8 wmt4_118) rfl rfl rfl (by decide +kernel) ⟨Nat.le_of_ble_eq_true rfl, Nat.le_of_ble_eq_true rfl⟩) (zp0_S hK) rfl rfl hl.1 rfl (lv_room (Nat.le_of_ble_eq_true rfl)) dX7_has_28 ⟨Nat.le_of_ble_eq_true rfl, Nat.le_of_ble_eq_true rfl⟩) hP hS hA (fun r_52 u_53 H locs w_54 hP hS => ?_)
      have e_55 := w_54
      replace e_55 : r_52 = (-9223372036854775806) := e_55
      subst e_55
      exact W.lret (v := (-9223372036854775806)) hx hb hr (fun t ht hW => ⟨⟨(-9223372036854775806), (j0, j1, i33, r34), rfl, (by first | assumption | with_reducible rfl | contradiction | exact (if_pos (by repeat' (first | assumption | decide | constructor))).symm | exact (if_neg (fun hh => absurd hh (by assumption))).symm | exact (if_neg (fun hh => absurd hh.1 (by assumption))).symm | exact (if_neg (fun hh => absurd hh.1.1 (by assumption))).symm | exact (if_neg (fun hh => absurd hh.1.2 (by assumption))).symm | exact (if_neg (fun hh => absurd hh.2 (by assumption))).symm | exact (if_neg (fun hh => absurd hh.2.1 (by assumption))).symm | exact (if_neg (fun hh => absurd hh.2.1.1 (by assumption))).symm | exact (if_neg (fun hh => absurd hh.2.1.2 (by assumption))).symm | exact (if_neg (fun hh => absurd hh.2.2 (by assumption))).symm | exact (if_neg (fun hh => absurd hh.2.2.1 (by assumption))).symm | exact (if_neg (fun hh => absurd hh.2.2.2 (by assumption))).symm | decide | (exfalso; simp only [zi_le, zi_lt, zi_eq, zi_n0, zi_n1, zi_n2, zi_n3, zi_n4, zi_n23, zi_n24, zi_n100, zi_n399, zi_n60, zi_n255, zi_n99, zi_nm1, zi_n30] at *; omega) | (simp_all; done)), ⟨by rw [ht]; exact hP, hD⟩⟩, hS.F ht⟩) hS.2.2 dX7_has_31
    · skip
      exact absurd (by decide) c_51
