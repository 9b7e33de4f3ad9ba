set_option maxHeartbeats 4000000 in
set_option maxRecDepth 100000 in
theorem c_X7_sheet (l : Launch) (dC : Nat → ClassId) (dI : Nat → Nat → Nat) (k : Nat → ClassId) (T : List (ClassId × FieldType)) (q : Nat → Nat) (j0 : Int64) (j1 : Int64) (r4 : Nat → Int32) (r6 : Nat → Int32) (i12 : Int32) (i13 : Int32) (i14 : Int32) (i15 : Int32) (i28 : Int32) (i29 : Int32) (j30 : Int64) (j31 : Int64) (j32 : Int64) (i33 : Int32) (r34 : Nat → Int32) (r40 : Nat → Int32) (i41 : Int32) (z : Int32) (tt : Int32) (n : Int32) (sz : Nat)  : Met l yX7_sheet (wz yX7_sheet cX7_sheet 5 (some .int)) ({ frames := 2, cells := 0, slots := 0, locals := 42 }) (va_Pc [.ref (q 0), .int z, .int tt, .int n] (zPre dC dI k T (zM k q j0 j1 (fun _ => 0) (fun _ => 0) r4 (fun _ => 0) r6 (fun _ => 0) (fun _ => 0) (fun _ => 0) (fun _ => 0) 12 i12 i13 i14 i15 (fun _ => 0) (fun _ => 0) (fun _ => 0) 0 (-1) (fun _ => 0) 0 (fun _ => 0) (fun _ => 0) (fun _ => 0) (fun _ => 0) (fun _ => 0) i28 i29 j30 j31 j32 i33 r34 100 (fun _ => 0) (fun _ => 0) (fun _ => 0) (fun _ => 0) r40 i41) sz)) (va_Qi (fun (r : Int32) (u : (Nat → Int32) × (Nat → Int32) × (Nat → Int32) × (Nat → Int32) × Int32) => (r = if ((0 ≤ (z : Int32) ∧ (z : Int32) ≤ 3) ∧ (0 ≤ (tt : Int32) ∧ (tt : Int32) ≤ 2)) ∧ n ≤ 60 then (if 0 ≤ n then n else (-15)) else (-2))) (fun u t => zPost dC dI (va_A (zM k q j0 j1 (fun _ => 0) (fun _ => 0) r4 (fun _ => 0) r6 (fun _ => 0) (fun _ => 0) (fun _ => 0) (fun _ => 0) 12 i12 i13 i14 i15 (fun _ => 0) (fun _ => 0) (fun _ => 0) 0 (-1) (fun _ => 0) 0 (fun _ => 0) (fun _ => 0) (fun _ => 0) (fun _ => 0) (fun _ => 0) i28 i29 j30 j31 j32 i33 r34 100 (fun _ => 0) (fun _ => 0) (fun _ => 0) (fun _ => 0) r40 i41) sz) (zM k q j0 j1 (fun _ => 0) (fun _ => 0) r4 (fun _ => 0) r6 (fun _ => 0) (fun _ => 0) (fun _ => 0) (fun _ => 0) 12 i12 i13 i14 i15 (fun _ => 0) (fun _ => 0) (fun _ => 0) 0 (-1) (fun _ => 0) 0 (fun _ => 0) (fun _ => 0) (fun _ => 0) (fun _ => 0) (fun _ => 0) i28 i29 j30 j31 j32 i33 r34 100 u.1 u.2.1 u.2.2.1 u.2.2.2.1 r40 u.2.2.2.2) t) (va_A (zM k q j0 j1 (fun _ => 0) (fun _ => 0) r4 (fun _ => 0) r6 (fun _ => 0) (fun _ => 0) (fun _ => 0) (fun _ => 0) 12 i12 i13 i14 i15 (fun _ => 0) (fun _ => 0) (fun _ => 0) 0 (-1) (fun _ => 0) 0 (fun _ => 0) (fun _ => 0) (fun _ => 0) (fun _ => 0) (fun _ => 0) i28 i29 j30 j31 j32 i33 r34 100 (fun _ => 0) (fun _ => 0) (fun _ => 0) (fun _ => 0) r40 i41) sz)) 0 0 (va_A (zM k q j0 j1 (fun _ => 0) (fun _ => 0) r4 (fun _ => 0) r6 (fun _ => 0) (fun _ => 0) (fun _ => 0) (fun _ => 0) 12 i12 i13 i14 i15 (fun _ => 0) (fun _ => 0) (fun _ => 0) 0 (-1) (fun _ => 0) 0 (fun _ => 0) (fun _ => 0) (fun _ => 0) (fun _ => 0) (fun _ => 0) i28 i29 j30 j31 j32 i33 r34 100 (fun _ => 0) (fun _ => 0) (fun _ => 0) (fun _ => 0) r40 i41) sz) := by
  refine Met.ofW (cc := cX7_sheet) (maxL := 5) (ret := (some .int)) (by decide) rfl ?_
  intro p e s m args below meth c s₁ B hml hv
  obtain ⟨rfl, hsz, hP, hK, hD0⟩ := hv
  have hx := B.exec
  have hb := B.bytes
  have hr := B.returns
  have hts : ∀ w ∈ zw, w.before _ s = true := fun w h => atoms_spec (ws := (wz yX7_sheet cX7_sheet 5 (some .int))) B.pre w (List.mem_cons_of_mem _ h)
  have hown : s.vm.findClass RX7 = some m.cls := findClass_of_methodNamed B.named
  have hlocks := B.notSynchronized
  subst hsz
  have hi7 := inw7
  have hD := hD0.self (sz := s.heap.size)
  generalize hAe : va_A (zM k q j0 j1 (fun _ => 0) (fun _ => 0) r4 (fun _ => 0) r6 (fun _ => 0) (fun _ => 0) (fun _ => 0) (fun _ => 0) 12 i12 i13 i14 i15 (fun _ => 0) (fun _ => 0) (fun _ => 0) 0 (-1) (fun _ => 0) 0 (fun _ => 0) (fun _ => 0) (fun _ => 0) (fun _ => 0) (fun _ => 0) i28 i29 j30 j31 j32 i33 r34 100 (fun _ => 0) (fun _ => 0) (fun _ => 0) (fun _ => 0) r40 i41) s.heap.size = A at hD ⊢
  have hA : ∀ q : Nat, s.heap.size ≤ q → A q := fun q h => by rw [← hAe]; exact Or.inr h
  have hl := lv_entry ([.ref (q 0), .int z, .int tt, .int n]) (n := 5) (Nat.le_of_ble_eq_true rfl)
  rw [lg_entry_eq]
  generalize (lg_sl ([.ref (q 0), .int z, .int tt, .int n]) ++ List.replicate (5 - (lg_sl ([.ref (q 0), .int z, .int tt, .int n])).length) Slot.unset).toArray = ls at hl ⊢
  have hl : lv_has ls 5 [(0, .ref (q 0)), (1, .int z), (2, .int tt), (3, .int n)] := hl
  refine z_start (w := (zM k q j0 j1 (fun _ => 0) (fun _ => 0) r4 (fun _ => 0) r6 (fun _ => 0) (fun _ => 0) (fun _ => 0) (fun _ => 0) 12 i12 i13 i14 i15 (fun _ => 0) (fun _ => 0) (fun _ => 0) 0 (-1) (fun _ => 0) 0 (fun _ => 0) (fun _ => 0) (fun _ => 0) (fun _ => 0) (fun _ => 0) i28 i29 j30 j31 j32 i33 r34 100 (fun _ => 0) (fun _ => 0) (fun _ => 0) (fun _ => 0) r40 i41)) hP hD (fun H locs hP hD hS => ?_)
  refine lv_iload_n hx hb dX7_sheet_0 rfl (lv_at hl 1 rfl) ?_
  refine zc0_i (w := (zM k q j0 j1 (fun _ => 0) (fun _ => 0) r4 (fun _ => 0) r6 (fun _ => 0) (fun _ => 0) (fun _ => 0) (fun _ => 0) 12 i12 i13 i14 i15 (fun _ => 0) (fun _ => 0) (fun _ => 0) 0 (-1) (fun _ => 0) 0 (fun _ => 0) (fun _ => 0) (fun _ => 0) (fun _ => 0) (fun _ => 0) i28 i29 j30 j31 j32 i33 r34 100 (fun _ => 0) (fun _ => 0) (fun _ => 0) (fun _ => 0) r40 i41)) (va_runS (As := [.int z]) (rest := []) ⟨hx, hb, hml, hown, hts⟩ (c_X7_isSheet l dC dI k T z _ ) (va_cwS 1 hts (gzS wmt4_171 wmt4_172 wmt1_8 wmt4_173) rfl rfl rfl (by decide +kernel) ⟨Nat.le_of_ble_eq_true rfl, Nat.le_of_ble_eq_true rfl⟩) (zp0_S hK) rfl rfl hl.1 rfl (lv_room (Nat.le_of_ble_eq_true rfl)) dX7_sheet_1 ⟨Nat.le_of_ble_eq_true rfl, Nat.le_of_ble_eq_true rfl⟩) hP hS hA (fun r_1 u_2 H locs w_3 hP hS => ?_)
  rcases w_3 with ⟨e_5, h_4⟩ | ⟨e_7, h_6⟩
  · skip
    replace e_5 : r_1 = 1 := e_5
    subst e_5
    replace h_4 : 0 ≤ (z : Int32) ∧ (z : Int32) ≤ 3 := h_4
    rcases zi_4 h_4 with rfl | rfl | rfl | rfl
    · skip
      refine lv_if_eq (tgt := 22) hx hb dX7_sheet_4 (by decide) (fun c_8 => ?_) (fun c_8 => ?_)
      · skip
        exact absurd c_8 (by decide)
      · skip
        refine lv_iload_n hx hb dX7_sheet_7 rfl (lv_at hl 2 rfl) ?_
        refine lv_iconst (v := 0) hx hb dX7_sheet_8 (by decide) ?_
        refine lv_iconst (v := 2) hx hb dX7_sheet_9 (by decide) ?_
        refine zc0_i (w := (zM k q j0 j1 (fun _ => 0) (fun _ => 0) r4 (fun _ => 0) r6 (fun _ => 0) (fun _ => 0) (fun _ => 0) (fun _ => 0) 12 i12 i13 i14 i15 (fun _ => 0) (fun _ => 0) (fun _ => 0) 0 (-1) (fun _ => 0) 0 (fun _ => 0) (fun _ => 0) (fun _ => 0) (fun _ => 0) (fun _ => 0) i28 i29 j30 j31 j32 i33 r34 100 (fun _ => 0) (fun _ => 0) (fun _ => 0) (fun _ => 0) r40 i41)) (va_runS (As := [.int tt, .int 0, .int 2]) (rest := []) ⟨hx, hb, hml, hown, hts⟩ (c_X7_in l dC dI k T tt 0 2 _ ) (va_cwS 3 hts (gzS wmt4_62 wmt4_63 wmt1_8 wmt4_64) rfl rfl rfl (by decide +kernel) ⟨Nat.le_of_ble_eq_true rfl, Nat.le_of_ble_eq_true rfl⟩) (zp0_S hK) rfl rfl hl.1 rfl (lv_room (Nat.le_of_ble_eq_true rfl)) dX7_sheet_10 ⟨Nat.le_of_ble_eq_true rfl, Nat.le_of_ble_eq_true rfl⟩) hP hS hA (fun r_9 u_10 H locs w_11 hP hS => ?_)
        rcases w_11 with ⟨e_13, h_12⟩ | ⟨e_15, h_14⟩
        · skip
          replace e_13 : r_9 = 1 := e_13
          subst e_13
          replace h_12 : 0 ≤ tt ∧ tt ≤ 2 := h_12
          refine lv_if_eq (tgt := 22) hx hb dX7_sheet_13 (by decide) (fun c_16 => ?_) (fun c_16 => ?_)
          · skip
            exact absurd c_16 (by decide)
          · skip
            refine lv_iload_n hx hb dX7_sheet_16 rfl (lv_at hl 3 rfl) ?_
            refine lv_bipush (v := 60) hx hb dX7_sheet_17 (by decide) ?_
            refine lv_icmp_le (tgt := 25) hx hb dX7_sheet_19 (by decide) (fun c_17 => ?_) (fun c_17 => ?_)
            · skip
              refine lv_iload_n hx hb dX7_sheet_25 rfl (lv_at hl 3 rfl) ?_
              refine lv_if_ge (tgt := 35) hx hb dX7_sheet_26 (by decide) (fun c_18 => ?_) (fun c_18 => ?_)
              · skip
                refine lv_aload_n hx hb dX7_sheet_35 rfl (lv_at hl 0 rfl) ?_
                refine va_get (D := (dC, dI)) (ci := 7) (v := .ref (q 36)) (C := RX7) (T := TX7) (N := 42) hx hb hts hi7 hown hK.1 hP 0 rfl rfl 36 (by decide) (hts _ wmt3_203) (fun _ h9 => h9) rfl dX7_sheet_36 ?_
                refine lv_iload_n hx hb dX7_sheet_39 rfl (lv_at hl 1 rfl) ?_
                refine lv_iconst (v := 1) hx hb dX7_sheet_40 (by decide) ?_
                refine va_zast (D := (dC, dI)) hx hb hK.1 hP hD hS 20 2 rfl rfl (show ¬ _ by decide) dX7_sheet_41 (fun H locs hP hD hS => ?_)
                have hP : va_P (dC, dI) vwCl (zM k q j0 j1 (fun _ => 0) (fun _ => 0) r4 (fun _ => 0) r6 (fun _ => 0) (fun _ => 0) (fun _ => 0) (fun _ => 0) 12 i12 i13 i14 i15 (fun _ => 0) (fun _ => 0) (fun _ => 0) 0 (-1) (fun _ => 0) 0 (fun _ => 0) (fun _ => 0) (fun _ => 0) (fun _ => 0) (fun _ => 0) i28 i29 j30 j31 j32 i33 r34 100 (upd (fun _ => 0) 0 1) (fun _ => 0) (fun _ => 0) (fun _ => 0) r40 i41) H := hP
                have hD : va_D A (zM k q j0 j1 (fun _ => 0) (fun _ => 0) r4 (fun _ => 0) r6 (fun _ => 0) (fun _ => 0) (fun _ => 0) (fun _ => 0) 12 i12 i13 i14 i15 (fun _ => 0) (fun _ => 0) (fun _ => 0) 0 (-1) (fun _ => 0) 0 (fun _ => 0) (fun _ => 0) (fun _ => 0) (fun _ => 0) (fun _ => 0) i28 i29 j30 j31 j32 i33 r34 100 (upd (fun _ => 0) 0 1) (fun _ => 0) (fun _ => 0) (fun _ => 0) r40 i41) := hD
                refine lv_aload_n hx hb dX7_sheet_42 rfl (lv_at hl 0 rfl) ?_
                refine va_get (D := (dC, dI)) (ci := 7) (v := .ref (q 37)) (C := RX7) (T := TX7) (N := 42) hx hb hts hi7 hown hK.1 hP 0 rfl rfl 37 (by decide) (hts _ wmt3_204) (fun _ h9 => h9) rfl dX7_sheet_43 ?_
                refine lv_iload_n hx hb dX7_sheet_46 rfl (lv_at hl 1 rfl) ?_
                refine lv_iload_n hx hb dX7_sheet_47 rfl (lv_at hl 2 rfl) ?_
                refine va_iast (D := (dC, dI)) hx hb hK.1 hP hD hS 21 0 rfl rfl (show ¬ _ by decide) dX7_sheet_48 (fun H locs hP hD hS => ?_)
                have hP : va_P (dC, dI) vwCl (zM k q j0 j1 (fun _ => 0) (fun _ => 0) r4 (fun _ => 0) r6 (fun _ => 0) (fun _ => 0) (fun _ => 0) (fun _ => 0) 12 i12 i13 i14 i15 (fun _ => 0) (fun _ => 0) (fun _ => 0) 0 (-1) (fun _ => 0) 0 (fun _ => 0) (fun _ => 0) (fun _ => 0) (fun _ => 0) (fun _ => 0) i28 i29 j30 j31 j32 i33 r34 100 (upd (fun _ => 0) 0 1) (upd (fun _ => 0) 0 tt) (fun _ => 0) (fun _ => 0) r40 i41) H := hP
                have hD : va_D A (zM k q j0 j1 (fun _ => 0) (fun _ => 0) r4 (fun _ => 0) r6 (fun _ => 0) (fun _ => 0) (fun _ => 0) (fun _ => 0) 12 i12 i13 i14 i15 (fun _ => 0) (fun _ => 0) (fun _ => 0) 0 (-1) (fun _ => 0) 0 (fun _ => 0) (fun _ => 0) (fun _ => 0) (fun _ => 0) (fun _ => 0) i28 i29 j30 j31 j32 i33 r34 100 (upd (fun _ => 0) 0 1) (upd (fun _ => 0) 0 tt) (fun _ => 0) (fun _ => 0) r40 i41) := hD
                refine lv_aload_n hx hb dX7_sheet_49 rfl (lv_at hl 0 rfl) ?_
                refine va_get (D := (dC, dI)) (ci := 7) (v := .ref (q 38)) (C := RX7) (T := TX7) (N := 42) hx hb hts hi7 hown hK.1 hP 0 rfl rfl 38 (by decide) (hts _ wmt3_205) (fun _ h9 => h9) rfl dX7_sheet_50 ?_
                refine lv_iload_n hx hb dX7_sheet_53 rfl (lv_at hl 1 rfl) ?_
                refine lv_iload_n hx hb dX7_sheet_54 rfl (lv_at hl 3 rfl) ?_
                refine va_iast (D := (dC, dI)) hx hb hK.1 hP hD hS 22 0 rfl rfl (show ¬ _ by decide) dX7_sheet_55 (fun H locs hP hD hS => ?_)
                have hP : va_P (dC, dI) vwCl (zM k q j0 j1 (fun _ => 0) (fun _ => 0) r4 (fun _ => 0) r6 (fun _ => 0) (fun _ => 0) (fun _ => 0) (fun _ => 0) 12 i12 i13 i14 i15 (fun _ => 0) (fun _ => 0) (fun _ => 0) 0 (-1) (fun _ => 0) 0 (fun _ => 0) (fun _ => 0) (fun _ => 0) (fun _ => 0) (fun _ => 0) i28 i29 j30 j31 j32 i33 r34 100 (upd (fun _ => 0) 0 1) (upd (fun _ => 0) 0 tt) (upd (fun _ => 0) 0 n) (fun _ => 0) r40 i41) H := hP
                have hD : va_D A (zM k q j0 j1 (fun _ => 0) (fun _ => 0) r4 (fun _ => 0) r6 (fun _ => 0) (fun _ => 0) (fun _ => 0) (fun _ => 0) 12 i12 i13 i14 i15 (fun _ => 0) (fun _ => 0) (fun _ => 0) 0 (-1) (fun _ => 0) 0 (fun _ => 0) (fun _ => 0) (fun _ => 0) (fun _ => 0) (fun _ => 0) i28 i29 j30 j31 j32 i33 r34 100 (upd (fun _ => 0) 0 1) (upd (fun _ => 0) 0 tt) (upd (fun _ => 0) 0 n) (fun _ => 0) r40 i41) := hD
                refine lv_iconst (v := 0) hx hb dX7_sheet_56 (by decide) ?_
                refine lv_istore (lv' := [(4, .int 0), (0, .ref (q 0)), (1, .int 0), (2, .int tt), (3, .int n)]) hx hb dX7_sheet_57 hl (by decide) rfl (fun ls hl => ?_)
                obtain ⟨it, eit⟩ : ∃ it : Nat → Int32, it = (fun _ => 0) := ⟨_, rfl⟩
                have hP : va_P (dC, dI) vwCl (zM k q j0 j1 (fun _ => 0) (fun _ => 0) r4 (fun _ => 0) r6 (fun _ => 0) (fun _ => 0) (fun _ => 0) (fun _ => 0) 12 i12 i13 i14 i15 (fun _ => 0) (fun _ => 0) (fun _ => 0) 0 (-1) (fun _ => 0) 0 (fun _ => 0) (fun _ => 0) (fun _ => 0) (fun _ => 0) (fun _ => 0) i28 i29 j30 j31 j32 i33 r34 100 (upd (fun _ => 0) 0 1) (upd (fun _ => 0) 0 tt) (upd (fun _ => 0) 0 n) it r40 i41) H := by rw [eit]; exact hP
                have hD : va_D A (zM k q j0 j1 (fun _ => 0) (fun _ => 0) r4 (fun _ => 0) r6 (fun _ => 0) (fun _ => 0) (fun _ => 0) (fun _ => 0) 12 i12 i13 i14 i15 (fun _ => 0) (fun _ => 0) (fun _ => 0) 0 (-1) (fun _ => 0) 0 (fun _ => 0) (fun _ => 0) (fun _ => 0) (fun _ => 0) (fun _ => 0) i28 i29 j30 j31 j32 i33 r34 100 (upd (fun _ => 0) 0 1) (upd (fun _ => 0) 0 tt) (upd (fun _ => 0) 0 n) it r40 i41) := by rw [eit]; exact hD
                obtain ⟨j, ej⟩ : ∃ j : Nat, j = 0 := ⟨_, rfl⟩
                replace hl : lv_has ls 5 [(4, .int (nI j)), (0, .ref (q 0)), (1, .int 0), (2, .int tt), (3, .int n)] := by rw [ej]; exact hl
                have hj : j ≤ 60 := by omega
                obtain ⟨mm, hm⟩ : ∃ mm : Nat, mm = 60 - j := ⟨_, rfl⟩
                clear eit ej
                refine z_cut hP hD hS hl ?_
                clear hl hP hD
                intro H locs ls hP hD hS hl
                induction mm using Nat.strongRecOn generalizing it j H locs ls with
                | _ mm ih =>
                  refine lv_iload hx hb dX7_sheet_59 (lv_at hl 0 rfl) ?_
                  refine lv_bipush (v := 60) hx hb dX7_sheet_61 (by decide) ?_
                  refine lv_icmp_ge (tgt := 85) hx hb dX7_sheet_63 (by decide) (fun c_19 => ?_) (fun c_19 => ?_)
                  · skip
                    have c_19' : ¬ (nI j) ≤ 59 := (z_ge_pred (by decide)).mp c_19
                    refine lv_iload_n hx hb dX7_sheet_85 rfl (lv_at hl 4 rfl) ?_
                    exact W.iret (v := n) hx hb hr (fun t ht hW => ⟨⟨n, (upd (fun _ => 0) 0 1, upd (fun _ => 0) 0 tt, upd (fun _ => 0) 0 n, it, i41), rfl, (by first | exact ((if_pos (by repeat' (first | assumption | decide | constructor))).trans (if_neg (by assumption))).symm | exact ((if_pos (by repeat' (first | assumption | decide | constructor))).trans (if_pos (by assumption))).symm | exact (if_neg (fun hh => absurd hh.1.1 (by assumption))).symm | exact (if_neg (fun hh => absurd hh.1.2 (by assumption))).symm | exact (if_neg (fun hh => absurd hh.2 (by assumption))).symm), ⟨by rw [ht]; exact hP, hD⟩⟩, hS.F ht⟩) hS.2.2 dX7_sheet_86
                  · skip
                    have c_19' : (nI j) ≤ 59 := Decidable.not_not.mp (fun h => c_19 ((z_ge_pred (by decide)).mpr h))
                    have hlt : j < 60 := Nat.lt_of_not_le (fun q => c_19 (nI_le (a := 60) q (by omega)))
                    refine lv_aload_n hx hb dX7_sheet_66 rfl (lv_at hl 1 rfl) ?_
                    refine va_get (D := (dC, dI)) (ci := 7) (v := .ref (q 39)) (C := RX7) (T := TX7) (N := 42) hx hb hts hi7 hown hK.1 hP 0 rfl rfl 39 (by decide) (hts _ wmt3_206) (fun _ h9 => h9) rfl dX7_sheet_67 ?_
                    refine lv_bipush (v := 60) hx hb dX7_sheet_70 (by decide) ?_
                    refine lv_iload_n hx hb dX7_sheet_72 rfl (lv_at hl 2 rfl) ?_
                    refine lv_imul hx hb dX7_sheet_73 ?_
                    refine z_top (v2 := .int 0) (congrArg Value.int (by decide)) ?_
                    refine lv_iload hx hb dX7_sheet_74 (lv_at hl 0 rfl) ?_
                    refine lv_iadd hx hb dX7_sheet_76 ?_
                    refine z_top (v2 := .int (nI j)) (congrArg Value.int (Int32.zero_add (nI j))) ?_
                    refine lv_iconst (v := 0) hx hb dX7_sheet_77 (by decide) ?_
                    refine va_iast (D := (dC, dI)) hx hb hK.1 hP hD hS 23 0 rfl rfl (by first | exact vp_in_nI (by omega) (by decide) | (rw [ex]; exact z_ix hlt (by decide))) dX7_sheet_78 (fun H locs hP hD hS => ?_)
                    obtain ⟨it2, hP, hD⟩ : ∃ it2 : Nat → Int32, va_P (dC, dI) vwCl (zM k q j0 j1 (fun _ => 0) (fun _ => 0) r4 (fun _ => 0) r6 (fun _ => 0) (fun _ => 0) (fun _ => 0) (fun _ => 0) 12 i12 i13 i14 i15 (fun _ => 0) (fun _ => 0) (fun _ => 0) 0 (-1) (fun _ => 0) 0 (fun _ => 0) (fun _ => 0) (fun _ => 0) (fun _ => 0) (fun _ => 0) i28 i29 j30 j31 j32 i33 r34 100 (upd (fun _ => 0) 0 1) (upd (fun _ => 0) 0 tt) (upd (fun _ => 0) 0 n) it2 r40 i41) H ∧ va_D A (zM k q j0 j1 (fun _ => 0) (fun _ => 0) r4 (fun _ => 0) r6 (fun _ => 0) (fun _ => 0) (fun _ => 0) (fun _ => 0) 12 i12 i13 i14 i15 (fun _ => 0) (fun _ => 0) (fun _ => 0) 0 (-1) (fun _ => 0) 0 (fun _ => 0) (fun _ => 0) (fun _ => 0) (fun _ => 0) (fun _ => 0) i28 i29 j30 j31 j32 i33 r34 100 (upd (fun _ => 0) 0 1) (upd (fun _ => 0) 0 tt) (upd (fun _ => 0) 0 n) it2 r40 i41) := ⟨_, hP, hD⟩
                    have hP : va_P (dC, dI) vwCl (zM k q j0 j1 (fun _ => 0) (fun _ => 0) r4 (fun _ => 0) r6 (fun _ => 0) (fun _ => 0) (fun _ => 0) (fun _ => 0) 12 i12 i13 i14 i15 (fun _ => 0) (fun _ => 0) (fun _ => 0) 0 (-1) (fun _ => 0) 0 (fun _ => 0) (fun _ => 0) (fun _ => 0) (fun _ => 0) (fun _ => 0) i28 i29 j30 j31 j32 i33 r34 100 (upd (fun _ => 0) 0 1) (upd (fun _ => 0) 0 tt) (upd (fun _ => 0) 0 n) it2 r40 i41) H := hP
                    have hD : va_D A (zM k q j0 j1 (fun _ => 0) (fun _ => 0) r4 (fun _ => 0) r6 (fun _ => 0) (fun _ => 0) (fun _ => 0) (fun _ => 0) 12 i12 i13 i14 i15 (fun _ => 0) (fun _ => 0) (fun _ => 0) 0 (-1) (fun _ => 0) 0 (fun _ => 0) (fun _ => 0) (fun _ => 0) (fun _ => 0) (fun _ => 0) i28 i29 j30 j31 j32 i33 r34 100 (upd (fun _ => 0) 0 1) (upd (fun _ => 0) 0 tt) (upd (fun _ => 0) 0 n) it2 r40 i41) := hD
                    refine lv_iinc (v := nI (j + 1)) (lv' := [(4, .int (nI (j + 1))), (0, .ref (q 0)), (1, .int 0), (2, .int tt), (3, .int n)]) hx hb dX7_sheet_79 hl (k := 0) rfl (nI_1 j) (by decide) rfl (fun ls hl => ?_)
                    refine lv_goto (tgt := 59) hx hb dX7_sheet_82 (by decide) ?_
                    exact ih (60 - (j + 1)) (by omega) it2 (j + 1) (by omega) rfl H locs ls hP hD hS (lv_sub hl [0, 1, 2, 3, 4] rfl)
              · skip
                refine lv_aload_n hx hb dX7_sheet_29 rfl (lv_at hl 0 rfl) ?_
                refine lv_iconst (v := 5) hx hb dX7_sheet_30 (by decide) ?_
                refine zcA_i (w := (zM k q j0 j1 (fun _ => 0) (fun _ => 0) r4 (fun _ => 0) r6 (fun _ => 0) (fun _ => 0) (fun _ => 0) (fun _ => 0) 12 i12 i13 i14 i15 (fun _ => 0) (fun _ => 0) (fun _ => 0) 0 (-1) (fun _ => 0) 0 (fun _ => 0) (fun _ => 0) (fun _ => 0) (fun _ => 0) (fun _ => 0) i28 i29 j30 j31 j32 i33 r34 100 (fun _ => 0) (fun _ => 0) (fun _ => 0) (fun _ => 0) r40 i41)) (va_runV (As := [.int 5]) (rest := []) ⟨hx, hb, hml, hown, hts⟩ (c_X7_meets_5 l dC dI k T q j0 j1 r4 r6 i12 i13 i14 i15 i28 i29 j30 j31 j32 i33 r34 r40 i41 _ ) (cwV 1 hts (gzV wmt4_174 wmt4_176 wmp3_4 wmt1_8 wmt4_177) rfl rfl rfl (by decide +kernel) ⟨Nat.le_of_ble_eq_true rfl, Nat.le_of_ble_eq_true rfl⟩) (zpA_V (ci := 7) (q0 := 0) hK hP hD rfl rfl) rfl rfl hl.1 rfl (lv_room (Nat.le_of_ble_eq_true rfl)) dX7_sheet_31 ⟨Nat.le_of_ble_eq_true rfl, Nat.le_of_ble_eq_true rfl⟩) hD hS hA (fun r_20 u_21 H locs w_22 hP hD hS => ?_)
                obtain ⟨oi41_23, rfl⟩ : ∃ z, z = u_21 := ⟨_, rfl⟩
                have hP : va_P (dC, dI) vwCl (zM k q j0 j1 (fun _ => 0) (fun _ => 0) r4 (fun _ => 0) r6 (fun _ => 0) (fun _ => 0) (fun _ => 0) (fun _ => 0) 12 i12 i13 i14 i15 (fun _ => 0) (fun _ => 0) (fun _ => 0) 0 (-1) (fun _ => 0) 0 (fun _ => 0) (fun _ => 0) (fun _ => 0) (fun _ => 0) (fun _ => 0) i28 i29 j30 j31 j32 i33 r34 100 (fun _ => 0) (fun _ => 0) (fun _ => 0) (fun _ => 0) r40 oi41_23) H := hP
                have hD : va_D A (zM k q j0 j1 (fun _ => 0) (fun _ => 0) r4 (fun _ => 0) r6 (fun _ => 0) (fun _ => 0) (fun _ => 0) (fun _ => 0) 12 i12 i13 i14 i15 (fun _ => 0) (fun _ => 0) (fun _ => 0) 0 (-1) (fun _ => 0) 0 (fun _ => 0) (fun _ => 0) (fun _ => 0) (fun _ => 0) (fun _ => 0) i28 i29 j30 j31 j32 i33 r34 100 (fun _ => 0) (fun _ => 0) (fun _ => 0) (fun _ => 0) r40 oi41_23) := hD
                have e_24 := w_22
                replace e_24 : r_20 = (-15) := e_24
                subst e_24
                exact W.iret (v := (-15)) hx hb hr (fun t ht hW => ⟨⟨(-15), ((fun _ => 0), (fun _ => 0), (fun _ => 0), (fun _ => 0), oi41_23), rfl, (by first | exact ((if_pos (by repeat' (first | assumption | decide | constructor))).trans (if_neg (by assumption))).symm | exact ((if_pos (by repeat' (first | assumption | decide | constructor))).trans (if_pos (by assumption))).symm | exact (if_neg (fun hh => absurd hh.1.1 (by assumption))).symm | exact (if_neg (fun hh => absurd hh.1.2 (by assumption))).symm | exact (if_neg (fun hh => absurd hh.2 (by assumption))).symm), ⟨by rw [ht]; exact hP, hD⟩⟩, hS.F ht⟩) hS.2.2 dX7_sheet_34
            · skip
              refine lv_bipush (v := (-2)) hx hb dX7_sheet_22 (by decide) ?_
              exact W.iret (v := (-2)) hx hb hr (fun t ht hW => ⟨⟨(-2), ((fun _ => 0), (fun _ => 0), (fun _ => 0), (fun _ => 0), i41), rfl, (by first | exact ((if_pos (by repeat' (first | assumption | decide | constructor))).trans (if_neg (by assumption))).symm | exact ((if_pos (by repeat' (first | assumption | decide | constructor))).trans (if_pos (by assumption))).symm | exact (if_neg (fun hh => absurd hh.1.1 (by assumption))).symm | exact (if_neg (fun hh => absurd hh.1.2 (by assumption))).symm | exact (if_neg (fun hh => absurd hh.2 (by assumption))).symm), ⟨by rw [ht]; exact hP, hD⟩⟩, hS.F ht⟩) hS.2.2 dX7_sheet_24
        · skip
          replace e_15 : r_9 = 0 := e_15
          subst e_15
          replace h_14 : ¬ (0 ≤ tt ∧ tt ≤ 2) := h_14
          refine lv_if_eq (tgt := 22) hx hb dX7_sheet_13 (by decide) (fun c_25 => ?_) (fun c_25 => ?_)
          · skip
            refine lv_bipush (v := (-2)) hx hb dX7_sheet_22 (by decide) ?_
            exact W.iret (v := (-2)) hx hb hr (fun t ht hW => ⟨⟨(-2), ((fun _ => 0), (fun _ => 0), (fun _ => 0), (fun _ => 0), i41), rfl, (by first | exact ((if_pos (by repeat' (first | assumption | decide | constructor))).trans (if_neg (by assumption))).symm | exact ((if_pos (by repeat' (first | assumption | decide | constructor))).trans (if_pos (by assumption))).symm | exact (if_neg (fun hh => absurd hh.1.1 (by assumption))).symm | exact (if_neg (fun hh => absurd hh.1.2 (by assumption))).symm | exact (if_neg (fun hh => absurd hh.2 (by assumption))).symm), ⟨by rw [ht]; exact hP, hD⟩⟩, hS.F ht⟩) hS.2.2 dX7_sheet_24
          · skip
            exact absurd (by decide) c_25
    · skip
      refine lv_if_eq (tgt := 22) hx hb dX7_sheet_4 (by decide) (fun c_26 => ?_) (fun c_26 => ?_)
      · skip
        exact absurd c_26 (by decide)
      · skip
        refine lv_iload_n hx hb dX7_sheet_7 rfl (lv_at hl 2 rfl) ?_
        refine lv_iconst (v := 0) hx hb dX7_sheet_8 (by decide) ?_
        refine lv_iconst (v := 2) hx hb dX7_sheet_9 (by decide) ?_
        refine zc0_i (w := (zM k q j0 j1 (fun _ => 0) (fun _ => 0) r4 (fun _ => 0) r6 (fun _ => 0) (fun _ => 0) (fun _ => 0) (fun _ => 0) 12 i12 i13 i14 i15 (fun _ => 0) (fun _ => 0) (fun _ => 0) 0 (-1) (fun _ => 0) 0 (fun _ => 0) (fun _ => 0) (fun _ => 0) (fun _ => 0) (fun _ => 0) i28 i29 j30 j31 j32 i33 r34 100 (fun _ => 0) (fun _ => 0) (fun _ => 0) (fun _ => 0) r40 i41)) (va_runS (As := [.int tt, .int 0, .int 2]) (rest := []) ⟨hx, hb, hml, hown, hts⟩ (c_X7_in l dC dI k T tt 0 2 _ ) (va_cwS 3 hts (gzS wmt4_62 wmt4_63 wmt1_8 wmt4_64) rfl rfl rfl (by decide +kernel) ⟨Nat.le_of_ble_eq_true rfl, Nat.le_of_ble_eq_true rfl⟩) (zp0_S hK) rfl rfl hl.1 rfl (lv_room (Nat.le_of_ble_eq_true rfl)) dX7_sheet_10 ⟨Nat.le_of_ble_eq_true rfl, Nat.le_of_ble_eq_true rfl⟩) hP hS hA (fun r_27 u_28 H locs w_29 hP hS => ?_)
        rcases w_29 with ⟨e_31, h_30⟩ | ⟨e_33, h_32⟩
        · skip
          replace e_31 : r_27 = 1 := e_31
          subst e_31
          replace h_30 : 0 ≤ tt ∧ tt ≤ 2 := h_30
          refine lv_if_eq (tgt := 22) hx hb dX7_sheet_13 (by decide) (fun c_34 => ?_) (fun c_34 => ?_)
          · skip
            exact absurd c_34 (by decide)
          · skip
            refine lv_iload_n hx hb dX7_sheet_16 rfl (lv_at hl 3 rfl) ?_
            refine lv_bipush (v := 60) hx hb dX7_sheet_17 (by decide) ?_
            refine lv_icmp_le (tgt := 25) hx hb dX7_sheet_19 (by decide) (fun c_35 => ?_) (fun c_35 => ?_)
            · skip
              refine lv_iload_n hx hb dX7_sheet_25 rfl (lv_at hl 3 rfl) ?_
              refine lv_if_ge (tgt := 35) hx hb dX7_sheet_26 (by decide) (fun c_36 => ?_) (fun c_36 => ?_)
              · skip
                refine lv_aload_n hx hb dX7_sheet_35 rfl (lv_at hl 0 rfl) ?_
                refine va_get (D := (dC, dI)) (ci := 7) (v := .ref (q 36)) (C := RX7) (T := TX7) (N := 42) hx hb hts hi7 hown hK.1 hP 0 rfl rfl 36 (by decide) (hts _ wmt3_203) (fun _ h9 => h9) rfl dX7_sheet_36 ?_
                refine lv_iload_n hx hb dX7_sheet_39 rfl (lv_at hl 1 rfl) ?_
                refine lv_iconst (v := 1) hx hb dX7_sheet_40 (by decide) ?_
                refine va_zast (D := (dC, dI)) hx hb hK.1 hP hD hS 20 2 rfl rfl (show ¬ _ by decide) dX7_sheet_41 (fun H locs hP hD hS => ?_)
                have hP : va_P (dC, dI) vwCl (zM k q j0 j1 (fun _ => 0) (fun _ => 0) r4 (fun _ => 0) r6 (fun _ => 0) (fun _ => 0) (fun _ => 0) (fun _ => 0) 12 i12 i13 i14 i15 (fun _ => 0) (fun _ => 0) (fun _ => 0) 0 (-1) (fun _ => 0) 0 (fun _ => 0) (fun _ => 0) (fun _ => 0) (fun _ => 0) (fun _ => 0) i28 i29 j30 j31 j32 i33 r34 100 (upd (fun _ => 0) 1 1) (fun _ => 0) (fun _ => 0) (fun _ => 0) r40 i41) H := hP
                have hD : va_D A (zM k q j0 j1 (fun _ => 0) (fun _ => 0) r4 (fun _ => 0) r6 (fun _ => 0) (fun _ => 0) (fun _ => 0) (fun _ => 0) 12 i12 i13 i14 i15 (fun _ => 0) (fun _ => 0) (fun _ => 0) 0 (-1) (fun _ => 0) 0 (fun _ => 0) (fun _ => 0) (fun _ => 0) (fun _ => 0) (fun _ => 0) i28 i29 j30 j31 j32 i33 r34 100 (upd (fun _ => 0) 1 1) (fun _ => 0) (fun _ => 0) (fun _ => 0) r40 i41) := hD
                refine lv_aload_n hx hb dX7_sheet_42 rfl (lv_at hl 0 rfl) ?_
                refine va_get (D := (dC, dI)) (ci := 7) (v := .ref (q 37)) (C := RX7) (T := TX7) (N := 42) hx hb hts hi7 hown hK.1 hP 0 rfl rfl 37 (by decide) (hts _ wmt3_204) (fun _ h9 => h9) rfl dX7_sheet_43 ?_
                refine lv_iload_n hx hb dX7_sheet_46 rfl (lv_at hl 1 rfl) ?_
                refine lv_iload_n hx hb dX7_sheet_47 rfl (lv_at hl 2 rfl) ?_
                refine va_iast (D := (dC, dI)) hx hb hK.1 hP hD hS 21 0 rfl rfl (show ¬ _ by decide) dX7_sheet_48 (fun H locs hP hD hS => ?_)
                have hP : va_P (dC, dI) vwCl (zM k q j0 j1 (fun _ => 0) (fun _ => 0) r4 (fun _ => 0) r6 (fun _ => 0) (fun _ => 0) (fun _ => 0) (fun _ => 0) 12 i12 i13 i14 i15 (fun _ => 0) (fun _ => 0) (fun _ => 0) 0 (-1) (fun _ => 0) 0 (fun _ => 0) (fun _ => 0) (fun _ => 0) (fun _ => 0) (fun _ => 0) i28 i29 j30 j31 j32 i33 r34 100 (upd (fun _ => 0) 1 1) (upd (fun _ => 0) 1 tt) (fun _ => 0) (fun _ => 0) r40 i41) H := hP
                have hD : va_D A (zM k q j0 j1 (fun _ => 0) (fun _ => 0) r4 (fun _ => 0) r6 (fun _ => 0) (fun _ => 0) (fun _ => 0) (fun _ => 0) 12 i12 i13 i14 i15 (fun _ => 0) (fun _ => 0) (fun _ => 0) 0 (-1) (fun _ => 0) 0 (fun _ => 0) (fun _ => 0) (fun _ => 0) (fun _ => 0) (fun _ => 0) i28 i29 j30 j31 j32 i33 r34 100 (upd (fun _ => 0) 1 1) (upd (fun _ => 0) 1 tt) (fun _ => 0) (fun _ => 0) r40 i41) := hD
                refine lv_aload_n hx hb dX7_sheet_49 rfl (lv_at hl 0 rfl) ?_
                refine va_get (D := (dC, dI)) (ci := 7) (v := .ref (q 38)) (C := RX7) (T := TX7) (N := 42) hx hb hts hi7 hown hK.1 hP 0 rfl rfl 38 (by decide) (hts _ wmt3_205) (fun _ h9 => h9) rfl dX7_sheet_50 ?_
                refine lv_iload_n hx hb dX7_sheet_53 rfl (lv_at hl 1 rfl) ?_
                refine lv_iload_n hx hb dX7_sheet_54 rfl (lv_at hl 3 rfl) ?_
                refine va_iast (D := (dC, dI)) hx hb hK.1 hP hD hS 22 0 rfl rfl (show ¬ _ by decide) dX7_sheet_55 (fun H locs hP hD hS => ?_)
                have hP : va_P (dC, dI) vwCl (zM k q j0 j1 (fun _ => 0) (fun _ => 0) r4 (fun _ => 0) r6 (fun _ => 0) (fun _ => 0) (fun _ => 0) (fun _ => 0) 12 i12 i13 i14 i15 (fun _ => 0) (fun _ => 0) (fun _ => 0) 0 (-1) (fun _ => 0) 0 (fun _ => 0) (fun _ => 0) (fun _ => 0) (fun _ => 0) (fun _ => 0) i28 i29 j30 j31 j32 i33 r34 100 (upd (fun _ => 0) 1 1) (upd (fun _ => 0) 1 tt) (upd (fun _ => 0) 1 n) (fun _ => 0) r40 i41) H := hP
                have hD : va_D A (zM k q j0 j1 (fun _ => 0) (fun _ => 0) r4 (fun _ => 0) r6 (fun _ => 0) (fun _ => 0) (fun _ => 0) (fun _ => 0) 12 i12 i13 i14 i15 (fun _ => 0) (fun _ => 0) (fun _ => 0) 0 (-1) (fun _ => 0) 0 (fun _ => 0) (fun _ => 0) (fun _ => 0) (fun _ => 0) (fun _ => 0) i28 i29 j30 j31 j32 i33 r34 100 (upd (fun _ => 0) 1 1) (upd (fun _ => 0) 1 tt) (upd (fun _ => 0) 1 n) (fun _ => 0) r40 i41) := hD
                refine lv_iconst (v := 0) hx hb dX7_sheet_56 (by decide) ?_
                refine lv_istore (lv' := [(4, .int 0), (0, .ref (q 0)), (1, .int 1), (2, .int tt), (3, .int n)]) hx hb dX7_sheet_57 hl (by decide) rfl (fun ls hl => ?_)
                obtain ⟨it, eit⟩ : ∃ it : Nat → Int32, it = (fun _ => 0) := ⟨_, rfl⟩
                have hP : va_P (dC, dI) vwCl (zM k q j0 j1 (fun _ => 0) (fun _ => 0) r4 (fun _ => 0) r6 (fun _ => 0) (fun _ => 0) (fun _ => 0) (fun _ => 0) 12 i12 i13 i14 i15 (fun _ => 0) (fun _ => 0) (fun _ => 0) 0 (-1) (fun _ => 0) 0 (fun _ => 0) (fun _ => 0) (fun _ => 0) (fun _ => 0) (fun _ => 0) i28 i29 j30 j31 j32 i33 r34 100 (upd (fun _ => 0) 1 1) (upd (fun _ => 0) 1 tt) (upd (fun _ => 0) 1 n) it r40 i41) H := by rw [eit]; exact hP
                have hD : va_D A (zM k q j0 j1 (fun _ => 0) (fun _ => 0) r4 (fun _ => 0) r6 (fun _ => 0) (fun _ => 0) (fun _ => 0) (fun _ => 0) 12 i12 i13 i14 i15 (fun _ => 0) (fun _ => 0) (fun _ => 0) 0 (-1) (fun _ => 0) 0 (fun _ => 0) (fun _ => 0) (fun _ => 0) (fun _ => 0) (fun _ => 0) i28 i29 j30 j31 j32 i33 r34 100 (upd (fun _ => 0) 1 1) (upd (fun _ => 0) 1 tt) (upd (fun _ => 0) 1 n) it r40 i41) := by rw [eit]; exact hD
                obtain ⟨j, ej⟩ : ∃ j : Nat, j = 0 := ⟨_, rfl⟩
                replace hl : lv_has ls 5 [(4, .int (nI j)), (0, .ref (q 0)), (1, .int 1), (2, .int tt), (3, .int n)] := by rw [ej]; exact hl
                have hj : j ≤ 60 := by omega
                obtain ⟨mm, hm⟩ : ∃ mm : Nat, mm = 60 - j := ⟨_, rfl⟩
                clear eit ej
                refine z_cut hP hD hS hl ?_
                clear hl hP hD
                intro H locs ls hP hD hS hl
                induction mm using Nat.strongRecOn generalizing it j H locs ls with
                | _ mm ih =>
                  refine lv_iload hx hb dX7_sheet_59 (lv_at hl 0 rfl) ?_
                  refine lv_bipush (v := 60) hx hb dX7_sheet_61 (by decide) ?_
                  refine lv_icmp_ge (tgt := 85) hx hb dX7_sheet_63 (by decide) (fun c_37 => ?_) (fun c_37 => ?_)
                  · skip
                    have c_37' : ¬ (nI j) ≤ 59 := (z_ge_pred (by decide)).mp c_37
                    refine lv_iload_n hx hb dX7_sheet_85 rfl (lv_at hl 4 rfl) ?_
                    exact W.iret (v := n) hx hb hr (fun t ht hW => ⟨⟨n, (upd (fun _ => 0) 1 1, upd (fun _ => 0) 1 tt, upd (fun _ => 0) 1 n, it, i41), rfl, (by first | exact ((if_pos (by repeat' (first | assumption | decide | constructor))).trans (if_neg (by assumption))).symm | exact ((if_pos (by repeat' (first | assumption | decide | constructor))).trans (if_pos (by assumption))).symm | exact (if_neg (fun hh => absurd hh.1.1 (by assumption))).symm | exact (if_neg (fun hh => absurd hh.1.2 (by assumption))).symm | exact (if_neg (fun hh => absurd hh.2 (by assumption))).symm), ⟨by rw [ht]; exact hP, hD⟩⟩, hS.F ht⟩) hS.2.2 dX7_sheet_86
                  · skip
                    have c_37' : (nI j) ≤ 59 := Decidable.not_not.mp (fun h => c_37 ((z_ge_pred (by decide)).mpr h))
                    have hlt : j < 60 := Nat.lt_of_not_le (fun q => c_37 (nI_le (a := 60) q (by omega)))
                    refine lv_aload_n hx hb dX7_sheet_66 rfl (lv_at hl 1 rfl) ?_
                    refine va_get (D := (dC, dI)) (ci := 7) (v := .ref (q 39)) (C := RX7) (T := TX7) (N := 42) hx hb hts hi7 hown hK.1 hP 0 rfl rfl 39 (by decide) (hts _ wmt3_206) (fun _ h9 => h9) rfl dX7_sheet_67 ?_
                    refine lv_bipush (v := 60) hx hb dX7_sheet_70 (by decide) ?_
                    refine lv_iload_n hx hb dX7_sheet_72 rfl (lv_at hl 2 rfl) ?_
                    refine lv_imul hx hb dX7_sheet_73 ?_
                    refine z_top (v2 := .int 60) (congrArg Value.int (by decide)) ?_
                    refine lv_iload hx hb dX7_sheet_74 (lv_at hl 0 rfl) ?_
                    refine lv_iadd hx hb dX7_sheet_76 ?_
                    refine lv_topi (fun x_38 ex_38 => ?_)
                    refine lv_iconst (v := 0) hx hb dX7_sheet_77 (by decide) ?_
                    refine va_iast (D := (dC, dI)) hx hb hK.1 hP hD hS 23 0 rfl rfl (by first | exact vp_in_nI (by omega) (by decide) | (rw [ex_38]; exact z_ix hlt (by decide))) dX7_sheet_78 (fun H locs hP hD hS => ?_)
                    obtain ⟨it2, hP, hD⟩ : ∃ it2 : Nat → Int32, va_P (dC, dI) vwCl (zM k q j0 j1 (fun _ => 0) (fun _ => 0) r4 (fun _ => 0) r6 (fun _ => 0) (fun _ => 0) (fun _ => 0) (fun _ => 0) 12 i12 i13 i14 i15 (fun _ => 0) (fun _ => 0) (fun _ => 0) 0 (-1) (fun _ => 0) 0 (fun _ => 0) (fun _ => 0) (fun _ => 0) (fun _ => 0) (fun _ => 0) i28 i29 j30 j31 j32 i33 r34 100 (upd (fun _ => 0) 1 1) (upd (fun _ => 0) 1 tt) (upd (fun _ => 0) 1 n) it2 r40 i41) H ∧ va_D A (zM k q j0 j1 (fun _ => 0) (fun _ => 0) r4 (fun _ => 0) r6 (fun _ => 0) (fun _ => 0) (fun _ => 0) (fun _ => 0) 12 i12 i13 i14 i15 (fun _ => 0) (fun _ => 0) (fun _ => 0) 0 (-1) (fun _ => 0) 0 (fun _ => 0) (fun _ => 0) (fun _ => 0) (fun _ => 0) (fun _ => 0) i28 i29 j30 j31 j32 i33 r34 100 (upd (fun _ => 0) 1 1) (upd (fun _ => 0) 1 tt) (upd (fun _ => 0) 1 n) it2 r40 i41) := ⟨_, hP, hD⟩
                    have hP : va_P (dC, dI) vwCl (zM k q j0 j1 (fun _ => 0) (fun _ => 0) r4 (fun _ => 0) r6 (fun _ => 0) (fun _ => 0) (fun _ => 0) (fun _ => 0) 12 i12 i13 i14 i15 (fun _ => 0) (fun _ => 0) (fun _ => 0) 0 (-1) (fun _ => 0) 0 (fun _ => 0) (fun _ => 0) (fun _ => 0) (fun _ => 0) (fun _ => 0) i28 i29 j30 j31 j32 i33 r34 100 (upd (fun _ => 0) 1 1) (upd (fun _ => 0) 1 tt) (upd (fun _ => 0) 1 n) it2 r40 i41) H := hP
                    have hD : va_D A (zM k q j0 j1 (fun _ => 0) (fun _ => 0) r4 (fun _ => 0) r6 (fun _ => 0) (fun _ => 0) (fun _ => 0) (fun _ => 0) 12 i12 i13 i14 i15 (fun _ => 0) (fun _ => 0) (fun _ => 0) 0 (-1) (fun _ => 0) 0 (fun _ => 0) (fun _ => 0) (fun _ => 0) (fun _ => 0) (fun _ => 0) i28 i29 j30 j31 j32 i33 r34 100 (upd (fun _ => 0) 1 1) (upd (fun _ => 0) 1 tt) (upd (fun _ => 0) 1 n) it2 r40 i41) := hD
                    refine lv_iinc (v := nI (j + 1)) (lv' := [(4, .int (nI (j + 1))), (0, .ref (q 0)), (1, .int 1), (2, .int tt), (3, .int n)]) hx hb dX7_sheet_79 hl (k := 0) rfl (nI_1 j) (by decide) rfl (fun ls hl => ?_)
                    refine lv_goto (tgt := 59) hx hb dX7_sheet_82 (by decide) ?_
                    exact ih (60 - (j + 1)) (by omega) it2 (j + 1) (by omega) rfl H locs ls hP hD hS (lv_sub hl [0, 1, 2, 3, 4] rfl)
              · skip
                refine lv_aload_n hx hb dX7_sheet_29 rfl (lv_at hl 0 rfl) ?_
                refine lv_iconst (v := 5) hx hb dX7_sheet_30 (by decide) ?_
                refine zcA_i (w := (zM k q j0 j1 (fun _ => 0) (fun _ => 0) r4 (fun _ => 0) r6 (fun _ => 0) (fun _ => 0) (fun _ => 0) (fun _ => 0) 12 i12 i13 i14 i15 (fun _ => 0) (fun _ => 0) (fun _ => 0) 0 (-1) (fun _ => 0) 0 (fun _ => 0) (fun _ => 0) (fun _ => 0) (fun _ => 0) (fun _ => 0) i28 i29 j30 j31 j32 i33 r34 100 (fun _ => 0) (fun _ => 0) (fun _ => 0) (fun _ => 0) r40 i41)) (va_runV (As := [.int 5]) (rest := []) ⟨hx, hb, hml, hown, hts⟩ (c_X7_meets_5 l dC dI k T q j0 j1 r4 r6 i12 i13 i14 i15 i28 i29 j30 j31 j32 i33 r34 r40 i41 _ ) (cwV 1 hts (gzV wmt4_174 wmt4_176 wmp3_4 wmt1_8 wmt4_177) rfl rfl rfl (by decide +kernel) ⟨Nat.le_of_ble_eq_true rfl, Nat.le_of_ble_eq_true rfl⟩) (zpA_V (ci := 7) (q0 := 0) hK hP hD rfl rfl) rfl rfl hl.1 rfl (lv_room (Nat.le_of_ble_eq_true rfl)) dX7_sheet_31 ⟨Nat.le_of_ble_eq_true rfl, Nat.le_of_ble_eq_true rfl⟩) hD hS hA (fun r_39 u_40 H locs w_41 hP hD hS => ?_)
                obtain ⟨oi41_42, rfl⟩ : ∃ z, z = u_40 := ⟨_, rfl⟩
                have hP : va_P (dC, dI) vwCl (zM k q j0 j1 (fun _ => 0) (fun _ => 0) r4 (fun _ => 0) r6 (fun _ => 0) (fun _ => 0) (fun _ => 0) (fun _ => 0) 12 i12 i13 i14 i15 (fun _ => 0) (fun _ => 0) (fun _ => 0) 0 (-1) (fun _ => 0) 0 (fun _ => 0) (fun _ => 0) (fun _ => 0) (fun _ => 0) (fun _ => 0) i28 i29 j30 j31 j32 i33 r34 100 (fun _ => 0) (fun _ => 0) (fun _ => 0) (fun _ => 0) r40 oi41_42) H := hP
                have hD : va_D A (zM k q j0 j1 (fun _ => 0) (fun _ => 0) r4 (fun _ => 0) r6 (fun _ => 0) (fun _ => 0) (fun _ => 0) (fun _ => 0) 12 i12 i13 i14 i15 (fun _ => 0) (fun _ => 0) (fun _ => 0) 0 (-1) (fun _ => 0) 0 (fun _ => 0) (fun _ => 0) (fun _ => 0) (fun _ => 0) (fun _ => 0) i28 i29 j30 j31 j32 i33 r34 100 (fun _ => 0) (fun _ => 0) (fun _ => 0) (fun _ => 0) r40 oi41_42) := hD
                have e_43 := w_41
                replace e_43 : r_39 = (-15) := e_43
                subst e_43
                exact W.iret (v := (-15)) hx hb hr (fun t ht hW => ⟨⟨(-15), ((fun _ => 0), (fun _ => 0), (fun _ => 0), (fun _ => 0), oi41_42), rfl, (by first | exact ((if_pos (by repeat' (first | assumption | decide | constructor))).trans (if_neg (by assumption))).symm | exact ((if_pos (by repeat' (first | assumption | decide | constructor))).trans (if_pos (by assumption))).symm | exact (if_neg (fun hh => absurd hh.1.1 (by assumption))).symm | exact (if_neg (fun hh => absurd hh.1.2 (by assumption))).symm | exact (if_neg (fun hh => absurd hh.2 (by assumption))).symm), ⟨by rw [ht]; exact hP, hD⟩⟩, hS.F ht⟩) hS.2.2 dX7_sheet_34
            · skip
              refine lv_bipush (v := (-2)) hx hb dX7_sheet_22 (by decide) ?_
              exact W.iret (v := (-2)) hx hb hr (fun t ht hW => ⟨⟨(-2), ((fun _ => 0), (fun _ => 0), (fun _ => 0), (fun _ => 0), i41), rfl, (by first | exact ((if_pos (by repeat' (first | assumption | decide | constructor))).trans (if_neg (by assumption))).symm | exact ((if_pos (by repeat' (first | assumption | decide | constructor))).trans (if_pos (by assumption))).symm | exact (if_neg (fun hh => absurd hh.1.1 (by assumption))).symm | exact (if_neg (fun hh => absurd hh.1.2 (by assumption))).symm | exact (if_neg (fun hh => absurd hh.2 (by assumption))).symm), ⟨by rw [ht]; exact hP, hD⟩⟩, hS.F ht⟩) hS.2.2 dX7_sheet_24
        · skip
          replace e_33 : r_27 = 0 := e_33
          subst e_33
          replace h_32 : ¬ (0 ≤ tt ∧ tt ≤ 2) := h_32
          refine lv_if_eq (tgt := 22) hx hb dX7_sheet_13 (by decide) (fun c_44 => ?_) (fun c_44 => ?_)
          · skip
            refine lv_bipush (v := (-2)) hx hb dX7_sheet_22 (by decide) ?_
            exact W.iret (v := (-2)) hx hb hr (fun t ht hW => ⟨⟨(-2), ((fun _ => 0), (fun _ => 0), (fun _ => 0), (fun _ => 0), i41), rfl, (by first | exact ((if_pos (by repeat' (first | assumption | decide | constructor))).trans (if_neg (by assumption))).symm | exact ((if_pos (by repeat' (first | assumption | decide | constructor))).trans (if_pos (by assumption))).symm | exact (if_neg (fun hh => absurd hh.1.1 (by assumption))).symm | exact (if_neg (fun hh => absurd hh.1.2 (by assumption))).symm | exact (if_neg (fun hh => absurd hh.2 (by assumption))).symm), ⟨by rw [ht]; exact hP, hD⟩⟩, hS.F ht⟩) hS.2.2 dX7_sheet_24
          · skip
            exact absurd (by decide) c_44
    · skip
      refine lv_if_eq (tgt := 22) hx hb dX7_sheet_4 (by decide) (fun c_45 => ?_) (fun c_45 => ?_)
      · skip
        exact absurd c_45 (by decide)
      · skip
        refine lv_iload_n hx hb dX7_sheet_7 rfl (lv_at hl 2 rfl) ?_
        refine lv_iconst (v := 0) hx hb dX7_sheet_8 (by decide) ?_
        refine lv_iconst (v := 2) hx hb dX7_sheet_9 (by decide) ?_
        refine zc0_i (w := (zM k q j0 j1 (fun _ => 0) (fun _ => 0) r4 (fun _ => 0) r6 (fun _ => 0) (fun _ => 0) (fun _ => 0) (fun _ => 0) 12 i12 i13 i14 i15 (fun _ => 0) (fun _ => 0) (fun _ => 0) 0 (-1) (fun _ => 0) 0 (fun _ => 0) (fun _ => 0) (fun _ => 0) (fun _ => 0) (fun _ => 0) i28 i29 j30 j31 j32 i33 r34 100 (fun _ => 0) (fun _ => 0) (fun _ => 0) (fun _ => 0) r40 i41)) (va_runS (As := [.int tt, .int 0, .int 2]) (rest := []) ⟨hx, hb, hml, hown, hts⟩ (c_X7_in l dC dI k T tt 0 2 _ ) (va_cwS 3 hts (gzS wmt4_62 wmt4_63 wmt1_8 wmt4_64) rfl rfl rfl (by decide +kernel) ⟨Nat.le_of_ble_eq_true rfl, Nat.le_of_ble_eq_true rfl⟩) (zp0_S hK) rfl rfl hl.1 rfl (lv_room (Nat.le_of_ble_eq_true rfl)) dX7_sheet_10 ⟨Nat.le_of_ble_eq_true rfl, Nat.le_of_ble_eq_true rfl⟩) hP hS hA (fun r_46 u_47 H locs w_48 hP hS => ?_)
        rcases w_48 with ⟨e_50, h_49⟩ | ⟨e_52, h_51⟩
        · skip
          replace e_50 : r_46 = 1 := e_50
          subst e_50
          replace h_49 : 0 ≤ tt ∧ tt ≤ 2 := h_49
          refine lv_if_eq (tgt := 22) hx hb dX7_sheet_13 (by decide) (fun c_53 => ?_) (fun c_53 => ?_)
          · skip
            exact absurd c_53 (by decide)
          · skip
            refine lv_iload_n hx hb dX7_sheet_16 rfl (lv_at hl 3 rfl) ?_
            refine lv_bipush (v := 60) hx hb dX7_sheet_17 (by decide) ?_
            refine lv_icmp_le (tgt := 25) hx hb dX7_sheet_19 (by decide) (fun c_54 => ?_) (fun c_54 => ?_)
            · skip
              refine lv_iload_n hx hb dX7_sheet_25 rfl (lv_at hl 3 rfl) ?_
              refine lv_if_ge (tgt := 35) hx hb dX7_sheet_26 (by decide) (fun c_55 => ?_) (fun c_55 => ?_)
              · skip
                refine lv_aload_n hx hb dX7_sheet_35 rfl (lv_at hl 0 rfl) ?_
                refine va_get (D := (dC, dI)) (ci := 7) (v := .ref (q 36)) (C := RX7) (T := TX7) (N := 42) hx hb hts hi7 hown hK.1 hP 0 rfl rfl 36 (by decide) (hts _ wmt3_203) (fun _ h9 => h9) rfl dX7_sheet_36 ?_
                refine lv_iload_n hx hb dX7_sheet_39 rfl (lv_at hl 1 rfl) ?_
                refine lv_iconst (v := 1) hx hb dX7_sheet_40 (by decide) ?_
                refine va_zast (D := (dC, dI)) hx hb hK.1 hP hD hS 20 2 rfl rfl (show ¬ _ by decide) dX7_sheet_41 (fun H locs hP hD hS => ?_)
                have hP : va_P (dC, dI) vwCl (zM k q j0 j1 (fun _ => 0) (fun _ => 0) r4 (fun _ => 0) r6 (fun _ => 0) (fun _ => 0) (fun _ => 0) (fun _ => 0) 12 i12 i13 i14 i15 (fun _ => 0) (fun _ => 0) (fun _ => 0) 0 (-1) (fun _ => 0) 0 (fun _ => 0) (fun _ => 0) (fun _ => 0) (fun _ => 0) (fun _ => 0) i28 i29 j30 j31 j32 i33 r34 100 (upd (fun _ => 0) 2 1) (fun _ => 0) (fun _ => 0) (fun _ => 0) r40 i41) H := hP
                have hD : va_D A (zM k q j0 j1 (fun _ => 0) (fun _ => 0) r4 (fun _ => 0) r6 (fun _ => 0) (fun _ => 0) (fun _ => 0) (fun _ => 0) 12 i12 i13 i14 i15 (fun _ => 0) (fun _ => 0) (fun _ => 0) 0 (-1) (fun _ => 0) 0 (fun _ => 0) (fun _ => 0) (fun _ => 0) (fun _ => 0) (fun _ => 0) i28 i29 j30 j31 j32 i33 r34 100 (upd (fun _ => 0) 2 1) (fun _ => 0) (fun _ => 0) (fun _ => 0) r40 i41) := hD
                refine lv_aload_n hx hb dX7_sheet_42 rfl (lv_at hl 0 rfl) ?_
                refine va_get (D := (dC, dI)) (ci := 7) (v := .ref (q 37)) (C := RX7) (T := TX7) (N := 42) hx hb hts hi7 hown hK.1 hP 0 rfl rfl 37 (by decide) (hts _ wmt3_204) (fun _ h9 => h9) rfl dX7_sheet_43 ?_
                refine lv_iload_n hx hb dX7_sheet_46 rfl (lv_at hl 1 rfl) ?_
                refine lv_iload_n hx hb dX7_sheet_47 rfl (lv_at hl 2 rfl) ?_
                refine va_iast (D := (dC, dI)) hx hb hK.1 hP hD hS 21 0 rfl rfl (show ¬ _ by decide) dX7_sheet_48 (fun H locs hP hD hS => ?_)
                have hP : va_P (dC, dI) vwCl (zM k q j0 j1 (fun _ => 0) (fun _ => 0) r4 (fun _ => 0) r6 (fun _ => 0) (fun _ => 0) (fun _ => 0) (fun _ => 0) 12 i12 i13 i14 i15 (fun _ => 0) (fun _ => 0) (fun _ => 0) 0 (-1) (fun _ => 0) 0 (fun _ => 0) (fun _ => 0) (fun _ => 0) (fun _ => 0) (fun _ => 0) i28 i29 j30 j31 j32 i33 r34 100 (upd (fun _ => 0) 2 1) (upd (fun _ => 0) 2 tt) (fun _ => 0) (fun _ => 0) r40 i41) H := hP
                have hD : va_D A (zM k q j0 j1 (fun _ => 0) (fun _ => 0) r4 (fun _ => 0) r6 (fun _ => 0) (fun _ => 0) (fun _ => 0) (fun _ => 0) 12 i12 i13 i14 i15 (fun _ => 0) (fun _ => 0) (fun _ => 0) 0 (-1) (fun _ => 0) 0 (fun _ => 0) (fun _ => 0) (fun _ => 0) (fun _ => 0) (fun _ => 0) i28 i29 j30 j31 j32 i33 r34 100 (upd (fun _ => 0) 2 1) (upd (fun _ => 0) 2 tt) (fun _ => 0) (fun _ => 0) r40 i41) := hD
                refine lv_aload_n hx hb dX7_sheet_49 rfl (lv_at hl 0 rfl) ?_
                refine va_get (D := (dC, dI)) (ci := 7) (v := .ref (q 38)) (C := RX7) (T := TX7) (N := 42) hx hb hts hi7 hown hK.1 hP 0 rfl rfl 38 (by decide) (hts _ wmt3_205) (fun _ h9 => h9) rfl dX7_sheet_50 ?_
                refine lv_iload_n hx hb dX7_sheet_53 rfl (lv_at hl 1 rfl) ?_
                refine lv_iload_n hx hb dX7_sheet_54 rfl (lv_at hl 3 rfl) ?_
                refine va_iast (D := (dC, dI)) hx hb hK.1 hP hD hS 22 0 rfl rfl (show ¬ _ by decide) dX7_sheet_55 (fun H locs hP hD hS => ?_)
                have hP : va_P (dC, dI) vwCl (zM k q j0 j1 (fun _ => 0) (fun _ => 0) r4 (fun _ => 0) r6 (fun _ => 0) (fun _ => 0) (fun _ => 0) (fun _ => 0) 12 i12 i13 i14 i15 (fun _ => 0) (fun _ => 0) (fun _ => 0) 0 (-1) (fun _ => 0) 0 (fun _ => 0) (fun _ => 0) (fun _ => 0) (fun _ => 0) (fun _ => 0) i28 i29 j30 j31 j32 i33 r34 100 (upd (fun _ => 0) 2 1) (upd (fun _ => 0) 2 tt) (upd (fun _ => 0) 2 n) (fun _ => 0) r40 i41) H := hP
                have hD : va_D A (zM k q j0 j1 (fun _ => 0) (fun _ => 0) r4 (fun _ => 0) r6 (fun _ => 0) (fun _ => 0) (fun _ => 0) (fun _ => 0) 12 i12 i13 i14 i15 (fun _ => 0) (fun _ => 0) (fun _ => 0) 0 (-1) (fun _ => 0) 0 (fun _ => 0) (fun _ => 0) (fun _ => 0) (fun _ => 0) (fun _ => 0) i28 i29 j30 j31 j32 i33 r34 100 (upd (fun _ => 0) 2 1) (upd (fun _ => 0) 2 tt) (upd (fun _ => 0) 2 n) (fun _ => 0) r40 i41) := hD
                refine lv_iconst (v := 0) hx hb dX7_sheet_56 (by decide) ?_
                refine lv_istore (lv' := [(4, .int 0), (0, .ref (q 0)), (1, .int 2), (2, .int tt), (3, .int n)]) hx hb dX7_sheet_57 hl (by decide) rfl (fun ls hl => ?_)
                obtain ⟨it, eit⟩ : ∃ it : Nat → Int32, it = (fun _ => 0) := ⟨_, rfl⟩
                have hP : va_P (dC, dI) vwCl (zM k q j0 j1 (fun _ => 0) (fun _ => 0) r4 (fun _ => 0) r6 (fun _ => 0) (fun _ => 0) (fun _ => 0) (fun _ => 0) 12 i12 i13 i14 i15 (fun _ => 0) (fun _ => 0) (fun _ => 0) 0 (-1) (fun _ => 0) 0 (fun _ => 0) (fun _ => 0) (fun _ => 0) (fun _ => 0) (fun _ => 0) i28 i29 j30 j31 j32 i33 r34 100 (upd (fun _ => 0) 2 1) (upd (fun _ => 0) 2 tt) (upd (fun _ => 0) 2 n) it r40 i41) H := by rw [eit]; exact hP
                have hD : va_D A (zM k q j0 j1 (fun _ => 0) (fun _ => 0) r4 (fun _ => 0) r6 (fun _ => 0) (fun _ => 0) (fun _ => 0) (fun _ => 0) 12 i12 i13 i14 i15 (fun _ => 0) (fun _ => 0) (fun _ => 0) 0 (-1) (fun _ => 0) 0 (fun _ => 0) (fun _ => 0) (fun _ => 0) (fun _ => 0) (fun _ => 0) i28 i29 j30 j31 j32 i33 r34 100 (upd (fun _ => 0) 2 1) (upd (fun _ => 0) 2 tt) (upd (fun _ => 0) 2 n) it r40 i41) := by rw [eit]; exact hD
                obtain ⟨j, ej⟩ : ∃ j : Nat, j = 0 := ⟨_, rfl⟩
                replace hl : lv_has ls 5 [(4, .int (nI j)), (0, .ref (q 0)), (1, .int 2), (2, .int tt), (3, .int n)] := by rw [ej]; exact hl
                have hj : j ≤ 60 := by omega
                obtain ⟨mm, hm⟩ : ∃ mm : Nat, mm = 60 - j := ⟨_, rfl⟩
                clear eit ej
                refine z_cut hP hD hS hl ?_
                clear hl hP hD
                intro H locs ls hP hD hS hl
                induction mm using Nat.strongRecOn generalizing it j H locs ls with
                | _ mm ih =>
                  refine lv_iload hx hb dX7_sheet_59 (lv_at hl 0 rfl) ?_
                  refine lv_bipush (v := 60) hx hb dX7_sheet_61 (by decide) ?_
                  refine lv_icmp_ge (tgt := 85) hx hb dX7_sheet_63 (by decide) (fun c_56 => ?_) (fun c_56 => ?_)
                  · skip
                    have c_56' : ¬ (nI j) ≤ 59 := (z_ge_pred (by decide)).mp c_56
                    refine lv_iload_n hx hb dX7_sheet_85 rfl (lv_at hl 4 rfl) ?_
                    exact W.iret (v := n) hx hb hr (fun t ht hW => ⟨⟨n, (upd (fun _ => 0) 2 1, upd (fun _ => 0) 2 tt, upd (fun _ => 0) 2 n, it, i41), rfl, (by first | exact ((if_pos (by repeat' (first | assumption | decide | constructor))).trans (if_neg (by assumption))).symm | exact ((if_pos (by repeat' (first | assumption | decide | constructor))).trans (if_pos (by assumption))).symm | exact (if_neg (fun hh => absurd hh.1.1 (by assumption))).symm | exact (if_neg (fun hh => absurd hh.1.2 (by assumption))).symm | exact (if_neg (fun hh => absurd hh.2 (by assumption))).symm), ⟨by rw [ht]; exact hP, hD⟩⟩, hS.F ht⟩) hS.2.2 dX7_sheet_86
                  · skip
                    have c_56' : (nI j) ≤ 59 := Decidable.not_not.mp (fun h => c_56 ((z_ge_pred (by decide)).mpr h))
                    have hlt : j < 60 := Nat.lt_of_not_le (fun q => c_56 (nI_le (a := 60) q (by omega)))
                    refine lv_aload_n hx hb dX7_sheet_66 rfl (lv_at hl 1 rfl) ?_
                    refine va_get (D := (dC, dI)) (ci := 7) (v := .ref (q 39)) (C := RX7) (T := TX7) (N := 42) hx hb hts hi7 hown hK.1 hP 0 rfl rfl 39 (by decide) (hts _ wmt3_206) (fun _ h9 => h9) rfl dX7_sheet_67 ?_
                    refine lv_bipush (v := 60) hx hb dX7_sheet_70 (by decide) ?_
                    refine lv_iload_n hx hb dX7_sheet_72 rfl (lv_at hl 2 rfl) ?_
                    refine lv_imul hx hb dX7_sheet_73 ?_
                    refine z_top (v2 := .int 120) (congrArg Value.int (by decide)) ?_
                    refine lv_iload hx hb dX7_sheet_74 (lv_at hl 0 rfl) ?_
                    refine lv_iadd hx hb dX7_sheet_76 ?_
                    refine lv_topi (fun x_57 ex_57 => ?_)
                    refine lv_iconst (v := 0) hx hb dX7_sheet_77 (by decide) ?_
                    refine va_iast (D := (dC, dI)) hx hb hK.1 hP hD hS 23 0 rfl rfl (by first | exact vp_in_nI (by omega) (by decide) | (rw [ex_57]; exact z_ix hlt (by decide))) dX7_sheet_78 (fun H locs hP hD hS => ?_)
                    obtain ⟨it2, hP, hD⟩ : ∃ it2 : Nat → Int32, va_P (dC, dI) vwCl (zM k q j0 j1 (fun _ => 0) (fun _ => 0) r4 (fun _ => 0) r6 (fun _ => 0) (fun _ => 0) (fun _ => 0) (fun _ => 0) 12 i12 i13 i14 i15 (fun _ => 0) (fun _ => 0) (fun _ => 0) 0 (-1) (fun _ => 0) 0 (fun _ => 0) (fun _ => 0) (fun _ => 0) (fun _ => 0) (fun _ => 0) i28 i29 j30 j31 j32 i33 r34 100 (upd (fun _ => 0) 2 1) (upd (fun _ => 0) 2 tt) (upd (fun _ => 0) 2 n) it2 r40 i41) H ∧ va_D A (zM k q j0 j1 (fun _ => 0) (fun _ => 0) r4 (fun _ => 0) r6 (fun _ => 0) (fun _ => 0) (fun _ => 0) (fun _ => 0) 12 i12 i13 i14 i15 (fun _ => 0) (fun _ => 0) (fun _ => 0) 0 (-1) (fun _ => 0) 0 (fun _ => 0) (fun _ => 0) (fun _ => 0) (fun _ => 0) (fun _ => 0) i28 i29 j30 j31 j32 i33 r34 100 (upd (fun _ => 0) 2 1) (upd (fun _ => 0) 2 tt) (upd (fun _ => 0) 2 n) it2 r40 i41) := ⟨_, hP, hD⟩
                    have hP : va_P (dC, dI) vwCl (zM k q j0 j1 (fun _ => 0) (fun _ => 0) r4 (fun _ => 0) r6 (fun _ => 0) (fun _ => 0) (fun _ => 0) (fun _ => 0) 12 i12 i13 i14 i15 (fun _ => 0) (fun _ => 0) (fun _ => 0) 0 (-1) (fun _ => 0) 0 (fun _ => 0) (fun _ => 0) (fun _ => 0) (fun _ => 0) (fun _ => 0) i28 i29 j30 j31 j32 i33 r34 100 (upd (fun _ => 0) 2 1) (upd (fun _ => 0) 2 tt) (upd (fun _ => 0) 2 n) it2 r40 i41) H := hP
                    have hD : va_D A (zM k q j0 j1 (fun _ => 0) (fun _ => 0) r4 (fun _ => 0) r6 (fun _ => 0) (fun _ => 0) (fun _ => 0) (fun _ => 0) 12 i12 i13 i14 i15 (fun _ => 0) (fun _ => 0) (fun _ => 0) 0 (-1) (fun _ => 0) 0 (fun _ => 0) (fun _ => 0) (fun _ => 0) (fun _ => 0) (fun _ => 0) i28 i29 j30 j31 j32 i33 r34 100 (upd (fun _ => 0) 2 1) (upd (fun _ => 0) 2 tt) (upd (fun _ => 0) 2 n) it2 r40 i41) := hD
                    refine lv_iinc (v := nI (j + 1)) (lv' := [(4, .int (nI (j + 1))), (0, .ref (q 0)), (1, .int 2), (2, .int tt), (3, .int n)]) hx hb dX7_sheet_79 hl (k := 0) rfl (nI_1 j) (by decide) rfl (fun ls hl => ?_)
                    refine lv_goto (tgt := 59) hx hb dX7_sheet_82 (by decide) ?_
                    exact ih (60 - (j + 1)) (by omega) it2 (j + 1) (by omega) rfl H locs ls hP hD hS (lv_sub hl [0, 1, 2, 3, 4] rfl)
              · skip
                refine lv_aload_n hx hb dX7_sheet_29 rfl (lv_at hl 0 rfl) ?_
                refine lv_iconst (v := 5) hx hb dX7_sheet_30 (by decide) ?_
                refine zcA_i (w := (zM k q j0 j1 (fun _ => 0) (fun _ => 0) r4 (fun _ => 0) r6 (fun _ => 0) (fun _ => 0) (fun _ => 0) (fun _ => 0) 12 i12 i13 i14 i15 (fun _ => 0) (fun _ => 0) (fun _ => 0) 0 (-1) (fun _ => 0) 0 (fun _ => 0) (fun _ => 0) (fun _ => 0) (fun _ => 0) (fun _ => 0) i28 i29 j30 j31 j32 i33 r34 100 (fun _ => 0) (fun _ => 0) (fun _ => 0) (fun _ => 0) r40 i41)) (va_runV (As := [.int 5]) (rest := []) ⟨hx, hb, hml, hown, hts⟩ (c_X7_meets_5 l dC dI k T q j0 j1 r4 r6 i12 i13 i14 i15 i28 i29 j30 j31 j32 i33 r34 r40 i41 _ ) (cwV 1 hts (gzV wmt4_174 wmt4_176 wmp3_4 wmt1_8 wmt4_177) rfl rfl rfl (by decide +kernel) ⟨Nat.le_of_ble_eq_true rfl, Nat.le_of_ble_eq_true rfl⟩) (zpA_V (ci := 7) (q0 := 0) hK hP hD rfl rfl) rfl rfl hl.1 rfl (lv_room (Nat.le_of_ble_eq_true rfl)) dX7_sheet_31 ⟨Nat.le_of_ble_eq_true rfl, Nat.le_of_ble_eq_true rfl⟩) hD hS hA (fun r_58 u_59 H locs w_60 hP hD hS => ?_)
                obtain ⟨oi41_61, rfl⟩ : ∃ z, z = u_59 := ⟨_, rfl⟩
                have hP : va_P (dC, dI) vwCl (zM k q j0 j1 (fun _ => 0) (fun _ => 0) r4 (fun _ => 0) r6 (fun _ => 0) (fun _ => 0) (fun _ => 0) (fun _ => 0) 12 i12 i13 i14 i15 (fun _ => 0) (fun _ => 0) (fun _ => 0) 0 (-1) (fun _ => 0) 0 (fun _ => 0) (fun _ => 0) (fun _ => 0) (fun _ => 0) (fun _ => 0) i28 i29 j30 j31 j32 i33 r34 100 (fun _ => 0) (fun _ => 0) (fun _ => 0) (fun _ => 0) r40 oi41_61) H := hP
                have hD : va_D A (zM k q j0 j1 (fun _ => 0) (fun _ => 0) r4 (fun _ => 0) r6 (fun _ => 0) (fun _ => 0) (fun _ => 0) (fun _ => 0) 12 i12 i13 i14 i15 (fun _ => 0) (fun _ => 0) (fun _ => 0) 0 (-1) (fun _ => 0) 0 (fun _ => 0) (fun _ => 0) (fun _ => 0) (fun _ => 0) (fun _ => 0) i28 i29 j30 j31 j32 i33 r34 100 (fun _ => 0) (fun _ => 0) (fun _ => 0) (fun _ => 0) r40 oi41_61) := hD
                have e_62 := w_60
                replace e_62 : r_58 = (-15) := e_62
                subst e_62
                exact W.iret (v := (-15)) hx hb hr (fun t ht hW => ⟨⟨(-15), ((fun _ => 0), (fun _ => 0), (fun _ => 0), (fun _ => 0), oi41_61), rfl, (by first | exact ((if_pos (by repeat' (first | assumption | decide | constructor))).trans (if_neg (by assumption))).symm | exact ((if_pos (by repeat' (first | assumption | decide | constructor))).trans (if_pos (by assumption))).symm | exact (if_neg (fun hh => absurd hh.1.1 (by assumption))).symm | exact (if_neg (fun hh => absurd hh.1.2 (by assumption))).symm | exact (if_neg (fun hh => absurd hh.2 (by assumption))).symm), ⟨by rw [ht]; exact hP, hD⟩⟩, hS.F ht⟩) hS.2.2 dX7_sheet_34
            · skip
              refine lv_bipush (v := (-2)) hx hb dX7_sheet_22 (by decide) ?_
              exact W.iret (v := (-2)) hx hb hr (fun t ht hW => ⟨⟨(-2), ((fun _ => 0), (fun _ => 0), (fun _ => 0), (fun _ => 0), i41), rfl, (by first | exact ((if_pos (by repeat' (first | assumption | decide | constructor))).trans (if_neg (by assumption))).symm | exact ((if_pos (by repeat' (first | assumption | decide | constructor))).trans (if_pos (by assumption))).symm | exact (if_neg (fun hh => absurd hh.1.1 (by assumption))).symm | exact (if_neg (fun hh => absurd hh.1.2 (by assumption))).symm | exact (if_neg (fun hh => absurd hh.2 (by assumption))).symm), ⟨by rw [ht]; exact hP, hD⟩⟩, hS.F ht⟩) hS.2.2 dX7_sheet_24
        · skip
          replace e_52 : r_46 = 0 := e_52
          subst e_52
          replace h_51 : ¬ (0 ≤ tt ∧ tt ≤ 2) := h_51
          refine lv_if_eq (tgt := 22) hx hb dX7_sheet_13 (by decide) (fun c_63 => ?_) (fun c_63 => ?_)
          · skip
            refine lv_bipush (v := (-2)) hx hb dX7_sheet_22 (by decide) ?_
            exact W.iret (v := (-2)) hx hb hr (fun t ht hW => ⟨⟨(-2), ((fun _ => 0), (fun _ => 0), (fun _ => 0), (fun _ => 0), i41), rfl, (by first | exact ((if_pos (by repeat' (first | assumption | decide | constructor))).trans (if_neg (by assumption))).symm | exact ((if_pos (by repeat' (first | assumption | decide | constructor))).trans (if_pos (by assumption))).symm | exact (if_neg (fun hh => absurd hh.1.1 (by assumption))).symm | exact (if_neg (fun hh => absurd hh.1.2 (by assumption))).symm | exact (if_neg (fun hh => absurd hh.2 (by assumption))).symm), ⟨by rw [ht]; exact hP, hD⟩⟩, hS.F ht⟩) hS.2.2 dX7_sheet_24
          · skip
            exact absurd (by decide) c_63
    · skip
      refine lv_if_eq (tgt := 22) hx hb dX7_sheet_4 (by decide) (fun c_64 => ?_) (fun c_64 => ?_)
      · skip
        exact absurd c_64 (by decide)
      · skip
        refine lv_iload_n hx hb dX7_sheet_7 rfl (lv_at hl 2 rfl) ?_
        refine lv_iconst (v := 0) hx hb dX7_sheet_8 (by decide) ?_
        refine lv_iconst (v := 2) hx hb dX7_sheet_9 (by decide) ?_
        refine zc0_i (w := (zM k q j0 j1 (fun _ => 0) (fun _ => 0) r4 (fun _ => 0) r6 (fun _ => 0) (fun _ => 0) (fun _ => 0) (fun _ => 0) 12 i12 i13 i14 i15 (fun _ => 0) (fun _ => 0) (fun _ => 0) 0 (-1) (fun _ => 0) 0 (fun _ => 0) (fun _ => 0) (fun _ => 0) (fun _ => 0) (fun _ => 0) i28 i29 j30 j31 j32 i33 r34 100 (fun _ => 0) (fun _ => 0) (fun _ => 0) (fun _ => 0) r40 i41)) (va_runS (As := [.int tt, .int 0, .int 2]) (rest := []) ⟨hx, hb, hml, hown, hts⟩ (c_X7_in l dC dI k T tt 0 2 _ ) (va_cwS 3 hts (gzS wmt4_62 wmt4_63 wmt1_8 wmt4_64) rfl rfl rfl (by decide +kernel) ⟨Nat.le_of_ble_eq_true rfl, Nat.le_of_ble_eq_true rfl⟩) (zp0_S hK) rfl rfl hl.1 rfl (lv_room (Nat.le_of_ble_eq_true rfl)) dX7_sheet_10 ⟨Nat.le_of_ble_eq_true rfl, Nat.le_of_ble_eq_true rfl⟩) hP hS hA (fun r_65 u_66 H locs w_67 hP hS => ?_)
        rcases w_67 with ⟨e_69, h_68⟩ | ⟨e_71, h_70⟩
        · skip
          replace e_69 : r_65 = 1 := e_69
          subst e_69
          replace h_68 : 0 ≤ tt ∧ tt ≤ 2 := h_68
          refine lv_if_eq (tgt := 22) hx hb dX7_sheet_13 (by decide) (fun c_72 => ?_) (fun c_72 => ?_)
          · skip
            exact absurd c_72 (by decide)
          · skip
            refine lv_iload_n hx hb dX7_sheet_16 rfl (lv_at hl 3 rfl) ?_
            refine lv_bipush (v := 60) hx hb dX7_sheet_17 (by decide) ?_
            refine lv_icmp_le (tgt := 25) hx hb dX7_sheet_19 (by decide) (fun c_73 => ?_) (fun c_73 => ?_)
            · skip
              refine lv_iload_n hx hb dX7_sheet_25 rfl (lv_at hl 3 rfl) ?_
              refine lv_if_ge (tgt := 35) hx hb dX7_sheet_26 (by decide) (fun c_74 => ?_) (fun c_74 => ?_)
              · skip
                refine lv_aload_n hx hb dX7_sheet_35 rfl (lv_at hl 0 rfl) ?_
                refine va_get (D := (dC, dI)) (ci := 7) (v := .ref (q 36)) (C := RX7) (T := TX7) (N := 42) hx hb hts hi7 hown hK.1 hP 0 rfl rfl 36 (by decide) (hts _ wmt3_203) (fun _ h9 => h9) rfl dX7_sheet_36 ?_
                refine lv_iload_n hx hb dX7_sheet_39 rfl (lv_at hl 1 rfl) ?_
                refine lv_iconst (v := 1) hx hb dX7_sheet_40 (by decide) ?_
                refine va_zast (D := (dC, dI)) hx hb hK.1 hP hD hS 20 2 rfl rfl (show ¬ _ by decide) dX7_sheet_41 (fun H locs hP hD hS => ?_)
                have hP : va_P (dC, dI) vwCl (zM k q j0 j1 (fun _ => 0) (fun _ => 0) r4 (fun _ => 0) r6 (fun _ => 0) (fun _ => 0) (fun _ => 0) (fun _ => 0) 12 i12 i13 i14 i15 (fun _ => 0) (fun _ => 0) (fun _ => 0) 0 (-1) (fun _ => 0) 0 (fun _ => 0) (fun _ => 0) (fun _ => 0) (fun _ => 0) (fun _ => 0) i28 i29 j30 j31 j32 i33 r34 100 (upd (fun _ => 0) 3 1) (fun _ => 0) (fun _ => 0) (fun _ => 0) r40 i41) H := hP
                have hD : va_D A (zM k q j0 j1 (fun _ => 0) (fun _ => 0) r4 (fun _ => 0) r6 (fun _ => 0) (fun _ => 0) (fun _ => 0) (fun _ => 0) 12 i12 i13 i14 i15 (fun _ => 0) (fun _ => 0) (fun _ => 0) 0 (-1) (fun _ => 0) 0 (fun _ => 0) (fun _ => 0) (fun _ => 0) (fun _ => 0) (fun _ => 0) i28 i29 j30 j31 j32 i33 r34 100 (upd (fun _ => 0) 3 1) (fun _ => 0) (fun _ => 0) (fun _ => 0) r40 i41) := hD
                refine lv_aload_n hx hb dX7_sheet_42 rfl (lv_at hl 0 rfl) ?_
                refine va_get (D := (dC, dI)) (ci := 7) (v := .ref (q 37)) (C := RX7) (T := TX7) (N := 42) hx hb hts hi7 hown hK.1 hP 0 rfl rfl 37 (by decide) (hts _ wmt3_204) (fun _ h9 => h9) rfl dX7_sheet_43 ?_
                refine lv_iload_n hx hb dX7_sheet_46 rfl (lv_at hl 1 rfl) ?_
                refine lv_iload_n hx hb dX7_sheet_47 rfl (lv_at hl 2 rfl) ?_
                refine va_iast (D := (dC, dI)) hx hb hK.1 hP hD hS 21 0 rfl rfl (show ¬ _ by decide) dX7_sheet_48 (fun H locs hP hD hS => ?_)
                have hP : va_P (dC, dI) vwCl (zM k q j0 j1 (fun _ => 0) (fun _ => 0) r4 (fun _ => 0) r6 (fun _ => 0) (fun _ => 0) (fun _ => 0) (fun _ => 0) 12 i12 i13 i14 i15 (fun _ => 0) (fun _ => 0) (fun _ => 0) 0 (-1) (fun _ => 0) 0 (fun _ => 0) (fun _ => 0) (fun _ => 0) (fun _ => 0) (fun _ => 0) i28 i29 j30 j31 j32 i33 r34 100 (upd (fun _ => 0) 3 1) (upd (fun _ => 0) 3 tt) (fun _ => 0) (fun _ => 0) r40 i41) H := hP
                have hD : va_D A (zM k q j0 j1 (fun _ => 0) (fun _ => 0) r4 (fun _ => 0) r6 (fun _ => 0) (fun _ => 0) (fun _ => 0) (fun _ => 0) 12 i12 i13 i14 i15 (fun _ => 0) (fun _ => 0) (fun _ => 0) 0 (-1) (fun _ => 0) 0 (fun _ => 0) (fun _ => 0) (fun _ => 0) (fun _ => 0) (fun _ => 0) i28 i29 j30 j31 j32 i33 r34 100 (upd (fun _ => 0) 3 1) (upd (fun _ => 0) 3 tt) (fun _ => 0) (fun _ => 0) r40 i41) := hD
                refine lv_aload_n hx hb dX7_sheet_49 rfl (lv_at hl 0 rfl) ?_
                refine va_get (D := (dC, dI)) (ci := 7) (v := .ref (q 38)) (C := RX7) (T := TX7) (N := 42) hx hb hts hi7 hown hK.1 hP 0 rfl rfl 38 (by decide) (hts _ wmt3_205) (fun _ h9 => h9) rfl dX7_sheet_50 ?_
                refine lv_iload_n hx hb dX7_sheet_53 rfl (lv_at hl 1 rfl) ?_
                refine lv_iload_n hx hb dX7_sheet_54 rfl (lv_at hl 3 rfl) ?_
                refine va_iast (D := (dC, dI)) hx hb hK.1 hP hD hS 22 0 rfl rfl (show ¬ _ by decide) dX7_sheet_55 (fun H locs hP hD hS => ?_)
                have hP : va_P (dC, dI) vwCl (zM k q j0 j1 (fun _ => 0) (fun _ => 0) r4 (fun _ => 0) r6 (fun _ => 0) (fun _ => 0) (fun _ => 0) (fun _ => 0) 12 i12 i13 i14 i15 (fun _ => 0) (fun _ => 0) (fun _ => 0) 0 (-1) (fun _ => 0) 0 (fun _ => 0) (fun _ => 0) (fun _ => 0) (fun _ => 0) (fun _ => 0) i28 i29 j30 j31 j32 i33 r34 100 (upd (fun _ => 0) 3 1) (upd (fun _ => 0) 3 tt) (upd (fun _ => 0) 3 n) (fun _ => 0) r40 i41) H := hP
                have hD : va_D A (zM k q j0 j1 (fun _ => 0) (fun _ => 0) r4 (fun _ => 0) r6 (fun _ => 0) (fun _ => 0) (fun _ => 0) (fun _ => 0) 12 i12 i13 i14 i15 (fun _ => 0) (fun _ => 0) (fun _ => 0) 0 (-1) (fun _ => 0) 0 (fun _ => 0) (fun _ => 0) (fun _ => 0) (fun _ => 0) (fun _ => 0) i28 i29 j30 j31 j32 i33 r34 100 (upd (fun _ => 0) 3 1) (upd (fun _ => 0) 3 tt) (upd (fun _ => 0) 3 n) (fun _ => 0) r40 i41) := hD
                refine lv_iconst (v := 0) hx hb dX7_sheet_56 (by decide) ?_
                refine lv_istore (lv' := [(4, .int 0), (0, .ref (q 0)), (1, .int 3), (2, .int tt), (3, .int n)]) hx hb dX7_sheet_57 hl (by decide) rfl (fun ls hl => ?_)
                obtain ⟨it, eit⟩ : ∃ it : Nat → Int32, it = (fun _ => 0) := ⟨_, rfl⟩
                have hP : va_P (dC, dI) vwCl (zM k q j0 j1 (fun _ => 0) (fun _ => 0) r4 (fun _ => 0) r6 (fun _ => 0) (fun _ => 0) (fun _ => 0) (fun _ => 0) 12 i12 i13 i14 i15 (fun _ => 0) (fun _ => 0) (fun _ => 0) 0 (-1) (fun _ => 0) 0 (fun _ => 0) (fun _ => 0) (fun _ => 0) (fun _ => 0) (fun _ => 0) i28 i29 j30 j31 j32 i33 r34 100 (upd (fun _ => 0) 3 1) (upd (fun _ => 0) 3 tt) (upd (fun _ => 0) 3 n) it r40 i41) H := by rw [eit]; exact hP
                have hD : va_D A (zM k q j0 j1 (fun _ => 0) (fun _ => 0) r4 (fun _ => 0) r6 (fun _ => 0) (fun _ => 0) (fun _ => 0) (fun _ => 0) 12 i12 i13 i14 i15 (fun _ => 0) (fun _ => 0) (fun _ => 0) 0 (-1) (fun _ => 0) 0 (fun _ => 0) (fun _ => 0) (fun _ => 0) (fun _ => 0) (fun _ => 0) i28 i29 j30 j31 j32 i33 r34 100 (upd (fun _ => 0) 3 1) (upd (fun _ => 0) 3 tt) (upd (fun _ => 0) 3 n) it r40 i41) := by rw [eit]; exact hD
                obtain ⟨j, ej⟩ : ∃ j : Nat, j = 0 := ⟨_, rfl⟩
                replace hl : lv_has ls 5 [(4, .int (nI j)), (0, .ref (q 0)), (1, .int 3), (2, .int tt), (3, .int n)] := by rw [ej]; exact hl
                have hj : j ≤ 60 := by omega
                obtain ⟨mm, hm⟩ : ∃ mm : Nat, mm = 60 - j := ⟨_, rfl⟩
                clear eit ej
                refine z_cut hP hD hS hl ?_
                clear hl hP hD
                intro H locs ls hP hD hS hl
                induction mm using Nat.strongRecOn generalizing it j H locs ls with
                | _ mm ih =>
                  refine lv_iload hx hb dX7_sheet_59 (lv_at hl 0 rfl) ?_
                  refine lv_bipush (v := 60) hx hb dX7_sheet_61 (by decide) ?_
                  refine lv_icmp_ge (tgt := 85) hx hb dX7_sheet_63 (by decide) (fun c_75 => ?_) (fun c_75 => ?_)
                  · skip
                    have c_75' : ¬ (nI j) ≤ 59 := (z_ge_pred (by decide)).mp c_75
                    refine lv_iload_n hx hb dX7_sheet_85 rfl (lv_at hl 4 rfl) ?_
                    exact W.iret (v := n) hx hb hr (fun t ht hW => ⟨⟨n, (upd (fun _ => 0) 3 1, upd (fun _ => 0) 3 tt, upd (fun _ => 0) 3 n, it, i41), rfl, (by first | exact ((if_pos (by repeat' (first | assumption | decide | constructor))).trans (if_neg (by assumption))).symm | exact ((if_pos (by repeat' (first | assumption | decide | constructor))).trans (if_pos (by assumption))).symm | exact (if_neg (fun hh => absurd hh.1.1 (by assumption))).symm | exact (if_neg (fun hh => absurd hh.1.2 (by assumption))).symm | exact (if_neg (fun hh => absurd hh.2 (by assumption))).symm), ⟨by rw [ht]; exact hP, hD⟩⟩, hS.F ht⟩) hS.2.2 dX7_sheet_86
                  · skip
                    have c_75' : (nI j) ≤ 59 := Decidable.not_not.mp (fun h => c_75 ((z_ge_pred (by decide)).mpr h))
                    have hlt : j < 60 := Nat.lt_of_not_le (fun q => c_75 (nI_le (a := 60) q (by omega)))
                    refine lv_aload_n hx hb dX7_sheet_66 rfl (lv_at hl 1 rfl) ?_
                    refine va_get (D := (dC, dI)) (ci := 7) (v := .ref (q 39)) (C := RX7) (T := TX7) (N := 42) hx hb hts hi7 hown hK.1 hP 0 rfl rfl 39 (by decide) (hts _ wmt3_206) (fun _ h9 => h9) rfl dX7_sheet_67 ?_
                    refine lv_bipush (v := 60) hx hb dX7_sheet_70 (by decide) ?_
                    refine lv_iload_n hx hb dX7_sheet_72 rfl (lv_at hl 2 rfl) ?_
                    refine lv_imul hx hb dX7_sheet_73 ?_
                    refine z_top (v2 := .int 180) (congrArg Value.int (by decide)) ?_
                    refine lv_iload hx hb dX7_sheet_74 (lv_at hl 0 rfl) ?_
                    refine lv_iadd hx hb dX7_sheet_76 ?_
                    refine lv_topi (fun x_76 ex_76 => ?_)
                    refine lv_iconst (v := 0) hx hb dX7_sheet_77 (by decide) ?_
                    refine va_iast (D := (dC, dI)) hx hb hK.1 hP hD hS 23 0 rfl rfl (by first | exact vp_in_nI (by omega) (by decide) | (rw [ex_76]; exact z_ix hlt (by decide))) dX7_sheet_78 (fun H locs hP hD hS => ?_)
                    obtain ⟨it2, hP, hD⟩ : ∃ it2 : Nat → Int32, va_P (dC, dI) vwCl (zM k q j0 j1 (fun _ => 0) (fun _ => 0) r4 (fun _ => 0) r6 (fun _ => 0) (fun _ => 0) (fun _ => 0) (fun _ => 0) 12 i12 i13 i14 i15 (fun _ => 0) (fun _ => 0) (fun _ => 0) 0 (-1) (fun _ => 0) 0 (fun _ => 0) (fun _ => 0) (fun _ => 0) (fun _ => 0) (fun _ => 0) i28 i29 j30 j31 j32 i33 r34 100 (upd (fun _ => 0) 3 1) (upd (fun _ => 0) 3 tt) (upd (fun _ => 0) 3 n) it2 r40 i41) H ∧ va_D A (zM k q j0 j1 (fun _ => 0) (fun _ => 0) r4 (fun _ => 0) r6 (fun _ => 0) (fun _ => 0) (fun _ => 0) (fun _ => 0) 12 i12 i13 i14 i15 (fun _ => 0) (fun _ => 0) (fun _ => 0) 0 (-1) (fun _ => 0) 0 (fun _ => 0) (fun _ => 0) (fun _ => 0) (fun _ => 0) (fun _ => 0) i28 i29 j30 j31 j32 i33 r34 100 (upd (fun _ => 0) 3 1) (upd (fun _ => 0) 3 tt) (upd (fun _ => 0) 3 n) it2 r40 i41) := ⟨_, hP, hD⟩
                    have hP : va_P (dC, dI) vwCl (zM k q j0 j1 (fun _ => 0) (fun _ => 0) r4 (fun _ => 0) r6 (fun _ => 0) (fun _ => 0) (fun _ => 0) (fun _ => 0) 12 i12 i13 i14 i15 (fun _ => 0) (fun _ => 0) (fun _ => 0) 0 (-1) (fun _ => 0) 0 (fun _ => 0) (fun _ => 0) (fun _ => 0) (fun _ => 0) (fun _ => 0) i28 i29 j30 j31 j32 i33 r34 100 (upd (fun _ => 0) 3 1) (upd (fun _ => 0) 3 tt) (upd (fun _ => 0) 3 n) it2 r40 i41) H := hP
                    have hD : va_D A (zM k q j0 j1 (fun _ => 0) (fun _ => 0) r4 (fun _ => 0) r6 (fun _ => 0) (fun _ => 0) (fun _ => 0) (fun _ => 0) 12 i12 i13 i14 i15 (fun _ => 0) (fun _ => 0) (fun _ => 0) 0 (-1) (fun _ => 0) 0 (fun _ => 0) (fun _ => 0) (fun _ => 0) (fun _ => 0) (fun _ => 0) i28 i29 j30 j31 j32 i33 r34 100 (upd (fun _ => 0) 3 1) (upd (fun _ => 0) 3 tt) (upd (fun _ => 0) 3 n) it2 r40 i41) := hD
                    refine lv_iinc (v := nI (j + 1)) (lv' := [(4, .int (nI (j + 1))), (0, .ref (q 0)), (1, .int 3), (2, .int tt), (3, .int n)]) hx hb dX7_sheet_79 hl (k := 0) rfl (nI_1 j) (by decide) rfl (fun ls hl => ?_)
                    refine lv_goto (tgt := 59) hx hb dX7_sheet_82 (by decide) ?_
                    exact ih (60 - (j + 1)) (by omega) it2 (j + 1) (by omega) rfl H locs ls hP hD hS (lv_sub hl [0, 1, 2, 3, 4] rfl)
              · skip
                refine lv_aload_n hx hb dX7_sheet_29 rfl (lv_at hl 0 rfl) ?_
                refine lv_iconst (v := 5) hx hb dX7_sheet_30 (by decide) ?_
                refine zcA_i (w := (zM k q j0 j1 (fun _ => 0) (fun _ => 0) r4 (fun _ => 0) r6 (fun _ => 0) (fun _ => 0) (fun _ => 0) (fun _ => 0) 12 i12 i13 i14 i15 (fun _ => 0) (fun _ => 0) (fun _ => 0) 0 (-1) (fun _ => 0) 0 (fun _ => 0) (fun _ => 0) (fun _ => 0) (fun _ => 0) (fun _ => 0) i28 i29 j30 j31 j32 i33 r34 100 (fun _ => 0) (fun _ => 0) (fun _ => 0) (fun _ => 0) r40 i41)) (va_runV (As := [.int 5]) (rest := []) ⟨hx, hb, hml, hown, hts⟩ (c_X7_meets_5 l dC dI k T q j0 j1 r4 r6 i12 i13 i14 i15 i28 i29 j30 j31 j32 i33 r34 r40 i41 _ ) (cwV 1 hts (gzV wmt4_174 wmt4_176 wmp3_4 wmt1_8 wmt4_177) rfl rfl rfl (by decide +kernel) ⟨Nat.le_of_ble_eq_true rfl, Nat.le_of_ble_eq_true rfl⟩) (zpA_V (ci := 7) (q0 := 0) hK hP hD rfl rfl) rfl rfl hl.1 rfl (lv_room (Nat.le_of_ble_eq_true rfl)) dX7_sheet_31 ⟨Nat.le_of_ble_eq_true rfl, Nat.le_of_ble_eq_true rfl⟩) hD hS hA (fun r_77 u_78 H locs w_79 hP hD hS => ?_)
                obtain ⟨oi41_80, rfl⟩ : ∃ z, z = u_78 := ⟨_, rfl⟩
                have hP : va_P (dC, dI) vwCl (zM k q j0 j1 (fun _ => 0) (fun _ => 0) r4 (fun _ => 0) r6 (fun _ => 0) (fun _ => 0) (fun _ => 0) (fun _ => 0) 12 i12 i13 i14 i15 (fun _ => 0) (fun _ => 0) (fun _ => 0) 0 (-1) (fun _ => 0) 0 (fun _ => 0) (fun _ => 0) (fun _ => 0) (fun _ => 0) (fun _ => 0) i28 i29 j30 j31 j32 i33 r34 100 (fun _ => 0) (fun _ => 0) (fun _ => 0) (fun _ => 0) r40 oi41_80) H := hP
                have hD : va_D A (zM k q j0 j1 (fun _ => 0) (fun _ => 0) r4 (fun _ => 0) r6 (fun _ => 0) (fun _ => 0) (fun _ => 0) (fun _ => 0) 12 i12 i13 i14 i15 (fun _ => 0) (fun _ => 0) (fun _ => 0) 0 (-1) (fun _ => 0) 0 (fun _ => 0) (fun _ => 0) (fun _ => 0) (fun _ => 0) (fun _ => 0) i28 i29 j30 j31 j32 i33 r34 100 (fun _ => 0) (fun _ => 0) (fun _ => 0) (fun _ => 0) r40 oi41_80) := hD
                have e_81 := w_79
                replace e_81 : r_77 = (-15) := e_81
                subst e_81
                exact W.iret (v := (-15)) hx hb hr (fun t ht hW => ⟨⟨(-15), ((fun _ => 0), (fun _ => 0), (fun _ => 0), (fun _ => 0), oi41_80), rfl, (by first | exact ((if_pos (by repeat' (first | assumption | decide | constructor))).trans (if_neg (by assumption))).symm | exact ((if_pos (by repeat' (first | assumption | decide | constructor))).trans (if_pos (by assumption))).symm | exact (if_neg (fun hh => absurd hh.1.1 (by assumption))).symm | exact (if_neg (fun hh => absurd hh.1.2 (by assumption))).symm | exact (if_neg (fun hh => absurd hh.2 (by assumption))).symm), ⟨by rw [ht]; exact hP, hD⟩⟩, hS.F ht⟩) hS.2.2 dX7_sheet_34
            · skip
              refine lv_bipush (v := (-2)) hx hb dX7_sheet_22 (by decide) ?_
              exact W.iret (v := (-2)) hx hb hr (fun t ht hW => ⟨⟨(-2), ((fun _ => 0), (fun _ => 0), (fun _ => 0), (fun _ => 0), i41), rfl, (by first | exact ((if_pos (by repeat' (first | assumption | decide | constructor))).trans (if_neg (by assumption))).symm | exact ((if_pos (by repeat' (first | assumption | decide | constructor))).trans (if_pos (by assumption))).symm | exact (if_neg (fun hh => absurd hh.1.1 (by assumption))).symm | exact (if_neg (fun hh => absurd hh.1.2 (by assumption))).symm | exact (if_neg (fun hh => absurd hh.2 (by assumption))).symm), ⟨by rw [ht]; exact hP, hD⟩⟩, hS.F ht⟩) hS.2.2 dX7_sheet_24
        · skip
          replace e_71 : r_65 = 0 := e_71
          subst e_71
          replace h_70 : ¬ (0 ≤ tt ∧ tt ≤ 2) := h_70
          refine lv_if_eq (tgt := 22) hx hb dX7_sheet_13 (by decide) (fun c_82 => ?_) (fun c_82 => ?_)
          · skip
            refine lv_bipush (v := (-2)) hx hb dX7_sheet_22 (by decide) ?_
            exact W.iret (v := (-2)) hx hb hr (fun t ht hW => ⟨⟨(-2), ((fun _ => 0), (fun _ => 0), (fun _ => 0), (fun _ => 0), i41), rfl, (by first | exact ((if_pos (by repeat' (first | assumption | decide | constructor))).trans (if_neg (by assumption))).symm | exact ((if_pos (by repeat' (first | assumption | decide | constructor))).trans (if_pos (by assumption))).symm | exact (if_neg (fun hh => absurd hh.1.1 (by assumption))).symm | exact (if_neg (fun hh => absurd hh.1.2 (by assumption))).symm | exact (if_neg (fun hh => absurd hh.2 (by assumption))).symm), ⟨by rw [ht]; exact hP, hD⟩⟩, hS.F ht⟩) hS.2.2 dX7_sheet_24
          · skip
            exact absurd (by decide) c_82
  · skip
    replace e_7 : r_1 = 0 := e_7
    subst e_7
    replace h_6 : ¬ (0 ≤ (z : Int32) ∧ (z : Int32) ≤ 3) := h_6
    refine lv_if_eq (tgt := 22) hx hb dX7_sheet_4 (by decide) (fun c_83 => ?_) (fun c_83 => ?_)
    · skip
      refine lv_bipush (v := (-2)) hx hb dX7_sheet_22 (by decide) ?_
      exact W.iret (v := (-2)) hx hb hr (fun t ht hW => ⟨⟨(-2), ((fun _ => 0), (fun _ => 0), (fun _ => 0), (fun _ => 0), i41), rfl, (by first | exact ((if_pos (by repeat' (first | assumption | decide | constructor))).trans (if_neg (by assumption))).symm | exact ((if_pos (by repeat' (first | assumption | decide | constructor))).trans (if_pos (by assumption))).symm | exact (if_neg (fun hh => absurd hh.1.1 (by assumption))).symm | exact (if_neg (fun hh => absurd hh.1.2 (by assumption))).symm | exact (if_neg (fun hh => absurd hh.2 (by assumption))).symm), ⟨by rw [ht]; exact hP, hD⟩⟩, hS.F ht⟩) hS.2.2 dX7_sheet_24
    · skip
      exact absurd (by decide) c_83
set_option maxHeartbeats 4000000 in
set_option maxRecDepth 100000 in
theorem c_X6_sheet (l : Launch) (dC : Nat → ClassId) (dI : Nat → Nat → Nat) (k : Nat → ClassId)  (q : Nat → Nat) (aps : Int32) (ar1 : Nat → Int32) (ar2 : Nat → Int32) (ar3 : Nat → Int32) (ar4 : Nat → Int32) (ar5 : Nat → Int32) (ar6 : Nat → Int32) (ar7 : Nat → Int32) (ph : Int32) (pp : Int32) (py : Int32) (wy : Nat → Int64) (fa : Int64) (fb : Int64) (cm0 : Int64) (ia0 : Int32) (ih0 : Int32) (in0 : Int32) (il0 : Int32) (tx0 : Nat → Int32) (sh0 : Nat → Int64) (cm1 : Int64) (ia1 : Int32) (ih1 : Int32) (in1 : Int32) (il1 : Int32) (tx1 : Nat → Int32) (sh1 : Nat → Int64) (cm2 : Int64) (ia2 : Int32) (ih2 : Int32) (in2 : Int32) (il2 : Int32) (tx2 : Nat → Int32) (sh2 : Nat → Int64) (cm3 : Int64) (ia3 : Int32) (ih3 : Int32) (in3 : Int32) (il3 : Int32) (tx3 : Nat → Int32) (sh3 : Nat → Int64) (it0 : Nat → Int32) (it1 : Nat → Int32) (it2 : Nat → Int32) (it3 : Nat → Int32) (z : Int32) (tt : Int32) (n : Int32) (sz : Nat)  : Met l yX6_sheet (wz yX6_sheet cX6_sheet 4 (some .int)) ({ frames := 2, cells := 0, slots := 0, locals := 45 }) (va_Pc [.ref (q 0), .int z, .int tt, .int n] (zPre dC dI k (zTX k) (zX k q 0 (-1) 12 100 0 (fun _ => 0) aps 0 ar1 ar2 ar3 ar4 ar5 ar6 ar7 ph pp py wy fa fb cm0 ia0 0 0 ih0 in0 il0 tx0 sh0 cm1 ia1 0 0 ih1 in1 il1 tx1 sh1 cm2 ia2 0 0 ih2 in2 il2 tx2 sh2 cm3 ia3 0 0 ih3 in3 il3 tx3 sh3 (-1) 0 it0 (-1) 0 it1 (-1) 0 it2 (-1) 0 it3) sz)) (va_Qi (fun (r : Int32) (u : Int32 × Int32 × Int32 × (Nat → Int32) × Int32 × Int32 × (Nat → Int32) × Int32 × Int32 × (Nat → Int32) × Int32 × Int32 × (Nat → Int32)) => (r = if ((0 ≤ (z : Int32) ∧ (z : Int32) ≤ 3) ∧ (0 ≤ (tt : Int32) ∧ (tt : Int32) ≤ 2)) ∧ n ≤ 60 then (if 0 ≤ n then n else (-15)) else (-2))) (fun u t => zPost dC dI (va_A (zX k q 0 (-1) 12 100 0 (fun _ => 0) aps 0 ar1 ar2 ar3 ar4 ar5 ar6 ar7 ph pp py wy fa fb cm0 ia0 0 0 ih0 in0 il0 tx0 sh0 cm1 ia1 0 0 ih1 in1 il1 tx1 sh1 cm2 ia2 0 0 ih2 in2 il2 tx2 sh2 cm3 ia3 0 0 ih3 in3 il3 tx3 sh3 (-1) 0 it0 (-1) 0 it1 (-1) 0 it2 (-1) 0 it3) sz) (zX k q 0 (-1) 12 100 u.1 (fun _ => 0) aps 0 ar1 ar2 ar3 ar4 ar5 ar6 ar7 ph pp py wy fa fb cm0 ia0 0 0 ih0 in0 il0 tx0 sh0 cm1 ia1 0 0 ih1 in1 il1 tx1 sh1 cm2 ia2 0 0 ih2 in2 il2 tx2 sh2 cm3 ia3 0 0 ih3 in3 il3 tx3 sh3 u.2.1 u.2.2.1 u.2.2.2.1 u.2.2.2.2.1 u.2.2.2.2.2.1 u.2.2.2.2.2.2.1 u.2.2.2.2.2.2.2.1 u.2.2.2.2.2.2.2.2.1 u.2.2.2.2.2.2.2.2.2.1 u.2.2.2.2.2.2.2.2.2.2.1 u.2.2.2.2.2.2.2.2.2.2.2.1 u.2.2.2.2.2.2.2.2.2.2.2.2) t) (va_A (zX k q 0 (-1) 12 100 0 (fun _ => 0) aps 0 ar1 ar2 ar3 ar4 ar5 ar6 ar7 ph pp py wy fa fb cm0 ia0 0 0 ih0 in0 il0 tx0 sh0 cm1 ia1 0 0 ih1 in1 il1 tx1 sh1 cm2 ia2 0 0 ih2 in2 il2 tx2 sh2 cm3 ia3 0 0 ih3 in3 il3 tx3 sh3 (-1) 0 it0 (-1) 0 it1 (-1) 0 it2 (-1) 0 it3) sz)) 0 0 (va_A (zX k q 0 (-1) 12 100 0 (fun _ => 0) aps 0 ar1 ar2 ar3 ar4 ar5 ar6 ar7 ph pp py wy fa fb cm0 ia0 0 0 ih0 in0 il0 tx0 sh0 cm1 ia1 0 0 ih1 in1 il1 tx1 sh1 cm2 ia2 0 0 ih2 in2 il2 tx2 sh2 cm3 ia3 0 0 ih3 in3 il3 tx3 sh3 (-1) 0 it0 (-1) 0 it1 (-1) 0 it2 (-1) 0 it3) sz) := by
  refine Met.ofW (cc := cX6_sheet) (maxL := 4) (ret := (some .int)) (by decide) rfl ?_
  intro p e s m args below meth c s₁ B hml hv
  obtain ⟨rfl, hsz, hP, hK, hD0⟩ := hv
  have hx := B.exec
  have hb := B.bytes
  have hr := B.returns
  have hts : ∀ w ∈ zw, w.before _ s = true := fun w h => atoms_spec (ws := (wz yX6_sheet cX6_sheet 4 (some .int))) B.pre w (List.mem_cons_of_mem _ h)
  have hown : s.vm.findClass RX6 = some m.cls := findClass_of_methodNamed B.named
  have hlocks := B.notSynchronized
  subst hsz
  have hi6 := inw6
  have hD := hD0.self (sz := s.heap.size)
  generalize hAe : va_A (zX k q 0 (-1) 12 100 0 (fun _ => 0) aps 0 ar1 ar2 ar3 ar4 ar5 ar6 ar7 ph pp py wy fa fb cm0 ia0 0 0 ih0 in0 il0 tx0 sh0 cm1 ia1 0 0 ih1 in1 il1 tx1 sh1 cm2 ia2 0 0 ih2 in2 il2 tx2 sh2 cm3 ia3 0 0 ih3 in3 il3 tx3 sh3 (-1) 0 it0 (-1) 0 it1 (-1) 0 it2 (-1) 0 it3) s.heap.size = A at hD ⊢
  have hA : ∀ q : Nat, s.heap.size ≤ q → A q := fun q h => by rw [← hAe]; exact Or.inr h
  have hl := lv_entry ([.ref (q 0), .int z, .int tt, .int n]) (n := 4) (Nat.le_of_ble_eq_true rfl)
  rw [lg_entry_eq]
  generalize (lg_sl ([.ref (q 0), .int z, .int tt, .int n]) ++ List.replicate (4 - (lg_sl ([.ref (q 0), .int z, .int tt, .int n])).length) Slot.unset).toArray = ls at hl ⊢
  have hl : lv_has ls 4 [(0, .ref (q 0)), (1, .int z), (2, .int tt), (3, .int n)] := hl
  refine z_start (w := (zX k q 0 (-1) 12 100 0 (fun _ => 0) aps 0 ar1 ar2 ar3 ar4 ar5 ar6 ar7 ph pp py wy fa fb cm0 ia0 0 0 ih0 in0 il0 tx0 sh0 cm1 ia1 0 0 ih1 in1 il1 tx1 sh1 cm2 ia2 0 0 ih2 in2 il2 tx2 sh2 cm3 ia3 0 0 ih3 in3 il3 tx3 sh3 (-1) 0 it0 (-1) 0 it1 (-1) 0 it2 (-1) 0 it3)) hP hD (fun H locs hP hD hS => ?_)
  refine lv_iload_n hx hb dX6_sheet_0 rfl (lv_at hl 1 rfl) ?_
  refine zc0_i (w := (zX k q 0 (-1) 12 100 0 (fun _ => 0) aps 0 ar1 ar2 ar3 ar4 ar5 ar6 ar7 ph pp py wy fa fb cm0 ia0 0 0 ih0 in0 il0 tx0 sh0 cm1 ia1 0 0 ih1 in1 il1 tx1 sh1 cm2 ia2 0 0 ih2 in2 il2 tx2 sh2 cm3 ia3 0 0 ih3 in3 il3 tx3 sh3 (-1) 0 it0 (-1) 0 it1 (-1) 0 it2 (-1) 0 it3)) (va_runS (As := [.int z]) (rest := []) ⟨hx, hb, hml, hown, hts⟩ (c_X6_isSheet l dC dI k (zTX k) z _ ) (va_cwS 1 hts (gzS wmt2_95 wmt2_96 wmt1_1 wmt2_97) rfl rfl rfl (by decide +kernel) ⟨Nat.le_of_ble_eq_true rfl, Nat.le_of_ble_eq_true rfl⟩) (zp0_S hK) rfl rfl hl.1 rfl (lv_room (Nat.le_of_ble_eq_true rfl)) dX6_sheet_1 ⟨Nat.le_of_ble_eq_true rfl, Nat.le_of_ble_eq_true rfl⟩) hP hS hA (fun r_1 u_2 H locs w_3 hP hS => ?_)
  rcases w_3 with ⟨e_5, h_4⟩ | ⟨e_7, h_6⟩
  · skip
    replace e_5 : r_1 = 1 := e_5
    subst e_5
    replace h_4 : 0 ≤ (z : Int32) ∧ (z : Int32) ≤ 3 := h_4
    rcases zi_4 h_4 with rfl | rfl | rfl | rfl
    · skip
      refine lv_if_eq (tgt := 20) hx hb dX6_sheet_4 (by decide) (fun c_8 => ?_) (fun c_8 => ?_)
      · skip
        exact absurd c_8 (by decide)
      · skip
        refine lv_iload_n hx hb dX6_sheet_7 rfl (lv_at hl 2 rfl) ?_
        refine zc0_i (w := (zX k q 0 (-1) 12 100 0 (fun _ => 0) aps 0 ar1 ar2 ar3 ar4 ar5 ar6 ar7 ph pp py wy fa fb cm0 ia0 0 0 ih0 in0 il0 tx0 sh0 cm1 ia1 0 0 ih1 in1 il1 tx1 sh1 cm2 ia2 0 0 ih2 in2 il2 tx2 sh2 cm3 ia3 0 0 ih3 in3 il3 tx3 sh3 (-1) 0 it0 (-1) 0 it1 (-1) 0 it2 (-1) 0 it3)) (va_runS (As := [.int tt]) (rest := []) ⟨hx, hb, hml, hown, hts⟩ (c_X6_isType l dC dI k (zTX k) tt _ ) (va_cwS 1 hts (gzS wmt3_89 wmt3_90 wmt1_1 wmt3_91) rfl rfl rfl (by decide +kernel) ⟨Nat.le_of_ble_eq_true rfl, Nat.le_of_ble_eq_true rfl⟩) (zp0_S hK) rfl rfl hl.1 rfl (lv_room (Nat.le_of_ble_eq_true rfl)) dX6_sheet_8 ⟨Nat.le_of_ble_eq_true rfl, Nat.le_of_ble_eq_true rfl⟩) hP hS hA (fun r_9 u_10 H locs w_11 hP hS => ?_)
        rcases w_11 with ⟨e_13, h_12⟩ | ⟨e_15, h_14⟩
        · skip
          replace e_13 : r_9 = 1 := e_13
          subst e_13
          replace h_12 : 0 ≤ (tt : Int32) ∧ (tt : Int32) ≤ 2 := h_12
          refine lv_if_eq (tgt := 20) hx hb dX6_sheet_11 (by decide) (fun c_16 => ?_) (fun c_16 => ?_)
          · skip
            exact absurd c_16 (by decide)
          · skip
            refine lv_iload_n hx hb dX6_sheet_14 rfl (lv_at hl 3 rfl) ?_
            refine lv_bipush (v := 60) hx hb dX6_sheet_15 (by decide) ?_
            refine lv_icmp_le (tgt := 23) hx hb dX6_sheet_17 (by decide) (fun c_17 => ?_) (fun c_17 => ?_)
            · skip
              refine lv_iload_n hx hb dX6_sheet_23 rfl (lv_at hl 3 rfl) ?_
              refine lv_if_ge (tgt := 33) hx hb dX6_sheet_24 (by decide) (fun c_18 => ?_) (fun c_18 => ?_)
              · skip
                refine lv_aload_n hx hb dX6_sheet_33 rfl (lv_at hl 0 rfl) ?_
                refine va_get (D := (dC, dI)) (ci := 6) (v := .ref (q 2)) (C := RX6) (T := TX6) (N := 12) hx hb hts hi6 hown hK.1 hP 0 rfl rfl 1 (by decide) (hts _ wmt1_171) (fun _ h9 => h9) rfl dX6_sheet_34 ?_
                refine lv_iload_n hx hb dX6_sheet_37 rfl (lv_at hl 1 rfl) ?_
                refine va_aldq (D := (dC, dI)) hx hb hK.1 hP 2 4 rfl rfl (show ¬ _ by decide) dX6_sheet_38 ?_
                refine z_top (v2 := .ref (q 28)) (rfl) ?_
                refine lv_iload_n hx hb dX6_sheet_39 rfl (lv_at hl 2 rfl) ?_
                refine lv_iload_n hx hb dX6_sheet_40 rfl (lv_at hl 3 rfl) ?_
                refine zcS_v (w := (zX k q 0 (-1) 12 100 0 (fun _ => 0) aps 0 ar1 ar2 ar3 ar4 ar5 ar6 ar7 ph pp py wy fa fb cm0 ia0 0 0 ih0 in0 il0 tx0 sh0 cm1 ia1 0 0 ih1 in1 il1 tx1 sh1 cm2 ia2 0 0 ih2 in2 il2 tx2 sh2 cm3 ia3 0 0 ih3 in3 il3 tx3 sh3 (-1) 0 it0 (-1) 0 it1 (-1) 0 it2 (-1) 0 it3)) (wc := (zShe k (q 28) (q 29) it0 (-1) 0)) (va_runV (As := [.int tt, .int n]) (rest := []) ⟨hx, hb, hml, hown, hts⟩ (c_X5_begin l dC dI k (zTX k) (q 28) (q 29) it0 (-1) 0 tt n _ ) (cwV 2 hts (gzV wmt3_92 wmt3_93 wmt3_94 wmt1_7 wmt3_95) rfl rfl rfl (by decide +kernel) ⟨Nat.le_of_ble_eq_true rfl, Nat.le_of_ble_eq_true rfl⟩) (zp_V (ci := 5) (q0 := 28) hK hP hD [28, 29] rfl rfl rfl rfl) rfl rfl hl.1 rfl (lv_room (Nat.le_of_ble_eq_true rfl)) dX6_sheet_41 ⟨Nat.le_of_ble_eq_true rfl, Nat.le_of_ble_eq_true rfl⟩) hP hD hS hA [28, 29] rfl (fun _ => rfl) (fun u_20 H locs w_21 hP hD hS => ?_)
                obtain ⟨oit_22, osk_23, oss_24⟩ := u_20
                have hP : va_P (dC, dI) vwCl (zX k q 0 (-1) 12 100 0 (fun _ => 0) aps 0 ar1 ar2 ar3 ar4 ar5 ar6 ar7 ph pp py wy fa fb cm0 ia0 0 0 ih0 in0 il0 tx0 sh0 cm1 ia1 0 0 ih1 in1 il1 tx1 sh1 cm2 ia2 0 0 ih2 in2 il2 tx2 sh2 cm3 ia3 0 0 ih3 in3 il3 tx3 sh3 osk_23 oss_24 oit_22 (-1) 0 it1 (-1) 0 it2 (-1) 0 it3) H := hP
                have hD : va_D A (zX k q 0 (-1) 12 100 0 (fun _ => 0) aps 0 ar1 ar2 ar3 ar4 ar5 ar6 ar7 ph pp py wy fa fb cm0 ia0 0 0 ih0 in0 il0 tx0 sh0 cm1 ia1 0 0 ih1 in1 il1 tx1 sh1 cm2 ia2 0 0 ih2 in2 il2 tx2 sh2 cm3 ia3 0 0 ih3 in3 il3 tx3 sh3 osk_23 oss_24 oit_22 (-1) 0 it1 (-1) 0 it2 (-1) 0 it3) := hD
                refine lv_iload_n hx hb dX6_sheet_44 rfl (lv_at hl 3 rfl) ?_
                exact W.iret (v := n) hx hb hr (fun t ht hW => ⟨⟨n, (0, osk_23, oss_24, oit_22, (-1), 0, it1, (-1), 0, it2, (-1), 0, it3), rfl, (by first | exact ((if_pos (by repeat' (first | assumption | decide | constructor))).trans (if_neg (by assumption))).symm | exact ((if_pos (by repeat' (first | assumption | decide | constructor))).trans (if_pos (by assumption))).symm | exact (if_neg (fun hh => absurd hh.1.1 (by assumption))).symm | exact (if_neg (fun hh => absurd hh.1.2 (by assumption))).symm | exact (if_neg (fun hh => absurd hh.2 (by assumption))).symm), ⟨by rw [ht]; exact hP, hD⟩⟩, hS.F ht⟩) hS.2.2 dX6_sheet_45
              · skip
                refine lv_aload_n hx hb dX6_sheet_27 rfl (lv_at hl 0 rfl) ?_
                refine lv_iconst (v := 5) hx hb dX6_sheet_28 (by decide) ?_
                refine zcA_i (w := (zX k q 0 (-1) 12 100 0 (fun _ => 0) aps 0 ar1 ar2 ar3 ar4 ar5 ar6 ar7 ph pp py wy fa fb cm0 ia0 0 0 ih0 in0 il0 tx0 sh0 cm1 ia1 0 0 ih1 in1 il1 tx1 sh1 cm2 ia2 0 0 ih2 in2 il2 tx2 sh2 cm3 ia3 0 0 ih3 in3 il3 tx3 sh3 (-1) 0 it0 (-1) 0 it1 (-1) 0 it2 (-1) 0 it3)) (va_runV (As := [.int 5]) (rest := []) ⟨hx, hb, hml, hown, hts⟩ (c_X6_found_5 l dC dI k  q aps ar1 ar2 ar3 ar4 ar5 ar6 ar7 ph pp py wy fa fb cm0 ia0 ih0 in0 il0 tx0 sh0 cm1 ia1 ih1 in1 il1 tx1 sh1 cm2 ia2 ih2 in2 il2 tx2 sh2 cm3 ia3 ih3 in3 il3 tx3 sh3 it0 it1 it2 it3 _ ) (cwV 1 hts (gzV wmt2_102 wmt2_104 wmp1_7 wmt1_1 wmt2_105) rfl rfl rfl (by decide +kernel) ⟨Nat.le_of_ble_eq_true rfl, Nat.le_of_ble_eq_true rfl⟩) (zpA_V (ci := 6) (q0 := 0) hK hP hD rfl rfl) rfl rfl hl.1 rfl (lv_room (Nat.le_of_ble_eq_true rfl)) dX6_sheet_29 ⟨Nat.le_of_ble_eq_true rfl, Nat.le_of_ble_eq_true rfl⟩) hD hS hA (fun r_25 u_26 H locs w_27 hP hD hS => ?_)
                obtain ⟨oxfi_28, rfl⟩ : ∃ z, z = u_26 := ⟨_, rfl⟩
                have hP : va_P (dC, dI) vwCl (zX k q 0 (-1) 12 100 oxfi_28 (fun _ => 0) aps 0 ar1 ar2 ar3 ar4 ar5 ar6 ar7 ph pp py wy fa fb cm0 ia0 0 0 ih0 in0 il0 tx0 sh0 cm1 ia1 0 0 ih1 in1 il1 tx1 sh1 cm2 ia2 0 0 ih2 in2 il2 tx2 sh2 cm3 ia3 0 0 ih3 in3 il3 tx3 sh3 (-1) 0 it0 (-1) 0 it1 (-1) 0 it2 (-1) 0 it3) H := hP
                have hD : va_D A (zX k q 0 (-1) 12 100 oxfi_28 (fun _ => 0) aps 0 ar1 ar2 ar3 ar4 ar5 ar6 ar7 ph pp py wy fa fb cm0 ia0 0 0 ih0 in0 il0 tx0 sh0 cm1 ia1 0 0 ih1 in1 il1 tx1 sh1 cm2 ia2 0 0 ih2 in2 il2 tx2 sh2 cm3 ia3 0 0 ih3 in3 il3 tx3 sh3 (-1) 0 it0 (-1) 0 it1 (-1) 0 it2 (-1) 0 it3) := hD
                have e_29 := w_27
                replace e_29 : r_25 = (-15) := e_29
                subst e_29
                exact W.iret (v := (-15)) hx hb hr (fun t ht hW => ⟨⟨(-15), (oxfi_28, (-1), 0, it0, (-1), 0, it1, (-1), 0, it2, (-1), 0, it3), rfl, (by first | exact ((if_pos (by repeat' (first | assumption | decide | constructor))).trans (if_neg (by assumption))).symm | exact ((if_pos (by repeat' (first | assumption | decide | constructor))).trans (if_pos (by assumption))).symm | exact (if_neg (fun hh => absurd hh.1.1 (by assumption))).symm | exact (if_neg (fun hh => absurd hh.1.2 (by assumption))).symm | exact (if_neg (fun hh => absurd hh.2 (by assumption))).symm), ⟨by rw [ht]; exact hP, hD⟩⟩, hS.F ht⟩) hS.2.2 dX6_sheet_32
            · skip
              refine lv_bipush (v := (-2)) hx hb dX6_sheet_20 (by decide) ?_
              exact W.iret (v := (-2)) hx hb hr (fun t ht hW => ⟨⟨(-2), (0, (-1), 0, it0, (-1), 0, it1, (-1), 0, it2, (-1), 0, it3), rfl, (by first | exact ((if_pos (by repeat' (first | assumption | decide | constructor))).trans (if_neg (by assumption))).symm | exact ((if_pos (by repeat' (first | assumption | decide | constructor))).trans (if_pos (by assumption))).symm | exact (if_neg (fun hh => absurd hh.1.1 (by assumption))).symm | exact (if_neg (fun hh => absurd hh.1.2 (by assumption))).symm | exact (if_neg (fun hh => absurd hh.2 (by assumption))).symm), ⟨by rw [ht]; exact hP, hD⟩⟩, hS.F ht⟩) hS.2.2 dX6_sheet_22
        · skip
          replace e_15 : r_9 = 0 := e_15
          subst e_15
          replace h_14 : ¬ (0 ≤ (tt : Int32) ∧ (tt : Int32) ≤ 2) := h_14
          refine lv_if_eq (tgt := 20) hx hb dX6_sheet_11 (by decide) (fun c_30 => ?_) (fun c_30 => ?_)
          · skip
            refine lv_bipush (v := (-2)) hx hb dX6_sheet_20 (by decide) ?_
            exact W.iret (v := (-2)) hx hb hr (fun t ht hW => ⟨⟨(-2), (0, (-1), 0, it0, (-1), 0, it1, (-1), 0, it2, (-1), 0, it3), rfl, (by first | exact ((if_pos (by repeat' (first | assumption | decide | constructor))).trans (if_neg (by assumption))).symm | exact ((if_pos (by repeat' (first | assumption | decide | constructor))).trans (if_pos (by assumption))).symm | exact (if_neg (fun hh => absurd hh.1.1 (by assumption))).symm | exact (if_neg (fun hh => absurd hh.1.2 (by assumption))).symm | exact (if_neg (fun hh => absurd hh.2 (by assumption))).symm), ⟨by rw [ht]; exact hP, hD⟩⟩, hS.F ht⟩) hS.2.2 dX6_sheet_22
          · skip
            exact absurd (by decide) c_30
    · skip
      refine lv_if_eq (tgt := 20) hx hb dX6_sheet_4 (by decide) (fun c_31 => ?_) (fun c_31 => ?_)
      · skip
        exact absurd c_31 (by decide)
      · skip
        refine lv_iload_n hx hb dX6_sheet_7 rfl (lv_at hl 2 rfl) ?_
        refine zc0_i (w := (zX k q 0 (-1) 12 100 0 (fun _ => 0) aps 0 ar1 ar2 ar3 ar4 ar5 ar6 ar7 ph pp py wy fa fb cm0 ia0 0 0 ih0 in0 il0 tx0 sh0 cm1 ia1 0 0 ih1 in1 il1 tx1 sh1 cm2 ia2 0 0 ih2 in2 il2 tx2 sh2 cm3 ia3 0 0 ih3 in3 il3 tx3 sh3 (-1) 0 it0 (-1) 0 it1 (-1) 0 it2 (-1) 0 it3)) (va_runS (As := [.int tt]) (rest := []) ⟨hx, hb, hml, hown, hts⟩ (c_X6_isType l dC dI k (zTX k) tt _ ) (va_cwS 1 hts (gzS wmt3_89 wmt3_90 wmt1_1 wmt3_91) rfl rfl rfl (by decide +kernel) ⟨Nat.le_of_ble_eq_true rfl, Nat.le_of_ble_eq_true rfl⟩) (zp0_S hK) rfl rfl hl.1 rfl (lv_room (Nat.le_of_ble_eq_true rfl)) dX6_sheet_8 ⟨Nat.le_of_ble_eq_true rfl, Nat.le_of_ble_eq_true rfl⟩) hP hS hA (fun r_32 u_33 H locs w_34 hP hS => ?_)
        rcases w_34 with ⟨e_36, h_35⟩ | ⟨e_38, h_37⟩
        · skip
          replace e_36 : r_32 = 1 := e_36
          subst e_36
          replace h_35 : 0 ≤ (tt : Int32) ∧ (tt : Int32) ≤ 2 := h_35
          refine lv_if_eq (tgt := 20) hx hb dX6_sheet_11 (by decide) (fun c_39 => ?_) (fun c_39 => ?_)
          · skip
            exact absurd c_39 (by decide)
          · skip
            refine lv_iload_n hx hb dX6_sheet_14 rfl (lv_at hl 3 rfl) ?_
            refine lv_bipush (v := 60) hx hb dX6_sheet_15 (by decide) ?_
            refine lv_icmp_le (tgt := 23) hx hb dX6_sheet_17 (by decide) (fun c_40 => ?_) (fun c_40 => ?_)
            · skip
              refine lv_iload_n hx hb dX6_sheet_23 rfl (lv_at hl 3 rfl) ?_
              refine lv_if_ge (tgt := 33) hx hb dX6_sheet_24 (by decide) (fun c_41 => ?_) (fun c_41 => ?_)
              · skip
                refine lv_aload_n hx hb dX6_sheet_33 rfl (lv_at hl 0 rfl) ?_
                refine va_get (D := (dC, dI)) (ci := 6) (v := .ref (q 2)) (C := RX6) (T := TX6) (N := 12) hx hb hts hi6 hown hK.1 hP 0 rfl rfl 1 (by decide) (hts _ wmt1_171) (fun _ h9 => h9) rfl dX6_sheet_34 ?_
                refine lv_iload_n hx hb dX6_sheet_37 rfl (lv_at hl 1 rfl) ?_
                refine va_aldq (D := (dC, dI)) hx hb hK.1 hP 2 4 rfl rfl (show ¬ _ by decide) dX6_sheet_38 ?_
                refine z_top (v2 := .ref (q 30)) (rfl) ?_
                refine lv_iload_n hx hb dX6_sheet_39 rfl (lv_at hl 2 rfl) ?_
                refine lv_iload_n hx hb dX6_sheet_40 rfl (lv_at hl 3 rfl) ?_
                refine zcS_v (w := (zX k q 0 (-1) 12 100 0 (fun _ => 0) aps 0 ar1 ar2 ar3 ar4 ar5 ar6 ar7 ph pp py wy fa fb cm0 ia0 0 0 ih0 in0 il0 tx0 sh0 cm1 ia1 0 0 ih1 in1 il1 tx1 sh1 cm2 ia2 0 0 ih2 in2 il2 tx2 sh2 cm3 ia3 0 0 ih3 in3 il3 tx3 sh3 (-1) 0 it0 (-1) 0 it1 (-1) 0 it2 (-1) 0 it3)) (wc := (zShe k (q 30) (q 31) it1 (-1) 0)) (va_runV (As := [.int tt, .int n]) (rest := []) ⟨hx, hb, hml, hown, hts⟩ (c_X5_begin l dC dI k (zTX k) (q 30) (q 31) it1 (-1) 0 tt n _ ) (cwV 2 hts (gzV wmt3_92 wmt3_93 wmt3_94 wmt1_7 wmt3_95) rfl rfl rfl (by decide +kernel) ⟨Nat.le_of_ble_eq_true rfl, Nat.le_of_ble_eq_true rfl⟩) (zp_V (ci := 5) (q0 := 30) hK hP hD [30, 31] rfl rfl rfl rfl) rfl rfl hl.1 rfl (lv_room (Nat.le_of_ble_eq_true rfl)) dX6_sheet_41 ⟨Nat.le_of_ble_eq_true rfl, Nat.le_of_ble_eq_true rfl⟩) hP hD hS hA [30, 31] rfl (fun _ => rfl) (fun u_43 H locs w_44 hP hD hS => ?_)
                obtain ⟨oit_45, osk_46, oss_47⟩ := u_43
                have hP : va_P (dC, dI) vwCl (zX k q 0 (-1) 12 100 0 (fun _ => 0) aps 0 ar1 ar2 ar3 ar4 ar5 ar6 ar7 ph pp py wy fa fb cm0 ia0 0 0 ih0 in0 il0 tx0 sh0 cm1 ia1 0 0 ih1 in1 il1 tx1 sh1 cm2 ia2 0 0 ih2 in2 il2 tx2 sh2 cm3 ia3 0 0 ih3 in3 il3 tx3 sh3 (-1) 0 it0 osk_46 oss_47 oit_45 (-1) 0 it2 (-1) 0 it3) H := hP
                have hD : va_D A (zX k q 0 (-1) 12 100 0 (fun _ => 0) aps 0 ar1 ar2 ar3 ar4 ar5 ar6 ar7 ph pp py wy fa fb cm0 ia0 0 0 ih0 in0 il0 tx0 sh0 cm1 ia1 0 0 ih1 in1 il1 tx1 sh1 cm2 ia2 0 0 ih2 in2 il2 tx2 sh2 cm3 ia3 0 0 ih3 in3 il3 tx3 sh3 (-1) 0 it0 osk_46 oss_47 oit_45 (-1) 0 it2 (-1) 0 it3) := hD
                refine lv_iload_n hx hb dX6_sheet_44 rfl (lv_at hl 3 rfl) ?_
                exact W.iret (v := n) hx hb hr (fun t ht hW => ⟨⟨n, (0, (-1), 0, it0, osk_46, oss_47, oit_45, (-1), 0, it2, (-1), 0, it3), rfl, (by first | exact ((if_pos (by repeat' (first | assumption | decide | constructor))).trans (if_neg (by assumption))).symm | exact ((if_pos (by repeat' (first | assumption | decide | constructor))).trans (if_pos (by assumption))).symm | exact (if_neg (fun hh => absurd hh.1.1 (by assumption))).symm | exact (if_neg (fun hh => absurd hh.1.2 (by assumption))).symm | exact (if_neg (fun hh => absurd hh.2 (by assumption))).symm), ⟨by rw [ht]; exact hP, hD⟩⟩, hS.F ht⟩) hS.2.2 dX6_sheet_45
              · skip
                refine lv_aload_n hx hb dX6_sheet_27 rfl (lv_at hl 0 rfl) ?_
                refine lv_iconst (v := 5) hx hb dX6_sheet_28 (by decide) ?_
                refine zcA_i (w := (zX k q 0 (-1) 12 100 0 (fun _ => 0) aps 0 ar1 ar2 ar3 ar4 ar5 ar6 ar7 ph pp py wy fa fb cm0 ia0 0 0 ih0 in0 il0 tx0 sh0 cm1 ia1 0 0 ih1 in1 il1 tx1 sh1 cm2 ia2 0 0 ih2 in2 il2 tx2 sh2 cm3 ia3 0 0 ih3 in3 il3 tx3 sh3 (-1) 0 it0 (-1) 0 it1 (-1) 0 it2 (-1) 0 it3)) (va_runV (As := [.int 5]) (rest := []) ⟨hx, hb, hml, hown, hts⟩ (c_X6_found_5 l dC dI k  q aps ar1 ar2 ar3 ar4 ar5 ar6 ar7 ph pp py wy fa fb cm0 ia0 ih0 in0 il0 tx0 sh0 cm1 ia1 ih1 in1 il1 tx1 sh1 cm2 ia2 ih2 in2 il2 tx2 sh2 cm3 ia3 ih3 in3 il3 tx3 sh3 it0 it1 it2 it3 _ ) (cwV 1 hts (gzV wmt2_102 wmt2_104 wmp1_7 wmt1_1 wmt2_105) rfl rfl rfl (by decide +kernel) ⟨Nat.le_of_ble_eq_true rfl, Nat.le_of_ble_eq_true rfl⟩) (zpA_V (ci := 6) (q0 := 0) hK hP hD rfl rfl) rfl rfl hl.1 rfl (lv_room (Nat.le_of_ble_eq_true rfl)) dX6_sheet_29 ⟨Nat.le_of_ble_eq_true rfl, Nat.le_of_ble_eq_true rfl⟩) hD hS hA (fun r_48 u_49 H locs w_50 hP hD hS => ?_)
                obtain ⟨oxfi_51, rfl⟩ : ∃ z, z = u_49 := ⟨_, rfl⟩
                have hP : va_P (dC, dI) vwCl (zX k q 0 (-1) 12 100 oxfi_51 (fun _ => 0) aps 0 ar1 ar2 ar3 ar4 ar5 ar6 ar7 ph pp py wy fa fb cm0 ia0 0 0 ih0 in0 il0 tx0 sh0 cm1 ia1 0 0 ih1 in1 il1 tx1 sh1 cm2 ia2 0 0 ih2 in2 il2 tx2 sh2 cm3 ia3 0 0 ih3 in3 il3 tx3 sh3 (-1) 0 it0 (-1) 0 it1 (-1) 0 it2 (-1) 0 it3) H := hP
                have hD : va_D A (zX k q 0 (-1) 12 100 oxfi_51 (fun _ => 0) aps 0 ar1 ar2 ar3 ar4 ar5 ar6 ar7 ph pp py wy fa fb cm0 ia0 0 0 ih0 in0 il0 tx0 sh0 cm1 ia1 0 0 ih1 in1 il1 tx1 sh1 cm2 ia2 0 0 ih2 in2 il2 tx2 sh2 cm3 ia3 0 0 ih3 in3 il3 tx3 sh3 (-1) 0 it0 (-1) 0 it1 (-1) 0 it2 (-1) 0 it3) := hD
                have e_52 := w_50
                replace e_52 : r_48 = (-15) := e_52
                subst e_52
                exact W.iret (v := (-15)) hx hb hr (fun t ht hW => ⟨⟨(-15), (oxfi_51, (-1), 0, it0, (-1), 0, it1, (-1), 0, it2, (-1), 0, it3), rfl, (by first | exact ((if_pos (by repeat' (first | assumption | decide | constructor))).trans (if_neg (by assumption))).symm | exact ((if_pos (by repeat' (first | assumption | decide | constructor))).trans (if_pos (by assumption))).symm | exact (if_neg (fun hh => absurd hh.1.1 (by assumption))).symm | exact (if_neg (fun hh => absurd hh.1.2 (by assumption))).symm | exact (if_neg (fun hh => absurd hh.2 (by assumption))).symm), ⟨by rw [ht]; exact hP, hD⟩⟩, hS.F ht⟩) hS.2.2 dX6_sheet_32
            · skip
              refine lv_bipush (v := (-2)) hx hb dX6_sheet_20 (by decide) ?_
              exact W.iret (v := (-2)) hx hb hr (fun t ht hW => ⟨⟨(-2), (0, (-1), 0, it0, (-1), 0, it1, (-1), 0, it2, (-1), 0, it3), rfl, (by first | exact ((if_pos (by repeat' (first | assumption | decide | constructor))).trans (if_neg (by assumption))).symm | exact ((if_pos (by repeat' (first | assumption | decide | constructor))).trans (if_pos (by assumption))).symm | exact (if_neg (fun hh => absurd hh.1.1 (by assumption))).symm | exact (if_neg (fun hh => absurd hh.1.2 (by assumption))).symm | exact (if_neg (fun hh => absurd hh.2 (by assumption))).symm), ⟨by rw [ht]; exact hP, hD⟩⟩, hS.F ht⟩) hS.2.2 dX6_sheet_22
        · skip
          replace e_38 : r_32 = 0 := e_38
          subst e_38
          replace h_37 : ¬ (0 ≤ (tt : Int32) ∧ (tt : Int32) ≤ 2) := h_37
          refine lv_if_eq (tgt := 20) hx hb dX6_sheet_11 (by decide) (fun c_53 => ?_) (fun c_53 => ?_)
          · skip
            refine lv_bipush (v := (-2)) hx hb dX6_sheet_20 (by decide) ?_
            exact W.iret (v := (-2)) hx hb hr (fun t ht hW => ⟨⟨(-2), (0, (-1), 0, it0, (-1), 0, it1, (-1), 0, it2, (-1), 0, it3), rfl, (by first | exact ((if_pos (by repeat' (first | assumption | decide | constructor))).trans (if_neg (by assumption))).symm | exact ((if_pos (by repeat' (first | assumption | decide | constructor))).trans (if_pos (by assumption))).symm | exact (if_neg (fun hh => absurd hh.1.1 (by assumption))).symm | exact (if_neg (fun hh => absurd hh.1.2 (by assumption))).symm | exact (if_neg (fun hh => absurd hh.2 (by assumption))).symm), ⟨by rw [ht]; exact hP, hD⟩⟩, hS.F ht⟩) hS.2.2 dX6_sheet_22
          · skip
            exact absurd (by decide) c_53
    · skip
      refine lv_if_eq (tgt := 20) hx hb dX6_sheet_4 (by decide) (fun c_54 => ?_) (fun c_54 => ?_)
      · skip
        exact absurd c_54 (by decide)
      · skip
        refine lv_iload_n hx hb dX6_sheet_7 rfl (lv_at hl 2 rfl) ?_
        refine zc0_i (w := (zX k q 0 (-1) 12 100 0 (fun _ => 0) aps 0 ar1 ar2 ar3 ar4 ar5 ar6 ar7 ph pp py wy fa fb cm0 ia0 0 0 ih0 in0 il0 tx0 sh0 cm1 ia1 0 0 ih1 in1 il1 tx1 sh1 cm2 ia2 0 0 ih2 in2 il2 tx2 sh2 cm3 ia3 0 0 ih3 in3 il3 tx3 sh3 (-1) 0 it0 (-1) 0 it1 (-1) 0 it2 (-1) 0 it3)) (va_runS (As := [.int tt]) (rest := []) ⟨hx, hb, hml, hown, hts⟩ (c_X6_isType l dC dI k (zTX k) tt _ ) (va_cwS 1 hts (gzS wmt3_89 wmt3_90 wmt1_1 wmt3_91) rfl rfl rfl (by decide +kernel) ⟨Nat.le_of_ble_eq_true rfl, Nat.le_of_ble_eq_true rfl⟩) (zp0_S hK) rfl rfl hl.1 rfl (lv_room (Nat.le_of_ble_eq_true rfl)) dX6_sheet_8 ⟨Nat.le_of_ble_eq_true rfl, Nat.le_of_ble_eq_true rfl⟩) hP hS hA (fun r_55 u_56 H locs w_57 hP hS => ?_)
        rcases w_57 with ⟨e_59, h_58⟩ | ⟨e_61, h_60⟩
        · skip
          replace e_59 : r_55 = 1 := e_59
          subst e_59
          replace h_58 : 0 ≤ (tt : Int32) ∧ (tt : Int32) ≤ 2 := h_58
          refine lv_if_eq (tgt := 20) hx hb dX6_sheet_11 (by decide) (fun c_62 => ?_) (fun c_62 => ?_)
          · skip
            exact absurd c_62 (by decide)
          · skip
            refine lv_iload_n hx hb dX6_sheet_14 rfl (lv_at hl 3 rfl) ?_
            refine lv_bipush (v := 60) hx hb dX6_sheet_15 (by decide) ?_
            refine lv_icmp_le (tgt := 23) hx hb dX6_sheet_17 (by decide) (fun c_63 => ?_) (fun c_63 => ?_)
            · skip
              refine lv_iload_n hx hb dX6_sheet_23 rfl (lv_at hl 3 rfl) ?_
              refine lv_if_ge (tgt := 33) hx hb dX6_sheet_24 (by decide) (fun c_64 => ?_) (fun c_64 => ?_)
              · skip
                refine lv_aload_n hx hb dX6_sheet_33 rfl (lv_at hl 0 rfl) ?_
                refine va_get (D := (dC, dI)) (ci := 6) (v := .ref (q 2)) (C := RX6) (T := TX6) (N := 12) hx hb hts hi6 hown hK.1 hP 0 rfl rfl 1 (by decide) (hts _ wmt1_171) (fun _ h9 => h9) rfl dX6_sheet_34 ?_
                refine lv_iload_n hx hb dX6_sheet_37 rfl (lv_at hl 1 rfl) ?_
                refine va_aldq (D := (dC, dI)) hx hb hK.1 hP 2 4 rfl rfl (show ¬ _ by decide) dX6_sheet_38 ?_
                refine z_top (v2 := .ref (q 32)) (rfl) ?_
                refine lv_iload_n hx hb dX6_sheet_39 rfl (lv_at hl 2 rfl) ?_
                refine lv_iload_n hx hb dX6_sheet_40 rfl (lv_at hl 3 rfl) ?_
                refine zcS_v (w := (zX k q 0 (-1) 12 100 0 (fun _ => 0) aps 0 ar1 ar2 ar3 ar4 ar5 ar6 ar7 ph pp py wy fa fb cm0 ia0 0 0 ih0 in0 il0 tx0 sh0 cm1 ia1 0 0 ih1 in1 il1 tx1 sh1 cm2 ia2 0 0 ih2 in2 il2 tx2 sh2 cm3 ia3 0 0 ih3 in3 il3 tx3 sh3 (-1) 0 it0 (-1) 0 it1 (-1) 0 it2 (-1) 0 it3)) (wc := (zShe k (q 32) (q 33) it2 (-1) 0)) (va_runV (As := [.int tt, .int n]) (rest := []) ⟨hx, hb, hml, hown, hts⟩ (c_X5_begin l dC dI k (zTX k) (q 32) (q 33) it2 (-1) 0 tt n _ ) (cwV 2 hts (gzV wmt3_92 wmt3_93 wmt3_94 wmt1_7 wmt3_95) rfl rfl rfl (by decide +kernel) ⟨Nat.le_of_ble_eq_true rfl, Nat.le_of_ble_eq_true rfl⟩) (zp_V (ci := 5) (q0 := 32) hK hP hD [32, 33] rfl rfl rfl rfl) rfl rfl hl.1 rfl (lv_room (Nat.le_of_ble_eq_true rfl)) dX6_sheet_41 ⟨Nat.le_of_ble_eq_true rfl, Nat.le_of_ble_eq_true rfl⟩) hP hD hS hA [32, 33] rfl (fun _ => rfl) (fun u_66 H locs w_67 hP hD hS => ?_)
                obtain ⟨oit_68, osk_69, oss_70⟩ := u_66
                have hP : va_P (dC, dI) vwCl (zX k q 0 (-1) 12 100 0 (fun _ => 0) aps 0 ar1 ar2 ar3 ar4 ar5 ar6 ar7 ph pp py wy fa fb cm0 ia0 0 0 ih0 in0 il0 tx0 sh0 cm1 ia1 0 0 ih1 in1 il1 tx1 sh1 cm2 ia2 0 0 ih2 in2 il2 tx2 sh2 cm3 ia3 0 0 ih3 in3 il3 tx3 sh3 (-1) 0 it0 (-1) 0 it1 osk_69 oss_70 oit_68 (-1) 0 it3) H := hP
                have hD : va_D A (zX k q 0 (-1) 12 100 0 (fun _ => 0) aps 0 ar1 ar2 ar3 ar4 ar5 ar6 ar7 ph pp py wy fa fb cm0 ia0 0 0 ih0 in0 il0 tx0 sh0 cm1 ia1 0 0 ih1 in1 il1 tx1 sh1 cm2 ia2 0 0 ih2 in2 il2 tx2 sh2 cm3 ia3 0 0 ih3 in3 il3 tx3 sh3 (-1) 0 it0 (-1) 0 it1 osk_69 oss_70 oit_68 (-1) 0 it3) := hD
                refine lv_iload_n hx hb dX6_sheet_44 rfl (lv_at hl 3 rfl) ?_
                exact W.iret (v := n) hx hb hr (fun t ht hW => ⟨⟨n, (0, (-1), 0, it0, (-1), 0, it1, osk_69, oss_70, oit_68, (-1), 0, it3), rfl, (by first | exact ((if_pos (by repeat' (first | assumption | decide | constructor))).trans (if_neg (by assumption))).symm | exact ((if_pos (by repeat' (first | assumption | decide | constructor))).trans (if_pos (by assumption))).symm | exact (if_neg (fun hh => absurd hh.1.1 (by assumption))).symm | exact (if_neg (fun hh => absurd hh.1.2 (by assumption))).symm | exact (if_neg (fun hh => absurd hh.2 (by assumption))).symm), ⟨by rw [ht]; exact hP, hD⟩⟩, hS.F ht⟩) hS.2.2 dX6_sheet_45
              · skip
                refine lv_aload_n hx hb dX6_sheet_27 rfl (lv_at hl 0 rfl) ?_
                refine lv_iconst (v := 5) hx hb dX6_sheet_28 (by decide) ?_
                refine zcA_i (w := (zX k q 0 (-1) 12 100 0 (fun _ => 0) aps 0 ar1 ar2 ar3 ar4 ar5 ar6 ar7 ph pp py wy fa fb cm0 ia0 0 0 ih0 in0 il0 tx0 sh0 cm1 ia1 0 0 ih1 in1 il1 tx1 sh1 cm2 ia2 0 0 ih2 in2 il2 tx2 sh2 cm3 ia3 0 0 ih3 in3 il3 tx3 sh3 (-1) 0 it0 (-1) 0 it1 (-1) 0 it2 (-1) 0 it3)) (va_runV (As := [.int 5]) (rest := []) ⟨hx, hb, hml, hown, hts⟩ (c_X6_found_5 l dC dI k  q aps ar1 ar2 ar3 ar4 ar5 ar6 ar7 ph pp py wy fa fb cm0 ia0 ih0 in0 il0 tx0 sh0 cm1 ia1 ih1 in1 il1 tx1 sh1 cm2 ia2 ih2 in2 il2 tx2 sh2 cm3 ia3 ih3 in3 il3 tx3 sh3 it0 it1 it2 it3 _ ) (cwV 1 hts (gzV wmt2_102 wmt2_104 wmp1_7 wmt1_1 wmt2_105) rfl rfl rfl (by decide +kernel) ⟨Nat.le_of_ble_eq_true rfl, Nat.le_of_ble_eq_true rfl⟩) (zpA_V (ci := 6) (q0 := 0) hK hP hD rfl rfl) rfl rfl hl.1 rfl (lv_room (Nat.le_of_ble_eq_true rfl)) dX6_sheet_29 ⟨Nat.le_of_ble_eq_true rfl, Nat.le_of_ble_eq_true rfl⟩) hD hS hA (fun r_71 u_72 H locs w_73 hP hD hS => ?_)
                obtain ⟨oxfi_74, rfl⟩ : ∃ z, z = u_72 := ⟨_, rfl⟩
                have hP : va_P (dC, dI) vwCl (zX k q 0 (-1) 12 100 oxfi_74 (fun _ => 0) aps 0 ar1 ar2 ar3 ar4 ar5 ar6 ar7 ph pp py wy fa fb cm0 ia0 0 0 ih0 in0 il0 tx0 sh0 cm1 ia1 0 0 ih1 in1 il1 tx1 sh1 cm2 ia2 0 0 ih2 in2 il2 tx2 sh2 cm3 ia3 0 0 ih3 in3 il3 tx3 sh3 (-1) 0 it0 (-1) 0 it1 (-1) 0 it2 (-1) 0 it3) H := hP
                have hD : va_D A (zX k q 0 (-1) 12 100 oxfi_74 (fun _ => 0) aps 0 ar1 ar2 ar3 ar4 ar5 ar6 ar7 ph pp py wy fa fb cm0 ia0 0 0 ih0 in0 il0 tx0 sh0 cm1 ia1 0 0 ih1 in1 il1 tx1 sh1 cm2 ia2 0 0 ih2 in2 il2 tx2 sh2 cm3 ia3 0 0 ih3 in3 il3 tx3 sh3 (-1) 0 it0 (-1) 0 it1 (-1) 0 it2 (-1) 0 it3) := hD
                have e_75 := w_73
                replace e_75 : r_71 = (-15) := e_75
                subst e_75
                exact W.iret (v := (-15)) hx hb hr (fun t ht hW => ⟨⟨(-15), (oxfi_74, (-1), 0, it0, (-1), 0, it1, (-1), 0, it2, (-1), 0, it3), rfl, (by first | exact ((if_pos (by repeat' (first | assumption | decide | constructor))).trans (if_neg (by assumption))).symm | exact ((if_pos (by repeat' (first | assumption | decide | constructor))).trans (if_pos (by assumption))).symm | exact (if_neg (fun hh => absurd hh.1.1 (by assumption))).symm | exact (if_neg (fun hh => absurd hh.1.2 (by assumption))).symm | exact (if_neg (fun hh => absurd hh.2 (by assumption))).symm), ⟨by rw [ht]; exact hP, hD⟩⟩, hS.F ht⟩) hS.2.2 dX6_sheet_32
            · skip
              refine lv_bipush (v := (-2)) hx hb dX6_sheet_20 (by decide) ?_
              exact W.iret (v := (-2)) hx hb hr (fun t ht hW => ⟨⟨(-2), (0, (-1), 0, it0, (-1), 0, it1, (-1), 0, it2, (-1), 0, it3), rfl, (by first | exact ((if_pos (by repeat' (first | assumption | decide | constructor))).trans (if_neg (by assumption))).symm | exact ((if_pos (by repeat' (first | assumption | decide | constructor))).trans (if_pos (by assumption))).symm | exact (if_neg (fun hh => absurd hh.1.1 (by assumption))).symm | exact (if_neg (fun hh => absurd hh.1.2 (by assumption))).symm | exact (if_neg (fun hh => absurd hh.2 (by assumption))).symm), ⟨by rw [ht]; exact hP, hD⟩⟩, hS.F ht⟩) hS.2.2 dX6_sheet_22
        · skip
          replace e_61 : r_55 = 0 := e_61
          subst e_61
          replace h_60 : ¬ (0 ≤ (tt : Int32) ∧ (tt : Int32) ≤ 2) := h_60
          refine lv_if_eq (tgt := 20) hx hb dX6_sheet_11 (by decide) (fun c_76 => ?_) (fun c_76 => ?_)
          · skip
            refine lv_bipush (v := (-2)) hx hb dX6_sheet_20 (by decide) ?_
            exact W.iret (v := (-2)) hx hb hr (fun t ht hW => ⟨⟨(-2), (0, (-1), 0, it0, (-1), 0, it1, (-1), 0, it2, (-1), 0, it3), rfl, (by first | exact ((if_pos (by repeat' (first | assumption | decide | constructor))).trans (if_neg (by assumption))).symm | exact ((if_pos (by repeat' (first | assumption | decide | constructor))).trans (if_pos (by assumption))).symm | exact (if_neg (fun hh => absurd hh.1.1 (by assumption))).symm | exact (if_neg (fun hh => absurd hh.1.2 (by assumption))).symm | exact (if_neg (fun hh => absurd hh.2 (by assumption))).symm), ⟨by rw [ht]; exact hP, hD⟩⟩, hS.F ht⟩) hS.2.2 dX6_sheet_22
          · skip
            exact absurd (by decide) c_76
    · skip
      refine lv_if_eq (tgt := 20) hx hb dX6_sheet_4 (by decide) (fun c_77 => ?_) (fun c_77 => ?_)
      · skip
        exact absurd c_77 (by decide)
      · skip
        refine lv_iload_n hx hb dX6_sheet_7 rfl (lv_at hl 2 rfl) ?_
        refine zc0_i (w := (zX k q 0 (-1) 12 100 0 (fun _ => 0) aps 0 ar1 ar2 ar3 ar4 ar5 ar6 ar7 ph pp py wy fa fb cm0 ia0 0 0 ih0 in0 il0 tx0 sh0 cm1 ia1 0 0 ih1 in1 il1 tx1 sh1 cm2 ia2 0 0 ih2 in2 il2 tx2 sh2 cm3 ia3 0 0 ih3 in3 il3 tx3 sh3 (-1) 0 it0 (-1) 0 it1 (-1) 0 it2 (-1) 0 it3)) (va_runS (As := [.int tt]) (rest := []) ⟨hx, hb, hml, hown, hts⟩ (c_X6_isType l dC dI k (zTX k) tt _ ) (va_cwS 1 hts (gzS wmt3_89 wmt3_90 wmt1_1 wmt3_91) rfl rfl rfl (by decide +kernel) ⟨Nat.le_of_ble_eq_true rfl, Nat.le_of_ble_eq_true rfl⟩) (zp0_S hK) rfl rfl hl.1 rfl (lv_room (Nat.le_of_ble_eq_true rfl)) dX6_sheet_8 ⟨Nat.le_of_ble_eq_true rfl, Nat.le_of_ble_eq_true rfl⟩) hP hS hA (fun r_78 u_79 H locs w_80 hP hS => ?_)
        rcases w_80 with ⟨e_82, h_81⟩ | ⟨e_84, h_83⟩
        · skip
          replace e_82 : r_78 = 1 := e_82
          subst e_82
          replace h_81 : 0 ≤ (tt : Int32) ∧ (tt : Int32) ≤ 2 := h_81
          refine lv_if_eq (tgt := 20) hx hb dX6_sheet_11 (by decide) (fun c_85 => ?_) (fun c_85 => ?_)
          · skip
            exact absurd c_85 (by decide)
          · skip
            refine lv_iload_n hx hb dX6_sheet_14 rfl (lv_at hl 3 rfl) ?_
            refine lv_bipush (v := 60) hx hb dX6_sheet_15 (by decide) ?_
            refine lv_icmp_le (tgt := 23) hx hb dX6_sheet_17 (by decide) (fun c_86 => ?_) (fun c_86 => ?_)
            · skip
              refine lv_iload_n hx hb dX6_sheet_23 rfl (lv_at hl 3 rfl) ?_
              refine lv_if_ge (tgt := 33) hx hb dX6_sheet_24 (by decide) (fun c_87 => ?_) (fun c_87 => ?_)
              · skip
                refine lv_aload_n hx hb dX6_sheet_33 rfl (lv_at hl 0 rfl) ?_
                refine va_get (D := (dC, dI)) (ci := 6) (v := .ref (q 2)) (C := RX6) (T := TX6) (N := 12) hx hb hts hi6 hown hK.1 hP 0 rfl rfl 1 (by decide) (hts _ wmt1_171) (fun _ h9 => h9) rfl dX6_sheet_34 ?_
                refine lv_iload_n hx hb dX6_sheet_37 rfl (lv_at hl 1 rfl) ?_
                refine va_aldq (D := (dC, dI)) hx hb hK.1 hP 2 4 rfl rfl (show ¬ _ by decide) dX6_sheet_38 ?_
                refine z_top (v2 := .ref (q 34)) (rfl) ?_
                refine lv_iload_n hx hb dX6_sheet_39 rfl (lv_at hl 2 rfl) ?_
                refine lv_iload_n hx hb dX6_sheet_40 rfl (lv_at hl 3 rfl) ?_
                refine zcS_v (w := (zX k q 0 (-1) 12 100 0 (fun _ => 0) aps 0 ar1 ar2 ar3 ar4 ar5 ar6 ar7 ph pp py wy fa fb cm0 ia0 0 0 ih0 in0 il0 tx0 sh0 cm1 ia1 0 0 ih1 in1 il1 tx1 sh1 cm2 ia2 0 0 ih2 in2 il2 tx2 sh2 cm3 ia3 0 0 ih3 in3 il3 tx3 sh3 (-1) 0 it0 (-1) 0 it1 (-1) 0 it2 (-1) 0 it3)) (wc := (zShe k (q 34) (q 35) it3 (-1) 0)) (va_runV (As := [.int tt, .int n]) (rest := []) ⟨hx, hb, hml, hown, hts⟩ (c_X5_begin l dC dI k (zTX k) (q 34) (q 35) it3 (-1) 0 tt n _ ) (cwV 2 hts (gzV wmt3_92 wmt3_93 wmt3_94 wmt1_7 wmt3_95) rfl rfl rfl (by decide +kernel) ⟨Nat.le_of_ble_eq_true rfl, Nat.le_of_ble_eq_true rfl⟩) (zp_V (ci := 5) (q0 := 34) hK hP hD [34, 35] rfl rfl rfl rfl) rfl rfl hl.1 rfl (lv_room (Nat.le_of_ble_eq_true rfl)) dX6_sheet_41 ⟨Nat.le_of_ble_eq_true rfl, Nat.le_of_ble_eq_true rfl⟩) hP hD hS hA [34, 35] rfl (fun _ => rfl) (fun u_89 H locs w_90 hP hD hS => ?_)
                obtain ⟨oit_91, osk_92, oss_93⟩ := u_89
                have hP : va_P (dC, dI) vwCl (zX k q 0 (-1) 12 100 0 (fun _ => 0) aps 0 ar1 ar2 ar3 ar4 ar5 ar6 ar7 ph pp py wy fa fb cm0 ia0 0 0 ih0 in0 il0 tx0 sh0 cm1 ia1 0 0 ih1 in1 il1 tx1 sh1 cm2 ia2 0 0 ih2 in2 il2 tx2 sh2 cm3 ia3 0 0 ih3 in3 il3 tx3 sh3 (-1) 0 it0 (-1) 0 it1 (-1) 0 it2 osk_92 oss_93 oit_91) H := hP
                have hD : va_D A (zX k q 0 (-1) 12 100 0 (fun _ => 0) aps 0 ar1 ar2 ar3 ar4 ar5 ar6 ar7 ph pp py wy fa fb cm0 ia0 0 0 ih0 in0 il0 tx0 sh0 cm1 ia1 0 0 ih1 in1 il1 tx1 sh1 cm2 ia2 0 0 ih2 in2 il2 tx2 sh2 cm3 ia3 0 0 ih3 in3 il3 tx3 sh3 (-1) 0 it0 (-1) 0 it1 (-1) 0 it2 osk_92 oss_93 oit_91) := hD
                refine lv_iload_n hx hb dX6_sheet_44 rfl (lv_at hl 3 rfl) ?_
                exact W.iret (v := n) hx hb hr (fun t ht hW => ⟨⟨n, (0, (-1), 0, it0, (-1), 0, it1, (-1), 0, it2, osk_92, oss_93, oit_91), rfl, (by first | exact ((if_pos (by repeat' (first | assumption | decide | constructor))).trans (if_neg (by assumption))).symm | exact ((if_pos (by repeat' (first | assumption | decide | constructor))).trans (if_pos (by assumption))).symm | exact (if_neg (fun hh => absurd hh.1.1 (by assumption))).symm | exact (if_neg (fun hh => absurd hh.1.2 (by assumption))).symm | exact (if_neg (fun hh => absurd hh.2 (by assumption))).symm), ⟨by rw [ht]; exact hP, hD⟩⟩, hS.F ht⟩) hS.2.2 dX6_sheet_45
              · skip
                refine lv_aload_n hx hb dX6_sheet_27 rfl (lv_at hl 0 rfl) ?_
                refine lv_iconst (v := 5) hx hb dX6_sheet_28 (by decide) ?_
                refine zcA_i (w := (zX k q 0 (-1) 12 100 0 (fun _ => 0) aps 0 ar1 ar2 ar3 ar4 ar5 ar6 ar7 ph pp py wy fa fb cm0 ia0 0 0 ih0 in0 il0 tx0 sh0 cm1 ia1 0 0 ih1 in1 il1 tx1 sh1 cm2 ia2 0 0 ih2 in2 il2 tx2 sh2 cm3 ia3 0 0 ih3 in3 il3 tx3 sh3 (-1) 0 it0 (-1) 0 it1 (-1) 0 it2 (-1) 0 it3)) (va_runV (As := [.int 5]) (rest := []) ⟨hx, hb, hml, hown, hts⟩ (c_X6_found_5 l dC dI k  q aps ar1 ar2 ar3 ar4 ar5 ar6 ar7 ph pp py wy fa fb cm0 ia0 ih0 in0 il0 tx0 sh0 cm1 ia1 ih1 in1 il1 tx1 sh1 cm2 ia2 ih2 in2 il2 tx2 sh2 cm3 ia3 ih3 in3 il3 tx3 sh3 it0 it1 it2 it3 _ ) (cwV 1 hts (gzV wmt2_102 wmt2_104 wmp1_7 wmt1_1 wmt2_105) rfl rfl rfl (by decide +kernel) ⟨Nat.le_of_ble_eq_true rfl, Nat.le_of_ble_eq_true rfl⟩) (zpA_V (ci := 6) (q0 := 0) hK hP hD rfl rfl) rfl rfl hl.1 rfl (lv_room (Nat.le_of_ble_eq_true rfl)) dX6_sheet_29 ⟨Nat.le_of_ble_eq_true rfl, Nat.le_of_ble_eq_true rfl⟩) hD hS hA (fun r_94 u_95 H locs w_96 hP hD hS => ?_)
                obtain ⟨oxfi_97, rfl⟩ : ∃ z, z = u_95 := ⟨_, rfl⟩
                have hP : va_P (dC, dI) vwCl (zX k q 0 (-1) 12 100 oxfi_97 (fun _ => 0) aps 0 ar1 ar2 ar3 ar4 ar5 ar6 ar7 ph pp py wy fa fb cm0 ia0 0 0 ih0 in0 il0 tx0 sh0 cm1 ia1 0 0 ih1 in1 il1 tx1 sh1 cm2 ia2 0 0 ih2 in2 il2 tx2 sh2 cm3 ia3 0 0 ih3 in3 il3 tx3 sh3 (-1) 0 it0 (-1) 0 it1 (-1) 0 it2 (-1) 0 it3) H := hP
                have hD : va_D A (zX k q 0 (-1) 12 100 oxfi_97 (fun _ => 0) aps 0 ar1 ar2 ar3 ar4 ar5 ar6 ar7 ph pp py wy fa fb cm0 ia0 0 0 ih0 in0 il0 tx0 sh0 cm1 ia1 0 0 ih1 in1 il1 tx1 sh1 cm2 ia2 0 0 ih2 in2 il2 tx2 sh2 cm3 ia3 0 0 ih3 in3 il3 tx3 sh3 (-1) 0 it0 (-1) 0 it1 (-1) 0 it2 (-1) 0 it3) := hD
                have e_98 := w_96
                replace e_98 : r_94 = (-15) := e_98
                subst e_98
                exact W.iret (v := (-15)) hx hb hr (fun t ht hW => ⟨⟨(-15), (oxfi_97, (-1), 0, it0, (-1), 0, it1, (-1), 0, it2, (-1), 0, it3), rfl, (by first | exact ((if_pos (by repeat' (first | assumption | decide | constructor))).trans (if_neg (by assumption))).symm | exact ((if_pos (by repeat' (first | assumption | decide | constructor))).trans (if_pos (by assumption))).symm | exact (if_neg (fun hh => absurd hh.1.1 (by assumption))).symm | exact (if_neg (fun hh => absurd hh.1.2 (by assumption))).symm | exact (if_neg (fun hh => absurd hh.2 (by assumption))).symm), ⟨by rw [ht]; exact hP, hD⟩⟩, hS.F ht⟩) hS.2.2 dX6_sheet_32
            · skip
              refine lv_bipush (v := (-2)) hx hb dX6_sheet_20 (by decide) ?_
              exact W.iret (v := (-2)) hx hb hr (fun t ht hW => ⟨⟨(-2), (0, (-1), 0, it0, (-1), 0, it1, (-1), 0, it2, (-1), 0, it3), rfl, (by first | exact ((if_pos (by repeat' (first | assumption | decide | constructor))).trans (if_neg (by assumption))).symm | exact ((if_pos (by repeat' (first | assumption | decide | constructor))).trans (if_pos (by assumption))).symm | exact (if_neg (fun hh => absurd hh.1.1 (by assumption))).symm | exact (if_neg (fun hh => absurd hh.1.2 (by assumption))).symm | exact (if_neg (fun hh => absurd hh.2 (by assumption))).symm), ⟨by rw [ht]; exact hP, hD⟩⟩, hS.F ht⟩) hS.2.2 dX6_sheet_22
        · skip
          replace e_84 : r_78 = 0 := e_84
          subst e_84
          replace h_83 : ¬ (0 ≤ (tt : Int32) ∧ (tt : Int32) ≤ 2) := h_83
          refine lv_if_eq (tgt := 20) hx hb dX6_sheet_11 (by decide) (fun c_99 => ?_) (fun c_99 => ?_)
          · skip
            refine lv_bipush (v := (-2)) hx hb dX6_sheet_20 (by decide) ?_
            exact W.iret (v := (-2)) hx hb hr (fun t ht hW => ⟨⟨(-2), (0, (-1), 0, it0, (-1), 0, it1, (-1), 0, it2, (-1), 0, it3), rfl, (by first | exact ((if_pos (by repeat' (first | assumption | decide | constructor))).trans (if_neg (by assumption))).symm | exact ((if_pos (by repeat' (first | assumption | decide | constructor))).trans (if_pos (by assumption))).symm | exact (if_neg (fun hh => absurd hh.1.1 (by assumption))).symm | exact (if_neg (fun hh => absurd hh.1.2 (by assumption))).symm | exact (if_neg (fun hh => absurd hh.2 (by assumption))).symm), ⟨by rw [ht]; exact hP, hD⟩⟩, hS.F ht⟩) hS.2.2 dX6_sheet_22
          · skip
            exact absurd (by decide) c_99
  · skip
    replace e_7 : r_1 = 0 := e_7
    subst e_7
    replace h_6 : ¬ (0 ≤ (z : Int32) ∧ (z : Int32) ≤ 3) := h_6
    refine lv_if_eq (tgt := 20) hx hb dX6_sheet_4 (by decide) (fun c_100 => ?_) (fun c_100 => ?_)
    · skip
      refine lv_bipush (v := (-2)) hx hb dX6_sheet_20 (by decide) ?_
      exact W.iret (v := (-2)) hx hb hr (fun t ht hW => ⟨⟨(-2), (0, (-1), 0, it0, (-1), 0, it1, (-1), 0, it2, (-1), 0, it3), rfl, (by first | exact ((if_pos (by repeat' (first | assumption | decide | constructor))).trans (if_neg (by assumption))).symm | exact ((if_pos (by repeat' (first | assumption | decide | constructor))).trans (if_pos (by assumption))).symm | exact (if_neg (fun hh => absurd hh.1.1 (by assumption))).symm | exact (if_neg (fun hh => absurd hh.1.2 (by assumption))).symm | exact (if_neg (fun hh => absurd hh.2 (by assumption))).symm), ⟨by rw [ht]; exact hP, hD⟩⟩, hS.F ht⟩) hS.2.2 dX6_sheet_22
    · skip
      exact absurd (by decide) c_100
