set_option maxHeartbeats 4000000 in
set_option maxRecDepth 100000 in
theorem c_X6_saysYes (l : Launch) (dC : Nat → ClassId) (dI : Nat → Nat → Nat) (k : Nat → ClassId)  (q : Nat → Nat) (aps : Int32) (ar1 : Nat → Int32) (ar2 : Nat → Int32) (ar3 : Nat → Int32) (ar4 : Nat → Int32) (ar5 : Nat → Int32) (ar6 : Nat → Int32) (ar7 : Nat → Int32) (ph : Int32) (pp : Int32) (py : Int32) (wy : Nat → Int64) (fa : Int64) (fb : Int64) (cm0 : Int64) (ia0 : Int32) (ih0 : Int32) (in0 : Int32) (il0 : Int32) (tx0 : Nat → Int32) (sh0 : Nat → Int64) (cm1 : Int64) (ia1 : Int32) (ih1 : Int32) (in1 : Int32) (il1 : Int32) (tx1 : Nat → Int32) (sh1 : Nat → Int64) (cm2 : Int64) (ia2 : Int32) (ih2 : Int32) (in2 : Int32) (il2 : Int32) (tx2 : Nat → Int32) (sh2 : Nat → Int64) (cm3 : Int64) (ia3 : Int32) (ih3 : Int32) (in3 : Int32) (il3 : Int32) (tx3 : Nat → Int32) (sh3 : Nat → Int64) (it0 : Nat → Int32) (it1 : Nat → Int32) (it2 : Nat → Int32) (it3 : Nat → Int32) (d : Int32) (h : Int32) (w : Int32) (sz : Nat)  : Met l yX6_saysYes (wz yX6_saysYes cX6_saysYes 5 (some .long)) ({ frames := 1, cells := 0, slots := 0, locals := 20 }) (va_Pc [.ref (q 0), .int d, .int h, .int w] (zPre dC dI k (zTX k) (zX k q 0 (-1) 12 100 0 (fun _ => 0) aps 0 ar1 ar2 ar3 ar4 ar5 ar6 ar7 ph pp py wy fa fb cm0 ia0 0 0 ih0 in0 il0 tx0 sh0 cm1 ia1 0 0 ih1 in1 il1 tx1 sh1 cm2 ia2 0 0 ih2 in2 il2 tx2 sh2 cm3 ia3 0 0 ih3 in3 il3 tx3 sh3 (-1) 0 it0 (-1) 0 it1 (-1) 0 it2 (-1) 0 it3) sz)) (va_Ql (fun (r : Int64) (u : Unit) => (r = if (0 ≤ (d : Int32) ∧ (d : Int32) ≤ 3) ∧ (0 ≤ (h : Int32) ∧ (h : Int32) ≤ 1) ∧ (0 ≤ (w : Int32) ∧ (w : Int32) ≤ 1) then (-9223372036854775805) else (-9223372036854775806))) (fun u t => zPost dC dI (va_A (zX k q 0 (-1) 12 100 0 (fun _ => 0) aps 0 ar1 ar2 ar3 ar4 ar5 ar6 ar7 ph pp py wy fa fb cm0 ia0 0 0 ih0 in0 il0 tx0 sh0 cm1 ia1 0 0 ih1 in1 il1 tx1 sh1 cm2 ia2 0 0 ih2 in2 il2 tx2 sh2 cm3 ia3 0 0 ih3 in3 il3 tx3 sh3 (-1) 0 it0 (-1) 0 it1 (-1) 0 it2 (-1) 0 it3) sz) (zX k q 0 (-1) 12 100 0 (fun _ => 0) aps 0 ar1 ar2 ar3 ar4 ar5 ar6 ar7 ph pp py wy fa fb cm0 ia0 0 0 ih0 in0 il0 tx0 sh0 cm1 ia1 0 0 ih1 in1 il1 tx1 sh1 cm2 ia2 0 0 ih2 in2 il2 tx2 sh2 cm3 ia3 0 0 ih3 in3 il3 tx3 sh3 (-1) 0 it0 (-1) 0 it1 (-1) 0 it2 (-1) 0 it3) t) (va_A (zX k q 0 (-1) 12 100 0 (fun _ => 0) aps 0 ar1 ar2 ar3 ar4 ar5 ar6 ar7 ph pp py wy fa fb cm0 ia0 0 0 ih0 in0 il0 tx0 sh0 cm1 ia1 0 0 ih1 in1 il1 tx1 sh1 cm2 ia2 0 0 ih2 in2 il2 tx2 sh2 cm3 ia3 0 0 ih3 in3 il3 tx3 sh3 (-1) 0 it0 (-1) 0 it1 (-1) 0 it2 (-1) 0 it3) sz)) 0 0 (va_A (zX k q 0 (-1) 12 100 0 (fun _ => 0) aps 0 ar1 ar2 ar3 ar4 ar5 ar6 ar7 ph pp py wy fa fb cm0 ia0 0 0 ih0 in0 il0 tx0 sh0 cm1 ia1 0 0 ih1 in1 il1 tx1 sh1 cm2 ia2 0 0 ih2 in2 il2 tx2 sh2 cm3 ia3 0 0 ih3 in3 il3 tx3 sh3 (-1) 0 it0 (-1) 0 it1 (-1) 0 it2 (-1) 0 it3) sz) := by
  refine Met.ofW (cc := cX6_saysYes) (maxL := 5) (ret := (some .long)) (by decide) rfl ?_
  intro p e s m args below meth c s₁ B hml hv
  obtain ⟨rfl, hsz, hP, hK, hD0⟩ := hv
  have hx := B.exec
  have hb := B.bytes
  have hr := B.returns
  have hts : ∀ w ∈ zw, w.before _ s = true := fun w h => atoms_spec (ws := (wz yX6_saysYes cX6_saysYes 5 (some .long))) B.pre w (List.mem_cons_of_mem _ h)
  have hown : s.vm.findClass RX6 = some m.cls := findClass_of_methodNamed B.named
  have hlocks := B.notSynchronized
  subst hsz
  have hi6 := inw6
  have hD := hD0.self (sz := s.heap.size)
  generalize hAe : va_A (zX k q 0 (-1) 12 100 0 (fun _ => 0) aps 0 ar1 ar2 ar3 ar4 ar5 ar6 ar7 ph pp py wy fa fb cm0 ia0 0 0 ih0 in0 il0 tx0 sh0 cm1 ia1 0 0 ih1 in1 il1 tx1 sh1 cm2 ia2 0 0 ih2 in2 il2 tx2 sh2 cm3 ia3 0 0 ih3 in3 il3 tx3 sh3 (-1) 0 it0 (-1) 0 it1 (-1) 0 it2 (-1) 0 it3) s.heap.size = A at hD ⊢
  have hA : ∀ q : Nat, s.heap.size ≤ q → A q := fun q h => by rw [← hAe]; exact Or.inr h
  have hl := lv_entry ([.ref (q 0), .int d, .int h, .int w]) (n := 5) (Nat.le_of_ble_eq_true rfl)
  rw [lg_entry_eq]
  generalize (lg_sl ([.ref (q 0), .int d, .int h, .int w]) ++ List.replicate (5 - (lg_sl ([.ref (q 0), .int d, .int h, .int w])).length) Slot.unset).toArray = ls at hl ⊢
  have hl : lv_has ls 5 [(0, .ref (q 0)), (1, .int d), (2, .int h), (3, .int w)] := hl
  refine z_start (w := (zX k q 0 (-1) 12 100 0 (fun _ => 0) aps 0 ar1 ar2 ar3 ar4 ar5 ar6 ar7 ph pp py wy fa fb cm0 ia0 0 0 ih0 in0 il0 tx0 sh0 cm1 ia1 0 0 ih1 in1 il1 tx1 sh1 cm2 ia2 0 0 ih2 in2 il2 tx2 sh2 cm3 ia3 0 0 ih3 in3 il3 tx3 sh3 (-1) 0 it0 (-1) 0 it1 (-1) 0 it2 (-1) 0 it3)) hP hD (fun H locs hP hD hS => ?_)
  refine lv_iload_n hx hb dX6_saysYes_0 rfl (lv_at hl 1 rfl) ?_
  refine zc0_i (w := (zX k q 0 (-1) 12 100 0 (fun _ => 0) aps 0 ar1 ar2 ar3 ar4 ar5 ar6 ar7 ph pp py wy fa fb cm0 ia0 0 0 ih0 in0 il0 tx0 sh0 cm1 ia1 0 0 ih1 in1 il1 tx1 sh1 cm2 ia2 0 0 ih2 in2 il2 tx2 sh2 cm3 ia3 0 0 ih3 in3 il3 tx3 sh3 (-1) 0 it0 (-1) 0 it1 (-1) 0 it2 (-1) 0 it3)) (va_runS (As := [.int d]) (rest := []) ⟨hx, hb, hml, hown, hts⟩ (c_X6_isDesign l dC dI k (zTX k) d _ ) (va_cwS 1 hts (gzS wmt1_211 wmt1_212 wmt1_1 wmt1_213) rfl rfl rfl (by decide +kernel) ⟨Nat.le_of_ble_eq_true rfl, Nat.le_of_ble_eq_true rfl⟩) (zp0_S hK) rfl rfl hl.1 rfl (lv_room (Nat.le_of_ble_eq_true rfl)) dX6_saysYes_1 ⟨Nat.le_of_ble_eq_true rfl, Nat.le_of_ble_eq_true rfl⟩) hP hS hA (fun r_1 u_2 H locs w_3 hP hS => ?_)
  rcases w_3 with ⟨e_5, h_4⟩ | ⟨e_7, h_6⟩
  · skip
    replace e_5 : r_1 = 1 := e_5
    subst e_5
    replace h_4 : 0 ≤ (d : Int32) ∧ (d : Int32) ≤ 3 := h_4
    rcases zi_4 h_4 with rfl | rfl | rfl | rfl
    · skip
      refine lv_if_eq (tgt := 21) hx hb dX6_saysYes_4 (by decide) (fun c_8 => ?_) (fun c_8 => ?_)
      · skip
        exact absurd c_8 (by decide)
      · skip
        refine lv_iload_n hx hb dX6_saysYes_7 rfl (lv_at hl 2 rfl) ?_
        refine zc0_i (w := (zX k q 0 (-1) 12 100 0 (fun _ => 0) aps 0 ar1 ar2 ar3 ar4 ar5 ar6 ar7 ph pp py wy fa fb cm0 ia0 0 0 ih0 in0 il0 tx0 sh0 cm1 ia1 0 0 ih1 in1 il1 tx1 sh1 cm2 ia2 0 0 ih2 in2 il2 tx2 sh2 cm3 ia3 0 0 ih3 in3 il3 tx3 sh3 (-1) 0 it0 (-1) 0 it1 (-1) 0 it2 (-1) 0 it3)) (va_runS (As := [.int h]) (rest := []) ⟨hx, hb, hml, hown, hts⟩ (c_X6_isEither l dC dI k (zTX k) h _ ) (va_cwS 1 hts (gzS wmt2_48 wmt2_49 wmt1_1 wmt2_50) rfl rfl rfl (by decide +kernel) ⟨Nat.le_of_ble_eq_true rfl, Nat.le_of_ble_eq_true rfl⟩) (zp0_S hK) rfl rfl hl.1 rfl (lv_room (Nat.le_of_ble_eq_true rfl)) dX6_saysYes_8 ⟨Nat.le_of_ble_eq_true rfl, Nat.le_of_ble_eq_true rfl⟩) hP hS hA (fun r_9 u_10 H locs w_11 hP hS => ?_)
        rcases w_11 with ⟨e_13, h_12⟩ | ⟨e_15, h_14⟩
        · skip
          replace e_13 : r_9 = 1 := e_13
          subst e_13
          replace h_12 : 0 ≤ (h : Int32) ∧ (h : Int32) ≤ 1 := h_12
          refine lv_if_eq (tgt := 21) hx hb dX6_saysYes_11 (by decide) (fun c_16 => ?_) (fun c_16 => ?_)
          · skip
            exact absurd c_16 (by decide)
          · skip
            refine lv_iload_n hx hb dX6_saysYes_14 rfl (lv_at hl 3 rfl) ?_
            refine zc0_i (w := (zX k q 0 (-1) 12 100 0 (fun _ => 0) aps 0 ar1 ar2 ar3 ar4 ar5 ar6 ar7 ph pp py wy fa fb cm0 ia0 0 0 ih0 in0 il0 tx0 sh0 cm1 ia1 0 0 ih1 in1 il1 tx1 sh1 cm2 ia2 0 0 ih2 in2 il2 tx2 sh2 cm3 ia3 0 0 ih3 in3 il3 tx3 sh3 (-1) 0 it0 (-1) 0 it1 (-1) 0 it2 (-1) 0 it3)) (va_runS (As := [.int w]) (rest := []) ⟨hx, hb, hml, hown, hts⟩ (c_X6_isEither l dC dI k (zTX k) w _ ) (va_cwS 1 hts (gzS wmt2_48 wmt2_49 wmt1_1 wmt2_50) rfl rfl rfl (by decide +kernel) ⟨Nat.le_of_ble_eq_true rfl, Nat.le_of_ble_eq_true rfl⟩) (zp0_S hK) rfl rfl hl.1 rfl (lv_room (Nat.le_of_ble_eq_true rfl)) dX6_saysYes_15 ⟨Nat.le_of_ble_eq_true rfl, Nat.le_of_ble_eq_true rfl⟩) hP hS hA (fun r_17 u_18 H locs w_19 hP hS => ?_)
            rcases w_19 with ⟨e_21, h_20⟩ | ⟨e_23, h_22⟩
            · skip
              replace e_21 : r_17 = 1 := e_21
              subst e_21
              replace h_20 : 0 ≤ (w : Int32) ∧ (w : Int32) ≤ 1 := h_20
              refine lv_if_ne (tgt := 27) hx hb dX6_saysYes_18 (by decide) (fun c_24 => ?_) (fun c_24 => ?_)
              · skip
                refine lv_aload_n hx hb dX6_saysYes_27 rfl (lv_at hl 0 rfl) ?_
                refine va_get (D := (dC, dI)) (ci := 6) (v := .ref (q 1)) (C := RX6) (T := TX6) (N := 12) hx hb hts hi6 hown hK.1 hP 0 rfl rfl 0 (by decide) (hts _ wmt1_170) (fun _ h9 => h9) rfl dX6_saysYes_28 ?_
                refine lv_iload_n hx hb dX6_saysYes_31 rfl (lv_at hl 1 rfl) ?_
                refine va_aldq (D := (dC, dI)) hx hb hK.1 hP 1 3 rfl rfl (show ¬ _ by decide) dX6_saysYes_32 ?_
                refine z_top (v2 := .ref (q 16)) (rfl) ?_
                refine lv_astore (lv' := [(4, .ref (q 16)), (0, .ref (q 0)), (1, .int 0), (2, .int h), (3, .int w)]) hx hb dX6_saysYes_33 hl (by decide) rfl (fun ls hl => ?_)
                refine lv_aload hx hb dX6_saysYes_35 (lv_at hl 0 rfl) ?_
                refine zcS_i (w := (zX k q 0 (-1) 12 100 0 (fun _ => 0) aps 0 ar1 ar2 ar3 ar4 ar5 ar6 ar7 ph pp py wy fa fb cm0 ia0 0 0 ih0 in0 il0 tx0 sh0 cm1 ia1 0 0 ih1 in1 il1 tx1 sh1 cm2 ia2 0 0 ih2 in2 il2 tx2 sh2 cm3 ia3 0 0 ih3 in3 il3 tx3 sh3 (-1) 0 it0 (-1) 0 it1 (-1) 0 it2 (-1) 0 it3)) (wc := (zDes k (q 16) (q 17) (q 18) tx0 sh0 cm0 ia0 0 0 ih0 in0 il0)) (va_runV (As := []) (rest := []) ⟨hx, hb, hml, hown, hts⟩ (c_X1_isFaulty l dC dI k (zTX k) (q 16) (q 17) (q 18) tx0 sh0 cm0 ia0 0 ih0 in0 il0 _ ) (cwV 0 hts (gzV wmt2_55 wmt2_20 wmt2_21 wmt1_6 wmt2_22) rfl rfl rfl (by decide +kernel) ⟨Nat.le_of_ble_eq_true rfl, Nat.le_of_ble_eq_true rfl⟩) (zp_V (ci := 1) (q0 := 16) hK hP hD [16, 17, 18] rfl rfl rfl rfl) rfl rfl hl.1 rfl (lv_room (Nat.le_of_ble_eq_true rfl)) dX6_saysYes_37 ⟨Nat.le_of_ble_eq_true rfl, Nat.le_of_ble_eq_true rfl⟩) hP hD hS hA [16, 17, 18] rfl (fun _ => rfl) (fun r_25 u_26 H locs w_27 hP hD hS => ?_)
                have hP : va_P (dC, dI) vwCl (zX k q 0 (-1) 12 100 0 (fun _ => 0) aps 0 ar1 ar2 ar3 ar4 ar5 ar6 ar7 ph pp py wy fa fb cm0 ia0 0 0 ih0 in0 il0 tx0 sh0 cm1 ia1 0 0 ih1 in1 il1 tx1 sh1 cm2 ia2 0 0 ih2 in2 il2 tx2 sh2 cm3 ia3 0 0 ih3 in3 il3 tx3 sh3 (-1) 0 it0 (-1) 0 it1 (-1) 0 it2 (-1) 0 it3) H := hP
                have hD : va_D A (zX k q 0 (-1) 12 100 0 (fun _ => 0) aps 0 ar1 ar2 ar3 ar4 ar5 ar6 ar7 ph pp py wy fa fb cm0 ia0 0 0 ih0 in0 il0 tx0 sh0 cm1 ia1 0 0 ih1 in1 il1 tx1 sh1 cm2 ia2 0 0 ih2 in2 il2 tx2 sh2 cm3 ia3 0 0 ih3 in3 il3 tx3 sh3 (-1) 0 it0 (-1) 0 it1 (-1) 0 it2 (-1) 0 it3) := hD
                have e_28 := w_27
                replace e_28 : r_25 = 1 := e_28
                subst e_28
                refine lv_if_eq (tgt := 49) hx hb dX6_saysYes_40 (by decide) (fun c_29 => ?_) (fun c_29 => ?_)
                · skip
                  exact absurd c_29 (by decide)
                · skip
                  refine lv_bipush (v := (-3)) hx hb dX6_saysYes_43 (by decide) ?_
                  refine zc0_l (w := (zX k q 0 (-1) 12 100 0 (fun _ => 0) aps 0 ar1 ar2 ar3 ar4 ar5 ar6 ar7 ph pp py wy fa fb cm0 ia0 0 0 ih0 in0 il0 tx0 sh0 cm1 ia1 0 0 ih1 in1 il1 tx1 sh1 cm2 ia2 0 0 ih2 in2 il2 tx2 sh2 cm3 ia3 0 0 ih3 in3 il3 tx3 sh3 (-1) 0 it0 (-1) 0 it1 (-1) 0 it2 (-1) 0 it3)) (va_runS (As := [.int (-3)]) (rest := []) ⟨hx, hb, hml, hown, hts⟩ (c_X6_asLong_3 l dC dI k (zTX k)  _ ) (va_cwS 1 hts (gzS wmt2_51 wmt2_52 wmt1_1 wmt2_53) rfl rfl rfl (by decide +kernel) ⟨Nat.le_of_ble_eq_true rfl, Nat.le_of_ble_eq_true rfl⟩) (zp0_S hK) rfl rfl hl.1 rfl (lv_room (Nat.le_of_ble_eq_true rfl)) dX6_saysYes_45 ⟨Nat.le_of_ble_eq_true rfl, Nat.le_of_ble_eq_true rfl⟩) hP hS hA (fun r_30 u_31 H locs w_32 hP hS => ?_)
                  have e_33 := w_32
                  replace e_33 : r_30 = (-9223372036854775805) := e_33
                  subst e_33
                  exact W.lret (v := (-9223372036854775805)) hx hb hr (fun t ht hW => ⟨⟨(-9223372036854775805), (), rfl, (by first | assumption | with_reducible rfl | contradiction | exact (if_pos (by repeat' (first | assumption | decide | constructor))).symm | exact (if_neg (fun hh => absurd hh (by assumption))).symm | exact (if_neg (fun hh => absurd hh.1 (by assumption))).symm | exact (if_neg (fun hh => absurd hh.2 (by assumption))).symm | exact (if_neg (fun hh => absurd hh.1.1 (by assumption))).symm | exact (if_neg (fun hh => absurd hh.1.2 (by assumption))).symm | exact (if_neg (fun hh => absurd hh.2.1 (by assumption))).symm | exact (if_neg (fun hh => absurd hh.2.2 (by assumption))).symm | exact (if_neg (fun hh => absurd hh.2.2.1 (by assumption))).symm | exact (if_neg (fun hh => absurd hh.2.2.2 (by assumption))).symm | exact (if_neg (fun hh => absurd hh.2.2.2.1 (by assumption))).symm | exact (if_neg (fun hh => absurd hh.2.2.2.2 (by assumption))).symm | decide | (exfalso; simp only [zi_le, zi_lt, zi_eq, zi_n0, zi_n1, zi_n2, zi_n3, zi_n4, zi_n23, zi_n24, zi_n100, zi_n399, zi_n60, zi_n255, zi_n99, zi_nm1, zi_n30] at *; omega) | (simp_all; done)), ⟨by rw [ht]; exact hP, hD⟩⟩, hS.F ht⟩) hS.2.2 dX6_saysYes_48
              · skip
                exact absurd c_24 (by decide)
            · skip
              replace e_23 : r_17 = 0 := e_23
              subst e_23
              replace h_22 : ¬ (0 ≤ (w : Int32) ∧ (w : Int32) ≤ 1) := h_22
              refine lv_if_ne (tgt := 27) hx hb dX6_saysYes_18 (by decide) (fun c_34 => ?_) (fun c_34 => ?_)
              · skip
                exact absurd c_34 (by decide)
              · skip
                refine lv_bipush (v := (-2)) hx hb dX6_saysYes_21 (by decide) ?_
                refine zc0_l (w := (zX k q 0 (-1) 12 100 0 (fun _ => 0) aps 0 ar1 ar2 ar3 ar4 ar5 ar6 ar7 ph pp py wy fa fb cm0 ia0 0 0 ih0 in0 il0 tx0 sh0 cm1 ia1 0 0 ih1 in1 il1 tx1 sh1 cm2 ia2 0 0 ih2 in2 il2 tx2 sh2 cm3 ia3 0 0 ih3 in3 il3 tx3 sh3 (-1) 0 it0 (-1) 0 it1 (-1) 0 it2 (-1) 0 it3)) (va_runS (As := [.int (-2)]) (rest := []) ⟨hx, hb, hml, hown, hts⟩ (c_X6_asLong_2 l dC dI k (zTX k)  _ ) (va_cwS 1 hts (gzS wmt2_51 wmt2_52 wmt1_1 wmt2_53) rfl rfl rfl (by decide +kernel) ⟨Nat.le_of_ble_eq_true rfl, Nat.le_of_ble_eq_true rfl⟩) (zp0_S hK) rfl rfl hl.1 rfl (lv_room (Nat.le_of_ble_eq_true rfl)) dX6_saysYes_23 ⟨Nat.le_of_ble_eq_true rfl, Nat.le_of_ble_eq_true rfl⟩) hP hS hA (fun r_35 u_36 H locs w_37 hP hS => ?_)
                have e_38 := w_37
                replace e_38 : r_35 = (-9223372036854775806) := e_38
                subst e_38
                exact W.lret (v := (-9223372036854775806)) hx hb hr (fun t ht hW => ⟨⟨(-9223372036854775806), (), rfl, (by first | assumption | with_reducible rfl | contradiction | exact (if_pos (by repeat' (first | assumption | decide | constructor))).symm | exact (if_neg (fun hh => absurd hh (by assumption))).symm | exact (if_neg (fun hh => absurd hh.1 (by assumption))).symm | exact (if_neg (fun hh => absurd hh.2 (by assumption))).symm | exact (if_neg (fun hh => absurd hh.1.1 (by assumption))).symm | exact (if_neg (fun hh => absurd hh.1.2 (by assumption))).symm | exact (if_neg (fun hh => absurd hh.2.1 (by assumption))).symm | exact (if_neg (fun hh => absurd hh.2.2 (by assumption))).symm | exact (if_neg (fun hh => absurd hh.2.2.1 (by assumption))).symm | exact (if_neg (fun hh => absurd hh.2.2.2 (by assumption))).symm | exact (if_neg (fun hh => absurd hh.2.2.2.1 (by assumption))).symm | exact (if_neg (fun hh => absurd hh.2.2.2.2 (by assumption))).symm | decide | (exfalso; simp only [zi_le, zi_lt, zi_eq, zi_n0, zi_n1, zi_n2, zi_n3, zi_n4, zi_n23, zi_n24, zi_n100, zi_n399, zi_n60, zi_n255, zi_n99, zi_nm1, zi_n30] at *; omega) | (simp_all; done)), ⟨by rw [ht]; exact hP, hD⟩⟩, hS.F ht⟩) hS.2.2 dX6_saysYes_26
        · skip
          replace e_15 : r_9 = 0 := e_15
          subst e_15
          replace h_14 : ¬ (0 ≤ (h : Int32) ∧ (h : Int32) ≤ 1) := h_14
          refine lv_if_eq (tgt := 21) hx hb dX6_saysYes_11 (by decide) (fun c_39 => ?_) (fun c_39 => ?_)
          · skip
            refine lv_bipush (v := (-2)) hx hb dX6_saysYes_21 (by decide) ?_
            refine zc0_l (w := (zX k q 0 (-1) 12 100 0 (fun _ => 0) aps 0 ar1 ar2 ar3 ar4 ar5 ar6 ar7 ph pp py wy fa fb cm0 ia0 0 0 ih0 in0 il0 tx0 sh0 cm1 ia1 0 0 ih1 in1 il1 tx1 sh1 cm2 ia2 0 0 ih2 in2 il2 tx2 sh2 cm3 ia3 0 0 ih3 in3 il3 tx3 sh3 (-1) 0 it0 (-1) 0 it1 (-1) 0 it2 (-1) 0 it3)) (va_runS (As := [.int (-2)]) (rest := []) ⟨hx, hb, hml, hown, hts⟩ (c_X6_asLong_2 l dC dI k (zTX k)  _ ) (va_cwS 1 hts (gzS wmt2_51 wmt2_52 wmt1_1 wmt2_53) rfl rfl rfl (by decide +kernel) ⟨Nat.le_of_ble_eq_true rfl, Nat.le_of_ble_eq_true rfl⟩) (zp0_S hK) rfl rfl hl.1 rfl (lv_room (Nat.le_of_ble_eq_true rfl)) dX6_saysYes_23 ⟨Nat.le_of_ble_eq_true rfl, Nat.le_of_ble_eq_true rfl⟩) hP hS hA (fun r_40 u_41 H locs w_42 hP hS => ?_)
            have e_43 := w_42
            replace e_43 : r_40 = (-9223372036854775806) := e_43
            subst e_43
            exact W.lret (v := (-9223372036854775806)) hx hb hr (fun t ht hW => ⟨⟨(-9223372036854775806), (), rfl, (by first | assumption | with_reducible rfl | contradiction | exact (if_pos (by repeat' (first | assumption | decide | constructor))).symm | exact (if_neg (fun hh => absurd hh (by assumption))).symm | exact (if_neg (fun hh => absurd hh.1 (by assumption))).symm | exact (if_neg (fun hh => absurd hh.2 (by assumption))).symm | exact (if_neg (fun hh => absurd hh.1.1 (by assumption))).symm | exact (if_neg (fun hh => absurd hh.1.2 (by assumption))).symm | exact (if_neg (fun hh => absurd hh.2.1 (by assumption))).symm | exact (if_neg (fun hh => absurd hh.2.2 (by assumption))).symm | exact (if_neg (fun hh => absurd hh.2.2.1 (by assumption))).symm | exact (if_neg (fun hh => absurd hh.2.2.2 (by assumption))).symm | exact (if_neg (fun hh => absurd hh.2.2.2.1 (by assumption))).symm | exact (if_neg (fun hh => absurd hh.2.2.2.2 (by assumption))).symm | decide | (exfalso; simp only [zi_le, zi_lt, zi_eq, zi_n0, zi_n1, zi_n2, zi_n3, zi_n4, zi_n23, zi_n24, zi_n100, zi_n399, zi_n60, zi_n255, zi_n99, zi_nm1, zi_n30] at *; omega) | (simp_all; done)), ⟨by rw [ht]; exact hP, hD⟩⟩, hS.F ht⟩) hS.2.2 dX6_saysYes_26
          · skip
            exact absurd (by decide) c_39
    · skip
      refine lv_if_eq (tgt := 21) hx hb dX6_saysYes_4 (by decide) (fun c_44 => ?_) (fun c_44 => ?_)
      · skip
        exact absurd c_44 (by decide)
      · skip
        refine lv_iload_n hx hb dX6_saysYes_7 rfl (lv_at hl 2 rfl) ?_
        refine zc0_i (w := (zX k q 0 (-1) 12 100 0 (fun _ => 0) aps 0 ar1 ar2 ar3 ar4 ar5 ar6 ar7 ph pp py wy fa fb cm0 ia0 0 0 ih0 in0 il0 tx0 sh0 cm1 ia1 0 0 ih1 in1 il1 tx1 sh1 cm2 ia2 0 0 ih2 in2 il2 tx2 sh2 cm3 ia3 0 0 ih3 in3 il3 tx3 sh3 (-1) 0 it0 (-1) 0 it1 (-1) 0 it2 (-1) 0 it3)) (va_runS (As := [.int h]) (rest := []) ⟨hx, hb, hml, hown, hts⟩ (c_X6_isEither l dC dI k (zTX k) h _ ) (va_cwS 1 hts (gzS wmt2_48 wmt2_49 wmt1_1 wmt2_50) rfl rfl rfl (by decide +kernel) ⟨Nat.le_of_ble_eq_true rfl, Nat.le_of_ble_eq_true rfl⟩) (zp0_S hK) rfl rfl hl.1 rfl (lv_room (Nat.le_of_ble_eq_true rfl)) dX6_saysYes_8 ⟨Nat.le_of_ble_eq_true rfl, Nat.le_of_ble_eq_true rfl⟩) hP hS hA (fun r_45 u_46 H locs w_47 hP hS => ?_)
        rcases w_47 with ⟨e_49, h_48⟩ | ⟨e_51, h_50⟩
        · skip
          replace e_49 : r_45 = 1 := e_49
          subst e_49
          replace h_48 : 0 ≤ (h : Int32) ∧ (h : Int32) ≤ 1 := h_48
          refine lv_if_eq (tgt := 21) hx hb dX6_saysYes_11 (by decide) (fun c_52 => ?_) (fun c_52 => ?_)
          · skip
            exact absurd c_52 (by decide)
          · skip
            refine lv_iload_n hx hb dX6_saysYes_14 rfl (lv_at hl 3 rfl) ?_
            refine zc0_i (w := (zX k q 0 (-1) 12 100 0 (fun _ => 0) aps 0 ar1 ar2 ar3 ar4 ar5 ar6 ar7 ph pp py wy fa fb cm0 ia0 0 0 ih0 in0 il0 tx0 sh0 cm1 ia1 0 0 ih1 in1 il1 tx1 sh1 cm2 ia2 0 0 ih2 in2 il2 tx2 sh2 cm3 ia3 0 0 ih3 in3 il3 tx3 sh3 (-1) 0 it0 (-1) 0 it1 (-1) 0 it2 (-1) 0 it3)) (va_runS (As := [.int w]) (rest := []) ⟨hx, hb, hml, hown, hts⟩ (c_X6_isEither l dC dI k (zTX k) w _ ) (va_cwS 1 hts (gzS wmt2_48 wmt2_49 wmt1_1 wmt2_50) rfl rfl rfl (by decide +kernel) ⟨Nat.le_of_ble_eq_true rfl, Nat.le_of_ble_eq_true rfl⟩) (zp0_S hK) rfl rfl hl.1 rfl (lv_room (Nat.le_of_ble_eq_true rfl)) dX6_saysYes_15 ⟨Nat.le_of_ble_eq_true rfl, Nat.le_of_ble_eq_true rfl⟩) hP hS hA (fun r_53 u_54 H locs w_55 hP hS => ?_)
            rcases w_55 with ⟨e_57, h_56⟩ | ⟨e_59, h_58⟩
            · skip
              replace e_57 : r_53 = 1 := e_57
              subst e_57
              replace h_56 : 0 ≤ (w : Int32) ∧ (w : Int32) ≤ 1 := h_56
              refine lv_if_ne (tgt := 27) hx hb dX6_saysYes_18 (by decide) (fun c_60 => ?_) (fun c_60 => ?_)
              · skip
                refine lv_aload_n hx hb dX6_saysYes_27 rfl (lv_at hl 0 rfl) ?_
                refine va_get (D := (dC, dI)) (ci := 6) (v := .ref (q 1)) (C := RX6) (T := TX6) (N := 12) hx hb hts hi6 hown hK.1 hP 0 rfl rfl 0 (by decide) (hts _ wmt1_170) (fun _ h9 => h9) rfl dX6_saysYes_28 ?_
                refine lv_iload_n hx hb dX6_saysYes_31 rfl (lv_at hl 1 rfl) ?_
                refine va_aldq (D := (dC, dI)) hx hb hK.1 hP 1 3 rfl rfl (show ¬ _ by decide) dX6_saysYes_32 ?_
                refine z_top (v2 := .ref (q 19)) (rfl) ?_
                refine lv_astore (lv' := [(4, .ref (q 19)), (0, .ref (q 0)), (1, .int 1), (2, .int h), (3, .int w)]) hx hb dX6_saysYes_33 hl (by decide) rfl (fun ls hl => ?_)
                refine lv_aload hx hb dX6_saysYes_35 (lv_at hl 0 rfl) ?_
                refine zcS_i (w := (zX k q 0 (-1) 12 100 0 (fun _ => 0) aps 0 ar1 ar2 ar3 ar4 ar5 ar6 ar7 ph pp py wy fa fb cm0 ia0 0 0 ih0 in0 il0 tx0 sh0 cm1 ia1 0 0 ih1 in1 il1 tx1 sh1 cm2 ia2 0 0 ih2 in2 il2 tx2 sh2 cm3 ia3 0 0 ih3 in3 il3 tx3 sh3 (-1) 0 it0 (-1) 0 it1 (-1) 0 it2 (-1) 0 it3)) (wc := (zDes k (q 19) (q 20) (q 21) tx1 sh1 cm1 ia1 0 0 ih1 in1 il1)) (va_runV (As := []) (rest := []) ⟨hx, hb, hml, hown, hts⟩ (c_X1_isFaulty l dC dI k (zTX k) (q 19) (q 20) (q 21) tx1 sh1 cm1 ia1 0 ih1 in1 il1 _ ) (cwV 0 hts (gzV wmt2_55 wmt2_20 wmt2_21 wmt1_6 wmt2_22) rfl rfl rfl (by decide +kernel) ⟨Nat.le_of_ble_eq_true rfl, Nat.le_of_ble_eq_true rfl⟩) (zp_V (ci := 1) (q0 := 19) hK hP hD [19, 20, 21] rfl rfl rfl rfl) rfl rfl hl.1 rfl (lv_room (Nat.le_of_ble_eq_true rfl)) dX6_saysYes_37 ⟨Nat.le_of_ble_eq_true rfl, Nat.le_of_ble_eq_true rfl⟩) hP hD hS hA [19, 20, 21] rfl (fun _ => rfl) (fun r_61 u_62 H locs w_63 hP hD hS => ?_)
                have hP : va_P (dC, dI) vwCl (zX k q 0 (-1) 12 100 0 (fun _ => 0) aps 0 ar1 ar2 ar3 ar4 ar5 ar6 ar7 ph pp py wy fa fb cm0 ia0 0 0 ih0 in0 il0 tx0 sh0 cm1 ia1 0 0 ih1 in1 il1 tx1 sh1 cm2 ia2 0 0 ih2 in2 il2 tx2 sh2 cm3 ia3 0 0 ih3 in3 il3 tx3 sh3 (-1) 0 it0 (-1) 0 it1 (-1) 0 it2 (-1) 0 it3) H := hP
                have hD : va_D A (zX k q 0 (-1) 12 100 0 (fun _ => 0) aps 0 ar1 ar2 ar3 ar4 ar5 ar6 ar7 ph pp py wy fa fb cm0 ia0 0 0 ih0 in0 il0 tx0 sh0 cm1 ia1 0 0 ih1 in1 il1 tx1 sh1 cm2 ia2 0 0 ih2 in2 il2 tx2 sh2 cm3 ia3 0 0 ih3 in3 il3 tx3 sh3 (-1) 0 it0 (-1) 0 it1 (-1) 0 it2 (-1) 0 it3) := hD
                have e_64 := w_63
                replace e_64 : r_61 = 1 := e_64
                subst e_64
                refine lv_if_eq (tgt := 49) hx hb dX6_saysYes_40 (by decide) (fun c_65 => ?_) (fun c_65 => ?_)
                · skip
                  exact absurd c_65 (by decide)
                · skip
                  refine lv_bipush (v := (-3)) hx hb dX6_saysYes_43 (by decide) ?_
                  refine zc0_l (w := (zX k q 0 (-1) 12 100 0 (fun _ => 0) aps 0 ar1 ar2 ar3 ar4 ar5 ar6 ar7 ph pp py wy fa fb cm0 ia0 0 0 ih0 in0 il0 tx0 sh0 cm1 ia1 0 0 ih1 in1 il1 tx1 sh1 cm2 ia2 0 0 ih2 in2 il2 tx2 sh2 cm3 ia3 0 0 ih3 in3 il3 tx3 sh3 (-1) 0 it0 (-1) 0 it1 (-1) 0 it2 (-1) 0 it3)) (va_runS (As := [.int (-3)]) (rest := []) ⟨hx, hb, hml, hown, hts⟩ (c_X6_asLong_3 l dC dI k (zTX k)  _ ) (va_cwS 1 hts (gzS wmt2_51 wmt2_52 wmt1_1 wmt2_53) rfl rfl rfl (by decide +kernel) ⟨Nat.le_of_ble_eq_true rfl, Nat.le_of_ble_eq_true rfl⟩) (zp0_S hK) rfl rfl hl.1 rfl (lv_room (Nat.le_of_ble_eq_true rfl)) dX6_saysYes_45 ⟨Nat.le_of_ble_eq_true rfl, Nat.le_of_ble_eq_true rfl⟩) hP hS hA (fun r_66 u_67 H locs w_68 hP hS => ?_)
                  have e_69 := w_68
                  replace e_69 : r_66 = (-9223372036854775805) := e_69
                  subst e_69
                  exact W.lret (v := (-9223372036854775805)) hx hb hr (fun t ht hW => ⟨⟨(-9223372036854775805), (), rfl, (by first | assumption | with_reducible rfl | contradiction | exact (if_pos (by repeat' (first | assumption | decide | constructor))).symm | exact (if_neg (fun hh => absurd hh (by assumption))).symm | exact (if_neg (fun hh => absurd hh.1 (by assumption))).symm | exact (if_neg (fun hh => absurd hh.2 (by assumption))).symm | exact (if_neg (fun hh => absurd hh.1.1 (by assumption))).symm | exact (if_neg (fun hh => absurd hh.1.2 (by assumption))).symm | exact (if_neg (fun hh => absurd hh.2.1 (by assumption))).symm | exact (if_neg (fun hh => absurd hh.2.2 (by assumption))).symm | exact (if_neg (fun hh => absurd hh.2.2.1 (by assumption))).symm | exact (if_neg (fun hh => absurd hh.2.2.2 (by assumption))).symm | exact (if_neg (fun hh => absurd hh.2.2.2.1 (by assumption))).symm | exact (if_neg (fun hh => absurd hh.2.2.2.2 (by assumption))).symm | decide | (exfalso; simp only [zi_le, zi_lt, zi_eq, zi_n0, zi_n1, zi_n2, zi_n3, zi_n4, zi_n23, zi_n24, zi_n100, zi_n399, zi_n60, zi_n255, zi_n99, zi_nm1, zi_n30] at *; omega) | (simp_all; done)), ⟨by rw [ht]; exact hP, hD⟩⟩, hS.F ht⟩) hS.2.2 dX6_saysYes_48
              · skip
                exact absurd c_60 (by decide)
            · skip
              replace e_59 : r_53 = 0 := e_59
              subst e_59
              replace h_58 : ¬ (0 ≤ (w : Int32) ∧ (w : Int32) ≤ 1) := h_58
              refine lv_if_ne (tgt := 27) hx hb dX6_saysYes_18 (by decide) (fun c_70 => ?_) (fun c_70 => ?_)
              · skip
                exact absurd c_70 (by decide)
              · skip
                refine lv_bipush (v := (-2)) hx hb dX6_saysYes_21 (by decide) ?_
                refine zc0_l (w := (zX k q 0 (-1) 12 100 0 (fun _ => 0) aps 0 ar1 ar2 ar3 ar4 ar5 ar6 ar7 ph pp py wy fa fb cm0 ia0 0 0 ih0 in0 il0 tx0 sh0 cm1 ia1 0 0 ih1 in1 il1 tx1 sh1 cm2 ia2 0 0 ih2 in2 il2 tx2 sh2 cm3 ia3 0 0 ih3 in3 il3 tx3 sh3 (-1) 0 it0 (-1) 0 it1 (-1) 0 it2 (-1) 0 it3)) (va_runS (As := [.int (-2)]) (rest := []) ⟨hx, hb, hml, hown, hts⟩ (c_X6_asLong_2 l dC dI k (zTX k)  _ ) (va_cwS 1 hts (gzS wmt2_51 wmt2_52 wmt1_1 wmt2_53) rfl rfl rfl (by decide +kernel) ⟨Nat.le_of_ble_eq_true rfl, Nat.le_of_ble_eq_true rfl⟩) (zp0_S hK) rfl rfl hl.1 rfl (lv_room (Nat.le_of_ble_eq_true rfl)) dX6_saysYes_23 ⟨Nat.le_of_ble_eq_true rfl, Nat.le_of_ble_eq_true rfl⟩) hP hS hA (fun r_71 u_72 H locs w_73 hP hS => ?_)
                have e_74 := w_73
                replace e_74 : r_71 = (-9223372036854775806) := e_74
                subst e_74
                exact W.lret (v := (-9223372036854775806)) hx hb hr (fun t ht hW => ⟨⟨(-9223372036854775806), (), rfl, (by first | assumption | with_reducible rfl | contradiction | exact (if_pos (by repeat' (first | assumption | decide | constructor))).symm | exact (if_neg (fun hh => absurd hh (by assumption))).symm | exact (if_neg (fun hh => absurd hh.1 (by assumption))).symm | exact (if_neg (fun hh => absurd hh.2 (by assumption))).symm | exact (if_neg (fun hh => absurd hh.1.1 (by assumption))).symm | exact (if_neg (fun hh => absurd hh.1.2 (by assumption))).symm | exact (if_neg (fun hh => absurd hh.2.1 (by assumption))).symm | exact (if_neg (fun hh => absurd hh.2.2 (by assumption))).symm | exact (if_neg (fun hh => absurd hh.2.2.1 (by assumption))).symm | exact (if_neg (fun hh => absurd hh.2.2.2 (by assumption))).symm | exact (if_neg (fun hh => absurd hh.2.2.2.1 (by assumption))).symm | exact (if_neg (fun hh => absurd hh.2.2.2.2 (by assumption))).symm | decide | (exfalso; simp only [zi_le, zi_lt, zi_eq, zi_n0, zi_n1, zi_n2, zi_n3, zi_n4, zi_n23, zi_n24, zi_n100, zi_n399, zi_n60, zi_n255, zi_n99, zi_nm1, zi_n30] at *; omega) | (simp_all; done)), ⟨by rw [ht]; exact hP, hD⟩⟩, hS.F ht⟩) hS.2.2 dX6_saysYes_26
        · skip
          replace e_51 : r_45 = 0 := e_51
          subst e_51
          replace h_50 : ¬ (0 ≤ (h : Int32) ∧ (h : Int32) ≤ 1) := h_50
          refine lv_if_eq (tgt := 21) hx hb dX6_saysYes_11 (by decide) (fun c_75 => ?_) (fun c_75 => ?_)
          · skip
            refine lv_bipush (v := (-2)) hx hb dX6_saysYes_21 (by decide) ?_
            refine zc0_l (w := (zX k q 0 (-1) 12 100 0 (fun _ => 0) aps 0 ar1 ar2 ar3 ar4 ar5 ar6 ar7 ph pp py wy fa fb cm0 ia0 0 0 ih0 in0 il0 tx0 sh0 cm1 ia1 0 0 ih1 in1 il1 tx1 sh1 cm2 ia2 0 0 ih2 in2 il2 tx2 sh2 cm3 ia3 0 0 ih3 in3 il3 tx3 sh3 (-1) 0 it0 (-1) 0 it1 (-1) 0 it2 (-1) 0 it3)) (va_runS (As := [.int (-2)]) (rest := []) ⟨hx, hb, hml, hown, hts⟩ (c_X6_asLong_2 l dC dI k (zTX k)  _ ) (va_cwS 1 hts (gzS wmt2_51 wmt2_52 wmt1_1 wmt2_53) rfl rfl rfl (by decide +kernel) ⟨Nat.le_of_ble_eq_true rfl, Nat.le_of_ble_eq_true rfl⟩) (zp0_S hK) rfl rfl hl.1 rfl (lv_room (Nat.le_of_ble_eq_true rfl)) dX6_saysYes_23 ⟨Nat.le_of_ble_eq_true rfl, Nat.le_of_ble_eq_true rfl⟩) hP hS hA (fun r_76 u_77 H locs w_78 hP hS => ?_)
            have e_79 := w_78
            replace e_79 : r_76 = (-9223372036854775806) := e_79
            subst e_79
            exact W.lret (v := (-9223372036854775806)) hx hb hr (fun t ht hW => ⟨⟨(-9223372036854775806), (), rfl, (by first | assumption | with_reducible rfl | contradiction | exact (if_pos (by repeat' (first | assumption | decide | constructor))).symm | exact (if_neg (fun hh => absurd hh (by assumption))).symm | exact (if_neg (fun hh => absurd hh.1 (by assumption))).symm | exact (if_neg (fun hh => absurd hh.2 (by assumption))).symm | exact (if_neg (fun hh => absurd hh.1.1 (by assumption))).symm | exact (if_neg (fun hh => absurd hh.1.2 (by assumption))).symm | exact (if_neg (fun hh => absurd hh.2.1 (by assumption))).symm | exact (if_neg (fun hh => absurd hh.2.2 (by assumption))).symm | exact (if_neg (fun hh => absurd hh.2.2.1 (by assumption))).symm | exact (if_neg (fun hh => absurd hh.2.2.2 (by assumption))).symm | exact (if_neg (fun hh => absurd hh.2.2.2.1 (by assumption))).symm | exact (if_neg (fun hh => absurd hh.2.2.2.2 (by assumption))).symm | decide | (exfalso; simp only [zi_le, zi_lt, zi_eq, zi_n0, zi_n1, zi_n2, zi_n3, zi_n4, zi_n23, zi_n24, zi_n100, zi_n399, zi_n60, zi_n255, zi_n99, zi_nm1, zi_n30] at *; omega) | (simp_all; done)), ⟨by rw [ht]; exact hP, hD⟩⟩, hS.F ht⟩) hS.2.2 dX6_saysYes_26
          · skip
            exact absurd (by decide) c_75
    · skip
      refine lv_if_eq (tgt := 21) hx hb dX6_saysYes_4 (by decide) (fun c_80 => ?_) (fun c_80 => ?_)
      · skip
        exact absurd c_80 (by decide)
      · skip
        refine lv_iload_n hx hb dX6_saysYes_7 rfl (lv_at hl 2 rfl) ?_
        refine zc0_i (w := (zX k q 0 (-1) 12 100 0 (fun _ => 0) aps 0 ar1 ar2 ar3 ar4 ar5 ar6 ar7 ph pp py wy fa fb cm0 ia0 0 0 ih0 in0 il0 tx0 sh0 cm1 ia1 0 0 ih1 in1 il1 tx1 sh1 cm2 ia2 0 0 ih2 in2 il2 tx2 sh2 cm3 ia3 0 0 ih3 in3 il3 tx3 sh3 (-1) 0 it0 (-1) 0 it1 (-1) 0 it2 (-1) 0 it3)) (va_runS (As := [.int h]) (rest := []) ⟨hx, hb, hml, hown, hts⟩ (c_X6_isEither l dC dI k (zTX k) h _ ) (va_cwS 1 hts (gzS wmt2_48 wmt2_49 wmt1_1 wmt2_50) rfl rfl rfl (by decide +kernel) ⟨Nat.le_of_ble_eq_true rfl, Nat.le_of_ble_eq_true rfl⟩) (zp0_S hK) rfl rfl hl.1 rfl (lv_room (Nat.le_of_ble_eq_true rfl)) dX6_saysYes_8 ⟨Nat.le_of_ble_eq_true rfl, Nat.le_of_ble_eq_true rfl⟩) hP hS hA (fun r_81 u_82 H locs w_83 hP hS => ?_)
        rcases w_83 with ⟨e_85, h_84⟩ | ⟨e_87, h_86⟩
        · skip
          replace e_85 : r_81 = 1 := e_85
          subst e_85
          replace h_84 : 0 ≤ (h : Int32) ∧ (h : Int32) ≤ 1 := h_84
          refine lv_if_eq (tgt := 21) hx hb dX6_saysYes_11 (by decide) (fun c_88 => ?_) (fun c_88 => ?_)
          · skip
            exact absurd c_88 (by decide)
          · skip
            refine lv_iload_n hx hb dX6_saysYes_14 rfl (lv_at hl 3 rfl) ?_
            refine zc0_i (w := (zX k q 0 (-1) 12 100 0 (fun _ => 0) aps 0 ar1 ar2 ar3 ar4 ar5 ar6 ar7 ph pp py wy fa fb cm0 ia0 0 0 ih0 in0 il0 tx0 sh0 cm1 ia1 0 0 ih1 in1 il1 tx1 sh1 cm2 ia2 0 0 ih2 in2 il2 tx2 sh2 cm3 ia3 0 0 ih3 in3 il3 tx3 sh3 (-1) 0 it0 (-1) 0 it1 (-1) 0 it2 (-1) 0 it3)) (va_runS (As := [.int w]) (rest := []) ⟨hx, hb, hml, hown, hts⟩ (c_X6_isEither l dC dI k (zTX k) w _ ) (va_cwS 1 hts (gzS wmt2_48 wmt2_49 wmt1_1 wmt2_50) rfl rfl rfl (by decide +kernel) ⟨Nat.le_of_ble_eq_true rfl, Nat.le_of_ble_eq_true rfl⟩) (zp0_S hK) rfl rfl hl.1 rfl (lv_room (Nat.le_of_ble_eq_true rfl)) dX6_saysYes_15 ⟨Nat.le_of_ble_eq_true rfl, Nat.le_of_ble_eq_true rfl⟩) hP hS hA (fun r_89 u_90 H locs w_91 hP hS => ?_)
            rcases w_91 with ⟨e_93, h_92⟩ | ⟨e_95, h_94⟩
            · skip
              replace e_93 : r_89 = 1 := e_93
              subst e_93
              replace h_92 : 0 ≤ (w : Int32) ∧ (w : Int32) ≤ 1 := h_92
              refine lv_if_ne (tgt := 27) hx hb dX6_saysYes_18 (by decide) (fun c_96 => ?_) (fun c_96 => ?_)
              · skip
                refine lv_aload_n hx hb dX6_saysYes_27 rfl (lv_at hl 0 rfl) ?_
                refine va_get (D := (dC, dI)) (ci := 6) (v := .ref (q 1)) (C := RX6) (T := TX6) (N := 12) hx hb hts hi6 hown hK.1 hP 0 rfl rfl 0 (by decide) (hts _ wmt1_170) (fun _ h9 => h9) rfl dX6_saysYes_28 ?_
                refine lv_iload_n hx hb dX6_saysYes_31 rfl (lv_at hl 1 rfl) ?_
                refine va_aldq (D := (dC, dI)) hx hb hK.1 hP 1 3 rfl rfl (show ¬ _ by decide) dX6_saysYes_32 ?_
                refine z_top (v2 := .ref (q 22)) (rfl) ?_
                refine lv_astore (lv' := [(4, .ref (q 22)), (0, .ref (q 0)), (1, .int 2), (2, .int h), (3, .int w)]) hx hb dX6_saysYes_33 hl (by decide) rfl (fun ls hl => ?_)
                refine lv_aload hx hb dX6_saysYes_35 (lv_at hl 0 rfl) ?_
                refine zcS_i (w := (zX k q 0 (-1) 12 100 0 (fun _ => 0) aps 0 ar1 ar2 ar3 ar4 ar5 ar6 ar7 ph pp py wy fa fb cm0 ia0 0 0 ih0 in0 il0 tx0 sh0 cm1 ia1 0 0 ih1 in1 il1 tx1 sh1 cm2 ia2 0 0 ih2 in2 il2 tx2 sh2 cm3 ia3 0 0 ih3 in3 il3 tx3 sh3 (-1) 0 it0 (-1) 0 it1 (-1) 0 it2 (-1) 0 it3)) (wc := (zDes k (q 22) (q 23) (q 24) tx2 sh2 cm2 ia2 0 0 ih2 in2 il2)) (va_runV (As := []) (rest := []) ⟨hx, hb, hml, hown, hts⟩ (c_X1_isFaulty l dC dI k (zTX k) (q 22) (q 23) (q 24) tx2 sh2 cm2 ia2 0 ih2 in2 il2 _ ) (cwV 0 hts (gzV wmt2_55 wmt2_20 wmt2_21 wmt1_6 wmt2_22) rfl rfl rfl (by decide +kernel) ⟨Nat.le_of_ble_eq_true rfl, Nat.le_of_ble_eq_true rfl⟩) (zp_V (ci := 1) (q0 := 22) hK hP hD [22, 23, 24] rfl rfl rfl rfl) rfl rfl hl.1 rfl (lv_room (Nat.le_of_ble_eq_true rfl)) dX6_saysYes_37 ⟨Nat.le_of_ble_eq_true rfl, Nat.le_of_ble_eq_true rfl⟩) hP hD hS hA [22, 23, 24] rfl (fun _ => rfl) (fun r_97 u_98 H locs w_99 hP hD hS => ?_)
                have hP : va_P (dC, dI) vwCl (zX k q 0 (-1) 12 100 0 (fun _ => 0) aps 0 ar1 ar2 ar3 ar4 ar5 ar6 ar7 ph pp py wy fa fb cm0 ia0 0 0 ih0 in0 il0 tx0 sh0 cm1 ia1 0 0 ih1 in1 il1 tx1 sh1 cm2 ia2 0 0 ih2 in2 il2 tx2 sh2 cm3 ia3 0 0 ih3 in3 il3 tx3 sh3 (-1) 0 it0 (-1) 0 it1 (-1) 0 it2 (-1) 0 it3) H := hP
                have hD : va_D A (zX k q 0 (-1) 12 100 0 (fun _ => 0) aps 0 ar1 ar2 ar3 ar4 ar5 ar6 ar7 ph pp py wy fa fb cm0 ia0 0 0 ih0 in0 il0 tx0 sh0 cm1 ia1 0 0 ih1 in1 il1 tx1 sh1 cm2 ia2 0 0 ih2 in2 il2 tx2 sh2 cm3 ia3 0 0 ih3 in3 il3 tx3 sh3 (-1) 0 it0 (-1) 0 it1 (-1) 0 it2 (-1) 0 it3) := hD
                have e_100 := w_99
                replace e_100 : r_97 = 1 := e_100
                subst e_100
                refine lv_if_eq (tgt := 49) hx hb dX6_saysYes_40 (by decide) (fun c_101 => ?_) (fun c_101 => ?_)
                · skip
                  exact absurd c_101 (by decide)
                · skip
                  refine lv_bipush (v := (-3)) hx hb dX6_saysYes_43 (by decide) ?_
                  refine zc0_l (w := (zX k q 0 (-1) 12 100 0 (fun _ => 0) aps 0 ar1 ar2 ar3 ar4 ar5 ar6 ar7 ph pp py wy fa fb cm0 ia0 0 0 ih0 in0 il0 tx0 sh0 cm1 ia1 0 0 ih1 in1 il1 tx1 sh1 cm2 ia2 0 0 ih2 in2 il2 tx2 sh2 cm3 ia3 0 0 ih3 in3 il3 tx3 sh3 (-1) 0 it0 (-1) 0 it1 (-1) 0 it2 (-1) 0 it3)) (va_runS (As := [.int (-3)]) (rest := []) ⟨hx, hb, hml, hown, hts⟩ (c_X6_asLong_3 l dC dI k (zTX k)  _ ) (va_cwS 1 hts (gzS wmt2_51 wmt2_52 wmt1_1 wmt2_53) rfl rfl rfl (by decide +kernel) ⟨Nat.le_of_ble_eq_true rfl, Nat.le_of_ble_eq_true rfl⟩) (zp0_S hK) rfl rfl hl.1 rfl (lv_room (Nat.le_of_ble_eq_true rfl)) dX6_saysYes_45 ⟨Nat.le_of_ble_eq_true rfl, Nat.le_of_ble_eq_true rfl⟩) hP hS hA (fun r_102 u_103 H locs w_104 hP hS => ?_)
                  have e_105 := w_104
                  replace e_105 : r_102 = (-9223372036854775805) := e_105
                  subst e_105
                  exact W.lret (v := (-9223372036854775805)) hx hb hr (fun t ht hW => ⟨⟨(-9223372036854775805), (), rfl, (by first | assumption | with_reducible rfl | contradiction | exact (if_pos (by repeat' (first | assumption | decide | constructor))).symm | exact (if_neg (fun hh => absurd hh (by assumption))).symm | exact (if_neg (fun hh => absurd hh.1 (by assumption))).symm | exact (if_neg (fun hh => absurd hh.2 (by assumption))).symm | exact (if_neg (fun hh => absurd hh.1.1 (by assumption))).symm | exact (if_neg (fun hh => absurd hh.1.2 (by assumption))).symm | exact (if_neg (fun hh => absurd hh.2.1 (by assumption))).symm | exact (if_neg (fun hh => absurd hh.2.2 (by assumption))).symm | exact (if_neg (fun hh => absurd hh.2.2.1 (by assumption))).symm | exact (if_neg (fun hh => absurd hh.2.2.2 (by assumption))).symm | exact (if_neg (fun hh => absurd hh.2.2.2.1 (by assumption))).symm | exact (if_neg (fun hh => absurd hh.2.2.2.2 (by assumption))).symm | decide | (exfalso; simp only [zi_le, zi_lt, zi_eq, zi_n0, zi_n1, zi_n2, zi_n3, zi_n4, zi_n23, zi_n24, zi_n100, zi_n399, zi_n60, zi_n255, zi_n99, zi_nm1, zi_n30] at *; omega) | (simp_all; done)), ⟨by rw [ht]; exact hP, hD⟩⟩, hS.F ht⟩) hS.2.2 dX6_saysYes_48
              · skip
                exact absurd c_96 (by decide)
            · skip
              replace e_95 : r_89 = 0 := e_95
              subst e_95
              replace h_94 : ¬ (0 ≤ (w : Int32) ∧ (w : Int32) ≤ 1) := h_94
              refine lv_if_ne (tgt := 27) hx hb dX6_saysYes_18 (by decide) (fun c_106 => ?_) (fun c_106 => ?_)
              · skip
                exact absurd c_106 (by decide)
              · skip
                refine lv_bipush (v := (-2)) hx hb dX6_saysYes_21 (by decide) ?_
                refine zc0_l (w := (zX k q 0 (-1) 12 100 0 (fun _ => 0) aps 0 ar1 ar2 ar3 ar4 ar5 ar6 ar7 ph pp py wy fa fb cm0 ia0 0 0 ih0 in0 il0 tx0 sh0 cm1 ia1 0 0 ih1 in1 il1 tx1 sh1 cm2 ia2 0 0 ih2 in2 il2 tx2 sh2 cm3 ia3 0 0 ih3 in3 il3 tx3 sh3 (-1) 0 it0 (-1) 0 it1 (-1) 0 it2 (-1) 0 it3)) (va_runS (As := [.int (-2)]) (rest := []) ⟨hx, hb, hml, hown, hts⟩ (c_X6_asLong_2 l dC dI k (zTX k)  _ ) (va_cwS 1 hts (gzS wmt2_51 wmt2_52 wmt1_1 wmt2_53) rfl rfl rfl (by decide +kernel) ⟨Nat.le_of_ble_eq_true rfl, Nat.le_of_ble_eq_true rfl⟩) (zp0_S hK) rfl rfl hl.1 rfl (lv_room (Nat.le_of_ble_eq_true rfl)) dX6_saysYes_23 ⟨Nat.le_of_ble_eq_true rfl, Nat.le_of_ble_eq_true rfl⟩) hP hS hA (fun r_107 u_108 H locs w_109 hP hS => ?_)
                have e_110 := w_109
                replace e_110 : r_107 = (-9223372036854775806) := e_110
                subst e_110
                exact W.lret (v := (-9223372036854775806)) hx hb hr (fun t ht hW => ⟨⟨(-9223372036854775806), (), rfl, (by first | assumption | with_reducible rfl | contradiction | exact (if_pos (by repeat' (first | assumption | decide | constructor))).symm | exact (if_neg (fun hh => absurd hh (by assumption))).symm | exact (if_neg (fun hh => absurd hh.1 (by assumption))).symm | exact (if_neg (fun hh => absurd hh.2 (by assumption))).symm | exact (if_neg (fun hh => absurd hh.1.1 (by assumption))).symm | exact (if_neg (fun hh => absurd hh.1.2 (by assumption))).symm | exact (if_neg (fun hh => absurd hh.2.1 (by assumption))).symm | exact (if_neg (fun hh => absurd hh.2.2 (by assumption))).symm | exact (if_neg (fun hh => absurd hh.2.2.1 (by assumption))).symm | exact (if_neg (fun hh => absurd hh.2.2.2 (by assumption))).symm | exact (if_neg (fun hh => absurd hh.2.2.2.1 (by assumption))).symm | exact (if_neg (fun hh => absurd hh.2.2.2.2 (by assumption))).symm | decide | (exfalso; simp only [zi_le, zi_lt, zi_eq, zi_n0, zi_n1, zi_n2, zi_n3, zi_n4, zi_n23, zi_n24, zi_n100, zi_n399, zi_n60, zi_n255, zi_n99, zi_nm1, zi_n30] at *; omega) | (simp_all; done)), ⟨by rw [ht]; exact hP, hD⟩⟩, hS.F ht⟩) hS.2.2 dX6_saysYes_26
        · skip
          replace e_87 : r_81 = 0 := e_87
          subst e_87
          replace h_86 : ¬ (0 ≤ (h : Int32) ∧ (h : Int32) ≤ 1) := h_86
          refine lv_if_eq (tgt := 21) hx hb dX6_saysYes_11 (by decide) (fun c_111 => ?_) (fun c_111 => ?_)
          · skip
            refine lv_bipush (v := (-2)) hx hb dX6_saysYes_21 (by decide) ?_
            refine zc0_l (w := (zX k q 0 (-1) 12 100 0 (fun _ => 0) aps 0 ar1 ar2 ar3 ar4 ar5 ar6 ar7 ph pp py wy fa fb cm0 ia0 0 0 ih0 in0 il0 tx0 sh0 cm1 ia1 0 0 ih1 in1 il1 tx1 sh1 cm2 ia2 0 0 ih2 in2 il2 tx2 sh2 cm3 ia3 0 0 ih3 in3 il3 tx3 sh3 (-1) 0 it0 (-1) 0 it1 (-1) 0 it2 (-1) 0 it3)) (va_runS (As := [.int (-2)]) (rest := []) ⟨hx, hb, hml, hown, hts⟩ (c_X6_asLong_2 l dC dI k (zTX k)  _ ) (va_cwS 1 hts (gzS wmt2_51 wmt2_52 wmt1_1 wmt2_53) rfl rfl rfl (by decide +kernel) ⟨Nat.le_of_ble_eq_true rfl, Nat.le_of_ble_eq_true rfl⟩) (zp0_S hK) rfl rfl hl.1 rfl (lv_room (Nat.le_of_ble_eq_true rfl)) dX6_saysYes_23 ⟨Nat.le_of_ble_eq_true rfl, Nat.le_of_ble_eq_true rfl⟩) hP hS hA (fun r_112 u_113 H locs w_114 hP hS => ?_)
            have e_115 := w_114
            replace e_115 : r_112 = (-9223372036854775806) := e_115
            subst e_115
            exact W.lret (v := (-9223372036854775806)) hx hb hr (fun t ht hW => ⟨⟨(-9223372036854775806), (), rfl, (by first | assumption | with_reducible rfl | contradiction | exact (if_pos (by repeat' (first | assumption | decide | constructor))).symm | exact (if_neg (fun hh => absurd hh (by assumption))).symm | exact (if_neg (fun hh => absurd hh.1 (by assumption))).symm | exact (if_neg (fun hh => absurd hh.2 (by assumption))).symm | exact (if_neg (fun hh => absurd hh.1.1 (by assumption))).symm | exact (if_neg (fun hh => absurd hh.1.2 (by assumption))).symm | exact (if_neg (fun hh => absurd hh.2.1 (by assumption))).symm | exact (if_neg (fun hh => absurd hh.2.2 (by assumption))).symm | exact (if_neg (fun hh => absurd hh.2.2.1 (by assumption))).symm | exact (if_neg (fun hh => absurd hh.2.2.2 (by assumption))).symm | exact (if_neg (fun hh => absurd hh.2.2.2.1 (by assumption))).symm | exact (if_neg (fun hh => absurd hh.2.2.2.2 (by assumption))).symm | decide | (exfalso; simp only [zi_le, zi_lt, zi_eq, zi_n0, zi_n1, zi_n2, zi_n3, zi_n4, zi_n23, zi_n24, zi_n100, zi_n399, zi_n60, zi_n255, zi_n99, zi_nm1, zi_n30] at *; omega) | (simp_all; done)), ⟨by rw [ht]; exact hP, hD⟩⟩, hS.F ht⟩) hS.2.2 dX6_saysYes_26
          · skip
            exact absurd (by decide) c_111
    · skip
      refine lv_if_eq (tgt := 21) hx hb dX6_saysYes_4 (by decide) (fun c_116 => ?_) (fun c_116 => ?_)
      · skip
        exact absurd c_116 (by decide)
      · skip
        refine lv_iload_n hx hb dX6_saysYes_7 rfl (lv_at hl 2 rfl) ?_
        refine zc0_i (w := (zX k q 0 (-1) 12 100 0 (fun _ => 0) aps 0 ar1 ar2 ar3 ar4 ar5 ar6 ar7 ph pp py wy fa fb cm0 ia0 0 0 ih0 in0 il0 tx0 sh0 cm1 ia1 0 0 ih1 in1 il1 tx1 sh1 cm2 ia2 0 0 ih2 in2 il2 tx2 sh2 cm3 ia3 0 0 ih3 in3 il3 tx3 sh3 (-1) 0 it0 (-1) 0 it1 (-1) 0 it2 (-1) 0 it3)) (va_runS (As := [.int h]) (rest := []) ⟨hx, hb, hml, hown, hts⟩ (c_X6_isEither l dC dI k (zTX k) h _ ) (va_cwS 1 hts (gzS wmt2_48 wmt2_49 wmt1_1 wmt2_50) rfl rfl rfl (by decide +kernel) ⟨Nat.le_of_ble_eq_true rfl, Nat.le_of_ble_eq_true rfl⟩) (zp0_S hK) rfl rfl hl.1 rfl (lv_room (Nat.le_of_ble_eq_true rfl)) dX6_saysYes_8 ⟨Nat.le_of_ble_eq_true rfl, Nat.le_of_ble_eq_true rfl⟩) hP hS hA (fun r_117 u_118 H locs w_119 hP hS => ?_)
        rcases w_119 with ⟨e_121, h_120⟩ | ⟨e_123, h_122⟩
        · skip
          replace e_121 : r_117 = 1 := e_121
          subst e_121
          replace h_120 : 0 ≤ (h : Int32) ∧ (h : Int32) ≤ 1 := h_120
          refine lv_if_eq (tgt := 21) hx hb dX6_saysYes_11 (by decide) (fun c_124 => ?_) (fun c_124 => ?_)
          · skip
            exact absurd c_124 (by decide)
          · skip
            refine lv_iload_n hx hb dX6_saysYes_14 rfl (lv_at hl 3 rfl) ?_
            refine zc0_i (w := (zX k q 0 (-1) 12 100 0 (fun _ => 0) aps 0 ar1 ar2 ar3 ar4 ar5 ar6 ar7 ph pp py wy fa fb cm0 ia0 0 0 ih0 in0 il0 tx0 sh0 cm1 ia1 0 0 ih1 in1 il1 tx1 sh1 cm2 ia2 0 0 ih2 in2 il2 tx2 sh2 cm3 ia3 0 0 ih3 in3 il3 tx3 sh3 (-1) 0 it0 (-1) 0 it1 (-1) 0 it2 (-1) 0 it3)) (va_runS (As := [.int w]) (rest := []) ⟨hx, hb, hml, hown, hts⟩ (c_X6_isEither l dC dI k (zTX k) w _ ) (va_cwS 1 hts (gzS wmt2_48 wmt2_49 wmt1_1 wmt2_50) rfl rfl rfl (by decide +kernel) ⟨Nat.le_of_ble_eq_true rfl, Nat.le_of_ble_eq_true rfl⟩) (zp0_S hK) rfl rfl hl.1 rfl (lv_room (Nat.le_of_ble_eq_true rfl)) dX6_saysYes_15 ⟨Nat.le_of_ble_eq_true rfl, Nat.le_of_ble_eq_true rfl⟩) hP hS hA (fun r_125 u_126 H locs w_127 hP hS => ?_)
            rcases w_127 with ⟨e_129, h_128⟩ | ⟨e_131, h_130⟩
            · skip
              replace e_129 : r_125 = 1 := e_129
              subst e_129
              replace h_128 : 0 ≤ (w : Int32) ∧ (w : Int32) ≤ 1 := h_128
              refine lv_if_ne (tgt := 27) hx hb dX6_saysYes_18 (by decide) (fun c_132 => ?_) (fun c_132 => ?_)
              · skip
                refine lv_aload_n hx hb dX6_saysYes_27 rfl (lv_at hl 0 rfl) ?_
                refine va_get (D := (dC, dI)) (ci := 6) (v := .ref (q 1)) (C := RX6) (T := TX6) (N := 12) hx hb hts hi6 hown hK.1 hP 0 rfl rfl 0 (by decide) (hts _ wmt1_170) (fun _ h9 => h9) rfl dX6_saysYes_28 ?_
                refine lv_iload_n hx hb dX6_saysYes_31 rfl (lv_at hl 1 rfl) ?_
                refine va_aldq (D := (dC, dI)) hx hb hK.1 hP 1 3 rfl rfl (show ¬ _ by decide) dX6_saysYes_32 ?_
                refine z_top (v2 := .ref (q 25)) (rfl) ?_
                refine lv_astore (lv' := [(4, .ref (q 25)), (0, .ref (q 0)), (1, .int 3), (2, .int h), (3, .int w)]) hx hb dX6_saysYes_33 hl (by decide) rfl (fun ls hl => ?_)
                refine lv_aload hx hb dX6_saysYes_35 (lv_at hl 0 rfl) ?_
                refine zcS_i (w := (zX k q 0 (-1) 12 100 0 (fun _ => 0) aps 0 ar1 ar2 ar3 ar4 ar5 ar6 ar7 ph pp py wy fa fb cm0 ia0 0 0 ih0 in0 il0 tx0 sh0 cm1 ia1 0 0 ih1 in1 il1 tx1 sh1 cm2 ia2 0 0 ih2 in2 il2 tx2 sh2 cm3 ia3 0 0 ih3 in3 il3 tx3 sh3 (-1) 0 it0 (-1) 0 it1 (-1) 0 it2 (-1) 0 it3)) (wc := (zDes k (q 25) (q 26) (q 27) tx3 sh3 cm3 ia3 0 0 ih3 in3 il3)) (va_runV (As := []) (rest := []) ⟨hx, hb, hml, hown, hts⟩ (c_X1_isFaulty l dC dI k (zTX k) (q 25) (q 26) (q 27) tx3 sh3 cm3 ia3 0 ih3 in3 il3 _ ) (cwV 0 hts (gzV wmt2_55 wmt2_20 wmt2_21 wmt1_6 wmt2_22) rfl rfl rfl (by decide +kernel) ⟨Nat.le_of_ble_eq_true rfl, Nat.le_of_ble_eq_true rfl⟩) (zp_V (ci := 1) (q0 := 25) hK hP hD [25, 26, 27] rfl rfl rfl rfl) rfl rfl hl.1 rfl (lv_room (Nat.le_of_ble_eq_true rfl)) dX6_saysYes_37 ⟨Nat.le_of_ble_eq_true rfl, Nat.le_of_ble_eq_true rfl⟩) hP hD hS hA [25, 26, 27] rfl (fun _ => rfl) (fun r_133 u_134 H locs w_135 hP hD hS => ?_)
                have hP : va_P (dC, dI) vwCl (zX k q 0 (-1) 12 100 0 (fun _ => 0) aps 0 ar1 ar2 ar3 ar4 ar5 ar6 ar7 ph pp py wy fa fb cm0 ia0 0 0 ih0 in0 il0 tx0 sh0 cm1 ia1 0 0 ih1 in1 il1 tx1 sh1 cm2 ia2 0 0 ih2 in2 il2 tx2 sh2 cm3 ia3 0 0 ih3 in3 il3 tx3 sh3 (-1) 0 it0 (-1) 0 it1 (-1) 0 it2 (-1) 0 it3) H := hP
                have hD : va_D A (zX k q 0 (-1) 12 100 0 (fun _ => 0) aps 0 ar1 ar2 ar3 ar4 ar5 ar6 ar7 ph pp py wy fa fb cm0 ia0 0 0 ih0 in0 il0 tx0 sh0 cm1 ia1 0 0 ih1 in1 il1 tx1 sh1 cm2 ia2 0 0 ih2 in2 il2 tx2 sh2 cm3 ia3 0 0 ih3 in3 il3 tx3 sh3 (-1) 0 it0 (-1) 0 it1 (-1) 0 it2 (-1) 0 it3) := hD
                have e_136 := w_135
                replace e_136 : r_133 = 1 := e_136
                subst e_136
                refine lv_if_eq (tgt := 49) hx hb dX6_saysYes_40 (by decide) (fun c_137 => ?_) (fun c_137 => ?_)
                · skip
                  exact absurd c_137 (by decide)
                · skip
                  refine lv_bipush (v := (-3)) hx hb dX6_saysYes_43 (by decide) ?_
                  refine zc0_l (w := (zX k q 0 (-1) 12 100 0 (fun _ => 0) aps 0 ar1 ar2 ar3 ar4 ar5 ar6 ar7 ph pp py wy fa fb cm0 ia0 0 0 ih0 in0 il0 tx0 sh0 cm1 ia1 0 0 ih1 in1 il1 tx1 sh1 cm2 ia2 0 0 ih2 in2 il2 tx2 sh2 cm3 ia3 0 0 ih3 in3 il3 tx3 sh3 (-1) 0 it0 (-1) 0 it1 (-1) 0 it2 (-1) 0 it3)) (va_runS (As := [.int (-3)]) (rest := []) ⟨hx, hb, hml, hown, hts⟩ (c_X6_asLong_3 l dC dI k (zTX k)  _ ) (va_cwS 1 hts (gzS wmt2_51 wmt2_52 wmt1_1 wmt2_53) rfl rfl rfl (by decide +kernel) ⟨Nat.le_of_ble_eq_true rfl, Nat.le_of_ble_eq_true rfl⟩) (zp0_S hK) rfl rfl hl.1 rfl (lv_room (Nat.le_of_ble_eq_true rfl)) dX6_saysYes_45 ⟨Nat.le_of_ble_eq_true rfl, Nat.le_of_ble_eq_true rfl⟩) hP hS hA (fun r_138 u_139 H locs w_140 hP hS => ?_)
                  have e_141 := w_140
                  replace e_141 : r_138 = (-9223372036854775805) := e_141
                  subst e_141
                  exact W.lret (v := (-9223372036854775805)) hx hb hr (fun t ht hW => ⟨⟨(-9223372036854775805), (), rfl, (by first | assumption | with_reducible rfl | contradiction | exact (if_pos (by repeat' (first | assumption | decide | constructor))).symm | exact (if_neg (fun hh => absurd hh (by assumption))).symm | exact (if_neg (fun hh => absurd hh.1 (by assumption))).symm | exact (if_neg (fun hh => absurd hh.2 (by assumption))).symm | exact (if_neg (fun hh => absurd hh.1.1 (by assumption))).symm | exact (if_neg (fun hh => absurd hh.1.2 (by assumption))).symm | exact (if_neg (fun hh => absurd hh.2.1 (by assumption))).symm | exact (if_neg (fun hh => absurd hh.2.2 (by assumption))).symm | exact (if_neg (fun hh => absurd hh.2.2.1 (by assumption))).symm | exact (if_neg (fun hh => absurd hh.2.2.2 (by assumption))).symm | exact (if_neg (fun hh => absurd hh.2.2.2.1 (by assumption))).symm | exact (if_neg (fun hh => absurd hh.2.2.2.2 (by assumption))).symm | decide | (exfalso; simp only [zi_le, zi_lt, zi_eq, zi_n0, zi_n1, zi_n2, zi_n3, zi_n4, zi_n23, zi_n24, zi_n100, zi_n399, zi_n60, zi_n255, zi_n99, zi_nm1, zi_n30] at *; omega) | (simp_all; done)), ⟨by rw [ht]; exact hP, hD⟩⟩, hS.F ht⟩) hS.2.2 dX6_saysYes_48
              · skip
                exact absurd c_132 (by decide)
            · skip
              replace e_131 : r_125 = 0 := e_131
              subst e_131
              replace h_130 : ¬ (0 ≤ (w : Int32) ∧ (w : Int32) ≤ 1) := h_130
              refine lv_if_ne (tgt := 27) hx hb dX6_saysYes_18 (by decide) (fun c_142 => ?_) (fun c_142 => ?_)
              · skip
                exact absurd c_142 (by decide)
              · skip
                refine lv_bipush (v := (-2)) hx hb dX6_saysYes_21 (by decide) ?_
                refine zc0_l (w := (zX k q 0 (-1) 12 100 0 (fun _ => 0) aps 0 ar1 ar2 ar3 ar4 ar5 ar6 ar7 ph pp py wy fa fb cm0 ia0 0 0 ih0 in0 il0 tx0 sh0 cm1 ia1 0 0 ih1 in1 il1 tx1 sh1 cm2 ia2 0 0 ih2 in2 il2 tx2 sh2 cm3 ia3 0 0 ih3 in3 il3 tx3 sh3 (-1) 0 it0 (-1) 0 it1 (-1) 0 it2 (-1) 0 it3)) (va_runS (As := [.int (-2)]) (rest := []) ⟨hx, hb, hml, hown, hts⟩ (c_X6_asLong_2 l dC dI k (zTX k)  _ ) (va_cwS 1 hts (gzS wmt2_51 wmt2_52 wmt1_1 wmt2_53) rfl rfl rfl (by decide +kernel) ⟨Nat.le_of_ble_eq_true rfl, Nat.le_of_ble_eq_true rfl⟩) (zp0_S hK) rfl rfl hl.1 rfl (lv_room (Nat.le_of_ble_eq_true rfl)) dX6_saysYes_23 ⟨Nat.le_of_ble_eq_true rfl, Nat.le_of_ble_eq_true rfl⟩) hP hS hA (fun r_143 u_144 H locs w_145 hP hS => ?_)
                have e_146 := w_145
                replace e_146 : r_143 = (-9223372036854775806) := e_146
                subst e_146
                exact W.lret (v := (-9223372036854775806)) hx hb hr (fun t ht hW => ⟨⟨(-9223372036854775806), (), rfl, (by first | assumption | with_reducible rfl | contradiction | exact (if_pos (by repeat' (first | assumption | decide | constructor))).symm | exact (if_neg (fun hh => absurd hh (by assumption))).symm | exact (if_neg (fun hh => absurd hh.1 (by assumption))).symm | exact (if_neg (fun hh => absurd hh.2 (by assumption))).symm | exact (if_neg (fun hh => absurd hh.1.1 (by assumption))).symm | exact (if_neg (fun hh => absurd hh.1.2 (by assumption))).symm | exact (if_neg (fun hh => absurd hh.2.1 (by assumption))).symm | exact (if_neg (fun hh => absurd hh.2.2 (by assumption))).symm | exact (if_neg (fun hh => absurd hh.2.2.1 (by assumption))).symm | exact (if_neg (fun hh => absurd hh.2.2.2 (by assumption))).symm | exact (if_neg (fun hh => absurd hh.2.2.2.1 (by assumption))).symm | exact (if_neg (fun hh => absurd hh.2.2.2.2 (by assumption))).symm | decide | (exfalso; simp only [zi_le, zi_lt, zi_eq, zi_n0, zi_n1, zi_n2, zi_n3, zi_n4, zi_n23, zi_n24, zi_n100, zi_n399, zi_n60, zi_n255, zi_n99, zi_nm1, zi_n30] at *; omega) | (simp_all; done)), ⟨by rw [ht]; exact hP, hD⟩⟩, hS.F ht⟩) hS.2.2 dX6_saysYes_26
        · skip
          replace e_123 : r_117 = 0 := e_123
          subst e_123
          replace h_122 : ¬ (0 ≤ (h : Int32) ∧ (h : Int32) ≤ 1) := h_122
          refine lv_if_eq (tgt := 21) hx hb dX6_saysYes_11 (by decide) (fun c_147 => ?_) (fun c_147 => ?_)
          · skip
            refine lv_bipush (v := (-2)) hx hb dX6_saysYes_21 (by decide) ?_
            refine zc0_l (w := (zX k q 0 (-1) 12 100 0 (fun _ => 0) aps 0 ar1 ar2 ar3 ar4 ar5 ar6 ar7 ph pp py wy fa fb cm0 ia0 0 0 ih0 in0 il0 tx0 sh0 cm1 ia1 0 0 ih1 in1 il1 tx1 sh1 cm2 ia2 0 0 ih2 in2 il2 tx2 sh2 cm3 ia3 0 0 ih3 in3 il3 tx3 sh3 (-1) 0 it0 (-1) 0 it1 (-1) 0 it2 (-1) 0 it3)) (va_runS (As := [.int (-2)]) (rest := []) ⟨hx, hb, hml, hown, hts⟩ (c_X6_asLong_2 l dC dI k (zTX k)  _ ) (va_cwS 1 hts (gzS wmt2_51 wmt2_52 wmt1_1 wmt2_53) rfl rfl rfl (by decide +kernel) ⟨Nat.le_of_ble_eq_true rfl, Nat.le_of_ble_eq_true rfl⟩) (zp0_S hK) rfl rfl hl.1 rfl (lv_room (Nat.le_of_ble_eq_true rfl)) dX6_saysYes_23 ⟨Nat.le_of_ble_eq_true rfl, Nat.le_of_ble_eq_true rfl⟩) hP hS hA (fun r_148 u_149 H locs w_150 hP hS => ?_)
            have e_151 := w_150
            replace e_151 : r_148 = (-9223372036854775806) := e_151
            subst e_151
            exact W.lret (v := (-9223372036854775806)) hx hb hr (fun t ht hW => ⟨⟨(-9223372036854775806), (), rfl, (by first | assumption | with_reducible rfl | contradiction | exact (if_pos (by repeat' (first | assumption | decide | constructor))).symm | exact (if_neg (fun hh => absurd hh (by assumption))).symm | exact (if_neg (fun hh => absurd hh.1 (by assumption))).symm | exact (if_neg (fun hh => absurd hh.2 (by assumption))).symm | exact (if_neg (fun hh => absurd hh.1.1 (by assumption))).symm | exact (if_neg (fun hh => absurd hh.1.2 (by assumption))).symm | exact (if_neg (fun hh => absurd hh.2.1 (by assumption))).symm | exact (if_neg (fun hh => absurd hh.2.2 (by assumption))).symm | exact (if_neg (fun hh => absurd hh.2.2.1 (by assumption))).symm | exact (if_neg (fun hh => absurd hh.2.2.2 (by assumption))).symm | exact (if_neg (fun hh => absurd hh.2.2.2.1 (by assumption))).symm | exact (if_neg (fun hh => absurd hh.2.2.2.2 (by assumption))).symm | decide | (exfalso; simp only [zi_le, zi_lt, zi_eq, zi_n0, zi_n1, zi_n2, zi_n3, zi_n4, zi_n23, zi_n24, zi_n100, zi_n399, zi_n60, zi_n255, zi_n99, zi_nm1, zi_n30] at *; omega) | (simp_all; done)), ⟨by rw [ht]; exact hP, hD⟩⟩, hS.F ht⟩) hS.2.2 dX6_saysYes_26
          · skip
            exact absurd (by decide) c_147
  · skip
    replace e_7 : r_1 = 0 := e_7
    subst e_7
    replace h_6 : ¬ (0 ≤ (d : Int32) ∧ (d : Int32) ≤ 3) := h_6
    refine lv_if_eq (tgt := 21) hx hb dX6_saysYes_4 (by decide) (fun c_152 => ?_) (fun c_152 => ?_)
    · skip
      refine lv_bipush (v := (-2)) hx hb dX6_saysYes_21 (by decide) ?_
      refine zc0_l (w := (zX k q 0 (-1) 12 100 0 (fun _ => 0) aps 0 ar1 ar2 ar3 ar4 ar5 ar6 ar7 ph pp py wy fa fb cm0 ia0 0 0 ih0 in0 il0 tx0 sh0 cm1 ia1 0 0 ih1 in1 il1 tx1 sh1 cm2 ia2 0 0 ih2 in2 il2 tx2 sh2 cm3 ia3 0 0 ih3 in3 il3 tx3 sh3 (-1) 0 it0 (-1) 0 it1 (-1) 0 it2 (-1) 0 it3)) (va_runS (As := [.int (-2)]) (rest := []) ⟨hx, hb, hml, hown, hts⟩ (c_X6_asLong_2 l dC dI k (zTX k)  _ ) (va_cwS 1 hts (gzS wmt2_51 wmt2_52 wmt1_1 wmt2_53) rfl rfl rfl (by decide +kernel) ⟨Nat.le_of_ble_eq_true rfl, Nat.le_of_ble_eq_true rfl⟩) (zp0_S hK) rfl rfl hl.1 rfl (lv_room (Nat.le_of_ble_eq_true rfl)) dX6_saysYes_23 ⟨Nat.le_of_ble_eq_true rfl, Nat.le_of_ble_eq_true rfl⟩) hP hS hA (fun r_153 u_154 H locs w_155 hP hS => ?_)
      have e_156 := w_155
      replace e_156 : r_153 = (-9223372036854775806) := e_156
      subst e_156
      exact W.lret (v := (-9223372036854775806)) hx hb hr (fun t ht hW => ⟨⟨(-9223372036854775806), (), rfl, (by first | assumption | with_reducible rfl | contradiction | exact (if_pos (by repeat' (first | assumption | decide | constructor))).symm | exact (if_neg (fun hh => absurd hh (by assumption))).symm | exact (if_neg (fun hh => absurd hh.1 (by assumption))).symm | exact (if_neg (fun hh => absurd hh.2 (by assumption))).symm | exact (if_neg (fun hh => absurd hh.1.1 (by assumption))).symm | exact (if_neg (fun hh => absurd hh.1.2 (by assumption))).symm | exact (if_neg (fun hh => absurd hh.2.1 (by assumption))).symm | exact (if_neg (fun hh => absurd hh.2.2 (by assumption))).symm | exact (if_neg (fun hh => absurd hh.2.2.1 (by assumption))).symm | exact (if_neg (fun hh => absurd hh.2.2.2 (by assumption))).symm | exact (if_neg (fun hh => absurd hh.2.2.2.1 (by assumption))).symm | exact (if_neg (fun hh => absurd hh.2.2.2.2 (by assumption))).symm | decide | (exfalso; simp only [zi_le, zi_lt, zi_eq, zi_n0, zi_n1, zi_n2, zi_n3, zi_n4, zi_n23, zi_n24, zi_n100, zi_n399, zi_n60, zi_n255, zi_n99, zi_nm1, zi_n30] at *; omega) | (simp_all; done)), ⟨by rw [ht]; exact hP, hD⟩⟩, hS.F ht⟩) hS.2.2 dX6_saysYes_26
    · skip
      exact absurd (by decide) c_152
set_option maxHeartbeats 4000000 in
set_option maxRecDepth 100000 in
theorem c_X6_unit (l : Launch) (dC : Nat → ClassId) (dI : Nat → Nat → Nat) (k : Nat → ClassId)  (q : Nat → Nat) (aps : Int32) (ar1 : Nat → Int32) (ar2 : Nat → Int32) (ar3 : Nat → Int32) (ar4 : Nat → Int32) (ar5 : Nat → Int32) (ar6 : Nat → Int32) (ar7 : Nat → Int32) (ph : Int32) (pp : Int32) (py : Int32) (wy : Nat → Int64) (fa : Int64) (fb : Int64) (cm0 : Int64) (ia0 : Int32) (ih0 : Int32) (in0 : Int32) (il0 : Int32) (tx0 : Nat → Int32) (sh0 : Nat → Int64) (cm1 : Int64) (ia1 : Int32) (ih1 : Int32) (in1 : Int32) (il1 : Int32) (tx1 : Nat → Int32) (sh1 : Nat → Int64) (cm2 : Int64) (ia2 : Int32) (ih2 : Int32) (in2 : Int32) (il2 : Int32) (tx2 : Nat → Int32) (sh2 : Nat → Int64) (cm3 : Int64) (ia3 : Int32) (ih3 : Int32) (in3 : Int32) (il3 : Int32) (tx3 : Nat → Int32) (sh3 : Nat → Int64) (it0 : Nat → Int32) (it1 : Nat → Int32) (it2 : Nat → Int32) (it3 : Nat → Int32) (d : Int32) (sz : Nat)  : Met l yX6_unit (wz yX6_unit cX6_unit 3 (some .int)) ({ frames := 1, cells := 0, slots := 0, locals := 20 }) (va_Pc [.ref (q 0), .int d] (zPre dC dI k (zTX k) (zX k q 0 (-1) 12 100 0 (fun _ => 0) aps 0 ar1 ar2 ar3 ar4 ar5 ar6 ar7 ph pp py wy fa fb cm0 ia0 0 0 ih0 in0 il0 tx0 sh0 cm1 ia1 0 0 ih1 in1 il1 tx1 sh1 cm2 ia2 0 0 ih2 in2 il2 tx2 sh2 cm3 ia3 0 0 ih3 in3 il3 tx3 sh3 (-1) 0 it0 (-1) 0 it1 (-1) 0 it2 (-1) 0 it3) sz)) (va_Qi (fun (r : Int32) (u : Unit) => (r = if (0 ≤ (d : Int32) ∧ (d : Int32) ≤ 3) then (-3) else (-2))) (fun u t => zPost dC dI (va_A (zX k q 0 (-1) 12 100 0 (fun _ => 0) aps 0 ar1 ar2 ar3 ar4 ar5 ar6 ar7 ph pp py wy fa fb cm0 ia0 0 0 ih0 in0 il0 tx0 sh0 cm1 ia1 0 0 ih1 in1 il1 tx1 sh1 cm2 ia2 0 0 ih2 in2 il2 tx2 sh2 cm3 ia3 0 0 ih3 in3 il3 tx3 sh3 (-1) 0 it0 (-1) 0 it1 (-1) 0 it2 (-1) 0 it3) sz) (zX k q 0 (-1) 12 100 0 (fun _ => 0) aps 0 ar1 ar2 ar3 ar4 ar5 ar6 ar7 ph pp py wy fa fb cm0 ia0 0 0 ih0 in0 il0 tx0 sh0 cm1 ia1 0 0 ih1 in1 il1 tx1 sh1 cm2 ia2 0 0 ih2 in2 il2 tx2 sh2 cm3 ia3 0 0 ih3 in3 il3 tx3 sh3 (-1) 0 it0 (-1) 0 it1 (-1) 0 it2 (-1) 0 it3) t) (va_A (zX k q 0 (-1) 12 100 0 (fun _ => 0) aps 0 ar1 ar2 ar3 ar4 ar5 ar6 ar7 ph pp py wy fa fb cm0 ia0 0 0 ih0 in0 il0 tx0 sh0 cm1 ia1 0 0 ih1 in1 il1 tx1 sh1 cm2 ia2 0 0 ih2 in2 il2 tx2 sh2 cm3 ia3 0 0 ih3 in3 il3 tx3 sh3 (-1) 0 it0 (-1) 0 it1 (-1) 0 it2 (-1) 0 it3) sz)) 0 0 (va_A (zX k q 0 (-1) 12 100 0 (fun _ => 0) aps 0 ar1 ar2 ar3 ar4 ar5 ar6 ar7 ph pp py wy fa fb cm0 ia0 0 0 ih0 in0 il0 tx0 sh0 cm1 ia1 0 0 ih1 in1 il1 tx1 sh1 cm2 ia2 0 0 ih2 in2 il2 tx2 sh2 cm3 ia3 0 0 ih3 in3 il3 tx3 sh3 (-1) 0 it0 (-1) 0 it1 (-1) 0 it2 (-1) 0 it3) sz) := by
  refine Met.ofW (cc := cX6_unit) (maxL := 3) (ret := (some .int)) (by decide) rfl ?_
  intro p e s m args below meth c s₁ B hml hv
  obtain ⟨rfl, hsz, hP, hK, hD0⟩ := hv
  have hx := B.exec
  have hb := B.bytes
  have hr := B.returns
  have hts : ∀ w ∈ zw, w.before _ s = true := fun w h => atoms_spec (ws := (wz yX6_unit cX6_unit 3 (some .int))) B.pre w (List.mem_cons_of_mem _ h)
  have hown : s.vm.findClass RX6 = some m.cls := findClass_of_methodNamed B.named
  have hlocks := B.notSynchronized
  subst hsz
  have hi6 := inw6
  have hD := hD0.self (sz := s.heap.size)
  generalize hAe : va_A (zX k q 0 (-1) 12 100 0 (fun _ => 0) aps 0 ar1 ar2 ar3 ar4 ar5 ar6 ar7 ph pp py wy fa fb cm0 ia0 0 0 ih0 in0 il0 tx0 sh0 cm1 ia1 0 0 ih1 in1 il1 tx1 sh1 cm2 ia2 0 0 ih2 in2 il2 tx2 sh2 cm3 ia3 0 0 ih3 in3 il3 tx3 sh3 (-1) 0 it0 (-1) 0 it1 (-1) 0 it2 (-1) 0 it3) s.heap.size = A at hD ⊢
  have hA : ∀ q : Nat, s.heap.size ≤ q → A q := fun q h => by rw [← hAe]; exact Or.inr h
  have hl := lv_entry ([.ref (q 0), .int d]) (n := 3) (Nat.le_of_ble_eq_true rfl)
  rw [lg_entry_eq]
  generalize (lg_sl ([.ref (q 0), .int d]) ++ List.replicate (3 - (lg_sl ([.ref (q 0), .int d])).length) Slot.unset).toArray = ls at hl ⊢
  have hl : lv_has ls 3 [(0, .ref (q 0)), (1, .int d)] := hl
  refine z_start (w := (zX k q 0 (-1) 12 100 0 (fun _ => 0) aps 0 ar1 ar2 ar3 ar4 ar5 ar6 ar7 ph pp py wy fa fb cm0 ia0 0 0 ih0 in0 il0 tx0 sh0 cm1 ia1 0 0 ih1 in1 il1 tx1 sh1 cm2 ia2 0 0 ih2 in2 il2 tx2 sh2 cm3 ia3 0 0 ih3 in3 il3 tx3 sh3 (-1) 0 it0 (-1) 0 it1 (-1) 0 it2 (-1) 0 it3)) hP hD (fun H locs hP hD hS => ?_)
  refine lv_iload_n hx hb dX6_unit_0 rfl (lv_at hl 1 rfl) ?_
  refine zc0_i (w := (zX k q 0 (-1) 12 100 0 (fun _ => 0) aps 0 ar1 ar2 ar3 ar4 ar5 ar6 ar7 ph pp py wy fa fb cm0 ia0 0 0 ih0 in0 il0 tx0 sh0 cm1 ia1 0 0 ih1 in1 il1 tx1 sh1 cm2 ia2 0 0 ih2 in2 il2 tx2 sh2 cm3 ia3 0 0 ih3 in3 il3 tx3 sh3 (-1) 0 it0 (-1) 0 it1 (-1) 0 it2 (-1) 0 it3)) (va_runS (As := [.int d]) (rest := []) ⟨hx, hb, hml, hown, hts⟩ (c_X6_isDesign l dC dI k (zTX k) d _ ) (va_cwS 1 hts (gzS wmt1_211 wmt1_212 wmt1_1 wmt1_213) rfl rfl rfl (by decide +kernel) ⟨Nat.le_of_ble_eq_true rfl, Nat.le_of_ble_eq_true rfl⟩) (zp0_S hK) rfl rfl hl.1 rfl (lv_room (Nat.le_of_ble_eq_true rfl)) dX6_unit_1 ⟨Nat.le_of_ble_eq_true rfl, Nat.le_of_ble_eq_true rfl⟩) hP hS hA (fun r_1 u_2 H locs w_3 hP hS => ?_)
  rcases w_3 with ⟨e_5, h_4⟩ | ⟨e_7, h_6⟩
  · skip
    replace e_5 : r_1 = 1 := e_5
    subst e_5
    replace h_4 : 0 ≤ (d : Int32) ∧ (d : Int32) ≤ 3 := h_4
    rcases zi_4 h_4 with rfl | rfl | rfl | rfl
    · skip
      refine lv_if_ne (tgt := 10) hx hb dX6_unit_4 (by decide) (fun c_8 => ?_) (fun c_8 => ?_)
      · skip
        refine lv_aload_n hx hb dX6_unit_10 rfl (lv_at hl 0 rfl) ?_
        refine va_get (D := (dC, dI)) (ci := 6) (v := .ref (q 1)) (C := RX6) (T := TX6) (N := 12) hx hb hts hi6 hown hK.1 hP 0 rfl rfl 0 (by decide) (hts _ wmt1_170) (fun _ h9 => h9) rfl dX6_unit_11 ?_
        refine lv_iload_n hx hb dX6_unit_14 rfl (lv_at hl 1 rfl) ?_
        refine va_aldq (D := (dC, dI)) hx hb hK.1 hP 1 3 rfl rfl (show ¬ _ by decide) dX6_unit_15 ?_
        refine z_top (v2 := .ref (q 16)) (rfl) ?_
        refine lv_astore_n (lv' := [(2, .ref (q 16)), (0, .ref (q 0)), (1, .int 0)]) hx hb dX6_unit_16 rfl hl (by decide) rfl (fun ls hl => ?_)
        refine lv_aload_n hx hb dX6_unit_17 rfl (lv_at hl 0 rfl) ?_
        refine zcS_i (w := (zX k q 0 (-1) 12 100 0 (fun _ => 0) aps 0 ar1 ar2 ar3 ar4 ar5 ar6 ar7 ph pp py wy fa fb cm0 ia0 0 0 ih0 in0 il0 tx0 sh0 cm1 ia1 0 0 ih1 in1 il1 tx1 sh1 cm2 ia2 0 0 ih2 in2 il2 tx2 sh2 cm3 ia3 0 0 ih3 in3 il3 tx3 sh3 (-1) 0 it0 (-1) 0 it1 (-1) 0 it2 (-1) 0 it3)) (wc := (zDes k (q 16) (q 17) (q 18) tx0 sh0 cm0 ia0 0 0 ih0 in0 il0)) (va_runV (As := []) (rest := []) ⟨hx, hb, hml, hown, hts⟩ (c_X1_isFaulty l dC dI k (zTX k) (q 16) (q 17) (q 18) tx0 sh0 cm0 ia0 0 ih0 in0 il0 _ ) (cwV 0 hts (gzV wmt2_55 wmt2_20 wmt2_21 wmt1_6 wmt2_22) rfl rfl rfl (by decide +kernel) ⟨Nat.le_of_ble_eq_true rfl, Nat.le_of_ble_eq_true rfl⟩) (zp_V (ci := 1) (q0 := 16) hK hP hD [16, 17, 18] rfl rfl rfl rfl) rfl rfl hl.1 rfl (lv_room (Nat.le_of_ble_eq_true rfl)) dX6_unit_18 ⟨Nat.le_of_ble_eq_true rfl, Nat.le_of_ble_eq_true rfl⟩) hP hD hS hA [16, 17, 18] rfl (fun _ => rfl) (fun r_9 u_10 H locs w_11 hP hD hS => ?_)
        have hP : va_P (dC, dI) vwCl (zX k q 0 (-1) 12 100 0 (fun _ => 0) aps 0 ar1 ar2 ar3 ar4 ar5 ar6 ar7 ph pp py wy fa fb cm0 ia0 0 0 ih0 in0 il0 tx0 sh0 cm1 ia1 0 0 ih1 in1 il1 tx1 sh1 cm2 ia2 0 0 ih2 in2 il2 tx2 sh2 cm3 ia3 0 0 ih3 in3 il3 tx3 sh3 (-1) 0 it0 (-1) 0 it1 (-1) 0 it2 (-1) 0 it3) H := hP
        have hD : va_D A (zX k q 0 (-1) 12 100 0 (fun _ => 0) aps 0 ar1 ar2 ar3 ar4 ar5 ar6 ar7 ph pp py wy fa fb cm0 ia0 0 0 ih0 in0 il0 tx0 sh0 cm1 ia1 0 0 ih1 in1 il1 tx1 sh1 cm2 ia2 0 0 ih2 in2 il2 tx2 sh2 cm3 ia3 0 0 ih3 in3 il3 tx3 sh3 (-1) 0 it0 (-1) 0 it1 (-1) 0 it2 (-1) 0 it3) := hD
        have e_12 := w_11
        replace e_12 : r_9 = 1 := e_12
        subst e_12
        refine lv_if_eq (tgt := 29) hx hb dX6_unit_21 (by decide) (fun c_13 => ?_) (fun c_13 => ?_)
        · skip
          exact absurd c_13 (by decide)
        · skip
          refine lv_bipush (v := (-3)) hx hb dX6_unit_24 (by decide) ?_
          refine lv_goto (tgt := 33) hx hb dX6_unit_26 (by decide) ?_
          exact W.iret (v := (-3)) hx hb hr (fun t ht hW => ⟨⟨(-3), (), rfl, (by first | assumption | with_reducible rfl | contradiction | exact (if_pos (by repeat' (first | assumption | decide | constructor))).symm | exact (if_neg (fun hh => absurd hh (by assumption))).symm | exact (if_neg (fun hh => absurd hh.1 (by assumption))).symm | exact (if_neg (fun hh => absurd hh.2 (by assumption))).symm | exact (if_neg (fun hh => absurd hh.1.1 (by assumption))).symm | exact (if_neg (fun hh => absurd hh.1.2 (by assumption))).symm | exact (if_neg (fun hh => absurd hh.2.1 (by assumption))).symm | exact (if_neg (fun hh => absurd hh.2.2 (by assumption))).symm | exact (if_neg (fun hh => absurd hh.2.2.1 (by assumption))).symm | exact (if_neg (fun hh => absurd hh.2.2.2 (by assumption))).symm | exact (if_neg (fun hh => absurd hh.2.2.2.1 (by assumption))).symm | exact (if_neg (fun hh => absurd hh.2.2.2.2 (by assumption))).symm | decide | (exfalso; simp only [zi_le, zi_lt, zi_eq, zi_n0, zi_n1, zi_n2, zi_n3, zi_n4, zi_n23, zi_n24, zi_n100, zi_n399, zi_n60, zi_n255, zi_n99, zi_nm1, zi_n30] at *; omega) | (simp_all; done)), ⟨by rw [ht]; exact hP, hD⟩⟩, hS.F ht⟩) hS.2.2 dX6_unit_33
      · skip
        exact absurd c_8 (by decide)
    · skip
      refine lv_if_ne (tgt := 10) hx hb dX6_unit_4 (by decide) (fun c_14 => ?_) (fun c_14 => ?_)
      · skip
        refine lv_aload_n hx hb dX6_unit_10 rfl (lv_at hl 0 rfl) ?_
        refine va_get (D := (dC, dI)) (ci := 6) (v := .ref (q 1)) (C := RX6) (T := TX6) (N := 12) hx hb hts hi6 hown hK.1 hP 0 rfl rfl 0 (by decide) (hts _ wmt1_170) (fun _ h9 => h9) rfl dX6_unit_11 ?_
        refine lv_iload_n hx hb dX6_unit_14 rfl (lv_at hl 1 rfl) ?_
        refine va_aldq (D := (dC, dI)) hx hb hK.1 hP 1 3 rfl rfl (show ¬ _ by decide) dX6_unit_15 ?_
        refine z_top (v2 := .ref (q 19)) (rfl) ?_
        refine lv_astore_n (lv' := [(2, .ref (q 19)), (0, .ref (q 0)), (1, .int 1)]) hx hb dX6_unit_16 rfl hl (by decide) rfl (fun ls hl => ?_)
        refine lv_aload_n hx hb dX6_unit_17 rfl (lv_at hl 0 rfl) ?_
        refine zcS_i (w := (zX k q 0 (-1) 12 100 0 (fun _ => 0) aps 0 ar1 ar2 ar3 ar4 ar5 ar6 ar7 ph pp py wy fa fb cm0 ia0 0 0 ih0 in0 il0 tx0 sh0 cm1 ia1 0 0 ih1 in1 il1 tx1 sh1 cm2 ia2 0 0 ih2 in2 il2 tx2 sh2 cm3 ia3 0 0 ih3 in3 il3 tx3 sh3 (-1) 0 it0 (-1) 0 it1 (-1) 0 it2 (-1) 0 it3)) (wc := (zDes k (q 19) (q 20) (q 21) tx1 sh1 cm1 ia1 0 0 ih1 in1 il1)) (va_runV (As := []) (rest := []) ⟨hx, hb, hml, hown, hts⟩ (c_X1_isFaulty l dC dI k (zTX k) (q 19) (q 20) (q 21) tx1 sh1 cm1 ia1 0 ih1 in1 il1 _ ) (cwV 0 hts (gzV wmt2_55 wmt2_20 wmt2_21 wmt1_6 wmt2_22) rfl rfl rfl (by decide +kernel) ⟨Nat.le_of_ble_eq_true rfl, Nat.le_of_ble_eq_true rfl⟩) (zp_V (ci := 1) (q0 := 19) hK hP hD [19, 20, 21] rfl rfl rfl rfl) rfl rfl hl.1 rfl (lv_room (Nat.le_of_ble_eq_true rfl)) dX6_unit_18 ⟨Nat.le_of_ble_eq_true rfl, Nat.le_of_ble_eq_true rfl⟩) hP hD hS hA [19, 20, 21] rfl (fun _ => rfl) (fun r_15 u_16 H locs w_17 hP hD hS => ?_)
        have hP : va_P (dC, dI) vwCl (zX k q 0 (-1) 12 100 0 (fun _ => 0) aps 0 ar1 ar2 ar3 ar4 ar5 ar6 ar7 ph pp py wy fa fb cm0 ia0 0 0 ih0 in0 il0 tx0 sh0 cm1 ia1 0 0 ih1 in1 il1 tx1 sh1 cm2 ia2 0 0 ih2 in2 il2 tx2 sh2 cm3 ia3 0 0 ih3 in3 il3 tx3 sh3 (-1) 0 it0 (-1) 0 it1 (-1) 0 it2 (-1) 0 it3) H := hP
        have hD : va_D A (zX k q 0 (-1) 12 100 0 (fun _ => 0) aps 0 ar1 ar2 ar3 ar4 ar5 ar6 ar7 ph pp py wy fa fb cm0 ia0 0 0 ih0 in0 il0 tx0 sh0 cm1 ia1 0 0 ih1 in1 il1 tx1 sh1 cm2 ia2 0 0 ih2 in2 il2 tx2 sh2 cm3 ia3 0 0 ih3 in3 il3 tx3 sh3 (-1) 0 it0 (-1) 0 it1 (-1) 0 it2 (-1) 0 it3) := hD
        have e_18 := w_17
        replace e_18 : r_15 = 1 := e_18
        subst e_18
        refine lv_if_eq (tgt := 29) hx hb dX6_unit_21 (by decide) (fun c_19 => ?_) (fun c_19 => ?_)
        · skip
          exact absurd c_19 (by decide)
        · skip
          refine lv_bipush (v := (-3)) hx hb dX6_unit_24 (by decide) ?_
          refine lv_goto (tgt := 33) hx hb dX6_unit_26 (by decide) ?_
          exact W.iret (v := (-3)) hx hb hr (fun t ht hW => ⟨⟨(-3), (), rfl, (by first | assumption | with_reducible rfl | contradiction | exact (if_pos (by repeat' (first | assumption | decide | constructor))).symm | exact (if_neg (fun hh => absurd hh (by assumption))).symm | exact (if_neg (fun hh => absurd hh.1 (by assumption))).symm | exact (if_neg (fun hh => absurd hh.2 (by assumption))).symm | exact (if_neg (fun hh => absurd hh.1.1 (by assumption))).symm | exact (if_neg (fun hh => absurd hh.1.2 (by assumption))).symm | exact (if_neg (fun hh => absurd hh.2.1 (by assumption))).symm | exact (if_neg (fun hh => absurd hh.2.2 (by assumption))).symm | exact (if_neg (fun hh => absurd hh.2.2.1 (by assumption))).symm | exact (if_neg (fun hh => absurd hh.2.2.2 (by assumption))).symm | exact (if_neg (fun hh => absurd hh.2.2.2.1 (by assumption))).symm | exact (if_neg (fun hh => absurd hh.2.2.2.2 (by assumption))).symm | decide | (exfalso; simp only [zi_le, zi_lt, zi_eq, zi_n0, zi_n1, zi_n2, zi_n3, zi_n4, zi_n23, zi_n24, zi_n100, zi_n399, zi_n60, zi_n255, zi_n99, zi_nm1, zi_n30] at *; omega) | (simp_all; done)), ⟨by rw [ht]; exact hP, hD⟩⟩, hS.F ht⟩) hS.2.2 dX6_unit_33
      · skip
        exact absurd c_14 (by decide)
    · skip
      refine lv_if_ne (tgt := 10) hx hb dX6_unit_4 (by decide) (fun c_20 => ?_) (fun c_20 => ?_)
      · skip
        refine lv_aload_n hx hb dX6_unit_10 rfl (lv_at hl 0 rfl) ?_
        refine va_get (D := (dC, dI)) (ci := 6) (v := .ref (q 1)) (C := RX6) (T := TX6) (N := 12) hx hb hts hi6 hown hK.1 hP 0 rfl rfl 0 (by decide) (hts _ wmt1_170) (fun _ h9 => h9) rfl dX6_unit_11 ?_
        refine lv_iload_n hx hb dX6_unit_14 rfl (lv_at hl 1 rfl) ?_
        refine va_aldq (D := (dC, dI)) hx hb hK.1 hP 1 3 rfl rfl (show ¬ _ by decide) dX6_unit_15 ?_
        refine z_top (v2 := .ref (q 22)) (rfl) ?_
        refine lv_astore_n (lv' := [(2, .ref (q 22)), (0, .ref (q 0)), (1, .int 2)]) hx hb dX6_unit_16 rfl hl (by decide) rfl (fun ls hl => ?_)
        refine lv_aload_n hx hb dX6_unit_17 rfl (lv_at hl 0 rfl) ?_
        refine zcS_i (w := (zX k q 0 (-1) 12 100 0 (fun _ => 0) aps 0 ar1 ar2 ar3 ar4 ar5 ar6 ar7 ph pp py wy fa fb cm0 ia0 0 0 ih0 in0 il0 tx0 sh0 cm1 ia1 0 0 ih1 in1 il1 tx1 sh1 cm2 ia2 0 0 ih2 in2 il2 tx2 sh2 cm3 ia3 0 0 ih3 in3 il3 tx3 sh3 (-1) 0 it0 (-1) 0 it1 (-1) 0 it2 (-1) 0 it3)) (wc := (zDes k (q 22) (q 23) (q 24) tx2 sh2 cm2 ia2 0 0 ih2 in2 il2)) (va_runV (As := []) (rest := []) ⟨hx, hb, hml, hown, hts⟩ (c_X1_isFaulty l dC dI k (zTX k) (q 22) (q 23) (q 24) tx2 sh2 cm2 ia2 0 ih2 in2 il2 _ ) (cwV 0 hts (gzV wmt2_55 wmt2_20 wmt2_21 wmt1_6 wmt2_22) rfl rfl rfl (by decide +kernel) ⟨Nat.le_of_ble_eq_true rfl, Nat.le_of_ble_eq_true rfl⟩) (zp_V (ci := 1) (q0 := 22) hK hP hD [22, 23, 24] rfl rfl rfl rfl) rfl rfl hl.1 rfl (lv_room (Nat.le_of_ble_eq_true rfl)) dX6_unit_18 ⟨Nat.le_of_ble_eq_true rfl, Nat.le_of_ble_eq_true rfl⟩) hP hD hS hA [22, 23, 24] rfl (fun _ => rfl) (fun r_21 u_22 H locs w_23 hP hD hS => ?_)
        have hP : va_P (dC, dI) vwCl (zX k q 0 (-1) 12 100 0 (fun _ => 0) aps 0 ar1 ar2 ar3 ar4 ar5 ar6 ar7 ph pp py wy fa fb cm0 ia0 0 0 ih0 in0 il0 tx0 sh0 cm1 ia1 0 0 ih1 in1 il1 tx1 sh1 cm2 ia2 0 0 ih2 in2 il2 tx2 sh2 cm3 ia3 0 0 ih3 in3 il3 tx3 sh3 (-1) 0 it0 (-1) 0 it1 (-1) 0 it2 (-1) 0 it3) H := hP
        have hD : va_D A (zX k q 0 (-1) 12 100 0 (fun _ => 0) aps 0 ar1 ar2 ar3 ar4 ar5 ar6 ar7 ph pp py wy fa fb cm0 ia0 0 0 ih0 in0 il0 tx0 sh0 cm1 ia1 0 0 ih1 in1 il1 tx1 sh1 cm2 ia2 0 0 ih2 in2 il2 tx2 sh2 cm3 ia3 0 0 ih3 in3 il3 tx3 sh3 (-1) 0 it0 (-1) 0 it1 (-1) 0 it2 (-1) 0 it3) := hD
        have e_24 := w_23
        replace e_24 : r_21 = 1 := e_24
        subst e_24
        refine lv_if_eq (tgt := 29) hx hb dX6_unit_21 (by decide) (fun c_25 => ?_) (fun c_25 => ?_)
        · skip
          exact absurd c_25 (by decide)
        · skip
          refine lv_bipush (v := (-3)) hx hb dX6_unit_24 (by decide) ?_
          refine lv_goto (tgt := 33) hx hb dX6_unit_26 (by decide) ?_
          exact W.iret (v := (-3)) hx hb hr (fun t ht hW => ⟨⟨(-3), (), rfl, (by first | assumption | with_reducible rfl | contradiction | exact (if_pos (by repeat' (first | assumption | decide | constructor))).symm | exact (if_neg (fun hh => absurd hh (by assumption))).symm | exact (if_neg (fun hh => absurd hh.1 (by assumption))).symm | exact (if_neg (fun hh => absurd hh.2 (by assumption))).symm | exact (if_neg (fun hh => absurd hh.1.1 (by assumption))).symm | exact (if_neg (fun hh => absurd hh.1.2 (by assumption))).symm | exact (if_neg (fun hh => absurd hh.2.1 (by assumption))).symm | exact (if_neg (fun hh => absurd hh.2.2 (by assumption))).symm | exact (if_neg (fun hh => absurd hh.2.2.1 (by assumption))).symm | exact (if_neg (fun hh => absurd hh.2.2.2 (by assumption))).symm | exact (if_neg (fun hh => absurd hh.2.2.2.1 (by assumption))).symm | exact (if_neg (fun hh => absurd hh.2.2.2.2 (by assumption))).symm | decide | (exfalso; simp only [zi_le, zi_lt, zi_eq, zi_n0, zi_n1, zi_n2, zi_n3, zi_n4, zi_n23, zi_n24, zi_n100, zi_n399, zi_n60, zi_n255, zi_n99, zi_nm1, zi_n30] at *; omega) | (simp_all; done)), ⟨by rw [ht]; exact hP, hD⟩⟩, hS.F ht⟩) hS.2.2 dX6_unit_33
      · skip
        exact absurd c_20 (by decide)
    · skip
      refine lv_if_ne (tgt := 10) hx hb dX6_unit_4 (by decide) (fun c_26 => ?_) (fun c_26 => ?_)
      · skip
        refine lv_aload_n hx hb dX6_unit_10 rfl (lv_at hl 0 rfl) ?_
        refine va_get (D := (dC, dI)) (ci := 6) (v := .ref (q 1)) (C := RX6) (T := TX6) (N := 12) hx hb hts hi6 hown hK.1 hP 0 rfl rfl 0 (by decide) (hts _ wmt1_170) (fun _ h9 => h9) rfl dX6_unit_11 ?_
        refine lv_iload_n hx hb dX6_unit_14 rfl (lv_at hl 1 rfl) ?_
        refine va_aldq (D := (dC, dI)) hx hb hK.1 hP 1 3 rfl rfl (show ¬ _ by decide) dX6_unit_15 ?_
        refine z_top (v2 := .ref (q 25)) (rfl) ?_
        refine lv_astore_n (lv' := [(2, .ref (q 25)), (0, .ref (q 0)), (1, .int 3)]) hx hb dX6_unit_16 rfl hl (by decide) rfl (fun ls hl => ?_)
        refine lv_aload_n hx hb dX6_unit_17 rfl (lv_at hl 0 rfl) ?_
        refine zcS_i (w := (zX k q 0 (-1) 12 100 0 (fun _ => 0) aps 0 ar1 ar2 ar3 ar4 ar5 ar6 ar7 ph pp py wy fa fb cm0 ia0 0 0 ih0 in0 il0 tx0 sh0 cm1 ia1 0 0 ih1 in1 il1 tx1 sh1 cm2 ia2 0 0 ih2 in2 il2 tx2 sh2 cm3 ia3 0 0 ih3 in3 il3 tx3 sh3 (-1) 0 it0 (-1) 0 it1 (-1) 0 it2 (-1) 0 it3)) (wc := (zDes k (q 25) (q 26) (q 27) tx3 sh3 cm3 ia3 0 0 ih3 in3 il3)) (va_runV (As := []) (rest := []) ⟨hx, hb, hml, hown, hts⟩ (c_X1_isFaulty l dC dI k (zTX k) (q 25) (q 26) (q 27) tx3 sh3 cm3 ia3 0 ih3 in3 il3 _ ) (cwV 0 hts (gzV wmt2_55 wmt2_20 wmt2_21 wmt1_6 wmt2_22) rfl rfl rfl (by decide +kernel) ⟨Nat.le_of_ble_eq_true rfl, Nat.le_of_ble_eq_true rfl⟩) (zp_V (ci := 1) (q0 := 25) hK hP hD [25, 26, 27] rfl rfl rfl rfl) rfl rfl hl.1 rfl (lv_room (Nat.le_of_ble_eq_true rfl)) dX6_unit_18 ⟨Nat.le_of_ble_eq_true rfl, Nat.le_of_ble_eq_true rfl⟩) hP hD hS hA [25, 26, 27] rfl (fun _ => rfl) (fun r_27 u_28 H locs w_29 hP hD hS => ?_)
        have hP : va_P (dC, dI) vwCl (zX k q 0 (-1) 12 100 0 (fun _ => 0) aps 0 ar1 ar2 ar3 ar4 ar5 ar6 ar7 ph pp py wy fa fb cm0 ia0 0 0 ih0 in0 il0 tx0 sh0 cm1 ia1 0 0 ih1 in1 il1 tx1 sh1 cm2 ia2 0 0 ih2 in2 il2 tx2 sh2 cm3 ia3 0 0 ih3 in3 il3 tx3 sh3 (-1) 0 it0 (-1) 0 it1 (-1) 0 it2 (-1) 0 it3) H := hP
        have hD : va_D A (zX k q 0 (-1) 12 100 0 (fun _ => 0) aps 0 ar1 ar2 ar3 ar4 ar5 ar6 ar7 ph pp py wy fa fb cm0 ia0 0 0 ih0 in0 il0 tx0 sh0 cm1 ia1 0 0 ih1 in1 il1 tx1 sh1 cm2 ia2 0 0 ih2 in2 il2 tx2 sh2 cm3 ia3 0 0 ih3 in3 il3 tx3 sh3 (-1) 0 it0 (-1) 0 it1 (-1) 0 it2 (-1) 0 it3) := hD
        have e_30 := w_29
        replace e_30 : r_27 = 1 := e_30
        subst e_30
        refine lv_if_eq (tgt := 29) hx hb dX6_unit_21 (by decide) (fun c_31 => ?_) (fun c_31 => ?_)
        · skip
          exact absurd c_31 (by decide)
        · skip
          refine lv_bipush (v := (-3)) hx hb dX6_unit_24 (by decide) ?_
          refine lv_goto (tgt := 33) hx hb dX6_unit_26 (by decide) ?_
          exact W.iret (v := (-3)) hx hb hr (fun t ht hW => ⟨⟨(-3), (), rfl, (by first | assumption | with_reducible rfl | contradiction | exact (if_pos (by repeat' (first | assumption | decide | constructor))).symm | exact (if_neg (fun hh => absurd hh (by assumption))).symm | exact (if_neg (fun hh => absurd hh.1 (by assumption))).symm | exact (if_neg (fun hh => absurd hh.2 (by assumption))).symm | exact (if_neg (fun hh => absurd hh.1.1 (by assumption))).symm | exact (if_neg (fun hh => absurd hh.1.2 (by assumption))).symm | exact (if_neg (fun hh => absurd hh.2.1 (by assumption))).symm | exact (if_neg (fun hh => absurd hh.2.2 (by assumption))).symm | exact (if_neg (fun hh => absurd hh.2.2.1 (by assumption))).symm | exact (if_neg (fun hh => absurd hh.2.2.2 (by assumption))).symm | exact (if_neg (fun hh => absurd hh.2.2.2.1 (by assumption))).symm | exact (if_neg (fun hh => absurd hh.2.2.2.2 (by assumption))).symm | decide | (exfalso; simp only [zi_le, zi_lt, zi_eq, zi_n0, zi_n1, zi_n2, zi_n3, zi_n4, zi_n23, zi_n24, zi_n100, zi_n399, zi_n60, zi_n255, zi_n99, zi_nm1, zi_n30] at *; omega) | (simp_all; done)), ⟨by rw [ht]; exact hP, hD⟩⟩, hS.F ht⟩) hS.2.2 dX6_unit_33
      · skip
        exact absurd c_26 (by decide)
  · skip
    replace e_7 : r_1 = 0 := e_7
    subst e_7
    replace h_6 : ¬ (0 ≤ (d : Int32) ∧ (d : Int32) ≤ 3) := h_6
    refine lv_if_ne (tgt := 10) hx hb dX6_unit_4 (by decide) (fun c_32 => ?_) (fun c_32 => ?_)
    · skip
      exact absurd c_32 (by decide)
    · skip
      refine lv_bipush (v := (-2)) hx hb dX6_unit_7 (by decide) ?_
      exact W.iret (v := (-2)) hx hb hr (fun t ht hW => ⟨⟨(-2), (), rfl, (by first | assumption | with_reducible rfl | contradiction | exact (if_pos (by repeat' (first | assumption | decide | constructor))).symm | exact (if_neg (fun hh => absurd hh (by assumption))).symm | exact (if_neg (fun hh => absurd hh.1 (by assumption))).symm | exact (if_neg (fun hh => absurd hh.2 (by assumption))).symm | exact (if_neg (fun hh => absurd hh.1.1 (by assumption))).symm | exact (if_neg (fun hh => absurd hh.1.2 (by assumption))).symm | exact (if_neg (fun hh => absurd hh.2.1 (by assumption))).symm | exact (if_neg (fun hh => absurd hh.2.2 (by assumption))).symm | exact (if_neg (fun hh => absurd hh.2.2.1 (by assumption))).symm | exact (if_neg (fun hh => absurd hh.2.2.2 (by assumption))).symm | exact (if_neg (fun hh => absurd hh.2.2.2.1 (by assumption))).symm | exact (if_neg (fun hh => absurd hh.2.2.2.2 (by assumption))).symm | decide | (exfalso; simp only [zi_le, zi_lt, zi_eq, zi_n0, zi_n1, zi_n2, zi_n3, zi_n4, zi_n23, zi_n24, zi_n100, zi_n399, zi_n60, zi_n255, zi_n99, zi_nm1, zi_n30] at *; omega) | (simp_all; done)), ⟨by rw [ht]; exact hP, hD⟩⟩, hS.F ht⟩) hS.2.2 dX6_unit_9
set_option maxHeartbeats 4000000 in
set_option maxRecDepth 100000 in
theorem c_X6_pass (l : Launch) (dC : Nat → ClassId) (dI : Nat → Nat → Nat) (k : Nat → ClassId)  (q : Nat → Nat) (aps : Int32) (ar1 : Nat → Int32) (ar2 : Nat → Int32) (ar3 : Nat → Int32) (ar4 : Nat → Int32) (ar5 : Nat → Int32) (ar6 : Nat → Int32) (ar7 : Nat → Int32) (ph : Int32) (pp : Int32) (py : Int32) (wy : Nat → Int64) (fa : Int64) (fb : Int64) (cm0 : Int64) (ia0 : Int32) (ih0 : Int32) (in0 : Int32) (il0 : Int32) (tx0 : Nat → Int32) (sh0 : Nat → Int64) (cm1 : Int64) (ia1 : Int32) (ih1 : Int32) (in1 : Int32) (il1 : Int32) (tx1 : Nat → Int32) (sh1 : Nat → Int64) (cm2 : Int64) (ia2 : Int32) (ih2 : Int32) (in2 : Int32) (il2 : Int32) (tx2 : Nat → Int32) (sh2 : Nat → Int64) (cm3 : Int64) (ia3 : Int32) (ih3 : Int32) (in3 : Int32) (il3 : Int32) (tx3 : Nat → Int32) (sh3 : Nat → Int64) (it0 : Nat → Int32) (it1 : Nat → Int32) (it2 : Nat → Int32) (it3 : Nat → Int32) (n : Int32) (sz : Nat)  : Met l yX6_pass (wz yX6_pass cX6_pass 2 (some .int)) ({ frames := 0, cells := 0, slots := 0, locals := 0 }) (va_Pc [.ref (q 0), .int n] (zPre dC dI k (zTX k) (zX k q 0 (-1) 12 100 0 (fun _ => 0) aps 0 ar1 ar2 ar3 ar4 ar5 ar6 ar7 ph pp py wy fa fb cm0 ia0 0 0 ih0 in0 il0 tx0 sh0 cm1 ia1 0 0 ih1 in1 il1 tx1 sh1 cm2 ia2 0 0 ih2 in2 il2 tx2 sh2 cm3 ia3 0 0 ih3 in3 il3 tx3 sh3 (-1) 0 it0 (-1) 0 it1 (-1) 0 it2 (-1) 0 it3) sz)) (va_Qi (fun (r : Int32) (u : Int32) => (r = if (1 ≤ n ∧ n ≤ 100) then n else (-2))) (fun u t => zPost dC dI (va_A (zX k q 0 (-1) 12 100 0 (fun _ => 0) aps 0 ar1 ar2 ar3 ar4 ar5 ar6 ar7 ph pp py wy fa fb cm0 ia0 0 0 ih0 in0 il0 tx0 sh0 cm1 ia1 0 0 ih1 in1 il1 tx1 sh1 cm2 ia2 0 0 ih2 in2 il2 tx2 sh2 cm3 ia3 0 0 ih3 in3 il3 tx3 sh3 (-1) 0 it0 (-1) 0 it1 (-1) 0 it2 (-1) 0 it3) sz) (zX k q u (-1) 12 100 0 (fun _ => 0) aps 0 ar1 ar2 ar3 ar4 ar5 ar6 ar7 ph pp py wy fa fb cm0 ia0 0 0 ih0 in0 il0 tx0 sh0 cm1 ia1 0 0 ih1 in1 il1 tx1 sh1 cm2 ia2 0 0 ih2 in2 il2 tx2 sh2 cm3 ia3 0 0 ih3 in3 il3 tx3 sh3 (-1) 0 it0 (-1) 0 it1 (-1) 0 it2 (-1) 0 it3) t) (va_A (zX k q 0 (-1) 12 100 0 (fun _ => 0) aps 0 ar1 ar2 ar3 ar4 ar5 ar6 ar7 ph pp py wy fa fb cm0 ia0 0 0 ih0 in0 il0 tx0 sh0 cm1 ia1 0 0 ih1 in1 il1 tx1 sh1 cm2 ia2 0 0 ih2 in2 il2 tx2 sh2 cm3 ia3 0 0 ih3 in3 il3 tx3 sh3 (-1) 0 it0 (-1) 0 it1 (-1) 0 it2 (-1) 0 it3) sz)) 0 0 (va_A (zX k q 0 (-1) 12 100 0 (fun _ => 0) aps 0 ar1 ar2 ar3 ar4 ar5 ar6 ar7 ph pp py wy fa fb cm0 ia0 0 0 ih0 in0 il0 tx0 sh0 cm1 ia1 0 0 ih1 in1 il1 tx1 sh1 cm2 ia2 0 0 ih2 in2 il2 tx2 sh2 cm3 ia3 0 0 ih3 in3 il3 tx3 sh3 (-1) 0 it0 (-1) 0 it1 (-1) 0 it2 (-1) 0 it3) sz) := by
  refine Met.ofW (cc := cX6_pass) (maxL := 2) (ret := (some .int)) (by decide) rfl ?_
  intro p e s m args below meth c s₁ B hml hv
  obtain ⟨rfl, hsz, hP, hK, hD0⟩ := hv
  have hx := B.exec
  have hb := B.bytes
  have hr := B.returns
  have hts : ∀ w ∈ zw, w.before _ s = true := fun w h => atoms_spec (ws := (wz yX6_pass cX6_pass 2 (some .int))) B.pre w (List.mem_cons_of_mem _ h)
  have hown : s.vm.findClass RX6 = some m.cls := findClass_of_methodNamed B.named
  have hlocks := B.notSynchronized
  subst hsz
  have hi6 := inw6
  have hD := hD0.self (sz := s.heap.size)
  generalize hAe : va_A (zX k q 0 (-1) 12 100 0 (fun _ => 0) aps 0 ar1 ar2 ar3 ar4 ar5 ar6 ar7 ph pp py wy fa fb cm0 ia0 0 0 ih0 in0 il0 tx0 sh0 cm1 ia1 0 0 ih1 in1 il1 tx1 sh1 cm2 ia2 0 0 ih2 in2 il2 tx2 sh2 cm3 ia3 0 0 ih3 in3 il3 tx3 sh3 (-1) 0 it0 (-1) 0 it1 (-1) 0 it2 (-1) 0 it3) s.heap.size = A at hD ⊢
  have hA : ∀ q : Nat, s.heap.size ≤ q → A q := fun q h => by rw [← hAe]; exact Or.inr h
  have hl := lv_entry ([.ref (q 0), .int n]) (n := 2) (Nat.le_of_ble_eq_true rfl)
  rw [lg_entry_eq]
  generalize (lg_sl ([.ref (q 0), .int n]) ++ List.replicate (2 - (lg_sl ([.ref (q 0), .int n])).length) Slot.unset).toArray = ls at hl ⊢
  have hl : lv_has ls 2 [(0, .ref (q 0)), (1, .int n)] := hl
  refine z_start (w := (zX k q 0 (-1) 12 100 0 (fun _ => 0) aps 0 ar1 ar2 ar3 ar4 ar5 ar6 ar7 ph pp py wy fa fb cm0 ia0 0 0 ih0 in0 il0 tx0 sh0 cm1 ia1 0 0 ih1 in1 il1 tx1 sh1 cm2 ia2 0 0 ih2 in2 il2 tx2 sh2 cm3 ia3 0 0 ih3 in3 il3 tx3 sh3 (-1) 0 it0 (-1) 0 it1 (-1) 0 it2 (-1) 0 it3)) hP hD (fun H locs hP hD hS => ?_)
  refine lv_iload_n hx hb dX6_pass_0 rfl (lv_at hl 1 rfl) ?_
  refine lv_iconst (v := 1) hx hb dX6_pass_1 (by decide) ?_
  refine lv_icmp_lt (tgt := 23) hx hb dX6_pass_2 (by decide) (fun c_1 => ?_) (fun c_1 => ?_)
  · skip
    replace c_1 := Int32.not_le.mpr c_1
    have c_1' : n ≤ 0 := Decidable.not_not.mp (fun h => c_1 ((z_ge_pred (by decide)).mpr h))
    refine lv_bipush (v := (-2)) hx hb dX6_pass_23 (by decide) ?_
    exact W.iret (v := (-2)) hx hb hr (fun t ht hW => ⟨⟨(-2), (0), rfl, (by first | assumption | with_reducible rfl | contradiction | exact (if_pos (by repeat' (first | assumption | decide | constructor))).symm | exact (if_neg (fun hh => absurd hh (by assumption))).symm | exact (if_neg (fun hh => absurd hh.1 (by assumption))).symm | exact (if_neg (fun hh => absurd hh.2 (by assumption))).symm | exact (if_neg (fun hh => absurd hh.1.1 (by assumption))).symm | exact (if_neg (fun hh => absurd hh.1.2 (by assumption))).symm | exact (if_neg (fun hh => absurd hh.2.1 (by assumption))).symm | exact (if_neg (fun hh => absurd hh.2.2 (by assumption))).symm | exact (if_neg (fun hh => absurd hh.2.2.1 (by assumption))).symm | exact (if_neg (fun hh => absurd hh.2.2.2 (by assumption))).symm | exact (if_neg (fun hh => absurd hh.2.2.2.1 (by assumption))).symm | exact (if_neg (fun hh => absurd hh.2.2.2.2 (by assumption))).symm | decide | (exfalso; simp only [zi_le, zi_lt, zi_eq, zi_n0, zi_n1, zi_n2, zi_n3, zi_n4, zi_n23, zi_n24, zi_n100, zi_n399, zi_n60, zi_n255, zi_n99, zi_nm1, zi_n30] at *; omega) | (simp_all; done)), ⟨by rw [ht]; exact hP, hD⟩⟩, hS.F ht⟩) hS.2.2 dX6_pass_25
  · skip
    replace c_1 := Int32.not_lt.mp c_1
    have c_1' : ¬ n ≤ 0 := (z_ge_pred (by decide)).mp c_1
    refine lv_iload_n hx hb dX6_pass_5 rfl (lv_at hl 1 rfl) ?_
    refine lv_bipush (v := 100) hx hb dX6_pass_6 (by decide) ?_
    refine lv_icmp_gt (tgt := 23) hx hb dX6_pass_8 (by decide) (fun c_2 => ?_) (fun c_2 => ?_)
    · skip
      replace c_2 := Int32.not_le.mpr c_2
      refine lv_bipush (v := (-2)) hx hb dX6_pass_23 (by decide) ?_
      exact W.iret (v := (-2)) hx hb hr (fun t ht hW => ⟨⟨(-2), (0), rfl, (by first | assumption | with_reducible rfl | contradiction | exact (if_pos (by repeat' (first | assumption | decide | constructor))).symm | exact (if_neg (fun hh => absurd hh (by assumption))).symm | exact (if_neg (fun hh => absurd hh.1 (by assumption))).symm | exact (if_neg (fun hh => absurd hh.2 (by assumption))).symm | exact (if_neg (fun hh => absurd hh.1.1 (by assumption))).symm | exact (if_neg (fun hh => absurd hh.1.2 (by assumption))).symm | exact (if_neg (fun hh => absurd hh.2.1 (by assumption))).symm | exact (if_neg (fun hh => absurd hh.2.2 (by assumption))).symm | exact (if_neg (fun hh => absurd hh.2.2.1 (by assumption))).symm | exact (if_neg (fun hh => absurd hh.2.2.2 (by assumption))).symm | exact (if_neg (fun hh => absurd hh.2.2.2.1 (by assumption))).symm | exact (if_neg (fun hh => absurd hh.2.2.2.2 (by assumption))).symm | decide | (exfalso; simp only [zi_le, zi_lt, zi_eq, zi_n0, zi_n1, zi_n2, zi_n3, zi_n4, zi_n23, zi_n24, zi_n100, zi_n399, zi_n60, zi_n255, zi_n99, zi_nm1, zi_n30] at *; omega) | (simp_all; done)), ⟨by rw [ht]; exact hP, hD⟩⟩, hS.F ht⟩) hS.2.2 dX6_pass_25
    · skip
      replace c_2 := Int32.not_lt.mp c_2
      refine lv_aload_n hx hb dX6_pass_11 rfl (lv_at hl 0 rfl) ?_
      refine va_get (D := (dC, dI)) (ci := 6) (v := .int 0) (C := RX6) (T := TX6) (N := 12) hx hb hts hi6 hown hK.1 hP 0 rfl rfl 7 (by decide) (hts _ wmt1_177) (fun _ h9 => h9) rfl dX6_pass_12 ?_
      refine lv_iload_n hx hb dX6_pass_15 rfl (lv_at hl 1 rfl) ?_
      refine lv_iadd hx hb dX6_pass_16 ?_
      refine z_top (v2 := .int n) (congrArg Value.int (Int32.zero_add n)) ?_
      refine lv_sipush (v := 399) hx hb dX6_pass_17 (by decide) ?_
      refine lv_icmp_le (tgt := 26) hx hb dX6_pass_20 (by decide) (fun c_3 => ?_) (fun c_3 => ?_)
      · skip
        refine lv_aload_n hx hb dX6_pass_26 rfl (lv_at hl 0 rfl) ?_
        refine lv_dup hx hb dX6_pass_27 rfl ?_
        refine va_get (D := (dC, dI)) (ci := 6) (v := .int 0) (C := RX6) (T := TX6) (N := 12) hx hb hts hi6 hown hK.1 hP 0 rfl rfl 7 (by decide) (hts _ wmt1_177) (fun _ h9 => h9) rfl dX6_pass_28 ?_
        refine lv_iload_n hx hb dX6_pass_31 rfl (lv_at hl 1 rfl) ?_
        refine lv_iadd hx hb dX6_pass_32 ?_
        refine z_top (v2 := .int n) (congrArg Value.int (Int32.zero_add n)) ?_
        refine va_put (D := (dC, dI)) (ci := 6) (v := .int n) (ty := .int) (C := RX6) (T := TX6) (N := 12) hx hb hts hi6 tyX6 tyX6_ok nmX6 hown hK.1 hP hD hS 0 rfl rfl 7 (by decide) (hts _ wmt1_177) (fun _ h9 => h9) rfl (by decide +kernel) rfl rfl (Nat.le_of_ble_eq_true rfl) dX6_pass_33 (fun H locs hP hD hS => ?_)
        have hP : va_P (dC, dI) vwCl (zX k q n (-1) 12 100 0 (fun _ => 0) aps 0 ar1 ar2 ar3 ar4 ar5 ar6 ar7 ph pp py wy fa fb cm0 ia0 0 0 ih0 in0 il0 tx0 sh0 cm1 ia1 0 0 ih1 in1 il1 tx1 sh1 cm2 ia2 0 0 ih2 in2 il2 tx2 sh2 cm3 ia3 0 0 ih3 in3 il3 tx3 sh3 (-1) 0 it0 (-1) 0 it1 (-1) 0 it2 (-1) 0 it3) H := hP
        have hD : va_D A (zX k q n (-1) 12 100 0 (fun _ => 0) aps 0 ar1 ar2 ar3 ar4 ar5 ar6 ar7 ph pp py wy fa fb cm0 ia0 0 0 ih0 in0 il0 tx0 sh0 cm1 ia1 0 0 ih1 in1 il1 tx1 sh1 cm2 ia2 0 0 ih2 in2 il2 tx2 sh2 cm3 ia3 0 0 ih3 in3 il3 tx3 sh3 (-1) 0 it0 (-1) 0 it1 (-1) 0 it2 (-1) 0 it3) := hD
        refine lv_aload_n hx hb dX6_pass_36 rfl (lv_at hl 0 rfl) ?_
        refine va_get (D := (dC, dI)) (ci := 6) (v := .int n) (C := RX6) (T := TX6) (N := 12) hx hb hts hi6 hown hK.1 hP 0 rfl rfl 7 (by decide) (hts _ wmt1_177) (fun _ h9 => h9) rfl dX6_pass_37 ?_
        exact W.iret (v := n) hx hb hr (fun t ht hW => ⟨⟨n, (n), rfl, (by first | assumption | with_reducible rfl | contradiction | exact (if_pos (by repeat' (first | assumption | decide | constructor))).symm | exact (if_neg (fun hh => absurd hh (by assumption))).symm | exact (if_neg (fun hh => absurd hh.1 (by assumption))).symm | exact (if_neg (fun hh => absurd hh.2 (by assumption))).symm | exact (if_neg (fun hh => absurd hh.1.1 (by assumption))).symm | exact (if_neg (fun hh => absurd hh.1.2 (by assumption))).symm | exact (if_neg (fun hh => absurd hh.2.1 (by assumption))).symm | exact (if_neg (fun hh => absurd hh.2.2 (by assumption))).symm | exact (if_neg (fun hh => absurd hh.2.2.1 (by assumption))).symm | exact (if_neg (fun hh => absurd hh.2.2.2 (by assumption))).symm | exact (if_neg (fun hh => absurd hh.2.2.2.1 (by assumption))).symm | exact (if_neg (fun hh => absurd hh.2.2.2.2 (by assumption))).symm | decide | (exfalso; simp only [zi_le, zi_lt, zi_eq, zi_n0, zi_n1, zi_n2, zi_n3, zi_n4, zi_n23, zi_n24, zi_n100, zi_n399, zi_n60, zi_n255, zi_n99, zi_nm1, zi_n30] at *; omega) | (simp_all; done)), ⟨by rw [ht]; exact hP, hD⟩⟩, hS.F ht⟩) hS.2.2 dX6_pass_40
      · skip
        exact absurd (Int32.le_trans (b := 100) (by assumption) (by decide)) c_3
set_option maxHeartbeats 4000000 in
set_option maxRecDepth 100000 in
theorem c_X6_group (l : Launch) (dC : Nat → ClassId) (dI : Nat → Nat → Nat) (k : Nat → ClassId)  (q : Nat → Nat) (aps : Int32) (ar1 : Nat → Int32) (ar2 : Nat → Int32) (ar3 : Nat → Int32) (ar4 : Nat → Int32) (ar5 : Nat → Int32) (ar6 : Nat → Int32) (ar7 : Nat → Int32) (ph : Int32) (pp : Int32) (py : Int32) (wy : Nat → Int64) (fa : Int64) (fb : Int64) (cm0 : Int64) (ia0 : Int32) (ih0 : Int32) (in0 : Int32) (il0 : Int32) (tx0 : Nat → Int32) (sh0 : Nat → Int64) (cm1 : Int64) (ia1 : Int32) (ih1 : Int32) (in1 : Int32) (il1 : Int32) (tx1 : Nat → Int32) (sh1 : Nat → Int64) (cm2 : Int64) (ia2 : Int32) (ih2 : Int32) (in2 : Int32) (il2 : Int32) (tx2 : Nat → Int32) (sh2 : Nat → Int64) (cm3 : Int64) (ia3 : Int32) (ih3 : Int32) (in3 : Int32) (il3 : Int32) (tx3 : Nat → Int32) (sh3 : Nat → Int64) (it0 : Nat → Int32) (it1 : Nat → Int32) (it2 : Nat → Int32) (it3 : Nat → Int32) (pe : Int32) (g : Int32) (sz : Nat)  : Met l yX6_group (wz yX6_group cX6_group 4 (some .int)) ({ frames := 1, cells := 0, slots := 0, locals := 20 }) (va_Pc [.ref (q 0), .int pe, .int g] (zPre dC dI k (zTX k) (zX k q 0 (-1) 12 100 0 (fun _ => 0) aps 0 ar1 ar2 ar3 ar4 ar5 ar6 ar7 ph pp py wy fa fb cm0 ia0 0 0 ih0 in0 il0 tx0 sh0 cm1 ia1 0 0 ih1 in1 il1 tx1 sh1 cm2 ia2 0 0 ih2 in2 il2 tx2 sh2 cm3 ia3 0 0 ih3 in3 il3 tx3 sh3 (-1) 0 it0 (-1) 0 it1 (-1) 0 it2 (-1) 0 it3) sz)) (va_Qi (fun (r : Int32) (u : (Nat → Int32)) => (r = if (0 ≤ (pe : Int32) ∧ (pe : Int32) ≤ 23) ∧ (0 ≤ (g : Int32) ∧ (g : Int32) ≤ 3) then 0 else (-2))) (fun u t => zPost dC dI (va_A (zX k q 0 (-1) 12 100 0 (fun _ => 0) aps 0 ar1 ar2 ar3 ar4 ar5 ar6 ar7 ph pp py wy fa fb cm0 ia0 0 0 ih0 in0 il0 tx0 sh0 cm1 ia1 0 0 ih1 in1 il1 tx1 sh1 cm2 ia2 0 0 ih2 in2 il2 tx2 sh2 cm3 ia3 0 0 ih3 in3 il3 tx3 sh3 (-1) 0 it0 (-1) 0 it1 (-1) 0 it2 (-1) 0 it3) sz) (zX k q 0 (-1) 12 100 0 u aps 0 ar1 ar2 ar3 ar4 ar5 ar6 ar7 ph pp py wy fa fb cm0 ia0 0 0 ih0 in0 il0 tx0 sh0 cm1 ia1 0 0 ih1 in1 il1 tx1 sh1 cm2 ia2 0 0 ih2 in2 il2 tx2 sh2 cm3 ia3 0 0 ih3 in3 il3 tx3 sh3 (-1) 0 it0 (-1) 0 it1 (-1) 0 it2 (-1) 0 it3) t) (va_A (zX k q 0 (-1) 12 100 0 (fun _ => 0) aps 0 ar1 ar2 ar3 ar4 ar5 ar6 ar7 ph pp py wy fa fb cm0 ia0 0 0 ih0 in0 il0 tx0 sh0 cm1 ia1 0 0 ih1 in1 il1 tx1 sh1 cm2 ia2 0 0 ih2 in2 il2 tx2 sh2 cm3 ia3 0 0 ih3 in3 il3 tx3 sh3 (-1) 0 it0 (-1) 0 it1 (-1) 0 it2 (-1) 0 it3) sz)) 0 0 (va_A (zX k q 0 (-1) 12 100 0 (fun _ => 0) aps 0 ar1 ar2 ar3 ar4 ar5 ar6 ar7 ph pp py wy fa fb cm0 ia0 0 0 ih0 in0 il0 tx0 sh0 cm1 ia1 0 0 ih1 in1 il1 tx1 sh1 cm2 ia2 0 0 ih2 in2 il2 tx2 sh2 cm3 ia3 0 0 ih3 in3 il3 tx3 sh3 (-1) 0 it0 (-1) 0 it1 (-1) 0 it2 (-1) 0 it3) sz) := by
  refine Met.ofW (cc := cX6_group) (maxL := 4) (ret := (some .int)) (by decide) rfl ?_
  intro p e s m args below meth c s₁ B hml hv
  obtain ⟨rfl, hsz, hP, hK, hD0⟩ := hv
  have hx := B.exec
  have hb := B.bytes
  have hr := B.returns
  have hts : ∀ w ∈ zw, w.before _ s = true := fun w h => atoms_spec (ws := (wz yX6_group cX6_group 4 (some .int))) B.pre w (List.mem_cons_of_mem _ h)
  have hown : s.vm.findClass RX6 = some m.cls := findClass_of_methodNamed B.named
  have hlocks := B.notSynchronized
  subst hsz
  have hi6 := inw6
  have hD := hD0.self (sz := s.heap.size)
  generalize hAe : va_A (zX k q 0 (-1) 12 100 0 (fun _ => 0) aps 0 ar1 ar2 ar3 ar4 ar5 ar6 ar7 ph pp py wy fa fb cm0 ia0 0 0 ih0 in0 il0 tx0 sh0 cm1 ia1 0 0 ih1 in1 il1 tx1 sh1 cm2 ia2 0 0 ih2 in2 il2 tx2 sh2 cm3 ia3 0 0 ih3 in3 il3 tx3 sh3 (-1) 0 it0 (-1) 0 it1 (-1) 0 it2 (-1) 0 it3) s.heap.size = A at hD ⊢
  have hA : ∀ q : Nat, s.heap.size ≤ q → A q := fun q h => by rw [← hAe]; exact Or.inr h
  have hl := lv_entry ([.ref (q 0), .int pe, .int g]) (n := 4) (Nat.le_of_ble_eq_true rfl)
  rw [lg_entry_eq]
  generalize (lg_sl ([.ref (q 0), .int pe, .int g]) ++ List.replicate (4 - (lg_sl ([.ref (q 0), .int pe, .int g])).length) Slot.unset).toArray = ls at hl ⊢
  have hl : lv_has ls 4 [(0, .ref (q 0)), (1, .int pe), (2, .int g)] := hl
  refine z_start (w := (zX k q 0 (-1) 12 100 0 (fun _ => 0) aps 0 ar1 ar2 ar3 ar4 ar5 ar6 ar7 ph pp py wy fa fb cm0 ia0 0 0 ih0 in0 il0 tx0 sh0 cm1 ia1 0 0 ih1 in1 il1 tx1 sh1 cm2 ia2 0 0 ih2 in2 il2 tx2 sh2 cm3 ia3 0 0 ih3 in3 il3 tx3 sh3 (-1) 0 it0 (-1) 0 it1 (-1) 0 it2 (-1) 0 it3)) hP hD (fun H locs hP hD hS => ?_)
  refine lv_iload_n hx hb dX6_group_0 rfl (lv_at hl 1 rfl) ?_
  refine zc0_i (w := (zX k q 0 (-1) 12 100 0 (fun _ => 0) aps 0 ar1 ar2 ar3 ar4 ar5 ar6 ar7 ph pp py wy fa fb cm0 ia0 0 0 ih0 in0 il0 tx0 sh0 cm1 ia1 0 0 ih1 in1 il1 tx1 sh1 cm2 ia2 0 0 ih2 in2 il2 tx2 sh2 cm3 ia3 0 0 ih3 in3 il3 tx3 sh3 (-1) 0 it0 (-1) 0 it1 (-1) 0 it2 (-1) 0 it3)) (va_runS (As := [.int pe]) (rest := []) ⟨hx, hb, hml, hown, hts⟩ (c_X6_isPerson l dC dI k (zTX k) pe _ ) (va_cwS 1 hts (gzS wmt2_77 wmt2_78 wmt1_1 wmt2_79) rfl rfl rfl (by decide +kernel) ⟨Nat.le_of_ble_eq_true rfl, Nat.le_of_ble_eq_true rfl⟩) (zp0_S hK) rfl rfl hl.1 rfl (lv_room (Nat.le_of_ble_eq_true rfl)) dX6_group_1 ⟨Nat.le_of_ble_eq_true rfl, Nat.le_of_ble_eq_true rfl⟩) hP hS hA (fun r_1 u_2 H locs w_3 hP hS => ?_)
  rcases w_3 with ⟨e_5, h_4⟩ | ⟨e_7, h_6⟩
  · skip
    replace e_5 : r_1 = 1 := e_5
    subst e_5
    replace h_4 : 0 ≤ (pe : Int32) ∧ (pe : Int32) ≤ 23 := h_4
    refine lv_if_eq (tgt := 14) hx hb dX6_group_4 (by decide) (fun c_8 => ?_) (fun c_8 => ?_)
    · skip
      exact absurd c_8 (by decide)
    · skip
      refine lv_iload_n hx hb dX6_group_7 rfl (lv_at hl 2 rfl) ?_
      refine zc0_i (w := (zX k q 0 (-1) 12 100 0 (fun _ => 0) aps 0 ar1 ar2 ar3 ar4 ar5 ar6 ar7 ph pp py wy fa fb cm0 ia0 0 0 ih0 in0 il0 tx0 sh0 cm1 ia1 0 0 ih1 in1 il1 tx1 sh1 cm2 ia2 0 0 ih2 in2 il2 tx2 sh2 cm3 ia3 0 0 ih3 in3 il3 tx3 sh3 (-1) 0 it0 (-1) 0 it1 (-1) 0 it2 (-1) 0 it3)) (va_runS (As := [.int g]) (rest := []) ⟨hx, hb, hml, hown, hts⟩ (c_X6_isGroup l dC dI k (zTX k) g _ ) (va_cwS 1 hts (gzS wmt2_80 wmt2_81 wmt1_1 wmt2_82) rfl rfl rfl (by decide +kernel) ⟨Nat.le_of_ble_eq_true rfl, Nat.le_of_ble_eq_true rfl⟩) (zp0_S hK) rfl rfl hl.1 rfl (lv_room (Nat.le_of_ble_eq_true rfl)) dX6_group_8 ⟨Nat.le_of_ble_eq_true rfl, Nat.le_of_ble_eq_true rfl⟩) hP hS hA (fun r_9 u_10 H locs w_11 hP hS => ?_)
      rcases w_11 with ⟨e_13, h_12⟩ | ⟨e_15, h_14⟩
      · skip
        replace e_13 : r_9 = 1 := e_13
        subst e_13
        replace h_12 : 0 ≤ (g : Int32) ∧ (g : Int32) ≤ 3 := h_12
        refine lv_if_ne (tgt := 17) hx hb dX6_group_11 (by decide) (fun c_16 => ?_) (fun c_16 => ?_)
        · skip
          refine lv_aload_n hx hb dX6_group_17 rfl (lv_at hl 0 rfl) ?_
          refine va_get (D := (dC, dI)) (ci := 6) (v := .ref (q 3)) (C := RX6) (T := TX6) (N := 12) hx hb hts hi6 hown hK.1 hP 0 rfl rfl 2 (by decide) (hts _ wmt1_172) (fun _ h9 => h9) rfl dX6_group_18 ?_
          refine lv_iload_n hx hb dX6_group_21 rfl (lv_at hl 1 rfl) ?_
          refine va_iald (D := (dC, dI)) hx hb hK.1 hP 3 0 rfl rfl (by first | exact zin4 (by assumption) | exact zin24 (by assumption)) dX6_group_22 ?_
          refine z_top (v2 := .int 0) (rfl) ?_
          refine lv_istore_n (lv' := [(3, .int 0), (0, .ref (q 0)), (1, .int pe), (2, .int g)]) hx hb dX6_group_23 rfl hl (by decide) rfl (fun ls hl => ?_)
          refine lv_aload_n hx hb dX6_group_24 rfl (lv_at hl 1 rfl) ?_
          refine va_get (D := (dC, dI)) (ci := 6) (v := .ref (q 3)) (C := RX6) (T := TX6) (N := 12) hx hb hts hi6 hown hK.1 hP 0 rfl rfl 2 (by decide) (hts _ wmt1_172) (fun _ h9 => h9) rfl dX6_group_25 ?_
          refine lv_iload_n hx hb dX6_group_28 rfl (lv_at hl 2 rfl) ?_
          refine lv_iload_n hx hb dX6_group_29 rfl (lv_at hl 3 rfl) ?_
          refine va_iast (D := (dC, dI)) hx hb hK.1 hP hD hS 3 0 rfl rfl (by first | exact zin4 (by assumption) | exact zin24 (by assumption)) dX6_group_30 (fun H locs hP hD hS => ?_)
          have hP : va_P (dC, dI) vwCl (zX k q 0 (-1) 12 100 0 (upd (fun _ => 0) pe.toNatClampNeg g) aps 0 ar1 ar2 ar3 ar4 ar5 ar6 ar7 ph pp py wy fa fb cm0 ia0 0 0 ih0 in0 il0 tx0 sh0 cm1 ia1 0 0 ih1 in1 il1 tx1 sh1 cm2 ia2 0 0 ih2 in2 il2 tx2 sh2 cm3 ia3 0 0 ih3 in3 il3 tx3 sh3 (-1) 0 it0 (-1) 0 it1 (-1) 0 it2 (-1) 0 it3) H := hP
          have hD : va_D A (zX k q 0 (-1) 12 100 0 (upd (fun _ => 0) pe.toNatClampNeg g) aps 0 ar1 ar2 ar3 ar4 ar5 ar6 ar7 ph pp py wy fa fb cm0 ia0 0 0 ih0 in0 il0 tx0 sh0 cm1 ia1 0 0 ih1 in1 il1 tx1 sh1 cm2 ia2 0 0 ih2 in2 il2 tx2 sh2 cm3 ia3 0 0 ih3 in3 il3 tx3 sh3 (-1) 0 it0 (-1) 0 it1 (-1) 0 it2 (-1) 0 it3) := hD
          refine lv_iload_n hx hb dX6_group_31 rfl (lv_at hl 0 rfl) ?_
          exact W.iret (v := 0) hx hb hr (fun t ht hW => ⟨⟨0, (upd (fun _ => 0) pe.toNatClampNeg g), rfl, (by first | assumption | with_reducible rfl | contradiction | exact (if_pos (by repeat' (first | assumption | decide | constructor))).symm | exact (if_neg (fun hh => absurd hh (by assumption))).symm | exact (if_neg (fun hh => absurd hh.1 (by assumption))).symm | exact (if_neg (fun hh => absurd hh.2 (by assumption))).symm | exact (if_neg (fun hh => absurd hh.1.1 (by assumption))).symm | exact (if_neg (fun hh => absurd hh.1.2 (by assumption))).symm | exact (if_neg (fun hh => absurd hh.2.1 (by assumption))).symm | exact (if_neg (fun hh => absurd hh.2.2 (by assumption))).symm | exact (if_neg (fun hh => absurd hh.2.2.1 (by assumption))).symm | exact (if_neg (fun hh => absurd hh.2.2.2 (by assumption))).symm | exact (if_neg (fun hh => absurd hh.2.2.2.1 (by assumption))).symm | exact (if_neg (fun hh => absurd hh.2.2.2.2 (by assumption))).symm | decide | (exfalso; simp only [zi_le, zi_lt, zi_eq, zi_n0, zi_n1, zi_n2, zi_n3, zi_n4, zi_n23, zi_n24, zi_n100, zi_n399, zi_n60, zi_n255, zi_n99, zi_nm1, zi_n30] at *; omega) | (simp_all; done)), ⟨by rw [ht]; exact hP, hD⟩⟩, hS.F ht⟩) hS.2.2 dX6_group_32
        · skip
          exact absurd c_16 (by decide)
      · skip
        replace e_15 : r_9 = 0 := e_15
        subst e_15
        replace h_14 : ¬ (0 ≤ (g : Int32) ∧ (g : Int32) ≤ 3) := h_14
        refine lv_if_ne (tgt := 17) hx hb dX6_group_11 (by decide) (fun c_17 => ?_) (fun c_17 => ?_)
        · skip
          exact absurd c_17 (by decide)
        · skip
          refine lv_bipush (v := (-2)) hx hb dX6_group_14 (by decide) ?_
          exact W.iret (v := (-2)) hx hb hr (fun t ht hW => ⟨⟨(-2), ((fun _ => 0)), rfl, (by first | assumption | with_reducible rfl | contradiction | exact (if_pos (by repeat' (first | assumption | decide | constructor))).symm | exact (if_neg (fun hh => absurd hh (by assumption))).symm | exact (if_neg (fun hh => absurd hh.1 (by assumption))).symm | exact (if_neg (fun hh => absurd hh.2 (by assumption))).symm | exact (if_neg (fun hh => absurd hh.1.1 (by assumption))).symm | exact (if_neg (fun hh => absurd hh.1.2 (by assumption))).symm | exact (if_neg (fun hh => absurd hh.2.1 (by assumption))).symm | exact (if_neg (fun hh => absurd hh.2.2 (by assumption))).symm | exact (if_neg (fun hh => absurd hh.2.2.1 (by assumption))).symm | exact (if_neg (fun hh => absurd hh.2.2.2 (by assumption))).symm | exact (if_neg (fun hh => absurd hh.2.2.2.1 (by assumption))).symm | exact (if_neg (fun hh => absurd hh.2.2.2.2 (by assumption))).symm | decide | (exfalso; simp only [zi_le, zi_lt, zi_eq, zi_n0, zi_n1, zi_n2, zi_n3, zi_n4, zi_n23, zi_n24, zi_n100, zi_n399, zi_n60, zi_n255, zi_n99, zi_nm1, zi_n30] at *; omega) | (simp_all; done)), ⟨by rw [ht]; exact hP, hD⟩⟩, hS.F ht⟩) hS.2.2 dX6_group_16
  · skip
    replace e_7 : r_1 = 0 := e_7
    subst e_7
    replace h_6 : ¬ (0 ≤ (pe : Int32) ∧ (pe : Int32) ≤ 23) := h_6
    refine lv_if_eq (tgt := 14) hx hb dX6_group_4 (by decide) (fun c_18 => ?_) (fun c_18 => ?_)
    · skip
      refine lv_bipush (v := (-2)) hx hb dX6_group_14 (by decide) ?_
      exact W.iret (v := (-2)) hx hb hr (fun t ht hW => ⟨⟨(-2), ((fun _ => 0)), rfl, (by first | assumption | with_reducible rfl | contradiction | exact (if_pos (by repeat' (first | assumption | decide | constructor))).symm | exact (if_neg (fun hh => absurd hh (by assumption))).symm | exact (if_neg (fun hh => absurd hh.1 (by assumption))).symm | exact (if_neg (fun hh => absurd hh.2 (by assumption))).symm | exact (if_neg (fun hh => absurd hh.1.1 (by assumption))).symm | exact (if_neg (fun hh => absurd hh.1.2 (by assumption))).symm | exact (if_neg (fun hh => absurd hh.2.1 (by assumption))).symm | exact (if_neg (fun hh => absurd hh.2.2 (by assumption))).symm | exact (if_neg (fun hh => absurd hh.2.2.1 (by assumption))).symm | exact (if_neg (fun hh => absurd hh.2.2.2 (by assumption))).symm | exact (if_neg (fun hh => absurd hh.2.2.2.1 (by assumption))).symm | exact (if_neg (fun hh => absurd hh.2.2.2.2 (by assumption))).symm | decide | (exfalso; simp only [zi_le, zi_lt, zi_eq, zi_n0, zi_n1, zi_n2, zi_n3, zi_n4, zi_n23, zi_n24, zi_n100, zi_n399, zi_n60, zi_n255, zi_n99, zi_nm1, zi_n30] at *; omega) | (simp_all; done)), ⟨by rw [ht]; exact hP, hD⟩⟩, hS.F ht⟩) hS.2.2 dX6_group_16
    · skip
      exact absurd (by decide) c_18
set_option maxHeartbeats 4000000 in
set_option maxRecDepth 100000 in
theorem c_X6_answer (l : Launch) (dC : Nat → ClassId) (dI : Nat → Nat → Nat) (k : Nat → ClassId)  (q : Nat → Nat) (aps : Int32) (ar1 : Nat → Int32) (ar2 : Nat → Int32) (ar3 : Nat → Int32) (ar4 : Nat → Int32) (ar5 : Nat → Int32) (ar6 : Nat → Int32) (ar7 : Nat → Int32) (ph : Int32) (pp : Int32) (py : Int32) (wy : Nat → Int64) (fa : Int64) (fb : Int64) (cm0 : Int64) (ia0 : Int32) (ih0 : Int32) (in0 : Int32) (il0 : Int32) (tx0 : Nat → Int32) (sh0 : Nat → Int64) (cm1 : Int64) (ia1 : Int32) (ih1 : Int32) (in1 : Int32) (il1 : Int32) (tx1 : Nat → Int32) (sh1 : Nat → Int64) (cm2 : Int64) (ia2 : Int32) (ih2 : Int32) (in2 : Int32) (il2 : Int32) (tx2 : Nat → Int32) (sh2 : Nat → Int64) (cm3 : Int64) (ia3 : Int32) (ih3 : Int32) (in3 : Int32) (il3 : Int32) (tx3 : Nat → Int32) (sh3 : Nat → Int64) (it0 : Nat → Int32) (it1 : Nat → Int32) (it2 : Nat → Int32) (it3 : Nat → Int32) (pe : Int32) (d : Int32) (y : Int32) (sz : Nat)  : Met l yX6_answer (wz yX6_answer cX6_answer 4 (some .int)) ({ frames := 1, cells := 0, slots := 0, locals := 20 }) (va_Pc [.ref (q 0), .int pe, .int d, .int y] (zPre dC dI k (zTX k) (zX k q 0 (-1) 12 100 0 (fun _ => 0) aps 0 ar1 ar2 ar3 ar4 ar5 ar6 ar7 ph pp py wy fa fb cm0 ia0 0 0 ih0 in0 il0 tx0 sh0 cm1 ia1 0 0 ih1 in1 il1 tx1 sh1 cm2 ia2 0 0 ih2 in2 il2 tx2 sh2 cm3 ia3 0 0 ih3 in3 il3 tx3 sh3 (-1) 0 it0 (-1) 0 it1 (-1) 0 it2 (-1) 0 it3) sz)) (va_Qi (fun (r : Int32) (u : Unit) => (r = if (0 ≤ (pe : Int32) ∧ (pe : Int32) ≤ 23) ∧ (0 ≤ (d : Int32) ∧ (d : Int32) ≤ 3) ∧ (0 ≤ (y : Int32) ∧ (y : Int32) ≤ 1) then (-3) else (-2))) (fun u t => zPost dC dI (va_A (zX k q 0 (-1) 12 100 0 (fun _ => 0) aps 0 ar1 ar2 ar3 ar4 ar5 ar6 ar7 ph pp py wy fa fb cm0 ia0 0 0 ih0 in0 il0 tx0 sh0 cm1 ia1 0 0 ih1 in1 il1 tx1 sh1 cm2 ia2 0 0 ih2 in2 il2 tx2 sh2 cm3 ia3 0 0 ih3 in3 il3 tx3 sh3 (-1) 0 it0 (-1) 0 it1 (-1) 0 it2 (-1) 0 it3) sz) (zX k q 0 (-1) 12 100 0 (fun _ => 0) aps 0 ar1 ar2 ar3 ar4 ar5 ar6 ar7 ph pp py wy fa fb cm0 ia0 0 0 ih0 in0 il0 tx0 sh0 cm1 ia1 0 0 ih1 in1 il1 tx1 sh1 cm2 ia2 0 0 ih2 in2 il2 tx2 sh2 cm3 ia3 0 0 ih3 in3 il3 tx3 sh3 (-1) 0 it0 (-1) 0 it1 (-1) 0 it2 (-1) 0 it3) t) (va_A (zX k q 0 (-1) 12 100 0 (fun _ => 0) aps 0 ar1 ar2 ar3 ar4 ar5 ar6 ar7 ph pp py wy fa fb cm0 ia0 0 0 ih0 in0 il0 tx0 sh0 cm1 ia1 0 0 ih1 in1 il1 tx1 sh1 cm2 ia2 0 0 ih2 in2 il2 tx2 sh2 cm3 ia3 0 0 ih3 in3 il3 tx3 sh3 (-1) 0 it0 (-1) 0 it1 (-1) 0 it2 (-1) 0 it3) sz)) 0 0 (va_A (zX k q 0 (-1) 12 100 0 (fun _ => 0) aps 0 ar1 ar2 ar3 ar4 ar5 ar6 ar7 ph pp py wy fa fb cm0 ia0 0 0 ih0 in0 il0 tx0 sh0 cm1 ia1 0 0 ih1 in1 il1 tx1 sh1 cm2 ia2 0 0 ih2 in2 il2 tx2 sh2 cm3 ia3 0 0 ih3 in3 il3 tx3 sh3 (-1) 0 it0 (-1) 0 it1 (-1) 0 it2 (-1) 0 it3) sz) := by
  refine Met.ofW (cc := cX6_answer) (maxL := 4) (ret := (some .int)) (by decide) rfl ?_
  intro p e s m args below meth c s₁ B hml hv
  obtain ⟨rfl, hsz, hP, hK, hD0⟩ := hv
  have hx := B.exec
  have hb := B.bytes
  have hr := B.returns
  have hts : ∀ w ∈ zw, w.before _ s = true := fun w h => atoms_spec (ws := (wz yX6_answer cX6_answer 4 (some .int))) B.pre w (List.mem_cons_of_mem _ h)
  have hown : s.vm.findClass RX6 = some m.cls := findClass_of_methodNamed B.named
  have hlocks := B.notSynchronized
  subst hsz
  have hi6 := inw6
  have hD := hD0.self (sz := s.heap.size)
  generalize hAe : va_A (zX k q 0 (-1) 12 100 0 (fun _ => 0) aps 0 ar1 ar2 ar3 ar4 ar5 ar6 ar7 ph pp py wy fa fb cm0 ia0 0 0 ih0 in0 il0 tx0 sh0 cm1 ia1 0 0 ih1 in1 il1 tx1 sh1 cm2 ia2 0 0 ih2 in2 il2 tx2 sh2 cm3 ia3 0 0 ih3 in3 il3 tx3 sh3 (-1) 0 it0 (-1) 0 it1 (-1) 0 it2 (-1) 0 it3) s.heap.size = A at hD ⊢
  have hA : ∀ q : Nat, s.heap.size ≤ q → A q := fun q h => by rw [← hAe]; exact Or.inr h
  have hl := lv_entry ([.ref (q 0), .int pe, .int d, .int y]) (n := 4) (Nat.le_of_ble_eq_true rfl)
  rw [lg_entry_eq]
  generalize (lg_sl ([.ref (q 0), .int pe, .int d, .int y]) ++ List.replicate (4 - (lg_sl ([.ref (q 0), .int pe, .int d, .int y])).length) Slot.unset).toArray = ls at hl ⊢
  have hl : lv_has ls 4 [(0, .ref (q 0)), (1, .int pe), (2, .int d), (3, .int y)] := hl
  refine z_start (w := (zX k q 0 (-1) 12 100 0 (fun _ => 0) aps 0 ar1 ar2 ar3 ar4 ar5 ar6 ar7 ph pp py wy fa fb cm0 ia0 0 0 ih0 in0 il0 tx0 sh0 cm1 ia1 0 0 ih1 in1 il1 tx1 sh1 cm2 ia2 0 0 ih2 in2 il2 tx2 sh2 cm3 ia3 0 0 ih3 in3 il3 tx3 sh3 (-1) 0 it0 (-1) 0 it1 (-1) 0 it2 (-1) 0 it3)) hP hD (fun H locs hP hD hS => ?_)
  refine lv_iload_n hx hb dX6_answer_0 rfl (lv_at hl 1 rfl) ?_
  refine zc0_i (w := (zX k q 0 (-1) 12 100 0 (fun _ => 0) aps 0 ar1 ar2 ar3 ar4 ar5 ar6 ar7 ph pp py wy fa fb cm0 ia0 0 0 ih0 in0 il0 tx0 sh0 cm1 ia1 0 0 ih1 in1 il1 tx1 sh1 cm2 ia2 0 0 ih2 in2 il2 tx2 sh2 cm3 ia3 0 0 ih3 in3 il3 tx3 sh3 (-1) 0 it0 (-1) 0 it1 (-1) 0 it2 (-1) 0 it3)) (va_runS (As := [.int pe]) (rest := []) ⟨hx, hb, hml, hown, hts⟩ (c_X6_isPerson l dC dI k (zTX k) pe _ ) (va_cwS 1 hts (gzS wmt2_77 wmt2_78 wmt1_1 wmt2_79) rfl rfl rfl (by decide +kernel) ⟨Nat.le_of_ble_eq_true rfl, Nat.le_of_ble_eq_true rfl⟩) (zp0_S hK) rfl rfl hl.1 rfl (lv_room (Nat.le_of_ble_eq_true rfl)) dX6_answer_1 ⟨Nat.le_of_ble_eq_true rfl, Nat.le_of_ble_eq_true rfl⟩) hP hS hA (fun r_1 u_2 H locs w_3 hP hS => ?_)
  rcases w_3 with ⟨e_5, h_4⟩ | ⟨e_7, h_6⟩
  · skip
    replace e_5 : r_1 = 1 := e_5
    subst e_5
    replace h_4 : 0 ≤ (pe : Int32) ∧ (pe : Int32) ≤ 23 := h_4
    refine lv_if_eq (tgt := 21) hx hb dX6_answer_4 (by decide) (fun c_8 => ?_) (fun c_8 => ?_)
    · skip
      exact absurd c_8 (by decide)
    · skip
      refine lv_iload_n hx hb dX6_answer_7 rfl (lv_at hl 2 rfl) ?_
      refine zc0_i (w := (zX k q 0 (-1) 12 100 0 (fun _ => 0) aps 0 ar1 ar2 ar3 ar4 ar5 ar6 ar7 ph pp py wy fa fb cm0 ia0 0 0 ih0 in0 il0 tx0 sh0 cm1 ia1 0 0 ih1 in1 il1 tx1 sh1 cm2 ia2 0 0 ih2 in2 il2 tx2 sh2 cm3 ia3 0 0 ih3 in3 il3 tx3 sh3 (-1) 0 it0 (-1) 0 it1 (-1) 0 it2 (-1) 0 it3)) (va_runS (As := [.int d]) (rest := []) ⟨hx, hb, hml, hown, hts⟩ (c_X6_isDesign l dC dI k (zTX k) d _ ) (va_cwS 1 hts (gzS wmt1_211 wmt1_212 wmt1_1 wmt1_213) rfl rfl rfl (by decide +kernel) ⟨Nat.le_of_ble_eq_true rfl, Nat.le_of_ble_eq_true rfl⟩) (zp0_S hK) rfl rfl hl.1 rfl (lv_room (Nat.le_of_ble_eq_true rfl)) dX6_answer_8 ⟨Nat.le_of_ble_eq_true rfl, Nat.le_of_ble_eq_true rfl⟩) hP hS hA (fun r_9 u_10 H locs w_11 hP hS => ?_)
      rcases w_11 with ⟨e_13, h_12⟩ | ⟨e_15, h_14⟩
      · skip
        replace e_13 : r_9 = 1 := e_13
        subst e_13
        replace h_12 : 0 ≤ (d : Int32) ∧ (d : Int32) ≤ 3 := h_12
        rcases zi_4 h_12 with rfl | rfl | rfl | rfl
        · skip
          refine lv_if_eq (tgt := 21) hx hb dX6_answer_11 (by decide) (fun c_16 => ?_) (fun c_16 => ?_)
          · skip
            exact absurd c_16 (by decide)
          · skip
            refine lv_iload_n hx hb dX6_answer_14 rfl (lv_at hl 3 rfl) ?_
            refine zc0_i (w := (zX k q 0 (-1) 12 100 0 (fun _ => 0) aps 0 ar1 ar2 ar3 ar4 ar5 ar6 ar7 ph pp py wy fa fb cm0 ia0 0 0 ih0 in0 il0 tx0 sh0 cm1 ia1 0 0 ih1 in1 il1 tx1 sh1 cm2 ia2 0 0 ih2 in2 il2 tx2 sh2 cm3 ia3 0 0 ih3 in3 il3 tx3 sh3 (-1) 0 it0 (-1) 0 it1 (-1) 0 it2 (-1) 0 it3)) (va_runS (As := [.int y]) (rest := []) ⟨hx, hb, hml, hown, hts⟩ (c_X6_isEither l dC dI k (zTX k) y _ ) (va_cwS 1 hts (gzS wmt2_48 wmt2_49 wmt1_1 wmt2_50) rfl rfl rfl (by decide +kernel) ⟨Nat.le_of_ble_eq_true rfl, Nat.le_of_ble_eq_true rfl⟩) (zp0_S hK) rfl rfl hl.1 rfl (lv_room (Nat.le_of_ble_eq_true rfl)) dX6_answer_15 ⟨Nat.le_of_ble_eq_true rfl, Nat.le_of_ble_eq_true rfl⟩) hP hS hA (fun r_17 u_18 H locs w_19 hP hS => ?_)
            rcases w_19 with ⟨e_21, h_20⟩ | ⟨e_23, h_22⟩
            · skip
              replace e_21 : r_17 = 1 := e_21
              subst e_21
              replace h_20 : 0 ≤ (y : Int32) ∧ (y : Int32) ≤ 1 := h_20
              refine lv_if_ne (tgt := 24) hx hb dX6_answer_18 (by decide) (fun c_24 => ?_) (fun c_24 => ?_)
              · skip
                refine lv_aload_n hx hb dX6_answer_24 rfl (lv_at hl 0 rfl) ?_
                refine va_get (D := (dC, dI)) (ci := 6) (v := .ref (q 1)) (C := RX6) (T := TX6) (N := 12) hx hb hts hi6 hown hK.1 hP 0 rfl rfl 0 (by decide) (hts _ wmt1_170) (fun _ h9 => h9) rfl dX6_answer_25 ?_
                refine lv_iload_n hx hb dX6_answer_28 rfl (lv_at hl 2 rfl) ?_
                refine va_aldq (D := (dC, dI)) hx hb hK.1 hP 1 3 rfl rfl (show ¬ _ by decide) dX6_answer_29 ?_
                refine z_top (v2 := .ref (q 16)) (rfl) ?_
                refine zcS_i (w := (zX k q 0 (-1) 12 100 0 (fun _ => 0) aps 0 ar1 ar2 ar3 ar4 ar5 ar6 ar7 ph pp py wy fa fb cm0 ia0 0 0 ih0 in0 il0 tx0 sh0 cm1 ia1 0 0 ih1 in1 il1 tx1 sh1 cm2 ia2 0 0 ih2 in2 il2 tx2 sh2 cm3 ia3 0 0 ih3 in3 il3 tx3 sh3 (-1) 0 it0 (-1) 0 it1 (-1) 0 it2 (-1) 0 it3)) (wc := (zDes k (q 16) (q 17) (q 18) tx0 sh0 cm0 ia0 0 0 ih0 in0 il0)) (va_runV (As := []) (rest := []) ⟨hx, hb, hml, hown, hts⟩ (c_X1_isFaulty l dC dI k (zTX k) (q 16) (q 17) (q 18) tx0 sh0 cm0 ia0 0 ih0 in0 il0 _ ) (cwV 0 hts (gzV wmt2_55 wmt2_20 wmt2_21 wmt1_6 wmt2_22) rfl rfl rfl (by decide +kernel) ⟨Nat.le_of_ble_eq_true rfl, Nat.le_of_ble_eq_true rfl⟩) (zp_V (ci := 1) (q0 := 16) hK hP hD [16, 17, 18] rfl rfl rfl rfl) rfl rfl hl.1 rfl (lv_room (Nat.le_of_ble_eq_true rfl)) dX6_answer_30 ⟨Nat.le_of_ble_eq_true rfl, Nat.le_of_ble_eq_true rfl⟩) hP hD hS hA [16, 17, 18] rfl (fun _ => rfl) (fun r_25 u_26 H locs w_27 hP hD hS => ?_)
                have hP : va_P (dC, dI) vwCl (zX k q 0 (-1) 12 100 0 (fun _ => 0) aps 0 ar1 ar2 ar3 ar4 ar5 ar6 ar7 ph pp py wy fa fb cm0 ia0 0 0 ih0 in0 il0 tx0 sh0 cm1 ia1 0 0 ih1 in1 il1 tx1 sh1 cm2 ia2 0 0 ih2 in2 il2 tx2 sh2 cm3 ia3 0 0 ih3 in3 il3 tx3 sh3 (-1) 0 it0 (-1) 0 it1 (-1) 0 it2 (-1) 0 it3) H := hP
                have hD : va_D A (zX k q 0 (-1) 12 100 0 (fun _ => 0) aps 0 ar1 ar2 ar3 ar4 ar5 ar6 ar7 ph pp py wy fa fb cm0 ia0 0 0 ih0 in0 il0 tx0 sh0 cm1 ia1 0 0 ih1 in1 il1 tx1 sh1 cm2 ia2 0 0 ih2 in2 il2 tx2 sh2 cm3 ia3 0 0 ih3 in3 il3 tx3 sh3 (-1) 0 it0 (-1) 0 it1 (-1) 0 it2 (-1) 0 it3) := hD
                have e_28 := w_27
                replace e_28 : r_25 = 1 := e_28
                subst e_28
                refine lv_if_eq (tgt := 39) hx hb dX6_answer_33 (by decide) (fun c_29 => ?_) (fun c_29 => ?_)
                · skip
                  exact absurd c_29 (by decide)
                · skip
                  refine lv_bipush (v := (-3)) hx hb dX6_answer_36 (by decide) ?_
                  exact W.iret (v := (-3)) hx hb hr (fun t ht hW => ⟨⟨(-3), (), rfl, (by first | assumption | with_reducible rfl | contradiction | exact (if_pos (by repeat' (first | assumption | decide | constructor))).symm | exact (if_neg (fun hh => absurd hh (by assumption))).symm | exact (if_neg (fun hh => absurd hh.1 (by assumption))).symm | exact (if_neg (fun hh => absurd hh.2 (by assumption))).symm | exact (if_neg (fun hh => absurd hh.1.1 (by assumption))).symm | exact (if_neg (fun hh => absurd hh.1.2 (by assumption))).symm | exact (if_neg (fun hh => absurd hh.2.1 (by assumption))).symm | exact (if_neg (fun hh => absurd hh.2.2 (by assumption))).symm | exact (if_neg (fun hh => absurd hh.2.2.1 (by assumption))).symm | exact (if_neg (fun hh => absurd hh.2.2.2 (by assumption))).symm | exact (if_neg (fun hh => absurd hh.2.2.2.1 (by assumption))).symm | exact (if_neg (fun hh => absurd hh.2.2.2.2 (by assumption))).symm | decide | (exfalso; simp only [zi_le, zi_lt, zi_eq, zi_n0, zi_n1, zi_n2, zi_n3, zi_n4, zi_n23, zi_n24, zi_n100, zi_n399, zi_n60, zi_n255, zi_n99, zi_nm1, zi_n30] at *; omega) | (simp_all; done)), ⟨by rw [ht]; exact hP, hD⟩⟩, hS.F ht⟩) hS.2.2 dX6_answer_38
              · skip
                exact absurd c_24 (by decide)
            · skip
              replace e_23 : r_17 = 0 := e_23
              subst e_23
              replace h_22 : ¬ (0 ≤ (y : Int32) ∧ (y : Int32) ≤ 1) := h_22
              refine lv_if_ne (tgt := 24) hx hb dX6_answer_18 (by decide) (fun c_30 => ?_) (fun c_30 => ?_)
              · skip
                exact absurd c_30 (by decide)
              · skip
                refine lv_bipush (v := (-2)) hx hb dX6_answer_21 (by decide) ?_
                exact W.iret (v := (-2)) hx hb hr (fun t ht hW => ⟨⟨(-2), (), rfl, (by first | assumption | with_reducible rfl | contradiction | exact (if_pos (by repeat' (first | assumption | decide | constructor))).symm | exact (if_neg (fun hh => absurd hh (by assumption))).symm | exact (if_neg (fun hh => absurd hh.1 (by assumption))).symm | exact (if_neg (fun hh => absurd hh.2 (by assumption))).symm | exact (if_neg (fun hh => absurd hh.1.1 (by assumption))).symm | exact (if_neg (fun hh => absurd hh.1.2 (by assumption))).symm | exact (if_neg (fun hh => absurd hh.2.1 (by assumption))).symm | exact (if_neg (fun hh => absurd hh.2.2 (by assumption))).symm | exact (if_neg (fun hh => absurd hh.2.2.1 (by assumption))).symm | exact (if_neg (fun hh => absurd hh.2.2.2 (by assumption))).symm | exact (if_neg (fun hh => absurd hh.2.2.2.1 (by assumption))).symm | exact (if_neg (fun hh => absurd hh.2.2.2.2 (by assumption))).symm | decide | (exfalso; simp only [zi_le, zi_lt, zi_eq, zi_n0, zi_n1, zi_n2, zi_n3, zi_n4, zi_n23, zi_n24, zi_n100, zi_n399, zi_n60, zi_n255, zi_n99, zi_nm1, zi_n30] at *; omega) | (simp_all; done)), ⟨by rw [ht]; exact hP, hD⟩⟩, hS.F ht⟩) hS.2.2 dX6_answer_23
        · skip
          refine lv_if_eq (tgt := 21) hx hb dX6_answer_11 (by decide) (fun c_31 => ?_) (fun c_31 => ?_)
          · skip
            exact absurd c_31 (by decide)
          · skip
            refine lv_iload_n hx hb dX6_answer_14 rfl (lv_at hl 3 rfl) ?_
            refine zc0_i (w := (zX k q 0 (-1) 12 100 0 (fun _ => 0) aps 0 ar1 ar2 ar3 ar4 ar5 ar6 ar7 ph pp py wy fa fb cm0 ia0 0 0 ih0 in0 il0 tx0 sh0 cm1 ia1 0 0 ih1 in1 il1 tx1 sh1 cm2 ia2 0 0 ih2 in2 il2 tx2 sh2 cm3 ia3 0 0 ih3 in3 il3 tx3 sh3 (-1) 0 it0 (-1) 0 it1 (-1) 0 it2 (-1) 0 it3)) (va_runS (As := [.int y]) (rest := []) ⟨hx, hb, hml, hown, hts⟩ (c_X6_isEither l dC dI k (zTX k) y _ ) (va_cwS 1 hts (gzS wmt2_48 wmt2_49 wmt1_1 wmt2_50) rfl rfl rfl (by decide +kernel) ⟨Nat.le_of_ble_eq_true rfl, Nat.le_of_ble_eq_true rfl⟩) (zp0_S hK) rfl rfl hl.1 rfl (lv_room (Nat.le_of_ble_eq_true rfl)) dX6_answer_15 ⟨Nat.le_of_ble_eq_true rfl, Nat.le_of_ble_eq_true rfl⟩) hP hS hA (fun r_32 u_33 H locs w_34 hP hS => ?_)
            rcases w_34 with ⟨e_36, h_35⟩ | ⟨e_38, h_37⟩
            · skip
              replace e_36 : r_32 = 1 := e_36
              subst e_36
              replace h_35 : 0 ≤ (y : Int32) ∧ (y : Int32) ≤ 1 := h_35
              refine lv_if_ne (tgt := 24) hx hb dX6_answer_18 (by decide) (fun c_39 => ?_) (fun c_39 => ?_)
              · skip
                refine lv_aload_n hx hb dX6_answer_24 rfl (lv_at hl 0 rfl) ?_
                refine va_get (D := (dC, dI)) (ci := 6) (v := .ref (q 1)) (C := RX6) (T := TX6) (N := 12) hx hb hts hi6 hown hK.1 hP 0 rfl rfl 0 (by decide) (hts _ wmt1_170) (fun _ h9 => h9) rfl dX6_answer_25 ?_
                refine lv_iload_n hx hb dX6_answer_28 rfl (lv_at hl 2 rfl) ?_
                refine va_aldq (D := (dC, dI)) hx hb hK.1 hP 1 3 rfl rfl (show ¬ _ by decide) dX6_answer_29 ?_
                refine z_top (v2 := .ref (q 19)) (rfl) ?_
                refine zcS_i (w := (zX k q 0 (-1) 12 100 0 (fun _ => 0) aps 0 ar1 ar2 ar3 ar4 ar5 ar6 ar7 ph pp py wy fa fb cm0 ia0 0 0 ih0 in0 il0 tx0 sh0 cm1 ia1 0 0 ih1 in1 il1 tx1 sh1 cm2 ia2 0 0 ih2 in2 il2 tx2 sh2 cm3 ia3 0 0 ih3 in3 il3 tx3 sh3 (-1) 0 it0 (-1) 0 it1 (-1) 0 it2 (-1) 0 it3)) (wc := (zDes k (q 19) (q 20) (q 21) tx1 sh1 cm1 ia1 0 0 ih1 in1 il1)) (va_runV (As := []) (rest := []) ⟨hx, hb, hml, hown, hts⟩ (c_X1_isFaulty l dC dI k (zTX k) (q 19) (q 20) (q 21) tx1 sh1 cm1 ia1 0 ih1 in1 il1 _ ) (cwV 0 hts (gzV wmt2_55 wmt2_20 wmt2_21 wmt1_6 wmt2_22) rfl rfl rfl (by decide +kernel) ⟨Nat.le_of_ble_eq_true rfl, Nat.le_of_ble_eq_true rfl⟩) (zp_V (ci := 1) (q0 := 19) hK hP hD [19, 20, 21] rfl rfl rfl rfl) rfl rfl hl.1 rfl (lv_room (Nat.le_of_ble_eq_true rfl)) dX6_answer_30 ⟨Nat.le_of_ble_eq_true rfl, Nat.le_of_ble_eq_true rfl⟩) hP hD hS hA [19, 20, 21] rfl (fun _ => rfl) (fun r_40 u_41 H locs w_42 hP hD hS => ?_)
                have hP : va_P (dC, dI) vwCl (zX k q 0 (-1) 12 100 0 (fun _ => 0) aps 0 ar1 ar2 ar3 ar4 ar5 ar6 ar7 ph pp py wy fa fb cm0 ia0 0 0 ih0 in0 il0 tx0 sh0 cm1 ia1 0 0 ih1 in1 il1 tx1 sh1 cm2 ia2 0 0 ih2 in2 il2 tx2 sh2 cm3 ia3 0 0 ih3 in3 il3 tx3 sh3 (-1) 0 it0 (-1) 0 it1 (-1) 0 it2 (-1) 0 it3) H := hP
                have hD : va_D A (zX k q 0 (-1) 12 100 0 (fun _ => 0) aps 0 ar1 ar2 ar3 ar4 ar5 ar6 ar7 ph pp py wy fa fb cm0 ia0 0 0 ih0 in0 il0 tx0 sh0 cm1 ia1 0 0 ih1 in1 il1 tx1 sh1 cm2 ia2 0 0 ih2 in2 il2 tx2 sh2 cm3 ia3 0 0 ih3 in3 il3 tx3 sh3 (-1) 0 it0 (-1) 0 it1 (-1) 0 it2 (-1) 0 it3) := hD
                have e_43 := w_42
                replace e_43 : r_40 = 1 := e_43
                subst e_43
                refine lv_if_eq (tgt := 39) hx hb dX6_answer_33 (by decide) (fun c_44 => ?_) (fun c_44 => ?_)
                · skip
                  exact absurd c_44 (by decide)
                · skip
                  refine lv_bipush (v := (-3)) hx hb dX6_answer_36 (by decide) ?_
                  exact W.iret (v := (-3)) hx hb hr (fun t ht hW => ⟨⟨(-3), (), rfl, (by first | assumption | with_reducible rfl | contradiction | exact (if_pos (by repeat' (first | assumption | decide | constructor))).symm | exact (if_neg (fun hh => absurd hh (by assumption))).symm | exact (if_neg (fun hh => absurd hh.1 (by assumption))).symm | exact (if_neg (fun hh => absurd hh.2 (by assumption))).symm | exact (if_neg (fun hh => absurd hh.1.1 (by assumption))).symm | exact (if_neg (fun hh => absurd hh.1.2 (by assumption))).symm | exact (if_neg (fun hh => absurd hh.2.1 (by assumption))).symm | exact (if_neg (fun hh => absurd hh.2.2 (by assumption))).symm | exact (if_neg (fun hh => absurd hh.2.2.1 (by assumption))).symm | exact (if_neg (fun hh => absurd hh.2.2.2 (by assumption))).symm | exact (if_neg (fun hh => absurd hh.2.2.2.1 (by assumption))).symm | exact (if_neg (fun hh => absurd hh.2.2.2.2 (by assumption))).symm | decide | (exfalso; simp only [zi_le, zi_lt, zi_eq, zi_n0, zi_n1, zi_n2, zi_n3, zi_n4, zi_n23, zi_n24, zi_n100, zi_n399, zi_n60, zi_n255, zi_n99, zi_nm1, zi_n30] at *; omega) | (simp_all; done)), ⟨by rw [ht]; exact hP, hD⟩⟩, hS.F ht⟩) hS.2.2 dX6_answer_38
              · skip
                exact absurd c_39 (by decide)
            · skip
              replace e_38 : r_32 = 0 := e_38
              subst e_38
              replace h_37 : ¬ (0 ≤ (y : Int32) ∧ (y : Int32) ≤ 1) := h_37
              refine lv_if_ne (tgt := 24) hx hb dX6_answer_18 (by decide) (fun c_45 => ?_) (fun c_45 => ?_)
              · skip
                exact absurd c_45 (by decide)
              · skip
                refine lv_bipush (v := (-2)) hx hb dX6_answer_21 (by decide) ?_
                exact W.iret (v := (-2)) hx hb hr (fun t ht hW => ⟨⟨(-2), (), rfl, (by first | assumption | with_reducible rfl | contradiction | exact (if_pos (by repeat' (first | assumption | decide | constructor))).symm | exact (if_neg (fun hh => absurd hh (by assumption))).symm | exact (if_neg (fun hh => absurd hh.1 (by assumption))).symm | exact (if_neg (fun hh => absurd hh.2 (by assumption))).symm | exact (if_neg (fun hh => absurd hh.1.1 (by assumption))).symm | exact (if_neg (fun hh => absurd hh.1.2 (by assumption))).symm | exact (if_neg (fun hh => absurd hh.2.1 (by assumption))).symm | exact (if_neg (fun hh => absurd hh.2.2 (by assumption))).symm | exact (if_neg (fun hh => absurd hh.2.2.1 (by assumption))).symm | exact (if_neg (fun hh => absurd hh.2.2.2 (by assumption))).symm | exact (if_neg (fun hh => absurd hh.2.2.2.1 (by assumption))).symm | exact (if_neg (fun hh => absurd hh.2.2.2.2 (by assumption))).symm | decide | (exfalso; simp only [zi_le, zi_lt, zi_eq, zi_n0, zi_n1, zi_n2, zi_n3, zi_n4, zi_n23, zi_n24, zi_n100, zi_n399, zi_n60, zi_n255, zi_n99, zi_nm1, zi_n30] at *; omega) | (simp_all; done)), ⟨by rw [ht]; exact hP, hD⟩⟩, hS.F ht⟩) hS.2.2 dX6_answer_23
        · skip
          refine lv_if_eq (tgt := 21) hx hb dX6_answer_11 (by decide) (fun c_46 => ?_) (fun c_46 => ?_)
          · skip
            exact absurd c_46 (by decide)
          · skip
            refine lv_iload_n hx hb dX6_answer_14 rfl (lv_at hl 3 rfl) ?_
            refine zc0_i (w := (zX k q 0 (-1) 12 100 0 (fun _ => 0) aps 0 ar1 ar2 ar3 ar4 ar5 ar6 ar7 ph pp py wy fa fb cm0 ia0 0 0 ih0 in0 il0 tx0 sh0 cm1 ia1 0 0 ih1 in1 il1 tx1 sh1 cm2 ia2 0 0 ih2 in2 il2 tx2 sh2 cm3 ia3 0 0 ih3 in3 il3 tx3 sh3 (-1) 0 it0 (-1) 0 it1 (-1) 0 it2 (-1) 0 it3)) (va_runS (As := [.int y]) (rest := []) ⟨hx, hb, hml, hown, hts⟩ (c_X6_isEither l dC dI k (zTX k) y _ ) (va_cwS 1 hts (gzS wmt2_48 wmt2_49 wmt1_1 wmt2_50) rfl rfl rfl (by decide +kernel) ⟨Nat.le_of_ble_eq_true rfl, Nat.le_of_ble_eq_true rfl⟩) (zp0_S hK) rfl rfl hl.1 rfl (lv_room (Nat.le_of_ble_eq_true rfl)) dX6_answer_15 ⟨Nat.le_of_ble_eq_true rfl, Nat.le_of_ble_eq_true rfl⟩) hP hS hA (fun r_47 u_48 H locs w_49 hP hS => ?_)
            rcases w_49 with ⟨e_51, h_50⟩ | ⟨e_53, h_52⟩
            · skip
              replace e_51 : r_47 = 1 := e_51
              subst e_51
              replace h_50 : 0 ≤ (y : Int32) ∧ (y : Int32) ≤ 1 := h_50
              refine lv_if_ne (tgt := 24) hx hb dX6_answer_18 (by decide) (fun c_54 => ?_) (fun c_54 => ?_)
              · skip
                refine lv_aload_n hx hb dX6_answer_24 rfl (lv_at hl 0 rfl) ?_
                refine va_get (D := (dC, dI)) (ci := 6) (v := .ref (q 1)) (C := RX6) (T := TX6) (N := 12) hx hb hts hi6 hown hK.1 hP 0 rfl rfl 0 (by decide) (hts _ wmt1_170) (fun _ h9 => h9) rfl dX6_answer_25 ?_
                refine lv_iload_n hx hb dX6_answer_28 rfl (lv_at hl 2 rfl) ?_
                refine va_aldq (D := (dC, dI)) hx hb hK.1 hP 1 3 rfl rfl (show ¬ _ by decide) dX6_answer_29 ?_
                refine z_top (v2 := .ref (q 22)) (rfl) ?_
                refine zcS_i (w := (zX k q 0 (-1) 12 100 0 (fun _ => 0) aps 0 ar1 ar2 ar3 ar4 ar5 ar6 ar7 ph pp py wy fa fb cm0 ia0 0 0 ih0 in0 il0 tx0 sh0 cm1 ia1 0 0 ih1 in1 il1 tx1 sh1 cm2 ia2 0 0 ih2 in2 il2 tx2 sh2 cm3 ia3 0 0 ih3 in3 il3 tx3 sh3 (-1) 0 it0 (-1) 0 it1 (-1) 0 it2 (-1) 0 it3)) (wc := (zDes k (q 22) (q 23) (q 24) tx2 sh2 cm2 ia2 0 0 ih2 in2 il2)) (va_runV (As := []) (rest := []) ⟨hx, hb, hml, hown, hts⟩ (c_X1_isFaulty l dC dI k (zTX k) (q 22) (q 23) (q 24) tx2 sh2 cm2 ia2 0 ih2 in2 il2 _ ) (cwV 0 hts (gzV wmt2_55 wmt2_20 wmt2_21 wmt1_6 wmt2_22) rfl rfl rfl (by decide +kernel) ⟨Nat.le_of_ble_eq_true rfl, Nat.le_of_ble_eq_true rfl⟩) (zp_V (ci := 1) (q0 := 22) hK hP hD [22, 23, 24] rfl rfl rfl rfl) rfl rfl hl.1 rfl (lv_room (Nat.le_of_ble_eq_true rfl)) dX6_answer_30 ⟨Nat.le_of_ble_eq_true rfl, Nat.le_of_ble_eq_true rfl⟩) hP hD hS hA [22, 23, 24] rfl (fun _ => rfl) (fun r_55 u_56 H locs w_57 hP hD hS => ?_)
                have hP : va_P (dC, dI) vwCl (zX k q 0 (-1) 12 100 0 (fun _ => 0) aps 0 ar1 ar2 ar3 ar4 ar5 ar6 ar7 ph pp py wy fa fb cm0 ia0 0 0 ih0 in0 il0 tx0 sh0 cm1 ia1 0 0 ih1 in1 il1 tx1 sh1 cm2 ia2 0 0 ih2 in2 il2 tx2 sh2 cm3 ia3 0 0 ih3 in3 il3 tx3 sh3 (-1) 0 it0 (-1) 0 it1 (-1) 0 it2 (-1) 0 it3) H := hP
                have hD : va_D A (zX k q 0 (-1) 12 100 0 (fun _ => 0) aps 0 ar1 ar2 ar3 ar4 ar5 ar6 ar7 ph pp py wy fa fb cm0 ia0 0 0 ih0 in0 il0 tx0 sh0 cm1 ia1 0 0 ih1 in1 il1 tx1 sh1 cm2 ia2 0 0 ih2 in2 il2 tx2 sh2 cm3 ia3 0 0 ih3 in3 il3 tx3 sh3 (-1) 0 it0 (-1) 0 it1 (-1) 0 it2 (-1) 0 it3) := hD
                have e_58 := w_57
                replace e_58 : r_55 = 1 := e_58
                subst e_58
                refine lv_if_eq (tgt := 39) hx hb dX6_answer_33 (by decide) (fun c_59 => ?_) (fun c_59 => ?_)
                · skip
                  exact absurd c_59 (by decide)
                · skip
                  refine lv_bipush (v := (-3)) hx hb dX6_answer_36 (by decide) ?_
                  exact W.iret (v := (-3)) hx hb hr (fun t ht hW => ⟨⟨(-3), (), rfl, (by first | assumption | with_reducible rfl | contradiction | exact (if_pos (by repeat' (first | assumption | decide | constructor))).symm | exact (if_neg (fun hh => absurd hh (by assumption))).symm | exact (if_neg (fun hh => absurd hh.1 (by assumption))).symm | exact (if_neg (fun hh => absurd hh.2 (by assumption))).symm | exact (if_neg (fun hh => absurd hh.1.1 (by assumption))).symm | exact (if_neg (fun hh => absurd hh.1.2 (by assumption))).symm | exact (if_neg (fun hh => absurd hh.2.1 (by assumption))).symm | exact (if_neg (fun hh => absurd hh.2.2 (by assumption))).symm | exact (if_neg (fun hh => absurd hh.2.2.1 (by assumption))).symm | exact (if_neg (fun hh => absurd hh.2.2.2 (by assumption))).symm | exact (if_neg (fun hh => absurd hh.2.2.2.1 (by assumption))).symm | exact (if_neg (fun hh => absurd hh.2.2.2.2 (by assumption))).symm | decide | (exfalso; simp only [zi_le, zi_lt, zi_eq, zi_n0, zi_n1, zi_n2, zi_n3, zi_n4, zi_n23, zi_n24, zi_n100, zi_n399, zi_n60, zi_n255, zi_n99, zi_nm1, zi_n30] at *; omega) | (simp_all; done)), ⟨by rw [ht]; exact hP, hD⟩⟩, hS.F ht⟩) hS.2.2 dX6_answer_38
              · skip
                exact absurd c_54 (by decide)
            · skip
              replace e_53 : r_47 = 0 := e_53
              subst e_53
              replace h_52 : ¬ (0 ≤ (y : Int32) ∧ (y : Int32) ≤ 1) := h_52
              refine lv_if_ne (tgt := 24) hx hb dX6_answer_18 (by decide) (fun c_60 => ?_) (fun c_60 => ?_)
              · skip
                exact absurd c_60 (by decide)
              · skip
                refine lv_bipush (v := (-2)) hx hb dX6_answer_21 (by decide) ?_
                exact W.iret (v := (-2)) hx hb hr (fun t ht hW => ⟨⟨(-2), (), rfl, (by first | assumption | with_reducible rfl | contradiction | exact (if_pos (by repeat' (first | assumption | decide | constructor))).symm | exact (if_neg (fun hh => absurd hh (by assumption))).symm | exact (if_neg (fun hh => absurd hh.1 (by assumption))).symm | exact (if_neg (fun hh => absurd hh.2 (by assumption))).symm | exact (if_neg (fun hh => absurd hh.1.1 (by assumption))).symm | exact (if_neg (fun hh => absurd hh.1.2 (by assumption))).symm | exact (if_neg (fun hh => absurd hh.2.1 (by assumption))).symm | exact (if_neg (fun hh => absurd hh.2.2 (by assumption))).symm | exact (if_neg (fun hh => absurd hh.2.2.1 (by assumption))).symm | exact (if_neg (fun hh => absurd hh.2.2.2 (by assumption))).symm | exact (if_neg (fun hh => absurd hh.2.2.2.1 (by assumption))).symm | exact (if_neg (fun hh => absurd hh.2.2.2.2 (by assumption))).symm | decide | (exfalso; simp only [zi_le, zi_lt, zi_eq, zi_n0, zi_n1, zi_n2, zi_n3, zi_n4, zi_n23, zi_n24, zi_n100, zi_n399, zi_n60, zi_n255, zi_n99, zi_nm1, zi_n30] at *; omega) | (simp_all; done)), ⟨by rw [ht]; exact hP, hD⟩⟩, hS.F ht⟩) hS.2.2 dX6_answer_23
        · skip
          refine lv_if_eq (tgt := 21) hx hb dX6_answer_11 (by decide) (fun c_61 => ?_) (fun c_61 => ?_)
          · skip
            exact absurd c_61 (by decide)
          · skip
            refine lv_iload_n hx hb dX6_answer_14 rfl (lv_at hl 3 rfl) ?_
            refine zc0_i (w := (zX k q 0 (-1) 12 100 0 (fun _ => 0) aps 0 ar1 ar2 ar3 ar4 ar5 ar6 ar7 ph pp py wy fa fb cm0 ia0 0 0 ih0 in0 il0 tx0 sh0 cm1 ia1 0 0 ih1 in1 il1 tx1 sh1 cm2 ia2 0 0 ih2 in2 il2 tx2 sh2 cm3 ia3 0 0 ih3 in3 il3 tx3 sh3 (-1) 0 it0 (-1) 0 it1 (-1) 0 it2 (-1) 0 it3)) (va_runS (As := [.int y]) (rest := []) ⟨hx, hb, hml, hown, hts⟩ (c_X6_isEither l dC dI k (zTX k) y _ ) (va_cwS 1 hts (gzS wmt2_48 wmt2_49 wmt1_1 wmt2_50) rfl rfl rfl (by decide +kernel) ⟨Nat.le_of_ble_eq_true rfl, Nat.le_of_ble_eq_true rfl⟩) (zp0_S hK) rfl rfl hl.1 rfl (lv_room (Nat.le_of_ble_eq_true rfl)) dX6_answer_15 ⟨Nat.le_of_ble_eq_true rfl, Nat.le_of_ble_eq_true rfl⟩) hP hS hA (fun r_62 u_63 H locs w_64 hP hS => ?_)
            rcases w_64 with ⟨e_66, h_65⟩ | ⟨e_68, h_67⟩
            · skip
              replace e_66 : r_62 = 1 := e_66
              subst e_66
              replace h_65 : 0 ≤ (y : Int32) ∧ (y : Int32) ≤ 1 := h_65
              refine lv_if_ne (tgt := 24) hx hb dX6_answer_18 (by decide) (fun c_69 => ?_) (fun c_69 => ?_)
              · skip
                refine lv_aload_n hx hb dX6_answer_24 rfl (lv_at hl 0 rfl) ?_
                refine va_get (D := (dC, dI)) (ci := 6) (v := .ref (q 1)) (C := RX6) (T := TX6) (N := 12) hx hb hts hi6 hown hK.1 hP 0 rfl rfl 0 (by decide) (hts _ wmt1_170) (fun _ h9 => h9) rfl dX6_answer_25 ?_
                refine lv_iload_n hx hb dX6_answer_28 rfl (lv_at hl 2 rfl) ?_
                refine va_aldq (D := (dC, dI)) hx hb hK.1 hP 1 3 rfl rfl (show ¬ _ by decide) dX6_answer_29 ?_
                refine z_top (v2 := .ref (q 25)) (rfl) ?_
                refine zcS_i (w := (zX k q 0 (-1) 12 100 0 (fun _ => 0) aps 0 ar1 ar2 ar3 ar4 ar5 ar6 ar7 ph pp py wy fa fb cm0 ia0 0 0 ih0 in0 il0 tx0 sh0 cm1 ia1 0 0 ih1 in1 il1 tx1 sh1 cm2 ia2 0 0 ih2 in2 il2 tx2 sh2 cm3 ia3 0 0 ih3 in3 il3 tx3 sh3 (-1) 0 it0 (-1) 0 it1 (-1) 0 it2 (-1) 0 it3)) (wc := (zDes k (q 25) (q 26) (q 27) tx3 sh3 cm3 ia3 0 0 ih3 in3 il3)) (va_runV (As := []) (rest := []) ⟨hx, hb, hml, hown, hts⟩ (c_X1_isFaulty l dC dI k (zTX k) (q 25) (q 26) (q 27) tx3 sh3 cm3 ia3 0 ih3 in3 il3 _ ) (cwV 0 hts (gzV wmt2_55 wmt2_20 wmt2_21 wmt1_6 wmt2_22) rfl rfl rfl (by decide +kernel) ⟨Nat.le_of_ble_eq_true rfl, Nat.le_of_ble_eq_true rfl⟩) (zp_V (ci := 1) (q0 := 25) hK hP hD [25, 26, 27] rfl rfl rfl rfl) rfl rfl hl.1 rfl (lv_room (Nat.le_of_ble_eq_true rfl)) dX6_answer_30 ⟨Nat.le_of_ble_eq_true rfl, Nat.le_of_ble_eq_true rfl⟩) hP hD hS hA [25, 26, 27] rfl (fun _ => rfl) (fun r_70 u_71 H locs w_72 hP hD hS => ?_)
                have hP : va_P (dC, dI) vwCl (zX k q 0 (-1) 12 100 0 (fun _ => 0) aps 0 ar1 ar2 ar3 ar4 ar5 ar6 ar7 ph pp py wy fa fb cm0 ia0 0 0 ih0 in0 il0 tx0 sh0 cm1 ia1 0 0 ih1 in1 il1 tx1 sh1 cm2 ia2 0 0 ih2 in2 il2 tx2 sh2 cm3 ia3 0 0 ih3 in3 il3 tx3 sh3 (-1) 0 it0 (-1) 0 it1 (-1) 0 it2 (-1) 0 it3) H := hP
                have hD : va_D A (zX k q 0 (-1) 12 100 0 (fun _ => 0) aps 0 ar1 ar2 ar3 ar4 ar5 ar6 ar7 ph pp py wy fa fb cm0 ia0 0 0 ih0 in0 il0 tx0 sh0 cm1 ia1 0 0 ih1 in1 il1 tx1 sh1 cm2 ia2 0 0 ih2 in2 il2 tx2 sh2 cm3 ia3 0 0 ih3 in3 il3 tx3 sh3 (-1) 0 it0 (-1) 0 it1 (-1) 0 it2 (-1) 0 it3) := hD
                have e_73 := w_72
                replace e_73 : r_70 = 1 := e_73
                subst e_73
                refine lv_if_eq (tgt := 39) hx hb dX6_answer_33 (by decide) (fun c_74 => ?_) (fun c_74 => ?_)
                · skip
                  exact absurd c_74 (by decide)
                · skip
                  refine lv_bipush (v := (-3)) hx hb dX6_answer_36 (by decide) ?_
                  exact W.iret (v := (-3)) hx hb hr (fun t ht hW => ⟨⟨(-3), (), rfl, (by first | assumption | with_reducible rfl | contradiction | exact (if_pos (by repeat' (first | assumption | decide | constructor))).symm | exact (if_neg (fun hh => absurd hh (by assumption))).symm | exact (if_neg (fun hh => absurd hh.1 (by assumption))).symm | exact (if_neg (fun hh => absurd hh.2 (by assumption))).symm | exact (if_neg (fun hh => absurd hh.1.1 (by assumption))).symm | exact (if_neg (fun hh => absurd hh.1.2 (by assumption))).symm | exact (if_neg (fun hh => absurd hh.2.1 (by assumption))).symm | exact (if_neg (fun hh => absurd hh.2.2 (by assumption))).symm | exact (if_neg (fun hh => absurd hh.2.2.1 (by assumption))).symm | exact (if_neg (fun hh => absurd hh.2.2.2 (by assumption))).symm | exact (if_neg (fun hh => absurd hh.2.2.2.1 (by assumption))).symm | exact (if_neg (fun hh => absurd hh.2.2.2.2 (by assumption))).symm | decide | (exfalso; simp only [zi_le, zi_lt, zi_eq, zi_n0, zi_n1, zi_n2, zi_n3, zi_n4, zi_n23, zi_n24, zi_n100, zi_n399, zi_n60, zi_n255, zi_n99, zi_nm1, zi_n30] at *; omega) | (simp_all; done)), ⟨by rw [ht]; exact hP, hD⟩⟩, hS.F ht⟩) hS.2.2 dX6_answer_38
              · skip
                exact absurd c_69 (by decide)
            · skip
              replace e_68 : r_62 = 0 := e_68
              subst e_68
              replace h_67 : ¬ (0 ≤ (y : Int32) ∧ (y : Int32) ≤ 1) := h_67
              refine lv_if_ne (tgt := 24) hx hb dX6_answer_18 (by decide) (fun c_75 => ?_) (fun c_75 => ?_)
              · skip
                exact absurd c_75 (by decide)
              · skip
                refine lv_bipush (v := (-2)) hx hb dX6_answer_21 (by decide) ?_
                exact W.iret (v := (-2)) hx hb hr (fun t ht hW => ⟨⟨(-2), (), rfl, (by first | assumption | with_reducible rfl | contradiction | exact (if_pos (by repeat' (first | assumption | decide | constructor))).symm | exact (if_neg (fun hh => absurd hh (by assumption))).symm | exact (if_neg (fun hh => absurd hh.1 (by assumption))).symm | exact (if_neg (fun hh => absurd hh.2 (by assumption))).symm | exact (if_neg (fun hh => absurd hh.1.1 (by assumption))).symm | exact (if_neg (fun hh => absurd hh.1.2 (by assumption))).symm | exact (if_neg (fun hh => absurd hh.2.1 (by assumption))).symm | exact (if_neg (fun hh => absurd hh.2.2 (by assumption))).symm | exact (if_neg (fun hh => absurd hh.2.2.1 (by assumption))).symm | exact (if_neg (fun hh => absurd hh.2.2.2 (by assumption))).symm | exact (if_neg (fun hh => absurd hh.2.2.2.1 (by assumption))).symm | exact (if_neg (fun hh => absurd hh.2.2.2.2 (by assumption))).symm | decide | (exfalso; simp only [zi_le, zi_lt, zi_eq, zi_n0, zi_n1, zi_n2, zi_n3, zi_n4, zi_n23, zi_n24, zi_n100, zi_n399, zi_n60, zi_n255, zi_n99, zi_nm1, zi_n30] at *; omega) | (simp_all; done)), ⟨by rw [ht]; exact hP, hD⟩⟩, hS.F ht⟩) hS.2.2 dX6_answer_23
      · skip
        replace e_15 : r_9 = 0 := e_15
        subst e_15
        replace h_14 : ¬ (0 ≤ (d : Int32) ∧ (d : Int32) ≤ 3) := h_14
        refine lv_if_eq (tgt := 21) hx hb dX6_answer_11 (by decide) (fun c_76 => ?_) (fun c_76 => ?_)
        · skip
          refine lv_bipush (v := (-2)) hx hb dX6_answer_21 (by decide) ?_
          exact W.iret (v := (-2)) hx hb hr (fun t ht hW => ⟨⟨(-2), (), rfl, (by first | assumption | with_reducible rfl | contradiction | exact (if_pos (by repeat' (first | assumption | decide | constructor))).symm | exact (if_neg (fun hh => absurd hh (by assumption))).symm | exact (if_neg (fun hh => absurd hh.1 (by assumption))).symm | exact (if_neg (fun hh => absurd hh.2 (by assumption))).symm | exact (if_neg (fun hh => absurd hh.1.1 (by assumption))).symm | exact (if_neg (fun hh => absurd hh.1.2 (by assumption))).symm | exact (if_neg (fun hh => absurd hh.2.1 (by assumption))).symm | exact (if_neg (fun hh => absurd hh.2.2 (by assumption))).symm | exact (if_neg (fun hh => absurd hh.2.2.1 (by assumption))).symm | exact (if_neg (fun hh => absurd hh.2.2.2 (by assumption))).symm | exact (if_neg (fun hh => absurd hh.2.2.2.1 (by assumption))).symm | exact (if_neg (fun hh => absurd hh.2.2.2.2 (by assumption))).symm | decide | (exfalso; simp only [zi_le, zi_lt, zi_eq, zi_n0, zi_n1, zi_n2, zi_n3, zi_n4, zi_n23, zi_n24, zi_n100, zi_n399, zi_n60, zi_n255, zi_n99, zi_nm1, zi_n30] at *; omega) | (simp_all; done)), ⟨by rw [ht]; exact hP, hD⟩⟩, hS.F ht⟩) hS.2.2 dX6_answer_23
        · skip
          exact absurd (by decide) c_76
  · skip
    replace e_7 : r_1 = 0 := e_7
    subst e_7
    replace h_6 : ¬ (0 ≤ (pe : Int32) ∧ (pe : Int32) ≤ 23) := h_6
    refine lv_if_eq (tgt := 21) hx hb dX6_answer_4 (by decide) (fun c_77 => ?_) (fun c_77 => ?_)
    · skip
      refine lv_bipush (v := (-2)) hx hb dX6_answer_21 (by decide) ?_
      exact W.iret (v := (-2)) hx hb hr (fun t ht hW => ⟨⟨(-2), (), rfl, (by first | assumption | with_reducible rfl | contradiction | exact (if_pos (by repeat' (first | assumption | decide | constructor))).symm | exact (if_neg (fun hh => absurd hh (by assumption))).symm | exact (if_neg (fun hh => absurd hh.1 (by assumption))).symm | exact (if_neg (fun hh => absurd hh.2 (by assumption))).symm | exact (if_neg (fun hh => absurd hh.1.1 (by assumption))).symm | exact (if_neg (fun hh => absurd hh.1.2 (by assumption))).symm | exact (if_neg (fun hh => absurd hh.2.1 (by assumption))).symm | exact (if_neg (fun hh => absurd hh.2.2 (by assumption))).symm | exact (if_neg (fun hh => absurd hh.2.2.1 (by assumption))).symm | exact (if_neg (fun hh => absurd hh.2.2.2 (by assumption))).symm | exact (if_neg (fun hh => absurd hh.2.2.2.1 (by assumption))).symm | exact (if_neg (fun hh => absurd hh.2.2.2.2 (by assumption))).symm | decide | (exfalso; simp only [zi_le, zi_lt, zi_eq, zi_n0, zi_n1, zi_n2, zi_n3, zi_n4, zi_n23, zi_n24, zi_n100, zi_n399, zi_n60, zi_n255, zi_n99, zi_nm1, zi_n30] at *; omega) | (simp_all; done)), ⟨by rw [ht]; exact hP, hD⟩⟩, hS.F ht⟩) hS.2.2 dX6_answer_23
    · skip
      exact absurd (by decide) c_77
set_option maxHeartbeats 4000000 in
set_option maxRecDepth 100000 in
theorem c_X6_read (l : Launch) (dC : Nat → ClassId) (dI : Nat → Nat → Nat) (k : Nat → ClassId)  (q : Nat → Nat) (aps : Int32) (ar1 : Nat → Int32) (ar2 : Nat → Int32) (ar3 : Nat → Int32) (ar4 : Nat → Int32) (ar5 : Nat → Int32) (ar6 : Nat → Int32) (ar7 : Nat → Int32) (ph : Int32) (pp : Int32) (py : Int32) (wy : Nat → Int64) (fa : Int64) (fb : Int64) (cm0 : Int64) (ia0 : Int32) (ih0 : Int32) (in0 : Int32) (il0 : Int32) (tx0 : Nat → Int32) (sh0 : Nat → Int64) (cm1 : Int64) (ia1 : Int32) (ih1 : Int32) (in1 : Int32) (il1 : Int32) (tx1 : Nat → Int32) (sh1 : Nat → Int64) (cm2 : Int64) (ia2 : Int32) (ih2 : Int32) (in2 : Int32) (il2 : Int32) (tx2 : Nat → Int32) (sh2 : Nat → Int64) (cm3 : Int64) (ia3 : Int32) (ih3 : Int32) (in3 : Int32) (il3 : Int32) (tx3 : Nat → Int32) (sh3 : Nat → Int64) (it0 : Nat → Int32) (it1 : Nat → Int32) (it2 : Nat → Int32) (it3 : Nat → Int32) (z : Int32) (d : Int32) (sz : Nat)  : Met l yX6_read (wz yX6_read cX6_read 8 (some .int)) ({ frames := 1, cells := 0, slots := 0, locals := 21 }) (va_Pc [.ref (q 0), .int z, .int d] (zPre dC dI k (zTX k) (zX k q 0 (-1) 12 100 0 (fun _ => 0) aps 0 ar1 ar2 ar3 ar4 ar5 ar6 ar7 ph pp py wy fa fb cm0 ia0 0 0 ih0 in0 il0 tx0 sh0 cm1 ia1 0 0 ih1 in1 il1 tx1 sh1 cm2 ia2 0 0 ih2 in2 il2 tx2 sh2 cm3 ia3 0 0 ih3 in3 il3 tx3 sh3 (-1) 0 it0 (-1) 0 it1 (-1) 0 it2 (-1) 0 it3) sz)) (va_Qi (fun (r : Int32) (u : Int32) => (r = if (0 ≤ (z : Int32) ∧ (z : Int32) ≤ 3) ∧ (0 ≤ (d : Int32) ∧ (d : Int32) ≤ 3) then (-11) else (-2))) (fun u t => zPost dC dI (va_A (zX k q 0 (-1) 12 100 0 (fun _ => 0) aps 0 ar1 ar2 ar3 ar4 ar5 ar6 ar7 ph pp py wy fa fb cm0 ia0 0 0 ih0 in0 il0 tx0 sh0 cm1 ia1 0 0 ih1 in1 il1 tx1 sh1 cm2 ia2 0 0 ih2 in2 il2 tx2 sh2 cm3 ia3 0 0 ih3 in3 il3 tx3 sh3 (-1) 0 it0 (-1) 0 it1 (-1) 0 it2 (-1) 0 it3) sz) (zX k q 0 (-1) 12 100 u (fun _ => 0) aps 0 ar1 ar2 ar3 ar4 ar5 ar6 ar7 ph pp py wy fa fb cm0 ia0 0 0 ih0 in0 il0 tx0 sh0 cm1 ia1 0 0 ih1 in1 il1 tx1 sh1 cm2 ia2 0 0 ih2 in2 il2 tx2 sh2 cm3 ia3 0 0 ih3 in3 il3 tx3 sh3 (-1) 0 it0 (-1) 0 it1 (-1) 0 it2 (-1) 0 it3) t) (va_A (zX k q 0 (-1) 12 100 0 (fun _ => 0) aps 0 ar1 ar2 ar3 ar4 ar5 ar6 ar7 ph pp py wy fa fb cm0 ia0 0 0 ih0 in0 il0 tx0 sh0 cm1 ia1 0 0 ih1 in1 il1 tx1 sh1 cm2 ia2 0 0 ih2 in2 il2 tx2 sh2 cm3 ia3 0 0 ih3 in3 il3 tx3 sh3 (-1) 0 it0 (-1) 0 it1 (-1) 0 it2 (-1) 0 it3) sz)) 0 0 (va_A (zX k q 0 (-1) 12 100 0 (fun _ => 0) aps 0 ar1 ar2 ar3 ar4 ar5 ar6 ar7 ph pp py wy fa fb cm0 ia0 0 0 ih0 in0 il0 tx0 sh0 cm1 ia1 0 0 ih1 in1 il1 tx1 sh1 cm2 ia2 0 0 ih2 in2 il2 tx2 sh2 cm3 ia3 0 0 ih3 in3 il3 tx3 sh3 (-1) 0 it0 (-1) 0 it1 (-1) 0 it2 (-1) 0 it3) sz) := by
  refine Met.ofW (cc := cX6_read) (maxL := 8) (ret := (some .int)) (by decide) rfl ?_
  intro p e s m args below meth c s₁ B hml hv
  obtain ⟨rfl, hsz, hP, hK, hD0⟩ := hv
  have hx := B.exec
  have hb := B.bytes
  have hr := B.returns
  have hts : ∀ w ∈ zw, w.before _ s = true := fun w h => atoms_spec (ws := (wz yX6_read cX6_read 8 (some .int))) B.pre w (List.mem_cons_of_mem _ h)
  have hown : s.vm.findClass RX6 = some m.cls := findClass_of_methodNamed B.named
  have hlocks := B.notSynchronized
  subst hsz
  have hi6 := inw6
  have hD := hD0.self (sz := s.heap.size)
  generalize hAe : va_A (zX k q 0 (-1) 12 100 0 (fun _ => 0) aps 0 ar1 ar2 ar3 ar4 ar5 ar6 ar7 ph pp py wy fa fb cm0 ia0 0 0 ih0 in0 il0 tx0 sh0 cm1 ia1 0 0 ih1 in1 il1 tx1 sh1 cm2 ia2 0 0 ih2 in2 il2 tx2 sh2 cm3 ia3 0 0 ih3 in3 il3 tx3 sh3 (-1) 0 it0 (-1) 0 it1 (-1) 0 it2 (-1) 0 it3) s.heap.size = A at hD ⊢
  have hA : ∀ q : Nat, s.heap.size ≤ q → A q := fun q h => by rw [← hAe]; exact Or.inr h
  have hl := lv_entry ([.ref (q 0), .int z, .int d]) (n := 8) (Nat.le_of_ble_eq_true rfl)
  rw [lg_entry_eq]
  generalize (lg_sl ([.ref (q 0), .int z, .int d]) ++ List.replicate (8 - (lg_sl ([.ref (q 0), .int z, .int d])).length) Slot.unset).toArray = ls at hl ⊢
  have hl : lv_has ls 8 [(0, .ref (q 0)), (1, .int z), (2, .int d)] := hl
  refine z_start (w := (zX k q 0 (-1) 12 100 0 (fun _ => 0) aps 0 ar1 ar2 ar3 ar4 ar5 ar6 ar7 ph pp py wy fa fb cm0 ia0 0 0 ih0 in0 il0 tx0 sh0 cm1 ia1 0 0 ih1 in1 il1 tx1 sh1 cm2 ia2 0 0 ih2 in2 il2 tx2 sh2 cm3 ia3 0 0 ih3 in3 il3 tx3 sh3 (-1) 0 it0 (-1) 0 it1 (-1) 0 it2 (-1) 0 it3)) hP hD (fun H locs hP hD hS => ?_)
  refine lv_iload_n hx hb dX6_read_0 rfl (lv_at hl 1 rfl) ?_
  refine zc0_i (w := (zX k q 0 (-1) 12 100 0 (fun _ => 0) aps 0 ar1 ar2 ar3 ar4 ar5 ar6 ar7 ph pp py wy fa fb cm0 ia0 0 0 ih0 in0 il0 tx0 sh0 cm1 ia1 0 0 ih1 in1 il1 tx1 sh1 cm2 ia2 0 0 ih2 in2 il2 tx2 sh2 cm3 ia3 0 0 ih3 in3 il3 tx3 sh3 (-1) 0 it0 (-1) 0 it1 (-1) 0 it2 (-1) 0 it3)) (va_runS (As := [.int z]) (rest := []) ⟨hx, hb, hml, hown, hts⟩ (c_X6_isSheet l dC dI k (zTX k) z _ ) (va_cwS 1 hts (gzS wmt2_95 wmt2_96 wmt1_1 wmt2_97) rfl rfl rfl (by decide +kernel) ⟨Nat.le_of_ble_eq_true rfl, Nat.le_of_ble_eq_true rfl⟩) (zp0_S hK) rfl rfl hl.1 rfl (lv_room (Nat.le_of_ble_eq_true rfl)) dX6_read_1 ⟨Nat.le_of_ble_eq_true rfl, Nat.le_of_ble_eq_true rfl⟩) hP hS hA (fun r_1 u_2 H locs w_3 hP hS => ?_)
  rcases w_3 with ⟨e_5, h_4⟩ | ⟨e_7, h_6⟩
  · skip
    replace e_5 : r_1 = 1 := e_5
    subst e_5
    replace h_4 : 0 ≤ (z : Int32) ∧ (z : Int32) ≤ 3 := h_4
    rcases zi_4 h_4 with rfl | rfl | rfl | rfl
    · skip
      refine lv_if_eq (tgt := 14) hx hb dX6_read_4 (by decide) (fun c_8 => ?_) (fun c_8 => ?_)
      · skip
        exact absurd c_8 (by decide)
      · skip
        refine lv_iload_n hx hb dX6_read_7 rfl (lv_at hl 2 rfl) ?_
        refine zc0_i (w := (zX k q 0 (-1) 12 100 0 (fun _ => 0) aps 0 ar1 ar2 ar3 ar4 ar5 ar6 ar7 ph pp py wy fa fb cm0 ia0 0 0 ih0 in0 il0 tx0 sh0 cm1 ia1 0 0 ih1 in1 il1 tx1 sh1 cm2 ia2 0 0 ih2 in2 il2 tx2 sh2 cm3 ia3 0 0 ih3 in3 il3 tx3 sh3 (-1) 0 it0 (-1) 0 it1 (-1) 0 it2 (-1) 0 it3)) (va_runS (As := [.int d]) (rest := []) ⟨hx, hb, hml, hown, hts⟩ (c_X6_isDesign l dC dI k (zTX k) d _ ) (va_cwS 1 hts (gzS wmt1_211 wmt1_212 wmt1_1 wmt1_213) rfl rfl rfl (by decide +kernel) ⟨Nat.le_of_ble_eq_true rfl, Nat.le_of_ble_eq_true rfl⟩) (zp0_S hK) rfl rfl hl.1 rfl (lv_room (Nat.le_of_ble_eq_true rfl)) dX6_read_8 ⟨Nat.le_of_ble_eq_true rfl, Nat.le_of_ble_eq_true rfl⟩) hP hS hA (fun r_9 u_10 H locs w_11 hP hS => ?_)
        rcases w_11 with ⟨e_13, h_12⟩ | ⟨e_15, h_14⟩
        · skip
          replace e_13 : r_9 = 1 := e_13
          subst e_13
          replace h_12 : 0 ≤ (d : Int32) ∧ (d : Int32) ≤ 3 := h_12
          refine lv_if_ne (tgt := 17) hx hb dX6_read_11 (by decide) (fun c_16 => ?_) (fun c_16 => ?_)
          · skip
            refine lv_aload_n hx hb dX6_read_17 rfl (lv_at hl 0 rfl) ?_
            refine va_get (D := (dC, dI)) (ci := 6) (v := .ref (q 2)) (C := RX6) (T := TX6) (N := 12) hx hb hts hi6 hown hK.1 hP 0 rfl rfl 1 (by decide) (hts _ wmt1_171) (fun _ h9 => h9) rfl dX6_read_18 ?_
            refine lv_iload_n hx hb dX6_read_21 rfl (lv_at hl 1 rfl) ?_
            refine va_aldq (D := (dC, dI)) hx hb hK.1 hP 2 4 rfl rfl (show ¬ _ by decide) dX6_read_22 ?_
            refine z_top (v2 := .ref (q 28)) (rfl) ?_
            refine lv_astore_n (lv' := [(3, .ref (q 28)), (0, .ref (q 0)), (1, .int 0), (2, .int d)]) hx hb dX6_read_23 rfl hl (by decide) rfl (fun ls hl => ?_)
            refine lv_aload_n hx hb dX6_read_24 rfl (lv_at hl 0 rfl) ?_
            refine zcS_i (w := (zX k q 0 (-1) 12 100 0 (fun _ => 0) aps 0 ar1 ar2 ar3 ar4 ar5 ar6 ar7 ph pp py wy fa fb cm0 ia0 0 0 ih0 in0 il0 tx0 sh0 cm1 ia1 0 0 ih1 in1 il1 tx1 sh1 cm2 ia2 0 0 ih2 in2 il2 tx2 sh2 cm3 ia3 0 0 ih3 in3 il3 tx3 sh3 (-1) 0 it0 (-1) 0 it1 (-1) 0 it2 (-1) 0 it3)) (wc := (zShe k (q 28) (q 29) it0 (-1) 0)) (va_runV (As := []) (rest := []) ⟨hx, hb, hml, hown, hts⟩ (c_X5_isLost l dC dI k (zTX k) (q 28) (q 29) it0 0 _ ) (cwV 0 hts (gzV wmt2_98 wmt2_99 wmt2_100 wmt1_7 wmt2_101) rfl rfl rfl (by decide +kernel) ⟨Nat.le_of_ble_eq_true rfl, Nat.le_of_ble_eq_true rfl⟩) (zp_V (ci := 5) (q0 := 28) hK hP hD [28, 29] rfl rfl rfl rfl) rfl rfl hl.1 rfl (lv_room (Nat.le_of_ble_eq_true rfl)) dX6_read_25 ⟨Nat.le_of_ble_eq_true rfl, Nat.le_of_ble_eq_true rfl⟩) hP hD hS hA [28, 29] rfl (fun _ => rfl) (fun r_17 u_18 H locs w_19 hP hD hS => ?_)
            have hP : va_P (dC, dI) vwCl (zX k q 0 (-1) 12 100 0 (fun _ => 0) aps 0 ar1 ar2 ar3 ar4 ar5 ar6 ar7 ph pp py wy fa fb cm0 ia0 0 0 ih0 in0 il0 tx0 sh0 cm1 ia1 0 0 ih1 in1 il1 tx1 sh1 cm2 ia2 0 0 ih2 in2 il2 tx2 sh2 cm3 ia3 0 0 ih3 in3 il3 tx3 sh3 (-1) 0 it0 (-1) 0 it1 (-1) 0 it2 (-1) 0 it3) H := hP
            have hD : va_D A (zX k q 0 (-1) 12 100 0 (fun _ => 0) aps 0 ar1 ar2 ar3 ar4 ar5 ar6 ar7 ph pp py wy fa fb cm0 ia0 0 0 ih0 in0 il0 tx0 sh0 cm1 ia1 0 0 ih1 in1 il1 tx1 sh1 cm2 ia2 0 0 ih2 in2 il2 tx2 sh2 cm3 ia3 0 0 ih3 in3 il3 tx3 sh3 (-1) 0 it0 (-1) 0 it1 (-1) 0 it2 (-1) 0 it3) := hD
            have e_20 := w_19
            replace e_20 : r_17 = 1 := e_20
            subst e_20
            refine lv_if_eq (tgt := 37) hx hb dX6_read_28 (by decide) (fun c_21 => ?_) (fun c_21 => ?_)
            · skip
              exact absurd c_21 (by decide)
            · skip
              refine lv_aload_n hx hb dX6_read_31 rfl (lv_at hl 1 rfl) ?_
              refine lv_iconst (v := 1) hx hb dX6_read_32 (by decide) ?_
              refine zcA_i (w := (zX k q 0 (-1) 12 100 0 (fun _ => 0) aps 0 ar1 ar2 ar3 ar4 ar5 ar6 ar7 ph pp py wy fa fb cm0 ia0 0 0 ih0 in0 il0 tx0 sh0 cm1 ia1 0 0 ih1 in1 il1 tx1 sh1 cm2 ia2 0 0 ih2 in2 il2 tx2 sh2 cm3 ia3 0 0 ih3 in3 il3 tx3 sh3 (-1) 0 it0 (-1) 0 it1 (-1) 0 it2 (-1) 0 it3)) (va_runV (As := [.int 1]) (rest := []) ⟨hx, hb, hml, hown, hts⟩ (c_X6_found_1 l dC dI k  q aps ar1 ar2 ar3 ar4 ar5 ar6 ar7 ph pp py wy fa fb cm0 ia0 ih0 in0 il0 tx0 sh0 cm1 ia1 ih1 in1 il1 tx1 sh1 cm2 ia2 ih2 in2 il2 tx2 sh2 cm3 ia3 ih3 in3 il3 tx3 sh3 it0 it1 it2 it3 _ ) (cwV 1 hts (gzV wmt2_102 wmt2_104 wmp1_7 wmt1_1 wmt2_105) rfl rfl rfl (by decide +kernel) ⟨Nat.le_of_ble_eq_true rfl, Nat.le_of_ble_eq_true rfl⟩) (zpA_V (ci := 6) (q0 := 0) hK hP hD rfl rfl) rfl rfl hl.1 rfl (lv_room (Nat.le_of_ble_eq_true rfl)) dX6_read_33 ⟨Nat.le_of_ble_eq_true rfl, Nat.le_of_ble_eq_true rfl⟩) hD hS hA (fun r_22 u_23 H locs w_24 hP hD hS => ?_)
              obtain ⟨oxfi_25, rfl⟩ : ∃ z, z = u_23 := ⟨_, rfl⟩
              have hP : va_P (dC, dI) vwCl (zX k q 0 (-1) 12 100 oxfi_25 (fun _ => 0) aps 0 ar1 ar2 ar3 ar4 ar5 ar6 ar7 ph pp py wy fa fb cm0 ia0 0 0 ih0 in0 il0 tx0 sh0 cm1 ia1 0 0 ih1 in1 il1 tx1 sh1 cm2 ia2 0 0 ih2 in2 il2 tx2 sh2 cm3 ia3 0 0 ih3 in3 il3 tx3 sh3 (-1) 0 it0 (-1) 0 it1 (-1) 0 it2 (-1) 0 it3) H := hP
              have hD : va_D A (zX k q 0 (-1) 12 100 oxfi_25 (fun _ => 0) aps 0 ar1 ar2 ar3 ar4 ar5 ar6 ar7 ph pp py wy fa fb cm0 ia0 0 0 ih0 in0 il0 tx0 sh0 cm1 ia1 0 0 ih1 in1 il1 tx1 sh1 cm2 ia2 0 0 ih2 in2 il2 tx2 sh2 cm3 ia3 0 0 ih3 in3 il3 tx3 sh3 (-1) 0 it0 (-1) 0 it1 (-1) 0 it2 (-1) 0 it3) := hD
              have e_26 := w_24
              replace e_26 : r_22 = (-11) := e_26
              subst e_26
              exact W.iret (v := (-11)) hx hb hr (fun t ht hW => ⟨⟨(-11), (oxfi_25), rfl, (by first | assumption | with_reducible rfl | contradiction | exact (if_pos (by repeat' (first | assumption | decide | constructor))).symm | exact (if_neg (fun hh => absurd hh (by assumption))).symm | exact (if_neg (fun hh => absurd hh.1 (by assumption))).symm | exact (if_neg (fun hh => absurd hh.2 (by assumption))).symm | exact (if_neg (fun hh => absurd hh.1.1 (by assumption))).symm | exact (if_neg (fun hh => absurd hh.1.2 (by assumption))).symm | exact (if_neg (fun hh => absurd hh.2.1 (by assumption))).symm | exact (if_neg (fun hh => absurd hh.2.2 (by assumption))).symm | exact (if_neg (fun hh => absurd hh.2.2.1 (by assumption))).symm | exact (if_neg (fun hh => absurd hh.2.2.2 (by assumption))).symm | exact (if_neg (fun hh => absurd hh.2.2.2.1 (by assumption))).symm | exact (if_neg (fun hh => absurd hh.2.2.2.2 (by assumption))).symm | decide | (exfalso; simp only [zi_le, zi_lt, zi_eq, zi_n0, zi_n1, zi_n2, zi_n3, zi_n4, zi_n23, zi_n24, zi_n100, zi_n399, zi_n60, zi_n255, zi_n99, zi_nm1, zi_n30] at *; omega) | (simp_all; done)), ⟨by rw [ht]; exact hP, hD⟩⟩, hS.F ht⟩) hS.2.2 dX6_read_36
          · skip
            exact absurd c_16 (by decide)
        · skip
          replace e_15 : r_9 = 0 := e_15
          subst e_15
          replace h_14 : ¬ (0 ≤ (d : Int32) ∧ (d : Int32) ≤ 3) := h_14
          refine lv_if_ne (tgt := 17) hx hb dX6_read_11 (by decide) (fun c_27 => ?_) (fun c_27 => ?_)
          · skip
            exact absurd c_27 (by decide)
          · skip
            refine lv_bipush (v := (-2)) hx hb dX6_read_14 (by decide) ?_
            exact W.iret (v := (-2)) hx hb hr (fun t ht hW => ⟨⟨(-2), (0), rfl, (by first | assumption | with_reducible rfl | contradiction | exact (if_pos (by repeat' (first | assumption | decide | constructor))).symm | exact (if_neg (fun hh => absurd hh (by assumption))).symm | exact (if_neg (fun hh => absurd hh.1 (by assumption))).symm | exact (if_neg (fun hh => absurd hh.2 (by assumption))).symm | exact (if_neg (fun hh => absurd hh.1.1 (by assumption))).symm | exact (if_neg (fun hh => absurd hh.1.2 (by assumption))).symm | exact (if_neg (fun hh => absurd hh.2.1 (by assumption))).symm | exact (if_neg (fun hh => absurd hh.2.2 (by assumption))).symm | exact (if_neg (fun hh => absurd hh.2.2.1 (by assumption))).symm | exact (if_neg (fun hh => absurd hh.2.2.2 (by assumption))).symm | exact (if_neg (fun hh => absurd hh.2.2.2.1 (by assumption))).symm | exact (if_neg (fun hh => absurd hh.2.2.2.2 (by assumption))).symm | decide | (exfalso; simp only [zi_le, zi_lt, zi_eq, zi_n0, zi_n1, zi_n2, zi_n3, zi_n4, zi_n23, zi_n24, zi_n100, zi_n399, zi_n60, zi_n255, zi_n99, zi_nm1, zi_n30] at *; omega) | (simp_all; done)), ⟨by rw [ht]; exact hP, hD⟩⟩, hS.F ht⟩) hS.2.2 dX6_read_16
    · skip
      refine lv_if_eq (tgt := 14) hx hb dX6_read_4 (by decide) (fun c_28 => ?_) (fun c_28 => ?_)
      · skip
        exact absurd c_28 (by decide)
      · skip
        refine lv_iload_n hx hb dX6_read_7 rfl (lv_at hl 2 rfl) ?_
        refine zc0_i (w := (zX k q 0 (-1) 12 100 0 (fun _ => 0) aps 0 ar1 ar2 ar3 ar4 ar5 ar6 ar7 ph pp py wy fa fb cm0 ia0 0 0 ih0 in0 il0 tx0 sh0 cm1 ia1 0 0 ih1 in1 il1 tx1 sh1 cm2 ia2 0 0 ih2 in2 il2 tx2 sh2 cm3 ia3 0 0 ih3 in3 il3 tx3 sh3 (-1) 0 it0 (-1) 0 it1 (-1) 0 it2 (-1) 0 it3)) (va_runS (As := [.int d]) (rest := []) ⟨hx, hb, hml, hown, hts⟩ (c_X6_isDesign l dC dI k (zTX k) d _ ) (va_cwS 1 hts (gzS wmt1_211 wmt1_212 wmt1_1 wmt1_213) rfl rfl rfl (by decide +kernel) ⟨Nat.le_of_ble_eq_true rfl, Nat.le_of_ble_eq_true rfl⟩) (zp0_S hK) rfl rfl hl.1 rfl (lv_room (Nat.le_of_ble_eq_true rfl)) dX6_read_8 ⟨Nat.le_of_ble_eq_true rfl, Nat.le_of_ble_eq_true rfl⟩) hP hS hA (fun r_29 u_30 H locs w_31 hP hS => ?_)
        rcases w_31 with ⟨e_33, h_32⟩ | ⟨e_35, h_34⟩
        · skip
          replace e_33 : r_29 = 1 := e_33
          subst e_33
          replace h_32 : 0 ≤ (d : Int32) ∧ (d : Int32) ≤ 3 := h_32
          refine lv_if_ne (tgt := 17) hx hb dX6_read_11 (by decide) (fun c_36 => ?_) (fun c_36 => ?_)
          · skip
            refine lv_aload_n hx hb dX6_read_17 rfl (lv_at hl 0 rfl) ?_
            refine va_get (D := (dC, dI)) (ci := 6) (v := .ref (q 2)) (C := RX6) (T := TX6) (N := 12) hx hb hts hi6 hown hK.1 hP 0 rfl rfl 1 (by decide) (hts _ wmt1_171) (fun _ h9 => h9) rfl dX6_read_18 ?_
            refine lv_iload_n hx hb dX6_read_21 rfl (lv_at hl 1 rfl) ?_
            refine va_aldq (D := (dC, dI)) hx hb hK.1 hP 2 4 rfl rfl (show ¬ _ by decide) dX6_read_22 ?_
            refine z_top (v2 := .ref (q 30)) (rfl) ?_
            refine lv_astore_n (lv' := [(3, .ref (q 30)), (0, .ref (q 0)), (1, .int 1), (2, .int d)]) hx hb dX6_read_23 rfl hl (by decide) rfl (fun ls hl => ?_)
            refine lv_aload_n hx hb dX6_read_24 rfl (lv_at hl 0 rfl) ?_
            refine zcS_i (w := (zX k q 0 (-1) 12 100 0 (fun _ => 0) aps 0 ar1 ar2 ar3 ar4 ar5 ar6 ar7 ph pp py wy fa fb cm0 ia0 0 0 ih0 in0 il0 tx0 sh0 cm1 ia1 0 0 ih1 in1 il1 tx1 sh1 cm2 ia2 0 0 ih2 in2 il2 tx2 sh2 cm3 ia3 0 0 ih3 in3 il3 tx3 sh3 (-1) 0 it0 (-1) 0 it1 (-1) 0 it2 (-1) 0 it3)) (wc := (zShe k (q 30) (q 31) it1 (-1) 0)) (va_runV (As := []) (rest := []) ⟨hx, hb, hml, hown, hts⟩ (c_X5_isLost l dC dI k (zTX k) (q 30) (q 31) it1 0 _ ) (cwV 0 hts (gzV wmt2_98 wmt2_99 wmt2_100 wmt1_7 wmt2_101) rfl rfl rfl (by decide +kernel) ⟨Nat.le_of_ble_eq_true rfl, Nat.le_of_ble_eq_true rfl⟩) (zp_V (ci := 5) (q0 := 30) hK hP hD [30, 31] rfl rfl rfl rfl) rfl rfl hl.1 rfl (lv_room (Nat.le_of_ble_eq_true rfl)) dX6_read_25 ⟨Nat.le_of_ble_eq_true rfl, Nat.le_of_ble_eq_true rfl⟩) hP hD hS hA [30, 31] rfl (fun _ => rfl) (fun r_37 u_38 H locs w_39 hP hD hS => ?_)
            have hP : va_P (dC, dI) vwCl (zX k q 0 (-1) 12 100 0 (fun _ => 0) aps 0 ar1 ar2 ar3 ar4 ar5 ar6 ar7 ph pp py wy fa fb cm0 ia0 0 0 ih0 in0 il0 tx0 sh0 cm1 ia1 0 0 ih1 in1 il1 tx1 sh1 cm2 ia2 0 0 ih2 in2 il2 tx2 sh2 cm3 ia3 0 0 ih3 in3 il3 tx3 sh3 (-1) 0 it0 (-1) 0 it1 (-1) 0 it2 (-1) 0 it3) H := hP
            have hD : va_D A (zX k q 0 (-1) 12 100 0 (fun _ => 0) aps 0 ar1 ar2 ar3 ar4 ar5 ar6 ar7 ph pp py wy fa fb cm0 ia0 0 0 ih0 in0 il0 tx0 sh0 cm1 ia1 0 0 ih1 in1 il1 tx1 sh1 cm2 ia2 0 0 ih2 in2 il2 tx2 sh2 cm3 ia3 0 0 ih3 in3 il3 tx3 sh3 (-1) 0 it0 (-1) 0 it1 (-1) 0 it2 (-1) 0 it3) := hD
            have e_40 := w_39
            replace e_40 : r_37 = 1 := e_40
            subst e_40
            refine lv_if_eq (tgt := 37) hx hb dX6_read_28 (by decide) (fun c_41 => ?_) (fun c_41 => ?_)
            · skip
              exact absurd c_41 (by decide)
            · skip
              refine lv_aload_n hx hb dX6_read_31 rfl (lv_at hl 1 rfl) ?_
              refine lv_iconst (v := 1) hx hb dX6_read_32 (by decide) ?_
              refine zcA_i (w := (zX k q 0 (-1) 12 100 0 (fun _ => 0) aps 0 ar1 ar2 ar3 ar4 ar5 ar6 ar7 ph pp py wy fa fb cm0 ia0 0 0 ih0 in0 il0 tx0 sh0 cm1 ia1 0 0 ih1 in1 il1 tx1 sh1 cm2 ia2 0 0 ih2 in2 il2 tx2 sh2 cm3 ia3 0 0 ih3 in3 il3 tx3 sh3 (-1) 0 it0 (-1) 0 it1 (-1) 0 it2 (-1) 0 it3)) (va_runV (As := [.int 1]) (rest := []) ⟨hx, hb, hml, hown, hts⟩ (c_X6_found_1 l dC dI k  q aps ar1 ar2 ar3 ar4 ar5 ar6 ar7 ph pp py wy fa fb cm0 ia0 ih0 in0 il0 tx0 sh0 cm1 ia1 ih1 in1 il1 tx1 sh1 cm2 ia2 ih2 in2 il2 tx2 sh2 cm3 ia3 ih3 in3 il3 tx3 sh3 it0 it1 it2 it3 _ ) (cwV 1 hts (gzV wmt2_102 wmt2_104 wmp1_7 wmt1_1 wmt2_105) rfl rfl rfl (by decide +kernel) ⟨Nat.le_of_ble_eq_true rfl, Nat.le_of_ble_eq_true rfl⟩) (zpA_V (ci := 6) (q0 := 0) hK hP hD rfl rfl) rfl rfl hl.1 rfl (lv_room (Nat.le_of_ble_eq_true rfl)) dX6_read_33 ⟨Nat.le_of_ble_eq_true rfl, Nat.le_of_ble_eq_true rfl⟩) hD hS hA (fun r_42 u_43 H locs w_44 hP hD hS => ?_)
              obtain ⟨oxfi_45, rfl⟩ : ∃ z, z = u_43 := ⟨_, rfl⟩
              have hP : va_P (dC, dI) vwCl (zX k q 0 (-1) 12 100 oxfi_45 (fun _ => 0) aps 0 ar1 ar2 ar3 ar4 ar5 ar6 ar7 ph pp py wy fa fb cm0 ia0 0 0 ih0 in0 il0 tx0 sh0 cm1 ia1 0 0 ih1 in1 il1 tx1 sh1 cm2 ia2 0 0 ih2 in2 il2 tx2 sh2 cm3 ia3 0 0 ih3 in3 il3 tx3 sh3 (-1) 0 it0 (-1) 0 it1 (-1) 0 it2 (-1) 0 it3) H := hP
              have hD : va_D A (zX k q 0 (-1) 12 100 oxfi_45 (fun _ => 0) aps 0 ar1 ar2 ar3 ar4 ar5 ar6 ar7 ph pp py wy fa fb cm0 ia0 0 0 ih0 in0 il0 tx0 sh0 cm1 ia1 0 0 ih1 in1 il1 tx1 sh1 cm2 ia2 0 0 ih2 in2 il2 tx2 sh2 cm3 ia3 0 0 ih3 in3 il3 tx3 sh3 (-1) 0 it0 (-1) 0 it1 (-1) 0 it2 (-1) 0 it3) := hD
              have e_46 := w_44
              replace e_46 : r_42 = (-11) := e_46
              subst e_46
              exact W.iret (v := (-11)) hx hb hr (fun t ht hW => ⟨⟨(-11), (oxfi_45), rfl, (by first | assumption | with_reducible rfl | contradiction | exact (if_pos (by repeat' (first | assumption | decide | constructor))).symm | exact (if_neg (fun hh => absurd hh (by assumption))).symm | exact (if_neg (fun hh => absurd hh.1 (by assumption))).symm | exact (if_neg (fun hh => absurd hh.2 (by assumption))).symm | exact (if_neg (fun hh => absurd hh.1.1 (by assumption))).symm | exact (if_neg (fun hh => absurd hh.1.2 (by assumption))).symm | exact (if_neg (fun hh => absurd hh.2.1 (by assumption))).symm | exact (if_neg (fun hh => absurd hh.2.2 (by assumption))).symm | exact (if_neg (fun hh => absurd hh.2.2.1 (by assumption))).symm | exact (if_neg (fun hh => absurd hh.2.2.2 (by assumption))).symm | exact (if_neg (fun hh => absurd hh.2.2.2.1 (by assumption))).symm | exact (if_neg (fun hh => absurd hh.2.2.2.2 (by assumption))).symm | decide | (exfalso; simp only [zi_le, zi_lt, zi_eq, zi_n0, zi_n1, zi_n2, zi_n3, zi_n4, zi_n23, zi_n24, zi_n100, zi_n399, zi_n60, zi_n255, zi_n99, zi_nm1, zi_n30] at *; omega) | (simp_all; done)), ⟨by rw [ht]; exact hP, hD⟩⟩, hS.F ht⟩) hS.2.2 dX6_read_36
          · skip
            exact absurd c_36 (by decide)
        · skip
          replace e_35 : r_29 = 0 := e_35
          subst e_35
          replace h_34 : ¬ (0 ≤ (d : Int32) ∧ (d : Int32) ≤ 3) := h_34
          refine lv_if_ne (tgt := 17) hx hb dX6_read_11 (by decide) (fun c_47 => ?_) (fun c_47 => ?_)
          · skip
            exact absurd c_47 (by decide)
          · skip
            refine lv_bipush (v := (-2)) hx hb dX6_read_14 (by decide) ?_
            exact W.iret (v := (-2)) hx hb hr (fun t ht hW => ⟨⟨(-2), (0), rfl, (by first | assumption | with_reducible rfl | contradiction | exact (if_pos (by repeat' (first | assumption | decide | constructor))).symm | exact (if_neg (fun hh => absurd hh (by assumption))).symm | exact (if_neg (fun hh => absurd hh.1 (by assumption))).symm | exact (if_neg (fun hh => absurd hh.2 (by assumption))).symm | exact (if_neg (fun hh => absurd hh.1.1 (by assumption))).symm | exact (if_neg (fun hh => absurd hh.1.2 (by assumption))).symm | exact (if_neg (fun hh => absurd hh.2.1 (by assumption))).symm | exact (if_neg (fun hh => absurd hh.2.2 (by assumption))).symm | exact (if_neg (fun hh => absurd hh.2.2.1 (by assumption))).symm | exact (if_neg (fun hh => absurd hh.2.2.2 (by assumption))).symm | exact (if_neg (fun hh => absurd hh.2.2.2.1 (by assumption))).symm | exact (if_neg (fun hh => absurd hh.2.2.2.2 (by assumption))).symm | decide | (exfalso; simp only [zi_le, zi_lt, zi_eq, zi_n0, zi_n1, zi_n2, zi_n3, zi_n4, zi_n23, zi_n24, zi_n100, zi_n399, zi_n60, zi_n255, zi_n99, zi_nm1, zi_n30] at *; omega) | (simp_all; done)), ⟨by rw [ht]; exact hP, hD⟩⟩, hS.F ht⟩) hS.2.2 dX6_read_16
    · skip
      refine lv_if_eq (tgt := 14) hx hb dX6_read_4 (by decide) (fun c_48 => ?_) (fun c_48 => ?_)
      · skip
        exact absurd c_48 (by decide)
      · skip
        refine lv_iload_n hx hb dX6_read_7 rfl (lv_at hl 2 rfl) ?_
        refine zc0_i (w := (zX k q 0 (-1) 12 100 0 (fun _ => 0) aps 0 ar1 ar2 ar3 ar4 ar5 ar6 ar7 ph pp py wy fa fb cm0 ia0 0 0 ih0 in0 il0 tx0 sh0 cm1 ia1 0 0 ih1 in1 il1 tx1 sh1 cm2 ia2 0 0 ih2 in2 il2 tx2 sh2 cm3 ia3 0 0 ih3 in3 il3 tx3 sh3 (-1) 0 it0 (-1) 0 it1 (-1) 0 it2 (-1) 0 it3)) (va_runS (As := [.int d]) (rest := []) ⟨hx, hb, hml, hown, hts⟩ (c_X6_isDesign l dC dI k (zTX k) d _ ) (va_cwS 1 hts (gzS wmt1_211 wmt1_212 wmt1_1 wmt1_213) rfl rfl rfl (by decide +kernel) ⟨Nat.le_of_ble_eq_true rfl, Nat.le_of_ble_eq_true rfl⟩) (zp0_S hK) rfl rfl hl.1 rfl (lv_room (Nat.le_of_ble_eq_true rfl)) dX6_read_8 ⟨Nat.le_of_ble_eq_true rfl, Nat.le_of_ble_eq_true rfl⟩) hP hS hA (fun r_49 u_50 H locs w_51 hP hS => ?_)
        rcases w_51 with ⟨e_53, h_52⟩ | ⟨e_55, h_54⟩
        · skip
          replace e_53 : r_49 = 1 := e_53
          subst e_53
          replace h_52 : 0 ≤ (d : Int32) ∧ (d : Int32) ≤ 3 := h_52
          refine lv_if_ne (tgt := 17) hx hb dX6_read_11 (by decide) (fun c_56 => ?_) (fun c_56 => ?_)
          · skip
            refine lv_aload_n hx hb dX6_read_17 rfl (lv_at hl 0 rfl) ?_
            refine va_get (D := (dC, dI)) (ci := 6) (v := .ref (q 2)) (C := RX6) (T := TX6) (N := 12) hx hb hts hi6 hown hK.1 hP 0 rfl rfl 1 (by decide) (hts _ wmt1_171) (fun _ h9 => h9) rfl dX6_read_18 ?_
            refine lv_iload_n hx hb dX6_read_21 rfl (lv_at hl 1 rfl) ?_
            refine va_aldq (D := (dC, dI)) hx hb hK.1 hP 2 4 rfl rfl (show ¬ _ by decide) dX6_read_22 ?_
            refine z_top (v2 := .ref (q 32)) (rfl) ?_
            refine lv_astore_n (lv' := [(3, .ref (q 32)), (0, .ref (q 0)), (1, .int 2), (2, .int d)]) hx hb dX6_read_23 rfl hl (by decide) rfl (fun ls hl => ?_)
            refine lv_aload_n hx hb dX6_read_24 rfl (lv_at hl 0 rfl) ?_
            refine zcS_i (w := (zX k q 0 (-1) 12 100 0 (fun _ => 0) aps 0 ar1 ar2 ar3 ar4 ar5 ar6 ar7 ph pp py wy fa fb cm0 ia0 0 0 ih0 in0 il0 tx0 sh0 cm1 ia1 0 0 ih1 in1 il1 tx1 sh1 cm2 ia2 0 0 ih2 in2 il2 tx2 sh2 cm3 ia3 0 0 ih3 in3 il3 tx3 sh3 (-1) 0 it0 (-1) 0 it1 (-1) 0 it2 (-1) 0 it3)) (wc := (zShe k (q 32) (q 33) it2 (-1) 0)) (va_runV (As := []) (rest := []) ⟨hx, hb, hml, hown, hts⟩ (c_X5_isLost l dC dI k (zTX k) (q 32) (q 33) it2 0 _ ) (cwV 0 hts (gzV wmt2_98 wmt2_99 wmt2_100 wmt1_7 wmt2_101) rfl rfl rfl (by decide +kernel) ⟨Nat.le_of_ble_eq_true rfl, Nat.le_of_ble_eq_true rfl⟩) (zp_V (ci := 5) (q0 := 32) hK hP hD [32, 33] rfl rfl rfl rfl) rfl rfl hl.1 rfl (lv_room (Nat.le_of_ble_eq_true rfl)) dX6_read_25 ⟨Nat.le_of_ble_eq_true rfl, Nat.le_of_ble_eq_true rfl⟩) hP hD hS hA [32, 33] rfl (fun _ => rfl) (fun r_57 u_58 H locs w_59 hP hD hS => ?_)
            have hP : va_P (dC, dI) vwCl (zX k q 0 (-1) 12 100 0 (fun _ => 0) aps 0 ar1 ar2 ar3 ar4 ar5 ar6 ar7 ph pp py wy fa fb cm0 ia0 0 0 ih0 in0 il0 tx0 sh0 cm1 ia1 0 0 ih1 in1 il1 tx1 sh1 cm2 ia2 0 0 ih2 in2 il2 tx2 sh2 cm3 ia3 0 0 ih3 in3 il3 tx3 sh3 (-1) 0 it0 (-1) 0 it1 (-1) 0 it2 (-1) 0 it3) H := hP
            have hD : va_D A (zX k q 0 (-1) 12 100 0 (fun _ => 0) aps 0 ar1 ar2 ar3 ar4 ar5 ar6 ar7 ph pp py wy fa fb cm0 ia0 0 0 ih0 in0 il0 tx0 sh0 cm1 ia1 0 0 ih1 in1 il1 tx1 sh1 cm2 ia2 0 0 ih2 in2 il2 tx2 sh2 cm3 ia3 0 0 ih3 in3 il3 tx3 sh3 (-1) 0 it0 (-1) 0 it1 (-1) 0 it2 (-1) 0 it3) := hD
            have e_60 := w_59
            replace e_60 : r_57 = 1 := e_60
            subst e_60
            refine lv_if_eq (tgt := 37) hx hb dX6_read_28 (by decide) (fun c_61 => ?_) (fun c_61 => ?_)
            · skip
              exact absurd c_61 (by decide)
            · skip
              refine lv_aload_n hx hb dX6_read_31 rfl (lv_at hl 1 rfl) ?_
              refine lv_iconst (v := 1) hx hb dX6_read_32 (by decide) ?_
              refine zcA_i (w := (zX k q 0 (-1) 12 100 0 (fun _ => 0) aps 0 ar1 ar2 ar3 ar4 ar5 ar6 ar7 ph pp py wy fa fb cm0 ia0 0 0 ih0 in0 il0 tx0 sh0 cm1 ia1 0 0 ih1 in1 il1 tx1 sh1 cm2 ia2 0 0 ih2 in2 il2 tx2 sh2 cm3 ia3 0 0 ih3 in3 il3 tx3 sh3 (-1) 0 it0 (-1) 0 it1 (-1) 0 it2 (-1) 0 it3)) (va_runV (As := [.int 1]) (rest := []) ⟨hx, hb, hml, hown, hts⟩ (c_X6_found_1 l dC dI k  q aps ar1 ar2 ar3 ar4 ar5 ar6 ar7 ph pp py wy fa fb cm0 ia0 ih0 in0 il0 tx0 sh0 cm1 ia1 ih1 in1 il1 tx1 sh1 cm2 ia2 ih2 in2 il2 tx2 sh2 cm3 ia3 ih3 in3 il3 tx3 sh3 it0 it1 it2 it3 _ ) (cwV 1 hts (gzV wmt2_102 wmt2_104 wmp1_7 wmt1_1 wmt2_105) rfl rfl rfl (by decide +kernel) ⟨Nat.le_of_ble_eq_true rfl, Nat.le_of_ble_eq_true rfl⟩) (zpA_V (ci := 6) (q0 := 0) hK hP hD rfl rfl) rfl rfl hl.1 rfl (lv_room (Nat.le_of_ble_eq_true rfl)) dX6_read_33 ⟨Nat.le_of_ble_eq_true rfl, Nat.le_of_ble_eq_true rfl⟩) hD hS hA (fun r_62 u_63 H locs w_64 hP hD hS => ?_)
              obtain ⟨oxfi_65, rfl⟩ : ∃ z, z = u_63 := ⟨_, rfl⟩
              have hP : va_P (dC, dI) vwCl (zX k q 0 (-1) 12 100 oxfi_65 (fun _ => 0) aps 0 ar1 ar2 ar3 ar4 ar5 ar6 ar7 ph pp py wy fa fb cm0 ia0 0 0 ih0 in0 il0 tx0 sh0 cm1 ia1 0 0 ih1 in1 il1 tx1 sh1 cm2 ia2 0 0 ih2 in2 il2 tx2 sh2 cm3 ia3 0 0 ih3 in3 il3 tx3 sh3 (-1) 0 it0 (-1) 0 it1 (-1) 0 it2 (-1) 0 it3) H := hP
              have hD : va_D A (zX k q 0 (-1) 12 100 oxfi_65 (fun _ => 0) aps 0 ar1 ar2 ar3 ar4 ar5 ar6 ar7 ph pp py wy fa fb cm0 ia0 0 0 ih0 in0 il0 tx0 sh0 cm1 ia1 0 0 ih1 in1 il1 tx1 sh1 cm2 ia2 0 0 ih2 in2 il2 tx2 sh2 cm3 ia3 0 0 ih3 in3 il3 tx3 sh3 (-1) 0 it0 (-1) 0 it1 (-1) 0 it2 (-1) 0 it3) := hD
              have e_66 := w_64
              replace e_66 : r_62 = (-11) := e_66
              subst e_66
              exact W.iret (v := (-11)) hx hb hr (fun t ht hW => ⟨⟨(-11), (oxfi_65), rfl, (by first | assumption | with_reducible rfl | contradiction | exact (if_pos (by repeat' (first | assumption | decide | constructor))).symm | exact (if_neg (fun hh => absurd hh (by assumption))).symm | exact (if_neg (fun hh => absurd hh.1 (by assumption))).symm | exact (if_neg (fun hh => absurd hh.2 (by assumption))).symm | exact (if_neg (fun hh => absurd hh.1.1 (by assumption))).symm | exact (if_neg (fun hh => absurd hh.1.2 (by assumption))).symm | exact (if_neg (fun hh => absurd hh.2.1 (by assumption))).symm | exact (if_neg (fun hh => absurd hh.2.2 (by assumption))).symm | exact (if_neg (fun hh => absurd hh.2.2.1 (by assumption))).symm | exact (if_neg (fun hh => absurd hh.2.2.2 (by assumption))).symm | exact (if_neg (fun hh => absurd hh.2.2.2.1 (by assumption))).symm | exact (if_neg (fun hh => absurd hh.2.2.2.2 (by assumption))).symm | decide | (exfalso; simp only [zi_le, zi_lt, zi_eq, zi_n0, zi_n1, zi_n2, zi_n3, zi_n4, zi_n23, zi_n24, zi_n100, zi_n399, zi_n60, zi_n255, zi_n99, zi_nm1, zi_n30] at *; omega) | (simp_all; done)), ⟨by rw [ht]; exact hP, hD⟩⟩, hS.F ht⟩) hS.2.2 dX6_read_36
          · skip
            exact absurd c_56 (by decide)
        · skip
          replace e_55 : r_49 = 0 := e_55
          subst e_55
          replace h_54 : ¬ (0 ≤ (d : Int32) ∧ (d : Int32) ≤ 3) := h_54
          refine lv_if_ne (tgt := 17) hx hb dX6_read_11 (by decide) (fun c_67 => ?_) (fun c_67 => ?_)
          · skip
            exact absurd c_67 (by decide)
          · skip
            refine lv_bipush (v := (-2)) hx hb dX6_read_14 (by decide) ?_
            exact W.iret (v := (-2)) hx hb hr (fun t ht hW => ⟨⟨(-2), (0), rfl, (by first | assumption | with_reducible rfl | contradiction | exact (if_pos (by repeat' (first | assumption | decide | constructor))).symm | exact (if_neg (fun hh => absurd hh (by assumption))).symm | exact (if_neg (fun hh => absurd hh.1 (by assumption))).symm | exact (if_neg (fun hh => absurd hh.2 (by assumption))).symm | exact (if_neg (fun hh => absurd hh.1.1 (by assumption))).symm | exact (if_neg (fun hh => absurd hh.1.2 (by assumption))).symm | exact (if_neg (fun hh => absurd hh.2.1 (by assumption))).symm | exact (if_neg (fun hh => absurd hh.2.2 (by assumption))).symm | exact (if_neg (fun hh => absurd hh.2.2.1 (by assumption))).symm | exact (if_neg (fun hh => absurd hh.2.2.2 (by assumption))).symm | exact (if_neg (fun hh => absurd hh.2.2.2.1 (by assumption))).symm | exact (if_neg (fun hh => absurd hh.2.2.2.2 (by assumption))).symm | decide | (exfalso; simp only [zi_le, zi_lt, zi_eq, zi_n0, zi_n1, zi_n2, zi_n3, zi_n4, zi_n23, zi_n24, zi_n100, zi_n399, zi_n60, zi_n255, zi_n99, zi_nm1, zi_n30] at *; omega) | (simp_all; done)), ⟨by rw [ht]; exact hP, hD⟩⟩, hS.F ht⟩) hS.2.2 dX6_read_16
    · skip
      refine lv_if_eq (tgt := 14) hx hb dX6_read_4 (by decide) (fun c_68 => ?_) (fun c_68 => ?_)
      · skip
        exact absurd c_68 (by decide)
      · skip
        refine lv_iload_n hx hb dX6_read_7 rfl (lv_at hl 2 rfl) ?_
        refine zc0_i (w := (zX k q 0 (-1) 12 100 0 (fun _ => 0) aps 0 ar1 ar2 ar3 ar4 ar5 ar6 ar7 ph pp py wy fa fb cm0 ia0 0 0 ih0 in0 il0 tx0 sh0 cm1 ia1 0 0 ih1 in1 il1 tx1 sh1 cm2 ia2 0 0 ih2 in2 il2 tx2 sh2 cm3 ia3 0 0 ih3 in3 il3 tx3 sh3 (-1) 0 it0 (-1) 0 it1 (-1) 0 it2 (-1) 0 it3)) (va_runS (As := [.int d]) (rest := []) ⟨hx, hb, hml, hown, hts⟩ (c_X6_isDesign l dC dI k (zTX k) d _ ) (va_cwS 1 hts (gzS wmt1_211 wmt1_212 wmt1_1 wmt1_213) rfl rfl rfl (by decide +kernel) ⟨Nat.le_of_ble_eq_true rfl, Nat.le_of_ble_eq_true rfl⟩) (zp0_S hK) rfl rfl hl.1 rfl (lv_room (Nat.le_of_ble_eq_true rfl)) dX6_read_8 ⟨Nat.le_of_ble_eq_true rfl, Nat.le_of_ble_eq_true rfl⟩) hP hS hA (fun r_69 u_70 H locs w_71 hP hS => ?_)
        rcases w_71 with ⟨e_73, h_72⟩ | ⟨e_75, h_74⟩
        · skip
          replace e_73 : r_69 = 1 := e_73
          subst e_73
          replace h_72 : 0 ≤ (d : Int32) ∧ (d : Int32) ≤ 3 := h_72
          refine lv_if_ne (tgt := 17) hx hb dX6_read_11 (by decide) (fun c_76 => ?_) (fun c_76 => ?_)
          · skip
            refine lv_aload_n hx hb dX6_read_17 rfl (lv_at hl 0 rfl) ?_
            refine va_get (D := (dC, dI)) (ci := 6) (v := .ref (q 2)) (C := RX6) (T := TX6) (N := 12) hx hb hts hi6 hown hK.1 hP 0 rfl rfl 1 (by decide) (hts _ wmt1_171) (fun _ h9 => h9) rfl dX6_read_18 ?_
            refine lv_iload_n hx hb dX6_read_21 rfl (lv_at hl 1 rfl) ?_
            refine va_aldq (D := (dC, dI)) hx hb hK.1 hP 2 4 rfl rfl (show ¬ _ by decide) dX6_read_22 ?_
            refine z_top (v2 := .ref (q 34)) (rfl) ?_
            refine lv_astore_n (lv' := [(3, .ref (q 34)), (0, .ref (q 0)), (1, .int 3), (2, .int d)]) hx hb dX6_read_23 rfl hl (by decide) rfl (fun ls hl => ?_)
            refine lv_aload_n hx hb dX6_read_24 rfl (lv_at hl 0 rfl) ?_
            refine zcS_i (w := (zX k q 0 (-1) 12 100 0 (fun _ => 0) aps 0 ar1 ar2 ar3 ar4 ar5 ar6 ar7 ph pp py wy fa fb cm0 ia0 0 0 ih0 in0 il0 tx0 sh0 cm1 ia1 0 0 ih1 in1 il1 tx1 sh1 cm2 ia2 0 0 ih2 in2 il2 tx2 sh2 cm3 ia3 0 0 ih3 in3 il3 tx3 sh3 (-1) 0 it0 (-1) 0 it1 (-1) 0 it2 (-1) 0 it3)) (wc := (zShe k (q 34) (q 35) it3 (-1) 0)) (va_runV (As := []) (rest := []) ⟨hx, hb, hml, hown, hts⟩ (c_X5_isLost l dC dI k (zTX k) (q 34) (q 35) it3 0 _ ) (cwV 0 hts (gzV wmt2_98 wmt2_99 wmt2_100 wmt1_7 wmt2_101) rfl rfl rfl (by decide +kernel) ⟨Nat.le_of_ble_eq_true rfl, Nat.le_of_ble_eq_true rfl⟩) (zp_V (ci := 5) (q0 := 34) hK hP hD [34, 35] rfl rfl rfl rfl) rfl rfl hl.1 rfl (lv_room (Nat.le_of_ble_eq_true rfl)) dX6_read_25 ⟨Nat.le_of_ble_eq_true rfl, Nat.le_of_ble_eq_true rfl⟩) hP hD hS hA [34, 35] rfl (fun _ => rfl) (fun r_77 u_78 H locs w_79 hP hD hS => ?_)
            have hP : va_P (dC, dI) vwCl (zX k q 0 (-1) 12 100 0 (fun _ => 0) aps 0 ar1 ar2 ar3 ar4 ar5 ar6 ar7 ph pp py wy fa fb cm0 ia0 0 0 ih0 in0 il0 tx0 sh0 cm1 ia1 0 0 ih1 in1 il1 tx1 sh1 cm2 ia2 0 0 ih2 in2 il2 tx2 sh2 cm3 ia3 0 0 ih3 in3 il3 tx3 sh3 (-1) 0 it0 (-1) 0 it1 (-1) 0 it2 (-1) 0 it3) H := hP
            have hD : va_D A (zX k q 0 (-1) 12 100 0 (fun _ => 0) aps 0 ar1 ar2 ar3 ar4 ar5 ar6 ar7 ph pp py wy fa fb cm0 ia0 0 0 ih0 in0 il0 tx0 sh0 cm1 ia1 0 0 ih1 in1 il1 tx1 sh1 cm2 ia2 0 0 ih2 in2 il2 tx2 sh2 cm3 ia3 0 0 ih3 in3 il3 tx3 sh3 (-1) 0 it0 (-1) 0 it1 (-1) 0 it2 (-1) 0 it3) := hD
            have e_80 := w_79
            replace e_80 : r_77 = 1 := e_80
            subst e_80
            refine lv_if_eq (tgt := 37) hx hb dX6_read_28 (by decide) (fun c_81 => ?_) (fun c_81 => ?_)
            · skip
              exact absurd c_81 (by decide)
            · skip
              refine lv_aload_n hx hb dX6_read_31 rfl (lv_at hl 1 rfl) ?_
              refine lv_iconst (v := 1) hx hb dX6_read_32 (by decide) ?_
              refine zcA_i (w := (zX k q 0 (-1) 12 100 0 (fun _ => 0) aps 0 ar1 ar2 ar3 ar4 ar5 ar6 ar7 ph pp py wy fa fb cm0 ia0 0 0 ih0 in0 il0 tx0 sh0 cm1 ia1 0 0 ih1 in1 il1 tx1 sh1 cm2 ia2 0 0 ih2 in2 il2 tx2 sh2 cm3 ia3 0 0 ih3 in3 il3 tx3 sh3 (-1) 0 it0 (-1) 0 it1 (-1) 0 it2 (-1) 0 it3)) (va_runV (As := [.int 1]) (rest := []) ⟨hx, hb, hml, hown, hts⟩ (c_X6_found_1 l dC dI k  q aps ar1 ar2 ar3 ar4 ar5 ar6 ar7 ph pp py wy fa fb cm0 ia0 ih0 in0 il0 tx0 sh0 cm1 ia1 ih1 in1 il1 tx1 sh1 cm2 ia2 ih2 in2 il2 tx2 sh2 cm3 ia3 ih3 in3 il3 tx3 sh3 it0 it1 it2 it3 _ ) (cwV 1 hts (gzV wmt2_102 wmt2_104 wmp1_7 wmt1_1 wmt2_105) rfl rfl rfl (by decide +kernel) ⟨Nat.le_of_ble_eq_true rfl, Nat.le_of_ble_eq_true rfl⟩) (zpA_V (ci := 6) (q0 := 0) hK hP hD rfl rfl) rfl rfl hl.1 rfl (lv_room (Nat.le_of_ble_eq_true rfl)) dX6_read_33 ⟨Nat.le_of_ble_eq_true rfl, Nat.le_of_ble_eq_true rfl⟩) hD hS hA (fun r_82 u_83 H locs w_84 hP hD hS => ?_)
              obtain ⟨oxfi_85, rfl⟩ : ∃ z, z = u_83 := ⟨_, rfl⟩
              have hP : va_P (dC, dI) vwCl (zX k q 0 (-1) 12 100 oxfi_85 (fun _ => 0) aps 0 ar1 ar2 ar3 ar4 ar5 ar6 ar7 ph pp py wy fa fb cm0 ia0 0 0 ih0 in0 il0 tx0 sh0 cm1 ia1 0 0 ih1 in1 il1 tx1 sh1 cm2 ia2 0 0 ih2 in2 il2 tx2 sh2 cm3 ia3 0 0 ih3 in3 il3 tx3 sh3 (-1) 0 it0 (-1) 0 it1 (-1) 0 it2 (-1) 0 it3) H := hP
              have hD : va_D A (zX k q 0 (-1) 12 100 oxfi_85 (fun _ => 0) aps 0 ar1 ar2 ar3 ar4 ar5 ar6 ar7 ph pp py wy fa fb cm0 ia0 0 0 ih0 in0 il0 tx0 sh0 cm1 ia1 0 0 ih1 in1 il1 tx1 sh1 cm2 ia2 0 0 ih2 in2 il2 tx2 sh2 cm3 ia3 0 0 ih3 in3 il3 tx3 sh3 (-1) 0 it0 (-1) 0 it1 (-1) 0 it2 (-1) 0 it3) := hD
              have e_86 := w_84
              replace e_86 : r_82 = (-11) := e_86
              subst e_86
              exact W.iret (v := (-11)) hx hb hr (fun t ht hW => ⟨⟨(-11), (oxfi_85), rfl, (by first | assumption | with_reducible rfl | contradiction | exact (if_pos (by repeat' (first | assumption | decide | constructor))).symm | exact (if_neg (fun hh => absurd hh (by assumption))).symm | exact (if_neg (fun hh => absurd hh.1 (by assumption))).symm | exact (if_neg (fun hh => absurd hh.2 (by assumption))).symm | exact (if_neg (fun hh => absurd hh.1.1 (by assumption))).symm | exact (if_neg (fun hh => absurd hh.1.2 (by assumption))).symm | exact (if_neg (fun hh => absurd hh.2.1 (by assumption))).symm | exact (if_neg (fun hh => absurd hh.2.2 (by assumption))).symm | exact (if_neg (fun hh => absurd hh.2.2.1 (by assumption))).symm | exact (if_neg (fun hh => absurd hh.2.2.2 (by assumption))).symm | exact (if_neg (fun hh => absurd hh.2.2.2.1 (by assumption))).symm | exact (if_neg (fun hh => absurd hh.2.2.2.2 (by assumption))).symm | decide | (exfalso; simp only [zi_le, zi_lt, zi_eq, zi_n0, zi_n1, zi_n2, zi_n3, zi_n4, zi_n23, zi_n24, zi_n100, zi_n399, zi_n60, zi_n255, zi_n99, zi_nm1, zi_n30] at *; omega) | (simp_all; done)), ⟨by rw [ht]; exact hP, hD⟩⟩, hS.F ht⟩) hS.2.2 dX6_read_36
          · skip
            exact absurd c_76 (by decide)
        · skip
          replace e_75 : r_69 = 0 := e_75
          subst e_75
          replace h_74 : ¬ (0 ≤ (d : Int32) ∧ (d : Int32) ≤ 3) := h_74
          refine lv_if_ne (tgt := 17) hx hb dX6_read_11 (by decide) (fun c_87 => ?_) (fun c_87 => ?_)
          · skip
            exact absurd c_87 (by decide)
          · skip
            refine lv_bipush (v := (-2)) hx hb dX6_read_14 (by decide) ?_
            exact W.iret (v := (-2)) hx hb hr (fun t ht hW => ⟨⟨(-2), (0), rfl, (by first | assumption | with_reducible rfl | contradiction | exact (if_pos (by repeat' (first | assumption | decide | constructor))).symm | exact (if_neg (fun hh => absurd hh (by assumption))).symm | exact (if_neg (fun hh => absurd hh.1 (by assumption))).symm | exact (if_neg (fun hh => absurd hh.2 (by assumption))).symm | exact (if_neg (fun hh => absurd hh.1.1 (by assumption))).symm | exact (if_neg (fun hh => absurd hh.1.2 (by assumption))).symm | exact (if_neg (fun hh => absurd hh.2.1 (by assumption))).symm | exact (if_neg (fun hh => absurd hh.2.2 (by assumption))).symm | exact (if_neg (fun hh => absurd hh.2.2.1 (by assumption))).symm | exact (if_neg (fun hh => absurd hh.2.2.2 (by assumption))).symm | exact (if_neg (fun hh => absurd hh.2.2.2.1 (by assumption))).symm | exact (if_neg (fun hh => absurd hh.2.2.2.2 (by assumption))).symm | decide | (exfalso; simp only [zi_le, zi_lt, zi_eq, zi_n0, zi_n1, zi_n2, zi_n3, zi_n4, zi_n23, zi_n24, zi_n100, zi_n399, zi_n60, zi_n255, zi_n99, zi_nm1, zi_n30] at *; omega) | (simp_all; done)), ⟨by rw [ht]; exact hP, hD⟩⟩, hS.F ht⟩) hS.2.2 dX6_read_16
  · skip
    replace e_7 : r_1 = 0 := e_7
    subst e_7
    replace h_6 : ¬ (0 ≤ (z : Int32) ∧ (z : Int32) ≤ 3) := h_6
    refine lv_if_eq (tgt := 14) hx hb dX6_read_4 (by decide) (fun c_88 => ?_) (fun c_88 => ?_)
    · skip
      refine lv_bipush (v := (-2)) hx hb dX6_read_14 (by decide) ?_
      exact W.iret (v := (-2)) hx hb hr (fun t ht hW => ⟨⟨(-2), (0), rfl, (by first | assumption | with_reducible rfl | contradiction | exact (if_pos (by repeat' (first | assumption | decide | constructor))).symm | exact (if_neg (fun hh => absurd hh (by assumption))).symm | exact (if_neg (fun hh => absurd hh.1 (by assumption))).symm | exact (if_neg (fun hh => absurd hh.2 (by assumption))).symm | exact (if_neg (fun hh => absurd hh.1.1 (by assumption))).symm | exact (if_neg (fun hh => absurd hh.1.2 (by assumption))).symm | exact (if_neg (fun hh => absurd hh.2.1 (by assumption))).symm | exact (if_neg (fun hh => absurd hh.2.2 (by assumption))).symm | exact (if_neg (fun hh => absurd hh.2.2.1 (by assumption))).symm | exact (if_neg (fun hh => absurd hh.2.2.2 (by assumption))).symm | exact (if_neg (fun hh => absurd hh.2.2.2.1 (by assumption))).symm | exact (if_neg (fun hh => absurd hh.2.2.2.2 (by assumption))).symm | decide | (exfalso; simp only [zi_le, zi_lt, zi_eq, zi_n0, zi_n1, zi_n2, zi_n3, zi_n4, zi_n23, zi_n24, zi_n100, zi_n399, zi_n60, zi_n255, zi_n99, zi_nm1, zi_n30] at *; omega) | (simp_all; done)), ⟨by rw [ht]; exact hP, hD⟩⟩, hS.F ht⟩) hS.2.2 dX6_read_16
    · skip
      exact absurd (by decide) c_88
set_option maxHeartbeats 4000000 in
set_option maxRecDepth 100000 in
theorem c_X6_takeBack (l : Launch) (dC : Nat → ClassId) (dI : Nat → Nat → Nat) (k : Nat → ClassId)  (q : Nat → Nat) (aps : Int32) (ar1 : Nat → Int32) (ar2 : Nat → Int32) (ar3 : Nat → Int32) (ar4 : Nat → Int32) (ar5 : Nat → Int32) (ar6 : Nat → Int32) (ar7 : Nat → Int32) (ph : Int32) (pp : Int32) (py : Int32) (wy : Nat → Int64) (fa : Int64) (fb : Int64) (cm0 : Int64) (ia0 : Int32) (ih0 : Int32) (in0 : Int32) (il0 : Int32) (tx0 : Nat → Int32) (sh0 : Nat → Int64) (cm1 : Int64) (ia1 : Int32) (ih1 : Int32) (in1 : Int32) (il1 : Int32) (tx1 : Nat → Int32) (sh1 : Nat → Int64) (cm2 : Int64) (ia2 : Int32) (ih2 : Int32) (in2 : Int32) (il2 : Int32) (tx2 : Nat → Int32) (sh2 : Nat → Int64) (cm3 : Int64) (ia3 : Int32) (ih3 : Int32) (in3 : Int32) (il3 : Int32) (tx3 : Nat → Int32) (sh3 : Nat → Int64) (it0 : Nat → Int32) (it1 : Nat → Int32) (it2 : Nat → Int32) (it3 : Nat → Int32) (n : Int32) (sz : Nat)  : Met l yX6_takeBack (wz yX6_takeBack cX6_takeBack 2 (some .int)) ({ frames := 1, cells := 0, slots := 0, locals := 21 }) (va_Pc [.ref (q 0), .int n] (zPre dC dI k (zTX k) (zX k q 0 (-1) 12 100 0 (fun _ => 0) aps 0 ar1 ar2 ar3 ar4 ar5 ar6 ar7 ph pp py wy fa fb cm0 ia0 0 0 ih0 in0 il0 tx0 sh0 cm1 ia1 0 0 ih1 in1 il1 tx1 sh1 cm2 ia2 0 0 ih2 in2 il2 tx2 sh2 cm3 ia3 0 0 ih3 in3 il3 tx3 sh3 (-1) 0 it0 (-1) 0 it1 (-1) 0 it2 (-1) 0 it3) sz)) (va_Qi (fun (r : Int32) (u : Unit) => r = (-2)) (fun u t => zPost dC dI (va_A (zX k q 0 (-1) 12 100 0 (fun _ => 0) aps 0 ar1 ar2 ar3 ar4 ar5 ar6 ar7 ph pp py wy fa fb cm0 ia0 0 0 ih0 in0 il0 tx0 sh0 cm1 ia1 0 0 ih1 in1 il1 tx1 sh1 cm2 ia2 0 0 ih2 in2 il2 tx2 sh2 cm3 ia3 0 0 ih3 in3 il3 tx3 sh3 (-1) 0 it0 (-1) 0 it1 (-1) 0 it2 (-1) 0 it3) sz) (zX k q 0 (-1) 12 100 0 (fun _ => 0) aps 0 ar1 ar2 ar3 ar4 ar5 ar6 ar7 ph pp py wy fa fb cm0 ia0 0 0 ih0 in0 il0 tx0 sh0 cm1 ia1 0 0 ih1 in1 il1 tx1 sh1 cm2 ia2 0 0 ih2 in2 il2 tx2 sh2 cm3 ia3 0 0 ih3 in3 il3 tx3 sh3 (-1) 0 it0 (-1) 0 it1 (-1) 0 it2 (-1) 0 it3) t) (va_A (zX k q 0 (-1) 12 100 0 (fun _ => 0) aps 0 ar1 ar2 ar3 ar4 ar5 ar6 ar7 ph pp py wy fa fb cm0 ia0 0 0 ih0 in0 il0 tx0 sh0 cm1 ia1 0 0 ih1 in1 il1 tx1 sh1 cm2 ia2 0 0 ih2 in2 il2 tx2 sh2 cm3 ia3 0 0 ih3 in3 il3 tx3 sh3 (-1) 0 it0 (-1) 0 it1 (-1) 0 it2 (-1) 0 it3) sz)) 0 0 (va_A (zX k q 0 (-1) 12 100 0 (fun _ => 0) aps 0 ar1 ar2 ar3 ar4 ar5 ar6 ar7 ph pp py wy fa fb cm0 ia0 0 0 ih0 in0 il0 tx0 sh0 cm1 ia1 0 0 ih1 in1 il1 tx1 sh1 cm2 ia2 0 0 ih2 in2 il2 tx2 sh2 cm3 ia3 0 0 ih3 in3 il3 tx3 sh3 (-1) 0 it0 (-1) 0 it1 (-1) 0 it2 (-1) 0 it3) sz) := by
  refine Met.ofW (cc := cX6_takeBack) (maxL := 2) (ret := (some .int)) (by decide) rfl ?_
  intro p e s m args below meth c s₁ B hml hv
  obtain ⟨rfl, hsz, hP, hK, hD0⟩ := hv
  have hx := B.exec
  have hb := B.bytes
  have hr := B.returns
  have hts : ∀ w ∈ zw, w.before _ s = true := fun w h => atoms_spec (ws := (wz yX6_takeBack cX6_takeBack 2 (some .int))) B.pre w (List.mem_cons_of_mem _ h)
  have hown : s.vm.findClass RX6 = some m.cls := findClass_of_methodNamed B.named
  have hlocks := B.notSynchronized
  subst hsz
  have hi6 := inw6
  have hD := hD0.self (sz := s.heap.size)
  generalize hAe : va_A (zX k q 0 (-1) 12 100 0 (fun _ => 0) aps 0 ar1 ar2 ar3 ar4 ar5 ar6 ar7 ph pp py wy fa fb cm0 ia0 0 0 ih0 in0 il0 tx0 sh0 cm1 ia1 0 0 ih1 in1 il1 tx1 sh1 cm2 ia2 0 0 ih2 in2 il2 tx2 sh2 cm3 ia3 0 0 ih3 in3 il3 tx3 sh3 (-1) 0 it0 (-1) 0 it1 (-1) 0 it2 (-1) 0 it3) s.heap.size = A at hD ⊢
  have hA : ∀ q : Nat, s.heap.size ≤ q → A q := fun q h => by rw [← hAe]; exact Or.inr h
  have hl := lv_entry ([.ref (q 0), .int n]) (n := 2) (Nat.le_of_ble_eq_true rfl)
  rw [lg_entry_eq]
  generalize (lg_sl ([.ref (q 0), .int n]) ++ List.replicate (2 - (lg_sl ([.ref (q 0), .int n])).length) Slot.unset).toArray = ls at hl ⊢
  have hl : lv_has ls 2 [(0, .ref (q 0)), (1, .int n)] := hl
  refine z_start (w := (zX k q 0 (-1) 12 100 0 (fun _ => 0) aps 0 ar1 ar2 ar3 ar4 ar5 ar6 ar7 ph pp py wy fa fb cm0 ia0 0 0 ih0 in0 il0 tx0 sh0 cm1 ia1 0 0 ih1 in1 il1 tx1 sh1 cm2 ia2 0 0 ih2 in2 il2 tx2 sh2 cm3 ia3 0 0 ih3 in3 il3 tx3 sh3 (-1) 0 it0 (-1) 0 it1 (-1) 0 it2 (-1) 0 it3)) hP hD (fun H locs hP hD hS => ?_)
  refine lv_aload_n hx hb dX6_takeBack_0 rfl (lv_at hl 0 rfl) ?_
  refine va_get (D := (dC, dI)) (ci := 6) (v := .ref (q 4)) (C := RX6) (T := TX6) (N := 12) hx hb hts hi6 hown hK.1 hP 0 rfl rfl 3 (by decide) (hts _ wmt1_173) (fun _ h9 => h9) rfl dX6_takeBack_1 ?_
  refine lv_iload_n hx hb dX6_takeBack_4 rfl (lv_at hl 1 rfl) ?_
  refine zcS_i (w := (zX k q 0 (-1) 12 100 0 (fun _ => 0) aps 0 ar1 ar2 ar3 ar4 ar5 ar6 ar7 ph pp py wy fa fb cm0 ia0 0 0 ih0 in0 il0 tx0 sh0 cm1 ia1 0 0 ih1 in1 il1 tx1 sh1 cm2 ia2 0 0 ih2 in2 il2 tx2 sh2 cm3 ia3 0 0 ih3 in3 il3 tx3 sh3 (-1) 0 it0 (-1) 0 it1 (-1) 0 it2 (-1) 0 it3)) (wc := (zAns k (q 4) (q 5) (q 6) (q 7) (q 8) (q 9) (q 10) (q 11) ar1 ar2 ar3 ar4 ar5 ar6 ar7 aps 0)) (va_runV (As := [.int n]) (rest := []) ⟨hx, hb, hml, hown, hts⟩ (c_X0_isThere l dC dI k (zTX k) (q 4) (q 5) (q 6) (q 7) (q 8) (q 9) (q 10) (q 11) ar1 ar2 ar3 ar4 ar5 ar6 ar7 aps n _ ) (cwV 1 hts (gzV wmt2_110 wmt2_111 wmt2_112 wmt1_2 wmt2_113) rfl rfl rfl (by decide +kernel) ⟨Nat.le_of_ble_eq_true rfl, Nat.le_of_ble_eq_true rfl⟩) (zp_V (ci := 0) (q0 := 4) hK hP hD [4, 5, 6, 7, 8, 9, 10, 11] rfl rfl rfl rfl) rfl rfl hl.1 rfl (lv_room (Nat.le_of_ble_eq_true rfl)) dX6_takeBack_5 ⟨Nat.le_of_ble_eq_true rfl, Nat.le_of_ble_eq_true rfl⟩) hP hD hS hA [4, 5, 6, 7, 8, 9, 10, 11] rfl (fun _ => rfl) (fun r_1 u_2 H locs w_3 hP hD hS => ?_)
  have hP : va_P (dC, dI) vwCl (zX k q 0 (-1) 12 100 0 (fun _ => 0) aps 0 ar1 ar2 ar3 ar4 ar5 ar6 ar7 ph pp py wy fa fb cm0 ia0 0 0 ih0 in0 il0 tx0 sh0 cm1 ia1 0 0 ih1 in1 il1 tx1 sh1 cm2 ia2 0 0 ih2 in2 il2 tx2 sh2 cm3 ia3 0 0 ih3 in3 il3 tx3 sh3 (-1) 0 it0 (-1) 0 it1 (-1) 0 it2 (-1) 0 it3) H := hP
  have hD : va_D A (zX k q 0 (-1) 12 100 0 (fun _ => 0) aps 0 ar1 ar2 ar3 ar4 ar5 ar6 ar7 ph pp py wy fa fb cm0 ia0 0 0 ih0 in0 il0 tx0 sh0 cm1 ia1 0 0 ih1 in1 il1 tx1 sh1 cm2 ia2 0 0 ih2 in2 il2 tx2 sh2 cm3 ia3 0 0 ih3 in3 il3 tx3 sh3 (-1) 0 it0 (-1) 0 it1 (-1) 0 it2 (-1) 0 it3) := hD
  have e_4 := w_3
  replace e_4 : r_1 = 0 := e_4
  subst e_4
  refine lv_if_ne (tgt := 14) hx hb dX6_takeBack_8 (by decide) (fun c_5 => ?_) (fun c_5 => ?_)
  · skip
    exact absurd c_5 (by decide)
  · skip
    refine lv_bipush (v := (-2)) hx hb dX6_takeBack_11 (by decide) ?_
    exact W.iret (v := (-2)) hx hb hr (fun t ht hW => ⟨⟨(-2), (), rfl, (by first | assumption | with_reducible rfl | contradiction | exact (if_pos (by repeat' (first | assumption | decide | constructor))).symm | exact (if_neg (fun hh => absurd hh (by assumption))).symm | exact (if_neg (fun hh => absurd hh.1 (by assumption))).symm | exact (if_neg (fun hh => absurd hh.2 (by assumption))).symm | exact (if_neg (fun hh => absurd hh.1.1 (by assumption))).symm | exact (if_neg (fun hh => absurd hh.1.2 (by assumption))).symm | exact (if_neg (fun hh => absurd hh.2.1 (by assumption))).symm | exact (if_neg (fun hh => absurd hh.2.2 (by assumption))).symm | exact (if_neg (fun hh => absurd hh.2.2.1 (by assumption))).symm | exact (if_neg (fun hh => absurd hh.2.2.2 (by assumption))).symm | exact (if_neg (fun hh => absurd hh.2.2.2.1 (by assumption))).symm | exact (if_neg (fun hh => absurd hh.2.2.2.2 (by assumption))).symm | decide | (exfalso; simp only [zi_le, zi_lt, zi_eq, zi_n0, zi_n1, zi_n2, zi_n3, zi_n4, zi_n23, zi_n24, zi_n100, zi_n399, zi_n60, zi_n255, zi_n99, zi_nm1, zi_n30] at *; omega) | (simp_all; done)), ⟨by rw [ht]; exact hP, hD⟩⟩, hS.F ht⟩) hS.2.2 dX6_takeBack_13
set_option maxHeartbeats 4000000 in
set_option maxRecDepth 100000 in
theorem c_X6_about (l : Launch) (dC : Nat → ClassId) (dI : Nat → Nat → Nat) (k : Nat → ClassId)  (q : Nat → Nat) (aps : Int32) (ar1 : Nat → Int32) (ar2 : Nat → Int32) (ar3 : Nat → Int32) (ar4 : Nat → Int32) (ar5 : Nat → Int32) (ar6 : Nat → Int32) (ar7 : Nat → Int32) (ph : Int32) (pp : Int32) (py : Int32) (wy : Nat → Int64) (fa : Int64) (fb : Int64) (cm0 : Int64) (ia0 : Int32) (ih0 : Int32) (in0 : Int32) (il0 : Int32) (tx0 : Nat → Int32) (sh0 : Nat → Int64) (cm1 : Int64) (ia1 : Int32) (ih1 : Int32) (in1 : Int32) (il1 : Int32) (tx1 : Nat → Int32) (sh1 : Nat → Int64) (cm2 : Int64) (ia2 : Int32) (ih2 : Int32) (in2 : Int32) (il2 : Int32) (tx2 : Nat → Int32) (sh2 : Nat → Int64) (cm3 : Int64) (ia3 : Int32) (ih3 : Int32) (in3 : Int32) (il3 : Int32) (tx3 : Nat → Int32) (sh3 : Nat → Int64) (it0 : Nat → Int32) (it1 : Nat → Int32) (it2 : Nat → Int32) (it3 : Nat → Int32) (n : Int32) (w : Int32) (sz : Nat)  : Met l yX6_about (wz yX6_about cX6_about 3 (some .int)) ({ frames := 1, cells := 0, slots := 0, locals := 21 }) (va_Pc [.ref (q 0), .int n, .int w] (zPre dC dI k (zTX k) (zX k q 0 (-1) 12 100 0 (fun _ => 0) aps 0 ar1 ar2 ar3 ar4 ar5 ar6 ar7 ph pp py wy fa fb cm0 ia0 0 0 ih0 in0 il0 tx0 sh0 cm1 ia1 0 0 ih1 in1 il1 tx1 sh1 cm2 ia2 0 0 ih2 in2 il2 tx2 sh2 cm3 ia3 0 0 ih3 in3 il3 tx3 sh3 (-1) 0 it0 (-1) 0 it1 (-1) 0 it2 (-1) 0 it3) sz)) (va_Qi (fun (r : Int32) (u : Unit) => r = (-2)) (fun u t => zPost dC dI (va_A (zX k q 0 (-1) 12 100 0 (fun _ => 0) aps 0 ar1 ar2 ar3 ar4 ar5 ar6 ar7 ph pp py wy fa fb cm0 ia0 0 0 ih0 in0 il0 tx0 sh0 cm1 ia1 0 0 ih1 in1 il1 tx1 sh1 cm2 ia2 0 0 ih2 in2 il2 tx2 sh2 cm3 ia3 0 0 ih3 in3 il3 tx3 sh3 (-1) 0 it0 (-1) 0 it1 (-1) 0 it2 (-1) 0 it3) sz) (zX k q 0 (-1) 12 100 0 (fun _ => 0) aps 0 ar1 ar2 ar3 ar4 ar5 ar6 ar7 ph pp py wy fa fb cm0 ia0 0 0 ih0 in0 il0 tx0 sh0 cm1 ia1 0 0 ih1 in1 il1 tx1 sh1 cm2 ia2 0 0 ih2 in2 il2 tx2 sh2 cm3 ia3 0 0 ih3 in3 il3 tx3 sh3 (-1) 0 it0 (-1) 0 it1 (-1) 0 it2 (-1) 0 it3) t) (va_A (zX k q 0 (-1) 12 100 0 (fun _ => 0) aps 0 ar1 ar2 ar3 ar4 ar5 ar6 ar7 ph pp py wy fa fb cm0 ia0 0 0 ih0 in0 il0 tx0 sh0 cm1 ia1 0 0 ih1 in1 il1 tx1 sh1 cm2 ia2 0 0 ih2 in2 il2 tx2 sh2 cm3 ia3 0 0 ih3 in3 il3 tx3 sh3 (-1) 0 it0 (-1) 0 it1 (-1) 0 it2 (-1) 0 it3) sz)) 0 0 (va_A (zX k q 0 (-1) 12 100 0 (fun _ => 0) aps 0 ar1 ar2 ar3 ar4 ar5 ar6 ar7 ph pp py wy fa fb cm0 ia0 0 0 ih0 in0 il0 tx0 sh0 cm1 ia1 0 0 ih1 in1 il1 tx1 sh1 cm2 ia2 0 0 ih2 in2 il2 tx2 sh2 cm3 ia3 0 0 ih3 in3 il3 tx3 sh3 (-1) 0 it0 (-1) 0 it1 (-1) 0 it2 (-1) 0 it3) sz) := by
  refine Met.ofW (cc := cX6_about) (maxL := 3) (ret := (some .int)) (by decide) rfl ?_
  intro p e s m args below meth c s₁ B hml hv
  obtain ⟨rfl, hsz, hP, hK, hD0⟩ := hv
  have hx := B.exec
  have hb := B.bytes
  have hr := B.returns
  have hts : ∀ w ∈ zw, w.before _ s = true := fun w h => atoms_spec (ws := (wz yX6_about cX6_about 3 (some .int))) B.pre w (List.mem_cons_of_mem _ h)
  have hown : s.vm.findClass RX6 = some m.cls := findClass_of_methodNamed B.named
  have hlocks := B.notSynchronized
  subst hsz
  have hi6 := inw6
  have hD := hD0.self (sz := s.heap.size)
  generalize hAe : va_A (zX k q 0 (-1) 12 100 0 (fun _ => 0) aps 0 ar1 ar2 ar3 ar4 ar5 ar6 ar7 ph pp py wy fa fb cm0 ia0 0 0 ih0 in0 il0 tx0 sh0 cm1 ia1 0 0 ih1 in1 il1 tx1 sh1 cm2 ia2 0 0 ih2 in2 il2 tx2 sh2 cm3 ia3 0 0 ih3 in3 il3 tx3 sh3 (-1) 0 it0 (-1) 0 it1 (-1) 0 it2 (-1) 0 it3) s.heap.size = A at hD ⊢
  have hA : ∀ q : Nat, s.heap.size ≤ q → A q := fun q h => by rw [← hAe]; exact Or.inr h
  have hl := lv_entry ([.ref (q 0), .int n, .int w]) (n := 3) (Nat.le_of_ble_eq_true rfl)
  rw [lg_entry_eq]
  generalize (lg_sl ([.ref (q 0), .int n, .int w]) ++ List.replicate (3 - (lg_sl ([.ref (q 0), .int n, .int w])).length) Slot.unset).toArray = ls at hl ⊢
  have hl : lv_has ls 3 [(0, .ref (q 0)), (1, .int n), (2, .int w)] := hl
  refine z_start (w := (zX k q 0 (-1) 12 100 0 (fun _ => 0) aps 0 ar1 ar2 ar3 ar4 ar5 ar6 ar7 ph pp py wy fa fb cm0 ia0 0 0 ih0 in0 il0 tx0 sh0 cm1 ia1 0 0 ih1 in1 il1 tx1 sh1 cm2 ia2 0 0 ih2 in2 il2 tx2 sh2 cm3 ia3 0 0 ih3 in3 il3 tx3 sh3 (-1) 0 it0 (-1) 0 it1 (-1) 0 it2 (-1) 0 it3)) hP hD (fun H locs hP hD hS => ?_)
  refine lv_aload_n hx hb dX6_about_0 rfl (lv_at hl 0 rfl) ?_
  refine va_get (D := (dC, dI)) (ci := 6) (v := .ref (q 4)) (C := RX6) (T := TX6) (N := 12) hx hb hts hi6 hown hK.1 hP 0 rfl rfl 3 (by decide) (hts _ wmt1_173) (fun _ h9 => h9) rfl dX6_about_1 ?_
  refine lv_iload_n hx hb dX6_about_4 rfl (lv_at hl 1 rfl) ?_
  refine zcS_i (w := (zX k q 0 (-1) 12 100 0 (fun _ => 0) aps 0 ar1 ar2 ar3 ar4 ar5 ar6 ar7 ph pp py wy fa fb cm0 ia0 0 0 ih0 in0 il0 tx0 sh0 cm1 ia1 0 0 ih1 in1 il1 tx1 sh1 cm2 ia2 0 0 ih2 in2 il2 tx2 sh2 cm3 ia3 0 0 ih3 in3 il3 tx3 sh3 (-1) 0 it0 (-1) 0 it1 (-1) 0 it2 (-1) 0 it3)) (wc := (zAns k (q 4) (q 5) (q 6) (q 7) (q 8) (q 9) (q 10) (q 11) ar1 ar2 ar3 ar4 ar5 ar6 ar7 aps 0)) (va_runV (As := [.int n]) (rest := []) ⟨hx, hb, hml, hown, hts⟩ (c_X0_isThere l dC dI k (zTX k) (q 4) (q 5) (q 6) (q 7) (q 8) (q 9) (q 10) (q 11) ar1 ar2 ar3 ar4 ar5 ar6 ar7 aps n _ ) (cwV 1 hts (gzV wmt2_110 wmt2_111 wmt2_112 wmt1_2 wmt2_113) rfl rfl rfl (by decide +kernel) ⟨Nat.le_of_ble_eq_true rfl, Nat.le_of_ble_eq_true rfl⟩) (zp_V (ci := 0) (q0 := 4) hK hP hD [4, 5, 6, 7, 8, 9, 10, 11] rfl rfl rfl rfl) rfl rfl hl.1 rfl (lv_room (Nat.le_of_ble_eq_true rfl)) dX6_about_5 ⟨Nat.le_of_ble_eq_true rfl, Nat.le_of_ble_eq_true rfl⟩) hP hD hS hA [4, 5, 6, 7, 8, 9, 10, 11] rfl (fun _ => rfl) (fun r_1 u_2 H locs w_3 hP hD hS => ?_)
  have hP : va_P (dC, dI) vwCl (zX k q 0 (-1) 12 100 0 (fun _ => 0) aps 0 ar1 ar2 ar3 ar4 ar5 ar6 ar7 ph pp py wy fa fb cm0 ia0 0 0 ih0 in0 il0 tx0 sh0 cm1 ia1 0 0 ih1 in1 il1 tx1 sh1 cm2 ia2 0 0 ih2 in2 il2 tx2 sh2 cm3 ia3 0 0 ih3 in3 il3 tx3 sh3 (-1) 0 it0 (-1) 0 it1 (-1) 0 it2 (-1) 0 it3) H := hP
  have hD : va_D A (zX k q 0 (-1) 12 100 0 (fun _ => 0) aps 0 ar1 ar2 ar3 ar4 ar5 ar6 ar7 ph pp py wy fa fb cm0 ia0 0 0 ih0 in0 il0 tx0 sh0 cm1 ia1 0 0 ih1 in1 il1 tx1 sh1 cm2 ia2 0 0 ih2 in2 il2 tx2 sh2 cm3 ia3 0 0 ih3 in3 il3 tx3 sh3 (-1) 0 it0 (-1) 0 it1 (-1) 0 it2 (-1) 0 it3) := hD
  have e_4 := w_3
  replace e_4 : r_1 = 0 := e_4
  subst e_4
  refine lv_if_ne (tgt := 14) hx hb dX6_about_8 (by decide) (fun c_5 => ?_) (fun c_5 => ?_)
  · skip
    exact absurd c_5 (by decide)
  · skip
    refine lv_bipush (v := (-2)) hx hb dX6_about_11 (by decide) ?_
    exact W.iret (v := (-2)) hx hb hr (fun t ht hW => ⟨⟨(-2), (), rfl, (by first | assumption | with_reducible rfl | contradiction | exact (if_pos (by repeat' (first | assumption | decide | constructor))).symm | exact (if_neg (fun hh => absurd hh (by assumption))).symm | exact (if_neg (fun hh => absurd hh.1 (by assumption))).symm | exact (if_neg (fun hh => absurd hh.2 (by assumption))).symm | exact (if_neg (fun hh => absurd hh.1.1 (by assumption))).symm | exact (if_neg (fun hh => absurd hh.1.2 (by assumption))).symm | exact (if_neg (fun hh => absurd hh.2.1 (by assumption))).symm | exact (if_neg (fun hh => absurd hh.2.2 (by assumption))).symm | exact (if_neg (fun hh => absurd hh.2.2.1 (by assumption))).symm | exact (if_neg (fun hh => absurd hh.2.2.2 (by assumption))).symm | exact (if_neg (fun hh => absurd hh.2.2.2.1 (by assumption))).symm | exact (if_neg (fun hh => absurd hh.2.2.2.2 (by assumption))).symm | decide | (exfalso; simp only [zi_le, zi_lt, zi_eq, zi_n0, zi_n1, zi_n2, zi_n3, zi_n4, zi_n23, zi_n24, zi_n100, zi_n399, zi_n60, zi_n255, zi_n99, zi_nm1, zi_n30] at *; omega) | (simp_all; done)), ⟨by rw [ht]; exact hP, hD⟩⟩, hS.F ht⟩) hS.2.2 dX6_about_13
set_option maxHeartbeats 4000000 in
set_option maxRecDepth 100000 in
theorem c_X6_asOf (l : Launch) (dC : Nat → ClassId) (dI : Nat → Nat → Nat) (k : Nat → ClassId)  (q : Nat → Nat) (aps : Int32) (ar1 : Nat → Int32) (ar2 : Nat → Int32) (ar3 : Nat → Int32) (ar4 : Nat → Int32) (ar5 : Nat → Int32) (ar6 : Nat → Int32) (ar7 : Nat → Int32) (ph : Int32) (pp : Int32) (py : Int32) (wy : Nat → Int64) (fa : Int64) (fb : Int64) (cm0 : Int64) (ia0 : Int32) (ih0 : Int32) (in0 : Int32) (il0 : Int32) (tx0 : Nat → Int32) (sh0 : Nat → Int64) (cm1 : Int64) (ia1 : Int32) (ih1 : Int32) (in1 : Int32) (il1 : Int32) (tx1 : Nat → Int32) (sh1 : Nat → Int64) (cm2 : Int64) (ia2 : Int32) (ih2 : Int32) (in2 : Int32) (il2 : Int32) (tx2 : Nat → Int32) (sh2 : Nat → Int64) (cm3 : Int64) (ia3 : Int32) (ih3 : Int32) (in3 : Int32) (il3 : Int32) (tx3 : Nat → Int32) (sh3 : Nat → Int64) (it0 : Nat → Int32) (it1 : Nat → Int32) (it2 : Nat → Int32) (it3 : Nat → Int32) (v : Int32) (sz : Nat)  : Met l yX6_asOf (wz yX6_asOf cX6_asOf 3 (some .int)) ({ frames := 0, cells := 0, slots := 0, locals := 0 }) (va_Pc [.ref (q 0), .int v] (zPre dC dI k (zTX k) (zX k q 0 (-1) 12 100 0 (fun _ => 0) aps 0 ar1 ar2 ar3 ar4 ar5 ar6 ar7 ph pp py wy fa fb cm0 ia0 0 0 ih0 in0 il0 tx0 sh0 cm1 ia1 0 0 ih1 in1 il1 tx1 sh1 cm2 ia2 0 0 ih2 in2 il2 tx2 sh2 cm3 ia3 0 0 ih3 in3 il3 tx3 sh3 (-1) 0 it0 (-1) 0 it1 (-1) 0 it2 (-1) 0 it3) sz)) (va_Qi (fun (r : Int32) (u : Int32) => (r = if ((-1) ≤ v ∧ v ≤ 0) then (-1) else (-2))) (fun u t => zPost dC dI (va_A (zX k q 0 (-1) 12 100 0 (fun _ => 0) aps 0 ar1 ar2 ar3 ar4 ar5 ar6 ar7 ph pp py wy fa fb cm0 ia0 0 0 ih0 in0 il0 tx0 sh0 cm1 ia1 0 0 ih1 in1 il1 tx1 sh1 cm2 ia2 0 0 ih2 in2 il2 tx2 sh2 cm3 ia3 0 0 ih3 in3 il3 tx3 sh3 (-1) 0 it0 (-1) 0 it1 (-1) 0 it2 (-1) 0 it3) sz) (zX k q 0 u 12 100 0 (fun _ => 0) aps 0 ar1 ar2 ar3 ar4 ar5 ar6 ar7 ph pp py wy fa fb cm0 ia0 0 0 ih0 in0 il0 tx0 sh0 cm1 ia1 0 0 ih1 in1 il1 tx1 sh1 cm2 ia2 0 0 ih2 in2 il2 tx2 sh2 cm3 ia3 0 0 ih3 in3 il3 tx3 sh3 (-1) 0 it0 (-1) 0 it1 (-1) 0 it2 (-1) 0 it3) t) (va_A (zX k q 0 (-1) 12 100 0 (fun _ => 0) aps 0 ar1 ar2 ar3 ar4 ar5 ar6 ar7 ph pp py wy fa fb cm0 ia0 0 0 ih0 in0 il0 tx0 sh0 cm1 ia1 0 0 ih1 in1 il1 tx1 sh1 cm2 ia2 0 0 ih2 in2 il2 tx2 sh2 cm3 ia3 0 0 ih3 in3 il3 tx3 sh3 (-1) 0 it0 (-1) 0 it1 (-1) 0 it2 (-1) 0 it3) sz)) 0 0 (va_A (zX k q 0 (-1) 12 100 0 (fun _ => 0) aps 0 ar1 ar2 ar3 ar4 ar5 ar6 ar7 ph pp py wy fa fb cm0 ia0 0 0 ih0 in0 il0 tx0 sh0 cm1 ia1 0 0 ih1 in1 il1 tx1 sh1 cm2 ia2 0 0 ih2 in2 il2 tx2 sh2 cm3 ia3 0 0 ih3 in3 il3 tx3 sh3 (-1) 0 it0 (-1) 0 it1 (-1) 0 it2 (-1) 0 it3) sz) := by
  refine Met.ofW (cc := cX6_asOf) (maxL := 3) (ret := (some .int)) (by decide) rfl ?_
  intro p e s m args below meth c s₁ B hml hv
  obtain ⟨rfl, hsz, hP, hK, hD0⟩ := hv
  have hx := B.exec
  have hb := B.bytes
  have hr := B.returns
  have hts : ∀ w ∈ zw, w.before _ s = true := fun w h => atoms_spec (ws := (wz yX6_asOf cX6_asOf 3 (some .int))) B.pre w (List.mem_cons_of_mem _ h)
  have hown : s.vm.findClass RX6 = some m.cls := findClass_of_methodNamed B.named
  have hlocks := B.notSynchronized
  subst hsz
  have hi6 := inw6
  have hD := hD0.self (sz := s.heap.size)
  generalize hAe : va_A (zX k q 0 (-1) 12 100 0 (fun _ => 0) aps 0 ar1 ar2 ar3 ar4 ar5 ar6 ar7 ph pp py wy fa fb cm0 ia0 0 0 ih0 in0 il0 tx0 sh0 cm1 ia1 0 0 ih1 in1 il1 tx1 sh1 cm2 ia2 0 0 ih2 in2 il2 tx2 sh2 cm3 ia3 0 0 ih3 in3 il3 tx3 sh3 (-1) 0 it0 (-1) 0 it1 (-1) 0 it2 (-1) 0 it3) s.heap.size = A at hD ⊢
  have hA : ∀ q : Nat, s.heap.size ≤ q → A q := fun q h => by rw [← hAe]; exact Or.inr h
  have hl := lv_entry ([.ref (q 0), .int v]) (n := 3) (Nat.le_of_ble_eq_true rfl)
  rw [lg_entry_eq]
  generalize (lg_sl ([.ref (q 0), .int v]) ++ List.replicate (3 - (lg_sl ([.ref (q 0), .int v])).length) Slot.unset).toArray = ls at hl ⊢
  have hl : lv_has ls 3 [(0, .ref (q 0)), (1, .int v)] := hl
  refine z_start (w := (zX k q 0 (-1) 12 100 0 (fun _ => 0) aps 0 ar1 ar2 ar3 ar4 ar5 ar6 ar7 ph pp py wy fa fb cm0 ia0 0 0 ih0 in0 il0 tx0 sh0 cm1 ia1 0 0 ih1 in1 il1 tx1 sh1 cm2 ia2 0 0 ih2 in2 il2 tx2 sh2 cm3 ia3 0 0 ih3 in3 il3 tx3 sh3 (-1) 0 it0 (-1) 0 it1 (-1) 0 it2 (-1) 0 it3)) hP hD (fun H locs hP hD hS => ?_)
  refine lv_iload_n hx hb dX6_asOf_0 rfl (lv_at hl 1 rfl) ?_
  refine lv_iconst (v := (-1)) hx hb dX6_asOf_1 (by decide) ?_
  refine lv_icmp_eq (tgt := 20) hx hb dX6_asOf_2 (by decide) (fun c_1 => ?_) (fun c_1 => ?_)
  · skip
    refine lv_aload_n hx hb dX6_asOf_20 rfl (lv_at hl 0 rfl) ?_
    refine va_get (D := (dC, dI)) (ci := 6) (v := .int (-1)) (C := RX6) (T := TX6) (N := 12) hx hb hts hi6 hown hK.1 hP 0 rfl rfl 8 (by decide) (hts _ wmt1_178) (fun _ h9 => h9) rfl dX6_asOf_21 ?_
    refine lv_istore_n (lv' := [(2, .int (-1)), (0, .ref (q 0)), (1, .int v)]) hx hb dX6_asOf_24 rfl hl (by decide) rfl (fun ls hl => ?_)
    refine lv_aload_n hx hb dX6_asOf_25 rfl (lv_at hl 1 rfl) ?_
    refine lv_iload_n hx hb dX6_asOf_26 rfl (lv_at hl 2 rfl) ?_
    refine va_put (D := (dC, dI)) (ci := 6) (v := .int v) (ty := .int) (C := RX6) (T := TX6) (N := 12) hx hb hts hi6 tyX6 tyX6_ok nmX6 hown hK.1 hP hD hS 0 rfl rfl 8 (by decide) (hts _ wmt1_178) (fun _ h9 => h9) rfl (by decide +kernel) rfl rfl (Nat.le_of_ble_eq_true rfl) dX6_asOf_27 (fun H locs hP hD hS => ?_)
    have hP : va_P (dC, dI) vwCl (zX k q 0 v 12 100 0 (fun _ => 0) aps 0 ar1 ar2 ar3 ar4 ar5 ar6 ar7 ph pp py wy fa fb cm0 ia0 0 0 ih0 in0 il0 tx0 sh0 cm1 ia1 0 0 ih1 in1 il1 tx1 sh1 cm2 ia2 0 0 ih2 in2 il2 tx2 sh2 cm3 ia3 0 0 ih3 in3 il3 tx3 sh3 (-1) 0 it0 (-1) 0 it1 (-1) 0 it2 (-1) 0 it3) H := hP
    have hD : va_D A (zX k q 0 v 12 100 0 (fun _ => 0) aps 0 ar1 ar2 ar3 ar4 ar5 ar6 ar7 ph pp py wy fa fb cm0 ia0 0 0 ih0 in0 il0 tx0 sh0 cm1 ia1 0 0 ih1 in1 il1 tx1 sh1 cm2 ia2 0 0 ih2 in2 il2 tx2 sh2 cm3 ia3 0 0 ih3 in3 il3 tx3 sh3 (-1) 0 it0 (-1) 0 it1 (-1) 0 it2 (-1) 0 it3) := hD
    refine lv_iload_n hx hb dX6_asOf_30 rfl (lv_at hl 0 rfl) ?_
    exact W.iret (v := (-1)) hx hb hr (fun t ht hW => ⟨⟨(-1), (v), rfl, (by first | exact zas1 (by assumption) | exact zas2 (by assumption) (by assumption) | exact zas4 (by assumption) | exact zas3 (by assumption) (by assumption)), ⟨by rw [ht]; exact hP, hD⟩⟩, hS.F ht⟩) hS.2.2 dX6_asOf_31
  · skip
    refine lv_iload_n hx hb dX6_asOf_5 rfl (lv_at hl 1 rfl) ?_
    refine lv_if_lt (tgt := 17) hx hb dX6_asOf_6 (by decide) (fun c_2 => ?_) (fun c_2 => ?_)
    · skip
      replace c_2 := Int32.not_le.mpr c_2
      refine lv_bipush (v := (-2)) hx hb dX6_asOf_17 (by decide) ?_
      exact W.iret (v := (-2)) hx hb hr (fun t ht hW => ⟨⟨(-2), ((-1)), rfl, (by first | exact zas1 (by assumption) | exact zas2 (by assumption) (by assumption) | exact zas4 (by assumption) | exact zas3 (by assumption) (by assumption)), ⟨by rw [ht]; exact hP, hD⟩⟩, hS.F ht⟩) hS.2.2 dX6_asOf_19
    · skip
      replace c_2 := Int32.not_lt.mp c_2
      refine lv_iload_n hx hb dX6_asOf_9 rfl (lv_at hl 1 rfl) ?_
      refine lv_aload_n hx hb dX6_asOf_10 rfl (lv_at hl 0 rfl) ?_
      refine va_get (D := (dC, dI)) (ci := 6) (v := .int 0) (C := RX6) (T := TX6) (N := 12) hx hb hts hi6 hown hK.1 hP 0 rfl rfl 7 (by decide) (hts _ wmt1_177) (fun _ h9 => h9) rfl dX6_asOf_11 ?_
      refine lv_icmp_le (tgt := 20) hx hb dX6_asOf_14 (by decide) (fun c_3 => ?_) (fun c_3 => ?_)
      · skip
        refine lv_aload_n hx hb dX6_asOf_20 rfl (lv_at hl 0 rfl) ?_
        refine va_get (D := (dC, dI)) (ci := 6) (v := .int (-1)) (C := RX6) (T := TX6) (N := 12) hx hb hts hi6 hown hK.1 hP 0 rfl rfl 8 (by decide) (hts _ wmt1_178) (fun _ h9 => h9) rfl dX6_asOf_21 ?_
        refine lv_istore_n (lv' := [(2, .int (-1)), (0, .ref (q 0)), (1, .int v)]) hx hb dX6_asOf_24 rfl hl (by decide) rfl (fun ls hl => ?_)
        refine lv_aload_n hx hb dX6_asOf_25 rfl (lv_at hl 1 rfl) ?_
        refine lv_iload_n hx hb dX6_asOf_26 rfl (lv_at hl 2 rfl) ?_
        refine va_put (D := (dC, dI)) (ci := 6) (v := .int v) (ty := .int) (C := RX6) (T := TX6) (N := 12) hx hb hts hi6 tyX6 tyX6_ok nmX6 hown hK.1 hP hD hS 0 rfl rfl 8 (by decide) (hts _ wmt1_178) (fun _ h9 => h9) rfl (by decide +kernel) rfl rfl (Nat.le_of_ble_eq_true rfl) dX6_asOf_27 (fun H locs hP hD hS => ?_)
        have hP : va_P (dC, dI) vwCl (zX k q 0 v 12 100 0 (fun _ => 0) aps 0 ar1 ar2 ar3 ar4 ar5 ar6 ar7 ph pp py wy fa fb cm0 ia0 0 0 ih0 in0 il0 tx0 sh0 cm1 ia1 0 0 ih1 in1 il1 tx1 sh1 cm2 ia2 0 0 ih2 in2 il2 tx2 sh2 cm3 ia3 0 0 ih3 in3 il3 tx3 sh3 (-1) 0 it0 (-1) 0 it1 (-1) 0 it2 (-1) 0 it3) H := hP
        have hD : va_D A (zX k q 0 v 12 100 0 (fun _ => 0) aps 0 ar1 ar2 ar3 ar4 ar5 ar6 ar7 ph pp py wy fa fb cm0 ia0 0 0 ih0 in0 il0 tx0 sh0 cm1 ia1 0 0 ih1 in1 il1 tx1 sh1 cm2 ia2 0 0 ih2 in2 il2 tx2 sh2 cm3 ia3 0 0 ih3 in3 il3 tx3 sh3 (-1) 0 it0 (-1) 0 it1 (-1) 0 it2 (-1) 0 it3) := hD
        refine lv_iload_n hx hb dX6_asOf_30 rfl (lv_at hl 0 rfl) ?_
        exact W.iret (v := (-1)) hx hb hr (fun t ht hW => ⟨⟨(-1), (v), rfl, (by first | exact zas1 (by assumption) | exact zas2 (by assumption) (by assumption) | exact zas4 (by assumption) | exact zas3 (by assumption) (by assumption)), ⟨by rw [ht]; exact hP, hD⟩⟩, hS.F ht⟩) hS.2.2 dX6_asOf_31
      · skip
        refine lv_bipush (v := (-2)) hx hb dX6_asOf_17 (by decide) ?_
        exact W.iret (v := (-2)) hx hb hr (fun t ht hW => ⟨⟨(-2), ((-1)), rfl, (by first | exact zas1 (by assumption) | exact zas2 (by assumption) (by assumption) | exact zas4 (by assumption) | exact zas3 (by assumption) (by assumption)), ⟨by rw [ht]; exact hP, hD⟩⟩, hS.F ht⟩) hS.2.2 dX6_asOf_19
set_option maxHeartbeats 4000000 in
set_option maxRecDepth 100000 in
theorem c_X6_poll (l : Launch) (dC : Nat → ClassId) (dI : Nat → Nat → Nat) (k : Nat → ClassId)  (q : Nat → Nat) (aps : Int32) (ar1 : Nat → Int32) (ar2 : Nat → Int32) (ar3 : Nat → Int32) (ar4 : Nat → Int32) (ar5 : Nat → Int32) (ar6 : Nat → Int32) (ar7 : Nat → Int32) (ph : Int32) (pp : Int32) (py : Int32) (wy : Nat → Int64) (fa : Int64) (fb : Int64) (cm0 : Int64) (ia0 : Int32) (ih0 : Int32) (in0 : Int32) (il0 : Int32) (tx0 : Nat → Int32) (sh0 : Nat → Int64) (cm1 : Int64) (ia1 : Int32) (ih1 : Int32) (in1 : Int32) (il1 : Int32) (tx1 : Nat → Int32) (sh1 : Nat → Int64) (cm2 : Int64) (ia2 : Int32) (ih2 : Int32) (in2 : Int32) (il2 : Int32) (tx2 : Nat → Int32) (sh2 : Nat → Int64) (cm3 : Int64) (ia3 : Int32) (ih3 : Int32) (in3 : Int32) (il3 : Int32) (tx3 : Nat → Int32) (sh3 : Nat → Int64) (it0 : Nat → Int32) (it1 : Nat → Int32) (it2 : Nat → Int32) (it3 : Nat → Int32) (g : Int32) (d : Int32) (w : Int32) (sz : Nat)  : Met l yX6_poll (wz yX6_poll cX6_poll 4 (some .int)) ({ frames := 2, cells := 0, slots := 0, locals := 45 }) (va_Pc [.ref (q 0), .int g, .int d, .int w] (zPre dC dI k (zTX k) (zX k q 0 (-1) 12 100 0 (fun _ => 0) aps 0 ar1 ar2 ar3 ar4 ar5 ar6 ar7 ph pp py wy fa fb cm0 ia0 0 0 ih0 in0 il0 tx0 sh0 cm1 ia1 0 0 ih1 in1 il1 tx1 sh1 cm2 ia2 0 0 ih2 in2 il2 tx2 sh2 cm3 ia3 0 0 ih3 in3 il3 tx3 sh3 (-1) 0 it0 (-1) 0 it1 (-1) 0 it2 (-1) 0 it3) sz)) (va_Qi (fun (r : Int32) (u : Int32 × Int32 × Int32) => (r = if ((0 ≤ (g : Int32) ∧ (g : Int32) ≤ 3) ∧ (0 ≤ (d : Int32) ∧ (d : Int32) ≤ 3)) ∧ (0 ≤ (w : Int32) ∧ (w : Int32) ≤ 1) then 0 else (-2))) (fun u t => zPost dC dI (va_A (zX k q 0 (-1) 12 100 0 (fun _ => 0) aps 0 ar1 ar2 ar3 ar4 ar5 ar6 ar7 ph pp py wy fa fb cm0 ia0 0 0 ih0 in0 il0 tx0 sh0 cm1 ia1 0 0 ih1 in1 il1 tx1 sh1 cm2 ia2 0 0 ih2 in2 il2 tx2 sh2 cm3 ia3 0 0 ih3 in3 il3 tx3 sh3 (-1) 0 it0 (-1) 0 it1 (-1) 0 it2 (-1) 0 it3) sz) (zX k q 0 (-1) 12 100 0 (fun _ => 0) aps 0 ar1 ar2 ar3 ar4 ar5 ar6 ar7 u.1 u.2.1 u.2.2 wy fa fb cm0 ia0 0 0 ih0 in0 il0 tx0 sh0 cm1 ia1 0 0 ih1 in1 il1 tx1 sh1 cm2 ia2 0 0 ih2 in2 il2 tx2 sh2 cm3 ia3 0 0 ih3 in3 il3 tx3 sh3 (-1) 0 it0 (-1) 0 it1 (-1) 0 it2 (-1) 0 it3) t) (va_A (zX k q 0 (-1) 12 100 0 (fun _ => 0) aps 0 ar1 ar2 ar3 ar4 ar5 ar6 ar7 ph pp py wy fa fb cm0 ia0 0 0 ih0 in0 il0 tx0 sh0 cm1 ia1 0 0 ih1 in1 il1 tx1 sh1 cm2 ia2 0 0 ih2 in2 il2 tx2 sh2 cm3 ia3 0 0 ih3 in3 il3 tx3 sh3 (-1) 0 it0 (-1) 0 it1 (-1) 0 it2 (-1) 0 it3) sz)) 0 0 (va_A (zX k q 0 (-1) 12 100 0 (fun _ => 0) aps 0 ar1 ar2 ar3 ar4 ar5 ar6 ar7 ph pp py wy fa fb cm0 ia0 0 0 ih0 in0 il0 tx0 sh0 cm1 ia1 0 0 ih1 in1 il1 tx1 sh1 cm2 ia2 0 0 ih2 in2 il2 tx2 sh2 cm3 ia3 0 0 ih3 in3 il3 tx3 sh3 (-1) 0 it0 (-1) 0 it1 (-1) 0 it2 (-1) 0 it3) sz) := by
  refine Met.ofW (cc := cX6_poll) (maxL := 4) (ret := (some .int)) (by decide) rfl ?_
  intro p e s m args below meth c s₁ B hml hv
  obtain ⟨rfl, hsz, hP, hK, hD0⟩ := hv
  have hx := B.exec
  have hb := B.bytes
  have hr := B.returns
  have hts : ∀ w ∈ zw, w.before _ s = true := fun w h => atoms_spec (ws := (wz yX6_poll cX6_poll 4 (some .int))) B.pre w (List.mem_cons_of_mem _ h)
  have hown : s.vm.findClass RX6 = some m.cls := findClass_of_methodNamed B.named
  have hlocks := B.notSynchronized
  subst hsz
  have hi4 := inw4
  have hi6 := inw6
  have hD := hD0.self (sz := s.heap.size)
  generalize hAe : va_A (zX k q 0 (-1) 12 100 0 (fun _ => 0) aps 0 ar1 ar2 ar3 ar4 ar5 ar6 ar7 ph pp py wy fa fb cm0 ia0 0 0 ih0 in0 il0 tx0 sh0 cm1 ia1 0 0 ih1 in1 il1 tx1 sh1 cm2 ia2 0 0 ih2 in2 il2 tx2 sh2 cm3 ia3 0 0 ih3 in3 il3 tx3 sh3 (-1) 0 it0 (-1) 0 it1 (-1) 0 it2 (-1) 0 it3) s.heap.size = A at hD ⊢
  have hA : ∀ q : Nat, s.heap.size ≤ q → A q := fun q h => by rw [← hAe]; exact Or.inr h
  have hl := lv_entry ([.ref (q 0), .int g, .int d, .int w]) (n := 4) (Nat.le_of_ble_eq_true rfl)
  rw [lg_entry_eq]
  generalize (lg_sl ([.ref (q 0), .int g, .int d, .int w]) ++ List.replicate (4 - (lg_sl ([.ref (q 0), .int g, .int d, .int w])).length) Slot.unset).toArray = ls at hl ⊢
  have hl : lv_has ls 4 [(0, .ref (q 0)), (1, .int g), (2, .int d), (3, .int w)] := hl
  refine z_start (w := (zX k q 0 (-1) 12 100 0 (fun _ => 0) aps 0 ar1 ar2 ar3 ar4 ar5 ar6 ar7 ph pp py wy fa fb cm0 ia0 0 0 ih0 in0 il0 tx0 sh0 cm1 ia1 0 0 ih1 in1 il1 tx1 sh1 cm2 ia2 0 0 ih2 in2 il2 tx2 sh2 cm3 ia3 0 0 ih3 in3 il3 tx3 sh3 (-1) 0 it0 (-1) 0 it1 (-1) 0 it2 (-1) 0 it3)) hP hD (fun H locs hP hD hS => ?_)
  refine lv_iload_n hx hb dX6_poll_0 rfl (lv_at hl 1 rfl) ?_
  refine zc0_i (w := (zX k q 0 (-1) 12 100 0 (fun _ => 0) aps 0 ar1 ar2 ar3 ar4 ar5 ar6 ar7 ph pp py wy fa fb cm0 ia0 0 0 ih0 in0 il0 tx0 sh0 cm1 ia1 0 0 ih1 in1 il1 tx1 sh1 cm2 ia2 0 0 ih2 in2 il2 tx2 sh2 cm3 ia3 0 0 ih3 in3 il3 tx3 sh3 (-1) 0 it0 (-1) 0 it1 (-1) 0 it2 (-1) 0 it3)) (va_runS (As := [.int g]) (rest := []) ⟨hx, hb, hml, hown, hts⟩ (c_X6_isGroup l dC dI k (zTX k) g _ ) (va_cwS 1 hts (gzS wmt2_80 wmt2_81 wmt1_1 wmt2_82) rfl rfl rfl (by decide +kernel) ⟨Nat.le_of_ble_eq_true rfl, Nat.le_of_ble_eq_true rfl⟩) (zp0_S hK) rfl rfl hl.1 rfl (lv_room (Nat.le_of_ble_eq_true rfl)) dX6_poll_1 ⟨Nat.le_of_ble_eq_true rfl, Nat.le_of_ble_eq_true rfl⟩) hP hS hA (fun r_1 u_2 H locs w_3 hP hS => ?_)
  rcases w_3 with ⟨e_5, h_4⟩ | ⟨e_7, h_6⟩
  · skip
    replace e_5 : r_1 = 1 := e_5
    subst e_5
    replace h_4 : 0 ≤ (g : Int32) ∧ (g : Int32) ≤ 3 := h_4
    refine lv_if_eq (tgt := 21) hx hb dX6_poll_4 (by decide) (fun c_8 => ?_) (fun c_8 => ?_)
    · skip
      exact absurd c_8 (by decide)
    · skip
      refine lv_iload_n hx hb dX6_poll_7 rfl (lv_at hl 2 rfl) ?_
      refine zc0_i (w := (zX k q 0 (-1) 12 100 0 (fun _ => 0) aps 0 ar1 ar2 ar3 ar4 ar5 ar6 ar7 ph pp py wy fa fb cm0 ia0 0 0 ih0 in0 il0 tx0 sh0 cm1 ia1 0 0 ih1 in1 il1 tx1 sh1 cm2 ia2 0 0 ih2 in2 il2 tx2 sh2 cm3 ia3 0 0 ih3 in3 il3 tx3 sh3 (-1) 0 it0 (-1) 0 it1 (-1) 0 it2 (-1) 0 it3)) (va_runS (As := [.int d]) (rest := []) ⟨hx, hb, hml, hown, hts⟩ (c_X6_isDesign l dC dI k (zTX k) d _ ) (va_cwS 1 hts (gzS wmt1_211 wmt1_212 wmt1_1 wmt1_213) rfl rfl rfl (by decide +kernel) ⟨Nat.le_of_ble_eq_true rfl, Nat.le_of_ble_eq_true rfl⟩) (zp0_S hK) rfl rfl hl.1 rfl (lv_room (Nat.le_of_ble_eq_true rfl)) dX6_poll_8 ⟨Nat.le_of_ble_eq_true rfl, Nat.le_of_ble_eq_true rfl⟩) hP hS hA (fun r_9 u_10 H locs w_11 hP hS => ?_)
      rcases w_11 with ⟨e_13, h_12⟩ | ⟨e_15, h_14⟩
      · skip
        replace e_13 : r_9 = 1 := e_13
        subst e_13
        replace h_12 : 0 ≤ (d : Int32) ∧ (d : Int32) ≤ 3 := h_12
        refine lv_if_eq (tgt := 21) hx hb dX6_poll_11 (by decide) (fun c_16 => ?_) (fun c_16 => ?_)
        · skip
          exact absurd c_16 (by decide)
        · skip
          refine lv_iload_n hx hb dX6_poll_14 rfl (lv_at hl 3 rfl) ?_
          refine zc0_i (w := (zX k q 0 (-1) 12 100 0 (fun _ => 0) aps 0 ar1 ar2 ar3 ar4 ar5 ar6 ar7 ph pp py wy fa fb cm0 ia0 0 0 ih0 in0 il0 tx0 sh0 cm1 ia1 0 0 ih1 in1 il1 tx1 sh1 cm2 ia2 0 0 ih2 in2 il2 tx2 sh2 cm3 ia3 0 0 ih3 in3 il3 tx3 sh3 (-1) 0 it0 (-1) 0 it1 (-1) 0 it2 (-1) 0 it3)) (va_runS (As := [.int w]) (rest := []) ⟨hx, hb, hml, hown, hts⟩ (c_X6_isEither l dC dI k (zTX k) w _ ) (va_cwS 1 hts (gzS wmt2_48 wmt2_49 wmt1_1 wmt2_50) rfl rfl rfl (by decide +kernel) ⟨Nat.le_of_ble_eq_true rfl, Nat.le_of_ble_eq_true rfl⟩) (zp0_S hK) rfl rfl hl.1 rfl (lv_room (Nat.le_of_ble_eq_true rfl)) dX6_poll_15 ⟨Nat.le_of_ble_eq_true rfl, Nat.le_of_ble_eq_true rfl⟩) hP hS hA (fun r_17 u_18 H locs w_19 hP hS => ?_)
          rcases w_19 with ⟨e_21, h_20⟩ | ⟨e_23, h_22⟩
          · skip
            replace e_21 : r_17 = 1 := e_21
            subst e_21
            replace h_20 : 0 ≤ (w : Int32) ∧ (w : Int32) ≤ 1 := h_20
            refine lv_if_ne (tgt := 24) hx hb dX6_poll_18 (by decide) (fun c_24 => ?_) (fun c_24 => ?_)
            · skip
              refine lv_aload_n hx hb dX6_poll_24 rfl (lv_at hl 0 rfl) ?_
              refine lv_iload_n hx hb dX6_poll_25 rfl (lv_at hl 1 rfl) ?_
              refine lv_iload_n hx hb dX6_poll_26 rfl (lv_at hl 2 rfl) ?_
              refine zcA_v (w := (zX k q 0 (-1) 12 100 0 (fun _ => 0) aps 0 ar1 ar2 ar3 ar4 ar5 ar6 ar7 ph pp py wy fa fb cm0 ia0 0 0 ih0 in0 il0 tx0 sh0 cm1 ia1 0 0 ih1 in1 il1 tx1 sh1 cm2 ia2 0 0 ih2 in2 il2 tx2 sh2 cm3 ia3 0 0 ih3 in3 il3 tx3 sh3 (-1) 0 it0 (-1) 0 it1 (-1) 0 it2 (-1) 0 it3)) (va_runV (As := [.int g, .int d]) (rest := []) ⟨hx, hb, hml, hown, hts⟩ (c_X6_takePoll l dC dI k  q aps ar1 ar2 ar3 ar4 ar5 ar6 ar7 ph pp py wy fa fb cm0 ia0 ih0 in0 il0 tx0 sh0 cm1 ia1 ih1 in1 il1 tx1 sh1 cm2 ia2 ih2 in2 il2 tx2 sh2 cm3 ia3 ih3 in3 il3 tx3 sh3 it0 it1 it2 it3 g d _ ) (cwV 2 hts (gzV wmt2_134 wmt2_136 wmp1_9 wmt1_1 wmt2_137) rfl rfl rfl (by decide +kernel) ⟨Nat.le_of_ble_eq_true rfl, Nat.le_of_ble_eq_true rfl⟩) (zpA_V (ci := 6) (q0 := 0) hK hP hD rfl rfl) rfl rfl hl.1 rfl (lv_room (Nat.le_of_ble_eq_true rfl)) dX6_poll_27 ⟨Nat.le_of_ble_eq_true rfl, Nat.le_of_ble_eq_true rfl⟩) hD hS hA (fun u_26 H locs w_27 hP hD hS => ?_)
              have hP : va_P (dC, dI) vwCl (zX k q 0 (-1) 12 100 0 (fun _ => 0) aps 0 ar1 ar2 ar3 ar4 ar5 ar6 ar7 0 0 0 wy fa fb cm0 ia0 0 0 ih0 in0 il0 tx0 sh0 cm1 ia1 0 0 ih1 in1 il1 tx1 sh1 cm2 ia2 0 0 ih2 in2 il2 tx2 sh2 cm3 ia3 0 0 ih3 in3 il3 tx3 sh3 (-1) 0 it0 (-1) 0 it1 (-1) 0 it2 (-1) 0 it3) H := hP
              have hD : va_D A (zX k q 0 (-1) 12 100 0 (fun _ => 0) aps 0 ar1 ar2 ar3 ar4 ar5 ar6 ar7 0 0 0 wy fa fb cm0 ia0 0 0 ih0 in0 il0 tx0 sh0 cm1 ia1 0 0 ih1 in1 il1 tx1 sh1 cm2 ia2 0 0 ih2 in2 il2 tx2 sh2 cm3 ia3 0 0 ih3 in3 il3 tx3 sh3 (-1) 0 it0 (-1) 0 it1 (-1) 0 it2 (-1) 0 it3) := hD
              refine lv_iload_n hx hb dX6_poll_30 rfl (lv_at hl 3 rfl) ?_
              refine lv_if_ne (tgt := 44) hx hb dX6_poll_31 (by decide) (fun c_28 => ?_) (fun c_28 => ?_)
              · skip
                refine lv_aload_n hx hb dX6_poll_44 rfl (lv_at hl 0 rfl) ?_
                refine va_get (D := (dC, dI)) (ci := 6) (v := .ref (q 12)) (C := RX6) (T := TX6) (N := 12) hx hb hts hi6 hown hK.1 hP 0 rfl rfl 4 (by decide) (hts _ wmt1_174) (fun _ h9 => h9) rfl dX6_poll_45 ?_
                refine va_get (D := (dC, dI)) (ci := 4) (v := .int 0) (C := RX4) (T := TX4) (N := 3) hx hb hts hi4 hown hK.1 hP 12 rfl rfl 2 (by decide) (hts _ wmt1_78) (fun _ h9 => h9) rfl dX6_poll_48 ?_
                exact W.iret (v := 0) hx hb hr (fun t ht hW => ⟨⟨0, (0, 0, 0), rfl, (by first | assumption | with_reducible rfl | contradiction | exact (if_pos (by repeat' (first | assumption | decide | constructor))).symm | exact (if_neg (fun hh => absurd hh (by assumption))).symm | exact (if_neg (fun hh => absurd hh.1 (by assumption))).symm | exact (if_neg (fun hh => absurd hh.2 (by assumption))).symm | exact (if_neg (fun hh => absurd hh.1.1 (by assumption))).symm | exact (if_neg (fun hh => absurd hh.1.2 (by assumption))).symm | exact (if_neg (fun hh => absurd hh.2.1 (by assumption))).symm | exact (if_neg (fun hh => absurd hh.2.2 (by assumption))).symm | exact (if_neg (fun hh => absurd hh.2.2.1 (by assumption))).symm | exact (if_neg (fun hh => absurd hh.2.2.2 (by assumption))).symm | exact (if_neg (fun hh => absurd hh.2.2.2.1 (by assumption))).symm | exact (if_neg (fun hh => absurd hh.2.2.2.2 (by assumption))).symm | decide | (exfalso; simp only [zi_le, zi_lt, zi_eq, zi_n0, zi_n1, zi_n2, zi_n3, zi_n4, zi_n23, zi_n24, zi_n100, zi_n399, zi_n60, zi_n255, zi_n99, zi_nm1, zi_n30] at *; omega) | (simp_all; done)), ⟨by rw [ht]; exact hP, hD⟩⟩, hS.F ht⟩) hS.2.2 dX6_poll_51
              · skip
                refine lv_aload_n hx hb dX6_poll_34 rfl (lv_at hl 0 rfl) ?_
                refine va_get (D := (dC, dI)) (ci := 6) (v := .ref (q 12)) (C := RX6) (T := TX6) (N := 12) hx hb hts hi6 hown hK.1 hP 0 rfl rfl 4 (by decide) (hts _ wmt1_174) (fun _ h9 => h9) rfl dX6_poll_35 ?_
                refine va_get (D := (dC, dI)) (ci := 4) (v := .int 0) (C := RX4) (T := TX4) (N := 3) hx hb hts hi4 hown hK.1 hP 12 rfl rfl 1 (by decide) (hts _ wmt1_76) (fun _ h9 => h9) rfl dX6_poll_38 ?_
                refine lv_goto (tgt := 51) hx hb dX6_poll_41 (by decide) ?_
                exact W.iret (v := 0) hx hb hr (fun t ht hW => ⟨⟨0, (0, 0, 0), rfl, (by first | assumption | with_reducible rfl | contradiction | exact (if_pos (by repeat' (first | assumption | decide | constructor))).symm | exact (if_neg (fun hh => absurd hh (by assumption))).symm | exact (if_neg (fun hh => absurd hh.1 (by assumption))).symm | exact (if_neg (fun hh => absurd hh.2 (by assumption))).symm | exact (if_neg (fun hh => absurd hh.1.1 (by assumption))).symm | exact (if_neg (fun hh => absurd hh.1.2 (by assumption))).symm | exact (if_neg (fun hh => absurd hh.2.1 (by assumption))).symm | exact (if_neg (fun hh => absurd hh.2.2 (by assumption))).symm | exact (if_neg (fun hh => absurd hh.2.2.1 (by assumption))).symm | exact (if_neg (fun hh => absurd hh.2.2.2 (by assumption))).symm | exact (if_neg (fun hh => absurd hh.2.2.2.1 (by assumption))).symm | exact (if_neg (fun hh => absurd hh.2.2.2.2 (by assumption))).symm | decide | (exfalso; simp only [zi_le, zi_lt, zi_eq, zi_n0, zi_n1, zi_n2, zi_n3, zi_n4, zi_n23, zi_n24, zi_n100, zi_n399, zi_n60, zi_n255, zi_n99, zi_nm1, zi_n30] at *; omega) | (simp_all; done)), ⟨by rw [ht]; exact hP, hD⟩⟩, hS.F ht⟩) hS.2.2 dX6_poll_51
            · skip
              exact absurd c_24 (by decide)
          · skip
            replace e_23 : r_17 = 0 := e_23
            subst e_23
            replace h_22 : ¬ (0 ≤ (w : Int32) ∧ (w : Int32) ≤ 1) := h_22
            refine lv_if_ne (tgt := 24) hx hb dX6_poll_18 (by decide) (fun c_29 => ?_) (fun c_29 => ?_)
            · skip
              exact absurd c_29 (by decide)
            · skip
              refine lv_bipush (v := (-2)) hx hb dX6_poll_21 (by decide) ?_
              exact W.iret (v := (-2)) hx hb hr (fun t ht hW => ⟨⟨(-2), (ph, pp, py), rfl, (by first | assumption | with_reducible rfl | contradiction | exact (if_pos (by repeat' (first | assumption | decide | constructor))).symm | exact (if_neg (fun hh => absurd hh (by assumption))).symm | exact (if_neg (fun hh => absurd hh.1 (by assumption))).symm | exact (if_neg (fun hh => absurd hh.2 (by assumption))).symm | exact (if_neg (fun hh => absurd hh.1.1 (by assumption))).symm | exact (if_neg (fun hh => absurd hh.1.2 (by assumption))).symm | exact (if_neg (fun hh => absurd hh.2.1 (by assumption))).symm | exact (if_neg (fun hh => absurd hh.2.2 (by assumption))).symm | exact (if_neg (fun hh => absurd hh.2.2.1 (by assumption))).symm | exact (if_neg (fun hh => absurd hh.2.2.2 (by assumption))).symm | exact (if_neg (fun hh => absurd hh.2.2.2.1 (by assumption))).symm | exact (if_neg (fun hh => absurd hh.2.2.2.2 (by assumption))).symm | decide | (exfalso; simp only [zi_le, zi_lt, zi_eq, zi_n0, zi_n1, zi_n2, zi_n3, zi_n4, zi_n23, zi_n24, zi_n100, zi_n399, zi_n60, zi_n255, zi_n99, zi_nm1, zi_n30] at *; omega) | (simp_all; done)), ⟨by rw [ht]; exact hP, hD⟩⟩, hS.F ht⟩) hS.2.2 dX6_poll_23
      · skip
        replace e_15 : r_9 = 0 := e_15
        subst e_15
        replace h_14 : ¬ (0 ≤ (d : Int32) ∧ (d : Int32) ≤ 3) := h_14
        refine lv_if_eq (tgt := 21) hx hb dX6_poll_11 (by decide) (fun c_30 => ?_) (fun c_30 => ?_)
        · skip
          refine lv_bipush (v := (-2)) hx hb dX6_poll_21 (by decide) ?_
          exact W.iret (v := (-2)) hx hb hr (fun t ht hW => ⟨⟨(-2), (ph, pp, py), rfl, (by first | assumption | with_reducible rfl | contradiction | exact (if_pos (by repeat' (first | assumption | decide | constructor))).symm | exact (if_neg (fun hh => absurd hh (by assumption))).symm | exact (if_neg (fun hh => absurd hh.1 (by assumption))).symm | exact (if_neg (fun hh => absurd hh.2 (by assumption))).symm | exact (if_neg (fun hh => absurd hh.1.1 (by assumption))).symm | exact (if_neg (fun hh => absurd hh.1.2 (by assumption))).symm | exact (if_neg (fun hh => absurd hh.2.1 (by assumption))).symm | exact (if_neg (fun hh => absurd hh.2.2 (by assumption))).symm | exact (if_neg (fun hh => absurd hh.2.2.1 (by assumption))).symm | exact (if_neg (fun hh => absurd hh.2.2.2 (by assumption))).symm | exact (if_neg (fun hh => absurd hh.2.2.2.1 (by assumption))).symm | exact (if_neg (fun hh => absurd hh.2.2.2.2 (by assumption))).symm | decide | (exfalso; simp only [zi_le, zi_lt, zi_eq, zi_n0, zi_n1, zi_n2, zi_n3, zi_n4, zi_n23, zi_n24, zi_n100, zi_n399, zi_n60, zi_n255, zi_n99, zi_nm1, zi_n30] at *; omega) | (simp_all; done)), ⟨by rw [ht]; exact hP, hD⟩⟩, hS.F ht⟩) hS.2.2 dX6_poll_23
        · skip
          exact absurd (by decide) c_30
  · skip
    replace e_7 : r_1 = 0 := e_7
    subst e_7
    replace h_6 : ¬ (0 ≤ (g : Int32) ∧ (g : Int32) ≤ 3) := h_6
    refine lv_if_eq (tgt := 21) hx hb dX6_poll_4 (by decide) (fun c_31 => ?_) (fun c_31 => ?_)
    · skip
      refine lv_bipush (v := (-2)) hx hb dX6_poll_21 (by decide) ?_
      exact W.iret (v := (-2)) hx hb hr (fun t ht hW => ⟨⟨(-2), (ph, pp, py), rfl, (by first | assumption | with_reducible rfl | contradiction | exact (if_pos (by repeat' (first | assumption | decide | constructor))).symm | exact (if_neg (fun hh => absurd hh (by assumption))).symm | exact (if_neg (fun hh => absurd hh.1 (by assumption))).symm | exact (if_neg (fun hh => absurd hh.2 (by assumption))).symm | exact (if_neg (fun hh => absurd hh.1.1 (by assumption))).symm | exact (if_neg (fun hh => absurd hh.1.2 (by assumption))).symm | exact (if_neg (fun hh => absurd hh.2.1 (by assumption))).symm | exact (if_neg (fun hh => absurd hh.2.2 (by assumption))).symm | exact (if_neg (fun hh => absurd hh.2.2.1 (by assumption))).symm | exact (if_neg (fun hh => absurd hh.2.2.2 (by assumption))).symm | exact (if_neg (fun hh => absurd hh.2.2.2.1 (by assumption))).symm | exact (if_neg (fun hh => absurd hh.2.2.2.2 (by assumption))).symm | decide | (exfalso; simp only [zi_le, zi_lt, zi_eq, zi_n0, zi_n1, zi_n2, zi_n3, zi_n4, zi_n23, zi_n24, zi_n100, zi_n399, zi_n60, zi_n255, zi_n99, zi_nm1, zi_n30] at *; omega) | (simp_all; done)), ⟨by rw [ht]; exact hP, hD⟩⟩, hS.F ht⟩) hS.2.2 dX6_poll_23
    · skip
      exact absurd (by decide) c_31
set_option maxHeartbeats 4000000 in
set_option maxRecDepth 100000 in
theorem c_X6_estimateRefusal (l : Launch) (dC : Nat → ClassId) (dI : Nat → Nat → Nat) (k : Nat → ClassId)  (q : Nat → Nat) (aps : Int32) (ar1 : Nat → Int32) (ar2 : Nat → Int32) (ar3 : Nat → Int32) (ar4 : Nat → Int32) (ar5 : Nat → Int32) (ar6 : Nat → Int32) (ar7 : Nat → Int32) (ph : Int32) (pp : Int32) (py : Int32) (wy : Nat → Int64) (fa : Int64) (fb : Int64) (cm0 : Int64) (ia0 : Int32) (ih0 : Int32) (in0 : Int32) (il0 : Int32) (tx0 : Nat → Int32) (sh0 : Nat → Int64) (cm1 : Int64) (ia1 : Int32) (ih1 : Int32) (in1 : Int32) (il1 : Int32) (tx1 : Nat → Int32) (sh1 : Nat → Int64) (cm2 : Int64) (ia2 : Int32) (ih2 : Int32) (in2 : Int32) (il2 : Int32) (tx2 : Nat → Int32) (sh2 : Nat → Int64) (cm3 : Int64) (ia3 : Int32) (ih3 : Int32) (in3 : Int32) (il3 : Int32) (tx3 : Nat → Int32) (sh3 : Nat → Int64) (it0 : Nat → Int32) (it1 : Nat → Int32) (it2 : Nat → Int32) (it3 : Nat → Int32) (g : Int32) (d : Int32) (w : Int32) (n : Int32) (sz : Nat)  : Met l yX6_estimateRefusal (wz yX6_estimateRefusal cX6_estimateRefusal 6 (some .int)) ({ frames := 2, cells := 0, slots := 0, locals := 45 }) (va_Pc [.ref (q 0), .int g, .int d, .int w, .int n] (zPre dC dI k (zTX k) (zX k q 0 (-1) 12 100 0 (fun _ => 0) aps 0 ar1 ar2 ar3 ar4 ar5 ar6 ar7 ph pp py wy fa fb cm0 ia0 0 0 ih0 in0 il0 tx0 sh0 cm1 ia1 0 0 ih1 in1 il1 tx1 sh1 cm2 ia2 0 0 ih2 in2 il2 tx2 sh2 cm3 ia3 0 0 ih3 in3 il3 tx3 sh3 (-1) 0 it0 (-1) 0 it1 (-1) 0 it2 (-1) 0 it3) sz)) (va_Qi (fun (r : Int32) (u : Int32 × Int32 × Int32) => (r = (-3) ∧ (((0 ≤ (g : Int32) ∧ (g : Int32) ≤ 3) ∧ (0 ≤ (d : Int32) ∧ (d : Int32) ≤ 3)) ∧ (0 ≤ (w : Int32) ∧ (w : Int32) ≤ 1))) ∨ (r = (-2) ∧ (¬ (((0 ≤ (g : Int32) ∧ (g : Int32) ≤ 3) ∧ (0 ≤ (d : Int32) ∧ (d : Int32) ≤ 3)) ∧ (0 ≤ (w : Int32) ∧ (w : Int32) ≤ 1))))) (fun u t => zPost dC dI (va_A (zX k q 0 (-1) 12 100 0 (fun _ => 0) aps 0 ar1 ar2 ar3 ar4 ar5 ar6 ar7 ph pp py wy fa fb cm0 ia0 0 0 ih0 in0 il0 tx0 sh0 cm1 ia1 0 0 ih1 in1 il1 tx1 sh1 cm2 ia2 0 0 ih2 in2 il2 tx2 sh2 cm3 ia3 0 0 ih3 in3 il3 tx3 sh3 (-1) 0 it0 (-1) 0 it1 (-1) 0 it2 (-1) 0 it3) sz) (zX k q 0 (-1) 12 100 0 (fun _ => 0) aps 0 ar1 ar2 ar3 ar4 ar5 ar6 ar7 u.1 u.2.1 u.2.2 wy fa fb cm0 ia0 0 0 ih0 in0 il0 tx0 sh0 cm1 ia1 0 0 ih1 in1 il1 tx1 sh1 cm2 ia2 0 0 ih2 in2 il2 tx2 sh2 cm3 ia3 0 0 ih3 in3 il3 tx3 sh3 (-1) 0 it0 (-1) 0 it1 (-1) 0 it2 (-1) 0 it3) t) (va_A (zX k q 0 (-1) 12 100 0 (fun _ => 0) aps 0 ar1 ar2 ar3 ar4 ar5 ar6 ar7 ph pp py wy fa fb cm0 ia0 0 0 ih0 in0 il0 tx0 sh0 cm1 ia1 0 0 ih1 in1 il1 tx1 sh1 cm2 ia2 0 0 ih2 in2 il2 tx2 sh2 cm3 ia3 0 0 ih3 in3 il3 tx3 sh3 (-1) 0 it0 (-1) 0 it1 (-1) 0 it2 (-1) 0 it3) sz)) 0 0 (va_A (zX k q 0 (-1) 12 100 0 (fun _ => 0) aps 0 ar1 ar2 ar3 ar4 ar5 ar6 ar7 ph pp py wy fa fb cm0 ia0 0 0 ih0 in0 il0 tx0 sh0 cm1 ia1 0 0 ih1 in1 il1 tx1 sh1 cm2 ia2 0 0 ih2 in2 il2 tx2 sh2 cm3 ia3 0 0 ih3 in3 il3 tx3 sh3 (-1) 0 it0 (-1) 0 it1 (-1) 0 it2 (-1) 0 it3) sz) := by
  refine Met.ofW (cc := cX6_estimateRefusal) (maxL := 6) (ret := (some .int)) (by decide) rfl ?_
  intro p e s m args below meth c s₁ B hml hv
  obtain ⟨rfl, hsz, hP, hK, hD0⟩ := hv
  have hx := B.exec
  have hb := B.bytes
  have hr := B.returns
  have hts : ∀ w ∈ zw, w.before _ s = true := fun w h => atoms_spec (ws := (wz yX6_estimateRefusal cX6_estimateRefusal 6 (some .int))) B.pre w (List.mem_cons_of_mem _ h)
  have hown : s.vm.findClass RX6 = some m.cls := findClass_of_methodNamed B.named
  have hlocks := B.notSynchronized
  subst hsz
  have hi6 := inw6
  have hD := hD0.self (sz := s.heap.size)
  generalize hAe : va_A (zX k q 0 (-1) 12 100 0 (fun _ => 0) aps 0 ar1 ar2 ar3 ar4 ar5 ar6 ar7 ph pp py wy fa fb cm0 ia0 0 0 ih0 in0 il0 tx0 sh0 cm1 ia1 0 0 ih1 in1 il1 tx1 sh1 cm2 ia2 0 0 ih2 in2 il2 tx2 sh2 cm3 ia3 0 0 ih3 in3 il3 tx3 sh3 (-1) 0 it0 (-1) 0 it1 (-1) 0 it2 (-1) 0 it3) s.heap.size = A at hD ⊢
  have hA : ∀ q : Nat, s.heap.size ≤ q → A q := fun q h => by rw [← hAe]; exact Or.inr h
  have hl := lv_entry ([.ref (q 0), .int g, .int d, .int w, .int n]) (n := 6) (Nat.le_of_ble_eq_true rfl)
  rw [lg_entry_eq]
  generalize (lg_sl ([.ref (q 0), .int g, .int d, .int w, .int n]) ++ List.replicate (6 - (lg_sl ([.ref (q 0), .int g, .int d, .int w, .int n])).length) Slot.unset).toArray = ls at hl ⊢
  have hl : lv_has ls 6 [(0, .ref (q 0)), (1, .int g), (2, .int d), (3, .int w), (4, .int n)] := hl
  refine z_start (w := (zX k q 0 (-1) 12 100 0 (fun _ => 0) aps 0 ar1 ar2 ar3 ar4 ar5 ar6 ar7 ph pp py wy fa fb cm0 ia0 0 0 ih0 in0 il0 tx0 sh0 cm1 ia1 0 0 ih1 in1 il1 tx1 sh1 cm2 ia2 0 0 ih2 in2 il2 tx2 sh2 cm3 ia3 0 0 ih3 in3 il3 tx3 sh3 (-1) 0 it0 (-1) 0 it1 (-1) 0 it2 (-1) 0 it3)) hP hD (fun H locs hP hD hS => ?_)
  refine lv_iload_n hx hb dX6_estimateRefusal_0 rfl (lv_at hl 1 rfl) ?_
  refine zc0_i (w := (zX k q 0 (-1) 12 100 0 (fun _ => 0) aps 0 ar1 ar2 ar3 ar4 ar5 ar6 ar7 ph pp py wy fa fb cm0 ia0 0 0 ih0 in0 il0 tx0 sh0 cm1 ia1 0 0 ih1 in1 il1 tx1 sh1 cm2 ia2 0 0 ih2 in2 il2 tx2 sh2 cm3 ia3 0 0 ih3 in3 il3 tx3 sh3 (-1) 0 it0 (-1) 0 it1 (-1) 0 it2 (-1) 0 it3)) (va_runS (As := [.int g]) (rest := []) ⟨hx, hb, hml, hown, hts⟩ (c_X6_isGroup l dC dI k (zTX k) g _ ) (va_cwS 1 hts (gzS wmt2_80 wmt2_81 wmt1_1 wmt2_82) rfl rfl rfl (by decide +kernel) ⟨Nat.le_of_ble_eq_true rfl, Nat.le_of_ble_eq_true rfl⟩) (zp0_S hK) rfl rfl hl.1 rfl (lv_room (Nat.le_of_ble_eq_true rfl)) dX6_estimateRefusal_1 ⟨Nat.le_of_ble_eq_true rfl, Nat.le_of_ble_eq_true rfl⟩) hP hS hA (fun r_1 u_2 H locs w_3 hP hS => ?_)
  rcases w_3 with ⟨e_5, h_4⟩ | ⟨e_7, h_6⟩
  · skip
    replace e_5 : r_1 = 1 := e_5
    subst e_5
    replace h_4 : 0 ≤ (g : Int32) ∧ (g : Int32) ≤ 3 := h_4
    refine lv_if_eq (tgt := 21) hx hb dX6_estimateRefusal_4 (by decide) (fun c_8 => ?_) (fun c_8 => ?_)
    · skip
      exact absurd c_8 (by decide)
    · skip
      refine lv_iload_n hx hb dX6_estimateRefusal_7 rfl (lv_at hl 2 rfl) ?_
      refine zc0_i (w := (zX k q 0 (-1) 12 100 0 (fun _ => 0) aps 0 ar1 ar2 ar3 ar4 ar5 ar6 ar7 ph pp py wy fa fb cm0 ia0 0 0 ih0 in0 il0 tx0 sh0 cm1 ia1 0 0 ih1 in1 il1 tx1 sh1 cm2 ia2 0 0 ih2 in2 il2 tx2 sh2 cm3 ia3 0 0 ih3 in3 il3 tx3 sh3 (-1) 0 it0 (-1) 0 it1 (-1) 0 it2 (-1) 0 it3)) (va_runS (As := [.int d]) (rest := []) ⟨hx, hb, hml, hown, hts⟩ (c_X6_isDesign l dC dI k (zTX k) d _ ) (va_cwS 1 hts (gzS wmt1_211 wmt1_212 wmt1_1 wmt1_213) rfl rfl rfl (by decide +kernel) ⟨Nat.le_of_ble_eq_true rfl, Nat.le_of_ble_eq_true rfl⟩) (zp0_S hK) rfl rfl hl.1 rfl (lv_room (Nat.le_of_ble_eq_true rfl)) dX6_estimateRefusal_8 ⟨Nat.le_of_ble_eq_true rfl, Nat.le_of_ble_eq_true rfl⟩) hP hS hA (fun r_9 u_10 H locs w_11 hP hS => ?_)
      rcases w_11 with ⟨e_13, h_12⟩ | ⟨e_15, h_14⟩
      · skip
        replace e_13 : r_9 = 1 := e_13
        subst e_13
        replace h_12 : 0 ≤ (d : Int32) ∧ (d : Int32) ≤ 3 := h_12
        rcases zi_4 h_12 with rfl | rfl | rfl | rfl
        · skip
          refine lv_if_eq (tgt := 21) hx hb dX6_estimateRefusal_11 (by decide) (fun c_16 => ?_) (fun c_16 => ?_)
          · skip
            exact absurd c_16 (by decide)
          · skip
            refine lv_iload_n hx hb dX6_estimateRefusal_14 rfl (lv_at hl 3 rfl) ?_
            refine zc0_i (w := (zX k q 0 (-1) 12 100 0 (fun _ => 0) aps 0 ar1 ar2 ar3 ar4 ar5 ar6 ar7 ph pp py wy fa fb cm0 ia0 0 0 ih0 in0 il0 tx0 sh0 cm1 ia1 0 0 ih1 in1 il1 tx1 sh1 cm2 ia2 0 0 ih2 in2 il2 tx2 sh2 cm3 ia3 0 0 ih3 in3 il3 tx3 sh3 (-1) 0 it0 (-1) 0 it1 (-1) 0 it2 (-1) 0 it3)) (va_runS (As := [.int w]) (rest := []) ⟨hx, hb, hml, hown, hts⟩ (c_X6_isEither l dC dI k (zTX k) w _ ) (va_cwS 1 hts (gzS wmt2_48 wmt2_49 wmt1_1 wmt2_50) rfl rfl rfl (by decide +kernel) ⟨Nat.le_of_ble_eq_true rfl, Nat.le_of_ble_eq_true rfl⟩) (zp0_S hK) rfl rfl hl.1 rfl (lv_room (Nat.le_of_ble_eq_true rfl)) dX6_estimateRefusal_15 ⟨Nat.le_of_ble_eq_true rfl, Nat.le_of_ble_eq_true rfl⟩) hP hS hA (fun r_17 u_18 H locs w_19 hP hS => ?_)
            rcases w_19 with ⟨e_21, h_20⟩ | ⟨e_23, h_22⟩
            · skip
              replace e_21 : r_17 = 1 := e_21
              subst e_21
              replace h_20 : 0 ≤ (w : Int32) ∧ (w : Int32) ≤ 1 := h_20
              refine lv_if_ne (tgt := 24) hx hb dX6_estimateRefusal_18 (by decide) (fun c_24 => ?_) (fun c_24 => ?_)
              · skip
                refine lv_aload_n hx hb dX6_estimateRefusal_24 rfl (lv_at hl 0 rfl) ?_
                refine lv_iload_n hx hb dX6_estimateRefusal_25 rfl (lv_at hl 1 rfl) ?_
                refine lv_iload_n hx hb dX6_estimateRefusal_26 rfl (lv_at hl 2 rfl) ?_
                refine zcA_v (w := (zX k q 0 (-1) 12 100 0 (fun _ => 0) aps 0 ar1 ar2 ar3 ar4 ar5 ar6 ar7 ph pp py wy fa fb cm0 ia0 0 0 ih0 in0 il0 tx0 sh0 cm1 ia1 0 0 ih1 in1 il1 tx1 sh1 cm2 ia2 0 0 ih2 in2 il2 tx2 sh2 cm3 ia3 0 0 ih3 in3 il3 tx3 sh3 (-1) 0 it0 (-1) 0 it1 (-1) 0 it2 (-1) 0 it3)) (va_runV (As := [.int g, .int 0]) (rest := []) ⟨hx, hb, hml, hown, hts⟩ (c_X6_takePoll l dC dI k  q aps ar1 ar2 ar3 ar4 ar5 ar6 ar7 ph pp py wy fa fb cm0 ia0 ih0 in0 il0 tx0 sh0 cm1 ia1 ih1 in1 il1 tx1 sh1 cm2 ia2 ih2 in2 il2 tx2 sh2 cm3 ia3 ih3 in3 il3 tx3 sh3 it0 it1 it2 it3 g 0 _ ) (cwV 2 hts (gzV wmt2_134 wmt2_136 wmp1_9 wmt1_1 wmt2_137) rfl rfl rfl (by decide +kernel) ⟨Nat.le_of_ble_eq_true rfl, Nat.le_of_ble_eq_true rfl⟩) (zpA_V (ci := 6) (q0 := 0) hK hP hD rfl rfl) rfl rfl hl.1 rfl (lv_room (Nat.le_of_ble_eq_true rfl)) dX6_estimateRefusal_27 ⟨Nat.le_of_ble_eq_true rfl, Nat.le_of_ble_eq_true rfl⟩) hD hS hA (fun u_26 H locs w_27 hP hD hS => ?_)
                have hP : va_P (dC, dI) vwCl (zX k q 0 (-1) 12 100 0 (fun _ => 0) aps 0 ar1 ar2 ar3 ar4 ar5 ar6 ar7 0 0 0 wy fa fb cm0 ia0 0 0 ih0 in0 il0 tx0 sh0 cm1 ia1 0 0 ih1 in1 il1 tx1 sh1 cm2 ia2 0 0 ih2 in2 il2 tx2 sh2 cm3 ia3 0 0 ih3 in3 il3 tx3 sh3 (-1) 0 it0 (-1) 0 it1 (-1) 0 it2 (-1) 0 it3) H := hP
                have hD : va_D A (zX k q 0 (-1) 12 100 0 (fun _ => 0) aps 0 ar1 ar2 ar3 ar4 ar5 ar6 ar7 0 0 0 wy fa fb cm0 ia0 0 0 ih0 in0 il0 tx0 sh0 cm1 ia1 0 0 ih1 in1 il1 tx1 sh1 cm2 ia2 0 0 ih2 in2 il2 tx2 sh2 cm3 ia3 0 0 ih3 in3 il3 tx3 sh3 (-1) 0 it0 (-1) 0 it1 (-1) 0 it2 (-1) 0 it3) := hD
                refine lv_aload_n hx hb dX6_estimateRefusal_30 rfl (lv_at hl 0 rfl) ?_
                refine va_get (D := (dC, dI)) (ci := 6) (v := .ref (q 1)) (C := RX6) (T := TX6) (N := 12) hx hb hts hi6 hown hK.1 hP 0 rfl rfl 0 (by decide) (hts _ wmt1_170) (fun _ h9 => h9) rfl dX6_estimateRefusal_31 ?_
                refine lv_iload_n hx hb dX6_estimateRefusal_34 rfl (lv_at hl 2 rfl) ?_
                refine va_aldq (D := (dC, dI)) hx hb hK.1 hP 1 3 rfl rfl (show ¬ _ by decide) dX6_estimateRefusal_35 ?_
                refine z_top (v2 := .ref (q 16)) (rfl) ?_
                refine lv_astore (lv' := [(5, .ref (q 16)), (0, .ref (q 0)), (1, .int g), (2, .int 0), (3, .int w), (4, .int n)]) hx hb dX6_estimateRefusal_36 hl (by decide) rfl (fun ls hl => ?_)
                refine lv_aload hx hb dX6_estimateRefusal_38 (lv_at hl 0 rfl) ?_
                refine zcS_i (w := (zX k q 0 (-1) 12 100 0 (fun _ => 0) aps 0 ar1 ar2 ar3 ar4 ar5 ar6 ar7 0 0 0 wy fa fb cm0 ia0 0 0 ih0 in0 il0 tx0 sh0 cm1 ia1 0 0 ih1 in1 il1 tx1 sh1 cm2 ia2 0 0 ih2 in2 il2 tx2 sh2 cm3 ia3 0 0 ih3 in3 il3 tx3 sh3 (-1) 0 it0 (-1) 0 it1 (-1) 0 it2 (-1) 0 it3)) (wc := (zDes k (q 16) (q 17) (q 18) tx0 sh0 cm0 ia0 0 0 ih0 in0 il0)) (va_runV (As := []) (rest := []) ⟨hx, hb, hml, hown, hts⟩ (c_X1_isFaulty l dC dI k (zTX k) (q 16) (q 17) (q 18) tx0 sh0 cm0 ia0 0 ih0 in0 il0 _ ) (cwV 0 hts (gzV wmt2_55 wmt2_20 wmt2_21 wmt1_6 wmt2_22) rfl rfl rfl (by decide +kernel) ⟨Nat.le_of_ble_eq_true rfl, Nat.le_of_ble_eq_true rfl⟩) (zp_V (ci := 1) (q0 := 16) hK hP hD [16, 17, 18] rfl rfl rfl rfl) rfl rfl hl.1 rfl (lv_room (Nat.le_of_ble_eq_true rfl)) dX6_estimateRefusal_40 ⟨Nat.le_of_ble_eq_true rfl, Nat.le_of_ble_eq_true rfl⟩) hP hD hS hA [16, 17, 18] rfl (fun _ => rfl) (fun r_28 u_29 H locs w_30 hP hD hS => ?_)
                have hP : va_P (dC, dI) vwCl (zX k q 0 (-1) 12 100 0 (fun _ => 0) aps 0 ar1 ar2 ar3 ar4 ar5 ar6 ar7 0 0 0 wy fa fb cm0 ia0 0 0 ih0 in0 il0 tx0 sh0 cm1 ia1 0 0 ih1 in1 il1 tx1 sh1 cm2 ia2 0 0 ih2 in2 il2 tx2 sh2 cm3 ia3 0 0 ih3 in3 il3 tx3 sh3 (-1) 0 it0 (-1) 0 it1 (-1) 0 it2 (-1) 0 it3) H := hP
                have hD : va_D A (zX k q 0 (-1) 12 100 0 (fun _ => 0) aps 0 ar1 ar2 ar3 ar4 ar5 ar6 ar7 0 0 0 wy fa fb cm0 ia0 0 0 ih0 in0 il0 tx0 sh0 cm1 ia1 0 0 ih1 in1 il1 tx1 sh1 cm2 ia2 0 0 ih2 in2 il2 tx2 sh2 cm3 ia3 0 0 ih3 in3 il3 tx3 sh3 (-1) 0 it0 (-1) 0 it1 (-1) 0 it2 (-1) 0 it3) := hD
                have e_31 := w_30
                replace e_31 : r_28 = 1 := e_31
                subst e_31
                refine lv_if_ne (tgt := 66) hx hb dX6_estimateRefusal_43 (by decide) (fun c_32 => ?_) (fun c_32 => ?_)
                · skip
                  refine lv_bipush (v := (-3)) hx hb dX6_estimateRefusal_66 (by decide) ?_
                  refine lv_goto (tgt := 72) hx hb dX6_estimateRefusal_68 (by decide) ?_
                  exact W.iret (v := (-3)) hx hb hr (fun t ht hW => ⟨⟨(-3), (0, 0, 0), rfl, Or.inl ⟨(by first | assumption | with_reducible rfl | contradiction | exact (if_pos (by repeat' (first | assumption | decide | constructor))).symm | exact (if_neg (fun hh => absurd hh (by assumption))).symm | exact (if_neg (fun hh => absurd hh.1 (by assumption))).symm | exact (if_neg (fun hh => absurd hh.2 (by assumption))).symm | exact (if_neg (fun hh => absurd hh.1.1 (by assumption))).symm | exact (if_neg (fun hh => absurd hh.1.2 (by assumption))).symm | exact (if_neg (fun hh => absurd hh.2.1 (by assumption))).symm | exact (if_neg (fun hh => absurd hh.2.2 (by assumption))).symm | exact (if_neg (fun hh => absurd hh.2.2.1 (by assumption))).symm | exact (if_neg (fun hh => absurd hh.2.2.2 (by assumption))).symm | exact (if_neg (fun hh => absurd hh.2.2.2.1 (by assumption))).symm | exact (if_neg (fun hh => absurd hh.2.2.2.2 (by assumption))).symm | decide | (exfalso; simp only [zi_le, zi_lt, zi_eq, zi_n0, zi_n1, zi_n2, zi_n3, zi_n4, zi_n23, zi_n24, zi_n100, zi_n399, zi_n60, zi_n255, zi_n99, zi_nm1, zi_n30] at *; omega) | (simp_all; done)), (by first | assumption | with_reducible rfl | contradiction | ((repeat' (first | assumption | decide | constructor)); done) | exact fun hh => absurd hh (by assumption) | exact fun hh => absurd hh.1 (by assumption) | exact fun hh => absurd hh.2 (by assumption) | exact fun hh => absurd hh.1.1 (by assumption) | exact fun hh => absurd hh.1.2 (by assumption) | exact fun hh => absurd hh.2.1 (by assumption) | exact fun hh => absurd hh.2.2 (by assumption) | decide | (simp_all; done) | (simp only [zi_le, zi_lt, zi_eq, zi_n0, zi_n1, zi_n2, zi_n3, zi_n4, zi_n23, zi_n24, zi_n100, zi_n399, zi_n60, zi_n255, zi_n99, zi_nm1, zi_n30] at *; omega))⟩, ⟨by rw [ht]; exact hP, hD⟩⟩, hS.F ht⟩) hS.2.2 dX6_estimateRefusal_72
                · skip
                  exact absurd c_32 (by decide)
              · skip
                exact absurd c_24 (by decide)
            · skip
              replace e_23 : r_17 = 0 := e_23
              subst e_23
              replace h_22 : ¬ (0 ≤ (w : Int32) ∧ (w : Int32) ≤ 1) := h_22
              refine lv_if_ne (tgt := 24) hx hb dX6_estimateRefusal_18 (by decide) (fun c_33 => ?_) (fun c_33 => ?_)
              · skip
                exact absurd c_33 (by decide)
              · skip
                refine lv_bipush (v := (-2)) hx hb dX6_estimateRefusal_21 (by decide) ?_
                exact W.iret (v := (-2)) hx hb hr (fun t ht hW => ⟨⟨(-2), (ph, pp, py), rfl, Or.inr (⟨(by first | assumption | with_reducible rfl | contradiction | exact (if_pos (by repeat' (first | assumption | decide | constructor))).symm | exact (if_neg (fun hh => absurd hh (by assumption))).symm | exact (if_neg (fun hh => absurd hh.1 (by assumption))).symm | exact (if_neg (fun hh => absurd hh.2 (by assumption))).symm | exact (if_neg (fun hh => absurd hh.1.1 (by assumption))).symm | exact (if_neg (fun hh => absurd hh.1.2 (by assumption))).symm | exact (if_neg (fun hh => absurd hh.2.1 (by assumption))).symm | exact (if_neg (fun hh => absurd hh.2.2 (by assumption))).symm | exact (if_neg (fun hh => absurd hh.2.2.1 (by assumption))).symm | exact (if_neg (fun hh => absurd hh.2.2.2 (by assumption))).symm | exact (if_neg (fun hh => absurd hh.2.2.2.1 (by assumption))).symm | exact (if_neg (fun hh => absurd hh.2.2.2.2 (by assumption))).symm | decide | (exfalso; simp only [zi_le, zi_lt, zi_eq, zi_n0, zi_n1, zi_n2, zi_n3, zi_n4, zi_n23, zi_n24, zi_n100, zi_n399, zi_n60, zi_n255, zi_n99, zi_nm1, zi_n30] at *; omega) | (simp_all; done)), (by first | assumption | with_reducible rfl | contradiction | ((repeat' (first | assumption | decide | constructor)); done) | exact fun hh => absurd hh (by assumption) | exact fun hh => absurd hh.1 (by assumption) | exact fun hh => absurd hh.2 (by assumption) | exact fun hh => absurd hh.1.1 (by assumption) | exact fun hh => absurd hh.1.2 (by assumption) | exact fun hh => absurd hh.2.1 (by assumption) | exact fun hh => absurd hh.2.2 (by assumption) | decide | (simp_all; done) | (simp only [zi_le, zi_lt, zi_eq, zi_n0, zi_n1, zi_n2, zi_n3, zi_n4, zi_n23, zi_n24, zi_n100, zi_n399, zi_n60, zi_n255, zi_n99, zi_nm1, zi_n30] at *; omega))⟩), ⟨by rw [ht]; exact hP, hD⟩⟩, hS.F ht⟩) hS.2.2 dX6_estimateRefusal_23
        · skip
          refine lv_if_eq (tgt := 21) hx hb dX6_estimateRefusal_11 (by decide) (fun c_34 => ?_) (fun c_34 => ?_)
          · skip
            exact absurd c_34 (by decide)
          · skip
            refine lv_iload_n hx hb dX6_estimateRefusal_14 rfl (lv_at hl 3 rfl) ?_
            refine zc0_i (w := (zX k q 0 (-1) 12 100 0 (fun _ => 0) aps 0 ar1 ar2 ar3 ar4 ar5 ar6 ar7 ph pp py wy fa fb cm0 ia0 0 0 ih0 in0 il0 tx0 sh0 cm1 ia1 0 0 ih1 in1 il1 tx1 sh1 cm2 ia2 0 0 ih2 in2 il2 tx2 sh2 cm3 ia3 0 0 ih3 in3 il3 tx3 sh3 (-1) 0 it0 (-1) 0 it1 (-1) 0 it2 (-1) 0 it3)) (va_runS (As := [.int w]) (rest := []) ⟨hx, hb, hml, hown, hts⟩ (c_X6_isEither l dC dI k (zTX k) w _ ) (va_cwS 1 hts (gzS wmt2_48 wmt2_49 wmt1_1 wmt2_50) rfl rfl rfl (by decide +kernel) ⟨Nat.le_of_ble_eq_true rfl, Nat.le_of_ble_eq_true rfl⟩) (zp0_S hK) rfl rfl hl.1 rfl (lv_room (Nat.le_of_ble_eq_true rfl)) dX6_estimateRefusal_15 ⟨Nat.le_of_ble_eq_true rfl, Nat.le_of_ble_eq_true rfl⟩) hP hS hA (fun r_35 u_36 H locs w_37 hP hS => ?_)
            rcases w_37 with ⟨e_39, h_38⟩ | ⟨e_41, h_40⟩
            · skip
              replace e_39 : r_35 = 1 := e_39
              subst e_39
              replace h_38 : 0 ≤ (w : Int32) ∧ (w : Int32) ≤ 1 := h_38
              refine lv_if_ne (tgt := 24) hx hb dX6_estimateRefusal_18 (by decide) (fun c_42 => ?_) (fun c_42 => ?_)
              · skip
                refine lv_aload_n hx hb dX6_estimateRefusal_24 rfl (lv_at hl 0 rfl) ?_
                refine lv_iload_n hx hb dX6_estimateRefusal_25 rfl (lv_at hl 1 rfl) ?_
                refine lv_iload_n hx hb dX6_estimateRefusal_26 rfl (lv_at hl 2 rfl) ?_
                refine zcA_v (w := (zX k q 0 (-1) 12 100 0 (fun _ => 0) aps 0 ar1 ar2 ar3 ar4 ar5 ar6 ar7 ph pp py wy fa fb cm0 ia0 0 0 ih0 in0 il0 tx0 sh0 cm1 ia1 0 0 ih1 in1 il1 tx1 sh1 cm2 ia2 0 0 ih2 in2 il2 tx2 sh2 cm3 ia3 0 0 ih3 in3 il3 tx3 sh3 (-1) 0 it0 (-1) 0 it1 (-1) 0 it2 (-1) 0 it3)) (va_runV (As := [.int g, .int 1]) (rest := []) ⟨hx, hb, hml, hown, hts⟩ (c_X6_takePoll l dC dI k  q aps ar1 ar2 ar3 ar4 ar5 ar6 ar7 ph pp py wy fa fb cm0 ia0 ih0 in0 il0 tx0 sh0 cm1 ia1 ih1 in1 il1 tx1 sh1 cm2 ia2 ih2 in2 il2 tx2 sh2 cm3 ia3 ih3 in3 il3 tx3 sh3 it0 it1 it2 it3 g 1 _ ) (cwV 2 hts (gzV wmt2_134 wmt2_136 wmp1_9 wmt1_1 wmt2_137) rfl rfl rfl (by decide +kernel) ⟨Nat.le_of_ble_eq_true rfl, Nat.le_of_ble_eq_true rfl⟩) (zpA_V (ci := 6) (q0 := 0) hK hP hD rfl rfl) rfl rfl hl.1 rfl (lv_room (Nat.le_of_ble_eq_true rfl)) dX6_estimateRefusal_27 ⟨Nat.le_of_ble_eq_true rfl, Nat.le_of_ble_eq_true rfl⟩) hD hS hA (fun u_44 H locs w_45 hP hD hS => ?_)
                have hP : va_P (dC, dI) vwCl (zX k q 0 (-1) 12 100 0 (fun _ => 0) aps 0 ar1 ar2 ar3 ar4 ar5 ar6 ar7 0 0 0 wy fa fb cm0 ia0 0 0 ih0 in0 il0 tx0 sh0 cm1 ia1 0 0 ih1 in1 il1 tx1 sh1 cm2 ia2 0 0 ih2 in2 il2 tx2 sh2 cm3 ia3 0 0 ih3 in3 il3 tx3 sh3 (-1) 0 it0 (-1) 0 it1 (-1) 0 it2 (-1) 0 it3) H := hP
                have hD : va_D A (zX k q 0 (-1) 12 100 0 (fun _ => 0) aps 0 ar1 ar2 ar3 ar4 ar5 ar6 ar7 0 0 0 wy fa fb cm0 ia0 0 0 ih0 in0 il0 tx0 sh0 cm1 ia1 0 0 ih1 in1 il1 tx1 sh1 cm2 ia2 0 0 ih2 in2 il2 tx2 sh2 cm3 ia3 0 0 ih3 in3 il3 tx3 sh3 (-1) 0 it0 (-1) 0 it1 (-1) 0 it2 (-1) 0 it3) := hD
                refine lv_aload_n hx hb dX6_estimateRefusal_30 rfl (lv_at hl 0 rfl) ?_
                refine va_get (D := (dC, dI)) (ci := 6) (v := .ref (q 1)) (C := RX6) (T := TX6) (N := 12) hx hb hts hi6 hown hK.1 hP 0 rfl rfl 0 (by decide) (hts _ wmt1_170) (fun _ h9 => h9) rfl dX6_estimateRefusal_31 ?_
                refine lv_iload_n hx hb dX6_estimateRefusal_34 rfl (lv_at hl 2 rfl) ?_
                refine va_aldq (D := (dC, dI)) hx hb hK.1 hP 1 3 rfl rfl (show ¬ _ by decide) dX6_estimateRefusal_35 ?_
                refine z_top (v2 := .ref (q 19)) (rfl) ?_
                refine lv_astore (lv' := [(5, .ref (q 19)), (0, .ref (q 0)), (1, .int g), (2, .int 1), (3, .int w), (4, .int n)]) hx hb dX6_estimateRefusal_36 hl (by decide) rfl (fun ls hl => ?_)
                refine lv_aload hx hb dX6_estimateRefusal_38 (lv_at hl 0 rfl) ?_
                refine zcS_i (w := (zX k q 0 (-1) 12 100 0 (fun _ => 0) aps 0 ar1 ar2 ar3 ar4 ar5 ar6 ar7 0 0 0 wy fa fb cm0 ia0 0 0 ih0 in0 il0 tx0 sh0 cm1 ia1 0 0 ih1 in1 il1 tx1 sh1 cm2 ia2 0 0 ih2 in2 il2 tx2 sh2 cm3 ia3 0 0 ih3 in3 il3 tx3 sh3 (-1) 0 it0 (-1) 0 it1 (-1) 0 it2 (-1) 0 it3)) (wc := (zDes k (q 19) (q 20) (q 21) tx1 sh1 cm1 ia1 0 0 ih1 in1 il1)) (va_runV (As := []) (rest := []) ⟨hx, hb, hml, hown, hts⟩ (c_X1_isFaulty l dC dI k (zTX k) (q 19) (q 20) (q 21) tx1 sh1 cm1 ia1 0 ih1 in1 il1 _ ) (cwV 0 hts (gzV wmt2_55 wmt2_20 wmt2_21 wmt1_6 wmt2_22) rfl rfl rfl (by decide +kernel) ⟨Nat.le_of_ble_eq_true rfl, Nat.le_of_ble_eq_true rfl⟩) (zp_V (ci := 1) (q0 := 19) hK hP hD [19, 20, 21] rfl rfl rfl rfl) rfl rfl hl.1 rfl (lv_room (Nat.le_of_ble_eq_true rfl)) dX6_estimateRefusal_40 ⟨Nat.le_of_ble_eq_true rfl, Nat.le_of_ble_eq_true rfl⟩) hP hD hS hA [19, 20, 21] rfl (fun _ => rfl) (fun r_46 u_47 H locs w_48 hP hD hS => ?_)
                have hP : va_P (dC, dI) vwCl (zX k q 0 (-1) 12 100 0 (fun _ => 0) aps 0 ar1 ar2 ar3 ar4 ar5 ar6 ar7 0 0 0 wy fa fb cm0 ia0 0 0 ih0 in0 il0 tx0 sh0 cm1 ia1 0 0 ih1 in1 il1 tx1 sh1 cm2 ia2 0 0 ih2 in2 il2 tx2 sh2 cm3 ia3 0 0 ih3 in3 il3 tx3 sh3 (-1) 0 it0 (-1) 0 it1 (-1) 0 it2 (-1) 0 it3) H := hP
                have hD : va_D A (zX k q 0 (-1) 12 100 0 (fun _ => 0) aps 0 ar1 ar2 ar3 ar4 ar5 ar6 ar7 0 0 0 wy fa fb cm0 ia0 0 0 ih0 in0 il0 tx0 sh0 cm1 ia1 0 0 ih1 in1 il1 tx1 sh1 cm2 ia2 0 0 ih2 in2 il2 tx2 sh2 cm3 ia3 0 0 ih3 in3 il3 tx3 sh3 (-1) 0 it0 (-1) 0 it1 (-1) 0 it2 (-1) 0 it3) := hD
                have e_49 := w_48
                replace e_49 : r_46 = 1 := e_49
                subst e_49
                refine lv_if_ne (tgt := 66) hx hb dX6_estimateRefusal_43 (by decide) (fun c_50 => ?_) (fun c_50 => ?_)
                · skip
                  refine lv_bipush (v := (-3)) hx hb dX6_estimateRefusal_66 (by decide) ?_
                  refine lv_goto (tgt := 72) hx hb dX6_estimateRefusal_68 (by decide) ?_
                  exact W.iret (v := (-3)) hx hb hr (fun t ht hW => ⟨⟨(-3), (0, 0, 0), rfl, Or.inl ⟨(by first | assumption | with_reducible rfl | contradiction | exact (if_pos (by repeat' (first | assumption | decide | constructor))).symm | exact (if_neg (fun hh => absurd hh (by assumption))).symm | exact (if_neg (fun hh => absurd hh.1 (by assumption))).symm | exact (if_neg (fun hh => absurd hh.2 (by assumption))).symm | exact (if_neg (fun hh => absurd hh.1.1 (by assumption))).symm | exact (if_neg (fun hh => absurd hh.1.2 (by assumption))).symm | exact (if_neg (fun hh => absurd hh.2.1 (by assumption))).symm | exact (if_neg (fun hh => absurd hh.2.2 (by assumption))).symm | exact (if_neg (fun hh => absurd hh.2.2.1 (by assumption))).symm | exact (if_neg (fun hh => absurd hh.2.2.2 (by assumption))).symm | exact (if_neg (fun hh => absurd hh.2.2.2.1 (by assumption))).symm | exact (if_neg (fun hh => absurd hh.2.2.2.2 (by assumption))).symm | decide | (exfalso; simp only [zi_le, zi_lt, zi_eq, zi_n0, zi_n1, zi_n2, zi_n3, zi_n4, zi_n23, zi_n24, zi_n100, zi_n399, zi_n60, zi_n255, zi_n99, zi_nm1, zi_n30] at *; omega) | (simp_all; done)), (by first | assumption | with_reducible rfl | contradiction | ((repeat' (first | assumption | decide | constructor)); done) | exact fun hh => absurd hh (by assumption) | exact fun hh => absurd hh.1 (by assumption) | exact fun hh => absurd hh.2 (by assumption) | exact fun hh => absurd hh.1.1 (by assumption) | exact fun hh => absurd hh.1.2 (by assumption) | exact fun hh => absurd hh.2.1 (by assumption) | exact fun hh => absurd hh.2.2 (by assumption) | decide | (simp_all; done) | (simp only [zi_le, zi_lt, zi_eq, zi_n0, zi_n1, zi_n2, zi_n3, zi_n4, zi_n23, zi_n24, zi_n100, zi_n399, zi_n60, zi_n255, zi_n99, zi_nm1, zi_n30] at *; omega))⟩, ⟨by rw [ht]; exact hP, hD⟩⟩, hS.F ht⟩) hS.2.2 dX6_estimateRefusal_72
                · skip
                  exact absurd c_50 (by decide)
              · skip
                exact absurd c_42 (by decide)
            · skip
              replace e_41 : r_35 = 0 := e_41
              subst e_41
              replace h_40 : ¬ (0 ≤ (w : Int32) ∧ (w : Int32) ≤ 1) := h_40
              refine lv_if_ne (tgt := 24) hx hb dX6_estimateRefusal_18 (by decide) (fun c_51 => ?_) (fun c_51 => ?_)
              · skip
                exact absurd c_51 (by decide)
              · skip
                refine lv_bipush (v := (-2)) hx hb dX6_estimateRefusal_21 (by decide) ?_
                exact W.iret (v := (-2)) hx hb hr (fun t ht hW => ⟨⟨(-2), (ph, pp, py), rfl, Or.inr (⟨(by first | assumption | with_reducible rfl | contradiction | exact (if_pos (by repeat' (first | assumption | decide | constructor))).symm | exact (if_neg (fun hh => absurd hh (by assumption))).symm | exact (if_neg (fun hh => absurd hh.1 (by assumption))).symm | exact (if_neg (fun hh => absurd hh.2 (by assumption))).symm | exact (if_neg (fun hh => absurd hh.1.1 (by assumption))).symm | exact (if_neg (fun hh => absurd hh.1.2 (by assumption))).symm | exact (if_neg (fun hh => absurd hh.2.1 (by assumption))).symm | exact (if_neg (fun hh => absurd hh.2.2 (by assumption))).symm | exact (if_neg (fun hh => absurd hh.2.2.1 (by assumption))).symm | exact (if_neg (fun hh => absurd hh.2.2.2 (by assumption))).symm | exact (if_neg (fun hh => absurd hh.2.2.2.1 (by assumption))).symm | exact (if_neg (fun hh => absurd hh.2.2.2.2 (by assumption))).symm | decide | (exfalso; simp only [zi_le, zi_lt, zi_eq, zi_n0, zi_n1, zi_n2, zi_n3, zi_n4, zi_n23, zi_n24, zi_n100, zi_n399, zi_n60, zi_n255, zi_n99, zi_nm1, zi_n30] at *; omega) | (simp_all; done)), (by first | assumption | with_reducible rfl | contradiction | ((repeat' (first | assumption | decide | constructor)); done) | exact fun hh => absurd hh (by assumption) | exact fun hh => absurd hh.1 (by assumption) | exact fun hh => absurd hh.2 (by assumption) | exact fun hh => absurd hh.1.1 (by assumption) | exact fun hh => absurd hh.1.2 (by assumption) | exact fun hh => absurd hh.2.1 (by assumption) | exact fun hh => absurd hh.2.2 (by assumption) | decide | (simp_all; done) | (simp only [zi_le, zi_lt, zi_eq, zi_n0, zi_n1, zi_n2, zi_n3, zi_n4, zi_n23, zi_n24, zi_n100, zi_n399, zi_n60, zi_n255, zi_n99, zi_nm1, zi_n30] at *; omega))⟩), ⟨by rw [ht]; exact hP, hD⟩⟩, hS.F ht⟩) hS.2.2 dX6_estimateRefusal_23
        · skip
          refine lv_if_eq (tgt := 21) hx hb dX6_estimateRefusal_11 (by decide) (fun c_52 => ?_) (fun c_52 => ?_)
          · skip
            exact absurd c_52 (by decide)
          · skip
            refine lv_iload_n hx hb dX6_estimateRefusal_14 rfl (lv_at hl 3 rfl) ?_
            refine zc0_i (w := (zX k q 0 (-1) 12 100 0 (fun _ => 0) aps 0 ar1 ar2 ar3 ar4 ar5 ar6 ar7 ph pp py wy fa fb cm0 ia0 0 0 ih0 in0 il0 tx0 sh0 cm1 ia1 0 0 ih1 in1 il1 tx1 sh1 cm2 ia2 0 0 ih2 in2 il2 tx2 sh2 cm3 ia3 0 0 ih3 in3 il3 tx3 sh3 (-1) 0 it0 (-1) 0 it1 (-1) 0 it2 (-1) 0 it3)) (va_runS (As := [.int w]) (rest := []) ⟨hx, hb, hml, hown, hts⟩ (c_X6_isEither l dC dI k (zTX k) w _ ) (va_cwS 1 hts (gzS wmt2_48 wmt2_49 wmt1_1 wmt2_50) rfl rfl rfl (by decide +kernel) ⟨Nat.le_of_ble_eq_true rfl, Nat.le_of_ble_eq_true rfl⟩) (zp0_S hK) rfl rfl hl.1 rfl (lv_room (Nat.le_of_ble_eq_true rfl)) dX6_estimateRefusal_15 ⟨Nat.le_of_ble_eq_true rfl, Nat.le_of_ble_eq_true rfl⟩) hP hS hA (fun r_53 u_54 H locs w_55 hP hS => ?_)
            rcases w_55 with ⟨e_57, h_56⟩ | ⟨e_59, h_58⟩
            · skip
              replace e_57 : r_53 = 1 := e_57
              subst e_57
              replace h_56 : 0 ≤ (w : Int32) ∧ (w : Int32) ≤ 1 := h_56
              refine lv_if_ne (tgt := 24) hx hb dX6_estimateRefusal_18 (by decide) (fun c_60 => ?_) (fun c_60 => ?_)
              · skip
                refine lv_aload_n hx hb dX6_estimateRefusal_24 rfl (lv_at hl 0 rfl) ?_
                refine lv_iload_n hx hb dX6_estimateRefusal_25 rfl (lv_at hl 1 rfl) ?_
                refine lv_iload_n hx hb dX6_estimateRefusal_26 rfl (lv_at hl 2 rfl) ?_
                refine zcA_v (w := (zX k q 0 (-1) 12 100 0 (fun _ => 0) aps 0 ar1 ar2 ar3 ar4 ar5 ar6 ar7 ph pp py wy fa fb cm0 ia0 0 0 ih0 in0 il0 tx0 sh0 cm1 ia1 0 0 ih1 in1 il1 tx1 sh1 cm2 ia2 0 0 ih2 in2 il2 tx2 sh2 cm3 ia3 0 0 ih3 in3 il3 tx3 sh3 (-1) 0 it0 (-1) 0 it1 (-1) 0 it2 (-1) 0 it3)) (va_runV (As := [.int g, .int 2]) (rest := []) ⟨hx, hb, hml, hown, hts⟩ (c_X6_takePoll l dC dI k  q aps ar1 ar2 ar3 ar4 ar5 ar6 ar7 ph pp py wy fa fb cm0 ia0 ih0 in0 il0 tx0 sh0 cm1 ia1 ih1 in1 il1 tx1 sh1 cm2 ia2 ih2 in2 il2 tx2 sh2 cm3 ia3 ih3 in3 il3 tx3 sh3 it0 it1 it2 it3 g 2 _ ) (cwV 2 hts (gzV wmt2_134 wmt2_136 wmp1_9 wmt1_1 wmt2_137) rfl rfl rfl (by decide +kernel) ⟨Nat.le_of_ble_eq_true rfl, Nat.le_of_ble_eq_true rfl⟩) (zpA_V (ci := 6) (q0 := 0) hK hP hD rfl rfl) rfl rfl hl.1 rfl (lv_room (Nat.le_of_ble_eq_true rfl)) dX6_estimateRefusal_27 ⟨Nat.le_of_ble_eq_true rfl, Nat.le_of_ble_eq_true rfl⟩) hD hS hA (fun u_62 H locs w_63 hP hD hS => ?_)
                have hP : va_P (dC, dI) vwCl (zX k q 0 (-1) 12 100 0 (fun _ => 0) aps 0 ar1 ar2 ar3 ar4 ar5 ar6 ar7 0 0 0 wy fa fb cm0 ia0 0 0 ih0 in0 il0 tx0 sh0 cm1 ia1 0 0 ih1 in1 il1 tx1 sh1 cm2 ia2 0 0 ih2 in2 il2 tx2 sh2 cm3 ia3 0 0 ih3 in3 il3 tx3 sh3 (-1) 0 it0 (-1) 0 it1 (-1) 0 it2 (-1) 0 it3) H := hP
                have hD : va_D A (zX k q 0 (-1) 12 100 0 (fun _ => 0) aps 0 ar1 ar2 ar3 ar4 ar5 ar6 ar7 0 0 0 wy fa fb cm0 ia0 0 0 ih0 in0 il0 tx0 sh0 cm1 ia1 0 0 ih1 in1 il1 tx1 sh1 cm2 ia2 0 0 ih2 in2 il2 tx2 sh2 cm3 ia3 0 0 ih3 in3 il3 tx3 sh3 (-1) 0 it0 (-1) 0 it1 (-1) 0 it2 (-1) 0 it3) := hD
                refine lv_aload_n hx hb dX6_estimateRefusal_30 rfl (lv_at hl 0 rfl) ?_
                refine va_get (D := (dC, dI)) (ci := 6) (v := .ref (q 1)) (C := RX6) (T := TX6) (N := 12) hx hb hts hi6 hown hK.1 hP 0 rfl rfl 0 (by decide) (hts _ wmt1_170) (fun _ h9 => h9) rfl dX6_estimateRefusal_31 ?_
                refine lv_iload_n hx hb dX6_estimateRefusal_34 rfl (lv_at hl 2 rfl) ?_
                refine va_aldq (D := (dC, dI)) hx hb hK.1 hP 1 3 rfl rfl (show ¬ _ by decide) dX6_estimateRefusal_35 ?_
                refine z_top (v2 := .ref (q 22)) (rfl) ?_
                refine lv_astore (lv' := [(5, .ref (q 22)), (0, .ref (q 0)), (1, .int g), (2, .int 2), (3, .int w), (4, .int n)]) hx hb dX6_estimateRefusal_36 hl (by decide) rfl (fun ls hl => ?_)
                refine lv_aload hx hb dX6_estimateRefusal_38 (lv_at hl 0 rfl) ?_
                refine zcS_i (w := (zX k q 0 (-1) 12 100 0 (fun _ => 0) aps 0 ar1 ar2 ar3 ar4 ar5 ar6 ar7 0 0 0 wy fa fb cm0 ia0 0 0 ih0 in0 il0 tx0 sh0 cm1 ia1 0 0 ih1 in1 il1 tx1 sh1 cm2 ia2 0 0 ih2 in2 il2 tx2 sh2 cm3 ia3 0 0 ih3 in3 il3 tx3 sh3 (-1) 0 it0 (-1) 0 it1 (-1) 0 it2 (-1) 0 it3)) (wc := (zDes k (q 22) (q 23) (q 24) tx2 sh2 cm2 ia2 0 0 ih2 in2 il2)) (va_runV (As := []) (rest := []) ⟨hx, hb, hml, hown, hts⟩ (c_X1_isFaulty l dC dI k (zTX k) (q 22) (q 23) (q 24) tx2 sh2 cm2 ia2 0 ih2 in2 il2 _ ) (cwV 0 hts (gzV wmt2_55 wmt2_20 wmt2_21 wmt1_6 wmt2_22) rfl rfl rfl (by decide +kernel) ⟨Nat.le_of_ble_eq_true rfl, Nat.le_of_ble_eq_true rfl⟩) (zp_V (ci := 1) (q0 := 22) hK hP hD [22, 23, 24] rfl rfl rfl rfl) rfl rfl hl.1 rfl (lv_room (Nat.le_of_ble_eq_true rfl)) dX6_estimateRefusal_40 ⟨Nat.le_of_ble_eq_true rfl, Nat.le_of_ble_eq_true rfl⟩) hP hD hS hA [22, 23, 24] rfl (fun _ => rfl) (fun r_64 u_65 H locs w_66 hP hD hS => ?_)
                have hP : va_P (dC, dI) vwCl (zX k q 0 (-1) 12 100 0 (fun _ => 0) aps 0 ar1 ar2 ar3 ar4 ar5 ar6 ar7 0 0 0 wy fa fb cm0 ia0 0 0 ih0 in0 il0 tx0 sh0 cm1 ia1 0 0 ih1 in1 il1 tx1 sh1 cm2 ia2 0 0 ih2 in2 il2 tx2 sh2 cm3 ia3 0 0 ih3 in3 il3 tx3 sh3 (-1) 0 it0 (-1) 0 it1 (-1) 0 it2 (-1) 0 it3) H := hP
                have hD : va_D A (zX k q 0 (-1) 12 100 0 (fun _ => 0) aps 0 ar1 ar2 ar3 ar4 ar5 ar6 ar7 0 0 0 wy fa fb cm0 ia0 0 0 ih0 in0 il0 tx0 sh0 cm1 ia1 0 0 ih1 in1 il1 tx1 sh1 cm2 ia2 0 0 ih2 in2 il2 tx2 sh2 cm3 ia3 0 0 ih3 in3 il3 tx3 sh3 (-1) 0 it0 (-1) 0 it1 (-1) 0 it2 (-1) 0 it3) := hD
                have e_67 := w_66
                replace e_67 : r_64 = 1 := e_67
                subst e_67
                refine lv_if_ne (tgt := 66) hx hb dX6_estimateRefusal_43 (by decide) (fun c_68 => ?_) (fun c_68 => ?_)
                · skip
                  refine lv_bipush (v := (-3)) hx hb dX6_estimateRefusal_66 (by decide) ?_
                  refine lv_goto (tgt := 72) hx hb dX6_estimateRefusal_68 (by decide) ?_
                  exact W.iret (v := (-3)) hx hb hr (fun t ht hW => ⟨⟨(-3), (0, 0, 0), rfl, Or.inl ⟨(by first | assumption | with_reducible rfl | contradiction | exact (if_pos (by repeat' (first | assumption | decide | constructor))).symm | exact (if_neg (fun hh => absurd hh (by assumption))).symm | exact (if_neg (fun hh => absurd hh.1 (by assumption))).symm | exact (if_neg (fun hh => absurd hh.2 (by assumption))).symm | exact (if_neg (fun hh => absurd hh.1.1 (by assumption))).symm | exact (if_neg (fun hh => absurd hh.1.2 (by assumption))).symm | exact (if_neg (fun hh => absurd hh.2.1 (by assumption))).symm | exact (if_neg (fun hh => absurd hh.2.2 (by assumption))).symm | exact (if_neg (fun hh => absurd hh.2.2.1 (by assumption))).symm | exact (if_neg (fun hh => absurd hh.2.2.2 (by assumption))).symm | exact (if_neg (fun hh => absurd hh.2.2.2.1 (by assumption))).symm | exact (if_neg (fun hh => absurd hh.2.2.2.2 (by assumption))).symm | decide | (exfalso; simp only [zi_le, zi_lt, zi_eq, zi_n0, zi_n1, zi_n2, zi_n3, zi_n4, zi_n23, zi_n24, zi_n100, zi_n399, zi_n60, zi_n255, zi_n99, zi_nm1, zi_n30] at *; omega) | (simp_all; done)), (by first | assumption | with_reducible rfl | contradiction | ((repeat' (first | assumption | decide | constructor)); done) | exact fun hh => absurd hh (by assumption) | exact fun hh => absurd hh.1 (by assumption) | exact fun hh => absurd hh.2 (by assumption) | exact fun hh => absurd hh.1.1 (by assumption) | exact fun hh => absurd hh.1.2 (by assumption) | exact fun hh => absurd hh.2.1 (by assumption) | exact fun hh => absurd hh.2.2 (by assumption) | decide | (simp_all; done) | (simp only [zi_le, zi_lt, zi_eq, zi_n0, zi_n1, zi_n2, zi_n3, zi_n4, zi_n23, zi_n24, zi_n100, zi_n399, zi_n60, zi_n255, zi_n99, zi_nm1, zi_n30] at *; omega))⟩, ⟨by rw [ht]; exact hP, hD⟩⟩, hS.F ht⟩) hS.2.2 dX6_estimateRefusal_72
                · skip
                  exact absurd c_68 (by decide)
              · skip
                exact absurd c_60 (by decide)
            · skip
              replace e_59 : r_53 = 0 := e_59
              subst e_59
              replace h_58 : ¬ (0 ≤ (w : Int32) ∧ (w : Int32) ≤ 1) := h_58
              refine lv_if_ne (tgt := 24) hx hb dX6_estimateRefusal_18 (by decide) (fun c_69 => ?_) (fun c_69 => ?_)
              · skip
                exact absurd c_69 (by decide)
              · skip
                refine lv_bipush (v := (-2)) hx hb dX6_estimateRefusal_21 (by decide) ?_
                exact W.iret (v := (-2)) hx hb hr (fun t ht hW => ⟨⟨(-2), (ph, pp, py), rfl, Or.inr (⟨(by first | assumption | with_reducible rfl | contradiction | exact (if_pos (by repeat' (first | assumption | decide | constructor))).symm | exact (if_neg (fun hh => absurd hh (by assumption))).symm | exact (if_neg (fun hh => absurd hh.1 (by assumption))).symm | exact (if_neg (fun hh => absurd hh.2 (by assumption))).symm | exact (if_neg (fun hh => absurd hh.1.1 (by assumption))).symm | exact (if_neg (fun hh => absurd hh.1.2 (by assumption))).symm | exact (if_neg (fun hh => absurd hh.2.1 (by assumption))).symm | exact (if_neg (fun hh => absurd hh.2.2 (by assumption))).symm | exact (if_neg (fun hh => absurd hh.2.2.1 (by assumption))).symm | exact (if_neg (fun hh => absurd hh.2.2.2 (by assumption))).symm | exact (if_neg (fun hh => absurd hh.2.2.2.1 (by assumption))).symm | exact (if_neg (fun hh => absurd hh.2.2.2.2 (by assumption))).symm | decide | (exfalso; simp only [zi_le, zi_lt, zi_eq, zi_n0, zi_n1, zi_n2, zi_n3, zi_n4, zi_n23, zi_n24, zi_n100, zi_n399, zi_n60, zi_n255, zi_n99, zi_nm1, zi_n30] at *; omega) | (simp_all; done)), (by first | assumption | with_reducible rfl | contradiction | ((repeat' (first | assumption | decide | constructor)); done) | exact fun hh => absurd hh (by assumption) | exact fun hh => absurd hh.1 (by assumption) | exact fun hh => absurd hh.2 (by assumption) | exact fun hh => absurd hh.1.1 (by assumption) | exact fun hh => absurd hh.1.2 (by assumption) | exact fun hh => absurd hh.2.1 (by assumption) | exact fun hh => absurd hh.2.2 (by assumption) | decide | (simp_all; done) | (simp only [zi_le, zi_lt, zi_eq, zi_n0, zi_n1, zi_n2, zi_n3, zi_n4, zi_n23, zi_n24, zi_n100, zi_n399, zi_n60, zi_n255, zi_n99, zi_nm1, zi_n30] at *; omega))⟩), ⟨by rw [ht]; exact hP, hD⟩⟩, hS.F ht⟩) hS.2.2 dX6_estimateRefusal_23
        · skip
          refine lv_if_eq (tgt := 21) hx hb dX6_estimateRefusal_11 (by decide) (fun c_70 => ?_) (fun c_70 => ?_)
          · skip
            exact absurd c_70 (by decide)
          · skip
            refine lv_iload_n hx hb dX6_estimateRefusal_14 rfl (lv_at hl 3 rfl) ?_
            refine zc0_i (w := (zX k q 0 (-1) 12 100 0 (fun _ => 0) aps 0 ar1 ar2 ar3 ar4 ar5 ar6 ar7 ph pp py wy fa fb cm0 ia0 0 0 ih0 in0 il0 tx0 sh0 cm1 ia1 0 0 ih1 in1 il1 tx1 sh1 cm2 ia2 0 0 ih2 in2 il2 tx2 sh2 cm3 ia3 0 0 ih3 in3 il3 tx3 sh3 (-1) 0 it0 (-1) 0 it1 (-1) 0 it2 (-1) 0 it3)) (va_runS (As := [.int w]) (rest := []) ⟨hx, hb, hml, hown, hts⟩ (c_X6_isEither l dC dI k (zTX k) w _ ) (va_cwS 1 hts (gzS wmt2_48 wmt2_49 wmt1_1 wmt2_50) rfl rfl rfl (by decide +kernel) ⟨Nat.le_of_ble_eq_true rfl, Nat.le_of_ble_eq_true rfl⟩) (zp0_S hK) rfl rfl hl.1 rfl (lv_room (Nat.le_of_ble_eq_true rfl)) dX6_estimateRefusal_15 ⟨Nat.le_of_ble_eq_true rfl, Nat.le_of_ble_eq_true rfl⟩) hP hS hA (fun r_71 u_72 H locs w_73 hP hS => ?_)
            rcases w_73 with ⟨e_75, h_74⟩ | ⟨e_77, h_76⟩
            · skip
              replace e_75 : r_71 = 1 := e_75
              subst e_75
              replace h_74 : 0 ≤ (w : Int32) ∧ (w : Int32) ≤ 1 := h_74
              refine lv_if_ne (tgt := 24) hx hb dX6_estimateRefusal_18 (by decide) (fun c_78 => ?_) (fun c_78 => ?_)
              · skip
                refine lv_aload_n hx hb dX6_estimateRefusal_24 rfl (lv_at hl 0 rfl) ?_
                refine lv_iload_n hx hb dX6_estimateRefusal_25 rfl (lv_at hl 1 rfl) ?_
                refine lv_iload_n hx hb dX6_estimateRefusal_26 rfl (lv_at hl 2 rfl) ?_
                refine zcA_v (w := (zX k q 0 (-1) 12 100 0 (fun _ => 0) aps 0 ar1 ar2 ar3 ar4 ar5 ar6 ar7 ph pp py wy fa fb cm0 ia0 0 0 ih0 in0 il0 tx0 sh0 cm1 ia1 0 0 ih1 in1 il1 tx1 sh1 cm2 ia2 0 0 ih2 in2 il2 tx2 sh2 cm3 ia3 0 0 ih3 in3 il3 tx3 sh3 (-1) 0 it0 (-1) 0 it1 (-1) 0 it2 (-1) 0 it3)) (va_runV (As := [.int g, .int 3]) (rest := []) ⟨hx, hb, hml, hown, hts⟩ (c_X6_takePoll l dC dI k  q aps ar1 ar2 ar3 ar4 ar5 ar6 ar7 ph pp py wy fa fb cm0 ia0 ih0 in0 il0 tx0 sh0 cm1 ia1 ih1 in1 il1 tx1 sh1 cm2 ia2 ih2 in2 il2 tx2 sh2 cm3 ia3 ih3 in3 il3 tx3 sh3 it0 it1 it2 it3 g 3 _ ) (cwV 2 hts (gzV wmt2_134 wmt2_136 wmp1_9 wmt1_1 wmt2_137) rfl rfl rfl (by decide +kernel) ⟨Nat.le_of_ble_eq_true rfl, Nat.le_of_ble_eq_true rfl⟩) (zpA_V (ci := 6) (q0 := 0) hK hP hD rfl rfl) rfl rfl hl.1 rfl (lv_room (Nat.le_of_ble_eq_true rfl)) dX6_estimateRefusal_27 ⟨Nat.le_of_ble_eq_true rfl, Nat.le_of_ble_eq_true rfl⟩) hD hS hA (fun u_80 H locs w_81 hP hD hS => ?_)
                have hP : va_P (dC, dI) vwCl (zX k q 0 (-1) 12 100 0 (fun _ => 0) aps 0 ar1 ar2 ar3 ar4 ar5 ar6 ar7 0 0 0 wy fa fb cm0 ia0 0 0 ih0 in0 il0 tx0 sh0 cm1 ia1 0 0 ih1 in1 il1 tx1 sh1 cm2 ia2 0 0 ih2 in2 il2 tx2 sh2 cm3 ia3 0 0 ih3 in3 il3 tx3 sh3 (-1) 0 it0 (-1) 0 it1 (-1) 0 it2 (-1) 0 it3) H := hP
                have hD : va_D A (zX k q 0 (-1) 12 100 0 (fun _ => 0) aps 0 ar1 ar2 ar3 ar4 ar5 ar6 ar7 0 0 0 wy fa fb cm0 ia0 0 0 ih0 in0 il0 tx0 sh0 cm1 ia1 0 0 ih1 in1 il1 tx1 sh1 cm2 ia2 0 0 ih2 in2 il2 tx2 sh2 cm3 ia3 0 0 ih3 in3 il3 tx3 sh3 (-1) 0 it0 (-1) 0 it1 (-1) 0 it2 (-1) 0 it3) := hD
                refine lv_aload_n hx hb dX6_estimateRefusal_30 rfl (lv_at hl 0 rfl) ?_
                refine va_get (D := (dC, dI)) (ci := 6) (v := .ref (q 1)) (C := RX6) (T := TX6) (N := 12) hx hb hts hi6 hown hK.1 hP 0 rfl rfl 0 (by decide) (hts _ wmt1_170) (fun _ h9 => h9) rfl dX6_estimateRefusal_31 ?_
                refine lv_iload_n hx hb dX6_estimateRefusal_34 rfl (lv_at hl 2 rfl) ?_
                refine va_aldq (D := (dC, dI)) hx hb hK.1 hP 1 3 rfl rfl (show ¬ _ by decide) dX6_estimateRefusal_35 ?_
                refine z_top (v2 := .ref (q 25)) (rfl) ?_
                refine lv_astore (lv' := [(5, .ref (q 25)), (0, .ref (q 0)), (1, .int g), (2, .int 3), (3, .int w), (4, .int n)]) hx hb dX6_estimateRefusal_36 hl (by decide) rfl (fun ls hl => ?_)
                refine lv_aload hx hb dX6_estimateRefusal_38 (lv_at hl 0 rfl) ?_
                refine zcS_i (w := (zX k q 0 (-1) 12 100 0 (fun _ => 0) aps 0 ar1 ar2 ar3 ar4 ar5 ar6 ar7 0 0 0 wy fa fb cm0 ia0 0 0 ih0 in0 il0 tx0 sh0 cm1 ia1 0 0 ih1 in1 il1 tx1 sh1 cm2 ia2 0 0 ih2 in2 il2 tx2 sh2 cm3 ia3 0 0 ih3 in3 il3 tx3 sh3 (-1) 0 it0 (-1) 0 it1 (-1) 0 it2 (-1) 0 it3)) (wc := (zDes k (q 25) (q 26) (q 27) tx3 sh3 cm3 ia3 0 0 ih3 in3 il3)) (va_runV (As := []) (rest := []) ⟨hx, hb, hml, hown, hts⟩ (c_X1_isFaulty l dC dI k (zTX k) (q 25) (q 26) (q 27) tx3 sh3 cm3 ia3 0 ih3 in3 il3 _ ) (cwV 0 hts (gzV wmt2_55 wmt2_20 wmt2_21 wmt1_6 wmt2_22) rfl rfl rfl (by decide +kernel) ⟨Nat.le_of_ble_eq_true rfl, Nat.le_of_ble_eq_true rfl⟩) (zp_V (ci := 1) (q0 := 25) hK hP hD [25, 26, 27] rfl rfl rfl rfl) rfl rfl hl.1 rfl (lv_room (Nat.le_of_ble_eq_true rfl)) dX6_estimateRefusal_40 ⟨Nat.le_of_ble_eq_true rfl, Nat.le_of_ble_eq_true rfl⟩) hP hD hS hA [25, 26, 27] rfl (fun _ => rfl) (fun r_82 u_83 H locs w_84 hP hD hS => ?_)
                have hP : va_P (dC, dI) vwCl (zX k q 0 (-1) 12 100 0 (fun _ => 0) aps 0 ar1 ar2 ar3 ar4 ar5 ar6 ar7 0 0 0 wy fa fb cm0 ia0 0 0 ih0 in0 il0 tx0 sh0 cm1 ia1 0 0 ih1 in1 il1 tx1 sh1 cm2 ia2 0 0 ih2 in2 il2 tx2 sh2 cm3 ia3 0 0 ih3 in3 il3 tx3 sh3 (-1) 0 it0 (-1) 0 it1 (-1) 0 it2 (-1) 0 it3) H := hP
                have hD : va_D A (zX k q 0 (-1) 12 100 0 (fun _ => 0) aps 0 ar1 ar2 ar3 ar4 ar5 ar6 ar7 0 0 0 wy fa fb cm0 ia0 0 0 ih0 in0 il0 tx0 sh0 cm1 ia1 0 0 ih1 in1 il1 tx1 sh1 cm2 ia2 0 0 ih2 in2 il2 tx2 sh2 cm3 ia3 0 0 ih3 in3 il3 tx3 sh3 (-1) 0 it0 (-1) 0 it1 (-1) 0 it2 (-1) 0 it3) := hD
                have e_85 := w_84
                replace e_85 : r_82 = 1 := e_85
                subst e_85
                refine lv_if_ne (tgt := 66) hx hb dX6_estimateRefusal_43 (by decide) (fun c_86 => ?_) (fun c_86 => ?_)
                · skip
                  refine lv_bipush (v := (-3)) hx hb dX6_estimateRefusal_66 (by decide) ?_
                  refine lv_goto (tgt := 72) hx hb dX6_estimateRefusal_68 (by decide) ?_
                  exact W.iret (v := (-3)) hx hb hr (fun t ht hW => ⟨⟨(-3), (0, 0, 0), rfl, Or.inl ⟨(by first | assumption | with_reducible rfl | contradiction | exact (if_pos (by repeat' (first | assumption | decide | constructor))).symm | exact (if_neg (fun hh => absurd hh (by assumption))).symm | exact (if_neg (fun hh => absurd hh.1 (by assumption))).symm | exact (if_neg (fun hh => absurd hh.2 (by assumption))).symm | exact (if_neg (fun hh => absurd hh.1.1 (by assumption))).symm | exact (if_neg (fun hh => absurd hh.1.2 (by assumption))).symm | exact (if_neg (fun hh => absurd hh.2.1 (by assumption))).symm | exact (if_neg (fun hh => absurd hh.2.2 (by assumption))).symm | exact (if_neg (fun hh => absurd hh.2.2.1 (by assumption))).symm | exact (if_neg (fun hh => absurd hh.2.2.2 (by assumption))).symm | exact (if_neg (fun hh => absurd hh.2.2.2.1 (by assumption))).symm | exact (if_neg (fun hh => absurd hh.2.2.2.2 (by assumption))).symm | decide | (exfalso; simp only [zi_le, zi_lt, zi_eq, zi_n0, zi_n1, zi_n2, zi_n3, zi_n4, zi_n23, zi_n24, zi_n100, zi_n399, zi_n60, zi_n255, zi_n99, zi_nm1, zi_n30] at *; omega) | (simp_all; done)), (by first | assumption | with_reducible rfl | contradiction | ((repeat' (first | assumption | decide | constructor)); done) | exact fun hh => absurd hh (by assumption) | exact fun hh => absurd hh.1 (by assumption) | exact fun hh => absurd hh.2 (by assumption) | exact fun hh => absurd hh.1.1 (by assumption) | exact fun hh => absurd hh.1.2 (by assumption) | exact fun hh => absurd hh.2.1 (by assumption) | exact fun hh => absurd hh.2.2 (by assumption) | decide | (simp_all; done) | (simp only [zi_le, zi_lt, zi_eq, zi_n0, zi_n1, zi_n2, zi_n3, zi_n4, zi_n23, zi_n24, zi_n100, zi_n399, zi_n60, zi_n255, zi_n99, zi_nm1, zi_n30] at *; omega))⟩, ⟨by rw [ht]; exact hP, hD⟩⟩, hS.F ht⟩) hS.2.2 dX6_estimateRefusal_72
                · skip
                  exact absurd c_86 (by decide)
              · skip
                exact absurd c_78 (by decide)
            · skip
              replace e_77 : r_71 = 0 := e_77
              subst e_77
              replace h_76 : ¬ (0 ≤ (w : Int32) ∧ (w : Int32) ≤ 1) := h_76
              refine lv_if_ne (tgt := 24) hx hb dX6_estimateRefusal_18 (by decide) (fun c_87 => ?_) (fun c_87 => ?_)
              · skip
                exact absurd c_87 (by decide)
              · skip
                refine lv_bipush (v := (-2)) hx hb dX6_estimateRefusal_21 (by decide) ?_
                exact W.iret (v := (-2)) hx hb hr (fun t ht hW => ⟨⟨(-2), (ph, pp, py), rfl, Or.inr (⟨(by first | assumption | with_reducible rfl | contradiction | exact (if_pos (by repeat' (first | assumption | decide | constructor))).symm | exact (if_neg (fun hh => absurd hh (by assumption))).symm | exact (if_neg (fun hh => absurd hh.1 (by assumption))).symm | exact (if_neg (fun hh => absurd hh.2 (by assumption))).symm | exact (if_neg (fun hh => absurd hh.1.1 (by assumption))).symm | exact (if_neg (fun hh => absurd hh.1.2 (by assumption))).symm | exact (if_neg (fun hh => absurd hh.2.1 (by assumption))).symm | exact (if_neg (fun hh => absurd hh.2.2 (by assumption))).symm | exact (if_neg (fun hh => absurd hh.2.2.1 (by assumption))).symm | exact (if_neg (fun hh => absurd hh.2.2.2 (by assumption))).symm | exact (if_neg (fun hh => absurd hh.2.2.2.1 (by assumption))).symm | exact (if_neg (fun hh => absurd hh.2.2.2.2 (by assumption))).symm | decide | (exfalso; simp only [zi_le, zi_lt, zi_eq, zi_n0, zi_n1, zi_n2, zi_n3, zi_n4, zi_n23, zi_n24, zi_n100, zi_n399, zi_n60, zi_n255, zi_n99, zi_nm1, zi_n30] at *; omega) | (simp_all; done)), (by first | assumption | with_reducible rfl | contradiction | ((repeat' (first | assumption | decide | constructor)); done) | exact fun hh => absurd hh (by assumption) | exact fun hh => absurd hh.1 (by assumption) | exact fun hh => absurd hh.2 (by assumption) | exact fun hh => absurd hh.1.1 (by assumption) | exact fun hh => absurd hh.1.2 (by assumption) | exact fun hh => absurd hh.2.1 (by assumption) | exact fun hh => absurd hh.2.2 (by assumption) | decide | (simp_all; done) | (simp only [zi_le, zi_lt, zi_eq, zi_n0, zi_n1, zi_n2, zi_n3, zi_n4, zi_n23, zi_n24, zi_n100, zi_n399, zi_n60, zi_n255, zi_n99, zi_nm1, zi_n30] at *; omega))⟩), ⟨by rw [ht]; exact hP, hD⟩⟩, hS.F ht⟩) hS.2.2 dX6_estimateRefusal_23
      · skip
        replace e_15 : r_9 = 0 := e_15
        subst e_15
        replace h_14 : ¬ (0 ≤ (d : Int32) ∧ (d : Int32) ≤ 3) := h_14
        refine lv_if_eq (tgt := 21) hx hb dX6_estimateRefusal_11 (by decide) (fun c_88 => ?_) (fun c_88 => ?_)
        · skip
          refine lv_bipush (v := (-2)) hx hb dX6_estimateRefusal_21 (by decide) ?_
          exact W.iret (v := (-2)) hx hb hr (fun t ht hW => ⟨⟨(-2), (ph, pp, py), rfl, Or.inr (⟨(by first | assumption | with_reducible rfl | contradiction | exact (if_pos (by repeat' (first | assumption | decide | constructor))).symm | exact (if_neg (fun hh => absurd hh (by assumption))).symm | exact (if_neg (fun hh => absurd hh.1 (by assumption))).symm | exact (if_neg (fun hh => absurd hh.2 (by assumption))).symm | exact (if_neg (fun hh => absurd hh.1.1 (by assumption))).symm | exact (if_neg (fun hh => absurd hh.1.2 (by assumption))).symm | exact (if_neg (fun hh => absurd hh.2.1 (by assumption))).symm | exact (if_neg (fun hh => absurd hh.2.2 (by assumption))).symm | exact (if_neg (fun hh => absurd hh.2.2.1 (by assumption))).symm | exact (if_neg (fun hh => absurd hh.2.2.2 (by assumption))).symm | exact (if_neg (fun hh => absurd hh.2.2.2.1 (by assumption))).symm | exact (if_neg (fun hh => absurd hh.2.2.2.2 (by assumption))).symm | decide | (exfalso; simp only [zi_le, zi_lt, zi_eq, zi_n0, zi_n1, zi_n2, zi_n3, zi_n4, zi_n23, zi_n24, zi_n100, zi_n399, zi_n60, zi_n255, zi_n99, zi_nm1, zi_n30] at *; omega) | (simp_all; done)), (by first | assumption | with_reducible rfl | contradiction | ((repeat' (first | assumption | decide | constructor)); done) | exact fun hh => absurd hh (by assumption) | exact fun hh => absurd hh.1 (by assumption) | exact fun hh => absurd hh.2 (by assumption) | exact fun hh => absurd hh.1.1 (by assumption) | exact fun hh => absurd hh.1.2 (by assumption) | exact fun hh => absurd hh.2.1 (by assumption) | exact fun hh => absurd hh.2.2 (by assumption) | decide | (simp_all; done) | (simp only [zi_le, zi_lt, zi_eq, zi_n0, zi_n1, zi_n2, zi_n3, zi_n4, zi_n23, zi_n24, zi_n100, zi_n399, zi_n60, zi_n255, zi_n99, zi_nm1, zi_n30] at *; omega))⟩), ⟨by rw [ht]; exact hP, hD⟩⟩, hS.F ht⟩) hS.2.2 dX6_estimateRefusal_23
        · skip
          exact absurd (by decide) c_88
  · skip
    replace e_7 : r_1 = 0 := e_7
    subst e_7
    replace h_6 : ¬ (0 ≤ (g : Int32) ∧ (g : Int32) ≤ 3) := h_6
    refine lv_if_eq (tgt := 21) hx hb dX6_estimateRefusal_4 (by decide) (fun c_89 => ?_) (fun c_89 => ?_)
    · skip
      refine lv_bipush (v := (-2)) hx hb dX6_estimateRefusal_21 (by decide) ?_
      exact W.iret (v := (-2)) hx hb hr (fun t ht hW => ⟨⟨(-2), (ph, pp, py), rfl, Or.inr (⟨(by first | assumption | with_reducible rfl | contradiction | exact (if_pos (by repeat' (first | assumption | decide | constructor))).symm | exact (if_neg (fun hh => absurd hh (by assumption))).symm | exact (if_neg (fun hh => absurd hh.1 (by assumption))).symm | exact (if_neg (fun hh => absurd hh.2 (by assumption))).symm | exact (if_neg (fun hh => absurd hh.1.1 (by assumption))).symm | exact (if_neg (fun hh => absurd hh.1.2 (by assumption))).symm | exact (if_neg (fun hh => absurd hh.2.1 (by assumption))).symm | exact (if_neg (fun hh => absurd hh.2.2 (by assumption))).symm | exact (if_neg (fun hh => absurd hh.2.2.1 (by assumption))).symm | exact (if_neg (fun hh => absurd hh.2.2.2 (by assumption))).symm | exact (if_neg (fun hh => absurd hh.2.2.2.1 (by assumption))).symm | exact (if_neg (fun hh => absurd hh.2.2.2.2 (by assumption))).symm | decide | (exfalso; simp only [zi_le, zi_lt, zi_eq, zi_n0, zi_n1, zi_n2, zi_n3, zi_n4, zi_n23, zi_n24, zi_n100, zi_n399, zi_n60, zi_n255, zi_n99, zi_nm1, zi_n30] at *; omega) | (simp_all; done)), (by first | assumption | with_reducible rfl | contradiction | ((repeat' (first | assumption | decide | constructor)); done) | exact fun hh => absurd hh (by assumption) | exact fun hh => absurd hh.1 (by assumption) | exact fun hh => absurd hh.2 (by assumption) | exact fun hh => absurd hh.1.1 (by assumption) | exact fun hh => absurd hh.1.2 (by assumption) | exact fun hh => absurd hh.2.1 (by assumption) | exact fun hh => absurd hh.2.2 (by assumption) | decide | (simp_all; done) | (simp only [zi_le, zi_lt, zi_eq, zi_n0, zi_n1, zi_n2, zi_n3, zi_n4, zi_n23, zi_n24, zi_n100, zi_n399, zi_n60, zi_n255, zi_n99, zi_nm1, zi_n30] at *; omega))⟩), ⟨by rw [ht]; exact hP, hD⟩⟩, hS.F ht⟩) hS.2.2 dX6_estimateRefusal_23
    · skip
      exact absurd (by decide) c_89
set_option maxHeartbeats 4000000 in
set_option maxRecDepth 100000 in
theorem c_X6_share (l : Launch) (dC : Nat → ClassId) (dI : Nat → Nat → Nat) (k : Nat → ClassId)  (q : Nat → Nat) (aps : Int32) (ar1 : Nat → Int32) (ar2 : Nat → Int32) (ar3 : Nat → Int32) (ar4 : Nat → Int32) (ar5 : Nat → Int32) (ar6 : Nat → Int32) (ar7 : Nat → Int32) (ph : Int32) (pp : Int32) (py : Int32) (wy : Nat → Int64) (fa : Int64) (fb : Int64) (cm0 : Int64) (ia0 : Int32) (ih0 : Int32) (in0 : Int32) (il0 : Int32) (tx0 : Nat → Int32) (sh0 : Nat → Int64) (cm1 : Int64) (ia1 : Int32) (ih1 : Int32) (in1 : Int32) (il1 : Int32) (tx1 : Nat → Int32) (sh1 : Nat → Int64) (cm2 : Int64) (ia2 : Int32) (ih2 : Int32) (in2 : Int32) (il2 : Int32) (tx2 : Nat → Int32) (sh2 : Nat → Int64) (cm3 : Int64) (ia3 : Int32) (ih3 : Int32) (in3 : Int32) (il3 : Int32) (tx3 : Nat → Int32) (sh3 : Nat → Int64) (it0 : Nat → Int32) (it1 : Nat → Int32) (it2 : Nat → Int32) (it3 : Nat → Int32) (g : Int32) (d : Int32) (w : Int32) (sz : Nat)  : Met l yX6_share (wz yX6_share cX6_share 8 (some .long)) ({ frames := 3, cells := 0, slots := 0, locals := 70 }) (va_Pc [.ref (q 0), .int g, .int d, .int w] (zPre dC dI k (zTX k) (zX k q 0 (-1) 12 100 0 (fun _ => 0) aps 0 ar1 ar2 ar3 ar4 ar5 ar6 ar7 ph pp py wy fa fb cm0 ia0 0 0 ih0 in0 il0 tx0 sh0 cm1 ia1 0 0 ih1 in1 il1 tx1 sh1 cm2 ia2 0 0 ih2 in2 il2 tx2 sh2 cm3 ia3 0 0 ih3 in3 il3 tx3 sh3 (-1) 0 it0 (-1) 0 it1 (-1) 0 it2 (-1) 0 it3) sz)) (va_Ql (fun (r : Int64) (u : Int32 × Int32 × Int32) => (r = if ((0 ≤ (g : Int32) ∧ (g : Int32) ≤ 3) ∧ (0 ≤ (d : Int32) ∧ (d : Int32) ≤ 3)) ∧ (0 ≤ (w : Int32) ∧ (w : Int32) ≤ 1) then (-9223372036854775805) else (-9223372036854775806))) (fun u t => zPost dC dI (va_A (zX k q 0 (-1) 12 100 0 (fun _ => 0) aps 0 ar1 ar2 ar3 ar4 ar5 ar6 ar7 ph pp py wy fa fb cm0 ia0 0 0 ih0 in0 il0 tx0 sh0 cm1 ia1 0 0 ih1 in1 il1 tx1 sh1 cm2 ia2 0 0 ih2 in2 il2 tx2 sh2 cm3 ia3 0 0 ih3 in3 il3 tx3 sh3 (-1) 0 it0 (-1) 0 it1 (-1) 0 it2 (-1) 0 it3) sz) (zX k q 0 (-1) 12 100 0 (fun _ => 0) aps 0 ar1 ar2 ar3 ar4 ar5 ar6 ar7 u.1 u.2.1 u.2.2 wy fa fb cm0 ia0 0 0 ih0 in0 il0 tx0 sh0 cm1 ia1 0 0 ih1 in1 il1 tx1 sh1 cm2 ia2 0 0 ih2 in2 il2 tx2 sh2 cm3 ia3 0 0 ih3 in3 il3 tx3 sh3 (-1) 0 it0 (-1) 0 it1 (-1) 0 it2 (-1) 0 it3) t) (va_A (zX k q 0 (-1) 12 100 0 (fun _ => 0) aps 0 ar1 ar2 ar3 ar4 ar5 ar6 ar7 ph pp py wy fa fb cm0 ia0 0 0 ih0 in0 il0 tx0 sh0 cm1 ia1 0 0 ih1 in1 il1 tx1 sh1 cm2 ia2 0 0 ih2 in2 il2 tx2 sh2 cm3 ia3 0 0 ih3 in3 il3 tx3 sh3 (-1) 0 it0 (-1) 0 it1 (-1) 0 it2 (-1) 0 it3) sz)) 0 0 (va_A (zX k q 0 (-1) 12 100 0 (fun _ => 0) aps 0 ar1 ar2 ar3 ar4 ar5 ar6 ar7 ph pp py wy fa fb cm0 ia0 0 0 ih0 in0 il0 tx0 sh0 cm1 ia1 0 0 ih1 in1 il1 tx1 sh1 cm2 ia2 0 0 ih2 in2 il2 tx2 sh2 cm3 ia3 0 0 ih3 in3 il3 tx3 sh3 (-1) 0 it0 (-1) 0 it1 (-1) 0 it2 (-1) 0 it3) sz) := by
  refine Met.ofW (cc := cX6_share) (maxL := 8) (ret := (some .long)) (by decide) rfl ?_
  intro p e s m args below meth c s₁ B hml hv
  obtain ⟨rfl, hsz, hP, hK, hD0⟩ := hv
  have hx := B.exec
  have hb := B.bytes
  have hr := B.returns
  have hts : ∀ w ∈ zw, w.before _ s = true := fun w h => atoms_spec (ws := (wz yX6_share cX6_share 8 (some .long))) B.pre w (List.mem_cons_of_mem _ h)
  have hown : s.vm.findClass RX6 = some m.cls := findClass_of_methodNamed B.named
  have hlocks := B.notSynchronized
  subst hsz
  have hD := hD0.self (sz := s.heap.size)
  generalize hAe : va_A (zX k q 0 (-1) 12 100 0 (fun _ => 0) aps 0 ar1 ar2 ar3 ar4 ar5 ar6 ar7 ph pp py wy fa fb cm0 ia0 0 0 ih0 in0 il0 tx0 sh0 cm1 ia1 0 0 ih1 in1 il1 tx1 sh1 cm2 ia2 0 0 ih2 in2 il2 tx2 sh2 cm3 ia3 0 0 ih3 in3 il3 tx3 sh3 (-1) 0 it0 (-1) 0 it1 (-1) 0 it2 (-1) 0 it3) s.heap.size = A at hD ⊢
  have hA : ∀ q : Nat, s.heap.size ≤ q → A q := fun q h => by rw [← hAe]; exact Or.inr h
  have hl := lv_entry ([.ref (q 0), .int g, .int d, .int w]) (n := 8) (Nat.le_of_ble_eq_true rfl)
  rw [lg_entry_eq]
  generalize (lg_sl ([.ref (q 0), .int g, .int d, .int w]) ++ List.replicate (8 - (lg_sl ([.ref (q 0), .int g, .int d, .int w])).length) Slot.unset).toArray = ls at hl ⊢
  have hl : lv_has ls 8 [(0, .ref (q 0)), (1, .int g), (2, .int d), (3, .int w)] := hl
  refine z_start (w := (zX k q 0 (-1) 12 100 0 (fun _ => 0) aps 0 ar1 ar2 ar3 ar4 ar5 ar6 ar7 ph pp py wy fa fb cm0 ia0 0 0 ih0 in0 il0 tx0 sh0 cm1 ia1 0 0 ih1 in1 il1 tx1 sh1 cm2 ia2 0 0 ih2 in2 il2 tx2 sh2 cm3 ia3 0 0 ih3 in3 il3 tx3 sh3 (-1) 0 it0 (-1) 0 it1 (-1) 0 it2 (-1) 0 it3)) hP hD (fun H locs hP hD hS => ?_)
  refine lv_aload_n hx hb dX6_share_0 rfl (lv_at hl 0 rfl) ?_
  refine lv_iload_n hx hb dX6_share_1 rfl (lv_at hl 1 rfl) ?_
  refine lv_iload_n hx hb dX6_share_2 rfl (lv_at hl 2 rfl) ?_
  refine lv_iload_n hx hb dX6_share_3 rfl (lv_at hl 3 rfl) ?_
  refine lv_iconst (v := 1) hx hb dX6_share_4 (by decide) ?_
  refine zcA_i (w := (zX k q 0 (-1) 12 100 0 (fun _ => 0) aps 0 ar1 ar2 ar3 ar4 ar5 ar6 ar7 ph pp py wy fa fb cm0 ia0 0 0 ih0 in0 il0 tx0 sh0 cm1 ia1 0 0 ih1 in1 il1 tx1 sh1 cm2 ia2 0 0 ih2 in2 il2 tx2 sh2 cm3 ia3 0 0 ih3 in3 il3 tx3 sh3 (-1) 0 it0 (-1) 0 it1 (-1) 0 it2 (-1) 0 it3)) (va_runV (As := [.int g, .int d, .int w, .int 1]) (rest := []) ⟨hx, hb, hml, hown, hts⟩ (c_X6_estimateRefusal l dC dI k  q aps ar1 ar2 ar3 ar4 ar5 ar6 ar7 ph pp py wy fa fb cm0 ia0 ih0 in0 il0 tx0 sh0 cm1 ia1 ih1 in1 il1 tx1 sh1 cm2 ia2 ih2 in2 il2 tx2 sh2 cm3 ia3 ih3 in3 il3 tx3 sh3 it0 it1 it2 it3 g d w 1 _ ) (cwV 4 hts (gzV wmt2_150 wmt2_152 wmp1_10 wmt1_1 wmt2_153) rfl rfl rfl (by decide +kernel) ⟨Nat.le_of_ble_eq_true rfl, Nat.le_of_ble_eq_true rfl⟩) (zpA_V (ci := 6) (q0 := 0) hK hP hD rfl rfl) rfl rfl hl.1 rfl (lv_room (Nat.le_of_ble_eq_true rfl)) dX6_share_5 ⟨Nat.le_of_ble_eq_true rfl, Nat.le_of_ble_eq_true rfl⟩) hD hS hA (fun r_1 u_2 H locs w_3 hP hD hS => ?_)
  obtain ⟨oph_4, opp_5, opy_6⟩ := u_2
  have hP : va_P (dC, dI) vwCl (zX k q 0 (-1) 12 100 0 (fun _ => 0) aps 0 ar1 ar2 ar3 ar4 ar5 ar6 ar7 oph_4 opp_5 opy_6 wy fa fb cm0 ia0 0 0 ih0 in0 il0 tx0 sh0 cm1 ia1 0 0 ih1 in1 il1 tx1 sh1 cm2 ia2 0 0 ih2 in2 il2 tx2 sh2 cm3 ia3 0 0 ih3 in3 il3 tx3 sh3 (-1) 0 it0 (-1) 0 it1 (-1) 0 it2 (-1) 0 it3) H := hP
  have hD : va_D A (zX k q 0 (-1) 12 100 0 (fun _ => 0) aps 0 ar1 ar2 ar3 ar4 ar5 ar6 ar7 oph_4 opp_5 opy_6 wy fa fb cm0 ia0 0 0 ih0 in0 il0 tx0 sh0 cm1 ia1 0 0 ih1 in1 il1 tx1 sh1 cm2 ia2 0 0 ih2 in2 il2 tx2 sh2 cm3 ia3 0 0 ih3 in3 il3 tx3 sh3 (-1) 0 it0 (-1) 0 it1 (-1) 0 it2 (-1) 0 it3) := hD
  rcases w_3 with ⟨e_8, h_7⟩ | ⟨e_10, h_9⟩
  · skip
    replace e_8 : r_1 = (-3) := e_8
    subst e_8
    replace h_7 : ((0 ≤ (g : Int32) ∧ (g : Int32) ≤ 3) ∧ (0 ≤ (d : Int32) ∧ (d : Int32) ≤ 3)) ∧ (0 ≤ (w : Int32) ∧ (w : Int32) ≤ 1) := h_7
    refine lv_istore (lv' := [(4, .int (-3)), (0, .ref (q 0)), (1, .int g), (2, .int d), (3, .int w)]) hx hb dX6_share_8 hl (by decide) rfl (fun ls hl => ?_)
    refine lv_iload hx hb dX6_share_10 (lv_at hl 0 rfl) ?_
    refine lv_if_eq (tgt := 21) hx hb dX6_share_12 (by decide) (fun c_11 => ?_) (fun c_11 => ?_)
    · skip
      exact absurd c_11 (by decide)
    · skip
      refine lv_iload hx hb dX6_share_15 (lv_at hl 0 rfl) ?_
      refine zc0_l (w := (zX k q 0 (-1) 12 100 0 (fun _ => 0) aps 0 ar1 ar2 ar3 ar4 ar5 ar6 ar7 oph_4 opp_5 opy_6 wy fa fb cm0 ia0 0 0 ih0 in0 il0 tx0 sh0 cm1 ia1 0 0 ih1 in1 il1 tx1 sh1 cm2 ia2 0 0 ih2 in2 il2 tx2 sh2 cm3 ia3 0 0 ih3 in3 il3 tx3 sh3 (-1) 0 it0 (-1) 0 it1 (-1) 0 it2 (-1) 0 it3)) (va_runS (As := [.int (-3)]) (rest := []) ⟨hx, hb, hml, hown, hts⟩ (c_X6_asLong_3 l dC dI k (zTX k)  _ ) (va_cwS 1 hts (gzS wmt2_51 wmt2_52 wmt1_1 wmt2_53) rfl rfl rfl (by decide +kernel) ⟨Nat.le_of_ble_eq_true rfl, Nat.le_of_ble_eq_true rfl⟩) (zp0_S hK) rfl rfl hl.1 rfl (lv_room (Nat.le_of_ble_eq_true rfl)) dX6_share_17 ⟨Nat.le_of_ble_eq_true rfl, Nat.le_of_ble_eq_true rfl⟩) hP hS hA (fun r_12 u_13 H locs w_14 hP hS => ?_)
      have e_15 := w_14
      replace e_15 : r_12 = (-9223372036854775805) := e_15
      subst e_15
      exact W.lret (v := (-9223372036854775805)) hx hb hr (fun t ht hW => ⟨⟨(-9223372036854775805), (oph_4, opp_5, opy_6), rfl, (by first | assumption | with_reducible rfl | contradiction | exact (if_pos (by repeat' (first | assumption | decide | constructor))).symm | exact (if_neg (fun hh => absurd hh (by assumption))).symm | exact (if_neg (fun hh => absurd hh.1 (by assumption))).symm | exact (if_neg (fun hh => absurd hh.2 (by assumption))).symm | exact (if_neg (fun hh => absurd hh.1.1 (by assumption))).symm | exact (if_neg (fun hh => absurd hh.1.2 (by assumption))).symm | exact (if_neg (fun hh => absurd hh.2.1 (by assumption))).symm | exact (if_neg (fun hh => absurd hh.2.2 (by assumption))).symm | exact (if_neg (fun hh => absurd hh.2.2.1 (by assumption))).symm | exact (if_neg (fun hh => absurd hh.2.2.2 (by assumption))).symm | exact (if_neg (fun hh => absurd hh.2.2.2.1 (by assumption))).symm | exact (if_neg (fun hh => absurd hh.2.2.2.2 (by assumption))).symm | decide | (exfalso; simp only [zi_le, zi_lt, zi_eq, zi_n0, zi_n1, zi_n2, zi_n3, zi_n4, zi_n23, zi_n24, zi_n100, zi_n399, zi_n60, zi_n255, zi_n99, zi_nm1, zi_n30] at *; omega) | (simp_all; done)), ⟨by rw [ht]; exact hP, hD⟩⟩, hS.F ht⟩) hS.2.2 dX6_share_20
  · skip
    replace e_10 : r_1 = (-2) := e_10
    subst e_10
    replace h_9 : ¬ (((0 ≤ (g : Int32) ∧ (g : Int32) ≤ 3) ∧ (0 ≤ (d : Int32) ∧ (d : Int32) ≤ 3)) ∧ (0 ≤ (w : Int32) ∧ (w : Int32) ≤ 1)) := h_9
    refine lv_istore (lv' := [(4, .int (-2)), (0, .ref (q 0)), (1, .int g), (2, .int d), (3, .int w)]) hx hb dX6_share_8 hl (by decide) rfl (fun ls hl => ?_)
    refine lv_iload hx hb dX6_share_10 (lv_at hl 0 rfl) ?_
    refine lv_if_eq (tgt := 21) hx hb dX6_share_12 (by decide) (fun c_16 => ?_) (fun c_16 => ?_)
    · skip
      exact absurd c_16 (by decide)
    · skip
      refine lv_iload hx hb dX6_share_15 (lv_at hl 0 rfl) ?_
      refine zc0_l (w := (zX k q 0 (-1) 12 100 0 (fun _ => 0) aps 0 ar1 ar2 ar3 ar4 ar5 ar6 ar7 oph_4 opp_5 opy_6 wy fa fb cm0 ia0 0 0 ih0 in0 il0 tx0 sh0 cm1 ia1 0 0 ih1 in1 il1 tx1 sh1 cm2 ia2 0 0 ih2 in2 il2 tx2 sh2 cm3 ia3 0 0 ih3 in3 il3 tx3 sh3 (-1) 0 it0 (-1) 0 it1 (-1) 0 it2 (-1) 0 it3)) (va_runS (As := [.int (-2)]) (rest := []) ⟨hx, hb, hml, hown, hts⟩ (c_X6_asLong_2 l dC dI k (zTX k)  _ ) (va_cwS 1 hts (gzS wmt2_51 wmt2_52 wmt1_1 wmt2_53) rfl rfl rfl (by decide +kernel) ⟨Nat.le_of_ble_eq_true rfl, Nat.le_of_ble_eq_true rfl⟩) (zp0_S hK) rfl rfl hl.1 rfl (lv_room (Nat.le_of_ble_eq_true rfl)) dX6_share_17 ⟨Nat.le_of_ble_eq_true rfl, Nat.le_of_ble_eq_true rfl⟩) hP hS hA (fun r_17 u_18 H locs w_19 hP hS => ?_)
      have e_20 := w_19
      replace e_20 : r_17 = (-9223372036854775806) := e_20
      subst e_20
      exact W.lret (v := (-9223372036854775806)) hx hb hr (fun t ht hW => ⟨⟨(-9223372036854775806), (oph_4, opp_5, opy_6), rfl, (by first | assumption | with_reducible rfl | contradiction | exact (if_pos (by repeat' (first | assumption | decide | constructor))).symm | exact (if_neg (fun hh => absurd hh (by assumption))).symm | exact (if_neg (fun hh => absurd hh.1 (by assumption))).symm | exact (if_neg (fun hh => absurd hh.2 (by assumption))).symm | exact (if_neg (fun hh => absurd hh.1.1 (by assumption))).symm | exact (if_neg (fun hh => absurd hh.1.2 (by assumption))).symm | exact (if_neg (fun hh => absurd hh.2.1 (by assumption))).symm | exact (if_neg (fun hh => absurd hh.2.2 (by assumption))).symm | exact (if_neg (fun hh => absurd hh.2.2.1 (by assumption))).symm | exact (if_neg (fun hh => absurd hh.2.2.2 (by assumption))).symm | exact (if_neg (fun hh => absurd hh.2.2.2.1 (by assumption))).symm | exact (if_neg (fun hh => absurd hh.2.2.2.2 (by assumption))).symm | decide | (exfalso; simp only [zi_le, zi_lt, zi_eq, zi_n0, zi_n1, zi_n2, zi_n3, zi_n4, zi_n23, zi_n24, zi_n100, zi_n399, zi_n60, zi_n255, zi_n99, zi_nm1, zi_n30] at *; omega) | (simp_all; done)), ⟨by rw [ht]; exact hP, hD⟩⟩, hS.F ht⟩) hS.2.2 dX6_share_20
set_option maxHeartbeats 4000000 in
set_option maxRecDepth 100000 in
theorem c_X6_scatter (l : Launch) (dC : Nat → ClassId) (dI : Nat → Nat → Nat) (k : Nat → ClassId)  (q : Nat → Nat) (aps : Int32) (ar1 : Nat → Int32) (ar2 : Nat → Int32) (ar3 : Nat → Int32) (ar4 : Nat → Int32) (ar5 : Nat → Int32) (ar6 : Nat → Int32) (ar7 : Nat → Int32) (ph : Int32) (pp : Int32) (py : Int32) (wy : Nat → Int64) (fa : Int64) (fb : Int64) (cm0 : Int64) (ia0 : Int32) (ih0 : Int32) (in0 : Int32) (il0 : Int32) (tx0 : Nat → Int32) (sh0 : Nat → Int64) (cm1 : Int64) (ia1 : Int32) (ih1 : Int32) (in1 : Int32) (il1 : Int32) (tx1 : Nat → Int32) (sh1 : Nat → Int64) (cm2 : Int64) (ia2 : Int32) (ih2 : Int32) (in2 : Int32) (il2 : Int32) (tx2 : Nat → Int32) (sh2 : Nat → Int64) (cm3 : Int64) (ia3 : Int32) (ih3 : Int32) (in3 : Int32) (il3 : Int32) (tx3 : Nat → Int32) (sh3 : Nat → Int64) (it0 : Nat → Int32) (it1 : Nat → Int32) (it2 : Nat → Int32) (it3 : Nat → Int32) (g : Int32) (d : Int32) (w : Int32) (sz : Nat)  : Met l yX6_scatter (wz yX6_scatter cX6_scatter 14 (some .long)) ({ frames := 3, cells := 0, slots := 0, locals := 70 }) (va_Pc [.ref (q 0), .int g, .int d, .int w] (zPre dC dI k (zTX k) (zX k q 0 (-1) 12 100 0 (fun _ => 0) aps 0 ar1 ar2 ar3 ar4 ar5 ar6 ar7 ph pp py wy fa fb cm0 ia0 0 0 ih0 in0 il0 tx0 sh0 cm1 ia1 0 0 ih1 in1 il1 tx1 sh1 cm2 ia2 0 0 ih2 in2 il2 tx2 sh2 cm3 ia3 0 0 ih3 in3 il3 tx3 sh3 (-1) 0 it0 (-1) 0 it1 (-1) 0 it2 (-1) 0 it3) sz)) (va_Ql (fun (r : Int64) (u : Int32 × Int32 × Int32) => (r = if ((0 ≤ (g : Int32) ∧ (g : Int32) ≤ 3) ∧ (0 ≤ (d : Int32) ∧ (d : Int32) ≤ 3)) ∧ (0 ≤ (w : Int32) ∧ (w : Int32) ≤ 1) then (-9223372036854775805) else (-9223372036854775806))) (fun u t => zPost dC dI (va_A (zX k q 0 (-1) 12 100 0 (fun _ => 0) aps 0 ar1 ar2 ar3 ar4 ar5 ar6 ar7 ph pp py wy fa fb cm0 ia0 0 0 ih0 in0 il0 tx0 sh0 cm1 ia1 0 0 ih1 in1 il1 tx1 sh1 cm2 ia2 0 0 ih2 in2 il2 tx2 sh2 cm3 ia3 0 0 ih3 in3 il3 tx3 sh3 (-1) 0 it0 (-1) 0 it1 (-1) 0 it2 (-1) 0 it3) sz) (zX k q 0 (-1) 12 100 0 (fun _ => 0) aps 0 ar1 ar2 ar3 ar4 ar5 ar6 ar7 u.1 u.2.1 u.2.2 wy fa fb cm0 ia0 0 0 ih0 in0 il0 tx0 sh0 cm1 ia1 0 0 ih1 in1 il1 tx1 sh1 cm2 ia2 0 0 ih2 in2 il2 tx2 sh2 cm3 ia3 0 0 ih3 in3 il3 tx3 sh3 (-1) 0 it0 (-1) 0 it1 (-1) 0 it2 (-1) 0 it3) t) (va_A (zX k q 0 (-1) 12 100 0 (fun _ => 0) aps 0 ar1 ar2 ar3 ar4 ar5 ar6 ar7 ph pp py wy fa fb cm0 ia0 0 0 ih0 in0 il0 tx0 sh0 cm1 ia1 0 0 ih1 in1 il1 tx1 sh1 cm2 ia2 0 0 ih2 in2 il2 tx2 sh2 cm3 ia3 0 0 ih3 in3 il3 tx3 sh3 (-1) 0 it0 (-1) 0 it1 (-1) 0 it2 (-1) 0 it3) sz)) 0 0 (va_A (zX k q 0 (-1) 12 100 0 (fun _ => 0) aps 0 ar1 ar2 ar3 ar4 ar5 ar6 ar7 ph pp py wy fa fb cm0 ia0 0 0 ih0 in0 il0 tx0 sh0 cm1 ia1 0 0 ih1 in1 il1 tx1 sh1 cm2 ia2 0 0 ih2 in2 il2 tx2 sh2 cm3 ia3 0 0 ih3 in3 il3 tx3 sh3 (-1) 0 it0 (-1) 0 it1 (-1) 0 it2 (-1) 0 it3) sz) := by
  refine Met.ofW (cc := cX6_scatter) (maxL := 14) (ret := (some .long)) (by decide) rfl ?_
  intro p e s m args below meth c s₁ B hml hv
  obtain ⟨rfl, hsz, hP, hK, hD0⟩ := hv
  have hx := B.exec
  have hb := B.bytes
  have hr := B.returns
  have hts : ∀ w ∈ zw, w.before _ s = true := fun w h => atoms_spec (ws := (wz yX6_scatter cX6_scatter 14 (some .long))) B.pre w (List.mem_cons_of_mem _ h)
  have hown : s.vm.findClass RX6 = some m.cls := findClass_of_methodNamed B.named
  have hlocks := B.notSynchronized
  subst hsz
  have hD := hD0.self (sz := s.heap.size)
  generalize hAe : va_A (zX k q 0 (-1) 12 100 0 (fun _ => 0) aps 0 ar1 ar2 ar3 ar4 ar5 ar6 ar7 ph pp py wy fa fb cm0 ia0 0 0 ih0 in0 il0 tx0 sh0 cm1 ia1 0 0 ih1 in1 il1 tx1 sh1 cm2 ia2 0 0 ih2 in2 il2 tx2 sh2 cm3 ia3 0 0 ih3 in3 il3 tx3 sh3 (-1) 0 it0 (-1) 0 it1 (-1) 0 it2 (-1) 0 it3) s.heap.size = A at hD ⊢
  have hA : ∀ q : Nat, s.heap.size ≤ q → A q := fun q h => by rw [← hAe]; exact Or.inr h
  have hl := lv_entry ([.ref (q 0), .int g, .int d, .int w]) (n := 14) (Nat.le_of_ble_eq_true rfl)
  rw [lg_entry_eq]
  generalize (lg_sl ([.ref (q 0), .int g, .int d, .int w]) ++ List.replicate (14 - (lg_sl ([.ref (q 0), .int g, .int d, .int w])).length) Slot.unset).toArray = ls at hl ⊢
  have hl : lv_has ls 14 [(0, .ref (q 0)), (1, .int g), (2, .int d), (3, .int w)] := hl
  refine z_start (w := (zX k q 0 (-1) 12 100 0 (fun _ => 0) aps 0 ar1 ar2 ar3 ar4 ar5 ar6 ar7 ph pp py wy fa fb cm0 ia0 0 0 ih0 in0 il0 tx0 sh0 cm1 ia1 0 0 ih1 in1 il1 tx1 sh1 cm2 ia2 0 0 ih2 in2 il2 tx2 sh2 cm3 ia3 0 0 ih3 in3 il3 tx3 sh3 (-1) 0 it0 (-1) 0 it1 (-1) 0 it2 (-1) 0 it3)) hP hD (fun H locs hP hD hS => ?_)
  refine lv_aload_n hx hb dX6_scatter_0 rfl (lv_at hl 0 rfl) ?_
  refine lv_iload_n hx hb dX6_scatter_1 rfl (lv_at hl 1 rfl) ?_
  refine lv_iload_n hx hb dX6_scatter_2 rfl (lv_at hl 2 rfl) ?_
  refine lv_iload_n hx hb dX6_scatter_3 rfl (lv_at hl 3 rfl) ?_
  refine lv_iconst (v := 2) hx hb dX6_scatter_4 (by decide) ?_
  refine zcA_i (w := (zX k q 0 (-1) 12 100 0 (fun _ => 0) aps 0 ar1 ar2 ar3 ar4 ar5 ar6 ar7 ph pp py wy fa fb cm0 ia0 0 0 ih0 in0 il0 tx0 sh0 cm1 ia1 0 0 ih1 in1 il1 tx1 sh1 cm2 ia2 0 0 ih2 in2 il2 tx2 sh2 cm3 ia3 0 0 ih3 in3 il3 tx3 sh3 (-1) 0 it0 (-1) 0 it1 (-1) 0 it2 (-1) 0 it3)) (va_runV (As := [.int g, .int d, .int w, .int 2]) (rest := []) ⟨hx, hb, hml, hown, hts⟩ (c_X6_estimateRefusal l dC dI k  q aps ar1 ar2 ar3 ar4 ar5 ar6 ar7 ph pp py wy fa fb cm0 ia0 ih0 in0 il0 tx0 sh0 cm1 ia1 ih1 in1 il1 tx1 sh1 cm2 ia2 ih2 in2 il2 tx2 sh2 cm3 ia3 ih3 in3 il3 tx3 sh3 it0 it1 it2 it3 g d w 2 _ ) (cwV 4 hts (gzV wmt2_150 wmt2_152 wmp1_10 wmt1_1 wmt2_153) rfl rfl rfl (by decide +kernel) ⟨Nat.le_of_ble_eq_true rfl, Nat.le_of_ble_eq_true rfl⟩) (zpA_V (ci := 6) (q0 := 0) hK hP hD rfl rfl) rfl rfl hl.1 rfl (lv_room (Nat.le_of_ble_eq_true rfl)) dX6_scatter_5 ⟨Nat.le_of_ble_eq_true rfl, Nat.le_of_ble_eq_true rfl⟩) hD hS hA (fun r_1 u_2 H locs w_3 hP hD hS => ?_)
  obtain ⟨oph_4, opp_5, opy_6⟩ := u_2
  have hP : va_P (dC, dI) vwCl (zX k q 0 (-1) 12 100 0 (fun _ => 0) aps 0 ar1 ar2 ar3 ar4 ar5 ar6 ar7 oph_4 opp_5 opy_6 wy fa fb cm0 ia0 0 0 ih0 in0 il0 tx0 sh0 cm1 ia1 0 0 ih1 in1 il1 tx1 sh1 cm2 ia2 0 0 ih2 in2 il2 tx2 sh2 cm3 ia3 0 0 ih3 in3 il3 tx3 sh3 (-1) 0 it0 (-1) 0 it1 (-1) 0 it2 (-1) 0 it3) H := hP
  have hD : va_D A (zX k q 0 (-1) 12 100 0 (fun _ => 0) aps 0 ar1 ar2 ar3 ar4 ar5 ar6 ar7 oph_4 opp_5 opy_6 wy fa fb cm0 ia0 0 0 ih0 in0 il0 tx0 sh0 cm1 ia1 0 0 ih1 in1 il1 tx1 sh1 cm2 ia2 0 0 ih2 in2 il2 tx2 sh2 cm3 ia3 0 0 ih3 in3 il3 tx3 sh3 (-1) 0 it0 (-1) 0 it1 (-1) 0 it2 (-1) 0 it3) := hD
  rcases w_3 with ⟨e_8, h_7⟩ | ⟨e_10, h_9⟩
  · skip
    replace e_8 : r_1 = (-3) := e_8
    subst e_8
    replace h_7 : ((0 ≤ (g : Int32) ∧ (g : Int32) ≤ 3) ∧ (0 ≤ (d : Int32) ∧ (d : Int32) ≤ 3)) ∧ (0 ≤ (w : Int32) ∧ (w : Int32) ≤ 1) := h_7
    refine lv_istore (lv' := [(4, .int (-3)), (0, .ref (q 0)), (1, .int g), (2, .int d), (3, .int w)]) hx hb dX6_scatter_8 hl (by decide) rfl (fun ls hl => ?_)
    refine lv_iload hx hb dX6_scatter_10 (lv_at hl 0 rfl) ?_
    refine lv_if_eq (tgt := 21) hx hb dX6_scatter_12 (by decide) (fun c_11 => ?_) (fun c_11 => ?_)
    · skip
      exact absurd c_11 (by decide)
    · skip
      refine lv_iload hx hb dX6_scatter_15 (lv_at hl 0 rfl) ?_
      refine zc0_l (w := (zX k q 0 (-1) 12 100 0 (fun _ => 0) aps 0 ar1 ar2 ar3 ar4 ar5 ar6 ar7 oph_4 opp_5 opy_6 wy fa fb cm0 ia0 0 0 ih0 in0 il0 tx0 sh0 cm1 ia1 0 0 ih1 in1 il1 tx1 sh1 cm2 ia2 0 0 ih2 in2 il2 tx2 sh2 cm3 ia3 0 0 ih3 in3 il3 tx3 sh3 (-1) 0 it0 (-1) 0 it1 (-1) 0 it2 (-1) 0 it3)) (va_runS (As := [.int (-3)]) (rest := []) ⟨hx, hb, hml, hown, hts⟩ (c_X6_asLong_3 l dC dI k (zTX k)  _ ) (va_cwS 1 hts (gzS wmt2_51 wmt2_52 wmt1_1 wmt2_53) rfl rfl rfl (by decide +kernel) ⟨Nat.le_of_ble_eq_true rfl, Nat.le_of_ble_eq_true rfl⟩) (zp0_S hK) rfl rfl hl.1 rfl (lv_room (Nat.le_of_ble_eq_true rfl)) dX6_scatter_17 ⟨Nat.le_of_ble_eq_true rfl, Nat.le_of_ble_eq_true rfl⟩) hP hS hA (fun r_12 u_13 H locs w_14 hP hS => ?_)
      have e_15 := w_14
      replace e_15 : r_12 = (-9223372036854775805) := e_15
      subst e_15
      exact W.lret (v := (-9223372036854775805)) hx hb hr (fun t ht hW => ⟨⟨(-9223372036854775805), (oph_4, opp_5, opy_6), rfl, (by first | assumption | with_reducible rfl | contradiction | exact (if_pos (by repeat' (first | assumption | decide | constructor))).symm | exact (if_neg (fun hh => absurd hh (by assumption))).symm | exact (if_neg (fun hh => absurd hh.1 (by assumption))).symm | exact (if_neg (fun hh => absurd hh.2 (by assumption))).symm | exact (if_neg (fun hh => absurd hh.1.1 (by assumption))).symm | exact (if_neg (fun hh => absurd hh.1.2 (by assumption))).symm | exact (if_neg (fun hh => absurd hh.2.1 (by assumption))).symm | exact (if_neg (fun hh => absurd hh.2.2 (by assumption))).symm | exact (if_neg (fun hh => absurd hh.2.2.1 (by assumption))).symm | exact (if_neg (fun hh => absurd hh.2.2.2 (by assumption))).symm | exact (if_neg (fun hh => absurd hh.2.2.2.1 (by assumption))).symm | exact (if_neg (fun hh => absurd hh.2.2.2.2 (by assumption))).symm | decide | (exfalso; simp only [zi_le, zi_lt, zi_eq, zi_n0, zi_n1, zi_n2, zi_n3, zi_n4, zi_n23, zi_n24, zi_n100, zi_n399, zi_n60, zi_n255, zi_n99, zi_nm1, zi_n30] at *; omega) | (simp_all; done)), ⟨by rw [ht]; exact hP, hD⟩⟩, hS.F ht⟩) hS.2.2 dX6_scatter_20
  · skip
    replace e_10 : r_1 = (-2) := e_10
    subst e_10
    replace h_9 : ¬ (((0 ≤ (g : Int32) ∧ (g : Int32) ≤ 3) ∧ (0 ≤ (d : Int32) ∧ (d : Int32) ≤ 3)) ∧ (0 ≤ (w : Int32) ∧ (w : Int32) ≤ 1)) := h_9
    refine lv_istore (lv' := [(4, .int (-2)), (0, .ref (q 0)), (1, .int g), (2, .int d), (3, .int w)]) hx hb dX6_scatter_8 hl (by decide) rfl (fun ls hl => ?_)
    refine lv_iload hx hb dX6_scatter_10 (lv_at hl 0 rfl) ?_
    refine lv_if_eq (tgt := 21) hx hb dX6_scatter_12 (by decide) (fun c_16 => ?_) (fun c_16 => ?_)
    · skip
      exact absurd c_16 (by decide)
    · skip
      refine lv_iload hx hb dX6_scatter_15 (lv_at hl 0 rfl) ?_
      refine zc0_l (w := (zX k q 0 (-1) 12 100 0 (fun _ => 0) aps 0 ar1 ar2 ar3 ar4 ar5 ar6 ar7 oph_4 opp_5 opy_6 wy fa fb cm0 ia0 0 0 ih0 in0 il0 tx0 sh0 cm1 ia1 0 0 ih1 in1 il1 tx1 sh1 cm2 ia2 0 0 ih2 in2 il2 tx2 sh2 cm3 ia3 0 0 ih3 in3 il3 tx3 sh3 (-1) 0 it0 (-1) 0 it1 (-1) 0 it2 (-1) 0 it3)) (va_runS (As := [.int (-2)]) (rest := []) ⟨hx, hb, hml, hown, hts⟩ (c_X6_asLong_2 l dC dI k (zTX k)  _ ) (va_cwS 1 hts (gzS wmt2_51 wmt2_52 wmt1_1 wmt2_53) rfl rfl rfl (by decide +kernel) ⟨Nat.le_of_ble_eq_true rfl, Nat.le_of_ble_eq_true rfl⟩) (zp0_S hK) rfl rfl hl.1 rfl (lv_room (Nat.le_of_ble_eq_true rfl)) dX6_scatter_17 ⟨Nat.le_of_ble_eq_true rfl, Nat.le_of_ble_eq_true rfl⟩) hP hS hA (fun r_17 u_18 H locs w_19 hP hS => ?_)
      have e_20 := w_19
      replace e_20 : r_17 = (-9223372036854775806) := e_20
      subst e_20
      exact W.lret (v := (-9223372036854775806)) hx hb hr (fun t ht hW => ⟨⟨(-9223372036854775806), (oph_4, opp_5, opy_6), rfl, (by first | assumption | with_reducible rfl | contradiction | exact (if_pos (by repeat' (first | assumption | decide | constructor))).symm | exact (if_neg (fun hh => absurd hh (by assumption))).symm | exact (if_neg (fun hh => absurd hh.1 (by assumption))).symm | exact (if_neg (fun hh => absurd hh.2 (by assumption))).symm | exact (if_neg (fun hh => absurd hh.1.1 (by assumption))).symm | exact (if_neg (fun hh => absurd hh.1.2 (by assumption))).symm | exact (if_neg (fun hh => absurd hh.2.1 (by assumption))).symm | exact (if_neg (fun hh => absurd hh.2.2 (by assumption))).symm | exact (if_neg (fun hh => absurd hh.2.2.1 (by assumption))).symm | exact (if_neg (fun hh => absurd hh.2.2.2 (by assumption))).symm | exact (if_neg (fun hh => absurd hh.2.2.2.1 (by assumption))).symm | exact (if_neg (fun hh => absurd hh.2.2.2.2 (by assumption))).symm | decide | (exfalso; simp only [zi_le, zi_lt, zi_eq, zi_n0, zi_n1, zi_n2, zi_n3, zi_n4, zi_n23, zi_n24, zi_n100, zi_n399, zi_n60, zi_n255, zi_n99, zi_nm1, zi_n30] at *; omega) | (simp_all; done)), ⟨by rw [ht]; exact hP, hD⟩⟩, hS.F ht⟩) hS.2.2 dX6_scatter_20
set_option maxHeartbeats 4000000 in
set_option maxRecDepth 100000 in
theorem c_X6_lotsRefusal (l : Launch) (dC : Nat → ClassId) (dI : Nat → Nat → Nat) (k : Nat → ClassId)  (q : Nat → Nat) (aps : Int32) (ar1 : Nat → Int32) (ar2 : Nat → Int32) (ar3 : Nat → Int32) (ar4 : Nat → Int32) (ar5 : Nat → Int32) (ar6 : Nat → Int32) (ar7 : Nat → Int32) (ph : Int32) (pp : Int32) (py : Int32) (wy : Nat → Int64) (fa : Int64) (fb : Int64) (cm0 : Int64) (ia0 : Int32) (ih0 : Int32) (in0 : Int32) (il0 : Int32) (tx0 : Nat → Int32) (sh0 : Nat → Int64) (cm1 : Int64) (ia1 : Int32) (ih1 : Int32) (in1 : Int32) (il1 : Int32) (tx1 : Nat → Int32) (sh1 : Nat → Int64) (cm2 : Int64) (ia2 : Int32) (ih2 : Int32) (in2 : Int32) (il2 : Int32) (tx2 : Nat → Int32) (sh2 : Nat → Int64) (cm3 : Int64) (ia3 : Int32) (ih3 : Int32) (in3 : Int32) (il3 : Int32) (tx3 : Nat → Int32) (sh3 : Nat → Int64) (it0 : Nat → Int32) (it1 : Nat → Int32) (it2 : Nat → Int32) (it3 : Nat → Int32) (g : Int32) (d : Int32) (n : Int32) (sz : Nat)  : Met l yX6_lotsRefusal (wz yX6_lotsRefusal cX6_lotsRefusal 5 (some .int)) ({ frames := 2, cells := 0, slots := 0, locals := 45 }) (va_Pc [.ref (q 0), .int g, .int d, .int n] (zPre dC dI k (zTX k) (zX k q 0 (-1) 12 100 0 (fun _ => 0) aps 0 ar1 ar2 ar3 ar4 ar5 ar6 ar7 ph pp py wy fa fb cm0 ia0 0 0 ih0 in0 il0 tx0 sh0 cm1 ia1 0 0 ih1 in1 il1 tx1 sh1 cm2 ia2 0 0 ih2 in2 il2 tx2 sh2 cm3 ia3 0 0 ih3 in3 il3 tx3 sh3 (-1) 0 it0 (-1) 0 it1 (-1) 0 it2 (-1) 0 it3) sz)) (va_Qi (fun (r : Int32) (u : Int32 × Int32 × Int32) => (r = (-3) ∧ (((0 ≤ (g : Int32) ∧ (g : Int32) ≤ 3) ∧ (0 ≤ (d : Int32) ∧ (d : Int32) ≤ 3)) ∧ 0 ≤ (n : Int32))) ∨ (r = (-2) ∧ (¬ (((0 ≤ (g : Int32) ∧ (g : Int32) ≤ 3) ∧ (0 ≤ (d : Int32) ∧ (d : Int32) ≤ 3)) ∧ 0 ≤ (n : Int32))))) (fun u t => zPost dC dI (va_A (zX k q 0 (-1) 12 100 0 (fun _ => 0) aps 0 ar1 ar2 ar3 ar4 ar5 ar6 ar7 ph pp py wy fa fb cm0 ia0 0 0 ih0 in0 il0 tx0 sh0 cm1 ia1 0 0 ih1 in1 il1 tx1 sh1 cm2 ia2 0 0 ih2 in2 il2 tx2 sh2 cm3 ia3 0 0 ih3 in3 il3 tx3 sh3 (-1) 0 it0 (-1) 0 it1 (-1) 0 it2 (-1) 0 it3) sz) (zX k q 0 (-1) 12 100 0 (fun _ => 0) aps 0 ar1 ar2 ar3 ar4 ar5 ar6 ar7 u.1 u.2.1 u.2.2 wy fa fb cm0 ia0 0 0 ih0 in0 il0 tx0 sh0 cm1 ia1 0 0 ih1 in1 il1 tx1 sh1 cm2 ia2 0 0 ih2 in2 il2 tx2 sh2 cm3 ia3 0 0 ih3 in3 il3 tx3 sh3 (-1) 0 it0 (-1) 0 it1 (-1) 0 it2 (-1) 0 it3) t) (va_A (zX k q 0 (-1) 12 100 0 (fun _ => 0) aps 0 ar1 ar2 ar3 ar4 ar5 ar6 ar7 ph pp py wy fa fb cm0 ia0 0 0 ih0 in0 il0 tx0 sh0 cm1 ia1 0 0 ih1 in1 il1 tx1 sh1 cm2 ia2 0 0 ih2 in2 il2 tx2 sh2 cm3 ia3 0 0 ih3 in3 il3 tx3 sh3 (-1) 0 it0 (-1) 0 it1 (-1) 0 it2 (-1) 0 it3) sz)) 0 0 (va_A (zX k q 0 (-1) 12 100 0 (fun _ => 0) aps 0 ar1 ar2 ar3 ar4 ar5 ar6 ar7 ph pp py wy fa fb cm0 ia0 0 0 ih0 in0 il0 tx0 sh0 cm1 ia1 0 0 ih1 in1 il1 tx1 sh1 cm2 ia2 0 0 ih2 in2 il2 tx2 sh2 cm3 ia3 0 0 ih3 in3 il3 tx3 sh3 (-1) 0 it0 (-1) 0 it1 (-1) 0 it2 (-1) 0 it3) sz) := by
  refine Met.ofW (cc := cX6_lotsRefusal) (maxL := 5) (ret := (some .int)) (by decide) rfl ?_
  intro p e s m args below meth c s₁ B hml hv
  obtain ⟨rfl, hsz, hP, hK, hD0⟩ := hv
  have hx := B.exec
  have hb := B.bytes
  have hr := B.returns
  have hts : ∀ w ∈ zw, w.before _ s = true := fun w h => atoms_spec (ws := (wz yX6_lotsRefusal cX6_lotsRefusal 5 (some .int))) B.pre w (List.mem_cons_of_mem _ h)
  have hown : s.vm.findClass RX6 = some m.cls := findClass_of_methodNamed B.named
  have hlocks := B.notSynchronized
  subst hsz
  have hi6 := inw6
  have hD := hD0.self (sz := s.heap.size)
  generalize hAe : va_A (zX k q 0 (-1) 12 100 0 (fun _ => 0) aps 0 ar1 ar2 ar3 ar4 ar5 ar6 ar7 ph pp py wy fa fb cm0 ia0 0 0 ih0 in0 il0 tx0 sh0 cm1 ia1 0 0 ih1 in1 il1 tx1 sh1 cm2 ia2 0 0 ih2 in2 il2 tx2 sh2 cm3 ia3 0 0 ih3 in3 il3 tx3 sh3 (-1) 0 it0 (-1) 0 it1 (-1) 0 it2 (-1) 0 it3) s.heap.size = A at hD ⊢
  have hA : ∀ q : Nat, s.heap.size ≤ q → A q := fun q h => by rw [← hAe]; exact Or.inr h
  have hl := lv_entry ([.ref (q 0), .int g, .int d, .int n]) (n := 5) (Nat.le_of_ble_eq_true rfl)
  rw [lg_entry_eq]
  generalize (lg_sl ([.ref (q 0), .int g, .int d, .int n]) ++ List.replicate (5 - (lg_sl ([.ref (q 0), .int g, .int d, .int n])).length) Slot.unset).toArray = ls at hl ⊢
  have hl : lv_has ls 5 [(0, .ref (q 0)), (1, .int g), (2, .int d), (3, .int n)] := hl
  refine z_start (w := (zX k q 0 (-1) 12 100 0 (fun _ => 0) aps 0 ar1 ar2 ar3 ar4 ar5 ar6 ar7 ph pp py wy fa fb cm0 ia0 0 0 ih0 in0 il0 tx0 sh0 cm1 ia1 0 0 ih1 in1 il1 tx1 sh1 cm2 ia2 0 0 ih2 in2 il2 tx2 sh2 cm3 ia3 0 0 ih3 in3 il3 tx3 sh3 (-1) 0 it0 (-1) 0 it1 (-1) 0 it2 (-1) 0 it3)) hP hD (fun H locs hP hD hS => ?_)
  refine lv_iload_n hx hb dX6_lotsRefusal_0 rfl (lv_at hl 1 rfl) ?_
  refine zc0_i (w := (zX k q 0 (-1) 12 100 0 (fun _ => 0) aps 0 ar1 ar2 ar3 ar4 ar5 ar6 ar7 ph pp py wy fa fb cm0 ia0 0 0 ih0 in0 il0 tx0 sh0 cm1 ia1 0 0 ih1 in1 il1 tx1 sh1 cm2 ia2 0 0 ih2 in2 il2 tx2 sh2 cm3 ia3 0 0 ih3 in3 il3 tx3 sh3 (-1) 0 it0 (-1) 0 it1 (-1) 0 it2 (-1) 0 it3)) (va_runS (As := [.int g]) (rest := []) ⟨hx, hb, hml, hown, hts⟩ (c_X6_isGroup l dC dI k (zTX k) g _ ) (va_cwS 1 hts (gzS wmt2_80 wmt2_81 wmt1_1 wmt2_82) rfl rfl rfl (by decide +kernel) ⟨Nat.le_of_ble_eq_true rfl, Nat.le_of_ble_eq_true rfl⟩) (zp0_S hK) rfl rfl hl.1 rfl (lv_room (Nat.le_of_ble_eq_true rfl)) dX6_lotsRefusal_1 ⟨Nat.le_of_ble_eq_true rfl, Nat.le_of_ble_eq_true rfl⟩) hP hS hA (fun r_1 u_2 H locs w_3 hP hS => ?_)
  rcases w_3 with ⟨e_5, h_4⟩ | ⟨e_7, h_6⟩
  · skip
    replace e_5 : r_1 = 1 := e_5
    subst e_5
    replace h_4 : 0 ≤ (g : Int32) ∧ (g : Int32) ≤ 3 := h_4
    refine lv_if_eq (tgt := 18) hx hb dX6_lotsRefusal_4 (by decide) (fun c_8 => ?_) (fun c_8 => ?_)
    · skip
      exact absurd c_8 (by decide)
    · skip
      refine lv_iload_n hx hb dX6_lotsRefusal_7 rfl (lv_at hl 2 rfl) ?_
      refine zc0_i (w := (zX k q 0 (-1) 12 100 0 (fun _ => 0) aps 0 ar1 ar2 ar3 ar4 ar5 ar6 ar7 ph pp py wy fa fb cm0 ia0 0 0 ih0 in0 il0 tx0 sh0 cm1 ia1 0 0 ih1 in1 il1 tx1 sh1 cm2 ia2 0 0 ih2 in2 il2 tx2 sh2 cm3 ia3 0 0 ih3 in3 il3 tx3 sh3 (-1) 0 it0 (-1) 0 it1 (-1) 0 it2 (-1) 0 it3)) (va_runS (As := [.int d]) (rest := []) ⟨hx, hb, hml, hown, hts⟩ (c_X6_isDesign l dC dI k (zTX k) d _ ) (va_cwS 1 hts (gzS wmt1_211 wmt1_212 wmt1_1 wmt1_213) rfl rfl rfl (by decide +kernel) ⟨Nat.le_of_ble_eq_true rfl, Nat.le_of_ble_eq_true rfl⟩) (zp0_S hK) rfl rfl hl.1 rfl (lv_room (Nat.le_of_ble_eq_true rfl)) dX6_lotsRefusal_8 ⟨Nat.le_of_ble_eq_true rfl, Nat.le_of_ble_eq_true rfl⟩) hP hS hA (fun r_9 u_10 H locs w_11 hP hS => ?_)
      rcases w_11 with ⟨e_13, h_12⟩ | ⟨e_15, h_14⟩
      · skip
        replace e_13 : r_9 = 1 := e_13
        subst e_13
        replace h_12 : 0 ≤ (d : Int32) ∧ (d : Int32) ≤ 3 := h_12
        rcases zi_4 h_12 with rfl | rfl | rfl | rfl
        · skip
          refine lv_if_eq (tgt := 18) hx hb dX6_lotsRefusal_11 (by decide) (fun c_16 => ?_) (fun c_16 => ?_)
          · skip
            exact absurd c_16 (by decide)
          · skip
            refine lv_iload_n hx hb dX6_lotsRefusal_14 rfl (lv_at hl 3 rfl) ?_
            refine lv_if_ge (tgt := 21) hx hb dX6_lotsRefusal_15 (by decide) (fun c_17 => ?_) (fun c_17 => ?_)
            · skip
              refine lv_aload_n hx hb dX6_lotsRefusal_21 rfl (lv_at hl 0 rfl) ?_
              refine lv_iload_n hx hb dX6_lotsRefusal_22 rfl (lv_at hl 1 rfl) ?_
              refine lv_iload_n hx hb dX6_lotsRefusal_23 rfl (lv_at hl 2 rfl) ?_
              refine zcA_v (w := (zX k q 0 (-1) 12 100 0 (fun _ => 0) aps 0 ar1 ar2 ar3 ar4 ar5 ar6 ar7 ph pp py wy fa fb cm0 ia0 0 0 ih0 in0 il0 tx0 sh0 cm1 ia1 0 0 ih1 in1 il1 tx1 sh1 cm2 ia2 0 0 ih2 in2 il2 tx2 sh2 cm3 ia3 0 0 ih3 in3 il3 tx3 sh3 (-1) 0 it0 (-1) 0 it1 (-1) 0 it2 (-1) 0 it3)) (va_runV (As := [.int g, .int 0]) (rest := []) ⟨hx, hb, hml, hown, hts⟩ (c_X6_takePoll l dC dI k  q aps ar1 ar2 ar3 ar4 ar5 ar6 ar7 ph pp py wy fa fb cm0 ia0 ih0 in0 il0 tx0 sh0 cm1 ia1 ih1 in1 il1 tx1 sh1 cm2 ia2 ih2 in2 il2 tx2 sh2 cm3 ia3 ih3 in3 il3 tx3 sh3 it0 it1 it2 it3 g 0 _ ) (cwV 2 hts (gzV wmt2_134 wmt2_136 wmp1_9 wmt1_1 wmt2_137) rfl rfl rfl (by decide +kernel) ⟨Nat.le_of_ble_eq_true rfl, Nat.le_of_ble_eq_true rfl⟩) (zpA_V (ci := 6) (q0 := 0) hK hP hD rfl rfl) rfl rfl hl.1 rfl (lv_room (Nat.le_of_ble_eq_true rfl)) dX6_lotsRefusal_24 ⟨Nat.le_of_ble_eq_true rfl, Nat.le_of_ble_eq_true rfl⟩) hD hS hA (fun u_19 H locs w_20 hP hD hS => ?_)
              have hP : va_P (dC, dI) vwCl (zX k q 0 (-1) 12 100 0 (fun _ => 0) aps 0 ar1 ar2 ar3 ar4 ar5 ar6 ar7 0 0 0 wy fa fb cm0 ia0 0 0 ih0 in0 il0 tx0 sh0 cm1 ia1 0 0 ih1 in1 il1 tx1 sh1 cm2 ia2 0 0 ih2 in2 il2 tx2 sh2 cm3 ia3 0 0 ih3 in3 il3 tx3 sh3 (-1) 0 it0 (-1) 0 it1 (-1) 0 it2 (-1) 0 it3) H := hP
              have hD : va_D A (zX k q 0 (-1) 12 100 0 (fun _ => 0) aps 0 ar1 ar2 ar3 ar4 ar5 ar6 ar7 0 0 0 wy fa fb cm0 ia0 0 0 ih0 in0 il0 tx0 sh0 cm1 ia1 0 0 ih1 in1 il1 tx1 sh1 cm2 ia2 0 0 ih2 in2 il2 tx2 sh2 cm3 ia3 0 0 ih3 in3 il3 tx3 sh3 (-1) 0 it0 (-1) 0 it1 (-1) 0 it2 (-1) 0 it3) := hD
              refine lv_aload_n hx hb dX6_lotsRefusal_27 rfl (lv_at hl 0 rfl) ?_
              refine va_get (D := (dC, dI)) (ci := 6) (v := .ref (q 1)) (C := RX6) (T := TX6) (N := 12) hx hb hts hi6 hown hK.1 hP 0 rfl rfl 0 (by decide) (hts _ wmt1_170) (fun _ h9 => h9) rfl dX6_lotsRefusal_28 ?_
              refine lv_iload_n hx hb dX6_lotsRefusal_31 rfl (lv_at hl 2 rfl) ?_
              refine va_aldq (D := (dC, dI)) hx hb hK.1 hP 1 3 rfl rfl (show ¬ _ by decide) dX6_lotsRefusal_32 ?_
              refine z_top (v2 := .ref (q 16)) (rfl) ?_
              refine lv_astore (lv' := [(4, .ref (q 16)), (0, .ref (q 0)), (1, .int g), (2, .int 0), (3, .int n)]) hx hb dX6_lotsRefusal_33 hl (by decide) rfl (fun ls hl => ?_)
              refine lv_aload hx hb dX6_lotsRefusal_35 (lv_at hl 0 rfl) ?_
              refine zcS_i (w := (zX k q 0 (-1) 12 100 0 (fun _ => 0) aps 0 ar1 ar2 ar3 ar4 ar5 ar6 ar7 0 0 0 wy fa fb cm0 ia0 0 0 ih0 in0 il0 tx0 sh0 cm1 ia1 0 0 ih1 in1 il1 tx1 sh1 cm2 ia2 0 0 ih2 in2 il2 tx2 sh2 cm3 ia3 0 0 ih3 in3 il3 tx3 sh3 (-1) 0 it0 (-1) 0 it1 (-1) 0 it2 (-1) 0 it3)) (wc := (zDes k (q 16) (q 17) (q 18) tx0 sh0 cm0 ia0 0 0 ih0 in0 il0)) (va_runV (As := []) (rest := []) ⟨hx, hb, hml, hown, hts⟩ (c_X1_isFaulty l dC dI k (zTX k) (q 16) (q 17) (q 18) tx0 sh0 cm0 ia0 0 ih0 in0 il0 _ ) (cwV 0 hts (gzV wmt2_55 wmt2_20 wmt2_21 wmt1_6 wmt2_22) rfl rfl rfl (by decide +kernel) ⟨Nat.le_of_ble_eq_true rfl, Nat.le_of_ble_eq_true rfl⟩) (zp_V (ci := 1) (q0 := 16) hK hP hD [16, 17, 18] rfl rfl rfl rfl) rfl rfl hl.1 rfl (lv_room (Nat.le_of_ble_eq_true rfl)) dX6_lotsRefusal_37 ⟨Nat.le_of_ble_eq_true rfl, Nat.le_of_ble_eq_true rfl⟩) hP hD hS hA [16, 17, 18] rfl (fun _ => rfl) (fun r_21 u_22 H locs w_23 hP hD hS => ?_)
              have hP : va_P (dC, dI) vwCl (zX k q 0 (-1) 12 100 0 (fun _ => 0) aps 0 ar1 ar2 ar3 ar4 ar5 ar6 ar7 0 0 0 wy fa fb cm0 ia0 0 0 ih0 in0 il0 tx0 sh0 cm1 ia1 0 0 ih1 in1 il1 tx1 sh1 cm2 ia2 0 0 ih2 in2 il2 tx2 sh2 cm3 ia3 0 0 ih3 in3 il3 tx3 sh3 (-1) 0 it0 (-1) 0 it1 (-1) 0 it2 (-1) 0 it3) H := hP
              have hD : va_D A (zX k q 0 (-1) 12 100 0 (fun _ => 0) aps 0 ar1 ar2 ar3 ar4 ar5 ar6 ar7 0 0 0 wy fa fb cm0 ia0 0 0 ih0 in0 il0 tx0 sh0 cm1 ia1 0 0 ih1 in1 il1 tx1 sh1 cm2 ia2 0 0 ih2 in2 il2 tx2 sh2 cm3 ia3 0 0 ih3 in3 il3 tx3 sh3 (-1) 0 it0 (-1) 0 it1 (-1) 0 it2 (-1) 0 it3) := hD
              have e_24 := w_23
              replace e_24 : r_21 = 1 := e_24
              subst e_24
              refine lv_if_ne (tgt := 54) hx hb dX6_lotsRefusal_40 (by decide) (fun c_25 => ?_) (fun c_25 => ?_)
              · skip
                refine lv_bipush (v := (-3)) hx hb dX6_lotsRefusal_54 (by decide) ?_
                exact W.iret (v := (-3)) hx hb hr (fun t ht hW => ⟨⟨(-3), (0, 0, 0), rfl, Or.inl ⟨(by first | assumption | with_reducible rfl | contradiction | exact (if_pos (by repeat' (first | assumption | decide | constructor))).symm | exact (if_neg (fun hh => absurd hh (by assumption))).symm | exact (if_neg (fun hh => absurd hh.1 (by assumption))).symm | exact (if_neg (fun hh => absurd hh.2 (by assumption))).symm | exact (if_neg (fun hh => absurd hh.1.1 (by assumption))).symm | exact (if_neg (fun hh => absurd hh.1.2 (by assumption))).symm | exact (if_neg (fun hh => absurd hh.2.1 (by assumption))).symm | exact (if_neg (fun hh => absurd hh.2.2 (by assumption))).symm | exact (if_neg (fun hh => absurd hh.2.2.1 (by assumption))).symm | exact (if_neg (fun hh => absurd hh.2.2.2 (by assumption))).symm | exact (if_neg (fun hh => absurd hh.2.2.2.1 (by assumption))).symm | exact (if_neg (fun hh => absurd hh.2.2.2.2 (by assumption))).symm | decide | (exfalso; simp only [zi_le, zi_lt, zi_eq, zi_n0, zi_n1, zi_n2, zi_n3, zi_n4, zi_n23, zi_n24, zi_n100, zi_n399, zi_n60, zi_n255, zi_n99, zi_nm1, zi_n30] at *; omega) | (simp_all; done)), (by first | assumption | with_reducible rfl | contradiction | ((repeat' (first | assumption | decide | constructor)); done) | exact fun hh => absurd hh (by assumption) | exact fun hh => absurd hh.1 (by assumption) | exact fun hh => absurd hh.2 (by assumption) | exact fun hh => absurd hh.1.1 (by assumption) | exact fun hh => absurd hh.1.2 (by assumption) | exact fun hh => absurd hh.2.1 (by assumption) | exact fun hh => absurd hh.2.2 (by assumption) | decide | (simp_all; done) | (simp only [zi_le, zi_lt, zi_eq, zi_n0, zi_n1, zi_n2, zi_n3, zi_n4, zi_n23, zi_n24, zi_n100, zi_n399, zi_n60, zi_n255, zi_n99, zi_nm1, zi_n30] at *; omega))⟩, ⟨by rw [ht]; exact hP, hD⟩⟩, hS.F ht⟩) hS.2.2 dX6_lotsRefusal_56
              · skip
                exact absurd c_25 (by decide)
            · skip
              refine lv_bipush (v := (-2)) hx hb dX6_lotsRefusal_18 (by decide) ?_
              exact W.iret (v := (-2)) hx hb hr (fun t ht hW => ⟨⟨(-2), (ph, pp, py), rfl, Or.inr (⟨(by first | assumption | with_reducible rfl | contradiction | exact (if_pos (by repeat' (first | assumption | decide | constructor))).symm | exact (if_neg (fun hh => absurd hh (by assumption))).symm | exact (if_neg (fun hh => absurd hh.1 (by assumption))).symm | exact (if_neg (fun hh => absurd hh.2 (by assumption))).symm | exact (if_neg (fun hh => absurd hh.1.1 (by assumption))).symm | exact (if_neg (fun hh => absurd hh.1.2 (by assumption))).symm | exact (if_neg (fun hh => absurd hh.2.1 (by assumption))).symm | exact (if_neg (fun hh => absurd hh.2.2 (by assumption))).symm | exact (if_neg (fun hh => absurd hh.2.2.1 (by assumption))).symm | exact (if_neg (fun hh => absurd hh.2.2.2 (by assumption))).symm | exact (if_neg (fun hh => absurd hh.2.2.2.1 (by assumption))).symm | exact (if_neg (fun hh => absurd hh.2.2.2.2 (by assumption))).symm | decide | (exfalso; simp only [zi_le, zi_lt, zi_eq, zi_n0, zi_n1, zi_n2, zi_n3, zi_n4, zi_n23, zi_n24, zi_n100, zi_n399, zi_n60, zi_n255, zi_n99, zi_nm1, zi_n30] at *; omega) | (simp_all; done)), (by first | assumption | with_reducible rfl | contradiction | ((repeat' (first | assumption | decide | constructor)); done) | exact fun hh => absurd hh (by assumption) | exact fun hh => absurd hh.1 (by assumption) | exact fun hh => absurd hh.2 (by assumption) | exact fun hh => absurd hh.1.1 (by assumption) | exact fun hh => absurd hh.1.2 (by assumption) | exact fun hh => absurd hh.2.1 (by assumption) | exact fun hh => absurd hh.2.2 (by assumption) | decide | (simp_all; done) | (simp only [zi_le, zi_lt, zi_eq, zi_n0, zi_n1, zi_n2, zi_n3, zi_n4, zi_n23, zi_n24, zi_n100, zi_n399, zi_n60, zi_n255, zi_n99, zi_nm1, zi_n30] at *; omega))⟩), ⟨by rw [ht]; exact hP, hD⟩⟩, hS.F ht⟩) hS.2.2 dX6_lotsRefusal_20
        · skip
          refine lv_if_eq (tgt := 18) hx hb dX6_lotsRefusal_11 (by decide) (fun c_26 => ?_) (fun c_26 => ?_)
          · skip
            exact absurd c_26 (by decide)
          · skip
            refine lv_iload_n hx hb dX6_lotsRefusal_14 rfl (lv_at hl 3 rfl) ?_
            refine lv_if_ge (tgt := 21) hx hb dX6_lotsRefusal_15 (by decide) (fun c_27 => ?_) (fun c_27 => ?_)
            · skip
              refine lv_aload_n hx hb dX6_lotsRefusal_21 rfl (lv_at hl 0 rfl) ?_
              refine lv_iload_n hx hb dX6_lotsRefusal_22 rfl (lv_at hl 1 rfl) ?_
              refine lv_iload_n hx hb dX6_lotsRefusal_23 rfl (lv_at hl 2 rfl) ?_
              refine zcA_v (w := (zX k q 0 (-1) 12 100 0 (fun _ => 0) aps 0 ar1 ar2 ar3 ar4 ar5 ar6 ar7 ph pp py wy fa fb cm0 ia0 0 0 ih0 in0 il0 tx0 sh0 cm1 ia1 0 0 ih1 in1 il1 tx1 sh1 cm2 ia2 0 0 ih2 in2 il2 tx2 sh2 cm3 ia3 0 0 ih3 in3 il3 tx3 sh3 (-1) 0 it0 (-1) 0 it1 (-1) 0 it2 (-1) 0 it3)) (va_runV (As := [.int g, .int 1]) (rest := []) ⟨hx, hb, hml, hown, hts⟩ (c_X6_takePoll l dC dI k  q aps ar1 ar2 ar3 ar4 ar5 ar6 ar7 ph pp py wy fa fb cm0 ia0 ih0 in0 il0 tx0 sh0 cm1 ia1 ih1 in1 il1 tx1 sh1 cm2 ia2 ih2 in2 il2 tx2 sh2 cm3 ia3 ih3 in3 il3 tx3 sh3 it0 it1 it2 it3 g 1 _ ) (cwV 2 hts (gzV wmt2_134 wmt2_136 wmp1_9 wmt1_1 wmt2_137) rfl rfl rfl (by decide +kernel) ⟨Nat.le_of_ble_eq_true rfl, Nat.le_of_ble_eq_true rfl⟩) (zpA_V (ci := 6) (q0 := 0) hK hP hD rfl rfl) rfl rfl hl.1 rfl (lv_room (Nat.le_of_ble_eq_true rfl)) dX6_lotsRefusal_24 ⟨Nat.le_of_ble_eq_true rfl, Nat.le_of_ble_eq_true rfl⟩) hD hS hA (fun u_29 H locs w_30 hP hD hS => ?_)
              have hP : va_P (dC, dI) vwCl (zX k q 0 (-1) 12 100 0 (fun _ => 0) aps 0 ar1 ar2 ar3 ar4 ar5 ar6 ar7 0 0 0 wy fa fb cm0 ia0 0 0 ih0 in0 il0 tx0 sh0 cm1 ia1 0 0 ih1 in1 il1 tx1 sh1 cm2 ia2 0 0 ih2 in2 il2 tx2 sh2 cm3 ia3 0 0 ih3 in3 il3 tx3 sh3 (-1) 0 it0 (-1) 0 it1 (-1) 0 it2 (-1) 0 it3) H := hP
              have hD : va_D A (zX k q 0 (-1) 12 100 0 (fun _ => 0) aps 0 ar1 ar2 ar3 ar4 ar5 ar6 ar7 0 0 0 wy fa fb cm0 ia0 0 0 ih0 in0 il0 tx0 sh0 cm1 ia1 0 0 ih1 in1 il1 tx1 sh1 cm2 ia2 0 0 ih2 in2 il2 tx2 sh2 cm3 ia3 0 0 ih3 in3 il3 tx3 sh3 (-1) 0 it0 (-1) 0 it1 (-1) 0 it2 (-1) 0 it3) := hD
              refine lv_aload_n hx hb dX6_lotsRefusal_27 rfl (lv_at hl 0 rfl) ?_
              refine va_get (D := (dC, dI)) (ci := 6) (v := .ref (q 1)) (C := RX6) (T := TX6) (N := 12) hx hb hts hi6 hown hK.1 hP 0 rfl rfl 0 (by decide) (hts _ wmt1_170) (fun _ h9 => h9) rfl dX6_lotsRefusal_28 ?_
              refine lv_iload_n hx hb dX6_lotsRefusal_31 rfl (lv_at hl 2 rfl) ?_
              refine va_aldq (D := (dC, dI)) hx hb hK.1 hP 1 3 rfl rfl (show ¬ _ by decide) dX6_lotsRefusal_32 ?_
              refine z_top (v2 := .ref (q 19)) (rfl) ?_
              refine lv_astore (lv' := [(4, .ref (q 19)), (0, .ref (q 0)), (1, .int g), (2, .int 1), (3, .int n)]) hx hb dX6_lotsRefusal_33 hl (by decide) rfl (fun ls hl => ?_)
              refine lv_aload hx hb dX6_lotsRefusal_35 (lv_at hl 0 rfl) ?_
              refine zcS_i (w := (zX k q 0 (-1) 12 100 0 (fun _ => 0) aps 0 ar1 ar2 ar3 ar4 ar5 ar6 ar7 0 0 0 wy fa fb cm0 ia0 0 0 ih0 in0 il0 tx0 sh0 cm1 ia1 0 0 ih1 in1 il1 tx1 sh1 cm2 ia2 0 0 ih2 in2 il2 tx2 sh2 cm3 ia3 0 0 ih3 in3 il3 tx3 sh3 (-1) 0 it0 (-1) 0 it1 (-1) 0 it2 (-1) 0 it3)) (wc := (zDes k (q 19) (q 20) (q 21) tx1 sh1 cm1 ia1 0 0 ih1 in1 il1)) (va_runV (As := []) (rest := []) ⟨hx, hb, hml, hown, hts⟩ (c_X1_isFaulty l dC dI k (zTX k) (q 19) (q 20) (q 21) tx1 sh1 cm1 ia1 0 ih1 in1 il1 _ ) (cwV 0 hts (gzV wmt2_55 wmt2_20 wmt2_21 wmt1_6 wmt2_22) rfl rfl rfl (by decide +kernel) ⟨Nat.le_of_ble_eq_true rfl, Nat.le_of_ble_eq_true rfl⟩) (zp_V (ci := 1) (q0 := 19) hK hP hD [19, 20, 21] rfl rfl rfl rfl) rfl rfl hl.1 rfl (lv_room (Nat.le_of_ble_eq_true rfl)) dX6_lotsRefusal_37 ⟨Nat.le_of_ble_eq_true rfl, Nat.le_of_ble_eq_true rfl⟩) hP hD hS hA [19, 20, 21] rfl (fun _ => rfl) (fun r_31 u_32 H locs w_33 hP hD hS => ?_)
              have hP : va_P (dC, dI) vwCl (zX k q 0 (-1) 12 100 0 (fun _ => 0) aps 0 ar1 ar2 ar3 ar4 ar5 ar6 ar7 0 0 0 wy fa fb cm0 ia0 0 0 ih0 in0 il0 tx0 sh0 cm1 ia1 0 0 ih1 in1 il1 tx1 sh1 cm2 ia2 0 0 ih2 in2 il2 tx2 sh2 cm3 ia3 0 0 ih3 in3 il3 tx3 sh3 (-1) 0 it0 (-1) 0 it1 (-1) 0 it2 (-1) 0 it3) H := hP
              have hD : va_D A (zX k q 0 (-1) 12 100 0 (fun _ => 0) aps 0 ar1 ar2 ar3 ar4 ar5 ar6 ar7 0 0 0 wy fa fb cm0 ia0 0 0 ih0 in0 il0 tx0 sh0 cm1 ia1 0 0 ih1 in1 il1 tx1 sh1 cm2 ia2 0 0 ih2 in2 il2 tx2 sh2 cm3 ia3 0 0 ih3 in3 il3 tx3 sh3 (-1) 0 it0 (-1) 0 it1 (-1) 0 it2 (-1) 0 it3) := hD
              have e_34 := w_33
              replace e_34 : r_31 = 1 := e_34
              subst e_34
              refine lv_if_ne (tgt := 54) hx hb dX6_lotsRefusal_40 (by decide) (fun c_35 => ?_) (fun c_35 => ?_)
              · skip
                refine lv_bipush (v := (-3)) hx hb dX6_lotsRefusal_54 (by decide) ?_
                exact W.iret (v := (-3)) hx hb hr (fun t ht hW => ⟨⟨(-3), (0, 0, 0), rfl, Or.inl ⟨(by first | assumption | with_reducible rfl | contradiction | exact (if_pos (by repeat' (first | assumption | decide | constructor))).symm | exact (if_neg (fun hh => absurd hh (by assumption))).symm | exact (if_neg (fun hh => absurd hh.1 (by assumption))).symm | exact (if_neg (fun hh => absurd hh.2 (by assumption))).symm | exact (if_neg (fun hh => absurd hh.1.1 (by assumption))).symm | exact (if_neg (fun hh => absurd hh.1.2 (by assumption))).symm | exact (if_neg (fun hh => absurd hh.2.1 (by assumption))).symm | exact (if_neg (fun hh => absurd hh.2.2 (by assumption))).symm | exact (if_neg (fun hh => absurd hh.2.2.1 (by assumption))).symm | exact (if_neg (fun hh => absurd hh.2.2.2 (by assumption))).symm | exact (if_neg (fun hh => absurd hh.2.2.2.1 (by assumption))).symm | exact (if_neg (fun hh => absurd hh.2.2.2.2 (by assumption))).symm | decide | (exfalso; simp only [zi_le, zi_lt, zi_eq, zi_n0, zi_n1, zi_n2, zi_n3, zi_n4, zi_n23, zi_n24, zi_n100, zi_n399, zi_n60, zi_n255, zi_n99, zi_nm1, zi_n30] at *; omega) | (simp_all; done)), (by first | assumption | with_reducible rfl | contradiction | ((repeat' (first | assumption | decide | constructor)); done) | exact fun hh => absurd hh (by assumption) | exact fun hh => absurd hh.1 (by assumption) | exact fun hh => absurd hh.2 (by assumption) | exact fun hh => absurd hh.1.1 (by assumption) | exact fun hh => absurd hh.1.2 (by assumption) | exact fun hh => absurd hh.2.1 (by assumption) | exact fun hh => absurd hh.2.2 (by assumption) | decide | (simp_all; done) | (simp only [zi_le, zi_lt, zi_eq, zi_n0, zi_n1, zi_n2, zi_n3, zi_n4, zi_n23, zi_n24, zi_n100, zi_n399, zi_n60, zi_n255, zi_n99, zi_nm1, zi_n30] at *; omega))⟩, ⟨by rw [ht]; exact hP, hD⟩⟩, hS.F ht⟩) hS.2.2 dX6_lotsRefusal_56
              · skip
                exact absurd c_35 (by decide)
            · skip
              refine lv_bipush (v := (-2)) hx hb dX6_lotsRefusal_18 (by decide) ?_
              exact W.iret (v := (-2)) hx hb hr (fun t ht hW => ⟨⟨(-2), (ph, pp, py), rfl, Or.inr (⟨(by first | assumption | with_reducible rfl | contradiction | exact (if_pos (by repeat' (first | assumption | decide | constructor))).symm | exact (if_neg (fun hh => absurd hh (by assumption))).symm | exact (if_neg (fun hh => absurd hh.1 (by assumption))).symm | exact (if_neg (fun hh => absurd hh.2 (by assumption))).symm | exact (if_neg (fun hh => absurd hh.1.1 (by assumption))).symm | exact (if_neg (fun hh => absurd hh.1.2 (by assumption))).symm | exact (if_neg (fun hh => absurd hh.2.1 (by assumption))).symm | exact (if_neg (fun hh => absurd hh.2.2 (by assumption))).symm | exact (if_neg (fun hh => absurd hh.2.2.1 (by assumption))).symm | exact (if_neg (fun hh => absurd hh.2.2.2 (by assumption))).symm | exact (if_neg (fun hh => absurd hh.2.2.2.1 (by assumption))).symm | exact (if_neg (fun hh => absurd hh.2.2.2.2 (by assumption))).symm | decide | (exfalso; simp only [zi_le, zi_lt, zi_eq, zi_n0, zi_n1, zi_n2, zi_n3, zi_n4, zi_n23, zi_n24, zi_n100, zi_n399, zi_n60, zi_n255, zi_n99, zi_nm1, zi_n30] at *; omega) | (simp_all; done)), (by first | assumption | with_reducible rfl | contradiction | ((repeat' (first | assumption | decide | constructor)); done) | exact fun hh => absurd hh (by assumption) | exact fun hh => absurd hh.1 (by assumption) | exact fun hh => absurd hh.2 (by assumption) | exact fun hh => absurd hh.1.1 (by assumption) | exact fun hh => absurd hh.1.2 (by assumption) | exact fun hh => absurd hh.2.1 (by assumption) | exact fun hh => absurd hh.2.2 (by assumption) | decide | (simp_all; done) | (simp only [zi_le, zi_lt, zi_eq, zi_n0, zi_n1, zi_n2, zi_n3, zi_n4, zi_n23, zi_n24, zi_n100, zi_n399, zi_n60, zi_n255, zi_n99, zi_nm1, zi_n30] at *; omega))⟩), ⟨by rw [ht]; exact hP, hD⟩⟩, hS.F ht⟩) hS.2.2 dX6_lotsRefusal_20
        · skip
          refine lv_if_eq (tgt := 18) hx hb dX6_lotsRefusal_11 (by decide) (fun c_36 => ?_) (fun c_36 => ?_)
          · skip
            exact absurd c_36 (by decide)
          · skip
            refine lv_iload_n hx hb dX6_lotsRefusal_14 rfl (lv_at hl 3 rfl) ?_
            refine lv_if_ge (tgt := 21) hx hb dX6_lotsRefusal_15 (by decide) (fun c_37 => ?_) (fun c_37 => ?_)
            · skip
              refine lv_aload_n hx hb dX6_lotsRefusal_21 rfl (lv_at hl 0 rfl) ?_
              refine lv_iload_n hx hb dX6_lotsRefusal_22 rfl (lv_at hl 1 rfl) ?_
              refine lv_iload_n hx hb dX6_lotsRefusal_23 rfl (lv_at hl 2 rfl) ?_
              refine zcA_v (w := (zX k q 0 (-1) 12 100 0 (fun _ => 0) aps 0 ar1 ar2 ar3 ar4 ar5 ar6 ar7 ph pp py wy fa fb cm0 ia0 0 0 ih0 in0 il0 tx0 sh0 cm1 ia1 0 0 ih1 in1 il1 tx1 sh1 cm2 ia2 0 0 ih2 in2 il2 tx2 sh2 cm3 ia3 0 0 ih3 in3 il3 tx3 sh3 (-1) 0 it0 (-1) 0 it1 (-1) 0 it2 (-1) 0 it3)) (va_runV (As := [.int g, .int 2]) (rest := []) ⟨hx, hb, hml, hown, hts⟩ (c_X6_takePoll l dC dI k  q aps ar1 ar2 ar3 ar4 ar5 ar6 ar7 ph pp py wy fa fb cm0 ia0 ih0 in0 il0 tx0 sh0 cm1 ia1 ih1 in1 il1 tx1 sh1 cm2 ia2 ih2 in2 il2 tx2 sh2 cm3 ia3 ih3 in3 il3 tx3 sh3 it0 it1 it2 it3 g 2 _ ) (cwV 2 hts (gzV wmt2_134 wmt2_136 wmp1_9 wmt1_1 wmt2_137) rfl rfl rfl (by decide +kernel) ⟨Nat.le_of_ble_eq_true rfl, Nat.le_of_ble_eq_true rfl⟩) (zpA_V (ci := 6) (q0 := 0) hK hP hD rfl rfl) rfl rfl hl.1 rfl (lv_room (Nat.le_of_ble_eq_true rfl)) dX6_lotsRefusal_24 ⟨Nat.le_of_ble_eq_true rfl, Nat.le_of_ble_eq_true rfl⟩) hD hS hA (fun u_39 H locs w_40 hP hD hS => ?_)
              have hP : va_P (dC, dI) vwCl (zX k q 0 (-1) 12 100 0 (fun _ => 0) aps 0 ar1 ar2 ar3 ar4 ar5 ar6 ar7 0 0 0 wy fa fb cm0 ia0 0 0 ih0 in0 il0 tx0 sh0 cm1 ia1 0 0 ih1 in1 il1 tx1 sh1 cm2 ia2 0 0 ih2 in2 il2 tx2 sh2 cm3 ia3 0 0 ih3 in3 il3 tx3 sh3 (-1) 0 it0 (-1) 0 it1 (-1) 0 it2 (-1) 0 it3) H := hP
              have hD : va_D A (zX k q 0 (-1) 12 100 0 (fun _ => 0) aps 0 ar1 ar2 ar3 ar4 ar5 ar6 ar7 0 0 0 wy fa fb cm0 ia0 0 0 ih0 in0 il0 tx0 sh0 cm1 ia1 0 0 ih1 in1 il1 tx1 sh1 cm2 ia2 0 0 ih2 in2 il2 tx2 sh2 cm3 ia3 0 0 ih3 in3 il3 tx3 sh3 (-1) 0 it0 (-1) 0 it1 (-1) 0 it2 (-1) 0 it3) := hD
              refine lv_aload_n hx hb dX6_lotsRefusal_27 rfl (lv_at hl 0 rfl) ?_
              refine va_get (D := (dC, dI)) (ci := 6) (v := .ref (q 1)) (C := RX6) (T := TX6) (N := 12) hx hb hts hi6 hown hK.1 hP 0 rfl rfl 0 (by decide) (hts _ wmt1_170) (fun _ h9 => h9) rfl dX6_lotsRefusal_28 ?_
              refine lv_iload_n hx hb dX6_lotsRefusal_31 rfl (lv_at hl 2 rfl) ?_
              refine va_aldq (D := (dC, dI)) hx hb hK.1 hP 1 3 rfl rfl (show ¬ _ by decide) dX6_lotsRefusal_32 ?_
              refine z_top (v2 := .ref (q 22)) (rfl) ?_
              refine lv_astore (lv' := [(4, .ref (q 22)), (0, .ref (q 0)), (1, .int g), (2, .int 2), (3, .int n)]) hx hb dX6_lotsRefusal_33 hl (by decide) rfl (fun ls hl => ?_)
              refine lv_aload hx hb dX6_lotsRefusal_35 (lv_at hl 0 rfl) ?_
              refine zcS_i (w := (zX k q 0 (-1) 12 100 0 (fun _ => 0) aps 0 ar1 ar2 ar3 ar4 ar5 ar6 ar7 0 0 0 wy fa fb cm0 ia0 0 0 ih0 in0 il0 tx0 sh0 cm1 ia1 0 0 ih1 in1 il1 tx1 sh1 cm2 ia2 0 0 ih2 in2 il2 tx2 sh2 cm3 ia3 0 0 ih3 in3 il3 tx3 sh3 (-1) 0 it0 (-1) 0 it1 (-1) 0 it2 (-1) 0 it3)) (wc := (zDes k (q 22) (q 23) (q 24) tx2 sh2 cm2 ia2 0 0 ih2 in2 il2)) (va_runV (As := []) (rest := []) ⟨hx, hb, hml, hown, hts⟩ (c_X1_isFaulty l dC dI k (zTX k) (q 22) (q 23) (q 24) tx2 sh2 cm2 ia2 0 ih2 in2 il2 _ ) (cwV 0 hts (gzV wmt2_55 wmt2_20 wmt2_21 wmt1_6 wmt2_22) rfl rfl rfl (by decide +kernel) ⟨Nat.le_of_ble_eq_true rfl, Nat.le_of_ble_eq_true rfl⟩) (zp_V (ci := 1) (q0 := 22) hK hP hD [22, 23, 24] rfl rfl rfl rfl) rfl rfl hl.1 rfl (lv_room (Nat.le_of_ble_eq_true rfl)) dX6_lotsRefusal_37 ⟨Nat.le_of_ble_eq_true rfl, Nat.le_of_ble_eq_true rfl⟩) hP hD hS hA [22, 23, 24] rfl (fun _ => rfl) (fun r_41 u_42 H locs w_43 hP hD hS => ?_)
              have hP : va_P (dC, dI) vwCl (zX k q 0 (-1) 12 100 0 (fun _ => 0) aps 0 ar1 ar2 ar3 ar4 ar5 ar6 ar7 0 0 0 wy fa fb cm0 ia0 0 0 ih0 in0 il0 tx0 sh0 cm1 ia1 0 0 ih1 in1 il1 tx1 sh1 cm2 ia2 0 0 ih2 in2 il2 tx2 sh2 cm3 ia3 0 0 ih3 in3 il3 tx3 sh3 (-1) 0 it0 (-1) 0 it1 (-1) 0 it2 (-1) 0 it3) H := hP
              have hD : va_D A (zX k q 0 (-1) 12 100 0 (fun _ => 0) aps 0 ar1 ar2 ar3 ar4 ar5 ar6 ar7 0 0 0 wy fa fb cm0 ia0 0 0 ih0 in0 il0 tx0 sh0 cm1 ia1 0 0 ih1 in1 il1 tx1 sh1 cm2 ia2 0 0 ih2 in2 il2 tx2 sh2 cm3 ia3 0 0 ih3 in3 il3 tx3 sh3 (-1) 0 it0 (-1) 0 it1 (-1) 0 it2 (-1) 0 it3) := hD
              have e_44 := w_43
              replace e_44 : r_41 = 1 := e_44
              subst e_44
              refine lv_if_ne (tgt := 54) hx hb dX6_lotsRefusal_40 (by decide) (fun c_45 => ?_) (fun c_45 => ?_)
              · skip
                refine lv_bipush (v := (-3)) hx hb dX6_lotsRefusal_54 (by decide) ?_
                exact W.iret (v := (-3)) hx hb hr (fun t ht hW => ⟨⟨(-3), (0, 0, 0), rfl, Or.inl ⟨(by first | assumption | with_reducible rfl | contradiction | exact (if_pos (by repeat' (first | assumption | decide | constructor))).symm | exact (if_neg (fun hh => absurd hh (by assumption))).symm | exact (if_neg (fun hh => absurd hh.1 (by assumption))).symm | exact (if_neg (fun hh => absurd hh.2 (by assumption))).symm | exact (if_neg (fun hh => absurd hh.1.1 (by assumption))).symm | exact (if_neg (fun hh => absurd hh.1.2 (by assumption))).symm | exact (if_neg (fun hh => absurd hh.2.1 (by assumption))).symm | exact (if_neg (fun hh => absurd hh.2.2 (by assumption))).symm | exact (if_neg (fun hh => absurd hh.2.2.1 (by assumption))).symm | exact (if_neg (fun hh => absurd hh.2.2.2 (by assumption))).symm | exact (if_neg (fun hh => absurd hh.2.2.2.1 (by assumption))).symm | exact (if_neg (fun hh => absurd hh.2.2.2.2 (by assumption))).symm | decide | (exfalso; simp only [zi_le, zi_lt, zi_eq, zi_n0, zi_n1, zi_n2, zi_n3, zi_n4, zi_n23, zi_n24, zi_n100, zi_n399, zi_n60, zi_n255, zi_n99, zi_nm1, zi_n30] at *; omega) | (simp_all; done)), (by first | assumption | with_reducible rfl | contradiction | ((repeat' (first | assumption | decide | constructor)); done) | exact fun hh => absurd hh (by assumption) | exact fun hh => absurd hh.1 (by assumption) | exact fun hh => absurd hh.2 (by assumption) | exact fun hh => absurd hh.1.1 (by assumption) | exact fun hh => absurd hh.1.2 (by assumption) | exact fun hh => absurd hh.2.1 (by assumption) | exact fun hh => absurd hh.2.2 (by assumption) | decide | (simp_all; done) | (simp only [zi_le, zi_lt, zi_eq, zi_n0, zi_n1, zi_n2, zi_n3, zi_n4, zi_n23, zi_n24, zi_n100, zi_n399, zi_n60, zi_n255, zi_n99, zi_nm1, zi_n30] at *; omega))⟩, ⟨by rw [ht]; exact hP, hD⟩⟩, hS.F ht⟩) hS.2.2 dX6_lotsRefusal_56
              · skip
                exact absurd c_45 (by decide)
            · skip
              refine lv_bipush (v := (-2)) hx hb dX6_lotsRefusal_18 (by decide) ?_
              exact W.iret (v := (-2)) hx hb hr (fun t ht hW => ⟨⟨(-2), (ph, pp, py), rfl, Or.inr (⟨(by first | assumption | with_reducible rfl | contradiction | exact (if_pos (by repeat' (first | assumption | decide | constructor))).symm | exact (if_neg (fun hh => absurd hh (by assumption))).symm | exact (if_neg (fun hh => absurd hh.1 (by assumption))).symm | exact (if_neg (fun hh => absurd hh.2 (by assumption))).symm | exact (if_neg (fun hh => absurd hh.1.1 (by assumption))).symm | exact (if_neg (fun hh => absurd hh.1.2 (by assumption))).symm | exact (if_neg (fun hh => absurd hh.2.1 (by assumption))).symm | exact (if_neg (fun hh => absurd hh.2.2 (by assumption))).symm | exact (if_neg (fun hh => absurd hh.2.2.1 (by assumption))).symm | exact (if_neg (fun hh => absurd hh.2.2.2 (by assumption))).symm | exact (if_neg (fun hh => absurd hh.2.2.2.1 (by assumption))).symm | exact (if_neg (fun hh => absurd hh.2.2.2.2 (by assumption))).symm | decide | (exfalso; simp only [zi_le, zi_lt, zi_eq, zi_n0, zi_n1, zi_n2, zi_n3, zi_n4, zi_n23, zi_n24, zi_n100, zi_n399, zi_n60, zi_n255, zi_n99, zi_nm1, zi_n30] at *; omega) | (simp_all; done)), (by first | assumption | with_reducible rfl | contradiction | ((repeat' (first | assumption | decide | constructor)); done) | exact fun hh => absurd hh (by assumption) | exact fun hh => absurd hh.1 (by assumption) | exact fun hh => absurd hh.2 (by assumption) | exact fun hh => absurd hh.1.1 (by assumption) | exact fun hh => absurd hh.1.2 (by assumption) | exact fun hh => absurd hh.2.1 (by assumption) | exact fun hh => absurd hh.2.2 (by assumption) | decide | (simp_all; done) | (simp only [zi_le, zi_lt, zi_eq, zi_n0, zi_n1, zi_n2, zi_n3, zi_n4, zi_n23, zi_n24, zi_n100, zi_n399, zi_n60, zi_n255, zi_n99, zi_nm1, zi_n30] at *; omega))⟩), ⟨by rw [ht]; exact hP, hD⟩⟩, hS.F ht⟩) hS.2.2 dX6_lotsRefusal_20
        · skip
          refine lv_if_eq (tgt := 18) hx hb dX6_lotsRefusal_11 (by decide) (fun c_46 => ?_) (fun c_46 => ?_)
          · skip
            exact absurd c_46 (by decide)
          · skip
            refine lv_iload_n hx hb dX6_lotsRefusal_14 rfl (lv_at hl 3 rfl) ?_
            refine lv_if_ge (tgt := 21) hx hb dX6_lotsRefusal_15 (by decide) (fun c_47 => ?_) (fun c_47 => ?_)
            · skip
              refine lv_aload_n hx hb dX6_lotsRefusal_21 rfl (lv_at hl 0 rfl) ?_
              refine lv_iload_n hx hb dX6_lotsRefusal_22 rfl (lv_at hl 1 rfl) ?_
              refine lv_iload_n hx hb dX6_lotsRefusal_23 rfl (lv_at hl 2 rfl) ?_
              refine zcA_v (w := (zX k q 0 (-1) 12 100 0 (fun _ => 0) aps 0 ar1 ar2 ar3 ar4 ar5 ar6 ar7 ph pp py wy fa fb cm0 ia0 0 0 ih0 in0 il0 tx0 sh0 cm1 ia1 0 0 ih1 in1 il1 tx1 sh1 cm2 ia2 0 0 ih2 in2 il2 tx2 sh2 cm3 ia3 0 0 ih3 in3 il3 tx3 sh3 (-1) 0 it0 (-1) 0 it1 (-1) 0 it2 (-1) 0 it3)) (va_runV (As := [.int g, .int 3]) (rest := []) ⟨hx, hb, hml, hown, hts⟩ (c_X6_takePoll l dC dI k  q aps ar1 ar2 ar3 ar4 ar5 ar6 ar7 ph pp py wy fa fb cm0 ia0 ih0 in0 il0 tx0 sh0 cm1 ia1 ih1 in1 il1 tx1 sh1 cm2 ia2 ih2 in2 il2 tx2 sh2 cm3 ia3 ih3 in3 il3 tx3 sh3 it0 it1 it2 it3 g 3 _ ) (cwV 2 hts (gzV wmt2_134 wmt2_136 wmp1_9 wmt1_1 wmt2_137) rfl rfl rfl (by decide +kernel) ⟨Nat.le_of_ble_eq_true rfl, Nat.le_of_ble_eq_true rfl⟩) (zpA_V (ci := 6) (q0 := 0) hK hP hD rfl rfl) rfl rfl hl.1 rfl (lv_room (Nat.le_of_ble_eq_true rfl)) dX6_lotsRefusal_24 ⟨Nat.le_of_ble_eq_true rfl, Nat.le_of_ble_eq_true rfl⟩) hD hS hA (fun u_49 H locs w_50 hP hD hS => ?_)
              have hP : va_P (dC, dI) vwCl (zX k q 0 (-1) 12 100 0 (fun _ => 0) aps 0 ar1 ar2 ar3 ar4 ar5 ar6 ar7 0 0 0 wy fa fb cm0 ia0 0 0 ih0 in0 il0 tx0 sh0 cm1 ia1 0 0 ih1 in1 il1 tx1 sh1 cm2 ia2 0 0 ih2 in2 il2 tx2 sh2 cm3 ia3 0 0 ih3 in3 il3 tx3 sh3 (-1) 0 it0 (-1) 0 it1 (-1) 0 it2 (-1) 0 it3) H := hP
              have hD : va_D A (zX k q 0 (-1) 12 100 0 (fun _ => 0) aps 0 ar1 ar2 ar3 ar4 ar5 ar6 ar7 0 0 0 wy fa fb cm0 ia0 0 0 ih0 in0 il0 tx0 sh0 cm1 ia1 0 0 ih1 in1 il1 tx1 sh1 cm2 ia2 0 0 ih2 in2 il2 tx2 sh2 cm3 ia3 0 0 ih3 in3 il3 tx3 sh3 (-1) 0 it0 (-1) 0 it1 (-1) 0 it2 (-1) 0 it3) := hD
              refine lv_aload_n hx hb dX6_lotsRefusal_27 rfl (lv_at hl 0 rfl) ?_
              refine va_get (D := (dC, dI)) (ci := 6) (v := .ref (q 1)) (C := RX6) (T := TX6) (N := 12) hx hb hts hi6 hown hK.1 hP 0 rfl rfl 0 (by decide) (hts _ wmt1_170) (fun _ h9 => h9) rfl dX6_lotsRefusal_28 ?_
              refine lv_iload_n hx hb dX6_lotsRefusal_31 rfl (lv_at hl 2 rfl) ?_
              refine va_aldq (D := (dC, dI)) hx hb hK.1 hP 1 3 rfl rfl (show ¬ _ by decide) dX6_lotsRefusal_32 ?_
              refine z_top (v2 := .ref (q 25)) (rfl) ?_
              refine lv_astore (lv' := [(4, .ref (q 25)), (0, .ref (q 0)), (1, .int g), (2, .int 3), (3, .int n)]) hx hb dX6_lotsRefusal_33 hl (by decide) rfl (fun ls hl => ?_)
              refine lv_aload hx hb dX6_lotsRefusal_35 (lv_at hl 0 rfl) ?_
              refine zcS_i (w := (zX k q 0 (-1) 12 100 0 (fun _ => 0) aps 0 ar1 ar2 ar3 ar4 ar5 ar6 ar7 0 0 0 wy fa fb cm0 ia0 0 0 ih0 in0 il0 tx0 sh0 cm1 ia1 0 0 ih1 in1 il1 tx1 sh1 cm2 ia2 0 0 ih2 in2 il2 tx2 sh2 cm3 ia3 0 0 ih3 in3 il3 tx3 sh3 (-1) 0 it0 (-1) 0 it1 (-1) 0 it2 (-1) 0 it3)) (wc := (zDes k (q 25) (q 26) (q 27) tx3 sh3 cm3 ia3 0 0 ih3 in3 il3)) (va_runV (As := []) (rest := []) ⟨hx, hb, hml, hown, hts⟩ (c_X1_isFaulty l dC dI k (zTX k) (q 25) (q 26) (q 27) tx3 sh3 cm3 ia3 0 ih3 in3 il3 _ ) (cwV 0 hts (gzV wmt2_55 wmt2_20 wmt2_21 wmt1_6 wmt2_22) rfl rfl rfl (by decide +kernel) ⟨Nat.le_of_ble_eq_true rfl, Nat.le_of_ble_eq_true rfl⟩) (zp_V (ci := 1) (q0 := 25) hK hP hD [25, 26, 27] rfl rfl rfl rfl) rfl rfl hl.1 rfl (lv_room (Nat.le_of_ble_eq_true rfl)) dX6_lotsRefusal_37 ⟨Nat.le_of_ble_eq_true rfl, Nat.le_of_ble_eq_true rfl⟩) hP hD hS hA [25, 26, 27] rfl (fun _ => rfl) (fun r_51 u_52 H locs w_53 hP hD hS => ?_)
              have hP : va_P (dC, dI) vwCl (zX k q 0 (-1) 12 100 0 (fun _ => 0) aps 0 ar1 ar2 ar3 ar4 ar5 ar6 ar7 0 0 0 wy fa fb cm0 ia0 0 0 ih0 in0 il0 tx0 sh0 cm1 ia1 0 0 ih1 in1 il1 tx1 sh1 cm2 ia2 0 0 ih2 in2 il2 tx2 sh2 cm3 ia3 0 0 ih3 in3 il3 tx3 sh3 (-1) 0 it0 (-1) 0 it1 (-1) 0 it2 (-1) 0 it3) H := hP
              have hD : va_D A (zX k q 0 (-1) 12 100 0 (fun _ => 0) aps 0 ar1 ar2 ar3 ar4 ar5 ar6 ar7 0 0 0 wy fa fb cm0 ia0 0 0 ih0 in0 il0 tx0 sh0 cm1 ia1 0 0 ih1 in1 il1 tx1 sh1 cm2 ia2 0 0 ih2 in2 il2 tx2 sh2 cm3 ia3 0 0 ih3 in3 il3 tx3 sh3 (-1) 0 it0 (-1) 0 it1 (-1) 0 it2 (-1) 0 it3) := hD
              have e_54 := w_53
              replace e_54 : r_51 = 1 := e_54
              subst e_54
              refine lv_if_ne (tgt := 54) hx hb dX6_lotsRefusal_40 (by decide) (fun c_55 => ?_) (fun c_55 => ?_)
              · skip
                refine lv_bipush (v := (-3)) hx hb dX6_lotsRefusal_54 (by decide) ?_
                exact W.iret (v := (-3)) hx hb hr (fun t ht hW => ⟨⟨(-3), (0, 0, 0), rfl, Or.inl ⟨(by first | assumption | with_reducible rfl | contradiction | exact (if_pos (by repeat' (first | assumption | decide | constructor))).symm | exact (if_neg (fun hh => absurd hh (by assumption))).symm | exact (if_neg (fun hh => absurd hh.1 (by assumption))).symm | exact (if_neg (fun hh => absurd hh.2 (by assumption))).symm | exact (if_neg (fun hh => absurd hh.1.1 (by assumption))).symm | exact (if_neg (fun hh => absurd hh.1.2 (by assumption))).symm | exact (if_neg (fun hh => absurd hh.2.1 (by assumption))).symm | exact (if_neg (fun hh => absurd hh.2.2 (by assumption))).symm | exact (if_neg (fun hh => absurd hh.2.2.1 (by assumption))).symm | exact (if_neg (fun hh => absurd hh.2.2.2 (by assumption))).symm | exact (if_neg (fun hh => absurd hh.2.2.2.1 (by assumption))).symm | exact (if_neg (fun hh => absurd hh.2.2.2.2 (by assumption))).symm | decide | (exfalso; simp only [zi_le, zi_lt, zi_eq, zi_n0, zi_n1, zi_n2, zi_n3, zi_n4, zi_n23, zi_n24, zi_n100, zi_n399, zi_n60, zi_n255, zi_n99, zi_nm1, zi_n30] at *; omega) | (simp_all; done)), (by first | assumption | with_reducible rfl | contradiction | ((repeat' (first | assumption | decide | constructor)); done) | exact fun hh => absurd hh (by assumption) | exact fun hh => absurd hh.1 (by assumption) | exact fun hh => absurd hh.2 (by assumption) | exact fun hh => absurd hh.1.1 (by assumption) | exact fun hh => absurd hh.1.2 (by assumption) | exact fun hh => absurd hh.2.1 (by assumption) | exact fun hh => absurd hh.2.2 (by assumption) | decide | (simp_all; done) | (simp only [zi_le, zi_lt, zi_eq, zi_n0, zi_n1, zi_n2, zi_n3, zi_n4, zi_n23, zi_n24, zi_n100, zi_n399, zi_n60, zi_n255, zi_n99, zi_nm1, zi_n30] at *; omega))⟩, ⟨by rw [ht]; exact hP, hD⟩⟩, hS.F ht⟩) hS.2.2 dX6_lotsRefusal_56
              · skip
                exact absurd c_55 (by decide)
            · skip
              refine lv_bipush (v := (-2)) hx hb dX6_lotsRefusal_18 (by decide) ?_
              exact W.iret (v := (-2)) hx hb hr (fun t ht hW => ⟨⟨(-2), (ph, pp, py), rfl, Or.inr (⟨(by first | assumption | with_reducible rfl | contradiction | exact (if_pos (by repeat' (first | assumption | decide | constructor))).symm | exact (if_neg (fun hh => absurd hh (by assumption))).symm | exact (if_neg (fun hh => absurd hh.1 (by assumption))).symm | exact (if_neg (fun hh => absurd hh.2 (by assumption))).symm | exact (if_neg (fun hh => absurd hh.1.1 (by assumption))).symm | exact (if_neg (fun hh => absurd hh.1.2 (by assumption))).symm | exact (if_neg (fun hh => absurd hh.2.1 (by assumption))).symm | exact (if_neg (fun hh => absurd hh.2.2 (by assumption))).symm | exact (if_neg (fun hh => absurd hh.2.2.1 (by assumption))).symm | exact (if_neg (fun hh => absurd hh.2.2.2 (by assumption))).symm | exact (if_neg (fun hh => absurd hh.2.2.2.1 (by assumption))).symm | exact (if_neg (fun hh => absurd hh.2.2.2.2 (by assumption))).symm | decide | (exfalso; simp only [zi_le, zi_lt, zi_eq, zi_n0, zi_n1, zi_n2, zi_n3, zi_n4, zi_n23, zi_n24, zi_n100, zi_n399, zi_n60, zi_n255, zi_n99, zi_nm1, zi_n30] at *; omega) | (simp_all; done)), (by first | assumption | with_reducible rfl | contradiction | ((repeat' (first | assumption | decide | constructor)); done) | exact fun hh => absurd hh (by assumption) | exact fun hh => absurd hh.1 (by assumption) | exact fun hh => absurd hh.2 (by assumption) | exact fun hh => absurd hh.1.1 (by assumption) | exact fun hh => absurd hh.1.2 (by assumption) | exact fun hh => absurd hh.2.1 (by assumption) | exact fun hh => absurd hh.2.2 (by assumption) | decide | (simp_all; done) | (simp only [zi_le, zi_lt, zi_eq, zi_n0, zi_n1, zi_n2, zi_n3, zi_n4, zi_n23, zi_n24, zi_n100, zi_n399, zi_n60, zi_n255, zi_n99, zi_nm1, zi_n30] at *; omega))⟩), ⟨by rw [ht]; exact hP, hD⟩⟩, hS.F ht⟩) hS.2.2 dX6_lotsRefusal_20
      · skip
        replace e_15 : r_9 = 0 := e_15
        subst e_15
        replace h_14 : ¬ (0 ≤ (d : Int32) ∧ (d : Int32) ≤ 3) := h_14
        refine lv_if_eq (tgt := 18) hx hb dX6_lotsRefusal_11 (by decide) (fun c_56 => ?_) (fun c_56 => ?_)
        · skip
          refine lv_bipush (v := (-2)) hx hb dX6_lotsRefusal_18 (by decide) ?_
          exact W.iret (v := (-2)) hx hb hr (fun t ht hW => ⟨⟨(-2), (ph, pp, py), rfl, Or.inr (⟨(by first | assumption | with_reducible rfl | contradiction | exact (if_pos (by repeat' (first | assumption | decide | constructor))).symm | exact (if_neg (fun hh => absurd hh (by assumption))).symm | exact (if_neg (fun hh => absurd hh.1 (by assumption))).symm | exact (if_neg (fun hh => absurd hh.2 (by assumption))).symm | exact (if_neg (fun hh => absurd hh.1.1 (by assumption))).symm | exact (if_neg (fun hh => absurd hh.1.2 (by assumption))).symm | exact (if_neg (fun hh => absurd hh.2.1 (by assumption))).symm | exact (if_neg (fun hh => absurd hh.2.2 (by assumption))).symm | exact (if_neg (fun hh => absurd hh.2.2.1 (by assumption))).symm | exact (if_neg (fun hh => absurd hh.2.2.2 (by assumption))).symm | exact (if_neg (fun hh => absurd hh.2.2.2.1 (by assumption))).symm | exact (if_neg (fun hh => absurd hh.2.2.2.2 (by assumption))).symm | decide | (exfalso; simp only [zi_le, zi_lt, zi_eq, zi_n0, zi_n1, zi_n2, zi_n3, zi_n4, zi_n23, zi_n24, zi_n100, zi_n399, zi_n60, zi_n255, zi_n99, zi_nm1, zi_n30] at *; omega) | (simp_all; done)), (by first | assumption | with_reducible rfl | contradiction | ((repeat' (first | assumption | decide | constructor)); done) | exact fun hh => absurd hh (by assumption) | exact fun hh => absurd hh.1 (by assumption) | exact fun hh => absurd hh.2 (by assumption) | exact fun hh => absurd hh.1.1 (by assumption) | exact fun hh => absurd hh.1.2 (by assumption) | exact fun hh => absurd hh.2.1 (by assumption) | exact fun hh => absurd hh.2.2 (by assumption) | decide | (simp_all; done) | (simp only [zi_le, zi_lt, zi_eq, zi_n0, zi_n1, zi_n2, zi_n3, zi_n4, zi_n23, zi_n24, zi_n100, zi_n399, zi_n60, zi_n255, zi_n99, zi_nm1, zi_n30] at *; omega))⟩), ⟨by rw [ht]; exact hP, hD⟩⟩, hS.F ht⟩) hS.2.2 dX6_lotsRefusal_20
        · skip
          exact absurd (by decide) c_56
  · skip
    replace e_7 : r_1 = 0 := e_7
    subst e_7
    replace h_6 : ¬ (0 ≤ (g : Int32) ∧ (g : Int32) ≤ 3) := h_6
    refine lv_if_eq (tgt := 18) hx hb dX6_lotsRefusal_4 (by decide) (fun c_57 => ?_) (fun c_57 => ?_)
    · skip
      refine lv_bipush (v := (-2)) hx hb dX6_lotsRefusal_18 (by decide) ?_
      exact W.iret (v := (-2)) hx hb hr (fun t ht hW => ⟨⟨(-2), (ph, pp, py), rfl, Or.inr (⟨(by first | assumption | with_reducible rfl | contradiction | exact (if_pos (by repeat' (first | assumption | decide | constructor))).symm | exact (if_neg (fun hh => absurd hh (by assumption))).symm | exact (if_neg (fun hh => absurd hh.1 (by assumption))).symm | exact (if_neg (fun hh => absurd hh.2 (by assumption))).symm | exact (if_neg (fun hh => absurd hh.1.1 (by assumption))).symm | exact (if_neg (fun hh => absurd hh.1.2 (by assumption))).symm | exact (if_neg (fun hh => absurd hh.2.1 (by assumption))).symm | exact (if_neg (fun hh => absurd hh.2.2 (by assumption))).symm | exact (if_neg (fun hh => absurd hh.2.2.1 (by assumption))).symm | exact (if_neg (fun hh => absurd hh.2.2.2 (by assumption))).symm | exact (if_neg (fun hh => absurd hh.2.2.2.1 (by assumption))).symm | exact (if_neg (fun hh => absurd hh.2.2.2.2 (by assumption))).symm | decide | (exfalso; simp only [zi_le, zi_lt, zi_eq, zi_n0, zi_n1, zi_n2, zi_n3, zi_n4, zi_n23, zi_n24, zi_n100, zi_n399, zi_n60, zi_n255, zi_n99, zi_nm1, zi_n30] at *; omega) | (simp_all; done)), (by first | assumption | with_reducible rfl | contradiction | ((repeat' (first | assumption | decide | constructor)); done) | exact fun hh => absurd hh (by assumption) | exact fun hh => absurd hh.1 (by assumption) | exact fun hh => absurd hh.2 (by assumption) | exact fun hh => absurd hh.1.1 (by assumption) | exact fun hh => absurd hh.1.2 (by assumption) | exact fun hh => absurd hh.2.1 (by assumption) | exact fun hh => absurd hh.2.2 (by assumption) | decide | (simp_all; done) | (simp only [zi_le, zi_lt, zi_eq, zi_n0, zi_n1, zi_n2, zi_n3, zi_n4, zi_n23, zi_n24, zi_n100, zi_n399, zi_n60, zi_n255, zi_n99, zi_nm1, zi_n30] at *; omega))⟩), ⟨by rw [ht]; exact hP, hD⟩⟩, hS.F ht⟩) hS.2.2 dX6_lotsRefusal_20
    · skip
      exact absurd (by decide) c_57
