set_option maxHeartbeats 4000000 in
set_option maxRecDepth 100000 in
theorem c_X6_itemFinding (l : Launch) (dC : Nat → ClassId) (dI : Nat → Nat → Nat) (k : Nat → ClassId) (T : List (ClassId × FieldType)) (h0 : Nat) (a1 : Nat) (it : Nat → Int32) (ss : Int32) (t : Int32) (i : Int32) (sz : Nat)  : Met l yX6_itemFinding (wz yX6_itemFinding cX6_itemFinding 3 (some .int)) ({ frames := 1, cells := 0, slots := 0, locals := 20 }) (va_Pc [.ref h0, .int t, .int i] (zPre dC dI k T (zShe k h0 a1 it (-1) ss) sz)) (va_Qi (fun (r : Int32) (u : Unit) => r = 1) (fun u t => zPost dC dI (va_A (zShe k h0 a1 it (-1) ss) sz) (zShe k h0 a1 it (-1) ss) t) (va_A (zShe k h0 a1 it (-1) ss) sz)) 0 0 (va_A (zShe k h0 a1 it (-1) ss) sz) := by
  refine Met.ofW (cc := cX6_itemFinding) (maxL := 3) (ret := (some .int)) (by decide) rfl ?_
  intro p e s m args below meth c s₁ B hml hv
  obtain ⟨rfl, hsz, hP, hK, hD0⟩ := hv
  have hx := B.exec
  have hb := B.bytes
  have hr := B.returns
  have hts : ∀ w ∈ zw, w.before _ s = true := fun w h => atoms_spec (ws := (wz yX6_itemFinding cX6_itemFinding 3 (some .int))) B.pre w (List.mem_cons_of_mem _ h)
  have hown : s.vm.findClass RX6 = some m.cls := findClass_of_methodNamed B.named
  have hlocks := B.notSynchronized
  subst hsz
  have hD := hD0.self (sz := s.heap.size)
  generalize hAe : va_A (zShe k h0 a1 it (-1) ss) s.heap.size = A at hD ⊢
  have hA : ∀ q : Nat, s.heap.size ≤ q → A q := fun q h => by rw [← hAe]; exact Or.inr h
  have hl := lv_entry ([.ref h0, .int t, .int i]) (n := 3) (Nat.le_of_ble_eq_true rfl)
  rw [lg_entry_eq]
  generalize (lg_sl ([.ref h0, .int t, .int i]) ++ List.replicate (3 - (lg_sl ([.ref h0, .int t, .int i])).length) Slot.unset).toArray = ls at hl ⊢
  have hl : lv_has ls 3 [(0, .ref h0), (1, .int t), (2, .int i)] := hl
  refine z_start (w := (zShe k h0 a1 it (-1) ss)) hP hD (fun H locs hP hD hS => ?_)
  refine lv_aload_n hx hb dX6_itemFinding_0 rfl (lv_at hl 0 rfl) ?_
  refine zcA_i (w := (zShe k h0 a1 it (-1) ss)) (va_runV (As := []) (rest := []) ⟨hx, hb, hml, hown, hts⟩ (c_X5_isLost l dC dI k T h0 a1 it ss _ ) (cwV 0 hts (gzV wmt2_98 wmt2_99 wmt2_100 wmt1_7 wmt2_101) rfl rfl rfl (by decide +kernel) ⟨Nat.le_of_ble_eq_true rfl, Nat.le_of_ble_eq_true rfl⟩) (zpA_V (ci := 5) (q0 := 0) hK hP hD rfl rfl) rfl rfl hl.1 rfl (lv_room (Nat.le_of_ble_eq_true rfl)) dX6_itemFinding_1 ⟨Nat.le_of_ble_eq_true rfl, Nat.le_of_ble_eq_true rfl⟩) hD hS hA (fun r_1 u_2 H locs w_3 hP hD hS => ?_)
  have hP : va_P (dC, dI) vwCl (zShe k h0 a1 it (-1) ss) H := hP
  have hD : va_D A (zShe k h0 a1 it (-1) ss) := hD
  have e_4 := w_3
  replace e_4 : r_1 = 1 := e_4
  subst e_4
  refine lv_if_eq (tgt := 9) hx hb dX6_itemFinding_4 (by decide) (fun c_5 => ?_) (fun c_5 => ?_)
  · skip
    exact absurd c_5 (by decide)
  · skip
    refine lv_iconst (v := 1) hx hb dX6_itemFinding_7 (by decide) ?_
    exact W.iret (v := 1) hx hb hr (fun t ht hW => ⟨⟨1, (), rfl, (by first | assumption | with_reducible rfl | contradiction | exact (if_pos (by repeat' (first | assumption | decide | constructor))).symm | exact (if_neg (fun hh => absurd hh (by assumption))).symm | decide | (exfalso; simp only [zi_le, zi_lt, zi_eq, zi_n0, zi_n1, zi_n2, zi_n3, zi_n4, zi_n23, zi_n24, zi_n100, zi_n399, zi_n60, zi_n255, zi_n99, zi_nm1, zi_n30] at *; omega) | (simp_all; done)), ⟨by rw [ht]; exact hP, hD⟩⟩, hS.F ht⟩) hS.2.2 dX6_itemFinding_8
set_option maxHeartbeats 4000000 in
set_option maxRecDepth 100000 in
theorem c_X6_lose (l : Launch) (dC : Nat → ClassId) (dI : Nat → Nat → Nat) (k : Nat → ClassId)  (q : Nat → Nat) (aps : Int32) (ar1 : Nat → Int32) (ar2 : Nat → Int32) (ar3 : Nat → Int32) (ar4 : Nat → Int32) (ar5 : Nat → Int32) (ar6 : Nat → Int32) (ar7 : Nat → Int32) (ph : Int32) (pp : Int32) (py : Int32) (wy : Nat → Int64) (fa : Int64) (fb : Int64) (cm0 : Int64) (ia0 : Int32) (ih0 : Int32) (in0 : Int32) (il0 : Int32) (tx0 : Nat → Int32) (sh0 : Nat → Int64) (cm1 : Int64) (ia1 : Int32) (ih1 : Int32) (in1 : Int32) (il1 : Int32) (tx1 : Nat → Int32) (sh1 : Nat → Int64) (cm2 : Int64) (ia2 : Int32) (ih2 : Int32) (in2 : Int32) (il2 : Int32) (tx2 : Nat → Int32) (sh2 : Nat → Int64) (cm3 : Int64) (ia3 : Int32) (ih3 : Int32) (in3 : Int32) (il3 : Int32) (tx3 : Nat → Int32) (sh3 : Nat → Int64) (it0 : Nat → Int32) (it1 : Nat → Int32) (it2 : Nat → Int32) (it3 : Nat → Int32) (z : Int32) (sz : Nat)  : Met l yX6_lose (wz yX6_lose cX6_lose 2 (some .int)) ({ frames := 1, cells := 0, slots := 0, locals := 21 }) (va_Pc [.ref (q 0), .int z] (zPre dC dI k (zTX k) (zX k q 0 (-1) 12 100 0 (fun _ => 0) aps 0 ar1 ar2 ar3 ar4 ar5 ar6 ar7 ph pp py wy fa fb cm0 ia0 0 0 ih0 in0 il0 tx0 sh0 cm1 ia1 0 0 ih1 in1 il1 tx1 sh1 cm2 ia2 0 0 ih2 in2 il2 tx2 sh2 cm3 ia3 0 0 ih3 in3 il3 tx3 sh3 (-1) 0 it0 (-1) 0 it1 (-1) 0 it2 (-1) 0 it3) sz)) (va_Qi (fun (r : Int32) (u : Int32) => (r = if (0 ≤ (z : Int32) ∧ (z : Int32) ≤ 3) then (-11) else (-2))) (fun u t => zPost dC dI (va_A (zX k q 0 (-1) 12 100 0 (fun _ => 0) aps 0 ar1 ar2 ar3 ar4 ar5 ar6 ar7 ph pp py wy fa fb cm0 ia0 0 0 ih0 in0 il0 tx0 sh0 cm1 ia1 0 0 ih1 in1 il1 tx1 sh1 cm2 ia2 0 0 ih2 in2 il2 tx2 sh2 cm3 ia3 0 0 ih3 in3 il3 tx3 sh3 (-1) 0 it0 (-1) 0 it1 (-1) 0 it2 (-1) 0 it3) sz) (zX k q 0 (-1) 12 100 u (fun _ => 0) aps 0 ar1 ar2 ar3 ar4 ar5 ar6 ar7 ph pp py wy fa fb cm0 ia0 0 0 ih0 in0 il0 tx0 sh0 cm1 ia1 0 0 ih1 in1 il1 tx1 sh1 cm2 ia2 0 0 ih2 in2 il2 tx2 sh2 cm3 ia3 0 0 ih3 in3 il3 tx3 sh3 (-1) 0 it0 (-1) 0 it1 (-1) 0 it2 (-1) 0 it3) t) (va_A (zX k q 0 (-1) 12 100 0 (fun _ => 0) aps 0 ar1 ar2 ar3 ar4 ar5 ar6 ar7 ph pp py wy fa fb cm0 ia0 0 0 ih0 in0 il0 tx0 sh0 cm1 ia1 0 0 ih1 in1 il1 tx1 sh1 cm2 ia2 0 0 ih2 in2 il2 tx2 sh2 cm3 ia3 0 0 ih3 in3 il3 tx3 sh3 (-1) 0 it0 (-1) 0 it1 (-1) 0 it2 (-1) 0 it3) sz)) 0 0 (va_A (zX k q 0 (-1) 12 100 0 (fun _ => 0) aps 0 ar1 ar2 ar3 ar4 ar5 ar6 ar7 ph pp py wy fa fb cm0 ia0 0 0 ih0 in0 il0 tx0 sh0 cm1 ia1 0 0 ih1 in1 il1 tx1 sh1 cm2 ia2 0 0 ih2 in2 il2 tx2 sh2 cm3 ia3 0 0 ih3 in3 il3 tx3 sh3 (-1) 0 it0 (-1) 0 it1 (-1) 0 it2 (-1) 0 it3) sz) := by
  refine Met.ofW (cc := cX6_lose) (maxL := 2) (ret := (some .int)) (by decide) rfl ?_
  intro p e s m args below meth c s₁ B hml hv
  obtain ⟨rfl, hsz, hP, hK, hD0⟩ := hv
  have hx := B.exec
  have hb := B.bytes
  have hr := B.returns
  have hts : ∀ w ∈ zw, w.before _ s = true := fun w h => atoms_spec (ws := (wz yX6_lose cX6_lose 2 (some .int))) B.pre w (List.mem_cons_of_mem _ h)
  have hown : s.vm.findClass RX6 = some m.cls := findClass_of_methodNamed B.named
  have hlocks := B.notSynchronized
  subst hsz
  have hi6 := inw6
  have hD := hD0.self (sz := s.heap.size)
  generalize hAe : va_A (zX k q 0 (-1) 12 100 0 (fun _ => 0) aps 0 ar1 ar2 ar3 ar4 ar5 ar6 ar7 ph pp py wy fa fb cm0 ia0 0 0 ih0 in0 il0 tx0 sh0 cm1 ia1 0 0 ih1 in1 il1 tx1 sh1 cm2 ia2 0 0 ih2 in2 il2 tx2 sh2 cm3 ia3 0 0 ih3 in3 il3 tx3 sh3 (-1) 0 it0 (-1) 0 it1 (-1) 0 it2 (-1) 0 it3) s.heap.size = A at hD ⊢
  have hA : ∀ q : Nat, s.heap.size ≤ q → A q := fun q h => by rw [← hAe]; exact Or.inr h
  have hl := lv_entry ([.ref (q 0), .int z]) (n := 2) (Nat.le_of_ble_eq_true rfl)
  rw [lg_entry_eq]
  generalize (lg_sl ([.ref (q 0), .int z]) ++ List.replicate (2 - (lg_sl ([.ref (q 0), .int z])).length) Slot.unset).toArray = ls at hl ⊢
  have hl : lv_has ls 2 [(0, .ref (q 0)), (1, .int z)] := hl
  refine z_start (w := (zX k q 0 (-1) 12 100 0 (fun _ => 0) aps 0 ar1 ar2 ar3 ar4 ar5 ar6 ar7 ph pp py wy fa fb cm0 ia0 0 0 ih0 in0 il0 tx0 sh0 cm1 ia1 0 0 ih1 in1 il1 tx1 sh1 cm2 ia2 0 0 ih2 in2 il2 tx2 sh2 cm3 ia3 0 0 ih3 in3 il3 tx3 sh3 (-1) 0 it0 (-1) 0 it1 (-1) 0 it2 (-1) 0 it3)) hP hD (fun H locs hP hD hS => ?_)
  refine lv_iload_n hx hb dX6_lose_0 rfl (lv_at hl 1 rfl) ?_
  refine zc0_i (w := (zX k q 0 (-1) 12 100 0 (fun _ => 0) aps 0 ar1 ar2 ar3 ar4 ar5 ar6 ar7 ph pp py wy fa fb cm0 ia0 0 0 ih0 in0 il0 tx0 sh0 cm1 ia1 0 0 ih1 in1 il1 tx1 sh1 cm2 ia2 0 0 ih2 in2 il2 tx2 sh2 cm3 ia3 0 0 ih3 in3 il3 tx3 sh3 (-1) 0 it0 (-1) 0 it1 (-1) 0 it2 (-1) 0 it3)) (va_runS (As := [.int z]) (rest := []) ⟨hx, hb, hml, hown, hts⟩ (c_X6_isSheet l dC dI k (zTX k) z _ ) (va_cwS 1 hts (gzS wmt2_95 wmt2_96 wmt1_1 wmt2_97) rfl rfl rfl (by decide +kernel) ⟨Nat.le_of_ble_eq_true rfl, Nat.le_of_ble_eq_true rfl⟩) (zp0_S hK) rfl rfl hl.1 rfl (lv_room (Nat.le_of_ble_eq_true rfl)) dX6_lose_1 ⟨Nat.le_of_ble_eq_true rfl, Nat.le_of_ble_eq_true rfl⟩) hP hS hA (fun r_1 u_2 H locs w_3 hP hS => ?_)
  rcases w_3 with ⟨e_5, h_4⟩ | ⟨e_7, h_6⟩
  · skip
    replace e_5 : r_1 = 1 := e_5
    subst e_5
    replace h_4 : 0 ≤ (z : Int32) ∧ (z : Int32) ≤ 3 := h_4
    rcases zi_4 h_4 with rfl | rfl | rfl | rfl
    · skip
      refine lv_if_ne (tgt := 10) hx hb dX6_lose_4 (by decide) (fun c_8 => ?_) (fun c_8 => ?_)
      · skip
        refine lv_aload_n hx hb dX6_lose_10 rfl (lv_at hl 0 rfl) ?_
        refine va_get (D := (dC, dI)) (ci := 6) (v := .ref (q 2)) (C := RX6) (T := TX6) (N := 12) hx hb hts hi6 hown hK.1 hP 0 rfl rfl 1 (by decide) (hts _ wmt1_171) (fun _ h9 => h9) rfl dX6_lose_11 ?_
        refine lv_iload_n hx hb dX6_lose_14 rfl (lv_at hl 1 rfl) ?_
        refine va_aldq (D := (dC, dI)) hx hb hK.1 hP 2 4 rfl rfl (show ¬ _ by decide) dX6_lose_15 ?_
        refine z_top (v2 := .ref (q 28)) (rfl) ?_
        refine zcS_i (w := (zX k q 0 (-1) 12 100 0 (fun _ => 0) aps 0 ar1 ar2 ar3 ar4 ar5 ar6 ar7 ph pp py wy fa fb cm0 ia0 0 0 ih0 in0 il0 tx0 sh0 cm1 ia1 0 0 ih1 in1 il1 tx1 sh1 cm2 ia2 0 0 ih2 in2 il2 tx2 sh2 cm3 ia3 0 0 ih3 in3 il3 tx3 sh3 (-1) 0 it0 (-1) 0 it1 (-1) 0 it2 (-1) 0 it3)) (wc := (zShe k (q 28) (q 29) it0 (-1) 0)) (va_runV (As := []) (rest := []) ⟨hx, hb, hml, hown, hts⟩ (c_X5_isLost l dC dI k (zTX k) (q 28) (q 29) it0 0 _ ) (cwV 0 hts (gzV wmt2_98 wmt2_99 wmt2_100 wmt1_7 wmt2_101) rfl rfl rfl (by decide +kernel) ⟨Nat.le_of_ble_eq_true rfl, Nat.le_of_ble_eq_true rfl⟩) (zp_V (ci := 5) (q0 := 28) hK hP hD [28, 29] rfl rfl rfl rfl) rfl rfl hl.1 rfl (lv_room (Nat.le_of_ble_eq_true rfl)) dX6_lose_16 ⟨Nat.le_of_ble_eq_true rfl, Nat.le_of_ble_eq_true rfl⟩) hP hD hS hA [28, 29] rfl (fun _ => rfl) (fun r_9 u_10 H locs w_11 hP hD hS => ?_)
        have hP : va_P (dC, dI) vwCl (zX k q 0 (-1) 12 100 0 (fun _ => 0) aps 0 ar1 ar2 ar3 ar4 ar5 ar6 ar7 ph pp py wy fa fb cm0 ia0 0 0 ih0 in0 il0 tx0 sh0 cm1 ia1 0 0 ih1 in1 il1 tx1 sh1 cm2 ia2 0 0 ih2 in2 il2 tx2 sh2 cm3 ia3 0 0 ih3 in3 il3 tx3 sh3 (-1) 0 it0 (-1) 0 it1 (-1) 0 it2 (-1) 0 it3) H := hP
        have hD : va_D A (zX k q 0 (-1) 12 100 0 (fun _ => 0) aps 0 ar1 ar2 ar3 ar4 ar5 ar6 ar7 ph pp py wy fa fb cm0 ia0 0 0 ih0 in0 il0 tx0 sh0 cm1 ia1 0 0 ih1 in1 il1 tx1 sh1 cm2 ia2 0 0 ih2 in2 il2 tx2 sh2 cm3 ia3 0 0 ih3 in3 il3 tx3 sh3 (-1) 0 it0 (-1) 0 it1 (-1) 0 it2 (-1) 0 it3) := hD
        have e_12 := w_11
        replace e_12 : r_9 = 1 := e_12
        subst e_12
        refine lv_if_eq (tgt := 30) hx hb dX6_lose_19 (by decide) (fun c_13 => ?_) (fun c_13 => ?_)
        · skip
          exact absurd c_13 (by decide)
        · skip
          refine lv_aload_n hx hb dX6_lose_22 rfl (lv_at hl 0 rfl) ?_
          refine lv_iconst (v := 1) hx hb dX6_lose_23 (by decide) ?_
          refine zcA_i (w := (zX k q 0 (-1) 12 100 0 (fun _ => 0) aps 0 ar1 ar2 ar3 ar4 ar5 ar6 ar7 ph pp py wy fa fb cm0 ia0 0 0 ih0 in0 il0 tx0 sh0 cm1 ia1 0 0 ih1 in1 il1 tx1 sh1 cm2 ia2 0 0 ih2 in2 il2 tx2 sh2 cm3 ia3 0 0 ih3 in3 il3 tx3 sh3 (-1) 0 it0 (-1) 0 it1 (-1) 0 it2 (-1) 0 it3)) (va_runV (As := [.int 1]) (rest := []) ⟨hx, hb, hml, hown, hts⟩ (c_X6_found_1 l dC dI k  q aps ar1 ar2 ar3 ar4 ar5 ar6 ar7 ph pp py wy fa fb cm0 ia0 ih0 in0 il0 tx0 sh0 cm1 ia1 ih1 in1 il1 tx1 sh1 cm2 ia2 ih2 in2 il2 tx2 sh2 cm3 ia3 ih3 in3 il3 tx3 sh3 it0 it1 it2 it3 _ ) (cwV 1 hts (gzV wmt2_102 wmt2_104 wmp1_7 wmt1_1 wmt2_105) rfl rfl rfl (by decide +kernel) ⟨Nat.le_of_ble_eq_true rfl, Nat.le_of_ble_eq_true rfl⟩) (zpA_V (ci := 6) (q0 := 0) hK hP hD rfl rfl) rfl rfl hl.1 rfl (lv_room (Nat.le_of_ble_eq_true rfl)) dX6_lose_24 ⟨Nat.le_of_ble_eq_true rfl, Nat.le_of_ble_eq_true rfl⟩) hD hS hA (fun r_14 u_15 H locs w_16 hP hD hS => ?_)
          obtain ⟨oxfi_17, rfl⟩ : ∃ z, z = u_15 := ⟨_, rfl⟩
          have hP : va_P (dC, dI) vwCl (zX k q 0 (-1) 12 100 oxfi_17 (fun _ => 0) aps 0 ar1 ar2 ar3 ar4 ar5 ar6 ar7 ph pp py wy fa fb cm0 ia0 0 0 ih0 in0 il0 tx0 sh0 cm1 ia1 0 0 ih1 in1 il1 tx1 sh1 cm2 ia2 0 0 ih2 in2 il2 tx2 sh2 cm3 ia3 0 0 ih3 in3 il3 tx3 sh3 (-1) 0 it0 (-1) 0 it1 (-1) 0 it2 (-1) 0 it3) H := hP
          have hD : va_D A (zX k q 0 (-1) 12 100 oxfi_17 (fun _ => 0) aps 0 ar1 ar2 ar3 ar4 ar5 ar6 ar7 ph pp py wy fa fb cm0 ia0 0 0 ih0 in0 il0 tx0 sh0 cm1 ia1 0 0 ih1 in1 il1 tx1 sh1 cm2 ia2 0 0 ih2 in2 il2 tx2 sh2 cm3 ia3 0 0 ih3 in3 il3 tx3 sh3 (-1) 0 it0 (-1) 0 it1 (-1) 0 it2 (-1) 0 it3) := hD
          have e_18 := w_16
          replace e_18 : r_14 = (-11) := e_18
          subst e_18
          refine lv_goto (tgt := 39) hx hb dX6_lose_27 (by decide) ?_
          exact W.iret (v := (-11)) hx hb hr (fun t ht hW => ⟨⟨(-11), (oxfi_17), rfl, (by first | assumption | with_reducible rfl | contradiction | exact (if_pos (by repeat' (first | assumption | decide | constructor))).symm | exact (if_neg (fun hh => absurd hh (by assumption))).symm | exact (if_neg (fun hh => absurd hh.1 (by assumption))).symm | exact (if_neg (fun hh => absurd hh.2 (by assumption))).symm | decide | (exfalso; simp only [zi_le, zi_lt, zi_eq, zi_n0, zi_n1, zi_n2, zi_n3, zi_n4, zi_n23, zi_n24, zi_n100, zi_n399, zi_n60, zi_n255, zi_n99, zi_nm1, zi_n30] at *; omega) | (simp_all; done)), ⟨by rw [ht]; exact hP, hD⟩⟩, hS.F ht⟩) hS.2.2 dX6_lose_39
      · skip
        exact absurd c_8 (by decide)
    · skip
      refine lv_if_ne (tgt := 10) hx hb dX6_lose_4 (by decide) (fun c_19 => ?_) (fun c_19 => ?_)
      · skip
        refine lv_aload_n hx hb dX6_lose_10 rfl (lv_at hl 0 rfl) ?_
        refine va_get (D := (dC, dI)) (ci := 6) (v := .ref (q 2)) (C := RX6) (T := TX6) (N := 12) hx hb hts hi6 hown hK.1 hP 0 rfl rfl 1 (by decide) (hts _ wmt1_171) (fun _ h9 => h9) rfl dX6_lose_11 ?_
        refine lv_iload_n hx hb dX6_lose_14 rfl (lv_at hl 1 rfl) ?_
        refine va_aldq (D := (dC, dI)) hx hb hK.1 hP 2 4 rfl rfl (show ¬ _ by decide) dX6_lose_15 ?_
        refine z_top (v2 := .ref (q 30)) (rfl) ?_
        refine zcS_i (w := (zX k q 0 (-1) 12 100 0 (fun _ => 0) aps 0 ar1 ar2 ar3 ar4 ar5 ar6 ar7 ph pp py wy fa fb cm0 ia0 0 0 ih0 in0 il0 tx0 sh0 cm1 ia1 0 0 ih1 in1 il1 tx1 sh1 cm2 ia2 0 0 ih2 in2 il2 tx2 sh2 cm3 ia3 0 0 ih3 in3 il3 tx3 sh3 (-1) 0 it0 (-1) 0 it1 (-1) 0 it2 (-1) 0 it3)) (wc := (zShe k (q 30) (q 31) it1 (-1) 0)) (va_runV (As := []) (rest := []) ⟨hx, hb, hml, hown, hts⟩ (c_X5_isLost l dC dI k (zTX k) (q 30) (q 31) it1 0 _ ) (cwV 0 hts (gzV wmt2_98 wmt2_99 wmt2_100 wmt1_7 wmt2_101) rfl rfl rfl (by decide +kernel) ⟨Nat.le_of_ble_eq_true rfl, Nat.le_of_ble_eq_true rfl⟩) (zp_V (ci := 5) (q0 := 30) hK hP hD [30, 31] rfl rfl rfl rfl) rfl rfl hl.1 rfl (lv_room (Nat.le_of_ble_eq_true rfl)) dX6_lose_16 ⟨Nat.le_of_ble_eq_true rfl, Nat.le_of_ble_eq_true rfl⟩) hP hD hS hA [30, 31] rfl (fun _ => rfl) (fun r_20 u_21 H locs w_22 hP hD hS => ?_)
        have hP : va_P (dC, dI) vwCl (zX k q 0 (-1) 12 100 0 (fun _ => 0) aps 0 ar1 ar2 ar3 ar4 ar5 ar6 ar7 ph pp py wy fa fb cm0 ia0 0 0 ih0 in0 il0 tx0 sh0 cm1 ia1 0 0 ih1 in1 il1 tx1 sh1 cm2 ia2 0 0 ih2 in2 il2 tx2 sh2 cm3 ia3 0 0 ih3 in3 il3 tx3 sh3 (-1) 0 it0 (-1) 0 it1 (-1) 0 it2 (-1) 0 it3) H := hP
        have hD : va_D A (zX k q 0 (-1) 12 100 0 (fun _ => 0) aps 0 ar1 ar2 ar3 ar4 ar5 ar6 ar7 ph pp py wy fa fb cm0 ia0 0 0 ih0 in0 il0 tx0 sh0 cm1 ia1 0 0 ih1 in1 il1 tx1 sh1 cm2 ia2 0 0 ih2 in2 il2 tx2 sh2 cm3 ia3 0 0 ih3 in3 il3 tx3 sh3 (-1) 0 it0 (-1) 0 it1 (-1) 0 it2 (-1) 0 it3) := hD
        have e_23 := w_22
        replace e_23 : r_20 = 1 := e_23
        subst e_23
        refine lv_if_eq (tgt := 30) hx hb dX6_lose_19 (by decide) (fun c_24 => ?_) (fun c_24 => ?_)
        · skip
          exact absurd c_24 (by decide)
        · skip
          refine lv_aload_n hx hb dX6_lose_22 rfl (lv_at hl 0 rfl) ?_
          refine lv_iconst (v := 1) hx hb dX6_lose_23 (by decide) ?_
          refine zcA_i (w := (zX k q 0 (-1) 12 100 0 (fun _ => 0) aps 0 ar1 ar2 ar3 ar4 ar5 ar6 ar7 ph pp py wy fa fb cm0 ia0 0 0 ih0 in0 il0 tx0 sh0 cm1 ia1 0 0 ih1 in1 il1 tx1 sh1 cm2 ia2 0 0 ih2 in2 il2 tx2 sh2 cm3 ia3 0 0 ih3 in3 il3 tx3 sh3 (-1) 0 it0 (-1) 0 it1 (-1) 0 it2 (-1) 0 it3)) (va_runV (As := [.int 1]) (rest := []) ⟨hx, hb, hml, hown, hts⟩ (c_X6_found_1 l dC dI k  q aps ar1 ar2 ar3 ar4 ar5 ar6 ar7 ph pp py wy fa fb cm0 ia0 ih0 in0 il0 tx0 sh0 cm1 ia1 ih1 in1 il1 tx1 sh1 cm2 ia2 ih2 in2 il2 tx2 sh2 cm3 ia3 ih3 in3 il3 tx3 sh3 it0 it1 it2 it3 _ ) (cwV 1 hts (gzV wmt2_102 wmt2_104 wmp1_7 wmt1_1 wmt2_105) rfl rfl rfl (by decide +kernel) ⟨Nat.le_of_ble_eq_true rfl, Nat.le_of_ble_eq_true rfl⟩) (zpA_V (ci := 6) (q0 := 0) hK hP hD rfl rfl) rfl rfl hl.1 rfl (lv_room (Nat.le_of_ble_eq_true rfl)) dX6_lose_24 ⟨Nat.le_of_ble_eq_true rfl, Nat.le_of_ble_eq_true rfl⟩) hD hS hA (fun r_25 u_26 H locs w_27 hP hD hS => ?_)
          obtain ⟨oxfi_28, rfl⟩ : ∃ z, z = u_26 := ⟨_, rfl⟩
          have hP : va_P (dC, dI) vwCl (zX k q 0 (-1) 12 100 oxfi_28 (fun _ => 0) aps 0 ar1 ar2 ar3 ar4 ar5 ar6 ar7 ph pp py wy fa fb cm0 ia0 0 0 ih0 in0 il0 tx0 sh0 cm1 ia1 0 0 ih1 in1 il1 tx1 sh1 cm2 ia2 0 0 ih2 in2 il2 tx2 sh2 cm3 ia3 0 0 ih3 in3 il3 tx3 sh3 (-1) 0 it0 (-1) 0 it1 (-1) 0 it2 (-1) 0 it3) H := hP
          have hD : va_D A (zX k q 0 (-1) 12 100 oxfi_28 (fun _ => 0) aps 0 ar1 ar2 ar3 ar4 ar5 ar6 ar7 ph pp py wy fa fb cm0 ia0 0 0 ih0 in0 il0 tx0 sh0 cm1 ia1 0 0 ih1 in1 il1 tx1 sh1 cm2 ia2 0 0 ih2 in2 il2 tx2 sh2 cm3 ia3 0 0 ih3 in3 il3 tx3 sh3 (-1) 0 it0 (-1) 0 it1 (-1) 0 it2 (-1) 0 it3) := hD
          have e_29 := w_27
          replace e_29 : r_25 = (-11) := e_29
          subst e_29
          refine lv_goto (tgt := 39) hx hb dX6_lose_27 (by decide) ?_
          exact W.iret (v := (-11)) hx hb hr (fun t ht hW => ⟨⟨(-11), (oxfi_28), rfl, (by first | assumption | with_reducible rfl | contradiction | exact (if_pos (by repeat' (first | assumption | decide | constructor))).symm | exact (if_neg (fun hh => absurd hh (by assumption))).symm | exact (if_neg (fun hh => absurd hh.1 (by assumption))).symm | exact (if_neg (fun hh => absurd hh.2 (by assumption))).symm | decide | (exfalso; simp only [zi_le, zi_lt, zi_eq, zi_n0, zi_n1, zi_n2, zi_n3, zi_n4, zi_n23, zi_n24, zi_n100, zi_n399, zi_n60, zi_n255, zi_n99, zi_nm1, zi_n30] at *; omega) | (simp_all; done)), ⟨by rw [ht]; exact hP, hD⟩⟩, hS.F ht⟩) hS.2.2 dX6_lose_39
      · skip
        exact absurd c_19 (by decide)
    · skip
      refine lv_if_ne (tgt := 10) hx hb dX6_lose_4 (by decide) (fun c_30 => ?_) (fun c_30 => ?_)
      · skip
        refine lv_aload_n hx hb dX6_lose_10 rfl (lv_at hl 0 rfl) ?_
        refine va_get (D := (dC, dI)) (ci := 6) (v := .ref (q 2)) (C := RX6) (T := TX6) (N := 12) hx hb hts hi6 hown hK.1 hP 0 rfl rfl 1 (by decide) (hts _ wmt1_171) (fun _ h9 => h9) rfl dX6_lose_11 ?_
        refine lv_iload_n hx hb dX6_lose_14 rfl (lv_at hl 1 rfl) ?_
        refine va_aldq (D := (dC, dI)) hx hb hK.1 hP 2 4 rfl rfl (show ¬ _ by decide) dX6_lose_15 ?_
        refine z_top (v2 := .ref (q 32)) (rfl) ?_
        refine zcS_i (w := (zX k q 0 (-1) 12 100 0 (fun _ => 0) aps 0 ar1 ar2 ar3 ar4 ar5 ar6 ar7 ph pp py wy fa fb cm0 ia0 0 0 ih0 in0 il0 tx0 sh0 cm1 ia1 0 0 ih1 in1 il1 tx1 sh1 cm2 ia2 0 0 ih2 in2 il2 tx2 sh2 cm3 ia3 0 0 ih3 in3 il3 tx3 sh3 (-1) 0 it0 (-1) 0 it1 (-1) 0 it2 (-1) 0 it3)) (wc := (zShe k (q 32) (q 33) it2 (-1) 0)) (va_runV (As := []) (rest := []) ⟨hx, hb, hml, hown, hts⟩ (c_X5_isLost l dC dI k (zTX k) (q 32) (q 33) it2 0 _ ) (cwV 0 hts (gzV wmt2_98 wmt2_99 wmt2_100 wmt1_7 wmt2_101) rfl rfl rfl (by decide +kernel) ⟨Nat.le_of_ble_eq_true rfl, Nat.le_of_ble_eq_true rfl⟩) (zp_V (ci := 5) (q0 := 32) hK hP hD [32, 33] rfl rfl rfl rfl) rfl rfl hl.1 rfl (lv_room (Nat.le_of_ble_eq_true rfl)) dX6_lose_16 ⟨Nat.le_of_ble_eq_true rfl, Nat.le_of_ble_eq_true rfl⟩) hP hD hS hA [32, 33] rfl (fun _ => rfl) (fun r_31 u_32 H locs w_33 hP hD hS => ?_)
        have hP : va_P (dC, dI) vwCl (zX k q 0 (-1) 12 100 0 (fun _ => 0) aps 0 ar1 ar2 ar3 ar4 ar5 ar6 ar7 ph pp py wy fa fb cm0 ia0 0 0 ih0 in0 il0 tx0 sh0 cm1 ia1 0 0 ih1 in1 il1 tx1 sh1 cm2 ia2 0 0 ih2 in2 il2 tx2 sh2 cm3 ia3 0 0 ih3 in3 il3 tx3 sh3 (-1) 0 it0 (-1) 0 it1 (-1) 0 it2 (-1) 0 it3) H := hP
        have hD : va_D A (zX k q 0 (-1) 12 100 0 (fun _ => 0) aps 0 ar1 ar2 ar3 ar4 ar5 ar6 ar7 ph pp py wy fa fb cm0 ia0 0 0 ih0 in0 il0 tx0 sh0 cm1 ia1 0 0 ih1 in1 il1 tx1 sh1 cm2 ia2 0 0 ih2 in2 il2 tx2 sh2 cm3 ia3 0 0 ih3 in3 il3 tx3 sh3 (-1) 0 it0 (-1) 0 it1 (-1) 0 it2 (-1) 0 it3) := hD
        have e_34 := w_33
        replace e_34 : r_31 = 1 := e_34
        subst e_34
        refine lv_if_eq (tgt := 30) hx hb dX6_lose_19 (by decide) (fun c_35 => ?_) (fun c_35 => ?_)
        · skip
          exact absurd c_35 (by decide)
        · skip
          refine lv_aload_n hx hb dX6_lose_22 rfl (lv_at hl 0 rfl) ?_
          refine lv_iconst (v := 1) hx hb dX6_lose_23 (by decide) ?_
          refine zcA_i (w := (zX k q 0 (-1) 12 100 0 (fun _ => 0) aps 0 ar1 ar2 ar3 ar4 ar5 ar6 ar7 ph pp py wy fa fb cm0 ia0 0 0 ih0 in0 il0 tx0 sh0 cm1 ia1 0 0 ih1 in1 il1 tx1 sh1 cm2 ia2 0 0 ih2 in2 il2 tx2 sh2 cm3 ia3 0 0 ih3 in3 il3 tx3 sh3 (-1) 0 it0 (-1) 0 it1 (-1) 0 it2 (-1) 0 it3)) (va_runV (As := [.int 1]) (rest := []) ⟨hx, hb, hml, hown, hts⟩ (c_X6_found_1 l dC dI k  q aps ar1 ar2 ar3 ar4 ar5 ar6 ar7 ph pp py wy fa fb cm0 ia0 ih0 in0 il0 tx0 sh0 cm1 ia1 ih1 in1 il1 tx1 sh1 cm2 ia2 ih2 in2 il2 tx2 sh2 cm3 ia3 ih3 in3 il3 tx3 sh3 it0 it1 it2 it3 _ ) (cwV 1 hts (gzV wmt2_102 wmt2_104 wmp1_7 wmt1_1 wmt2_105) rfl rfl rfl (by decide +kernel) ⟨Nat.le_of_ble_eq_true rfl, Nat.le_of_ble_eq_true rfl⟩) (zpA_V (ci := 6) (q0 := 0) hK hP hD rfl rfl) rfl rfl hl.1 rfl (lv_room (Nat.le_of_ble_eq_true rfl)) dX6_lose_24 ⟨Nat.le_of_ble_eq_true rfl, Nat.le_of_ble_eq_true rfl⟩) hD hS hA (fun r_36 u_37 H locs w_38 hP hD hS => ?_)
          obtain ⟨oxfi_39, rfl⟩ : ∃ z, z = u_37 := ⟨_, rfl⟩
          have hP : va_P (dC, dI) vwCl (zX k q 0 (-1) 12 100 oxfi_39 (fun _ => 0) aps 0 ar1 ar2 ar3 ar4 ar5 ar6 ar7 ph pp py wy fa fb cm0 ia0 0 0 ih0 in0 il0 tx0 sh0 cm1 ia1 0 0 ih1 in1 il1 tx1 sh1 cm2 ia2 0 0 ih2 in2 il2 tx2 sh2 cm3 ia3 0 0 ih3 in3 il3 tx3 sh3 (-1) 0 it0 (-1) 0 it1 (-1) 0 it2 (-1) 0 it3) H := hP
          have hD : va_D A (zX k q 0 (-1) 12 100 oxfi_39 (fun _ => 0) aps 0 ar1 ar2 ar3 ar4 ar5 ar6 ar7 ph pp py wy fa fb cm0 ia0 0 0 ih0 in0 il0 tx0 sh0 cm1 ia1 0 0 ih1 in1 il1 tx1 sh1 cm2 ia2 0 0 ih2 in2 il2 tx2 sh2 cm3 ia3 0 0 ih3 in3 il3 tx3 sh3 (-1) 0 it0 (-1) 0 it1 (-1) 0 it2 (-1) 0 it3) := hD
          have e_40 := w_38
          replace e_40 : r_36 = (-11) := e_40
          subst e_40
          refine lv_goto (tgt := 39) hx hb dX6_lose_27 (by decide) ?_
          exact W.iret (v := (-11)) hx hb hr (fun t ht hW => ⟨⟨(-11), (oxfi_39), rfl, (by first | assumption | with_reducible rfl | contradiction | exact (if_pos (by repeat' (first | assumption | decide | constructor))).symm | exact (if_neg (fun hh => absurd hh (by assumption))).symm | exact (if_neg (fun hh => absurd hh.1 (by assumption))).symm | exact (if_neg (fun hh => absurd hh.2 (by assumption))).symm | decide | (exfalso; simp only [zi_le, zi_lt, zi_eq, zi_n0, zi_n1, zi_n2, zi_n3, zi_n4, zi_n23, zi_n24, zi_n100, zi_n399, zi_n60, zi_n255, zi_n99, zi_nm1, zi_n30] at *; omega) | (simp_all; done)), ⟨by rw [ht]; exact hP, hD⟩⟩, hS.F ht⟩) hS.2.2 dX6_lose_39
      · skip
        exact absurd c_30 (by decide)
    · skip
      refine lv_if_ne (tgt := 10) hx hb dX6_lose_4 (by decide) (fun c_41 => ?_) (fun c_41 => ?_)
      · skip
        refine lv_aload_n hx hb dX6_lose_10 rfl (lv_at hl 0 rfl) ?_
        refine va_get (D := (dC, dI)) (ci := 6) (v := .ref (q 2)) (C := RX6) (T := TX6) (N := 12) hx hb hts hi6 hown hK.1 hP 0 rfl rfl 1 (by decide) (hts _ wmt1_171) (fun _ h9 => h9) rfl dX6_lose_11 ?_
        refine lv_iload_n hx hb dX6_lose_14 rfl (lv_at hl 1 rfl) ?_
        refine va_aldq (D := (dC, dI)) hx hb hK.1 hP 2 4 rfl rfl (show ¬ _ by decide) dX6_lose_15 ?_
        refine z_top (v2 := .ref (q 34)) (rfl) ?_
        refine zcS_i (w := (zX k q 0 (-1) 12 100 0 (fun _ => 0) aps 0 ar1 ar2 ar3 ar4 ar5 ar6 ar7 ph pp py wy fa fb cm0 ia0 0 0 ih0 in0 il0 tx0 sh0 cm1 ia1 0 0 ih1 in1 il1 tx1 sh1 cm2 ia2 0 0 ih2 in2 il2 tx2 sh2 cm3 ia3 0 0 ih3 in3 il3 tx3 sh3 (-1) 0 it0 (-1) 0 it1 (-1) 0 it2 (-1) 0 it3)) (wc := (zShe k (q 34) (q 35) it3 (-1) 0)) (va_runV (As := []) (rest := []) ⟨hx, hb, hml, hown, hts⟩ (c_X5_isLost l dC dI k (zTX k) (q 34) (q 35) it3 0 _ ) (cwV 0 hts (gzV wmt2_98 wmt2_99 wmt2_100 wmt1_7 wmt2_101) rfl rfl rfl (by decide +kernel) ⟨Nat.le_of_ble_eq_true rfl, Nat.le_of_ble_eq_true rfl⟩) (zp_V (ci := 5) (q0 := 34) hK hP hD [34, 35] rfl rfl rfl rfl) rfl rfl hl.1 rfl (lv_room (Nat.le_of_ble_eq_true rfl)) dX6_lose_16 ⟨Nat.le_of_ble_eq_true rfl, Nat.le_of_ble_eq_true rfl⟩) hP hD hS hA [34, 35] rfl (fun _ => rfl) (fun r_42 u_43 H locs w_44 hP hD hS => ?_)
        have hP : va_P (dC, dI) vwCl (zX k q 0 (-1) 12 100 0 (fun _ => 0) aps 0 ar1 ar2 ar3 ar4 ar5 ar6 ar7 ph pp py wy fa fb cm0 ia0 0 0 ih0 in0 il0 tx0 sh0 cm1 ia1 0 0 ih1 in1 il1 tx1 sh1 cm2 ia2 0 0 ih2 in2 il2 tx2 sh2 cm3 ia3 0 0 ih3 in3 il3 tx3 sh3 (-1) 0 it0 (-1) 0 it1 (-1) 0 it2 (-1) 0 it3) H := hP
        have hD : va_D A (zX k q 0 (-1) 12 100 0 (fun _ => 0) aps 0 ar1 ar2 ar3 ar4 ar5 ar6 ar7 ph pp py wy fa fb cm0 ia0 0 0 ih0 in0 il0 tx0 sh0 cm1 ia1 0 0 ih1 in1 il1 tx1 sh1 cm2 ia2 0 0 ih2 in2 il2 tx2 sh2 cm3 ia3 0 0 ih3 in3 il3 tx3 sh3 (-1) 0 it0 (-1) 0 it1 (-1) 0 it2 (-1) 0 it3) := hD
        have e_45 := w_44
        replace e_45 : r_42 = 1 := e_45
        subst e_45
        refine lv_if_eq (tgt := 30) hx hb dX6_lose_19 (by decide) (fun c_46 => ?_) (fun c_46 => ?_)
        · skip
          exact absurd c_46 (by decide)
        · skip
          refine lv_aload_n hx hb dX6_lose_22 rfl (lv_at hl 0 rfl) ?_
          refine lv_iconst (v := 1) hx hb dX6_lose_23 (by decide) ?_
          refine zcA_i (w := (zX k q 0 (-1) 12 100 0 (fun _ => 0) aps 0 ar1 ar2 ar3 ar4 ar5 ar6 ar7 ph pp py wy fa fb cm0 ia0 0 0 ih0 in0 il0 tx0 sh0 cm1 ia1 0 0 ih1 in1 il1 tx1 sh1 cm2 ia2 0 0 ih2 in2 il2 tx2 sh2 cm3 ia3 0 0 ih3 in3 il3 tx3 sh3 (-1) 0 it0 (-1) 0 it1 (-1) 0 it2 (-1) 0 it3)) (va_runV (As := [.int 1]) (rest := []) ⟨hx, hb, hml, hown, hts⟩ (c_X6_found_1 l dC dI k  q aps ar1 ar2 ar3 ar4 ar5 ar6 ar7 ph pp py wy fa fb cm0 ia0 ih0 in0 il0 tx0 sh0 cm1 ia1 ih1 in1 il1 tx1 sh1 cm2 ia2 ih2 in2 il2 tx2 sh2 cm3 ia3 ih3 in3 il3 tx3 sh3 it0 it1 it2 it3 _ ) (cwV 1 hts (gzV wmt2_102 wmt2_104 wmp1_7 wmt1_1 wmt2_105) rfl rfl rfl (by decide +kernel) ⟨Nat.le_of_ble_eq_true rfl, Nat.le_of_ble_eq_true rfl⟩) (zpA_V (ci := 6) (q0 := 0) hK hP hD rfl rfl) rfl rfl hl.1 rfl (lv_room (Nat.le_of_ble_eq_true rfl)) dX6_lose_24 ⟨Nat.le_of_ble_eq_true rfl, Nat.le_of_ble_eq_true rfl⟩) hD hS hA (fun r_47 u_48 H locs w_49 hP hD hS => ?_)
          obtain ⟨oxfi_50, rfl⟩ : ∃ z, z = u_48 := ⟨_, rfl⟩
          have hP : va_P (dC, dI) vwCl (zX k q 0 (-1) 12 100 oxfi_50 (fun _ => 0) aps 0 ar1 ar2 ar3 ar4 ar5 ar6 ar7 ph pp py wy fa fb cm0 ia0 0 0 ih0 in0 il0 tx0 sh0 cm1 ia1 0 0 ih1 in1 il1 tx1 sh1 cm2 ia2 0 0 ih2 in2 il2 tx2 sh2 cm3 ia3 0 0 ih3 in3 il3 tx3 sh3 (-1) 0 it0 (-1) 0 it1 (-1) 0 it2 (-1) 0 it3) H := hP
          have hD : va_D A (zX k q 0 (-1) 12 100 oxfi_50 (fun _ => 0) aps 0 ar1 ar2 ar3 ar4 ar5 ar6 ar7 ph pp py wy fa fb cm0 ia0 0 0 ih0 in0 il0 tx0 sh0 cm1 ia1 0 0 ih1 in1 il1 tx1 sh1 cm2 ia2 0 0 ih2 in2 il2 tx2 sh2 cm3 ia3 0 0 ih3 in3 il3 tx3 sh3 (-1) 0 it0 (-1) 0 it1 (-1) 0 it2 (-1) 0 it3) := hD
          have e_51 := w_49
          replace e_51 : r_47 = (-11) := e_51
          subst e_51
          refine lv_goto (tgt := 39) hx hb dX6_lose_27 (by decide) ?_
          exact W.iret (v := (-11)) hx hb hr (fun t ht hW => ⟨⟨(-11), (oxfi_50), rfl, (by first | assumption | with_reducible rfl | contradiction | exact (if_pos (by repeat' (first | assumption | decide | constructor))).symm | exact (if_neg (fun hh => absurd hh (by assumption))).symm | exact (if_neg (fun hh => absurd hh.1 (by assumption))).symm | exact (if_neg (fun hh => absurd hh.2 (by assumption))).symm | decide | (exfalso; simp only [zi_le, zi_lt, zi_eq, zi_n0, zi_n1, zi_n2, zi_n3, zi_n4, zi_n23, zi_n24, zi_n100, zi_n399, zi_n60, zi_n255, zi_n99, zi_nm1, zi_n30] at *; omega) | (simp_all; done)), ⟨by rw [ht]; exact hP, hD⟩⟩, hS.F ht⟩) hS.2.2 dX6_lose_39
      · skip
        exact absurd c_41 (by decide)
  · skip
    replace e_7 : r_1 = 0 := e_7
    subst e_7
    replace h_6 : ¬ (0 ≤ (z : Int32) ∧ (z : Int32) ≤ 3) := h_6
    refine lv_if_ne (tgt := 10) hx hb dX6_lose_4 (by decide) (fun c_52 => ?_) (fun c_52 => ?_)
    · skip
      exact absurd c_52 (by decide)
    · skip
      refine lv_bipush (v := (-2)) hx hb dX6_lose_7 (by decide) ?_
      exact W.iret (v := (-2)) hx hb hr (fun t ht hW => ⟨⟨(-2), (0), rfl, (by first | assumption | with_reducible rfl | contradiction | exact (if_pos (by repeat' (first | assumption | decide | constructor))).symm | exact (if_neg (fun hh => absurd hh (by assumption))).symm | exact (if_neg (fun hh => absurd hh.1 (by assumption))).symm | exact (if_neg (fun hh => absurd hh.2 (by assumption))).symm | decide | (exfalso; simp only [zi_le, zi_lt, zi_eq, zi_n0, zi_n1, zi_n2, zi_n3, zi_n4, zi_n23, zi_n24, zi_n100, zi_n399, zi_n60, zi_n255, zi_n99, zi_nm1, zi_n30] at *; omega) | (simp_all; done)), ⟨by rw [ht]; exact hP, hD⟩⟩, hS.F ht⟩) hS.2.2 dX6_lose_9
set_option maxHeartbeats 4000000 in
set_option maxRecDepth 100000 in
theorem c_X6_put (l : Launch) (dC : Nat → ClassId) (dI : Nat → Nat → Nat) (k : Nat → ClassId)  (q : Nat → Nat) (aps : Int32) (ar1 : Nat → Int32) (ar2 : Nat → Int32) (ar3 : Nat → Int32) (ar4 : Nat → Int32) (ar5 : Nat → Int32) (ar6 : Nat → Int32) (ar7 : Nat → Int32) (ph : Int32) (pp : Int32) (py : Int32) (wy : Nat → Int64) (fa : Int64) (fb : Int64) (cm0 : Int64) (ia0 : Int32) (ih0 : Int32) (in0 : Int32) (il0 : Int32) (tx0 : Nat → Int32) (sh0 : Nat → Int64) (cm1 : Int64) (ia1 : Int32) (ih1 : Int32) (in1 : Int32) (il1 : Int32) (tx1 : Nat → Int32) (sh1 : Nat → Int64) (cm2 : Int64) (ia2 : Int32) (ih2 : Int32) (in2 : Int32) (il2 : Int32) (tx2 : Nat → Int32) (sh2 : Nat → Int64) (cm3 : Int64) (ia3 : Int32) (ih3 : Int32) (in3 : Int32) (il3 : Int32) (tx3 : Nat → Int32) (sh3 : Nat → Int64) (it0 : Nat → Int32) (it1 : Nat → Int32) (it2 : Nat → Int32) (it3 : Nat → Int32) (z : Int32) (t : Int32) (i : Int32) (v : Int32) (sz : Nat)  : Met l yX6_put (wz yX6_put cX6_put 6 (some .int)) ({ frames := 2, cells := 0, slots := 0, locals := 42 }) (va_Pc [.ref (q 0), .int z, .int t, .int i, .int v] (zPre dC dI k (zTX k) (zX k q 0 (-1) 12 100 0 (fun _ => 0) aps 0 ar1 ar2 ar3 ar4 ar5 ar6 ar7 ph pp py wy fa fb cm0 ia0 0 0 ih0 in0 il0 tx0 sh0 cm1 ia1 0 0 ih1 in1 il1 tx1 sh1 cm2 ia2 0 0 ih2 in2 il2 tx2 sh2 cm3 ia3 0 0 ih3 in3 il3 tx3 sh3 (-1) 0 it0 (-1) 0 it1 (-1) 0 it2 (-1) 0 it3) sz)) (va_Qi (fun (r : Int32) (u : Int32) => (r = if (0 ≤ (z : Int32) ∧ (z : Int32) ≤ 3) ∧ (0 ≤ (t : Int32) ∧ (t : Int32) ≤ 2) then (-11) else (-2))) (fun u t => zPost dC dI (va_A (zX k q 0 (-1) 12 100 0 (fun _ => 0) aps 0 ar1 ar2 ar3 ar4 ar5 ar6 ar7 ph pp py wy fa fb cm0 ia0 0 0 ih0 in0 il0 tx0 sh0 cm1 ia1 0 0 ih1 in1 il1 tx1 sh1 cm2 ia2 0 0 ih2 in2 il2 tx2 sh2 cm3 ia3 0 0 ih3 in3 il3 tx3 sh3 (-1) 0 it0 (-1) 0 it1 (-1) 0 it2 (-1) 0 it3) sz) (zX k q 0 (-1) 12 100 u (fun _ => 0) aps 0 ar1 ar2 ar3 ar4 ar5 ar6 ar7 ph pp py wy fa fb cm0 ia0 0 0 ih0 in0 il0 tx0 sh0 cm1 ia1 0 0 ih1 in1 il1 tx1 sh1 cm2 ia2 0 0 ih2 in2 il2 tx2 sh2 cm3 ia3 0 0 ih3 in3 il3 tx3 sh3 (-1) 0 it0 (-1) 0 it1 (-1) 0 it2 (-1) 0 it3) t) (va_A (zX k q 0 (-1) 12 100 0 (fun _ => 0) aps 0 ar1 ar2 ar3 ar4 ar5 ar6 ar7 ph pp py wy fa fb cm0 ia0 0 0 ih0 in0 il0 tx0 sh0 cm1 ia1 0 0 ih1 in1 il1 tx1 sh1 cm2 ia2 0 0 ih2 in2 il2 tx2 sh2 cm3 ia3 0 0 ih3 in3 il3 tx3 sh3 (-1) 0 it0 (-1) 0 it1 (-1) 0 it2 (-1) 0 it3) sz)) 0 0 (va_A (zX k q 0 (-1) 12 100 0 (fun _ => 0) aps 0 ar1 ar2 ar3 ar4 ar5 ar6 ar7 ph pp py wy fa fb cm0 ia0 0 0 ih0 in0 il0 tx0 sh0 cm1 ia1 0 0 ih1 in1 il1 tx1 sh1 cm2 ia2 0 0 ih2 in2 il2 tx2 sh2 cm3 ia3 0 0 ih3 in3 il3 tx3 sh3 (-1) 0 it0 (-1) 0 it1 (-1) 0 it2 (-1) 0 it3) sz) := by
  refine Met.ofW (cc := cX6_put) (maxL := 6) (ret := (some .int)) (by decide) rfl ?_
  intro p e s m args below meth c s₁ B hml hv
  obtain ⟨rfl, hsz, hP, hK, hD0⟩ := hv
  have hx := B.exec
  have hb := B.bytes
  have hr := B.returns
  have hts : ∀ w ∈ zw, w.before _ s = true := fun w h => atoms_spec (ws := (wz yX6_put cX6_put 6 (some .int))) B.pre w (List.mem_cons_of_mem _ h)
  have hown : s.vm.findClass RX6 = some m.cls := findClass_of_methodNamed B.named
  have hlocks := B.notSynchronized
  subst hsz
  have hi6 := inw6
  have hD := hD0.self (sz := s.heap.size)
  generalize hAe : va_A (zX k q 0 (-1) 12 100 0 (fun _ => 0) aps 0 ar1 ar2 ar3 ar4 ar5 ar6 ar7 ph pp py wy fa fb cm0 ia0 0 0 ih0 in0 il0 tx0 sh0 cm1 ia1 0 0 ih1 in1 il1 tx1 sh1 cm2 ia2 0 0 ih2 in2 il2 tx2 sh2 cm3 ia3 0 0 ih3 in3 il3 tx3 sh3 (-1) 0 it0 (-1) 0 it1 (-1) 0 it2 (-1) 0 it3) s.heap.size = A at hD ⊢
  have hA : ∀ q : Nat, s.heap.size ≤ q → A q := fun q h => by rw [← hAe]; exact Or.inr h
  have hl := lv_entry ([.ref (q 0), .int z, .int t, .int i, .int v]) (n := 6) (Nat.le_of_ble_eq_true rfl)
  rw [lg_entry_eq]
  generalize (lg_sl ([.ref (q 0), .int z, .int t, .int i, .int v]) ++ List.replicate (6 - (lg_sl ([.ref (q 0), .int z, .int t, .int i, .int v])).length) Slot.unset).toArray = ls at hl ⊢
  have hl : lv_has ls 6 [(0, .ref (q 0)), (1, .int z), (2, .int t), (3, .int i), (4, .int v)] := hl
  refine z_start (w := (zX k q 0 (-1) 12 100 0 (fun _ => 0) aps 0 ar1 ar2 ar3 ar4 ar5 ar6 ar7 ph pp py wy fa fb cm0 ia0 0 0 ih0 in0 il0 tx0 sh0 cm1 ia1 0 0 ih1 in1 il1 tx1 sh1 cm2 ia2 0 0 ih2 in2 il2 tx2 sh2 cm3 ia3 0 0 ih3 in3 il3 tx3 sh3 (-1) 0 it0 (-1) 0 it1 (-1) 0 it2 (-1) 0 it3)) hP hD (fun H locs hP hD hS => ?_)
  refine lv_iload_n hx hb dX6_put_0 rfl (lv_at hl 1 rfl) ?_
  refine zc0_i (w := (zX k q 0 (-1) 12 100 0 (fun _ => 0) aps 0 ar1 ar2 ar3 ar4 ar5 ar6 ar7 ph pp py wy fa fb cm0 ia0 0 0 ih0 in0 il0 tx0 sh0 cm1 ia1 0 0 ih1 in1 il1 tx1 sh1 cm2 ia2 0 0 ih2 in2 il2 tx2 sh2 cm3 ia3 0 0 ih3 in3 il3 tx3 sh3 (-1) 0 it0 (-1) 0 it1 (-1) 0 it2 (-1) 0 it3)) (va_runS (As := [.int z]) (rest := []) ⟨hx, hb, hml, hown, hts⟩ (c_X6_isSheet l dC dI k (zTX k) z _ ) (va_cwS 1 hts (gzS wmt2_95 wmt2_96 wmt1_1 wmt2_97) rfl rfl rfl (by decide +kernel) ⟨Nat.le_of_ble_eq_true rfl, Nat.le_of_ble_eq_true rfl⟩) (zp0_S hK) rfl rfl hl.1 rfl (lv_room (Nat.le_of_ble_eq_true rfl)) dX6_put_1 ⟨Nat.le_of_ble_eq_true rfl, Nat.le_of_ble_eq_true rfl⟩) hP hS hA (fun r_1 u_2 H locs w_3 hP hS => ?_)
  rcases w_3 with ⟨e_5, h_4⟩ | ⟨e_7, h_6⟩
  · skip
    replace e_5 : r_1 = 1 := e_5
    subst e_5
    replace h_4 : 0 ≤ (z : Int32) ∧ (z : Int32) ≤ 3 := h_4
    rcases zi_4 h_4 with rfl | rfl | rfl | rfl
    · skip
      refine lv_if_eq (tgt := 14) hx hb dX6_put_4 (by decide) (fun c_8 => ?_) (fun c_8 => ?_)
      · skip
        exact absurd c_8 (by decide)
      · skip
        refine lv_iload_n hx hb dX6_put_7 rfl (lv_at hl 2 rfl) ?_
        refine zc0_i (w := (zX k q 0 (-1) 12 100 0 (fun _ => 0) aps 0 ar1 ar2 ar3 ar4 ar5 ar6 ar7 ph pp py wy fa fb cm0 ia0 0 0 ih0 in0 il0 tx0 sh0 cm1 ia1 0 0 ih1 in1 il1 tx1 sh1 cm2 ia2 0 0 ih2 in2 il2 tx2 sh2 cm3 ia3 0 0 ih3 in3 il3 tx3 sh3 (-1) 0 it0 (-1) 0 it1 (-1) 0 it2 (-1) 0 it3)) (va_runS (As := [.int t]) (rest := []) ⟨hx, hb, hml, hown, hts⟩ (c_X6_isType l dC dI k (zTX k) t _ ) (va_cwS 1 hts (gzS wmt3_89 wmt3_90 wmt1_1 wmt3_91) rfl rfl rfl (by decide +kernel) ⟨Nat.le_of_ble_eq_true rfl, Nat.le_of_ble_eq_true rfl⟩) (zp0_S hK) rfl rfl hl.1 rfl (lv_room (Nat.le_of_ble_eq_true rfl)) dX6_put_8 ⟨Nat.le_of_ble_eq_true rfl, Nat.le_of_ble_eq_true rfl⟩) hP hS hA (fun r_9 u_10 H locs w_11 hP hS => ?_)
        rcases w_11 with ⟨e_13, h_12⟩ | ⟨e_15, h_14⟩
        · skip
          replace e_13 : r_9 = 1 := e_13
          subst e_13
          replace h_12 : 0 ≤ (t : Int32) ∧ (t : Int32) ≤ 2 := h_12
          refine lv_if_ne (tgt := 17) hx hb dX6_put_11 (by decide) (fun c_16 => ?_) (fun c_16 => ?_)
          · skip
            refine lv_aload_n hx hb dX6_put_17 rfl (lv_at hl 0 rfl) ?_
            refine va_get (D := (dC, dI)) (ci := 6) (v := .ref (q 2)) (C := RX6) (T := TX6) (N := 12) hx hb hts hi6 hown hK.1 hP 0 rfl rfl 1 (by decide) (hts _ wmt1_171) (fun _ h9 => h9) rfl dX6_put_18 ?_
            refine lv_iload_n hx hb dX6_put_21 rfl (lv_at hl 1 rfl) ?_
            refine va_aldq (D := (dC, dI)) hx hb hK.1 hP 2 4 rfl rfl (show ¬ _ by decide) dX6_put_22 ?_
            refine z_top (v2 := .ref (q 28)) (rfl) ?_
            refine lv_iload_n hx hb dX6_put_23 rfl (lv_at hl 2 rfl) ?_
            refine lv_iload_n hx hb dX6_put_24 rfl (lv_at hl 3 rfl) ?_
            refine zcS_i (w := (zX k q 0 (-1) 12 100 0 (fun _ => 0) aps 0 ar1 ar2 ar3 ar4 ar5 ar6 ar7 ph pp py wy fa fb cm0 ia0 0 0 ih0 in0 il0 tx0 sh0 cm1 ia1 0 0 ih1 in1 il1 tx1 sh1 cm2 ia2 0 0 ih2 in2 il2 tx2 sh2 cm3 ia3 0 0 ih3 in3 il3 tx3 sh3 (-1) 0 it0 (-1) 0 it1 (-1) 0 it2 (-1) 0 it3)) (wc := (zShe k (q 28) (q 29) it0 (-1) 0)) (va_runS (As := [.ref (q 28), .int t, .int i]) (rest := []) ⟨hx, hb, hml, hown, hts⟩ (c_X6_itemFinding l dC dI k (zTX k) (q 28) (q 29) it0 0 t i _ ) (va_cwS 3 hts (gzS wmt3_109 wmt3_110 wmt1_1 wmt3_111) rfl rfl rfl (by decide +kernel) ⟨Nat.le_of_ble_eq_true rfl, Nat.le_of_ble_eq_true rfl⟩) (zp_S hK hP hD [28, 29] rfl rfl) rfl rfl hl.1 rfl (lv_room (Nat.le_of_ble_eq_true rfl)) dX6_put_25 ⟨Nat.le_of_ble_eq_true rfl, Nat.le_of_ble_eq_true rfl⟩) hP hD hS hA [28, 29] rfl (fun _ => rfl) (fun r_17 u_18 H locs w_19 hP hD hS => ?_)
            have hP : va_P (dC, dI) vwCl (zX k q 0 (-1) 12 100 0 (fun _ => 0) aps 0 ar1 ar2 ar3 ar4 ar5 ar6 ar7 ph pp py wy fa fb cm0 ia0 0 0 ih0 in0 il0 tx0 sh0 cm1 ia1 0 0 ih1 in1 il1 tx1 sh1 cm2 ia2 0 0 ih2 in2 il2 tx2 sh2 cm3 ia3 0 0 ih3 in3 il3 tx3 sh3 (-1) 0 it0 (-1) 0 it1 (-1) 0 it2 (-1) 0 it3) H := hP
            have hD : va_D A (zX k q 0 (-1) 12 100 0 (fun _ => 0) aps 0 ar1 ar2 ar3 ar4 ar5 ar6 ar7 ph pp py wy fa fb cm0 ia0 0 0 ih0 in0 il0 tx0 sh0 cm1 ia1 0 0 ih1 in1 il1 tx1 sh1 cm2 ia2 0 0 ih2 in2 il2 tx2 sh2 cm3 ia3 0 0 ih3 in3 il3 tx3 sh3 (-1) 0 it0 (-1) 0 it1 (-1) 0 it2 (-1) 0 it3) := hD
            have e_20 := w_19
            replace e_20 : r_17 = 1 := e_20
            subst e_20
            refine lv_istore (lv' := [(5, .int 1), (0, .ref (q 0)), (1, .int 0), (2, .int t), (3, .int i), (4, .int v)]) hx hb dX6_put_28 hl (by decide) rfl (fun ls hl => ?_)
            refine lv_iload hx hb dX6_put_30 (lv_at hl 0 rfl) ?_
            refine lv_if_eq (tgt := 42) hx hb dX6_put_32 (by decide) (fun c_21 => ?_) (fun c_21 => ?_)
            · skip
              exact absurd c_21 (by decide)
            · skip
              refine lv_aload_n hx hb dX6_put_35 rfl (lv_at hl 1 rfl) ?_
              refine lv_iload hx hb dX6_put_36 (lv_at hl 0 rfl) ?_
              refine zcA_i (w := (zX k q 0 (-1) 12 100 0 (fun _ => 0) aps 0 ar1 ar2 ar3 ar4 ar5 ar6 ar7 ph pp py wy fa fb cm0 ia0 0 0 ih0 in0 il0 tx0 sh0 cm1 ia1 0 0 ih1 in1 il1 tx1 sh1 cm2 ia2 0 0 ih2 in2 il2 tx2 sh2 cm3 ia3 0 0 ih3 in3 il3 tx3 sh3 (-1) 0 it0 (-1) 0 it1 (-1) 0 it2 (-1) 0 it3)) (va_runV (As := [.int 1]) (rest := []) ⟨hx, hb, hml, hown, hts⟩ (c_X6_found_1 l dC dI k  q aps ar1 ar2 ar3 ar4 ar5 ar6 ar7 ph pp py wy fa fb cm0 ia0 ih0 in0 il0 tx0 sh0 cm1 ia1 ih1 in1 il1 tx1 sh1 cm2 ia2 ih2 in2 il2 tx2 sh2 cm3 ia3 ih3 in3 il3 tx3 sh3 it0 it1 it2 it3 _ ) (cwV 1 hts (gzV wmt2_102 wmt2_104 wmp1_7 wmt1_1 wmt2_105) rfl rfl rfl (by decide +kernel) ⟨Nat.le_of_ble_eq_true rfl, Nat.le_of_ble_eq_true rfl⟩) (zpA_V (ci := 6) (q0 := 0) hK hP hD rfl rfl) rfl rfl hl.1 rfl (lv_room (Nat.le_of_ble_eq_true rfl)) dX6_put_38 ⟨Nat.le_of_ble_eq_true rfl, Nat.le_of_ble_eq_true rfl⟩) hD hS hA (fun r_22 u_23 H locs w_24 hP hD hS => ?_)
              obtain ⟨oxfi_25, rfl⟩ : ∃ z, z = u_23 := ⟨_, rfl⟩
              have hP : va_P (dC, dI) vwCl (zX k q 0 (-1) 12 100 oxfi_25 (fun _ => 0) aps 0 ar1 ar2 ar3 ar4 ar5 ar6 ar7 ph pp py wy fa fb cm0 ia0 0 0 ih0 in0 il0 tx0 sh0 cm1 ia1 0 0 ih1 in1 il1 tx1 sh1 cm2 ia2 0 0 ih2 in2 il2 tx2 sh2 cm3 ia3 0 0 ih3 in3 il3 tx3 sh3 (-1) 0 it0 (-1) 0 it1 (-1) 0 it2 (-1) 0 it3) H := hP
              have hD : va_D A (zX k q 0 (-1) 12 100 oxfi_25 (fun _ => 0) aps 0 ar1 ar2 ar3 ar4 ar5 ar6 ar7 ph pp py wy fa fb cm0 ia0 0 0 ih0 in0 il0 tx0 sh0 cm1 ia1 0 0 ih1 in1 il1 tx1 sh1 cm2 ia2 0 0 ih2 in2 il2 tx2 sh2 cm3 ia3 0 0 ih3 in3 il3 tx3 sh3 (-1) 0 it0 (-1) 0 it1 (-1) 0 it2 (-1) 0 it3) := hD
              have e_26 := w_24
              replace e_26 : r_22 = (-11) := e_26
              subst e_26
              exact W.iret (v := (-11)) hx hb hr (fun t ht hW => ⟨⟨(-11), (oxfi_25), rfl, (by first | assumption | with_reducible rfl | contradiction | exact (if_pos (by repeat' (first | assumption | decide | constructor))).symm | exact (if_neg (fun hh => absurd hh (by assumption))).symm | exact (if_neg (fun hh => absurd hh.1 (by assumption))).symm | exact (if_neg (fun hh => absurd hh.1.1 (by assumption))).symm | exact (if_neg (fun hh => absurd hh.1.2 (by assumption))).symm | exact (if_neg (fun hh => absurd hh.2 (by assumption))).symm | exact (if_neg (fun hh => absurd hh.2.1 (by assumption))).symm | exact (if_neg (fun hh => absurd hh.2.2 (by assumption))).symm | decide | (exfalso; simp only [zi_le, zi_lt, zi_eq, zi_n0, zi_n1, zi_n2, zi_n3, zi_n4, zi_n23, zi_n24, zi_n100, zi_n399, zi_n60, zi_n255, zi_n99, zi_nm1, zi_n30] at *; omega) | (simp_all; done)), ⟨by rw [ht]; exact hP, hD⟩⟩, hS.F ht⟩) hS.2.2 dX6_put_41
          · skip
            exact absurd c_16 (by decide)
        · skip
          replace e_15 : r_9 = 0 := e_15
          subst e_15
          replace h_14 : ¬ (0 ≤ (t : Int32) ∧ (t : Int32) ≤ 2) := h_14
          refine lv_if_ne (tgt := 17) hx hb dX6_put_11 (by decide) (fun c_27 => ?_) (fun c_27 => ?_)
          · skip
            exact absurd c_27 (by decide)
          · skip
            refine lv_bipush (v := (-2)) hx hb dX6_put_14 (by decide) ?_
            exact W.iret (v := (-2)) hx hb hr (fun t ht hW => ⟨⟨(-2), (0), rfl, (by first | assumption | with_reducible rfl | contradiction | exact (if_pos (by repeat' (first | assumption | decide | constructor))).symm | exact (if_neg (fun hh => absurd hh (by assumption))).symm | exact (if_neg (fun hh => absurd hh.1 (by assumption))).symm | exact (if_neg (fun hh => absurd hh.1.1 (by assumption))).symm | exact (if_neg (fun hh => absurd hh.1.2 (by assumption))).symm | exact (if_neg (fun hh => absurd hh.2 (by assumption))).symm | exact (if_neg (fun hh => absurd hh.2.1 (by assumption))).symm | exact (if_neg (fun hh => absurd hh.2.2 (by assumption))).symm | decide | (exfalso; simp only [zi_le, zi_lt, zi_eq, zi_n0, zi_n1, zi_n2, zi_n3, zi_n4, zi_n23, zi_n24, zi_n100, zi_n399, zi_n60, zi_n255, zi_n99, zi_nm1, zi_n30] at *; omega) | (simp_all; done)), ⟨by rw [ht]; exact hP, hD⟩⟩, hS.F ht⟩) hS.2.2 dX6_put_16
    · skip
      refine lv_if_eq (tgt := 14) hx hb dX6_put_4 (by decide) (fun c_28 => ?_) (fun c_28 => ?_)
      · skip
        exact absurd c_28 (by decide)
      · skip
        refine lv_iload_n hx hb dX6_put_7 rfl (lv_at hl 2 rfl) ?_
        refine zc0_i (w := (zX k q 0 (-1) 12 100 0 (fun _ => 0) aps 0 ar1 ar2 ar3 ar4 ar5 ar6 ar7 ph pp py wy fa fb cm0 ia0 0 0 ih0 in0 il0 tx0 sh0 cm1 ia1 0 0 ih1 in1 il1 tx1 sh1 cm2 ia2 0 0 ih2 in2 il2 tx2 sh2 cm3 ia3 0 0 ih3 in3 il3 tx3 sh3 (-1) 0 it0 (-1) 0 it1 (-1) 0 it2 (-1) 0 it3)) (va_runS (As := [.int t]) (rest := []) ⟨hx, hb, hml, hown, hts⟩ (c_X6_isType l dC dI k (zTX k) t _ ) (va_cwS 1 hts (gzS wmt3_89 wmt3_90 wmt1_1 wmt3_91) rfl rfl rfl (by decide +kernel) ⟨Nat.le_of_ble_eq_true rfl, Nat.le_of_ble_eq_true rfl⟩) (zp0_S hK) rfl rfl hl.1 rfl (lv_room (Nat.le_of_ble_eq_true rfl)) dX6_put_8 ⟨Nat.le_of_ble_eq_true rfl, Nat.le_of_ble_eq_true rfl⟩) hP hS hA (fun r_29 u_30 H locs w_31 hP hS => ?_)
        rcases w_31 with ⟨e_33, h_32⟩ | ⟨e_35, h_34⟩
        · skip
          replace e_33 : r_29 = 1 := e_33
          subst e_33
          replace h_32 : 0 ≤ (t : Int32) ∧ (t : Int32) ≤ 2 := h_32
          refine lv_if_ne (tgt := 17) hx hb dX6_put_11 (by decide) (fun c_36 => ?_) (fun c_36 => ?_)
          · skip
            refine lv_aload_n hx hb dX6_put_17 rfl (lv_at hl 0 rfl) ?_
            refine va_get (D := (dC, dI)) (ci := 6) (v := .ref (q 2)) (C := RX6) (T := TX6) (N := 12) hx hb hts hi6 hown hK.1 hP 0 rfl rfl 1 (by decide) (hts _ wmt1_171) (fun _ h9 => h9) rfl dX6_put_18 ?_
            refine lv_iload_n hx hb dX6_put_21 rfl (lv_at hl 1 rfl) ?_
            refine va_aldq (D := (dC, dI)) hx hb hK.1 hP 2 4 rfl rfl (show ¬ _ by decide) dX6_put_22 ?_
            refine z_top (v2 := .ref (q 30)) (rfl) ?_
            refine lv_iload_n hx hb dX6_put_23 rfl (lv_at hl 2 rfl) ?_
            refine lv_iload_n hx hb dX6_put_24 rfl (lv_at hl 3 rfl) ?_
            refine zcS_i (w := (zX k q 0 (-1) 12 100 0 (fun _ => 0) aps 0 ar1 ar2 ar3 ar4 ar5 ar6 ar7 ph pp py wy fa fb cm0 ia0 0 0 ih0 in0 il0 tx0 sh0 cm1 ia1 0 0 ih1 in1 il1 tx1 sh1 cm2 ia2 0 0 ih2 in2 il2 tx2 sh2 cm3 ia3 0 0 ih3 in3 il3 tx3 sh3 (-1) 0 it0 (-1) 0 it1 (-1) 0 it2 (-1) 0 it3)) (wc := (zShe k (q 30) (q 31) it1 (-1) 0)) (va_runS (As := [.ref (q 30), .int t, .int i]) (rest := []) ⟨hx, hb, hml, hown, hts⟩ (c_X6_itemFinding l dC dI k (zTX k) (q 30) (q 31) it1 0 t i _ ) (va_cwS 3 hts (gzS wmt3_109 wmt3_110 wmt1_1 wmt3_111) rfl rfl rfl (by decide +kernel) ⟨Nat.le_of_ble_eq_true rfl, Nat.le_of_ble_eq_true rfl⟩) (zp_S hK hP hD [30, 31] rfl rfl) rfl rfl hl.1 rfl (lv_room (Nat.le_of_ble_eq_true rfl)) dX6_put_25 ⟨Nat.le_of_ble_eq_true rfl, Nat.le_of_ble_eq_true rfl⟩) hP hD hS hA [30, 31] rfl (fun _ => rfl) (fun r_37 u_38 H locs w_39 hP hD hS => ?_)
            have hP : va_P (dC, dI) vwCl (zX k q 0 (-1) 12 100 0 (fun _ => 0) aps 0 ar1 ar2 ar3 ar4 ar5 ar6 ar7 ph pp py wy fa fb cm0 ia0 0 0 ih0 in0 il0 tx0 sh0 cm1 ia1 0 0 ih1 in1 il1 tx1 sh1 cm2 ia2 0 0 ih2 in2 il2 tx2 sh2 cm3 ia3 0 0 ih3 in3 il3 tx3 sh3 (-1) 0 it0 (-1) 0 it1 (-1) 0 it2 (-1) 0 it3) H := hP
            have hD : va_D A (zX k q 0 (-1) 12 100 0 (fun _ => 0) aps 0 ar1 ar2 ar3 ar4 ar5 ar6 ar7 ph pp py wy fa fb cm0 ia0 0 0 ih0 in0 il0 tx0 sh0 cm1 ia1 0 0 ih1 in1 il1 tx1 sh1 cm2 ia2 0 0 ih2 in2 il2 tx2 sh2 cm3 ia3 0 0 ih3 in3 il3 tx3 sh3 (-1) 0 it0 (-1) 0 it1 (-1) 0 it2 (-1) 0 it3) := hD
            have e_40 := w_39
            replace e_40 : r_37 = 1 := e_40
            subst e_40
            refine lv_istore (lv' := [(5, .int 1), (0, .ref (q 0)), (1, .int 1), (2, .int t), (3, .int i), (4, .int v)]) hx hb dX6_put_28 hl (by decide) rfl (fun ls hl => ?_)
            refine lv_iload hx hb dX6_put_30 (lv_at hl 0 rfl) ?_
            refine lv_if_eq (tgt := 42) hx hb dX6_put_32 (by decide) (fun c_41 => ?_) (fun c_41 => ?_)
            · skip
              exact absurd c_41 (by decide)
            · skip
              refine lv_aload_n hx hb dX6_put_35 rfl (lv_at hl 1 rfl) ?_
              refine lv_iload hx hb dX6_put_36 (lv_at hl 0 rfl) ?_
              refine zcA_i (w := (zX k q 0 (-1) 12 100 0 (fun _ => 0) aps 0 ar1 ar2 ar3 ar4 ar5 ar6 ar7 ph pp py wy fa fb cm0 ia0 0 0 ih0 in0 il0 tx0 sh0 cm1 ia1 0 0 ih1 in1 il1 tx1 sh1 cm2 ia2 0 0 ih2 in2 il2 tx2 sh2 cm3 ia3 0 0 ih3 in3 il3 tx3 sh3 (-1) 0 it0 (-1) 0 it1 (-1) 0 it2 (-1) 0 it3)) (va_runV (As := [.int 1]) (rest := []) ⟨hx, hb, hml, hown, hts⟩ (c_X6_found_1 l dC dI k  q aps ar1 ar2 ar3 ar4 ar5 ar6 ar7 ph pp py wy fa fb cm0 ia0 ih0 in0 il0 tx0 sh0 cm1 ia1 ih1 in1 il1 tx1 sh1 cm2 ia2 ih2 in2 il2 tx2 sh2 cm3 ia3 ih3 in3 il3 tx3 sh3 it0 it1 it2 it3 _ ) (cwV 1 hts (gzV wmt2_102 wmt2_104 wmp1_7 wmt1_1 wmt2_105) rfl rfl rfl (by decide +kernel) ⟨Nat.le_of_ble_eq_true rfl, Nat.le_of_ble_eq_true rfl⟩) (zpA_V (ci := 6) (q0 := 0) hK hP hD rfl rfl) rfl rfl hl.1 rfl (lv_room (Nat.le_of_ble_eq_true rfl)) dX6_put_38 ⟨Nat.le_of_ble_eq_true rfl, Nat.le_of_ble_eq_true rfl⟩) hD hS hA (fun r_42 u_43 H locs w_44 hP hD hS => ?_)
              obtain ⟨oxfi_45, rfl⟩ : ∃ z, z = u_43 := ⟨_, rfl⟩
              have hP : va_P (dC, dI) vwCl (zX k q 0 (-1) 12 100 oxfi_45 (fun _ => 0) aps 0 ar1 ar2 ar3 ar4 ar5 ar6 ar7 ph pp py wy fa fb cm0 ia0 0 0 ih0 in0 il0 tx0 sh0 cm1 ia1 0 0 ih1 in1 il1 tx1 sh1 cm2 ia2 0 0 ih2 in2 il2 tx2 sh2 cm3 ia3 0 0 ih3 in3 il3 tx3 sh3 (-1) 0 it0 (-1) 0 it1 (-1) 0 it2 (-1) 0 it3) H := hP
              have hD : va_D A (zX k q 0 (-1) 12 100 oxfi_45 (fun _ => 0) aps 0 ar1 ar2 ar3 ar4 ar5 ar6 ar7 ph pp py wy fa fb cm0 ia0 0 0 ih0 in0 il0 tx0 sh0 cm1 ia1 0 0 ih1 in1 il1 tx1 sh1 cm2 ia2 0 0 ih2 in2 il2 tx2 sh2 cm3 ia3 0 0 ih3 in3 il3 tx3 sh3 (-1) 0 it0 (-1) 0 it1 (-1) 0 it2 (-1) 0 it3) := hD
              have e_46 := w_44
              replace e_46 : r_42 = (-11) := e_46
              subst e_46
              exact W.iret (v := (-11)) hx hb hr (fun t ht hW => ⟨⟨(-11), (oxfi_45), rfl, (by first | assumption | with_reducible rfl | contradiction | exact (if_pos (by repeat' (first | assumption | decide | constructor))).symm | exact (if_neg (fun hh => absurd hh (by assumption))).symm | exact (if_neg (fun hh => absurd hh.1 (by assumption))).symm | exact (if_neg (fun hh => absurd hh.1.1 (by assumption))).symm | exact (if_neg (fun hh => absurd hh.1.2 (by assumption))).symm | exact (if_neg (fun hh => absurd hh.2 (by assumption))).symm | exact (if_neg (fun hh => absurd hh.2.1 (by assumption))).symm | exact (if_neg (fun hh => absurd hh.2.2 (by assumption))).symm | decide | (exfalso; simp only [zi_le, zi_lt, zi_eq, zi_n0, zi_n1, zi_n2, zi_n3, zi_n4, zi_n23, zi_n24, zi_n100, zi_n399, zi_n60, zi_n255, zi_n99, zi_nm1, zi_n30] at *; omega) | (simp_all; done)), ⟨by rw [ht]; exact hP, hD⟩⟩, hS.F ht⟩) hS.2.2 dX6_put_41
          · skip
            exact absurd c_36 (by decide)
        · skip
          replace e_35 : r_29 = 0 := e_35
          subst e_35
          replace h_34 : ¬ (0 ≤ (t : Int32) ∧ (t : Int32) ≤ 2) := h_34
          refine lv_if_ne (tgt := 17) hx hb dX6_put_11 (by decide) (fun c_47 => ?_) (fun c_47 => ?_)
          · skip
            exact absurd c_47 (by decide)
          · skip
            refine lv_bipush (v := (-2)) hx hb dX6_put_14 (by decide) ?_
            exact W.iret (v := (-2)) hx hb hr (fun t ht hW => ⟨⟨(-2), (0), rfl, (by first | assumption | with_reducible rfl | contradiction | exact (if_pos (by repeat' (first | assumption | decide | constructor))).symm | exact (if_neg (fun hh => absurd hh (by assumption))).symm | exact (if_neg (fun hh => absurd hh.1 (by assumption))).symm | exact (if_neg (fun hh => absurd hh.1.1 (by assumption))).symm | exact (if_neg (fun hh => absurd hh.1.2 (by assumption))).symm | exact (if_neg (fun hh => absurd hh.2 (by assumption))).symm | exact (if_neg (fun hh => absurd hh.2.1 (by assumption))).symm | exact (if_neg (fun hh => absurd hh.2.2 (by assumption))).symm | decide | (exfalso; simp only [zi_le, zi_lt, zi_eq, zi_n0, zi_n1, zi_n2, zi_n3, zi_n4, zi_n23, zi_n24, zi_n100, zi_n399, zi_n60, zi_n255, zi_n99, zi_nm1, zi_n30] at *; omega) | (simp_all; done)), ⟨by rw [ht]; exact hP, hD⟩⟩, hS.F ht⟩) hS.2.2 dX6_put_16
    · skip
      refine lv_if_eq (tgt := 14) hx hb dX6_put_4 (by decide) (fun c_48 => ?_) (fun c_48 => ?_)
      · skip
        exact absurd c_48 (by decide)
      · skip
        refine lv_iload_n hx hb dX6_put_7 rfl (lv_at hl 2 rfl) ?_
        refine zc0_i (w := (zX k q 0 (-1) 12 100 0 (fun _ => 0) aps 0 ar1 ar2 ar3 ar4 ar5 ar6 ar7 ph pp py wy fa fb cm0 ia0 0 0 ih0 in0 il0 tx0 sh0 cm1 ia1 0 0 ih1 in1 il1 tx1 sh1 cm2 ia2 0 0 ih2 in2 il2 tx2 sh2 cm3 ia3 0 0 ih3 in3 il3 tx3 sh3 (-1) 0 it0 (-1) 0 it1 (-1) 0 it2 (-1) 0 it3)) (va_runS (As := [.int t]) (rest := []) ⟨hx, hb, hml, hown, hts⟩ (c_X6_isType l dC dI k (zTX k) t _ ) (va_cwS 1 hts (gzS wmt3_89 wmt3_90 wmt1_1 wmt3_91) rfl rfl rfl (by decide +kernel) ⟨Nat.le_of_ble_eq_true rfl, Nat.le_of_ble_eq_true rfl⟩) (zp0_S hK) rfl rfl hl.1 rfl (lv_room (Nat.le_of_ble_eq_true rfl)) dX6_put_8 ⟨Nat.le_of_ble_eq_true rfl, Nat.le_of_ble_eq_true rfl⟩) hP hS hA (fun r_49 u_50 H locs w_51 hP hS => ?_)
        rcases w_51 with ⟨e_53, h_52⟩ | ⟨e_55, h_54⟩
        · skip
          replace e_53 : r_49 = 1 := e_53
          subst e_53
          replace h_52 : 0 ≤ (t : Int32) ∧ (t : Int32) ≤ 2 := h_52
          refine lv_if_ne (tgt := 17) hx hb dX6_put_11 (by decide) (fun c_56 => ?_) (fun c_56 => ?_)
          · skip
            refine lv_aload_n hx hb dX6_put_17 rfl (lv_at hl 0 rfl) ?_
            refine va_get (D := (dC, dI)) (ci := 6) (v := .ref (q 2)) (C := RX6) (T := TX6) (N := 12) hx hb hts hi6 hown hK.1 hP 0 rfl rfl 1 (by decide) (hts _ wmt1_171) (fun _ h9 => h9) rfl dX6_put_18 ?_
            refine lv_iload_n hx hb dX6_put_21 rfl (lv_at hl 1 rfl) ?_
            refine va_aldq (D := (dC, dI)) hx hb hK.1 hP 2 4 rfl rfl (show ¬ _ by decide) dX6_put_22 ?_
            refine z_top (v2 := .ref (q 32)) (rfl) ?_
            refine lv_iload_n hx hb dX6_put_23 rfl (lv_at hl 2 rfl) ?_
            refine lv_iload_n hx hb dX6_put_24 rfl (lv_at hl 3 rfl) ?_
            refine zcS_i (w := (zX k q 0 (-1) 12 100 0 (fun _ => 0) aps 0 ar1 ar2 ar3 ar4 ar5 ar6 ar7 ph pp py wy fa fb cm0 ia0 0 0 ih0 in0 il0 tx0 sh0 cm1 ia1 0 0 ih1 in1 il1 tx1 sh1 cm2 ia2 0 0 ih2 in2 il2 tx2 sh2 cm3 ia3 0 0 ih3 in3 il3 tx3 sh3 (-1) 0 it0 (-1) 0 it1 (-1) 0 it2 (-1) 0 it3)) (wc := (zShe k (q 32) (q 33) it2 (-1) 0)) (va_runS (As := [.ref (q 32), .int t, .int i]) (rest := []) ⟨hx, hb, hml, hown, hts⟩ (c_X6_itemFinding l dC dI k (zTX k) (q 32) (q 33) it2 0 t i _ ) (va_cwS 3 hts (gzS wmt3_109 wmt3_110 wmt1_1 wmt3_111) rfl rfl rfl (by decide +kernel) ⟨Nat.le_of_ble_eq_true rfl, Nat.le_of_ble_eq_true rfl⟩) (zp_S hK hP hD [32, 33] rfl rfl) rfl rfl hl.1 rfl (lv_room (Nat.le_of_ble_eq_true rfl)) dX6_put_25 ⟨Nat.le_of_ble_eq_true rfl, Nat.le_of_ble_eq_true rfl⟩) hP hD hS hA [32, 33] rfl (fun _ => rfl) (fun r_57 u_58 H locs w_59 hP hD hS => ?_)
            have hP : va_P (dC, dI) vwCl (zX k q 0 (-1) 12 100 0 (fun _ => 0) aps 0 ar1 ar2 ar3 ar4 ar5 ar6 ar7 ph pp py wy fa fb cm0 ia0 0 0 ih0 in0 il0 tx0 sh0 cm1 ia1 0 0 ih1 in1 il1 tx1 sh1 cm2 ia2 0 0 ih2 in2 il2 tx2 sh2 cm3 ia3 0 0 ih3 in3 il3 tx3 sh3 (-1) 0 it0 (-1) 0 it1 (-1) 0 it2 (-1) 0 it3) H := hP
            have hD : va_D A (zX k q 0 (-1) 12 100 0 (fun _ => 0) aps 0 ar1 ar2 ar3 ar4 ar5 ar6 ar7 ph pp py wy fa fb cm0 ia0 0 0 ih0 in0 il0 tx0 sh0 cm1 ia1 0 0 ih1 in1 il1 tx1 sh1 cm2 ia2 0 0 ih2 in2 il2 tx2 sh2 cm3 ia3 0 0 ih3 in3 il3 tx3 sh3 (-1) 0 it0 (-1) 0 it1 (-1) 0 it2 (-1) 0 it3) := hD
            have e_60 := w_59
            replace e_60 : r_57 = 1 := e_60
            subst e_60
            refine lv_istore (lv' := [(5, .int 1), (0, .ref (q 0)), (1, .int 2), (2, .int t), (3, .int i), (4, .int v)]) hx hb dX6_put_28 hl (by decide) rfl (fun ls hl => ?_)
            refine lv_iload hx hb dX6_put_30 (lv_at hl 0 rfl) ?_
            refine lv_if_eq (tgt := 42) hx hb dX6_put_32 (by decide) (fun c_61 => ?_) (fun c_61 => ?_)
            · skip
              exact absurd c_61 (by decide)
            · skip
              refine lv_aload_n hx hb dX6_put_35 rfl (lv_at hl 1 rfl) ?_
              refine lv_iload hx hb dX6_put_36 (lv_at hl 0 rfl) ?_
              refine zcA_i (w := (zX k q 0 (-1) 12 100 0 (fun _ => 0) aps 0 ar1 ar2 ar3 ar4 ar5 ar6 ar7 ph pp py wy fa fb cm0 ia0 0 0 ih0 in0 il0 tx0 sh0 cm1 ia1 0 0 ih1 in1 il1 tx1 sh1 cm2 ia2 0 0 ih2 in2 il2 tx2 sh2 cm3 ia3 0 0 ih3 in3 il3 tx3 sh3 (-1) 0 it0 (-1) 0 it1 (-1) 0 it2 (-1) 0 it3)) (va_runV (As := [.int 1]) (rest := []) ⟨hx, hb, hml, hown, hts⟩ (c_X6_found_1 l dC dI k  q aps ar1 ar2 ar3 ar4 ar5 ar6 ar7 ph pp py wy fa fb cm0 ia0 ih0 in0 il0 tx0 sh0 cm1 ia1 ih1 in1 il1 tx1 sh1 cm2 ia2 ih2 in2 il2 tx2 sh2 cm3 ia3 ih3 in3 il3 tx3 sh3 it0 it1 it2 it3 _ ) (cwV 1 hts (gzV wmt2_102 wmt2_104 wmp1_7 wmt1_1 wmt2_105) rfl rfl rfl (by decide +kernel) ⟨Nat.le_of_ble_eq_true rfl, Nat.le_of_ble_eq_true rfl⟩) (zpA_V (ci := 6) (q0 := 0) hK hP hD rfl rfl) rfl rfl hl.1 rfl (lv_room (Nat.le_of_ble_eq_true rfl)) dX6_put_38 ⟨Nat.le_of_ble_eq_true rfl, Nat.le_of_ble_eq_true rfl⟩) hD hS hA (fun r_62 u_63 H locs w_64 hP hD hS => ?_)
              obtain ⟨oxfi_65, rfl⟩ : ∃ z, z = u_63 := ⟨_, rfl⟩
              have hP : va_P (dC, dI) vwCl (zX k q 0 (-1) 12 100 oxfi_65 (fun _ => 0) aps 0 ar1 ar2 ar3 ar4 ar5 ar6 ar7 ph pp py wy fa fb cm0 ia0 0 0 ih0 in0 il0 tx0 sh0 cm1 ia1 0 0 ih1 in1 il1 tx1 sh1 cm2 ia2 0 0 ih2 in2 il2 tx2 sh2 cm3 ia3 0 0 ih3 in3 il3 tx3 sh3 (-1) 0 it0 (-1) 0 it1 (-1) 0 it2 (-1) 0 it3) H := hP
              have hD : va_D A (zX k q 0 (-1) 12 100 oxfi_65 (fun _ => 0) aps 0 ar1 ar2 ar3 ar4 ar5 ar6 ar7 ph pp py wy fa fb cm0 ia0 0 0 ih0 in0 il0 tx0 sh0 cm1 ia1 0 0 ih1 in1 il1 tx1 sh1 cm2 ia2 0 0 ih2 in2 il2 tx2 sh2 cm3 ia3 0 0 ih3 in3 il3 tx3 sh3 (-1) 0 it0 (-1) 0 it1 (-1) 0 it2 (-1) 0 it3) := hD
              have e_66 := w_64
              replace e_66 : r_62 = (-11) := e_66
              subst e_66
              exact W.iret (v := (-11)) hx hb hr (fun t ht hW => ⟨⟨(-11), (oxfi_65), rfl, (by first | assumption | with_reducible rfl | contradiction | exact (if_pos (by repeat' (first | assumption | decide | constructor))).symm | exact (if_neg (fun hh => absurd hh (by assumption))).symm | exact (if_neg (fun hh => absurd hh.1 (by assumption))).symm | exact (if_neg (fun hh => absurd hh.1.1 (by assumption))).symm | exact (if_neg (fun hh => absurd hh.1.2 (by assumption))).symm | exact (if_neg (fun hh => absurd hh.2 (by assumption))).symm | exact (if_neg (fun hh => absurd hh.2.1 (by assumption))).symm | exact (if_neg (fun hh => absurd hh.2.2 (by assumption))).symm | decide | (exfalso; simp only [zi_le, zi_lt, zi_eq, zi_n0, zi_n1, zi_n2, zi_n3, zi_n4, zi_n23, zi_n24, zi_n100, zi_n399, zi_n60, zi_n255, zi_n99, zi_nm1, zi_n30] at *; omega) | (simp_all; done)), ⟨by rw [ht]; exact hP, hD⟩⟩, hS.F ht⟩) hS.2.2 dX6_put_41
          · skip
            exact absurd c_56 (by decide)
        · skip
          replace e_55 : r_49 = 0 := e_55
          subst e_55
          replace h_54 : ¬ (0 ≤ (t : Int32) ∧ (t : Int32) ≤ 2) := h_54
          refine lv_if_ne (tgt := 17) hx hb dX6_put_11 (by decide) (fun c_67 => ?_) (fun c_67 => ?_)
          · skip
            exact absurd c_67 (by decide)
          · skip
            refine lv_bipush (v := (-2)) hx hb dX6_put_14 (by decide) ?_
            exact W.iret (v := (-2)) hx hb hr (fun t ht hW => ⟨⟨(-2), (0), rfl, (by first | assumption | with_reducible rfl | contradiction | exact (if_pos (by repeat' (first | assumption | decide | constructor))).symm | exact (if_neg (fun hh => absurd hh (by assumption))).symm | exact (if_neg (fun hh => absurd hh.1 (by assumption))).symm | exact (if_neg (fun hh => absurd hh.1.1 (by assumption))).symm | exact (if_neg (fun hh => absurd hh.1.2 (by assumption))).symm | exact (if_neg (fun hh => absurd hh.2 (by assumption))).symm | exact (if_neg (fun hh => absurd hh.2.1 (by assumption))).symm | exact (if_neg (fun hh => absurd hh.2.2 (by assumption))).symm | decide | (exfalso; simp only [zi_le, zi_lt, zi_eq, zi_n0, zi_n1, zi_n2, zi_n3, zi_n4, zi_n23, zi_n24, zi_n100, zi_n399, zi_n60, zi_n255, zi_n99, zi_nm1, zi_n30] at *; omega) | (simp_all; done)), ⟨by rw [ht]; exact hP, hD⟩⟩, hS.F ht⟩) hS.2.2 dX6_put_16
    · skip
      refine lv_if_eq (tgt := 14) hx hb dX6_put_4 (by decide) (fun c_68 => ?_) (fun c_68 => ?_)
      · skip
        exact absurd c_68 (by decide)
      · skip
        refine lv_iload_n hx hb dX6_put_7 rfl (lv_at hl 2 rfl) ?_
        refine zc0_i (w := (zX k q 0 (-1) 12 100 0 (fun _ => 0) aps 0 ar1 ar2 ar3 ar4 ar5 ar6 ar7 ph pp py wy fa fb cm0 ia0 0 0 ih0 in0 il0 tx0 sh0 cm1 ia1 0 0 ih1 in1 il1 tx1 sh1 cm2 ia2 0 0 ih2 in2 il2 tx2 sh2 cm3 ia3 0 0 ih3 in3 il3 tx3 sh3 (-1) 0 it0 (-1) 0 it1 (-1) 0 it2 (-1) 0 it3)) (va_runS (As := [.int t]) (rest := []) ⟨hx, hb, hml, hown, hts⟩ (c_X6_isType l dC dI k (zTX k) t _ ) (va_cwS 1 hts (gzS wmt3_89 wmt3_90 wmt1_1 wmt3_91) rfl rfl rfl (by decide +kernel) ⟨Nat.le_of_ble_eq_true rfl, Nat.le_of_ble_eq_true rfl⟩) (zp0_S hK) rfl rfl hl.1 rfl (lv_room (Nat.le_of_ble_eq_true rfl)) dX6_put_8 ⟨Nat.le_of_ble_eq_true rfl, Nat.le_of_ble_eq_true rfl⟩) hP hS hA (fun r_69 u_70 H locs w_71 hP hS => ?_)
        rcases w_71 with ⟨e_73, h_72⟩ | ⟨e_75, h_74⟩
        · skip
          replace e_73 : r_69 = 1 := e_73
          subst e_73
          replace h_72 : 0 ≤ (t : Int32) ∧ (t : Int32) ≤ 2 := h_72
          refine lv_if_ne (tgt := 17) hx hb dX6_put_11 (by decide) (fun c_76 => ?_) (fun c_76 => ?_)
          · skip
            refine lv_aload_n hx hb dX6_put_17 rfl (lv_at hl 0 rfl) ?_
            refine va_get (D := (dC, dI)) (ci := 6) (v := .ref (q 2)) (C := RX6) (T := TX6) (N := 12) hx hb hts hi6 hown hK.1 hP 0 rfl rfl 1 (by decide) (hts _ wmt1_171) (fun _ h9 => h9) rfl dX6_put_18 ?_
            refine lv_iload_n hx hb dX6_put_21 rfl (lv_at hl 1 rfl) ?_
            refine va_aldq (D := (dC, dI)) hx hb hK.1 hP 2 4 rfl rfl (show ¬ _ by decide) dX6_put_22 ?_
            refine z_top (v2 := .ref (q 34)) (rfl) ?_
            refine lv_iload_n hx hb dX6_put_23 rfl (lv_at hl 2 rfl) ?_
            refine lv_iload_n hx hb dX6_put_24 rfl (lv_at hl 3 rfl) ?_
            refine zcS_i (w := (zX k q 0 (-1) 12 100 0 (fun _ => 0) aps 0 ar1 ar2 ar3 ar4 ar5 ar6 ar7 ph pp py wy fa fb cm0 ia0 0 0 ih0 in0 il0 tx0 sh0 cm1 ia1 0 0 ih1 in1 il1 tx1 sh1 cm2 ia2 0 0 ih2 in2 il2 tx2 sh2 cm3 ia3 0 0 ih3 in3 il3 tx3 sh3 (-1) 0 it0 (-1) 0 it1 (-1) 0 it2 (-1) 0 it3)) (wc := (zShe k (q 34) (q 35) it3 (-1) 0)) (va_runS (As := [.ref (q 34), .int t, .int i]) (rest := []) ⟨hx, hb, hml, hown, hts⟩ (c_X6_itemFinding l dC dI k (zTX k) (q 34) (q 35) it3 0 t i _ ) (va_cwS 3 hts (gzS wmt3_109 wmt3_110 wmt1_1 wmt3_111) rfl rfl rfl (by decide +kernel) ⟨Nat.le_of_ble_eq_true rfl, Nat.le_of_ble_eq_true rfl⟩) (zp_S hK hP hD [34, 35] rfl rfl) rfl rfl hl.1 rfl (lv_room (Nat.le_of_ble_eq_true rfl)) dX6_put_25 ⟨Nat.le_of_ble_eq_true rfl, Nat.le_of_ble_eq_true rfl⟩) hP hD hS hA [34, 35] rfl (fun _ => rfl) (fun r_77 u_78 H locs w_79 hP hD hS => ?_)
            have hP : va_P (dC, dI) vwCl (zX k q 0 (-1) 12 100 0 (fun _ => 0) aps 0 ar1 ar2 ar3 ar4 ar5 ar6 ar7 ph pp py wy fa fb cm0 ia0 0 0 ih0 in0 il0 tx0 sh0 cm1 ia1 0 0 ih1 in1 il1 tx1 sh1 cm2 ia2 0 0 ih2 in2 il2 tx2 sh2 cm3 ia3 0 0 ih3 in3 il3 tx3 sh3 (-1) 0 it0 (-1) 0 it1 (-1) 0 it2 (-1) 0 it3) H := hP
            have hD : va_D A (zX k q 0 (-1) 12 100 0 (fun _ => 0) aps 0 ar1 ar2 ar3 ar4 ar5 ar6 ar7 ph pp py wy fa fb cm0 ia0 0 0 ih0 in0 il0 tx0 sh0 cm1 ia1 0 0 ih1 in1 il1 tx1 sh1 cm2 ia2 0 0 ih2 in2 il2 tx2 sh2 cm3 ia3 0 0 ih3 in3 il3 tx3 sh3 (-1) 0 it0 (-1) 0 it1 (-1) 0 it2 (-1) 0 it3) := hD
            have e_80 := w_79
            replace e_80 : r_77 = 1 := e_80
            subst e_80
            refine lv_istore (lv' := [(5, .int 1), (0, .ref (q 0)), (1, .int 3), (2, .int t), (3, .int i), (4, .int v)]) hx hb dX6_put_28 hl (by decide) rfl (fun ls hl => ?_)
            refine lv_iload hx hb dX6_put_30 (lv_at hl 0 rfl) ?_
            refine lv_if_eq (tgt := 42) hx hb dX6_put_32 (by decide) (fun c_81 => ?_) (fun c_81 => ?_)
            · skip
              exact absurd c_81 (by decide)
            · skip
              refine lv_aload_n hx hb dX6_put_35 rfl (lv_at hl 1 rfl) ?_
              refine lv_iload hx hb dX6_put_36 (lv_at hl 0 rfl) ?_
              refine zcA_i (w := (zX k q 0 (-1) 12 100 0 (fun _ => 0) aps 0 ar1 ar2 ar3 ar4 ar5 ar6 ar7 ph pp py wy fa fb cm0 ia0 0 0 ih0 in0 il0 tx0 sh0 cm1 ia1 0 0 ih1 in1 il1 tx1 sh1 cm2 ia2 0 0 ih2 in2 il2 tx2 sh2 cm3 ia3 0 0 ih3 in3 il3 tx3 sh3 (-1) 0 it0 (-1) 0 it1 (-1) 0 it2 (-1) 0 it3)) (va_runV (As := [.int 1]) (rest := []) ⟨hx, hb, hml, hown, hts⟩ (c_X6_found_1 l dC dI k  q aps ar1 ar2 ar3 ar4 ar5 ar6 ar7 ph pp py wy fa fb cm0 ia0 ih0 in0 il0 tx0 sh0 cm1 ia1 ih1 in1 il1 tx1 sh1 cm2 ia2 ih2 in2 il2 tx2 sh2 cm3 ia3 ih3 in3 il3 tx3 sh3 it0 it1 it2 it3 _ ) (cwV 1 hts (gzV wmt2_102 wmt2_104 wmp1_7 wmt1_1 wmt2_105) rfl rfl rfl (by decide +kernel) ⟨Nat.le_of_ble_eq_true rfl, Nat.le_of_ble_eq_true rfl⟩) (zpA_V (ci := 6) (q0 := 0) hK hP hD rfl rfl) rfl rfl hl.1 rfl (lv_room (Nat.le_of_ble_eq_true rfl)) dX6_put_38 ⟨Nat.le_of_ble_eq_true rfl, Nat.le_of_ble_eq_true rfl⟩) hD hS hA (fun r_82 u_83 H locs w_84 hP hD hS => ?_)
              obtain ⟨oxfi_85, rfl⟩ : ∃ z, z = u_83 := ⟨_, rfl⟩
              have hP : va_P (dC, dI) vwCl (zX k q 0 (-1) 12 100 oxfi_85 (fun _ => 0) aps 0 ar1 ar2 ar3 ar4 ar5 ar6 ar7 ph pp py wy fa fb cm0 ia0 0 0 ih0 in0 il0 tx0 sh0 cm1 ia1 0 0 ih1 in1 il1 tx1 sh1 cm2 ia2 0 0 ih2 in2 il2 tx2 sh2 cm3 ia3 0 0 ih3 in3 il3 tx3 sh3 (-1) 0 it0 (-1) 0 it1 (-1) 0 it2 (-1) 0 it3) H := hP
              have hD : va_D A (zX k q 0 (-1) 12 100 oxfi_85 (fun _ => 0) aps 0 ar1 ar2 ar3 ar4 ar5 ar6 ar7 ph pp py wy fa fb cm0 ia0 0 0 ih0 in0 il0 tx0 sh0 cm1 ia1 0 0 ih1 in1 il1 tx1 sh1 cm2 ia2 0 0 ih2 in2 il2 tx2 sh2 cm3 ia3 0 0 ih3 in3 il3 tx3 sh3 (-1) 0 it0 (-1) 0 it1 (-1) 0 it2 (-1) 0 it3) := hD
              have e_86 := w_84
              replace e_86 : r_82 = (-11) := e_86
              subst e_86
              exact W.iret (v := (-11)) hx hb hr (fun t ht hW => ⟨⟨(-11), (oxfi_85), rfl, (by first | assumption | with_reducible rfl | contradiction | exact (if_pos (by repeat' (first | assumption | decide | constructor))).symm | exact (if_neg (fun hh => absurd hh (by assumption))).symm | exact (if_neg (fun hh => absurd hh.1 (by assumption))).symm | exact (if_neg (fun hh => absurd hh.1.1 (by assumption))).symm | exact (if_neg (fun hh => absurd hh.1.2 (by assumption))).symm | exact (if_neg (fun hh => absurd hh.2 (by assumption))).symm | exact (if_neg (fun hh => absurd hh.2.1 (by assumption))).symm | exact (if_neg (fun hh => absurd hh.2.2 (by assumption))).symm | decide | (exfalso; simp only [zi_le, zi_lt, zi_eq, zi_n0, zi_n1, zi_n2, zi_n3, zi_n4, zi_n23, zi_n24, zi_n100, zi_n399, zi_n60, zi_n255, zi_n99, zi_nm1, zi_n30] at *; omega) | (simp_all; done)), ⟨by rw [ht]; exact hP, hD⟩⟩, hS.F ht⟩) hS.2.2 dX6_put_41
          · skip
            exact absurd c_76 (by decide)
        · skip
          replace e_75 : r_69 = 0 := e_75
          subst e_75
          replace h_74 : ¬ (0 ≤ (t : Int32) ∧ (t : Int32) ≤ 2) := h_74
          refine lv_if_ne (tgt := 17) hx hb dX6_put_11 (by decide) (fun c_87 => ?_) (fun c_87 => ?_)
          · skip
            exact absurd c_87 (by decide)
          · skip
            refine lv_bipush (v := (-2)) hx hb dX6_put_14 (by decide) ?_
            exact W.iret (v := (-2)) hx hb hr (fun t ht hW => ⟨⟨(-2), (0), rfl, (by first | assumption | with_reducible rfl | contradiction | exact (if_pos (by repeat' (first | assumption | decide | constructor))).symm | exact (if_neg (fun hh => absurd hh (by assumption))).symm | exact (if_neg (fun hh => absurd hh.1 (by assumption))).symm | exact (if_neg (fun hh => absurd hh.1.1 (by assumption))).symm | exact (if_neg (fun hh => absurd hh.1.2 (by assumption))).symm | exact (if_neg (fun hh => absurd hh.2 (by assumption))).symm | exact (if_neg (fun hh => absurd hh.2.1 (by assumption))).symm | exact (if_neg (fun hh => absurd hh.2.2 (by assumption))).symm | decide | (exfalso; simp only [zi_le, zi_lt, zi_eq, zi_n0, zi_n1, zi_n2, zi_n3, zi_n4, zi_n23, zi_n24, zi_n100, zi_n399, zi_n60, zi_n255, zi_n99, zi_nm1, zi_n30] at *; omega) | (simp_all; done)), ⟨by rw [ht]; exact hP, hD⟩⟩, hS.F ht⟩) hS.2.2 dX6_put_16
  · skip
    replace e_7 : r_1 = 0 := e_7
    subst e_7
    replace h_6 : ¬ (0 ≤ (z : Int32) ∧ (z : Int32) ≤ 3) := h_6
    refine lv_if_eq (tgt := 14) hx hb dX6_put_4 (by decide) (fun c_88 => ?_) (fun c_88 => ?_)
    · skip
      refine lv_bipush (v := (-2)) hx hb dX6_put_14 (by decide) ?_
      exact W.iret (v := (-2)) hx hb hr (fun t ht hW => ⟨⟨(-2), (0), rfl, (by first | assumption | with_reducible rfl | contradiction | exact (if_pos (by repeat' (first | assumption | decide | constructor))).symm | exact (if_neg (fun hh => absurd hh (by assumption))).symm | exact (if_neg (fun hh => absurd hh.1 (by assumption))).symm | exact (if_neg (fun hh => absurd hh.1.1 (by assumption))).symm | exact (if_neg (fun hh => absurd hh.1.2 (by assumption))).symm | exact (if_neg (fun hh => absurd hh.2 (by assumption))).symm | exact (if_neg (fun hh => absurd hh.2.1 (by assumption))).symm | exact (if_neg (fun hh => absurd hh.2.2 (by assumption))).symm | decide | (exfalso; simp only [zi_le, zi_lt, zi_eq, zi_n0, zi_n1, zi_n2, zi_n3, zi_n4, zi_n23, zi_n24, zi_n100, zi_n399, zi_n60, zi_n255, zi_n99, zi_nm1, zi_n30] at *; omega) | (simp_all; done)), ⟨by rw [ht]; exact hP, hD⟩⟩, hS.F ht⟩) hS.2.2 dX6_put_16
    · skip
      exact absurd (by decide) c_88
set_option maxHeartbeats 4000000 in
set_option maxRecDepth 100000 in
theorem c_X6_get (l : Launch) (dC : Nat → ClassId) (dI : Nat → Nat → Nat) (k : Nat → ClassId)  (q : Nat → Nat) (aps : Int32) (ar1 : Nat → Int32) (ar2 : Nat → Int32) (ar3 : Nat → Int32) (ar4 : Nat → Int32) (ar5 : Nat → Int32) (ar6 : Nat → Int32) (ar7 : Nat → Int32) (ph : Int32) (pp : Int32) (py : Int32) (wy : Nat → Int64) (fa : Int64) (fb : Int64) (cm0 : Int64) (ia0 : Int32) (ih0 : Int32) (in0 : Int32) (il0 : Int32) (tx0 : Nat → Int32) (sh0 : Nat → Int64) (cm1 : Int64) (ia1 : Int32) (ih1 : Int32) (in1 : Int32) (il1 : Int32) (tx1 : Nat → Int32) (sh1 : Nat → Int64) (cm2 : Int64) (ia2 : Int32) (ih2 : Int32) (in2 : Int32) (il2 : Int32) (tx2 : Nat → Int32) (sh2 : Nat → Int64) (cm3 : Int64) (ia3 : Int32) (ih3 : Int32) (in3 : Int32) (il3 : Int32) (tx3 : Nat → Int32) (sh3 : Nat → Int64) (it0 : Nat → Int32) (it1 : Nat → Int32) (it2 : Nat → Int32) (it3 : Nat → Int32) (z : Int32) (t : Int32) (i : Int32) (sz : Nat)  : Met l yX6_get (wz yX6_get cX6_get 5 (some .int)) ({ frames := 2, cells := 0, slots := 0, locals := 42 }) (va_Pc [.ref (q 0), .int z, .int t, .int i] (zPre dC dI k (zTX k) (zX k q 0 (-1) 12 100 0 (fun _ => 0) aps 0 ar1 ar2 ar3 ar4 ar5 ar6 ar7 ph pp py wy fa fb cm0 ia0 0 0 ih0 in0 il0 tx0 sh0 cm1 ia1 0 0 ih1 in1 il1 tx1 sh1 cm2 ia2 0 0 ih2 in2 il2 tx2 sh2 cm3 ia3 0 0 ih3 in3 il3 tx3 sh3 (-1) 0 it0 (-1) 0 it1 (-1) 0 it2 (-1) 0 it3) sz)) (va_Qi (fun (r : Int32) (u : Int32) => r = (-2147483648)) (fun u t => zPost dC dI (va_A (zX k q 0 (-1) 12 100 0 (fun _ => 0) aps 0 ar1 ar2 ar3 ar4 ar5 ar6 ar7 ph pp py wy fa fb cm0 ia0 0 0 ih0 in0 il0 tx0 sh0 cm1 ia1 0 0 ih1 in1 il1 tx1 sh1 cm2 ia2 0 0 ih2 in2 il2 tx2 sh2 cm3 ia3 0 0 ih3 in3 il3 tx3 sh3 (-1) 0 it0 (-1) 0 it1 (-1) 0 it2 (-1) 0 it3) sz) (zX k q 0 (-1) 12 100 u (fun _ => 0) aps 0 ar1 ar2 ar3 ar4 ar5 ar6 ar7 ph pp py wy fa fb cm0 ia0 0 0 ih0 in0 il0 tx0 sh0 cm1 ia1 0 0 ih1 in1 il1 tx1 sh1 cm2 ia2 0 0 ih2 in2 il2 tx2 sh2 cm3 ia3 0 0 ih3 in3 il3 tx3 sh3 (-1) 0 it0 (-1) 0 it1 (-1) 0 it2 (-1) 0 it3) t) (va_A (zX k q 0 (-1) 12 100 0 (fun _ => 0) aps 0 ar1 ar2 ar3 ar4 ar5 ar6 ar7 ph pp py wy fa fb cm0 ia0 0 0 ih0 in0 il0 tx0 sh0 cm1 ia1 0 0 ih1 in1 il1 tx1 sh1 cm2 ia2 0 0 ih2 in2 il2 tx2 sh2 cm3 ia3 0 0 ih3 in3 il3 tx3 sh3 (-1) 0 it0 (-1) 0 it1 (-1) 0 it2 (-1) 0 it3) sz)) 0 0 (va_A (zX k q 0 (-1) 12 100 0 (fun _ => 0) aps 0 ar1 ar2 ar3 ar4 ar5 ar6 ar7 ph pp py wy fa fb cm0 ia0 0 0 ih0 in0 il0 tx0 sh0 cm1 ia1 0 0 ih1 in1 il1 tx1 sh1 cm2 ia2 0 0 ih2 in2 il2 tx2 sh2 cm3 ia3 0 0 ih3 in3 il3 tx3 sh3 (-1) 0 it0 (-1) 0 it1 (-1) 0 it2 (-1) 0 it3) sz) := by
  refine Met.ofW (cc := cX6_get) (maxL := 5) (ret := (some .int)) (by decide) rfl ?_
  intro p e s m args below meth c s₁ B hml hv
  obtain ⟨rfl, hsz, hP, hK, hD0⟩ := hv
  have hx := B.exec
  have hb := B.bytes
  have hr := B.returns
  have hts : ∀ w ∈ zw, w.before _ s = true := fun w h => atoms_spec (ws := (wz yX6_get cX6_get 5 (some .int))) B.pre w (List.mem_cons_of_mem _ h)
  have hown : s.vm.findClass RX6 = some m.cls := findClass_of_methodNamed B.named
  have hlocks := B.notSynchronized
  subst hsz
  have hi6 := inw6
  have hD := hD0.self (sz := s.heap.size)
  generalize hAe : va_A (zX k q 0 (-1) 12 100 0 (fun _ => 0) aps 0 ar1 ar2 ar3 ar4 ar5 ar6 ar7 ph pp py wy fa fb cm0 ia0 0 0 ih0 in0 il0 tx0 sh0 cm1 ia1 0 0 ih1 in1 il1 tx1 sh1 cm2 ia2 0 0 ih2 in2 il2 tx2 sh2 cm3 ia3 0 0 ih3 in3 il3 tx3 sh3 (-1) 0 it0 (-1) 0 it1 (-1) 0 it2 (-1) 0 it3) s.heap.size = A at hD ⊢
  have hA : ∀ q : Nat, s.heap.size ≤ q → A q := fun q h => by rw [← hAe]; exact Or.inr h
  have hl := lv_entry ([.ref (q 0), .int z, .int t, .int i]) (n := 5) (Nat.le_of_ble_eq_true rfl)
  rw [lg_entry_eq]
  generalize (lg_sl ([.ref (q 0), .int z, .int t, .int i]) ++ List.replicate (5 - (lg_sl ([.ref (q 0), .int z, .int t, .int i])).length) Slot.unset).toArray = ls at hl ⊢
  have hl : lv_has ls 5 [(0, .ref (q 0)), (1, .int z), (2, .int t), (3, .int i)] := hl
  refine z_start (w := (zX k q 0 (-1) 12 100 0 (fun _ => 0) aps 0 ar1 ar2 ar3 ar4 ar5 ar6 ar7 ph pp py wy fa fb cm0 ia0 0 0 ih0 in0 il0 tx0 sh0 cm1 ia1 0 0 ih1 in1 il1 tx1 sh1 cm2 ia2 0 0 ih2 in2 il2 tx2 sh2 cm3 ia3 0 0 ih3 in3 il3 tx3 sh3 (-1) 0 it0 (-1) 0 it1 (-1) 0 it2 (-1) 0 it3)) hP hD (fun H locs hP hD hS => ?_)
  refine lv_iload_n hx hb dX6_get_0 rfl (lv_at hl 1 rfl) ?_
  refine zc0_i (w := (zX k q 0 (-1) 12 100 0 (fun _ => 0) aps 0 ar1 ar2 ar3 ar4 ar5 ar6 ar7 ph pp py wy fa fb cm0 ia0 0 0 ih0 in0 il0 tx0 sh0 cm1 ia1 0 0 ih1 in1 il1 tx1 sh1 cm2 ia2 0 0 ih2 in2 il2 tx2 sh2 cm3 ia3 0 0 ih3 in3 il3 tx3 sh3 (-1) 0 it0 (-1) 0 it1 (-1) 0 it2 (-1) 0 it3)) (va_runS (As := [.int z]) (rest := []) ⟨hx, hb, hml, hown, hts⟩ (c_X6_isSheet l dC dI k (zTX k) z _ ) (va_cwS 1 hts (gzS wmt2_95 wmt2_96 wmt1_1 wmt2_97) rfl rfl rfl (by decide +kernel) ⟨Nat.le_of_ble_eq_true rfl, Nat.le_of_ble_eq_true rfl⟩) (zp0_S hK) rfl rfl hl.1 rfl (lv_room (Nat.le_of_ble_eq_true rfl)) dX6_get_1 ⟨Nat.le_of_ble_eq_true rfl, Nat.le_of_ble_eq_true rfl⟩) hP hS hA (fun r_1 u_2 H locs w_3 hP hS => ?_)
  rcases w_3 with ⟨e_5, h_4⟩ | ⟨e_7, h_6⟩
  · skip
    replace e_5 : r_1 = 1 := e_5
    subst e_5
    replace h_4 : 0 ≤ (z : Int32) ∧ (z : Int32) ≤ 3 := h_4
    rcases zi_4 h_4 with rfl | rfl | rfl | rfl
    · skip
      refine lv_if_eq (tgt := 14) hx hb dX6_get_4 (by decide) (fun c_8 => ?_) (fun c_8 => ?_)
      · skip
        exact absurd c_8 (by decide)
      · skip
        refine lv_iload_n hx hb dX6_get_7 rfl (lv_at hl 2 rfl) ?_
        refine zc0_i (w := (zX k q 0 (-1) 12 100 0 (fun _ => 0) aps 0 ar1 ar2 ar3 ar4 ar5 ar6 ar7 ph pp py wy fa fb cm0 ia0 0 0 ih0 in0 il0 tx0 sh0 cm1 ia1 0 0 ih1 in1 il1 tx1 sh1 cm2 ia2 0 0 ih2 in2 il2 tx2 sh2 cm3 ia3 0 0 ih3 in3 il3 tx3 sh3 (-1) 0 it0 (-1) 0 it1 (-1) 0 it2 (-1) 0 it3)) (va_runS (As := [.int t]) (rest := []) ⟨hx, hb, hml, hown, hts⟩ (c_X6_isType l dC dI k (zTX k) t _ ) (va_cwS 1 hts (gzS wmt3_89 wmt3_90 wmt1_1 wmt3_91) rfl rfl rfl (by decide +kernel) ⟨Nat.le_of_ble_eq_true rfl, Nat.le_of_ble_eq_true rfl⟩) (zp0_S hK) rfl rfl hl.1 rfl (lv_room (Nat.le_of_ble_eq_true rfl)) dX6_get_8 ⟨Nat.le_of_ble_eq_true rfl, Nat.le_of_ble_eq_true rfl⟩) hP hS hA (fun r_9 u_10 H locs w_11 hP hS => ?_)
        rcases w_11 with ⟨e_13, h_12⟩ | ⟨e_15, h_14⟩
        · skip
          replace e_13 : r_9 = 1 := e_13
          subst e_13
          replace h_12 : 0 ≤ (t : Int32) ∧ (t : Int32) ≤ 2 := h_12
          refine lv_if_ne (tgt := 18) hx hb dX6_get_11 (by decide) (fun c_16 => ?_) (fun c_16 => ?_)
          · skip
            refine lv_aload_n hx hb dX6_get_18 rfl (lv_at hl 0 rfl) ?_
            refine va_get (D := (dC, dI)) (ci := 6) (v := .ref (q 2)) (C := RX6) (T := TX6) (N := 12) hx hb hts hi6 hown hK.1 hP 0 rfl rfl 1 (by decide) (hts _ wmt1_171) (fun _ h9 => h9) rfl dX6_get_19 ?_
            refine lv_iload_n hx hb dX6_get_22 rfl (lv_at hl 1 rfl) ?_
            refine va_aldq (D := (dC, dI)) hx hb hK.1 hP 2 4 rfl rfl (show ¬ _ by decide) dX6_get_23 ?_
            refine z_top (v2 := .ref (q 28)) (rfl) ?_
            refine lv_iload_n hx hb dX6_get_24 rfl (lv_at hl 2 rfl) ?_
            refine lv_iload_n hx hb dX6_get_25 rfl (lv_at hl 3 rfl) ?_
            refine zcS_i (w := (zX k q 0 (-1) 12 100 0 (fun _ => 0) aps 0 ar1 ar2 ar3 ar4 ar5 ar6 ar7 ph pp py wy fa fb cm0 ia0 0 0 ih0 in0 il0 tx0 sh0 cm1 ia1 0 0 ih1 in1 il1 tx1 sh1 cm2 ia2 0 0 ih2 in2 il2 tx2 sh2 cm3 ia3 0 0 ih3 in3 il3 tx3 sh3 (-1) 0 it0 (-1) 0 it1 (-1) 0 it2 (-1) 0 it3)) (wc := (zShe k (q 28) (q 29) it0 (-1) 0)) (va_runS (As := [.ref (q 28), .int t, .int i]) (rest := []) ⟨hx, hb, hml, hown, hts⟩ (c_X6_itemFinding l dC dI k (zTX k) (q 28) (q 29) it0 0 t i _ ) (va_cwS 3 hts (gzS wmt3_109 wmt3_110 wmt1_1 wmt3_111) rfl rfl rfl (by decide +kernel) ⟨Nat.le_of_ble_eq_true rfl, Nat.le_of_ble_eq_true rfl⟩) (zp_S hK hP hD [28, 29] rfl rfl) rfl rfl hl.1 rfl (lv_room (Nat.le_of_ble_eq_true rfl)) dX6_get_26 ⟨Nat.le_of_ble_eq_true rfl, Nat.le_of_ble_eq_true rfl⟩) hP hD hS hA [28, 29] rfl (fun _ => rfl) (fun r_17 u_18 H locs w_19 hP hD hS => ?_)
            have hP : va_P (dC, dI) vwCl (zX k q 0 (-1) 12 100 0 (fun _ => 0) aps 0 ar1 ar2 ar3 ar4 ar5 ar6 ar7 ph pp py wy fa fb cm0 ia0 0 0 ih0 in0 il0 tx0 sh0 cm1 ia1 0 0 ih1 in1 il1 tx1 sh1 cm2 ia2 0 0 ih2 in2 il2 tx2 sh2 cm3 ia3 0 0 ih3 in3 il3 tx3 sh3 (-1) 0 it0 (-1) 0 it1 (-1) 0 it2 (-1) 0 it3) H := hP
            have hD : va_D A (zX k q 0 (-1) 12 100 0 (fun _ => 0) aps 0 ar1 ar2 ar3 ar4 ar5 ar6 ar7 ph pp py wy fa fb cm0 ia0 0 0 ih0 in0 il0 tx0 sh0 cm1 ia1 0 0 ih1 in1 il1 tx1 sh1 cm2 ia2 0 0 ih2 in2 il2 tx2 sh2 cm3 ia3 0 0 ih3 in3 il3 tx3 sh3 (-1) 0 it0 (-1) 0 it1 (-1) 0 it2 (-1) 0 it3) := hD
            have e_20 := w_19
            replace e_20 : r_17 = 1 := e_20
            subst e_20
            refine lv_istore (lv' := [(4, .int 1), (0, .ref (q 0)), (1, .int 0), (2, .int t), (3, .int i)]) hx hb dX6_get_29 hl (by decide) rfl (fun ls hl => ?_)
            refine lv_iload hx hb dX6_get_31 (lv_at hl 0 rfl) ?_
            refine lv_if_eq (tgt := 46) hx hb dX6_get_33 (by decide) (fun c_21 => ?_) (fun c_21 => ?_)
            · skip
              exact absurd c_21 (by decide)
            · skip
              refine lv_aload_n hx hb dX6_get_36 rfl (lv_at hl 1 rfl) ?_
              refine lv_iload hx hb dX6_get_37 (lv_at hl 0 rfl) ?_
              refine va_put (D := (dC, dI)) (ci := 6) (v := .int 1) (ty := .int) (C := RX6) (T := TX6) (N := 12) hx hb hts hi6 tyX6 tyX6_ok nmX6 hown hK.1 hP hD hS 0 rfl rfl 11 (by decide) (hts _ wmt1_181) (fun _ h9 => h9) rfl (by decide +kernel) rfl rfl (Nat.le_of_ble_eq_true rfl) dX6_get_39 (fun H locs hP hD hS => ?_)
              have hP : va_P (dC, dI) vwCl (zX k q 0 (-1) 12 100 1 (fun _ => 0) aps 0 ar1 ar2 ar3 ar4 ar5 ar6 ar7 ph pp py wy fa fb cm0 ia0 0 0 ih0 in0 il0 tx0 sh0 cm1 ia1 0 0 ih1 in1 il1 tx1 sh1 cm2 ia2 0 0 ih2 in2 il2 tx2 sh2 cm3 ia3 0 0 ih3 in3 il3 tx3 sh3 (-1) 0 it0 (-1) 0 it1 (-1) 0 it2 (-1) 0 it3) H := hP
              have hD : va_D A (zX k q 0 (-1) 12 100 1 (fun _ => 0) aps 0 ar1 ar2 ar3 ar4 ar5 ar6 ar7 ph pp py wy fa fb cm0 ia0 0 0 ih0 in0 il0 tx0 sh0 cm1 ia1 0 0 ih1 in1 il1 tx1 sh1 cm2 ia2 0 0 ih2 in2 il2 tx2 sh2 cm3 ia3 0 0 ih3 in3 il3 tx3 sh3 (-1) 0 it0 (-1) 0 it1 (-1) 0 it2 (-1) 0 it3) := hD
              refine lv_ldcw (v := (-2147483648)) hx hb hown (hts _ wmt3_124) dX6_get_42 ?_
              exact W.iret (v := (-2147483648)) hx hb hr (fun t ht hW => ⟨⟨(-2147483648), (1), rfl, (by first | assumption | with_reducible rfl | contradiction | exact (if_pos (by repeat' (first | assumption | decide | constructor))).symm | exact (if_neg (fun hh => absurd hh (by assumption))).symm | decide | (exfalso; simp only [zi_le, zi_lt, zi_eq, zi_n0, zi_n1, zi_n2, zi_n3, zi_n4, zi_n23, zi_n24, zi_n100, zi_n399, zi_n60, zi_n255, zi_n99, zi_nm1, zi_n30] at *; omega) | (simp_all; done)), ⟨by rw [ht]; exact hP, hD⟩⟩, hS.F ht⟩) hS.2.2 dX6_get_45
          · skip
            exact absurd c_16 (by decide)
        · skip
          replace e_15 : r_9 = 0 := e_15
          subst e_15
          replace h_14 : ¬ (0 ≤ (t : Int32) ∧ (t : Int32) ≤ 2) := h_14
          refine lv_if_ne (tgt := 18) hx hb dX6_get_11 (by decide) (fun c_22 => ?_) (fun c_22 => ?_)
          · skip
            exact absurd c_22 (by decide)
          · skip
            refine lv_ldcw (v := (-2147483648)) hx hb hown (hts _ wmt3_124) dX6_get_14 ?_
            exact W.iret (v := (-2147483648)) hx hb hr (fun t ht hW => ⟨⟨(-2147483648), (0), rfl, (by first | assumption | with_reducible rfl | contradiction | exact (if_pos (by repeat' (first | assumption | decide | constructor))).symm | exact (if_neg (fun hh => absurd hh (by assumption))).symm | decide | (exfalso; simp only [zi_le, zi_lt, zi_eq, zi_n0, zi_n1, zi_n2, zi_n3, zi_n4, zi_n23, zi_n24, zi_n100, zi_n399, zi_n60, zi_n255, zi_n99, zi_nm1, zi_n30] at *; omega) | (simp_all; done)), ⟨by rw [ht]; exact hP, hD⟩⟩, hS.F ht⟩) hS.2.2 dX6_get_17
    · skip
      refine lv_if_eq (tgt := 14) hx hb dX6_get_4 (by decide) (fun c_23 => ?_) (fun c_23 => ?_)
      · skip
        exact absurd c_23 (by decide)
      · skip
        refine lv_iload_n hx hb dX6_get_7 rfl (lv_at hl 2 rfl) ?_
        refine zc0_i (w := (zX k q 0 (-1) 12 100 0 (fun _ => 0) aps 0 ar1 ar2 ar3 ar4 ar5 ar6 ar7 ph pp py wy fa fb cm0 ia0 0 0 ih0 in0 il0 tx0 sh0 cm1 ia1 0 0 ih1 in1 il1 tx1 sh1 cm2 ia2 0 0 ih2 in2 il2 tx2 sh2 cm3 ia3 0 0 ih3 in3 il3 tx3 sh3 (-1) 0 it0 (-1) 0 it1 (-1) 0 it2 (-1) 0 it3)) (va_runS (As := [.int t]) (rest := []) ⟨hx, hb, hml, hown, hts⟩ (c_X6_isType l dC dI k (zTX k) t _ ) (va_cwS 1 hts (gzS wmt3_89 wmt3_90 wmt1_1 wmt3_91) rfl rfl rfl (by decide +kernel) ⟨Nat.le_of_ble_eq_true rfl, Nat.le_of_ble_eq_true rfl⟩) (zp0_S hK) rfl rfl hl.1 rfl (lv_room (Nat.le_of_ble_eq_true rfl)) dX6_get_8 ⟨Nat.le_of_ble_eq_true rfl, Nat.le_of_ble_eq_true rfl⟩) hP hS hA (fun r_24 u_25 H locs w_26 hP hS => ?_)
        rcases w_26 with ⟨e_28, h_27⟩ | ⟨e_30, h_29⟩
        · skip
          replace e_28 : r_24 = 1 := e_28
          subst e_28
          replace h_27 : 0 ≤ (t : Int32) ∧ (t : Int32) ≤ 2 := h_27
          refine lv_if_ne (tgt := 18) hx hb dX6_get_11 (by decide) (fun c_31 => ?_) (fun c_31 => ?_)
          · skip
            refine lv_aload_n hx hb dX6_get_18 rfl (lv_at hl 0 rfl) ?_
            refine va_get (D := (dC, dI)) (ci := 6) (v := .ref (q 2)) (C := RX6) (T := TX6) (N := 12) hx hb hts hi6 hown hK.1 hP 0 rfl rfl 1 (by decide) (hts _ wmt1_171) (fun _ h9 => h9) rfl dX6_get_19 ?_
            refine lv_iload_n hx hb dX6_get_22 rfl (lv_at hl 1 rfl) ?_
            refine va_aldq (D := (dC, dI)) hx hb hK.1 hP 2 4 rfl rfl (show ¬ _ by decide) dX6_get_23 ?_
            refine z_top (v2 := .ref (q 30)) (rfl) ?_
            refine lv_iload_n hx hb dX6_get_24 rfl (lv_at hl 2 rfl) ?_
            refine lv_iload_n hx hb dX6_get_25 rfl (lv_at hl 3 rfl) ?_
            refine zcS_i (w := (zX k q 0 (-1) 12 100 0 (fun _ => 0) aps 0 ar1 ar2 ar3 ar4 ar5 ar6 ar7 ph pp py wy fa fb cm0 ia0 0 0 ih0 in0 il0 tx0 sh0 cm1 ia1 0 0 ih1 in1 il1 tx1 sh1 cm2 ia2 0 0 ih2 in2 il2 tx2 sh2 cm3 ia3 0 0 ih3 in3 il3 tx3 sh3 (-1) 0 it0 (-1) 0 it1 (-1) 0 it2 (-1) 0 it3)) (wc := (zShe k (q 30) (q 31) it1 (-1) 0)) (va_runS (As := [.ref (q 30), .int t, .int i]) (rest := []) ⟨hx, hb, hml, hown, hts⟩ (c_X6_itemFinding l dC dI k (zTX k) (q 30) (q 31) it1 0 t i _ ) (va_cwS 3 hts (gzS wmt3_109 wmt3_110 wmt1_1 wmt3_111) rfl rfl rfl (by decide +kernel) ⟨Nat.le_of_ble_eq_true rfl, Nat.le_of_ble_eq_true rfl⟩) (zp_S hK hP hD [30, 31] rfl rfl) rfl rfl hl.1 rfl (lv_room (Nat.le_of_ble_eq_true rfl)) dX6_get_26 ⟨Nat.le_of_ble_eq_true rfl, Nat.le_of_ble_eq_true rfl⟩) hP hD hS hA [30, 31] rfl (fun _ => rfl) (fun r_32 u_33 H locs w_34 hP hD hS => ?_)
            have hP : va_P (dC, dI) vwCl (zX k q 0 (-1) 12 100 0 (fun _ => 0) aps 0 ar1 ar2 ar3 ar4 ar5 ar6 ar7 ph pp py wy fa fb cm0 ia0 0 0 ih0 in0 il0 tx0 sh0 cm1 ia1 0 0 ih1 in1 il1 tx1 sh1 cm2 ia2 0 0 ih2 in2 il2 tx2 sh2 cm3 ia3 0 0 ih3 in3 il3 tx3 sh3 (-1) 0 it0 (-1) 0 it1 (-1) 0 it2 (-1) 0 it3) H := hP
            have hD : va_D A (zX k q 0 (-1) 12 100 0 (fun _ => 0) aps 0 ar1 ar2 ar3 ar4 ar5 ar6 ar7 ph pp py wy fa fb cm0 ia0 0 0 ih0 in0 il0 tx0 sh0 cm1 ia1 0 0 ih1 in1 il1 tx1 sh1 cm2 ia2 0 0 ih2 in2 il2 tx2 sh2 cm3 ia3 0 0 ih3 in3 il3 tx3 sh3 (-1) 0 it0 (-1) 0 it1 (-1) 0 it2 (-1) 0 it3) := hD
            have e_35 := w_34
            replace e_35 : r_32 = 1 := e_35
            subst e_35
            refine lv_istore (lv' := [(4, .int 1), (0, .ref (q 0)), (1, .int 1), (2, .int t), (3, .int i)]) hx hb dX6_get_29 hl (by decide) rfl (fun ls hl => ?_)
            refine lv_iload hx hb dX6_get_31 (lv_at hl 0 rfl) ?_
            refine lv_if_eq (tgt := 46) hx hb dX6_get_33 (by decide) (fun c_36 => ?_) (fun c_36 => ?_)
            · skip
              exact absurd c_36 (by decide)
            · skip
              refine lv_aload_n hx hb dX6_get_36 rfl (lv_at hl 1 rfl) ?_
              refine lv_iload hx hb dX6_get_37 (lv_at hl 0 rfl) ?_
              refine va_put (D := (dC, dI)) (ci := 6) (v := .int 1) (ty := .int) (C := RX6) (T := TX6) (N := 12) hx hb hts hi6 tyX6 tyX6_ok nmX6 hown hK.1 hP hD hS 0 rfl rfl 11 (by decide) (hts _ wmt1_181) (fun _ h9 => h9) rfl (by decide +kernel) rfl rfl (Nat.le_of_ble_eq_true rfl) dX6_get_39 (fun H locs hP hD hS => ?_)
              have hP : va_P (dC, dI) vwCl (zX k q 0 (-1) 12 100 1 (fun _ => 0) aps 0 ar1 ar2 ar3 ar4 ar5 ar6 ar7 ph pp py wy fa fb cm0 ia0 0 0 ih0 in0 il0 tx0 sh0 cm1 ia1 0 0 ih1 in1 il1 tx1 sh1 cm2 ia2 0 0 ih2 in2 il2 tx2 sh2 cm3 ia3 0 0 ih3 in3 il3 tx3 sh3 (-1) 0 it0 (-1) 0 it1 (-1) 0 it2 (-1) 0 it3) H := hP
              have hD : va_D A (zX k q 0 (-1) 12 100 1 (fun _ => 0) aps 0 ar1 ar2 ar3 ar4 ar5 ar6 ar7 ph pp py wy fa fb cm0 ia0 0 0 ih0 in0 il0 tx0 sh0 cm1 ia1 0 0 ih1 in1 il1 tx1 sh1 cm2 ia2 0 0 ih2 in2 il2 tx2 sh2 cm3 ia3 0 0 ih3 in3 il3 tx3 sh3 (-1) 0 it0 (-1) 0 it1 (-1) 0 it2 (-1) 0 it3) := hD
              refine lv_ldcw (v := (-2147483648)) hx hb hown (hts _ wmt3_124) dX6_get_42 ?_
              exact W.iret (v := (-2147483648)) hx hb hr (fun t ht hW => ⟨⟨(-2147483648), (1), rfl, (by first | assumption | with_reducible rfl | contradiction | exact (if_pos (by repeat' (first | assumption | decide | constructor))).symm | exact (if_neg (fun hh => absurd hh (by assumption))).symm | decide | (exfalso; simp only [zi_le, zi_lt, zi_eq, zi_n0, zi_n1, zi_n2, zi_n3, zi_n4, zi_n23, zi_n24, zi_n100, zi_n399, zi_n60, zi_n255, zi_n99, zi_nm1, zi_n30] at *; omega) | (simp_all; done)), ⟨by rw [ht]; exact hP, hD⟩⟩, hS.F ht⟩) hS.2.2 dX6_get_45
          · skip
            exact absurd c_31 (by decide)
        · skip
          replace e_30 : r_24 = 0 := e_30
          subst e_30
          replace h_29 : ¬ (0 ≤ (t : Int32) ∧ (t : Int32) ≤ 2) := h_29
          refine lv_if_ne (tgt := 18) hx hb dX6_get_11 (by decide) (fun c_37 => ?_) (fun c_37 => ?_)
          · skip
            exact absurd c_37 (by decide)
          · skip
            refine lv_ldcw (v := (-2147483648)) hx hb hown (hts _ wmt3_124) dX6_get_14 ?_
            exact W.iret (v := (-2147483648)) hx hb hr (fun t ht hW => ⟨⟨(-2147483648), (0), rfl, (by first | assumption | with_reducible rfl | contradiction | exact (if_pos (by repeat' (first | assumption | decide | constructor))).symm | exact (if_neg (fun hh => absurd hh (by assumption))).symm | decide | (exfalso; simp only [zi_le, zi_lt, zi_eq, zi_n0, zi_n1, zi_n2, zi_n3, zi_n4, zi_n23, zi_n24, zi_n100, zi_n399, zi_n60, zi_n255, zi_n99, zi_nm1, zi_n30] at *; omega) | (simp_all; done)), ⟨by rw [ht]; exact hP, hD⟩⟩, hS.F ht⟩) hS.2.2 dX6_get_17
    · skip
      refine lv_if_eq (tgt := 14) hx hb dX6_get_4 (by decide) (fun c_38 => ?_) (fun c_38 => ?_)
      · skip
        exact absurd c_38 (by decide)
      · skip
        refine lv_iload_n hx hb dX6_get_7 rfl (lv_at hl 2 rfl) ?_
        refine zc0_i (w := (zX k q 0 (-1) 12 100 0 (fun _ => 0) aps 0 ar1 ar2 ar3 ar4 ar5 ar6 ar7 ph pp py wy fa fb cm0 ia0 0 0 ih0 in0 il0 tx0 sh0 cm1 ia1 0 0 ih1 in1 il1 tx1 sh1 cm2 ia2 0 0 ih2 in2 il2 tx2 sh2 cm3 ia3 0 0 ih3 in3 il3 tx3 sh3 (-1) 0 it0 (-1) 0 it1 (-1) 0 it2 (-1) 0 it3)) (va_runS (As := [.int t]) (rest := []) ⟨hx, hb, hml, hown, hts⟩ (c_X6_isType l dC dI k (zTX k) t _ ) (va_cwS 1 hts (gzS wmt3_89 wmt3_90 wmt1_1 wmt3_91) rfl rfl rfl (by decide +kernel) ⟨Nat.le_of_ble_eq_true rfl, Nat.le_of_ble_eq_true rfl⟩) (zp0_S hK) rfl rfl hl.1 rfl (lv_room (Nat.le_of_ble_eq_true rfl)) dX6_get_8 ⟨Nat.le_of_ble_eq_true rfl, Nat.le_of_ble_eq_true rfl⟩) hP hS hA (fun r_39 u_40 H locs w_41 hP hS => ?_)
        rcases w_41 with ⟨e_43, h_42⟩ | ⟨e_45, h_44⟩
        · skip
          replace e_43 : r_39 = 1 := e_43
          subst e_43
          replace h_42 : 0 ≤ (t : Int32) ∧ (t : Int32) ≤ 2 := h_42
          refine lv_if_ne (tgt := 18) hx hb dX6_get_11 (by decide) (fun c_46 => ?_) (fun c_46 => ?_)
          · skip
            refine lv_aload_n hx hb dX6_get_18 rfl (lv_at hl 0 rfl) ?_
            refine va_get (D := (dC, dI)) (ci := 6) (v := .ref (q 2)) (C := RX6) (T := TX6) (N := 12) hx hb hts hi6 hown hK.1 hP 0 rfl rfl 1 (by decide) (hts _ wmt1_171) (fun _ h9 => h9) rfl dX6_get_19 ?_
            refine lv_iload_n hx hb dX6_get_22 rfl (lv_at hl 1 rfl) ?_
            refine va_aldq (D := (dC, dI)) hx hb hK.1 hP 2 4 rfl rfl (show ¬ _ by decide) dX6_get_23 ?_
            refine z_top (v2 := .ref (q 32)) (rfl) ?_
            refine lv_iload_n hx hb dX6_get_24 rfl (lv_at hl 2 rfl) ?_
            refine lv_iload_n hx hb dX6_get_25 rfl (lv_at hl 3 rfl) ?_
            refine zcS_i (w := (zX k q 0 (-1) 12 100 0 (fun _ => 0) aps 0 ar1 ar2 ar3 ar4 ar5 ar6 ar7 ph pp py wy fa fb cm0 ia0 0 0 ih0 in0 il0 tx0 sh0 cm1 ia1 0 0 ih1 in1 il1 tx1 sh1 cm2 ia2 0 0 ih2 in2 il2 tx2 sh2 cm3 ia3 0 0 ih3 in3 il3 tx3 sh3 (-1) 0 it0 (-1) 0 it1 (-1) 0 it2 (-1) 0 it3)) (wc := (zShe k (q 32) (q 33) it2 (-1) 0)) (va_runS (As := [.ref (q 32), .int t, .int i]) (rest := []) ⟨hx, hb, hml, hown, hts⟩ (c_X6_itemFinding l dC dI k (zTX k) (q 32) (q 33) it2 0 t i _ ) (va_cwS 3 hts (gzS wmt3_109 wmt3_110 wmt1_1 wmt3_111) rfl rfl rfl (by decide +kernel) ⟨Nat.le_of_ble_eq_true rfl, Nat.le_of_ble_eq_true rfl⟩) (zp_S hK hP hD [32, 33] rfl rfl) rfl rfl hl.1 rfl (lv_room (Nat.le_of_ble_eq_true rfl)) dX6_get_26 ⟨Nat.le_of_ble_eq_true rfl, Nat.le_of_ble_eq_true rfl⟩) hP hD hS hA [32, 33] rfl (fun _ => rfl) (fun r_47 u_48 H locs w_49 hP hD hS => ?_)
            have hP : va_P (dC, dI) vwCl (zX k q 0 (-1) 12 100 0 (fun _ => 0) aps 0 ar1 ar2 ar3 ar4 ar5 ar6 ar7 ph pp py wy fa fb cm0 ia0 0 0 ih0 in0 il0 tx0 sh0 cm1 ia1 0 0 ih1 in1 il1 tx1 sh1 cm2 ia2 0 0 ih2 in2 il2 tx2 sh2 cm3 ia3 0 0 ih3 in3 il3 tx3 sh3 (-1) 0 it0 (-1) 0 it1 (-1) 0 it2 (-1) 0 it3) H := hP
            have hD : va_D A (zX k q 0 (-1) 12 100 0 (fun _ => 0) aps 0 ar1 ar2 ar3 ar4 ar5 ar6 ar7 ph pp py wy fa fb cm0 ia0 0 0 ih0 in0 il0 tx0 sh0 cm1 ia1 0 0 ih1 in1 il1 tx1 sh1 cm2 ia2 0 0 ih2 in2 il2 tx2 sh2 cm3 ia3 0 0 ih3 in3 il3 tx3 sh3 (-1) 0 it0 (-1) 0 it1 (-1) 0 it2 (-1) 0 it3) := hD
            have e_50 := w_49
            replace e_50 : r_47 = 1 := e_50
            subst e_50
            refine lv_istore (lv' := [(4, .int 1), (0, .ref (q 0)), (1, .int 2), (2, .int t), (3, .int i)]) hx hb dX6_get_29 hl (by decide) rfl (fun ls hl => ?_)
            refine lv_iload hx hb dX6_get_31 (lv_at hl 0 rfl) ?_
            refine lv_if_eq (tgt := 46) hx hb dX6_get_33 (by decide) (fun c_51 => ?_) (fun c_51 => ?_)
            · skip
              exact absurd c_51 (by decide)
            · skip
              refine lv_aload_n hx hb dX6_get_36 rfl (lv_at hl 1 rfl) ?_
              refine lv_iload hx hb dX6_get_37 (lv_at hl 0 rfl) ?_
              refine va_put (D := (dC, dI)) (ci := 6) (v := .int 1) (ty := .int) (C := RX6) (T := TX6) (N := 12) hx hb hts hi6 tyX6 tyX6_ok nmX6 hown hK.1 hP hD hS 0 rfl rfl 11 (by decide) (hts _ wmt1_181) (fun _ h9 => h9) rfl (by decide +kernel) rfl rfl (Nat.le_of_ble_eq_true rfl) dX6_get_39 (fun H locs hP hD hS => ?_)
              have hP : va_P (dC, dI) vwCl (zX k q 0 (-1) 12 100 1 (fun _ => 0) aps 0 ar1 ar2 ar3 ar4 ar5 ar6 ar7 ph pp py wy fa fb cm0 ia0 0 0 ih0 in0 il0 tx0 sh0 cm1 ia1 0 0 ih1 in1 il1 tx1 sh1 cm2 ia2 0 0 ih2 in2 il2 tx2 sh2 cm3 ia3 0 0 ih3 in3 il3 tx3 sh3 (-1) 0 it0 (-1) 0 it1 (-1) 0 it2 (-1) 0 it3) H := hP
              have hD : va_D A (zX k q 0 (-1) 12 100 1 (fun _ => 0) aps 0 ar1 ar2 ar3 ar4 ar5 ar6 ar7 ph pp py wy fa fb cm0 ia0 0 0 ih0 in0 il0 tx0 sh0 cm1 ia1 0 0 ih1 in1 il1 tx1 sh1 cm2 ia2 0 0 ih2 in2 il2 tx2 sh2 cm3 ia3 0 0 ih3 in3 il3 tx3 sh3 (-1) 0 it0 (-1) 0 it1 (-1) 0 it2 (-1) 0 it3) := hD
              refine lv_ldcw (v := (-2147483648)) hx hb hown (hts _ wmt3_124) dX6_get_42 ?_
              exact W.iret (v := (-2147483648)) hx hb hr (fun t ht hW => ⟨⟨(-2147483648), (1), rfl, (by first | assumption | with_reducible rfl | contradiction | exact (if_pos (by repeat' (first | assumption | decide | constructor))).symm | exact (if_neg (fun hh => absurd hh (by assumption))).symm | decide | (exfalso; simp only [zi_le, zi_lt, zi_eq, zi_n0, zi_n1, zi_n2, zi_n3, zi_n4, zi_n23, zi_n24, zi_n100, zi_n399, zi_n60, zi_n255, zi_n99, zi_nm1, zi_n30] at *; omega) | (simp_all; done)), ⟨by rw [ht]; exact hP, hD⟩⟩, hS.F ht⟩) hS.2.2 dX6_get_45
          · skip
            exact absurd c_46 (by decide)
        · skip
          replace e_45 : r_39 = 0 := e_45
          subst e_45
          replace h_44 : ¬ (0 ≤ (t : Int32) ∧ (t : Int32) ≤ 2) := h_44
          refine lv_if_ne (tgt := 18) hx hb dX6_get_11 (by decide) (fun c_52 => ?_) (fun c_52 => ?_)
          · skip
            exact absurd c_52 (by decide)
          · skip
            refine lv_ldcw (v := (-2147483648)) hx hb hown (hts _ wmt3_124) dX6_get_14 ?_
            exact W.iret (v := (-2147483648)) hx hb hr (fun t ht hW => ⟨⟨(-2147483648), (0), rfl, (by first | assumption | with_reducible rfl | contradiction | exact (if_pos (by repeat' (first | assumption | decide | constructor))).symm | exact (if_neg (fun hh => absurd hh (by assumption))).symm | decide | (exfalso; simp only [zi_le, zi_lt, zi_eq, zi_n0, zi_n1, zi_n2, zi_n3, zi_n4, zi_n23, zi_n24, zi_n100, zi_n399, zi_n60, zi_n255, zi_n99, zi_nm1, zi_n30] at *; omega) | (simp_all; done)), ⟨by rw [ht]; exact hP, hD⟩⟩, hS.F ht⟩) hS.2.2 dX6_get_17
    · skip
      refine lv_if_eq (tgt := 14) hx hb dX6_get_4 (by decide) (fun c_53 => ?_) (fun c_53 => ?_)
      · skip
        exact absurd c_53 (by decide)
      · skip
        refine lv_iload_n hx hb dX6_get_7 rfl (lv_at hl 2 rfl) ?_
        refine zc0_i (w := (zX k q 0 (-1) 12 100 0 (fun _ => 0) aps 0 ar1 ar2 ar3 ar4 ar5 ar6 ar7 ph pp py wy fa fb cm0 ia0 0 0 ih0 in0 il0 tx0 sh0 cm1 ia1 0 0 ih1 in1 il1 tx1 sh1 cm2 ia2 0 0 ih2 in2 il2 tx2 sh2 cm3 ia3 0 0 ih3 in3 il3 tx3 sh3 (-1) 0 it0 (-1) 0 it1 (-1) 0 it2 (-1) 0 it3)) (va_runS (As := [.int t]) (rest := []) ⟨hx, hb, hml, hown, hts⟩ (c_X6_isType l dC dI k (zTX k) t _ ) (va_cwS 1 hts (gzS wmt3_89 wmt3_90 wmt1_1 wmt3_91) rfl rfl rfl (by decide +kernel) ⟨Nat.le_of_ble_eq_true rfl, Nat.le_of_ble_eq_true rfl⟩) (zp0_S hK) rfl rfl hl.1 rfl (lv_room (Nat.le_of_ble_eq_true rfl)) dX6_get_8 ⟨Nat.le_of_ble_eq_true rfl, Nat.le_of_ble_eq_true rfl⟩) hP hS hA (fun r_54 u_55 H locs w_56 hP hS => ?_)
        rcases w_56 with ⟨e_58, h_57⟩ | ⟨e_60, h_59⟩
        · skip
          replace e_58 : r_54 = 1 := e_58
          subst e_58
          replace h_57 : 0 ≤ (t : Int32) ∧ (t : Int32) ≤ 2 := h_57
          refine lv_if_ne (tgt := 18) hx hb dX6_get_11 (by decide) (fun c_61 => ?_) (fun c_61 => ?_)
          · skip
            refine lv_aload_n hx hb dX6_get_18 rfl (lv_at hl 0 rfl) ?_
            refine va_get (D := (dC, dI)) (ci := 6) (v := .ref (q 2)) (C := RX6) (T := TX6) (N := 12) hx hb hts hi6 hown hK.1 hP 0 rfl rfl 1 (by decide) (hts _ wmt1_171) (fun _ h9 => h9) rfl dX6_get_19 ?_
            refine lv_iload_n hx hb dX6_get_22 rfl (lv_at hl 1 rfl) ?_
            refine va_aldq (D := (dC, dI)) hx hb hK.1 hP 2 4 rfl rfl (show ¬ _ by decide) dX6_get_23 ?_
            refine z_top (v2 := .ref (q 34)) (rfl) ?_
            refine lv_iload_n hx hb dX6_get_24 rfl (lv_at hl 2 rfl) ?_
            refine lv_iload_n hx hb dX6_get_25 rfl (lv_at hl 3 rfl) ?_
            refine zcS_i (w := (zX k q 0 (-1) 12 100 0 (fun _ => 0) aps 0 ar1 ar2 ar3 ar4 ar5 ar6 ar7 ph pp py wy fa fb cm0 ia0 0 0 ih0 in0 il0 tx0 sh0 cm1 ia1 0 0 ih1 in1 il1 tx1 sh1 cm2 ia2 0 0 ih2 in2 il2 tx2 sh2 cm3 ia3 0 0 ih3 in3 il3 tx3 sh3 (-1) 0 it0 (-1) 0 it1 (-1) 0 it2 (-1) 0 it3)) (wc := (zShe k (q 34) (q 35) it3 (-1) 0)) (va_runS (As := [.ref (q 34), .int t, .int i]) (rest := []) ⟨hx, hb, hml, hown, hts⟩ (c_X6_itemFinding l dC dI k (zTX k) (q 34) (q 35) it3 0 t i _ ) (va_cwS 3 hts (gzS wmt3_109 wmt3_110 wmt1_1 wmt3_111) rfl rfl rfl (by decide +kernel) ⟨Nat.le_of_ble_eq_true rfl, Nat.le_of_ble_eq_true rfl⟩) (zp_S hK hP hD [34, 35] rfl rfl) rfl rfl hl.1 rfl (lv_room (Nat.le_of_ble_eq_true rfl)) dX6_get_26 ⟨Nat.le_of_ble_eq_true rfl, Nat.le_of_ble_eq_true rfl⟩) hP hD hS hA [34, 35] rfl (fun _ => rfl) (fun r_62 u_63 H locs w_64 hP hD hS => ?_)
            have hP : va_P (dC, dI) vwCl (zX k q 0 (-1) 12 100 0 (fun _ => 0) aps 0 ar1 ar2 ar3 ar4 ar5 ar6 ar7 ph pp py wy fa fb cm0 ia0 0 0 ih0 in0 il0 tx0 sh0 cm1 ia1 0 0 ih1 in1 il1 tx1 sh1 cm2 ia2 0 0 ih2 in2 il2 tx2 sh2 cm3 ia3 0 0 ih3 in3 il3 tx3 sh3 (-1) 0 it0 (-1) 0 it1 (-1) 0 it2 (-1) 0 it3) H := hP
            have hD : va_D A (zX k q 0 (-1) 12 100 0 (fun _ => 0) aps 0 ar1 ar2 ar3 ar4 ar5 ar6 ar7 ph pp py wy fa fb cm0 ia0 0 0 ih0 in0 il0 tx0 sh0 cm1 ia1 0 0 ih1 in1 il1 tx1 sh1 cm2 ia2 0 0 ih2 in2 il2 tx2 sh2 cm3 ia3 0 0 ih3 in3 il3 tx3 sh3 (-1) 0 it0 (-1) 0 it1 (-1) 0 it2 (-1) 0 it3) := hD
            have e_65 := w_64
            replace e_65 : r_62 = 1 := e_65
            subst e_65
            refine lv_istore (lv' := [(4, .int 1), (0, .ref (q 0)), (1, .int 3), (2, .int t), (3, .int i)]) hx hb dX6_get_29 hl (by decide) rfl (fun ls hl => ?_)
            refine lv_iload hx hb dX6_get_31 (lv_at hl 0 rfl) ?_
            refine lv_if_eq (tgt := 46) hx hb dX6_get_33 (by decide) (fun c_66 => ?_) (fun c_66 => ?_)
            · skip
              exact absurd c_66 (by decide)
            · skip
              refine lv_aload_n hx hb dX6_get_36 rfl (lv_at hl 1 rfl) ?_
              refine lv_iload hx hb dX6_get_37 (lv_at hl 0 rfl) ?_
              refine va_put (D := (dC, dI)) (ci := 6) (v := .int 1) (ty := .int) (C := RX6) (T := TX6) (N := 12) hx hb hts hi6 tyX6 tyX6_ok nmX6 hown hK.1 hP hD hS 0 rfl rfl 11 (by decide) (hts _ wmt1_181) (fun _ h9 => h9) rfl (by decide +kernel) rfl rfl (Nat.le_of_ble_eq_true rfl) dX6_get_39 (fun H locs hP hD hS => ?_)
              have hP : va_P (dC, dI) vwCl (zX k q 0 (-1) 12 100 1 (fun _ => 0) aps 0 ar1 ar2 ar3 ar4 ar5 ar6 ar7 ph pp py wy fa fb cm0 ia0 0 0 ih0 in0 il0 tx0 sh0 cm1 ia1 0 0 ih1 in1 il1 tx1 sh1 cm2 ia2 0 0 ih2 in2 il2 tx2 sh2 cm3 ia3 0 0 ih3 in3 il3 tx3 sh3 (-1) 0 it0 (-1) 0 it1 (-1) 0 it2 (-1) 0 it3) H := hP
              have hD : va_D A (zX k q 0 (-1) 12 100 1 (fun _ => 0) aps 0 ar1 ar2 ar3 ar4 ar5 ar6 ar7 ph pp py wy fa fb cm0 ia0 0 0 ih0 in0 il0 tx0 sh0 cm1 ia1 0 0 ih1 in1 il1 tx1 sh1 cm2 ia2 0 0 ih2 in2 il2 tx2 sh2 cm3 ia3 0 0 ih3 in3 il3 tx3 sh3 (-1) 0 it0 (-1) 0 it1 (-1) 0 it2 (-1) 0 it3) := hD
              refine lv_ldcw (v := (-2147483648)) hx hb hown (hts _ wmt3_124) dX6_get_42 ?_
              exact W.iret (v := (-2147483648)) hx hb hr (fun t ht hW => ⟨⟨(-2147483648), (1), rfl, (by first | assumption | with_reducible rfl | contradiction | exact (if_pos (by repeat' (first | assumption | decide | constructor))).symm | exact (if_neg (fun hh => absurd hh (by assumption))).symm | decide | (exfalso; simp only [zi_le, zi_lt, zi_eq, zi_n0, zi_n1, zi_n2, zi_n3, zi_n4, zi_n23, zi_n24, zi_n100, zi_n399, zi_n60, zi_n255, zi_n99, zi_nm1, zi_n30] at *; omega) | (simp_all; done)), ⟨by rw [ht]; exact hP, hD⟩⟩, hS.F ht⟩) hS.2.2 dX6_get_45
          · skip
            exact absurd c_61 (by decide)
        · skip
          replace e_60 : r_54 = 0 := e_60
          subst e_60
          replace h_59 : ¬ (0 ≤ (t : Int32) ∧ (t : Int32) ≤ 2) := h_59
          refine lv_if_ne (tgt := 18) hx hb dX6_get_11 (by decide) (fun c_67 => ?_) (fun c_67 => ?_)
          · skip
            exact absurd c_67 (by decide)
          · skip
            refine lv_ldcw (v := (-2147483648)) hx hb hown (hts _ wmt3_124) dX6_get_14 ?_
            exact W.iret (v := (-2147483648)) hx hb hr (fun t ht hW => ⟨⟨(-2147483648), (0), rfl, (by first | assumption | with_reducible rfl | contradiction | exact (if_pos (by repeat' (first | assumption | decide | constructor))).symm | exact (if_neg (fun hh => absurd hh (by assumption))).symm | decide | (exfalso; simp only [zi_le, zi_lt, zi_eq, zi_n0, zi_n1, zi_n2, zi_n3, zi_n4, zi_n23, zi_n24, zi_n100, zi_n399, zi_n60, zi_n255, zi_n99, zi_nm1, zi_n30] at *; omega) | (simp_all; done)), ⟨by rw [ht]; exact hP, hD⟩⟩, hS.F ht⟩) hS.2.2 dX6_get_17
  · skip
    replace e_7 : r_1 = 0 := e_7
    subst e_7
    replace h_6 : ¬ (0 ≤ (z : Int32) ∧ (z : Int32) ≤ 3) := h_6
    refine lv_if_eq (tgt := 14) hx hb dX6_get_4 (by decide) (fun c_68 => ?_) (fun c_68 => ?_)
    · skip
      refine lv_ldcw (v := (-2147483648)) hx hb hown (hts _ wmt3_124) dX6_get_14 ?_
      exact W.iret (v := (-2147483648)) hx hb hr (fun t ht hW => ⟨⟨(-2147483648), (0), rfl, (by first | assumption | with_reducible rfl | contradiction | exact (if_pos (by repeat' (first | assumption | decide | constructor))).symm | exact (if_neg (fun hh => absurd hh (by assumption))).symm | decide | (exfalso; simp only [zi_le, zi_lt, zi_eq, zi_n0, zi_n1, zi_n2, zi_n3, zi_n4, zi_n23, zi_n24, zi_n100, zi_n399, zi_n60, zi_n255, zi_n99, zi_nm1, zi_n30] at *; omega) | (simp_all; done)), ⟨by rw [ht]; exact hP, hD⟩⟩, hS.F ht⟩) hS.2.2 dX6_get_17
    · skip
      exact absurd (by decide) c_68
set_option maxHeartbeats 4000000 in
set_option maxRecDepth 100000 in
theorem c_X6_copy (l : Launch) (dC : Nat → ClassId) (dI : Nat → Nat → Nat) (k : Nat → ClassId)  (q : Nat → Nat) (aps : Int32) (ar1 : Nat → Int32) (ar2 : Nat → Int32) (ar3 : Nat → Int32) (ar4 : Nat → Int32) (ar5 : Nat → Int32) (ar6 : Nat → Int32) (ar7 : Nat → Int32) (ph : Int32) (pp : Int32) (py : Int32) (wy : Nat → Int64) (fa : Int64) (fb : Int64) (cm0 : Int64) (ia0 : Int32) (ih0 : Int32) (in0 : Int32) (il0 : Int32) (tx0 : Nat → Int32) (sh0 : Nat → Int64) (cm1 : Int64) (ia1 : Int32) (ih1 : Int32) (in1 : Int32) (il1 : Int32) (tx1 : Nat → Int32) (sh1 : Nat → Int64) (cm2 : Int64) (ia2 : Int32) (ih2 : Int32) (in2 : Int32) (il2 : Int32) (tx2 : Nat → Int32) (sh2 : Nat → Int64) (cm3 : Int64) (ia3 : Int32) (ih3 : Int32) (in3 : Int32) (il3 : Int32) (tx3 : Nat → Int32) (sh3 : Nat → Int64) (it0 : Nat → Int32) (it1 : Nat → Int32) (it2 : Nat → Int32) (it3 : Nat → Int32) (z : Int32) (i : Int32) (z2 : Int32) (j : Int32) (n : Int32) (sz : Nat)  : Met l yX6_copy (wz yX6_copy cX6_copy 8 (some .int)) ({ frames := 1, cells := 0, slots := 0, locals := 21 }) (va_Pc [.ref (q 0), .int z, .int i, .int z2, .int j, .int n] (zPre dC dI k (zTX k) (zX k q 0 (-1) 12 100 0 (fun _ => 0) aps 0 ar1 ar2 ar3 ar4 ar5 ar6 ar7 ph pp py wy fa fb cm0 ia0 0 0 ih0 in0 il0 tx0 sh0 cm1 ia1 0 0 ih1 in1 il1 tx1 sh1 cm2 ia2 0 0 ih2 in2 il2 tx2 sh2 cm3 ia3 0 0 ih3 in3 il3 tx3 sh3 (-1) 0 it0 (-1) 0 it1 (-1) 0 it2 (-1) 0 it3) sz)) (va_Qi (fun (r : Int32) (u : Int32) => (r = if (0 ≤ (z : Int32) ∧ (z : Int32) ≤ 3) ∧ (0 ≤ (z2 : Int32) ∧ (z2 : Int32) ≤ 3) then (-11) else (-2))) (fun u t => zPost dC dI (va_A (zX k q 0 (-1) 12 100 0 (fun _ => 0) aps 0 ar1 ar2 ar3 ar4 ar5 ar6 ar7 ph pp py wy fa fb cm0 ia0 0 0 ih0 in0 il0 tx0 sh0 cm1 ia1 0 0 ih1 in1 il1 tx1 sh1 cm2 ia2 0 0 ih2 in2 il2 tx2 sh2 cm3 ia3 0 0 ih3 in3 il3 tx3 sh3 (-1) 0 it0 (-1) 0 it1 (-1) 0 it2 (-1) 0 it3) sz) (zX k q 0 (-1) 12 100 u (fun _ => 0) aps 0 ar1 ar2 ar3 ar4 ar5 ar6 ar7 ph pp py wy fa fb cm0 ia0 0 0 ih0 in0 il0 tx0 sh0 cm1 ia1 0 0 ih1 in1 il1 tx1 sh1 cm2 ia2 0 0 ih2 in2 il2 tx2 sh2 cm3 ia3 0 0 ih3 in3 il3 tx3 sh3 (-1) 0 it0 (-1) 0 it1 (-1) 0 it2 (-1) 0 it3) t) (va_A (zX k q 0 (-1) 12 100 0 (fun _ => 0) aps 0 ar1 ar2 ar3 ar4 ar5 ar6 ar7 ph pp py wy fa fb cm0 ia0 0 0 ih0 in0 il0 tx0 sh0 cm1 ia1 0 0 ih1 in1 il1 tx1 sh1 cm2 ia2 0 0 ih2 in2 il2 tx2 sh2 cm3 ia3 0 0 ih3 in3 il3 tx3 sh3 (-1) 0 it0 (-1) 0 it1 (-1) 0 it2 (-1) 0 it3) sz)) 0 0 (va_A (zX k q 0 (-1) 12 100 0 (fun _ => 0) aps 0 ar1 ar2 ar3 ar4 ar5 ar6 ar7 ph pp py wy fa fb cm0 ia0 0 0 ih0 in0 il0 tx0 sh0 cm1 ia1 0 0 ih1 in1 il1 tx1 sh1 cm2 ia2 0 0 ih2 in2 il2 tx2 sh2 cm3 ia3 0 0 ih3 in3 il3 tx3 sh3 (-1) 0 it0 (-1) 0 it1 (-1) 0 it2 (-1) 0 it3) sz) := by
  refine Met.ofW (cc := cX6_copy) (maxL := 8) (ret := (some .int)) (by decide) rfl ?_
  intro p e s m args below meth c s₁ B hml hv
  obtain ⟨rfl, hsz, hP, hK, hD0⟩ := hv
  have hx := B.exec
  have hb := B.bytes
  have hr := B.returns
  have hts : ∀ w ∈ zw, w.before _ s = true := fun w h => atoms_spec (ws := (wz yX6_copy cX6_copy 8 (some .int))) B.pre w (List.mem_cons_of_mem _ h)
  have hown : s.vm.findClass RX6 = some m.cls := findClass_of_methodNamed B.named
  have hlocks := B.notSynchronized
  subst hsz
  have hi6 := inw6
  have hD := hD0.self (sz := s.heap.size)
  generalize hAe : va_A (zX k q 0 (-1) 12 100 0 (fun _ => 0) aps 0 ar1 ar2 ar3 ar4 ar5 ar6 ar7 ph pp py wy fa fb cm0 ia0 0 0 ih0 in0 il0 tx0 sh0 cm1 ia1 0 0 ih1 in1 il1 tx1 sh1 cm2 ia2 0 0 ih2 in2 il2 tx2 sh2 cm3 ia3 0 0 ih3 in3 il3 tx3 sh3 (-1) 0 it0 (-1) 0 it1 (-1) 0 it2 (-1) 0 it3) s.heap.size = A at hD ⊢
  have hA : ∀ q : Nat, s.heap.size ≤ q → A q := fun q h => by rw [← hAe]; exact Or.inr h
  have hl := lv_entry ([.ref (q 0), .int z, .int i, .int z2, .int j, .int n]) (n := 8) (Nat.le_of_ble_eq_true rfl)
  rw [lg_entry_eq]
  generalize (lg_sl ([.ref (q 0), .int z, .int i, .int z2, .int j, .int n]) ++ List.replicate (8 - (lg_sl ([.ref (q 0), .int z, .int i, .int z2, .int j, .int n])).length) Slot.unset).toArray = ls at hl ⊢
  have hl : lv_has ls 8 [(0, .ref (q 0)), (1, .int z), (2, .int i), (3, .int z2), (4, .int j), (5, .int n)] := hl
  refine z_start (w := (zX k q 0 (-1) 12 100 0 (fun _ => 0) aps 0 ar1 ar2 ar3 ar4 ar5 ar6 ar7 ph pp py wy fa fb cm0 ia0 0 0 ih0 in0 il0 tx0 sh0 cm1 ia1 0 0 ih1 in1 il1 tx1 sh1 cm2 ia2 0 0 ih2 in2 il2 tx2 sh2 cm3 ia3 0 0 ih3 in3 il3 tx3 sh3 (-1) 0 it0 (-1) 0 it1 (-1) 0 it2 (-1) 0 it3)) hP hD (fun H locs hP hD hS => ?_)
  refine lv_iload_n hx hb dX6_copy_0 rfl (lv_at hl 1 rfl) ?_
  refine zc0_i (w := (zX k q 0 (-1) 12 100 0 (fun _ => 0) aps 0 ar1 ar2 ar3 ar4 ar5 ar6 ar7 ph pp py wy fa fb cm0 ia0 0 0 ih0 in0 il0 tx0 sh0 cm1 ia1 0 0 ih1 in1 il1 tx1 sh1 cm2 ia2 0 0 ih2 in2 il2 tx2 sh2 cm3 ia3 0 0 ih3 in3 il3 tx3 sh3 (-1) 0 it0 (-1) 0 it1 (-1) 0 it2 (-1) 0 it3)) (va_runS (As := [.int z]) (rest := []) ⟨hx, hb, hml, hown, hts⟩ (c_X6_isSheet l dC dI k (zTX k) z _ ) (va_cwS 1 hts (gzS wmt2_95 wmt2_96 wmt1_1 wmt2_97) rfl rfl rfl (by decide +kernel) ⟨Nat.le_of_ble_eq_true rfl, Nat.le_of_ble_eq_true rfl⟩) (zp0_S hK) rfl rfl hl.1 rfl (lv_room (Nat.le_of_ble_eq_true rfl)) dX6_copy_1 ⟨Nat.le_of_ble_eq_true rfl, Nat.le_of_ble_eq_true rfl⟩) hP hS hA (fun r_1 u_2 H locs w_3 hP hS => ?_)
  rcases w_3 with ⟨e_5, h_4⟩ | ⟨e_7, h_6⟩
  · skip
    replace e_5 : r_1 = 1 := e_5
    subst e_5
    replace h_4 : 0 ≤ (z : Int32) ∧ (z : Int32) ≤ 3 := h_4
    rcases zi_4 h_4 with rfl | rfl | rfl | rfl
    · skip
      refine lv_if_eq (tgt := 14) hx hb dX6_copy_4 (by decide) (fun c_8 => ?_) (fun c_8 => ?_)
      · skip
        exact absurd c_8 (by decide)
      · skip
        refine lv_iload_n hx hb dX6_copy_7 rfl (lv_at hl 3 rfl) ?_
        refine zc0_i (w := (zX k q 0 (-1) 12 100 0 (fun _ => 0) aps 0 ar1 ar2 ar3 ar4 ar5 ar6 ar7 ph pp py wy fa fb cm0 ia0 0 0 ih0 in0 il0 tx0 sh0 cm1 ia1 0 0 ih1 in1 il1 tx1 sh1 cm2 ia2 0 0 ih2 in2 il2 tx2 sh2 cm3 ia3 0 0 ih3 in3 il3 tx3 sh3 (-1) 0 it0 (-1) 0 it1 (-1) 0 it2 (-1) 0 it3)) (va_runS (As := [.int z2]) (rest := []) ⟨hx, hb, hml, hown, hts⟩ (c_X6_isSheet l dC dI k (zTX k) z2 _ ) (va_cwS 1 hts (gzS wmt2_95 wmt2_96 wmt1_1 wmt2_97) rfl rfl rfl (by decide +kernel) ⟨Nat.le_of_ble_eq_true rfl, Nat.le_of_ble_eq_true rfl⟩) (zp0_S hK) rfl rfl hl.1 rfl (lv_room (Nat.le_of_ble_eq_true rfl)) dX6_copy_8 ⟨Nat.le_of_ble_eq_true rfl, Nat.le_of_ble_eq_true rfl⟩) hP hS hA (fun r_9 u_10 H locs w_11 hP hS => ?_)
        rcases w_11 with ⟨e_13, h_12⟩ | ⟨e_15, h_14⟩
        · skip
          replace e_13 : r_9 = 1 := e_13
          subst e_13
          replace h_12 : 0 ≤ (z2 : Int32) ∧ (z2 : Int32) ≤ 3 := h_12
          rcases zi_4 h_12 with rfl | rfl | rfl | rfl
          · skip
            refine lv_if_ne (tgt := 17) hx hb dX6_copy_11 (by decide) (fun c_16 => ?_) (fun c_16 => ?_)
            · skip
              refine lv_aload_n hx hb dX6_copy_17 rfl (lv_at hl 0 rfl) ?_
              refine va_get (D := (dC, dI)) (ci := 6) (v := .ref (q 2)) (C := RX6) (T := TX6) (N := 12) hx hb hts hi6 hown hK.1 hP 0 rfl rfl 1 (by decide) (hts _ wmt1_171) (fun _ h9 => h9) rfl dX6_copy_18 ?_
              refine lv_iload_n hx hb dX6_copy_21 rfl (lv_at hl 1 rfl) ?_
              refine va_aldq (D := (dC, dI)) hx hb hK.1 hP 2 4 rfl rfl (show ¬ _ by decide) dX6_copy_22 ?_
              refine z_top (v2 := .ref (q 28)) (rfl) ?_
              refine lv_astore (lv' := [(6, .ref (q 28)), (0, .ref (q 0)), (1, .int 0), (2, .int i), (3, .int 0), (4, .int j), (5, .int n)]) hx hb dX6_copy_23 hl (by decide) rfl (fun ls hl => ?_)
              refine lv_aload_n hx hb dX6_copy_25 rfl (lv_at hl 1 rfl) ?_
              refine va_get (D := (dC, dI)) (ci := 6) (v := .ref (q 2)) (C := RX6) (T := TX6) (N := 12) hx hb hts hi6 hown hK.1 hP 0 rfl rfl 1 (by decide) (hts _ wmt1_171) (fun _ h9 => h9) rfl dX6_copy_26 ?_
              refine lv_iload_n hx hb dX6_copy_29 rfl (lv_at hl 4 rfl) ?_
              refine va_aldq (D := (dC, dI)) hx hb hK.1 hP 2 4 rfl rfl (show ¬ _ by decide) dX6_copy_30 ?_
              refine z_top (v2 := .ref (q 28)) (rfl) ?_
              refine lv_astore (lv' := [(7, .ref (q 28)), (6, .ref (q 28)), (0, .ref (q 0)), (1, .int 0), (2, .int i), (3, .int 0), (4, .int j), (5, .int n)]) hx hb dX6_copy_31 hl (by decide) rfl (fun ls hl => ?_)
              refine lv_aload hx hb dX6_copy_33 (lv_at hl 1 rfl) ?_
              refine zcS_i (w := (zX k q 0 (-1) 12 100 0 (fun _ => 0) aps 0 ar1 ar2 ar3 ar4 ar5 ar6 ar7 ph pp py wy fa fb cm0 ia0 0 0 ih0 in0 il0 tx0 sh0 cm1 ia1 0 0 ih1 in1 il1 tx1 sh1 cm2 ia2 0 0 ih2 in2 il2 tx2 sh2 cm3 ia3 0 0 ih3 in3 il3 tx3 sh3 (-1) 0 it0 (-1) 0 it1 (-1) 0 it2 (-1) 0 it3)) (wc := (zShe k (q 28) (q 29) it0 (-1) 0)) (va_runV (As := []) (rest := []) ⟨hx, hb, hml, hown, hts⟩ (c_X5_isLost l dC dI k (zTX k) (q 28) (q 29) it0 0 _ ) (cwV 0 hts (gzV wmt2_98 wmt2_99 wmt2_100 wmt1_7 wmt2_101) rfl rfl rfl (by decide +kernel) ⟨Nat.le_of_ble_eq_true rfl, Nat.le_of_ble_eq_true rfl⟩) (zp_V (ci := 5) (q0 := 28) hK hP hD [28, 29] rfl rfl rfl rfl) rfl rfl hl.1 rfl (lv_room (Nat.le_of_ble_eq_true rfl)) dX6_copy_35 ⟨Nat.le_of_ble_eq_true rfl, Nat.le_of_ble_eq_true rfl⟩) hP hD hS hA [28, 29] rfl (fun _ => rfl) (fun r_17 u_18 H locs w_19 hP hD hS => ?_)
              have hP : va_P (dC, dI) vwCl (zX k q 0 (-1) 12 100 0 (fun _ => 0) aps 0 ar1 ar2 ar3 ar4 ar5 ar6 ar7 ph pp py wy fa fb cm0 ia0 0 0 ih0 in0 il0 tx0 sh0 cm1 ia1 0 0 ih1 in1 il1 tx1 sh1 cm2 ia2 0 0 ih2 in2 il2 tx2 sh2 cm3 ia3 0 0 ih3 in3 il3 tx3 sh3 (-1) 0 it0 (-1) 0 it1 (-1) 0 it2 (-1) 0 it3) H := hP
              have hD : va_D A (zX k q 0 (-1) 12 100 0 (fun _ => 0) aps 0 ar1 ar2 ar3 ar4 ar5 ar6 ar7 ph pp py wy fa fb cm0 ia0 0 0 ih0 in0 il0 tx0 sh0 cm1 ia1 0 0 ih1 in1 il1 tx1 sh1 cm2 ia2 0 0 ih2 in2 il2 tx2 sh2 cm3 ia3 0 0 ih3 in3 il3 tx3 sh3 (-1) 0 it0 (-1) 0 it1 (-1) 0 it2 (-1) 0 it3) := hD
              have e_20 := w_19
              replace e_20 : r_17 = 1 := e_20
              subst e_20
              refine lv_if_ne (tgt := 49) hx hb dX6_copy_38 (by decide) (fun c_21 => ?_) (fun c_21 => ?_)
              · skip
                refine lv_aload_n hx hb dX6_copy_49 rfl (lv_at hl 2 rfl) ?_
                refine lv_iconst (v := 1) hx hb dX6_copy_50 (by decide) ?_
                refine zcA_i (w := (zX k q 0 (-1) 12 100 0 (fun _ => 0) aps 0 ar1 ar2 ar3 ar4 ar5 ar6 ar7 ph pp py wy fa fb cm0 ia0 0 0 ih0 in0 il0 tx0 sh0 cm1 ia1 0 0 ih1 in1 il1 tx1 sh1 cm2 ia2 0 0 ih2 in2 il2 tx2 sh2 cm3 ia3 0 0 ih3 in3 il3 tx3 sh3 (-1) 0 it0 (-1) 0 it1 (-1) 0 it2 (-1) 0 it3)) (va_runV (As := [.int 1]) (rest := []) ⟨hx, hb, hml, hown, hts⟩ (c_X6_found_1 l dC dI k  q aps ar1 ar2 ar3 ar4 ar5 ar6 ar7 ph pp py wy fa fb cm0 ia0 ih0 in0 il0 tx0 sh0 cm1 ia1 ih1 in1 il1 tx1 sh1 cm2 ia2 ih2 in2 il2 tx2 sh2 cm3 ia3 ih3 in3 il3 tx3 sh3 it0 it1 it2 it3 _ ) (cwV 1 hts (gzV wmt2_102 wmt2_104 wmp1_7 wmt1_1 wmt2_105) rfl rfl rfl (by decide +kernel) ⟨Nat.le_of_ble_eq_true rfl, Nat.le_of_ble_eq_true rfl⟩) (zpA_V (ci := 6) (q0 := 0) hK hP hD rfl rfl) rfl rfl hl.1 rfl (lv_room (Nat.le_of_ble_eq_true rfl)) dX6_copy_51 ⟨Nat.le_of_ble_eq_true rfl, Nat.le_of_ble_eq_true rfl⟩) hD hS hA (fun r_22 u_23 H locs w_24 hP hD hS => ?_)
                obtain ⟨oxfi_25, rfl⟩ : ∃ z, z = u_23 := ⟨_, rfl⟩
                have hP : va_P (dC, dI) vwCl (zX k q 0 (-1) 12 100 oxfi_25 (fun _ => 0) aps 0 ar1 ar2 ar3 ar4 ar5 ar6 ar7 ph pp py wy fa fb cm0 ia0 0 0 ih0 in0 il0 tx0 sh0 cm1 ia1 0 0 ih1 in1 il1 tx1 sh1 cm2 ia2 0 0 ih2 in2 il2 tx2 sh2 cm3 ia3 0 0 ih3 in3 il3 tx3 sh3 (-1) 0 it0 (-1) 0 it1 (-1) 0 it2 (-1) 0 it3) H := hP
                have hD : va_D A (zX k q 0 (-1) 12 100 oxfi_25 (fun _ => 0) aps 0 ar1 ar2 ar3 ar4 ar5 ar6 ar7 ph pp py wy fa fb cm0 ia0 0 0 ih0 in0 il0 tx0 sh0 cm1 ia1 0 0 ih1 in1 il1 tx1 sh1 cm2 ia2 0 0 ih2 in2 il2 tx2 sh2 cm3 ia3 0 0 ih3 in3 il3 tx3 sh3 (-1) 0 it0 (-1) 0 it1 (-1) 0 it2 (-1) 0 it3) := hD
                have e_26 := w_24
                replace e_26 : r_22 = (-11) := e_26
                subst e_26
                exact W.iret (v := (-11)) hx hb hr (fun t ht hW => ⟨⟨(-11), (oxfi_25), rfl, (by first | assumption | with_reducible rfl | contradiction | exact (if_pos (by repeat' (first | assumption | decide | constructor))).symm | exact (if_neg (fun hh => absurd hh (by assumption))).symm | exact (if_neg (fun hh => absurd hh.1 (by assumption))).symm | exact (if_neg (fun hh => absurd hh.1.1 (by assumption))).symm | exact (if_neg (fun hh => absurd hh.1.2 (by assumption))).symm | exact (if_neg (fun hh => absurd hh.2 (by assumption))).symm | exact (if_neg (fun hh => absurd hh.2.1 (by assumption))).symm | exact (if_neg (fun hh => absurd hh.2.2 (by assumption))).symm | decide | (exfalso; simp only [zi_le, zi_lt, zi_eq, zi_n0, zi_n1, zi_n2, zi_n3, zi_n4, zi_n23, zi_n24, zi_n100, zi_n399, zi_n60, zi_n255, zi_n99, zi_nm1, zi_n30] at *; omega) | (simp_all; done)), ⟨by rw [ht]; exact hP, hD⟩⟩, hS.F ht⟩) hS.2.2 dX6_copy_54
              · skip
                exact absurd c_21 (by decide)
            · skip
              exact absurd c_16 (by decide)
          · skip
            refine lv_if_ne (tgt := 17) hx hb dX6_copy_11 (by decide) (fun c_27 => ?_) (fun c_27 => ?_)
            · skip
              refine lv_aload_n hx hb dX6_copy_17 rfl (lv_at hl 0 rfl) ?_
              refine va_get (D := (dC, dI)) (ci := 6) (v := .ref (q 2)) (C := RX6) (T := TX6) (N := 12) hx hb hts hi6 hown hK.1 hP 0 rfl rfl 1 (by decide) (hts _ wmt1_171) (fun _ h9 => h9) rfl dX6_copy_18 ?_
              refine lv_iload_n hx hb dX6_copy_21 rfl (lv_at hl 1 rfl) ?_
              refine va_aldq (D := (dC, dI)) hx hb hK.1 hP 2 4 rfl rfl (show ¬ _ by decide) dX6_copy_22 ?_
              refine z_top (v2 := .ref (q 28)) (rfl) ?_
              refine lv_astore (lv' := [(6, .ref (q 28)), (0, .ref (q 0)), (1, .int 0), (2, .int i), (3, .int 1), (4, .int j), (5, .int n)]) hx hb dX6_copy_23 hl (by decide) rfl (fun ls hl => ?_)
              refine lv_aload_n hx hb dX6_copy_25 rfl (lv_at hl 1 rfl) ?_
              refine va_get (D := (dC, dI)) (ci := 6) (v := .ref (q 2)) (C := RX6) (T := TX6) (N := 12) hx hb hts hi6 hown hK.1 hP 0 rfl rfl 1 (by decide) (hts _ wmt1_171) (fun _ h9 => h9) rfl dX6_copy_26 ?_
              refine lv_iload_n hx hb dX6_copy_29 rfl (lv_at hl 4 rfl) ?_
              refine va_aldq (D := (dC, dI)) hx hb hK.1 hP 2 4 rfl rfl (show ¬ _ by decide) dX6_copy_30 ?_
              refine z_top (v2 := .ref (q 30)) (rfl) ?_
              refine lv_astore (lv' := [(7, .ref (q 30)), (6, .ref (q 28)), (0, .ref (q 0)), (1, .int 0), (2, .int i), (3, .int 1), (4, .int j), (5, .int n)]) hx hb dX6_copy_31 hl (by decide) rfl (fun ls hl => ?_)
              refine lv_aload hx hb dX6_copy_33 (lv_at hl 1 rfl) ?_
              refine zcS_i (w := (zX k q 0 (-1) 12 100 0 (fun _ => 0) aps 0 ar1 ar2 ar3 ar4 ar5 ar6 ar7 ph pp py wy fa fb cm0 ia0 0 0 ih0 in0 il0 tx0 sh0 cm1 ia1 0 0 ih1 in1 il1 tx1 sh1 cm2 ia2 0 0 ih2 in2 il2 tx2 sh2 cm3 ia3 0 0 ih3 in3 il3 tx3 sh3 (-1) 0 it0 (-1) 0 it1 (-1) 0 it2 (-1) 0 it3)) (wc := (zShe k (q 28) (q 29) it0 (-1) 0)) (va_runV (As := []) (rest := []) ⟨hx, hb, hml, hown, hts⟩ (c_X5_isLost l dC dI k (zTX k) (q 28) (q 29) it0 0 _ ) (cwV 0 hts (gzV wmt2_98 wmt2_99 wmt2_100 wmt1_7 wmt2_101) rfl rfl rfl (by decide +kernel) ⟨Nat.le_of_ble_eq_true rfl, Nat.le_of_ble_eq_true rfl⟩) (zp_V (ci := 5) (q0 := 28) hK hP hD [28, 29] rfl rfl rfl rfl) rfl rfl hl.1 rfl (lv_room (Nat.le_of_ble_eq_true rfl)) dX6_copy_35 ⟨Nat.le_of_ble_eq_true rfl, Nat.le_of_ble_eq_true rfl⟩) hP hD hS hA [28, 29] rfl (fun _ => rfl) (fun r_28 u_29 H locs w_30 hP hD hS => ?_)
              have hP : va_P (dC, dI) vwCl (zX k q 0 (-1) 12 100 0 (fun _ => 0) aps 0 ar1 ar2 ar3 ar4 ar5 ar6 ar7 ph pp py wy fa fb cm0 ia0 0 0 ih0 in0 il0 tx0 sh0 cm1 ia1 0 0 ih1 in1 il1 tx1 sh1 cm2 ia2 0 0 ih2 in2 il2 tx2 sh2 cm3 ia3 0 0 ih3 in3 il3 tx3 sh3 (-1) 0 it0 (-1) 0 it1 (-1) 0 it2 (-1) 0 it3) H := hP
              have hD : va_D A (zX k q 0 (-1) 12 100 0 (fun _ => 0) aps 0 ar1 ar2 ar3 ar4 ar5 ar6 ar7 ph pp py wy fa fb cm0 ia0 0 0 ih0 in0 il0 tx0 sh0 cm1 ia1 0 0 ih1 in1 il1 tx1 sh1 cm2 ia2 0 0 ih2 in2 il2 tx2 sh2 cm3 ia3 0 0 ih3 in3 il3 tx3 sh3 (-1) 0 it0 (-1) 0 it1 (-1) 0 it2 (-1) 0 it3) := hD
              have e_31 := w_30
              replace e_31 : r_28 = 1 := e_31
              subst e_31
              refine lv_if_ne (tgt := 49) hx hb dX6_copy_38 (by decide) (fun c_32 => ?_) (fun c_32 => ?_)
              · skip
                refine lv_aload_n hx hb dX6_copy_49 rfl (lv_at hl 2 rfl) ?_
                refine lv_iconst (v := 1) hx hb dX6_copy_50 (by decide) ?_
                refine zcA_i (w := (zX k q 0 (-1) 12 100 0 (fun _ => 0) aps 0 ar1 ar2 ar3 ar4 ar5 ar6 ar7 ph pp py wy fa fb cm0 ia0 0 0 ih0 in0 il0 tx0 sh0 cm1 ia1 0 0 ih1 in1 il1 tx1 sh1 cm2 ia2 0 0 ih2 in2 il2 tx2 sh2 cm3 ia3 0 0 ih3 in3 il3 tx3 sh3 (-1) 0 it0 (-1) 0 it1 (-1) 0 it2 (-1) 0 it3)) (va_runV (As := [.int 1]) (rest := []) ⟨hx, hb, hml, hown, hts⟩ (c_X6_found_1 l dC dI k  q aps ar1 ar2 ar3 ar4 ar5 ar6 ar7 ph pp py wy fa fb cm0 ia0 ih0 in0 il0 tx0 sh0 cm1 ia1 ih1 in1 il1 tx1 sh1 cm2 ia2 ih2 in2 il2 tx2 sh2 cm3 ia3 ih3 in3 il3 tx3 sh3 it0 it1 it2 it3 _ ) (cwV 1 hts (gzV wmt2_102 wmt2_104 wmp1_7 wmt1_1 wmt2_105) rfl rfl rfl (by decide +kernel) ⟨Nat.le_of_ble_eq_true rfl, Nat.le_of_ble_eq_true rfl⟩) (zpA_V (ci := 6) (q0 := 0) hK hP hD rfl rfl) rfl rfl hl.1 rfl (lv_room (Nat.le_of_ble_eq_true rfl)) dX6_copy_51 ⟨Nat.le_of_ble_eq_true rfl, Nat.le_of_ble_eq_true rfl⟩) hD hS hA (fun r_33 u_34 H locs w_35 hP hD hS => ?_)
                obtain ⟨oxfi_36, rfl⟩ : ∃ z, z = u_34 := ⟨_, rfl⟩
                have hP : va_P (dC, dI) vwCl (zX k q 0 (-1) 12 100 oxfi_36 (fun _ => 0) aps 0 ar1 ar2 ar3 ar4 ar5 ar6 ar7 ph pp py wy fa fb cm0 ia0 0 0 ih0 in0 il0 tx0 sh0 cm1 ia1 0 0 ih1 in1 il1 tx1 sh1 cm2 ia2 0 0 ih2 in2 il2 tx2 sh2 cm3 ia3 0 0 ih3 in3 il3 tx3 sh3 (-1) 0 it0 (-1) 0 it1 (-1) 0 it2 (-1) 0 it3) H := hP
                have hD : va_D A (zX k q 0 (-1) 12 100 oxfi_36 (fun _ => 0) aps 0 ar1 ar2 ar3 ar4 ar5 ar6 ar7 ph pp py wy fa fb cm0 ia0 0 0 ih0 in0 il0 tx0 sh0 cm1 ia1 0 0 ih1 in1 il1 tx1 sh1 cm2 ia2 0 0 ih2 in2 il2 tx2 sh2 cm3 ia3 0 0 ih3 in3 il3 tx3 sh3 (-1) 0 it0 (-1) 0 it1 (-1) 0 it2 (-1) 0 it3) := hD
                have e_37 := w_35
                replace e_37 : r_33 = (-11) := e_37
                subst e_37
                exact W.iret (v := (-11)) hx hb hr (fun t ht hW => ⟨⟨(-11), (oxfi_36), rfl, (by first | assumption | with_reducible rfl | contradiction | exact (if_pos (by repeat' (first | assumption | decide | constructor))).symm | exact (if_neg (fun hh => absurd hh (by assumption))).symm | exact (if_neg (fun hh => absurd hh.1 (by assumption))).symm | exact (if_neg (fun hh => absurd hh.1.1 (by assumption))).symm | exact (if_neg (fun hh => absurd hh.1.2 (by assumption))).symm | exact (if_neg (fun hh => absurd hh.2 (by assumption))).symm | exact (if_neg (fun hh => absurd hh.2.1 (by assumption))).symm | exact (if_neg (fun hh => absurd hh.2.2 (by assumption))).symm | decide | (exfalso; simp only [zi_le, zi_lt, zi_eq, zi_n0, zi_n1, zi_n2, zi_n3, zi_n4, zi_n23, zi_n24, zi_n100, zi_n399, zi_n60, zi_n255, zi_n99, zi_nm1, zi_n30] at *; omega) | (simp_all; done)), ⟨by rw [ht]; exact hP, hD⟩⟩, hS.F ht⟩) hS.2.2 dX6_copy_54
              · skip
                exact absurd c_32 (by decide)
            · skip
              exact absurd c_27 (by decide)
          · skip
            refine lv_if_ne (tgt := 17) hx hb dX6_copy_11 (by decide) (fun c_38 => ?_) (fun c_38 => ?_)
            · skip
              refine lv_aload_n hx hb dX6_copy_17 rfl (lv_at hl 0 rfl) ?_
              refine va_get (D := (dC, dI)) (ci := 6) (v := .ref (q 2)) (C := RX6) (T := TX6) (N := 12) hx hb hts hi6 hown hK.1 hP 0 rfl rfl 1 (by decide) (hts _ wmt1_171) (fun _ h9 => h9) rfl dX6_copy_18 ?_
              refine lv_iload_n hx hb dX6_copy_21 rfl (lv_at hl 1 rfl) ?_
              refine va_aldq (D := (dC, dI)) hx hb hK.1 hP 2 4 rfl rfl (show ¬ _ by decide) dX6_copy_22 ?_
              refine z_top (v2 := .ref (q 28)) (rfl) ?_
              refine lv_astore (lv' := [(6, .ref (q 28)), (0, .ref (q 0)), (1, .int 0), (2, .int i), (3, .int 2), (4, .int j), (5, .int n)]) hx hb dX6_copy_23 hl (by decide) rfl (fun ls hl => ?_)
              refine lv_aload_n hx hb dX6_copy_25 rfl (lv_at hl 1 rfl) ?_
              refine va_get (D := (dC, dI)) (ci := 6) (v := .ref (q 2)) (C := RX6) (T := TX6) (N := 12) hx hb hts hi6 hown hK.1 hP 0 rfl rfl 1 (by decide) (hts _ wmt1_171) (fun _ h9 => h9) rfl dX6_copy_26 ?_
              refine lv_iload_n hx hb dX6_copy_29 rfl (lv_at hl 4 rfl) ?_
              refine va_aldq (D := (dC, dI)) hx hb hK.1 hP 2 4 rfl rfl (show ¬ _ by decide) dX6_copy_30 ?_
              refine z_top (v2 := .ref (q 32)) (rfl) ?_
              refine lv_astore (lv' := [(7, .ref (q 32)), (6, .ref (q 28)), (0, .ref (q 0)), (1, .int 0), (2, .int i), (3, .int 2), (4, .int j), (5, .int n)]) hx hb dX6_copy_31 hl (by decide) rfl (fun ls hl => ?_)
              refine lv_aload hx hb dX6_copy_33 (lv_at hl 1 rfl) ?_
              refine zcS_i (w := (zX k q 0 (-1) 12 100 0 (fun _ => 0) aps 0 ar1 ar2 ar3 ar4 ar5 ar6 ar7 ph pp py wy fa fb cm0 ia0 0 0 ih0 in0 il0 tx0 sh0 cm1 ia1 0 0 ih1 in1 il1 tx1 sh1 cm2 ia2 0 0 ih2 in2 il2 tx2 sh2 cm3 ia3 0 0 ih3 in3 il3 tx3 sh3 (-1) 0 it0 (-1) 0 it1 (-1) 0 it2 (-1) 0 it3)) (wc := (zShe k (q 28) (q 29) it0 (-1) 0)) (va_runV (As := []) (rest := []) ⟨hx, hb, hml, hown, hts⟩ (c_X5_isLost l dC dI k (zTX k) (q 28) (q 29) it0 0 _ ) (cwV 0 hts (gzV wmt2_98 wmt2_99 wmt2_100 wmt1_7 wmt2_101) rfl rfl rfl (by decide +kernel) ⟨Nat.le_of_ble_eq_true rfl, Nat.le_of_ble_eq_true rfl⟩) (zp_V (ci := 5) (q0 := 28) hK hP hD [28, 29] rfl rfl rfl rfl) rfl rfl hl.1 rfl (lv_room (Nat.le_of_ble_eq_true rfl)) dX6_copy_35 ⟨Nat.le_of_ble_eq_true rfl, Nat.le_of_ble_eq_true rfl⟩) hP hD hS hA [28, 29] rfl (fun _ => rfl) (fun r_39 u_40 H locs w_41 hP hD hS => ?_)
              have hP : va_P (dC, dI) vwCl (zX k q 0 (-1) 12 100 0 (fun _ => 0) aps 0 ar1 ar2 ar3 ar4 ar5 ar6 ar7 ph pp py wy fa fb cm0 ia0 0 0 ih0 in0 il0 tx0 sh0 cm1 ia1 0 0 ih1 in1 il1 tx1 sh1 cm2 ia2 0 0 ih2 in2 il2 tx2 sh2 cm3 ia3 0 0 ih3 in3 il3 tx3 sh3 (-1) 0 it0 (-1) 0 it1 (-1) 0 it2 (-1) 0 it3) H := hP
              have hD : va_D A (zX k q 0 (-1) 12 100 0 (fun _ => 0) aps 0 ar1 ar2 ar3 ar4 ar5 ar6 ar7 ph pp py wy fa fb cm0 ia0 0 0 ih0 in0 il0 tx0 sh0 cm1 ia1 0 0 ih1 in1 il1 tx1 sh1 cm2 ia2 0 0 ih2 in2 il2 tx2 sh2 cm3 ia3 0 0 ih3 in3 il3 tx3 sh3 (-1) 0 it0 (-1) 0 it1 (-1) 0 it2 (-1) 0 it3) := hD
              have e_42 := w_41
              replace e_42 : r_39 = 1 := e_42
              subst e_42
              refine lv_if_ne (tgt := 49) hx hb dX6_copy_38 (by decide) (fun c_43 => ?_) (fun c_43 => ?_)
              · skip
                refine lv_aload_n hx hb dX6_copy_49 rfl (lv_at hl 2 rfl) ?_
                refine lv_iconst (v := 1) hx hb dX6_copy_50 (by decide) ?_
                refine zcA_i (w := (zX k q 0 (-1) 12 100 0 (fun _ => 0) aps 0 ar1 ar2 ar3 ar4 ar5 ar6 ar7 ph pp py wy fa fb cm0 ia0 0 0 ih0 in0 il0 tx0 sh0 cm1 ia1 0 0 ih1 in1 il1 tx1 sh1 cm2 ia2 0 0 ih2 in2 il2 tx2 sh2 cm3 ia3 0 0 ih3 in3 il3 tx3 sh3 (-1) 0 it0 (-1) 0 it1 (-1) 0 it2 (-1) 0 it3)) (va_runV (As := [.int 1]) (rest := []) ⟨hx, hb, hml, hown, hts⟩ (c_X6_found_1 l dC dI k  q aps ar1 ar2 ar3 ar4 ar5 ar6 ar7 ph pp py wy fa fb cm0 ia0 ih0 in0 il0 tx0 sh0 cm1 ia1 ih1 in1 il1 tx1 sh1 cm2 ia2 ih2 in2 il2 tx2 sh2 cm3 ia3 ih3 in3 il3 tx3 sh3 it0 it1 it2 it3 _ ) (cwV 1 hts (gzV wmt2_102 wmt2_104 wmp1_7 wmt1_1 wmt2_105) rfl rfl rfl (by decide +kernel) ⟨Nat.le_of_ble_eq_true rfl, Nat.le_of_ble_eq_true rfl⟩) (zpA_V (ci := 6) (q0 := 0) hK hP hD rfl rfl) rfl rfl hl.1 rfl (lv_room (Nat.le_of_ble_eq_true rfl)) dX6_copy_51 ⟨Nat.le_of_ble_eq_true rfl, Nat.le_of_ble_eq_true rfl⟩) hD hS hA (fun r_44 u_45 H locs w_46 hP hD hS => ?_)
                obtain ⟨oxfi_47, rfl⟩ : ∃ z, z = u_45 := ⟨_, rfl⟩
                have hP : va_P (dC, dI) vwCl (zX k q 0 (-1) 12 100 oxfi_47 (fun _ => 0) aps 0 ar1 ar2 ar3 ar4 ar5 ar6 ar7 ph pp py wy fa fb cm0 ia0 0 0 ih0 in0 il0 tx0 sh0 cm1 ia1 0 0 ih1 in1 il1 tx1 sh1 cm2 ia2 0 0 ih2 in2 il2 tx2 sh2 cm3 ia3 0 0 ih3 in3 il3 tx3 sh3 (-1) 0 it0 (-1) 0 it1 (-1) 0 it2 (-1) 0 it3) H := hP
                have hD : va_D A (zX k q 0 (-1) 12 100 oxfi_47 (fun _ => 0) aps 0 ar1 ar2 ar3 ar4 ar5 ar6 ar7 ph pp py wy fa fb cm0 ia0 0 0 ih0 in0 il0 tx0 sh0 cm1 ia1 0 0 ih1 in1 il1 tx1 sh1 cm2 ia2 0 0 ih2 in2 il2 tx2 sh2 cm3 ia3 0 0 ih3 in3 il3 tx3 sh3 (-1) 0 it0 (-1) 0 it1 (-1) 0 it2 (-1) 0 it3) := hD
                have e_48 := w_46
                replace e_48 : r_44 = (-11) := e_48
                subst e_48
                exact W.iret (v := (-11)) hx hb hr (fun t ht hW => ⟨⟨(-11), (oxfi_47), rfl, (by first | assumption | with_reducible rfl | contradiction | exact (if_pos (by repeat' (first | assumption | decide | constructor))).symm | exact (if_neg (fun hh => absurd hh (by assumption))).symm | exact (if_neg (fun hh => absurd hh.1 (by assumption))).symm | exact (if_neg (fun hh => absurd hh.1.1 (by assumption))).symm | exact (if_neg (fun hh => absurd hh.1.2 (by assumption))).symm | exact (if_neg (fun hh => absurd hh.2 (by assumption))).symm | exact (if_neg (fun hh => absurd hh.2.1 (by assumption))).symm | exact (if_neg (fun hh => absurd hh.2.2 (by assumption))).symm | decide | (exfalso; simp only [zi_le, zi_lt, zi_eq, zi_n0, zi_n1, zi_n2, zi_n3, zi_n4, zi_n23, zi_n24, zi_n100, zi_n399, zi_n60, zi_n255, zi_n99, zi_nm1, zi_n30] at *; omega) | (simp_all; done)), ⟨by rw [ht]; exact hP, hD⟩⟩, hS.F ht⟩) hS.2.2 dX6_copy_54
              · skip
                exact absurd c_43 (by decide)
            · skip
              exact absurd c_38 (by decide)
          · skip
            refine lv_if_ne (tgt := 17) hx hb dX6_copy_11 (by decide) (fun c_49 => ?_) (fun c_49 => ?_)
            · skip
              refine lv_aload_n hx hb dX6_copy_17 rfl (lv_at hl 0 rfl) ?_
              refine va_get (D := (dC, dI)) (ci := 6) (v := .ref (q 2)) (C := RX6) (T := TX6) (N := 12) hx hb hts hi6 hown hK.1 hP 0 rfl rfl 1 (by decide) (hts _ wmt1_171) (fun _ h9 => h9) rfl dX6_copy_18 ?_
              refine lv_iload_n hx hb dX6_copy_21 rfl (lv_at hl 1 rfl) ?_
              refine va_aldq (D := (dC, dI)) hx hb hK.1 hP 2 4 rfl rfl (show ¬ _ by decide) dX6_copy_22 ?_
              refine z_top (v2 := .ref (q 28)) (rfl) ?_
              refine lv_astore (lv' := [(6, .ref (q 28)), (0, .ref (q 0)), (1, .int 0), (2, .int i), (3, .int 3), (4, .int j), (5, .int n)]) hx hb dX6_copy_23 hl (by decide) rfl (fun ls hl => ?_)
              refine lv_aload_n hx hb dX6_copy_25 rfl (lv_at hl 1 rfl) ?_
              refine va_get (D := (dC, dI)) (ci := 6) (v := .ref (q 2)) (C := RX6) (T := TX6) (N := 12) hx hb hts hi6 hown hK.1 hP 0 rfl rfl 1 (by decide) (hts _ wmt1_171) (fun _ h9 => h9) rfl dX6_copy_26 ?_
              refine lv_iload_n hx hb dX6_copy_29 rfl (lv_at hl 4 rfl) ?_
              refine va_aldq (D := (dC, dI)) hx hb hK.1 hP 2 4 rfl rfl (show ¬ _ by decide) dX6_copy_30 ?_
              refine z_top (v2 := .ref (q 34)) (rfl) ?_
              refine lv_astore (lv' := [(7, .ref (q 34)), (6, .ref (q 28)), (0, .ref (q 0)), (1, .int 0), (2, .int i), (3, .int 3), (4, .int j), (5, .int n)]) hx hb dX6_copy_31 hl (by decide) rfl (fun ls hl => ?_)
              refine lv_aload hx hb dX6_copy_33 (lv_at hl 1 rfl) ?_
              refine zcS_i (w := (zX k q 0 (-1) 12 100 0 (fun _ => 0) aps 0 ar1 ar2 ar3 ar4 ar5 ar6 ar7 ph pp py wy fa fb cm0 ia0 0 0 ih0 in0 il0 tx0 sh0 cm1 ia1 0 0 ih1 in1 il1 tx1 sh1 cm2 ia2 0 0 ih2 in2 il2 tx2 sh2 cm3 ia3 0 0 ih3 in3 il3 tx3 sh3 (-1) 0 it0 (-1) 0 it1 (-1) 0 it2 (-1) 0 it3)) (wc := (zShe k (q 28) (q 29) it0 (-1) 0)) (va_runV (As := []) (rest := []) ⟨hx, hb, hml, hown, hts⟩ (c_X5_isLost l dC dI k (zTX k) (q 28) (q 29) it0 0 _ ) (cwV 0 hts (gzV wmt2_98 wmt2_99 wmt2_100 wmt1_7 wmt2_101) rfl rfl rfl (by decide +kernel) ⟨Nat.le_of_ble_eq_true rfl, Nat.le_of_ble_eq_true rfl⟩) (zp_V (ci := 5) (q0 := 28) hK hP hD [28, 29] rfl rfl rfl rfl) rfl rfl hl.1 rfl (lv_room (Nat.le_of_ble_eq_true rfl)) dX6_copy_35 ⟨Nat.le_of_ble_eq_true rfl, Nat.le_of_ble_eq_true rfl⟩) hP hD hS hA [28, 29] rfl (fun _ => rfl) (fun r_50 u_51 H locs w_52 hP hD hS => ?_)
              have hP : va_P (dC, dI) vwCl (zX k q 0 (-1) 12 100 0 (fun _ => 0) aps 0 ar1 ar2 ar3 ar4 ar5 ar6 ar7 ph pp py wy fa fb cm0 ia0 0 0 ih0 in0 il0 tx0 sh0 cm1 ia1 0 0 ih1 in1 il1 tx1 sh1 cm2 ia2 0 0 ih2 in2 il2 tx2 sh2 cm3 ia3 0 0 ih3 in3 il3 tx3 sh3 (-1) 0 it0 (-1) 0 it1 (-1) 0 it2 (-1) 0 it3) H := hP
              have hD : va_D A (zX k q 0 (-1) 12 100 0 (fun _ => 0) aps 0 ar1 ar2 ar3 ar4 ar5 ar6 ar7 ph pp py wy fa fb cm0 ia0 0 0 ih0 in0 il0 tx0 sh0 cm1 ia1 0 0 ih1 in1 il1 tx1 sh1 cm2 ia2 0 0 ih2 in2 il2 tx2 sh2 cm3 ia3 0 0 ih3 in3 il3 tx3 sh3 (-1) 0 it0 (-1) 0 it1 (-1) 0 it2 (-1) 0 it3) := hD
              have e_53 := w_52
              replace e_53 : r_50 = 1 := e_53
              subst e_53
              refine lv_if_ne (tgt := 49) hx hb dX6_copy_38 (by decide) (fun c_54 => ?_) (fun c_54 => ?_)
              · skip
                refine lv_aload_n hx hb dX6_copy_49 rfl (lv_at hl 2 rfl) ?_
                refine lv_iconst (v := 1) hx hb dX6_copy_50 (by decide) ?_
                refine zcA_i (w := (zX k q 0 (-1) 12 100 0 (fun _ => 0) aps 0 ar1 ar2 ar3 ar4 ar5 ar6 ar7 ph pp py wy fa fb cm0 ia0 0 0 ih0 in0 il0 tx0 sh0 cm1 ia1 0 0 ih1 in1 il1 tx1 sh1 cm2 ia2 0 0 ih2 in2 il2 tx2 sh2 cm3 ia3 0 0 ih3 in3 il3 tx3 sh3 (-1) 0 it0 (-1) 0 it1 (-1) 0 it2 (-1) 0 it3)) (va_runV (As := [.int 1]) (rest := []) ⟨hx, hb, hml, hown, hts⟩ (c_X6_found_1 l dC dI k  q aps ar1 ar2 ar3 ar4 ar5 ar6 ar7 ph pp py wy fa fb cm0 ia0 ih0 in0 il0 tx0 sh0 cm1 ia1 ih1 in1 il1 tx1 sh1 cm2 ia2 ih2 in2 il2 tx2 sh2 cm3 ia3 ih3 in3 il3 tx3 sh3 it0 it1 it2 it3 _ ) (cwV 1 hts (gzV wmt2_102 wmt2_104 wmp1_7 wmt1_1 wmt2_105) rfl rfl rfl (by decide +kernel) ⟨Nat.le_of_ble_eq_true rfl, Nat.le_of_ble_eq_true rfl⟩) (zpA_V (ci := 6) (q0 := 0) hK hP hD rfl rfl) rfl rfl hl.1 rfl (lv_room (Nat.le_of_ble_eq_true rfl)) dX6_copy_51 ⟨Nat.le_of_ble_eq_true rfl, Nat.le_of_ble_eq_true rfl⟩) hD hS hA (fun r_55 u_56 H locs w_57 hP hD hS => ?_)
                obtain ⟨oxfi_58, rfl⟩ : ∃ z, z = u_56 := ⟨_, rfl⟩
                have hP : va_P (dC, dI) vwCl (zX k q 0 (-1) 12 100 oxfi_58 (fun _ => 0) aps 0 ar1 ar2 ar3 ar4 ar5 ar6 ar7 ph pp py wy fa fb cm0 ia0 0 0 ih0 in0 il0 tx0 sh0 cm1 ia1 0 0 ih1 in1 il1 tx1 sh1 cm2 ia2 0 0 ih2 in2 il2 tx2 sh2 cm3 ia3 0 0 ih3 in3 il3 tx3 sh3 (-1) 0 it0 (-1) 0 it1 (-1) 0 it2 (-1) 0 it3) H := hP
                have hD : va_D A (zX k q 0 (-1) 12 100 oxfi_58 (fun _ => 0) aps 0 ar1 ar2 ar3 ar4 ar5 ar6 ar7 ph pp py wy fa fb cm0 ia0 0 0 ih0 in0 il0 tx0 sh0 cm1 ia1 0 0 ih1 in1 il1 tx1 sh1 cm2 ia2 0 0 ih2 in2 il2 tx2 sh2 cm3 ia3 0 0 ih3 in3 il3 tx3 sh3 (-1) 0 it0 (-1) 0 it1 (-1) 0 it2 (-1) 0 it3) := hD
                have e_59 := w_57
                replace e_59 : r_55 = (-11) := e_59
                subst e_59
                exact W.iret (v := (-11)) hx hb hr (fun t ht hW => ⟨⟨(-11), (oxfi_58), rfl, (by first | assumption | with_reducible rfl | contradiction | exact (if_pos (by repeat' (first | assumption | decide | constructor))).symm | exact (if_neg (fun hh => absurd hh (by assumption))).symm | exact (if_neg (fun hh => absurd hh.1 (by assumption))).symm | exact (if_neg (fun hh => absurd hh.1.1 (by assumption))).symm | exact (if_neg (fun hh => absurd hh.1.2 (by assumption))).symm | exact (if_neg (fun hh => absurd hh.2 (by assumption))).symm | exact (if_neg (fun hh => absurd hh.2.1 (by assumption))).symm | exact (if_neg (fun hh => absurd hh.2.2 (by assumption))).symm | decide | (exfalso; simp only [zi_le, zi_lt, zi_eq, zi_n0, zi_n1, zi_n2, zi_n3, zi_n4, zi_n23, zi_n24, zi_n100, zi_n399, zi_n60, zi_n255, zi_n99, zi_nm1, zi_n30] at *; omega) | (simp_all; done)), ⟨by rw [ht]; exact hP, hD⟩⟩, hS.F ht⟩) hS.2.2 dX6_copy_54
              · skip
                exact absurd c_54 (by decide)
            · skip
              exact absurd c_49 (by decide)
        · skip
          replace e_15 : r_9 = 0 := e_15
          subst e_15
          replace h_14 : ¬ (0 ≤ (z2 : Int32) ∧ (z2 : Int32) ≤ 3) := h_14
          refine lv_if_ne (tgt := 17) hx hb dX6_copy_11 (by decide) (fun c_60 => ?_) (fun c_60 => ?_)
          · skip
            exact absurd c_60 (by decide)
          · skip
            refine lv_bipush (v := (-2)) hx hb dX6_copy_14 (by decide) ?_
            exact W.iret (v := (-2)) hx hb hr (fun t ht hW => ⟨⟨(-2), (0), rfl, (by first | assumption | with_reducible rfl | contradiction | exact (if_pos (by repeat' (first | assumption | decide | constructor))).symm | exact (if_neg (fun hh => absurd hh (by assumption))).symm | exact (if_neg (fun hh => absurd hh.1 (by assumption))).symm | exact (if_neg (fun hh => absurd hh.1.1 (by assumption))).symm | exact (if_neg (fun hh => absurd hh.1.2 (by assumption))).symm | exact (if_neg (fun hh => absurd hh.2 (by assumption))).symm | exact (if_neg (fun hh => absurd hh.2.1 (by assumption))).symm | exact (if_neg (fun hh => absurd hh.2.2 (by assumption))).symm | decide | (exfalso; simp only [zi_le, zi_lt, zi_eq, zi_n0, zi_n1, zi_n2, zi_n3, zi_n4, zi_n23, zi_n24, zi_n100, zi_n399, zi_n60, zi_n255, zi_n99, zi_nm1, zi_n30] at *; omega) | (simp_all; done)), ⟨by rw [ht]; exact hP, hD⟩⟩, hS.F ht⟩) hS.2.2 dX6_copy_16
    · skip
      refine lv_if_eq (tgt := 14) hx hb dX6_copy_4 (by decide) (fun c_61 => ?_) (fun c_61 => ?_)
      · skip
        exact absurd c_61 (by decide)
      · skip
        refine lv_iload_n hx hb dX6_copy_7 rfl (lv_at hl 3 rfl) ?_
        refine zc0_i (w := (zX k q 0 (-1) 12 100 0 (fun _ => 0) aps 0 ar1 ar2 ar3 ar4 ar5 ar6 ar7 ph pp py wy fa fb cm0 ia0 0 0 ih0 in0 il0 tx0 sh0 cm1 ia1 0 0 ih1 in1 il1 tx1 sh1 cm2 ia2 0 0 ih2 in2 il2 tx2 sh2 cm3 ia3 0 0 ih3 in3 il3 tx3 sh3 (-1) 0 it0 (-1) 0 it1 (-1) 0 it2 (-1) 0 it3)) (va_runS (As := [.int z2]) (rest := []) ⟨hx, hb, hml, hown, hts⟩ (c_X6_isSheet l dC dI k (zTX k) z2 _ ) (va_cwS 1 hts (gzS wmt2_95 wmt2_96 wmt1_1 wmt2_97) rfl rfl rfl (by decide +kernel) ⟨Nat.le_of_ble_eq_true rfl, Nat.le_of_ble_eq_true rfl⟩) (zp0_S hK) rfl rfl hl.1 rfl (lv_room (Nat.le_of_ble_eq_true rfl)) dX6_copy_8 ⟨Nat.le_of_ble_eq_true rfl, Nat.le_of_ble_eq_true rfl⟩) hP hS hA (fun r_62 u_63 H locs w_64 hP hS => ?_)
        rcases w_64 with ⟨e_66, h_65⟩ | ⟨e_68, h_67⟩
        · skip
          replace e_66 : r_62 = 1 := e_66
          subst e_66
          replace h_65 : 0 ≤ (z2 : Int32) ∧ (z2 : Int32) ≤ 3 := h_65
          rcases zi_4 h_65 with rfl | rfl | rfl | rfl
          · skip
            refine lv_if_ne (tgt := 17) hx hb dX6_copy_11 (by decide) (fun c_69 => ?_) (fun c_69 => ?_)
            · skip
              refine lv_aload_n hx hb dX6_copy_17 rfl (lv_at hl 0 rfl) ?_
              refine va_get (D := (dC, dI)) (ci := 6) (v := .ref (q 2)) (C := RX6) (T := TX6) (N := 12) hx hb hts hi6 hown hK.1 hP 0 rfl rfl 1 (by decide) (hts _ wmt1_171) (fun _ h9 => h9) rfl dX6_copy_18 ?_
              refine lv_iload_n hx hb dX6_copy_21 rfl (lv_at hl 1 rfl) ?_
              refine va_aldq (D := (dC, dI)) hx hb hK.1 hP 2 4 rfl rfl (show ¬ _ by decide) dX6_copy_22 ?_
              refine z_top (v2 := .ref (q 30)) (rfl) ?_
              refine lv_astore (lv' := [(6, .ref (q 30)), (0, .ref (q 0)), (1, .int 1), (2, .int i), (3, .int 0), (4, .int j), (5, .int n)]) hx hb dX6_copy_23 hl (by decide) rfl (fun ls hl => ?_)
              refine lv_aload_n hx hb dX6_copy_25 rfl (lv_at hl 1 rfl) ?_
              refine va_get (D := (dC, dI)) (ci := 6) (v := .ref (q 2)) (C := RX6) (T := TX6) (N := 12) hx hb hts hi6 hown hK.1 hP 0 rfl rfl 1 (by decide) (hts _ wmt1_171) (fun _ h9 => h9) rfl dX6_copy_26 ?_
              refine lv_iload_n hx hb dX6_copy_29 rfl (lv_at hl 4 rfl) ?_
              refine va_aldq (D := (dC, dI)) hx hb hK.1 hP 2 4 rfl rfl (show ¬ _ by decide) dX6_copy_30 ?_
              refine z_top (v2 := .ref (q 28)) (rfl) ?_
              refine lv_astore (lv' := [(7, .ref (q 28)), (6, .ref (q 30)), (0, .ref (q 0)), (1, .int 1), (2, .int i), (3, .int 0), (4, .int j), (5, .int n)]) hx hb dX6_copy_31 hl (by decide) rfl (fun ls hl => ?_)
              refine lv_aload hx hb dX6_copy_33 (lv_at hl 1 rfl) ?_
              refine zcS_i (w := (zX k q 0 (-1) 12 100 0 (fun _ => 0) aps 0 ar1 ar2 ar3 ar4 ar5 ar6 ar7 ph pp py wy fa fb cm0 ia0 0 0 ih0 in0 il0 tx0 sh0 cm1 ia1 0 0 ih1 in1 il1 tx1 sh1 cm2 ia2 0 0 ih2 in2 il2 tx2 sh2 cm3 ia3 0 0 ih3 in3 il3 tx3 sh3 (-1) 0 it0 (-1) 0 it1 (-1) 0 it2 (-1) 0 it3)) (wc := (zShe k (q 30) (q 31) it1 (-1) 0)) (va_runV (As := []) (rest := []) ⟨hx, hb, hml, hown, hts⟩ (c_X5_isLost l dC dI k (zTX k) (q 30) (q 31) it1 0 _ ) (cwV 0 hts (gzV wmt2_98 wmt2_99 wmt2_100 wmt1_7 wmt2_101) rfl rfl rfl (by decide +kernel) ⟨Nat.le_of_ble_eq_true rfl, Nat.le_of_ble_eq_true rfl⟩) (zp_V (ci := 5) (q0 := 30) hK hP hD [30, 31] rfl rfl rfl rfl) rfl rfl hl.1 rfl (lv_room (Nat.le_of_ble_eq_true rfl)) dX6_copy_35 ⟨Nat.le_of_ble_eq_true rfl, Nat.le_of_ble_eq_true rfl⟩) hP hD hS hA [30, 31] rfl (fun _ => rfl) (fun r_70 u_71 H locs w_72 hP hD hS => ?_)
              have hP : va_P (dC, dI) vwCl (zX k q 0 (-1) 12 100 0 (fun _ => 0) aps 0 ar1 ar2 ar3 ar4 ar5 ar6 ar7 ph pp py wy fa fb cm0 ia0 0 0 ih0 in0 il0 tx0 sh0 cm1 ia1 0 0 ih1 in1 il1 tx1 sh1 cm2 ia2 0 0 ih2 in2 il2 tx2 sh2 cm3 ia3 0 0 ih3 in3 il3 tx3 sh3 (-1) 0 it0 (-1) 0 it1 (-1) 0 it2 (-1) 0 it3) H := hP
              have hD : va_D A (zX k q 0 (-1) 12 100 0 (fun _ => 0) aps 0 ar1 ar2 ar3 ar4 ar5 ar6 ar7 ph pp py wy fa fb cm0 ia0 0 0 ih0 in0 il0 tx0 sh0 cm1 ia1 0 0 ih1 in1 il1 tx1 sh1 cm2 ia2 0 0 ih2 in2 il2 tx2 sh2 cm3 ia3 0 0 ih3 in3 il3 tx3 sh3 (-1) 0 it0 (-1) 0 it1 (-1) 0 it2 (-1) 0 it3) := hD
              have e_73 := w_72
              replace e_73 : r_70 = 1 := e_73
              subst e_73
              refine lv_if_ne (tgt := 49) hx hb dX6_copy_38 (by decide) (fun c_74 => ?_) (fun c_74 => ?_)
              · skip
                refine lv_aload_n hx hb dX6_copy_49 rfl (lv_at hl 2 rfl) ?_
                refine lv_iconst (v := 1) hx hb dX6_copy_50 (by decide) ?_
                refine zcA_i (w := (zX k q 0 (-1) 12 100 0 (fun _ => 0) aps 0 ar1 ar2 ar3 ar4 ar5 ar6 ar7 ph pp py wy fa fb cm0 ia0 0 0 ih0 in0 il0 tx0 sh0 cm1 ia1 0 0 ih1 in1 il1 tx1 sh1 cm2 ia2 0 0 ih2 in2 il2 tx2 sh2 cm3 ia3 0 0 ih3 in3 il3 tx3 sh3 (-1) 0 it0 (-1) 0 it1 (-1) 0 it2 (-1) 0 it3)) (va_runV (As := [.int 1]) (rest := []) ⟨hx, hb, hml, hown, hts⟩ (c_X6_found_1 l dC dI k  q aps ar1 ar2 ar3 ar4 ar5 ar6 ar7 ph pp py wy fa fb cm0 ia0 ih0 in0 il0 tx0 sh0 cm1 ia1 ih1 in1 il1 tx1 sh1 cm2 ia2 ih2 in2 il2 tx2 sh2 cm3 ia3 ih3 in3 il3 tx3 sh3 it0 it1 it2 it3 _ ) (cwV 1 hts (gzV wmt2_102 wmt2_104 wmp1_7 wmt1_1 wmt2_105) rfl rfl rfl (by decide +kernel) ⟨Nat.le_of_ble_eq_true rfl, Nat.le_of_ble_eq_true rfl⟩) (zpA_V (ci := 6) (q0 := 0) hK hP hD rfl rfl) rfl rfl hl.1 rfl (lv_room (Nat.le_of_ble_eq_true rfl)) dX6_copy_51 ⟨Nat.le_of_ble_eq_true rfl, Nat.le_of_ble_eq_true rfl⟩) hD hS hA (fun r_75 u_76 H locs w_77 hP hD hS => ?_)
                obtain ⟨oxfi_78, rfl⟩ : ∃ z, z = u_76 := ⟨_, rfl⟩
                have hP : va_P (dC, dI) vwCl (zX k q 0 (-1) 12 100 oxfi_78 (fun _ => 0) aps 0 ar1 ar2 ar3 ar4 ar5 ar6 ar7 ph pp py wy fa fb cm0 ia0 0 0 ih0 in0 il0 tx0 sh0 cm1 ia1 0 0 ih1 in1 il1 tx1 sh1 cm2 ia2 0 0 ih2 in2 il2 tx2 sh2 cm3 ia3 0 0 ih3 in3 il3 tx3 sh3 (-1) 0 it0 (-1) 0 it1 (-1) 0 it2 (-1) 0 it3) H := hP
                have hD : va_D A (zX k q 0 (-1) 12 100 oxfi_78 (fun _ => 0) aps 0 ar1 ar2 ar3 ar4 ar5 ar6 ar7 ph pp py wy fa fb cm0 ia0 0 0 ih0 in0 il0 tx0 sh0 cm1 ia1 0 0 ih1 in1 il1 tx1 sh1 cm2 ia2 0 0 ih2 in2 il2 tx2 sh2 cm3 ia3 0 0 ih3 in3 il3 tx3 sh3 (-1) 0 it0 (-1) 0 it1 (-1) 0 it2 (-1) 0 it3) := hD
                have e_79 := w_77
                replace e_79 : r_75 = (-11) := e_79
                subst e_79
                exact W.iret (v := (-11)) hx hb hr (fun t ht hW => ⟨⟨(-11), (oxfi_78), rfl, (by first | assumption | with_reducible rfl | contradiction | exact (if_pos (by repeat' (first | assumption | decide | constructor))).symm | exact (if_neg (fun hh => absurd hh (by assumption))).symm | exact (if_neg (fun hh => absurd hh.1 (by assumption))).symm | exact (if_neg (fun hh => absurd hh.1.1 (by assumption))).symm | exact (if_neg (fun hh => absurd hh.1.2 (by assumption))).symm | exact (if_neg (fun hh => absurd hh.2 (by assumption))).symm | exact (if_neg (fun hh => absurd hh.2.1 (by assumption))).symm | exact (if_neg (fun hh => absurd hh.2.2 (by assumption))).symm | decide | (exfalso; simp only [zi_le, zi_lt, zi_eq, zi_n0, zi_n1, zi_n2, zi_n3, zi_n4, zi_n23, zi_n24, zi_n100, zi_n399, zi_n60, zi_n255, zi_n99, zi_nm1, zi_n30] at *; omega) | (simp_all; done)), ⟨by rw [ht]; exact hP, hD⟩⟩, hS.F ht⟩) hS.2.2 dX6_copy_54
              · skip
                exact absurd c_74 (by decide)
            · skip
              exact absurd c_69 (by decide)
          · skip
            refine lv_if_ne (tgt := 17) hx hb dX6_copy_11 (by decide) (fun c_80 => ?_) (fun c_80 => ?_)
            · skip
              refine lv_aload_n hx hb dX6_copy_17 rfl (lv_at hl 0 rfl) ?_
              refine va_get (D := (dC, dI)) (ci := 6) (v := .ref (q 2)) (C := RX6) (T := TX6) (N := 12) hx hb hts hi6 hown hK.1 hP 0 rfl rfl 1 (by decide) (hts _ wmt1_171) (fun _ h9 => h9) rfl dX6_copy_18 ?_
              refine lv_iload_n hx hb dX6_copy_21 rfl (lv_at hl 1 rfl) ?_
              refine va_aldq (D := (dC, dI)) hx hb hK.1 hP 2 4 rfl rfl (show ¬ _ by decide) dX6_copy_22 ?_
              refine z_top (v2 := .ref (q 30)) (rfl) ?_
              refine lv_astore (lv' := [(6, .ref (q 30)), (0, .ref (q 0)), (1, .int 1), (2, .int i), (3, .int 1), (4, .int j), (5, .int n)]) hx hb dX6_copy_23 hl (by decide) rfl (fun ls hl => ?_)
              refine lv_aload_n hx hb dX6_copy_25 rfl (lv_at hl 1 rfl) ?_
              refine va_get (D := (dC, dI)) (ci := 6) (v := .ref (q 2)) (C := RX6) (T := TX6) (N := 12) hx hb hts hi6 hown hK.1 hP 0 rfl rfl 1 (by decide) (hts _ wmt1_171) (fun _ h9 => h9) rfl dX6_copy_26 ?_
              refine lv_iload_n hx hb dX6_copy_29 rfl (lv_at hl 4 rfl) ?_
              refine va_aldq (D := (dC, dI)) hx hb hK.1 hP 2 4 rfl rfl (show ¬ _ by decide) dX6_copy_30 ?_
              refine z_top (v2 := .ref (q 30)) (rfl) ?_
              refine lv_astore (lv' := [(7, .ref (q 30)), (6, .ref (q 30)), (0, .ref (q 0)), (1, .int 1), (2, .int i), (3, .int 1), (4, .int j), (5, .int n)]) hx hb dX6_copy_31 hl (by decide) rfl (fun ls hl => ?_)
              refine lv_aload hx hb dX6_copy_33 (lv_at hl 1 rfl) ?_
              refine zcS_i (w := (zX k q 0 (-1) 12 100 0 (fun _ => 0) aps 0 ar1 ar2 ar3 ar4 ar5 ar6 ar7 ph pp py wy fa fb cm0 ia0 0 0 ih0 in0 il0 tx0 sh0 cm1 ia1 0 0 ih1 in1 il1 tx1 sh1 cm2 ia2 0 0 ih2 in2 il2 tx2 sh2 cm3 ia3 0 0 ih3 in3 il3 tx3 sh3 (-1) 0 it0 (-1) 0 it1 (-1) 0 it2 (-1) 0 it3)) (wc := (zShe k (q 30) (q 31) it1 (-1) 0)) (va_runV (As := []) (rest := []) ⟨hx, hb, hml, hown, hts⟩ (c_X5_isLost l dC dI k (zTX k) (q 30) (q 31) it1 0 _ ) (cwV 0 hts (gzV wmt2_98 wmt2_99 wmt2_100 wmt1_7 wmt2_101) rfl rfl rfl (by decide +kernel) ⟨Nat.le_of_ble_eq_true rfl, Nat.le_of_ble_eq_true rfl⟩) (zp_V (ci := 5) (q0 := 30) hK hP hD [30, 31] rfl rfl rfl rfl) rfl rfl hl.1 rfl (lv_room (Nat.le_of_ble_eq_true rfl)) dX6_copy_35 ⟨Nat.le_of_ble_eq_true rfl, Nat.le_of_ble_eq_true rfl⟩) hP hD hS hA [30, 31] rfl (fun _ => rfl) (fun r_81 u_82 H locs w_83 hP hD hS => ?_)
              have hP : va_P (dC, dI) vwCl (zX k q 0 (-1) 12 100 0 (fun _ => 0) aps 0 ar1 ar2 ar3 ar4 ar5 ar6 ar7 ph pp py wy fa fb cm0 ia0 0 0 ih0 in0 il0 tx0 sh0 cm1 ia1 0 0 ih1 in1 il1 tx1 sh1 cm2 ia2 0 0 ih2 in2 il2 tx2 sh2 cm3 ia3 0 0 ih3 in3 il3 tx3 sh3 (-1) 0 it0 (-1) 0 it1 (-1) 0 it2 (-1) 0 it3) H := hP
              have hD : va_D A (zX k q 0 (-1) 12 100 0 (fun _ => 0) aps 0 ar1 ar2 ar3 ar4 ar5 ar6 ar7 ph pp py wy fa fb cm0 ia0 0 0 ih0 in0 il0 tx0 sh0 cm1 ia1 0 0 ih1 in1 il1 tx1 sh1 cm2 ia2 0 0 ih2 in2 il2 tx2 sh2 cm3 ia3 0 0 ih3 in3 il3 tx3 sh3 (-1) 0 it0 (-1) 0 it1 (-1) 0 it2 (-1) 0 it3) := hD
              have e_84 := w_83
              replace e_84 : r_81 = 1 := e_84
              subst e_84
              refine lv_if_ne (tgt := 49) hx hb dX6_copy_38 (by decide) (fun c_85 => ?_) (fun c_85 => ?_)
              · skip
                refine lv_aload_n hx hb dX6_copy_49 rfl (lv_at hl 2 rfl) ?_
                refine lv_iconst (v := 1) hx hb dX6_copy_50 (by decide) ?_
                refine zcA_i (w := (zX k q 0 (-1) 12 100 0 (fun _ => 0) aps 0 ar1 ar2 ar3 ar4 ar5 ar6 ar7 ph pp py wy fa fb cm0 ia0 0 0 ih0 in0 il0 tx0 sh0 cm1 ia1 0 0 ih1 in1 il1 tx1 sh1 cm2 ia2 0 0 ih2 in2 il2 tx2 sh2 cm3 ia3 0 0 ih3 in3 il3 tx3 sh3 (-1) 0 it0 (-1) 0 it1 (-1) 0 it2 (-1) 0 it3)) (va_runV (As := [.int 1]) (rest := []) ⟨hx, hb, hml, hown, hts⟩ (c_X6_found_1 l dC dI k  q aps ar1 ar2 ar3 ar4 ar5 ar6 ar7 ph pp py wy fa fb cm0 ia0 ih0 in0 il0 tx0 sh0 cm1 ia1 ih1 in1 il1 tx1 sh1 cm2 ia2 ih2 in2 il2 tx2 sh2 cm3 ia3 ih3 in3 il3 tx3 sh3 it0 it1 it2 it3 _ ) (cwV 1 hts (gzV wmt2_102 wmt2_104 wmp1_7 wmt1_1 wmt2_105) rfl rfl rfl (by decide +kernel) ⟨Nat.le_of_ble_eq_true rfl, Nat.le_of_ble_eq_true rfl⟩) (zpA_V (ci := 6) (q0 := 0) hK hP hD rfl rfl) rfl rfl hl.1 rfl (lv_room (Nat.le_of_ble_eq_true rfl)) dX6_copy_51 ⟨Nat.le_of_ble_eq_true rfl, Nat.le_of_ble_eq_true rfl⟩) hD hS hA (fun r_86 u_87 H locs w_88 hP hD hS => ?_)
                obtain ⟨oxfi_89, rfl⟩ : ∃ z, z = u_87 := ⟨_, rfl⟩
                have hP : va_P (dC, dI) vwCl (zX k q 0 (-1) 12 100 oxfi_89 (fun _ => 0) aps 0 ar1 ar2 ar3 ar4 ar5 ar6 ar7 ph pp py wy fa fb cm0 ia0 0 0 ih0 in0 il0 tx0 sh0 cm1 ia1 0 0 ih1 in1 il1 tx1 sh1 cm2 ia2 0 0 ih2 in2 il2 tx2 sh2 cm3 ia3 0 0 ih3 in3 il3 tx3 sh3 (-1) 0 it0 (-1) 0 it1 (-1) 0 it2 (-1) 0 it3) H := hP
                have hD : va_D A (zX k q 0 (-1) 12 100 oxfi_89 (fun _ => 0) aps 0 ar1 ar2 ar3 ar4 ar5 ar6 ar7 ph pp py wy fa fb cm0 ia0 0 0 ih0 in0 il0 tx0 sh0 cm1 ia1 0 0 ih1 in1 il1 tx1 sh1 cm2 ia2 0 0 ih2 in2 il2 tx2 sh2 cm3 ia3 0 0 ih3 in3 il3 tx3 sh3 (-1) 0 it0 (-1) 0 it1 (-1) 0 it2 (-1) 0 it3) := hD
                have e_90 := w_88
                replace e_90 : r_86 = (-11) := e_90
                subst e_90
                exact W.iret (v := (-11)) hx hb hr (fun t ht hW => ⟨⟨(-11), (oxfi_89), rfl, (by first | assumption | with_reducible rfl | contradiction | exact (if_pos (by repeat' (first | assumption | decide | constructor))).symm | exact (if_neg (fun hh => absurd hh (by assumption))).symm | exact (if_neg (fun hh => absurd hh.1 (by assumption))).symm | exact (if_neg (fun hh => absurd hh.1.1 (by assumption))).symm | exact (if_neg (fun hh => absurd hh.1.2 (by assumption))).symm | exact (if_neg (fun hh => absurd hh.2 (by assumption))).symm | exact (if_neg (fun hh => absurd hh.2.1 (by assumption))).symm | exact (if_neg (fun hh => absurd hh.2.2 (by assumption))).symm | decide | (exfalso; simp only [zi_le, zi_lt, zi_eq, zi_n0, zi_n1, zi_n2, zi_n3, zi_n4, zi_n23, zi_n24, zi_n100, zi_n399, zi_n60, zi_n255, zi_n99, zi_nm1, zi_n30] at *; omega) | (simp_all; done)), ⟨by rw [ht]; exact hP, hD⟩⟩, hS.F ht⟩) hS.2.2 dX6_copy_54
              · skip
                exact absurd c_85 (by decide)
            · skip
              exact absurd c_80 (by decide)
          · skip
            refine lv_if_ne (tgt := 17) hx hb dX6_copy_11 (by decide) (fun c_91 => ?_) (fun c_91 => ?_)
            · skip
              refine lv_aload_n hx hb dX6_copy_17 rfl (lv_at hl 0 rfl) ?_
              refine va_get (D := (dC, dI)) (ci := 6) (v := .ref (q 2)) (C := RX6) (T := TX6) (N := 12) hx hb hts hi6 hown hK.1 hP 0 rfl rfl 1 (by decide) (hts _ wmt1_171) (fun _ h9 => h9) rfl dX6_copy_18 ?_
              refine lv_iload_n hx hb dX6_copy_21 rfl (lv_at hl 1 rfl) ?_
              refine va_aldq (D := (dC, dI)) hx hb hK.1 hP 2 4 rfl rfl (show ¬ _ by decide) dX6_copy_22 ?_
              refine z_top (v2 := .ref (q 30)) (rfl) ?_
              refine lv_astore (lv' := [(6, .ref (q 30)), (0, .ref (q 0)), (1, .int 1), (2, .int i), (3, .int 2), (4, .int j), (5, .int n)]) hx hb dX6_copy_23 hl (by decide) rfl (fun ls hl => ?_)
              refine lv_aload_n hx hb dX6_copy_25 rfl (lv_at hl 1 rfl) ?_
              refine va_get (D := (dC, dI)) (ci := 6) (v := .ref (q 2)) (C := RX6) (T := TX6) (N := 12) hx hb hts hi6 hown hK.1 hP 0 rfl rfl 1 (by decide) (hts _ wmt1_171) (fun _ h9 => h9) rfl dX6_copy_26 ?_
              refine lv_iload_n hx hb dX6_copy_29 rfl (lv_at hl 4 rfl) ?_
              refine va_aldq (D := (dC, dI)) hx hb hK.1 hP 2 4 rfl rfl (show ¬ _ by decide) dX6_copy_30 ?_
              refine z_top (v2 := .ref (q 32)) (rfl) ?_
              refine lv_astore (lv' := [(7, .ref (q 32)), (6, .ref (q 30)), (0, .ref (q 0)), (1, .int 1), (2, .int i), (3, .int 2), (4, .int j), (5, .int n)]) hx hb dX6_copy_31 hl (by decide) rfl (fun ls hl => ?_)
              refine lv_aload hx hb dX6_copy_33 (lv_at hl 1 rfl) ?_
              refine zcS_i (w := (zX k q 0 (-1) 12 100 0 (fun _ => 0) aps 0 ar1 ar2 ar3 ar4 ar5 ar6 ar7 ph pp py wy fa fb cm0 ia0 0 0 ih0 in0 il0 tx0 sh0 cm1 ia1 0 0 ih1 in1 il1 tx1 sh1 cm2 ia2 0 0 ih2 in2 il2 tx2 sh2 cm3 ia3 0 0 ih3 in3 il3 tx3 sh3 (-1) 0 it0 (-1) 0 it1 (-1) 0 it2 (-1) 0 it3)) (wc := (zShe k (q 30) (q 31) it1 (-1) 0)) (va_runV (As := []) (rest := []) ⟨hx, hb, hml, hown, hts⟩ (c_X5_isLost l dC dI k (zTX k) (q 30) (q 31) it1 0 _ ) (cwV 0 hts (gzV wmt2_98 wmt2_99 wmt2_100 wmt1_7 wmt2_101) rfl rfl rfl (by decide +kernel) ⟨Nat.le_of_ble_eq_true rfl, Nat.le_of_ble_eq_true rfl⟩) (zp_V (ci := 5) (q0 := 30) hK hP hD [30, 31] rfl rfl rfl rfl) rfl rfl hl.1 rfl (lv_room (Nat.le_of_ble_eq_true rfl)) dX6_copy_35 ⟨Nat.le_of_ble_eq_true rfl, Nat.le_of_ble_eq_true rfl⟩) hP hD hS hA [30, 31] rfl (fun _ => rfl) (fun r_92 u_93 H locs w_94 hP hD hS => ?_)
              have hP : va_P (dC, dI) vwCl (zX k q 0 (-1) 12 100 0 (fun _ => 0) aps 0 ar1 ar2 ar3 ar4 ar5 ar6 ar7 ph pp py wy fa fb cm0 ia0 0 0 ih0 in0 il0 tx0 sh0 cm1 ia1 0 0 ih1 in1 il1 tx1 sh1 cm2 ia2 0 0 ih2 in2 il2 tx2 sh2 cm3 ia3 0 0 ih3 in3 il3 tx3 sh3 (-1) 0 it0 (-1) 0 it1 (-1) 0 it2 (-1) 0 it3) H := hP
              have hD : va_D A (zX k q 0 (-1) 12 100 0 (fun _ => 0) aps 0 ar1 ar2 ar3 ar4 ar5 ar6 ar7 ph pp py wy fa fb cm0 ia0 0 0 ih0 in0 il0 tx0 sh0 cm1 ia1 0 0 ih1 in1 il1 tx1 sh1 cm2 ia2 0 0 ih2 in2 il2 tx2 sh2 cm3 ia3 0 0 ih3 in3 il3 tx3 sh3 (-1) 0 it0 (-1) 0 it1 (-1) 0 it2 (-1) 0 it3) := hD
              have e_95 := w_94
              replace e_95 : r_92 = 1 := e_95
              subst e_95
              refine lv_if_ne (tgt := 49) hx hb dX6_copy_38 (by decide) (fun c_96 => ?_) (fun c_96 => ?_)
              · skip
                refine lv_aload_n hx hb dX6_copy_49 rfl (lv_at hl 2 rfl) ?_
                refine lv_iconst (v := 1) hx hb dX6_copy_50 (by decide) ?_
                refine zcA_i (w := (zX k q 0 (-1) 12 100 0 (fun _ => 0) aps 0 ar1 ar2 ar3 ar4 ar5 ar6 ar7 ph pp py wy fa fb cm0 ia0 0 0 ih0 in0 il0 tx0 sh0 cm1 ia1 0 0 ih1 in1 il1 tx1 sh1 cm2 ia2 0 0 ih2 in2 il2 tx2 sh2 cm3 ia3 0 0 ih3 in3 il3 tx3 sh3 (-1) 0 it0 (-1) 0 it1 (-1) 0 it2 (-1) 0 it3)) (va_runV (As := [.int 1]) (rest := []) ⟨hx, hb, hml, hown, hts⟩ (c_X6_found_1 l dC dI k  q aps ar1 ar2 ar3 ar4 ar5 ar6 ar7 ph pp py wy fa fb cm0 ia0 ih0 in0 il0 tx0 sh0 cm1 ia1 ih1 in1 il1 tx1 sh1 cm2 ia2 ih2 in2 il2 tx2 sh2 cm3 ia3 ih3 in3 il3 tx3 sh3 it0 it1 it2 it3 _ ) (cwV 1 hts (gzV wmt2_102 wmt2_104 wmp1_7 wmt1_1 wmt2_105) rfl rfl rfl (by decide +kernel) ⟨Nat.le_of_ble_eq_true rfl, Nat.le_of_ble_eq_true rfl⟩) (zpA_V (ci := 6) (q0 := 0) hK hP hD rfl rfl) rfl rfl hl.1 rfl (lv_room (Nat.le_of_ble_eq_true rfl)) dX6_copy_51 ⟨Nat.le_of_ble_eq_true rfl, Nat.le_of_ble_eq_true rfl⟩) hD hS hA (fun r_97 u_98 H locs w_99 hP hD hS => ?_)
                obtain ⟨oxfi_100, rfl⟩ : ∃ z, z = u_98 := ⟨_, rfl⟩
                have hP : va_P (dC, dI) vwCl (zX k q 0 (-1) 12 100 oxfi_100 (fun _ => 0) aps 0 ar1 ar2 ar3 ar4 ar5 ar6 ar7 ph pp py wy fa fb cm0 ia0 0 0 ih0 in0 il0 tx0 sh0 cm1 ia1 0 0 ih1 in1 il1 tx1 sh1 cm2 ia2 0 0 ih2 in2 il2 tx2 sh2 cm3 ia3 0 0 ih3 in3 il3 tx3 sh3 (-1) 0 it0 (-1) 0 it1 (-1) 0 it2 (-1) 0 it3) H := hP
                have hD : va_D A (zX k q 0 (-1) 12 100 oxfi_100 (fun _ => 0) aps 0 ar1 ar2 ar3 ar4 ar5 ar6 ar7 ph pp py wy fa fb cm0 ia0 0 0 ih0 in0 il0 tx0 sh0 cm1 ia1 0 0 ih1 in1 il1 tx1 sh1 cm2 ia2 0 0 ih2 in2 il2 tx2 sh2 cm3 ia3 0 0 ih3 in3 il3 tx3 sh3 (-1) 0 it0 (-1) 0 it1 (-1) 0 it2 (-1) 0 it3) := hD
                have e_101 := w_99
                replace e_101 : r_97 = (-11) := e_101
                subst e_101
                exact W.iret (v := (-11)) hx hb hr (fun t ht hW => ⟨⟨(-11), (oxfi_100), rfl, (by first | assumption | with_reducible rfl | contradiction | exact (if_pos (by repeat' (first | assumption | decide | constructor))).symm | exact (if_neg (fun hh => absurd hh (by assumption))).symm | exact (if_neg (fun hh => absurd hh.1 (by assumption))).symm | exact (if_neg (fun hh => absurd hh.1.1 (by assumption))).symm | exact (if_neg (fun hh => absurd hh.1.2 (by assumption))).symm | exact (if_neg (fun hh => absurd hh.2 (by assumption))).symm | exact (if_neg (fun hh => absurd hh.2.1 (by assumption))).symm | exact (if_neg (fun hh => absurd hh.2.2 (by assumption))).symm | decide | (exfalso; simp only [zi_le, zi_lt, zi_eq, zi_n0, zi_n1, zi_n2, zi_n3, zi_n4, zi_n23, zi_n24, zi_n100, zi_n399, zi_n60, zi_n255, zi_n99, zi_nm1, zi_n30] at *; omega) | (simp_all; done)), ⟨by rw [ht]; exact hP, hD⟩⟩, hS.F ht⟩) hS.2.2 dX6_copy_54
              · skip
                exact absurd c_96 (by decide)
            · skip
              exact absurd c_91 (by decide)
          · skip
            refine lv_if_ne (tgt := 17) hx hb dX6_copy_11 (by decide) (fun c_102 => ?_) (fun c_102 => ?_)
            · skip
              refine lv_aload_n hx hb dX6_copy_17 rfl (lv_at hl 0 rfl) ?_
              refine va_get (D := (dC, dI)) (ci := 6) (v := .ref (q 2)) (C := RX6) (T := TX6) (N := 12) hx hb hts hi6 hown hK.1 hP 0 rfl rfl 1 (by decide) (hts _ wmt1_171) (fun _ h9 => h9) rfl dX6_copy_18 ?_
              refine lv_iload_n hx hb dX6_copy_21 rfl (lv_at hl 1 rfl) ?_
              refine va_aldq (D := (dC, dI)) hx hb hK.1 hP 2 4 rfl rfl (show ¬ _ by decide) dX6_copy_22 ?_
              refine z_top (v2 := .ref (q 30)) (rfl) ?_
              refine lv_astore (lv' := [(6, .ref (q 30)), (0, .ref (q 0)), (1, .int 1), (2, .int i), (3, .int 3), (4, .int j), (5, .int n)]) hx hb dX6_copy_23 hl (by decide) rfl (fun ls hl => ?_)
              refine lv_aload_n hx hb dX6_copy_25 rfl (lv_at hl 1 rfl) ?_
              refine va_get (D := (dC, dI)) (ci := 6) (v := .ref (q 2)) (C := RX6) (T := TX6) (N := 12) hx hb hts hi6 hown hK.1 hP 0 rfl rfl 1 (by decide) (hts _ wmt1_171) (fun _ h9 => h9) rfl dX6_copy_26 ?_
              refine lv_iload_n hx hb dX6_copy_29 rfl (lv_at hl 4 rfl) ?_
              refine va_aldq (D := (dC, dI)) hx hb hK.1 hP 2 4 rfl rfl (show ¬ _ by decide) dX6_copy_30 ?_
              refine z_top (v2 := .ref (q 34)) (rfl) ?_
              refine lv_astore (lv' := [(7, .ref (q 34)), (6, .ref (q 30)), (0, .ref (q 0)), (1, .int 1), (2, .int i), (3, .int 3), (4, .int j), (5, .int n)]) hx hb dX6_copy_31 hl (by decide) rfl (fun ls hl => ?_)
              refine lv_aload hx hb dX6_copy_33 (lv_at hl 1 rfl) ?_
              refine zcS_i (w := (zX k q 0 (-1) 12 100 0 (fun _ => 0) aps 0 ar1 ar2 ar3 ar4 ar5 ar6 ar7 ph pp py wy fa fb cm0 ia0 0 0 ih0 in0 il0 tx0 sh0 cm1 ia1 0 0 ih1 in1 il1 tx1 sh1 cm2 ia2 0 0 ih2 in2 il2 tx2 sh2 cm3 ia3 0 0 ih3 in3 il3 tx3 sh3 (-1) 0 it0 (-1) 0 it1 (-1) 0 it2 (-1) 0 it3)) (wc := (zShe k (q 30) (q 31) it1 (-1) 0)) (va_runV (As := []) (rest := []) ⟨hx, hb, hml, hown, hts⟩ (c_X5_isLost l dC dI k (zTX k) (q 30) (q 31) it1 0 _ ) (cwV 0 hts (gzV wmt2_98 wmt2_99 wmt2_100 wmt1_7 wmt2_101) rfl rfl rfl (by decide +kernel) ⟨Nat.le_of_ble_eq_true rfl, Nat.le_of_ble_eq_true rfl⟩) (zp_V (ci := 5) (q0 := 30) hK hP hD [30, 31] rfl rfl rfl rfl) rfl rfl hl.1 rfl (lv_room (Nat.le_of_ble_eq_true rfl)) dX6_copy_35 ⟨Nat.le_of_ble_eq_true rfl, Nat.le_of_ble_eq_true rfl⟩) hP hD hS hA [30, 31] rfl (fun _ => rfl) (fun r_103 u_104 H locs w_105 hP hD hS => ?_)
              have hP : va_P (dC, dI) vwCl (zX k q 0 (-1) 12 100 0 (fun _ => 0) aps 0 ar1 ar2 ar3 ar4 ar5 ar6 ar7 ph pp py wy fa fb cm0 ia0 0 0 ih0 in0 il0 tx0 sh0 cm1 ia1 0 0 ih1 in1 il1 tx1 sh1 cm2 ia2 0 0 ih2 in2 il2 tx2 sh2 cm3 ia3 0 0 ih3 in3 il3 tx3 sh3 (-1) 0 it0 (-1) 0 it1 (-1) 0 it2 (-1) 0 it3) H := hP
              have hD : va_D A (zX k q 0 (-1) 12 100 0 (fun _ => 0) aps 0 ar1 ar2 ar3 ar4 ar5 ar6 ar7 ph pp py wy fa fb cm0 ia0 0 0 ih0 in0 il0 tx0 sh0 cm1 ia1 0 0 ih1 in1 il1 tx1 sh1 cm2 ia2 0 0 ih2 in2 il2 tx2 sh2 cm3 ia3 0 0 ih3 in3 il3 tx3 sh3 (-1) 0 it0 (-1) 0 it1 (-1) 0 it2 (-1) 0 it3) := hD
              have e_106 := w_105
              replace e_106 : r_103 = 1 := e_106
              subst e_106
              refine lv_if_ne (tgt := 49) hx hb dX6_copy_38 (by decide) (fun c_107 => ?_) (fun c_107 => ?_)
              · skip
                refine lv_aload_n hx hb dX6_copy_49 rfl (lv_at hl 2 rfl) ?_
                refine lv_iconst (v := 1) hx hb dX6_copy_50 (by decide) ?_
                refine zcA_i (w := (zX k q 0 (-1) 12 100 0 (fun _ => 0) aps 0 ar1 ar2 ar3 ar4 ar5 ar6 ar7 ph pp py wy fa fb cm0 ia0 0 0 ih0 in0 il0 tx0 sh0 cm1 ia1 0 0 ih1 in1 il1 tx1 sh1 cm2 ia2 0 0 ih2 in2 il2 tx2 sh2 cm3 ia3 0 0 ih3 in3 il3 tx3 sh3 (-1) 0 it0 (-1) 0 it1 (-1) 0 it2 (-1) 0 it3)) (va_runV (As := [.int 1]) (rest := []) ⟨hx, hb, hml, hown, hts⟩ (c_X6_found_1 l dC dI k  q aps ar1 ar2 ar3 ar4 ar5 ar6 ar7 ph pp py wy fa fb cm0 ia0 ih0 in0 il0 tx0 sh0 cm1 ia1 ih1 in1 il1 tx1 sh1 cm2 ia2 ih2 in2 il2 tx2 sh2 cm3 ia3 ih3 in3 il3 tx3 sh3 it0 it1 it2 it3 _ ) (cwV 1 hts (gzV wmt2_102 wmt2_104 wmp1_7 wmt1_1 wmt2_105) rfl rfl rfl (by decide +kernel) ⟨Nat.le_of_ble_eq_true rfl, Nat.le_of_ble_eq_true rfl⟩) (zpA_V (ci := 6) (q0 := 0) hK hP hD rfl rfl) rfl rfl hl.1 rfl (lv_room (Nat.le_of_ble_eq_true rfl)) dX6_copy_51 ⟨Nat.le_of_ble_eq_true rfl, Nat.le_of_ble_eq_true rfl⟩) hD hS hA (fun r_108 u_109 H locs w_110 hP hD hS => ?_)
                obtain ⟨oxfi_111, rfl⟩ : ∃ z, z = u_109 := ⟨_, rfl⟩
                have hP : va_P (dC, dI) vwCl (zX k q 0 (-1) 12 100 oxfi_111 (fun _ => 0) aps 0 ar1 ar2 ar3 ar4 ar5 ar6 ar7 ph pp py wy fa fb cm0 ia0 0 0 ih0 in0 il0 tx0 sh0 cm1 ia1 0 0 ih1 in1 il1 tx1 sh1 cm2 ia2 0 0 ih2 in2 il2 tx2 sh2 cm3 ia3 0 0 ih3 in3 il3 tx3 sh3 (-1) 0 it0 (-1) 0 it1 (-1) 0 it2 (-1) 0 it3) H := hP
                have hD : va_D A (zX k q 0 (-1) 12 100 oxfi_111 (fun _ => 0) aps 0 ar1 ar2 ar3 ar4 ar5 ar6 ar7 ph pp py wy fa fb cm0 ia0 0 0 ih0 in0 il0 tx0 sh0 cm1 ia1 0 0 ih1 in1 il1 tx1 sh1 cm2 ia2 0 0 ih2 in2 il2 tx2 sh2 cm3 ia3 0 0 ih3 in3 il3 tx3 sh3 (-1) 0 it0 (-1) 0 it1 (-1) 0 it2 (-1) 0 it3) := hD
                have e_112 := w_110
                replace e_112 : r_108 = (-11) := e_112
                subst e_112
                exact W.iret (v := (-11)) hx hb hr (fun t ht hW => ⟨⟨(-11), (oxfi_111), rfl, (by first | assumption | with_reducible rfl | contradiction | exact (if_pos (by repeat' (first | assumption | decide | constructor))).symm | exact (if_neg (fun hh => absurd hh (by assumption))).symm | exact (if_neg (fun hh => absurd hh.1 (by assumption))).symm | exact (if_neg (fun hh => absurd hh.1.1 (by assumption))).symm | exact (if_neg (fun hh => absurd hh.1.2 (by assumption))).symm | exact (if_neg (fun hh => absurd hh.2 (by assumption))).symm | exact (if_neg (fun hh => absurd hh.2.1 (by assumption))).symm | exact (if_neg (fun hh => absurd hh.2.2 (by assumption))).symm | decide | (exfalso; simp only [zi_le, zi_lt, zi_eq, zi_n0, zi_n1, zi_n2, zi_n3, zi_n4, zi_n23, zi_n24, zi_n100, zi_n399, zi_n60, zi_n255, zi_n99, zi_nm1, zi_n30] at *; omega) | (simp_all; done)), ⟨by rw [ht]; exact hP, hD⟩⟩, hS.F ht⟩) hS.2.2 dX6_copy_54
              · skip
                exact absurd c_107 (by decide)
            · skip
              exact absurd c_102 (by decide)
        · skip
          replace e_68 : r_62 = 0 := e_68
          subst e_68
          replace h_67 : ¬ (0 ≤ (z2 : Int32) ∧ (z2 : Int32) ≤ 3) := h_67
          refine lv_if_ne (tgt := 17) hx hb dX6_copy_11 (by decide) (fun c_113 => ?_) (fun c_113 => ?_)
          · skip
            exact absurd c_113 (by decide)
          · skip
            refine lv_bipush (v := (-2)) hx hb dX6_copy_14 (by decide) ?_
            exact W.iret (v := (-2)) hx hb hr (fun t ht hW => ⟨⟨(-2), (0), rfl, (by first | assumption | with_reducible rfl | contradiction | exact (if_pos (by repeat' (first | assumption | decide | constructor))).symm | exact (if_neg (fun hh => absurd hh (by assumption))).symm | exact (if_neg (fun hh => absurd hh.1 (by assumption))).symm | exact (if_neg (fun hh => absurd hh.1.1 (by assumption))).symm | exact (if_neg (fun hh => absurd hh.1.2 (by assumption))).symm | exact (if_neg (fun hh => absurd hh.2 (by assumption))).symm | exact (if_neg (fun hh => absurd hh.2.1 (by assumption))).symm | exact (if_neg (fun hh => absurd hh.2.2 (by assumption))).symm | decide | (exfalso; simp only [zi_le, zi_lt, zi_eq, zi_n0, zi_n1, zi_n2, zi_n3, zi_n4, zi_n23, zi_n24, zi_n100, zi_n399, zi_n60, zi_n255, zi_n99, zi_nm1, zi_n30] at *; omega) | (simp_all; done)), ⟨by rw [ht]; exact hP, hD⟩⟩, hS.F ht⟩) hS.2.2 dX6_copy_16
    · skip
      refine lv_if_eq (tgt := 14) hx hb dX6_copy_4 (by decide) (fun c_114 => ?_) (fun c_114 => ?_)
      · skip
        exact absurd c_114 (by decide)
      · skip
        refine lv_iload_n hx hb dX6_copy_7 rfl (lv_at hl 3 rfl) ?_
        refine zc0_i (w := (zX k q 0 (-1) 12 100 0 (fun _ => 0) aps 0 ar1 ar2 ar3 ar4 ar5 ar6 ar7 ph pp py wy fa fb cm0 ia0 0 0 ih0 in0 il0 tx0 sh0 cm1 ia1 0 0 ih1 in1 il1 tx1 sh1 cm2 ia2 0 0 ih2 in2 il2 tx2 sh2 cm3 ia3 0 0 ih3 in3 il3 tx3 sh3 (-1) 0 it0 (-1) 0 it1 (-1) 0 it2 (-1) 0 it3)) (va_runS (As := [.int z2]) (rest := []) ⟨hx, hb, hml, hown, hts⟩ (c_X6_isSheet l dC dI k (zTX k) z2 _ ) (va_cwS 1 hts (gzS wmt2_95 wmt2_96 wmt1_1 wmt2_97) rfl rfl rfl (by decide +kernel) ⟨Nat.le_of_ble_eq_true rfl, Nat.le_of_ble_eq_true rfl⟩) (zp0_S hK) rfl rfl hl.1 rfl (lv_room (Nat.le_of_ble_eq_true rfl)) dX6_copy_8 ⟨Nat.le_of_ble_eq_true rfl, Nat.le_of_ble_eq_true rfl⟩) hP hS hA (fun r_115 u_116 H locs w_117 hP hS => ?_)
        rcases w_117 with ⟨e_119, h_118⟩ | ⟨e_121, h_120⟩
        · skip
          replace e_119 : r_115 = 1 := e_119
          subst e_119
          replace h_118 : 0 ≤ (z2 : Int32) ∧ (z2 : Int32) ≤ 3 := h_118
          rcases zi_4 h_118 with rfl | rfl | rfl | rfl
          · skip
            refine lv_if_ne (tgt := 17) hx hb dX6_copy_11 (by decide) (fun c_122 => ?_) (fun c_122 => ?_)
            · skip
              refine lv_aload_n hx hb dX6_copy_17 rfl (lv_at hl 0 rfl) ?_
              refine va_get (D := (dC, dI)) (ci := 6) (v := .ref (q 2)) (C := RX6) (T := TX6) (N := 12) hx hb hts hi6 hown hK.1 hP 0 rfl rfl 1 (by decide) (hts _ wmt1_171) (fun _ h9 => h9) rfl dX6_copy_18 ?_
              refine lv_iload_n hx hb dX6_copy_21 rfl (lv_at hl 1 rfl) ?_
              refine va_aldq (D := (dC, dI)) hx hb hK.1 hP 2 4 rfl rfl (show ¬ _ by decide) dX6_copy_22 ?_
              refine z_top (v2 := .ref (q 32)) (rfl) ?_
              refine lv_astore (lv' := [(6, .ref (q 32)), (0, .ref (q 0)), (1, .int 2), (2, .int i), (3, .int 0), (4, .int j), (5, .int n)]) hx hb dX6_copy_23 hl (by decide) rfl (fun ls hl => ?_)
              refine lv_aload_n hx hb dX6_copy_25 rfl (lv_at hl 1 rfl) ?_
              refine va_get (D := (dC, dI)) (ci := 6) (v := .ref (q 2)) (C := RX6) (T := TX6) (N := 12) hx hb hts hi6 hown hK.1 hP 0 rfl rfl 1 (by decide) (hts _ wmt1_171) (fun _ h9 => h9) rfl dX6_copy_26 ?_
              refine lv_iload_n hx hb dX6_copy_29 rfl (lv_at hl 4 rfl) ?_
              refine va_aldq (D := (dC, dI)) hx hb hK.1 hP 2 4 rfl rfl (show ¬ _ by decide) dX6_copy_30 ?_
              refine z_top (v2 := .ref (q 28)) (rfl) ?_
              refine lv_astore (lv' := [(7, .ref (q 28)), (6, .ref (q 32)), (0, .ref (q 0)), (1, .int 2), (2, .int i), (3, .int 0), (4, .int j), (5, .int n)]) hx hb dX6_copy_31 hl (by decide) rfl (fun ls hl => ?_)
              refine lv_aload hx hb dX6_copy_33 (lv_at hl 1 rfl) ?_
              refine zcS_i (w := (zX k q 0 (-1) 12 100 0 (fun _ => 0) aps 0 ar1 ar2 ar3 ar4 ar5 ar6 ar7 ph pp py wy fa fb cm0 ia0 0 0 ih0 in0 il0 tx0 sh0 cm1 ia1 0 0 ih1 in1 il1 tx1 sh1 cm2 ia2 0 0 ih2 in2 il2 tx2 sh2 cm3 ia3 0 0 ih3 in3 il3 tx3 sh3 (-1) 0 it0 (-1) 0 it1 (-1) 0 it2 (-1) 0 it3)) (wc := (zShe k (q 32) (q 33) it2 (-1) 0)) (va_runV (As := []) (rest := []) ⟨hx, hb, hml, hown, hts⟩ (c_X5_isLost l dC dI k (zTX k) (q 32) (q 33) it2 0 _ ) (cwV 0 hts (gzV wmt2_98 wmt2_99 wmt2_100 wmt1_7 wmt2_101) rfl rfl rfl (by decide +kernel) ⟨Nat.le_of_ble_eq_true rfl, Nat.le_of_ble_eq_true rfl⟩) (zp_V (ci := 5) (q0 := 32) hK hP hD [32, 33] rfl rfl rfl rfl) rfl rfl hl.1 rfl (lv_room (Nat.le_of_ble_eq_true rfl)) dX6_copy_35 ⟨Nat.le_of_ble_eq_true rfl, Nat.le_of_ble_eq_true rfl⟩) hP hD hS hA [32, 33] rfl (fun _ => rfl) (fun r_123 u_124 H locs w_125 hP hD hS => ?_)
              have hP : va_P (dC, dI) vwCl (zX k q 0 (-1) 12 100 0 (fun _ => 0) aps 0 ar1 ar2 ar3 ar4 ar5 ar6 ar7 ph pp py wy fa fb cm0 ia0 0 0 ih0 in0 il0 tx0 sh0 cm1 ia1 0 0 ih1 in1 il1 tx1 sh1 cm2 ia2 0 0 ih2 in2 il2 tx2 sh2 cm3 ia3 0 0 ih3 in3 il3 tx3 sh3 (-1) 0 it0 (-1) 0 it1 (-1) 0 it2 (-1) 0 it3) H := hP
              have hD : va_D A (zX k q 0 (-1) 12 100 0 (fun _ => 0) aps 0 ar1 ar2 ar3 ar4 ar5 ar6 ar7 ph pp py wy fa fb cm0 ia0 0 0 ih0 in0 il0 tx0 sh0 cm1 ia1 0 0 ih1 in1 il1 tx1 sh1 cm2 ia2 0 0 ih2 in2 il2 tx2 sh2 cm3 ia3 0 0 ih3 in3 il3 tx3 sh3 (-1) 0 it0 (-1) 0 it1 (-1) 0 it2 (-1) 0 it3) := hD
              have e_126 := w_125
              replace e_126 : r_123 = 1 := e_126
              subst e_126
              refine lv_if_ne (tgt := 49) hx hb dX6_copy_38 (by decide) (fun c_127 => ?_) (fun c_127 => ?_)
              · skip
                refine lv_aload_n hx hb dX6_copy_49 rfl (lv_at hl 2 rfl) ?_
                refine lv_iconst (v := 1) hx hb dX6_copy_50 (by decide) ?_
                refine zcA_i (w := (zX k q 0 (-1) 12 100 0 (fun _ => 0) aps 0 ar1 ar2 ar3 ar4 ar5 ar6 ar7 ph pp py wy fa fb cm0 ia0 0 0 ih0 in0 il0 tx0 sh0 cm1 ia1 0 0 ih1 in1 il1 tx1 sh1 cm2 ia2 0 0 ih2 in2 il2 tx2 sh2 cm3 ia3 0 0 ih3 in3 il3 tx3 sh3 (-1) 0 it0 (-1) 0 it1 (-1) 0 it2 (-1) 0 it3)) (va_runV (As := [.int 1]) (rest := []) ⟨hx, hb, hml, hown, hts⟩ (c_X6_found_1 l dC dI k  q aps ar1 ar2 ar3 ar4 ar5 ar6 ar7 ph pp py wy fa fb cm0 ia0 ih0 in0 il0 tx0 sh0 cm1 ia1 ih1 in1 il1 tx1 sh1 cm2 ia2 ih2 in2 il2 tx2 sh2 cm3 ia3 ih3 in3 il3 tx3 sh3 it0 it1 it2 it3 _ ) (cwV 1 hts (gzV wmt2_102 wmt2_104 wmp1_7 wmt1_1 wmt2_105) rfl rfl rfl (by decide +kernel) ⟨Nat.le_of_ble_eq_true rfl, Nat.le_of_ble_eq_true rfl⟩) (zpA_V (ci := 6) (q0 := 0) hK hP hD rfl rfl) rfl rfl hl.1 rfl (lv_room (Nat.le_of_ble_eq_true rfl)) dX6_copy_51 ⟨Nat.le_of_ble_eq_true rfl, Nat.le_of_ble_eq_true rfl⟩) hD hS hA (fun r_128 u_129 H locs w_130 hP hD hS => ?_)
                obtain ⟨oxfi_131, rfl⟩ : ∃ z, z = u_129 := ⟨_, rfl⟩
                have hP : va_P (dC, dI) vwCl (zX k q 0 (-1) 12 100 oxfi_131 (fun _ => 0) aps 0 ar1 ar2 ar3 ar4 ar5 ar6 ar7 ph pp py wy fa fb cm0 ia0 0 0 ih0 in0 il0 tx0 sh0 cm1 ia1 0 0 ih1 in1 il1 tx1 sh1 cm2 ia2 0 0 ih2 in2 il2 tx2 sh2 cm3 ia3 0 0 ih3 in3 il3 tx3 sh3 (-1) 0 it0 (-1) 0 it1 (-1) 0 it2 (-1) 0 it3) H := hP
                have hD : va_D A (zX k q 0 (-1) 12 100 oxfi_131 (fun _ => 0) aps 0 ar1 ar2 ar3 ar4 ar5 ar6 ar7 ph pp py wy fa fb cm0 ia0 0 0 ih0 in0 il0 tx0 sh0 cm1 ia1 0 0 ih1 in1 il1 tx1 sh1 cm2 ia2 0 0 ih2 in2 il2 tx2 sh2 cm3 ia3 0 0 ih3 in3 il3 tx3 sh3 (-1) 0 it0 (-1) 0 it1 (-1) 0 it2 (-1) 0 it3) := hD
                have e_132 := w_130
                replace e_132 : r_128 = (-11) := e_132
                subst e_132
                exact W.iret (v := (-11)) hx hb hr (fun t ht hW => ⟨⟨(-11), (oxfi_131), rfl, (by first | assumption | with_reducible rfl | contradiction | exact (if_pos (by repeat' (first | assumption | decide | constructor))).symm | exact (if_neg (fun hh => absurd hh (by assumption))).symm | exact (if_neg (fun hh => absurd hh.1 (by assumption))).symm | exact (if_neg (fun hh => absurd hh.1.1 (by assumption))).symm | exact (if_neg (fun hh => absurd hh.1.2 (by assumption))).symm | exact (if_neg (fun hh => absurd hh.2 (by assumption))).symm | exact (if_neg (fun hh => absurd hh.2.1 (by assumption))).symm | exact (if_neg (fun hh => absurd hh.2.2 (by assumption))).symm | decide | (exfalso; simp only [zi_le, zi_lt, zi_eq, zi_n0, zi_n1, zi_n2, zi_n3, zi_n4, zi_n23, zi_n24, zi_n100, zi_n399, zi_n60, zi_n255, zi_n99, zi_nm1, zi_n30] at *; omega) | (simp_all; done)), ⟨by rw [ht]; exact hP, hD⟩⟩, hS.F ht⟩) hS.2.2 dX6_copy_54
              · skip
                exact absurd c_127 (by decide)
            · skip
              exact absurd c_122 (by decide)
          · skip
            refine lv_if_ne (tgt := 17) hx hb dX6_copy_11 (by decide) (fun c_133 => ?_) (fun c_133 => ?_)
            · skip
              refine lv_aload_n hx hb dX6_copy_17 rfl (lv_at hl 0 rfl) ?_
              refine va_get (D := (dC, dI)) (ci := 6) (v := .ref (q 2)) (C := RX6) (T := TX6) (N := 12) hx hb hts hi6 hown hK.1 hP 0 rfl rfl 1 (by decide) (hts _ wmt1_171) (fun _ h9 => h9) rfl dX6_copy_18 ?_
              refine lv_iload_n hx hb dX6_copy_21 rfl (lv_at hl 1 rfl) ?_
              refine va_aldq (D := (dC, dI)) hx hb hK.1 hP 2 4 rfl rfl (show ¬ _ by decide) dX6_copy_22 ?_
              refine z_top (v2 := .ref (q 32)) (rfl) ?_
              refine lv_astore (lv' := [(6, .ref (q 32)), (0, .ref (q 0)), (1, .int 2), (2, .int i), (3, .int 1), (4, .int j), (5, .int n)]) hx hb dX6_copy_23 hl (by decide) rfl (fun ls hl => ?_)
              refine lv_aload_n hx hb dX6_copy_25 rfl (lv_at hl 1 rfl) ?_
              refine va_get (D := (dC, dI)) (ci := 6) (v := .ref (q 2)) (C := RX6) (T := TX6) (N := 12) hx hb hts hi6 hown hK.1 hP 0 rfl rfl 1 (by decide) (hts _ wmt1_171) (fun _ h9 => h9) rfl dX6_copy_26 ?_
              refine lv_iload_n hx hb dX6_copy_29 rfl (lv_at hl 4 rfl) ?_
              refine va_aldq (D := (dC, dI)) hx hb hK.1 hP 2 4 rfl rfl (show ¬ _ by decide) dX6_copy_30 ?_
              refine z_top (v2 := .ref (q 30)) (rfl) ?_
              refine lv_astore (lv' := [(7, .ref (q 30)), (6, .ref (q 32)), (0, .ref (q 0)), (1, .int 2), (2, .int i), (3, .int 1), (4, .int j), (5, .int n)]) hx hb dX6_copy_31 hl (by decide) rfl (fun ls hl => ?_)
              refine lv_aload hx hb dX6_copy_33 (lv_at hl 1 rfl) ?_
              refine zcS_i (w := (zX k q 0 (-1) 12 100 0 (fun _ => 0) aps 0 ar1 ar2 ar3 ar4 ar5 ar6 ar7 ph pp py wy fa fb cm0 ia0 0 0 ih0 in0 il0 tx0 sh0 cm1 ia1 0 0 ih1 in1 il1 tx1 sh1 cm2 ia2 0 0 ih2 in2 il2 tx2 sh2 cm3 ia3 0 0 ih3 in3 il3 tx3 sh3 (-1) 0 it0 (-1) 0 it1 (-1) 0 it2 (-1) 0 it3)) (wc := (zShe k (q 32) (q 33) it2 (-1) 0)) (va_runV (As := []) (rest := []) ⟨hx, hb, hml, hown, hts⟩ (c_X5_isLost l dC dI k (zTX k) (q 32) (q 33) it2 0 _ ) (cwV 0 hts (gzV wmt2_98 wmt2_99 wmt2_100 wmt1_7 wmt2_101) rfl rfl rfl (by decide +kernel) ⟨Nat.le_of_ble_eq_true rfl, Nat.le_of_ble_eq_true rfl⟩) (zp_V (ci := 5) (q0 := 32) hK hP hD [32, 33] rfl rfl rfl rfl) rfl rfl hl.1 rfl (lv_room (Nat.le_of_ble_eq_true rfl)) dX6_copy_35 ⟨Nat.le_of_ble_eq_true rfl, Nat.le_of_ble_eq_true rfl⟩) hP hD hS hA [32, 33] rfl (fun _ => rfl) (fun r_134 u_135 H locs w_136 hP hD hS => ?_)
              have hP : va_P (dC, dI) vwCl (zX k q 0 (-1) 12 100 0 (fun _ => 0) aps 0 ar1 ar2 ar3 ar4 ar5 ar6 ar7 ph pp py wy fa fb cm0 ia0 0 0 ih0 in0 il0 tx0 sh0 cm1 ia1 0 0 ih1 in1 il1 tx1 sh1 cm2 ia2 0 0 ih2 in2 il2 tx2 sh2 cm3 ia3 0 0 ih3 in3 il3 tx3 sh3 (-1) 0 it0 (-1) 0 it1 (-1) 0 it2 (-1) 0 it3) H := hP
              have hD : va_D A (zX k q 0 (-1) 12 100 0 (fun _ => 0) aps 0 ar1 ar2 ar3 ar4 ar5 ar6 ar7 ph pp py wy fa fb cm0 ia0 0 0 ih0 in0 il0 tx0 sh0 cm1 ia1 0 0 ih1 in1 il1 tx1 sh1 cm2 ia2 0 0 ih2 in2 il2 tx2 sh2 cm3 ia3 0 0 ih3 in3 il3 tx3 sh3 (-1) 0 it0 (-1) 0 it1 (-1) 0 it2 (-1) 0 it3) := hD
              have e_137 := w_136
              replace e_137 : r_134 = 1 := e_137
              subst e_137
              refine lv_if_ne (tgt := 49) hx hb dX6_copy_38 (by decide) (fun c_138 => ?_) (fun c_138 => ?_)
              · skip
                refine lv_aload_n hx hb dX6_copy_49 rfl (lv_at hl 2 rfl) ?_
                refine lv_iconst (v := 1) hx hb dX6_copy_50 (by decide) ?_
                refine zcA_i (w := (zX k q 0 (-1) 12 100 0 (fun _ => 0) aps 0 ar1 ar2 ar3 ar4 ar5 ar6 ar7 ph pp py wy fa fb cm0 ia0 0 0 ih0 in0 il0 tx0 sh0 cm1 ia1 0 0 ih1 in1 il1 tx1 sh1 cm2 ia2 0 0 ih2 in2 il2 tx2 sh2 cm3 ia3 0 0 ih3 in3 il3 tx3 sh3 (-1) 0 it0 (-1) 0 it1 (-1) 0 it2 (-1) 0 it3)) (va_runV (As := [.int 1]) (rest := []) ⟨hx, hb, hml, hown, hts⟩ (c_X6_found_1 l dC dI k  q aps ar1 ar2 ar3 ar4 ar5 ar6 ar7 ph pp py wy fa fb cm0 ia0 ih0 in0 il0 tx0 sh0 cm1 ia1 ih1 in1 il1 tx1 sh1 cm2 ia2 ih2 in2 il2 tx2 sh2 cm3 ia3 ih3 in3 il3 tx3 sh3 it0 it1 it2 it3 _ ) (cwV 1 hts (gzV wmt2_102 wmt2_104 wmp1_7 wmt1_1 wmt2_105) rfl rfl rfl (by decide +kernel) ⟨Nat.le_of_ble_eq_true rfl, Nat.le_of_ble_eq_true rfl⟩) (zpA_V (ci := 6) (q0 := 0) hK hP hD rfl rfl) rfl rfl hl.1 rfl (lv_room (Nat.le_of_ble_eq_true rfl)) dX6_copy_51 ⟨Nat.le_of_ble_eq_true rfl, Nat.le_of_ble_eq_true rfl⟩) hD hS hA (fun r_139 u_140 H locs w_141 hP hD hS => ?_)
                obtain ⟨oxfi_142, rfl⟩ : ∃ z, z = u_140 := ⟨_, rfl⟩
                have hP : va_P (dC, dI) vwCl (zX k q 0 (-1) 12 100 oxfi_142 (fun _ => 0) aps 0 ar1 ar2 ar3 ar4 ar5 ar6 ar7 ph pp py wy fa fb cm0 ia0 0 0 ih0 in0 il0 tx0 sh0 cm1 ia1 0 0 ih1 in1 il1 tx1 sh1 cm2 ia2 0 0 ih2 in2 il2 tx2 sh2 cm3 ia3 0 0 ih3 in3 il3 tx3 sh3 (-1) 0 it0 (-1) 0 it1 (-1) 0 it2 (-1) 0 it3) H := hP
                have hD : va_D A (zX k q 0 (-1) 12 100 oxfi_142 (fun _ => 0) aps 0 ar1 ar2 ar3 ar4 ar5 ar6 ar7 ph pp py wy fa fb cm0 ia0 0 0 ih0 in0 il0 tx0 sh0 cm1 ia1 0 0 ih1 in1 il1 tx1 sh1 cm2 ia2 0 0 ih2 in2 il2 tx2 sh2 cm3 ia3 0 0 ih3 in3 il3 tx3 sh3 (-1) 0 it0 (-1) 0 it1 (-1) 0 it2 (-1) 0 it3) := hD
                have e_143 := w_141
                replace e_143 : r_139 = (-11) := e_143
                subst e_143
                exact W.iret (v := (-11)) hx hb hr (fun t ht hW => ⟨⟨(-11), (oxfi_142), rfl, (by first | assumption | with_reducible rfl | contradiction | exact (if_pos (by repeat' (first | assumption | decide | constructor))).symm | exact (if_neg (fun hh => absurd hh (by assumption))).symm | exact (if_neg (fun hh => absurd hh.1 (by assumption))).symm | exact (if_neg (fun hh => absurd hh.1.1 (by assumption))).symm | exact (if_neg (fun hh => absurd hh.1.2 (by assumption))).symm | exact (if_neg (fun hh => absurd hh.2 (by assumption))).symm | exact (if_neg (fun hh => absurd hh.2.1 (by assumption))).symm | exact (if_neg (fun hh => absurd hh.2.2 (by assumption))).symm | decide | (exfalso; simp only [zi_le, zi_lt, zi_eq, zi_n0, zi_n1, zi_n2, zi_n3, zi_n4, zi_n23, zi_n24, zi_n100, zi_n399, zi_n60, zi_n255, zi_n99, zi_nm1, zi_n30] at *; omega) | (simp_all; done)), ⟨by rw [ht]; exact hP, hD⟩⟩, hS.F ht⟩) hS.2.2 dX6_copy_54
              · skip
                exact absurd c_138 (by decide)
            · skip
              exact absurd c_133 (by decide)
          · skip
            refine lv_if_ne (tgt := 17) hx hb dX6_copy_11 (by decide) (fun c_144 => ?_) (fun c_144 => ?_)
            · skip
              refine lv_aload_n hx hb dX6_copy_17 rfl (lv_at hl 0 rfl) ?_
              refine va_get (D := (dC, dI)) (ci := 6) (v := .ref (q 2)) (C := RX6) (T := TX6) (N := 12) hx hb hts hi6 hown hK.1 hP 0 rfl rfl 1 (by decide) (hts _ wmt1_171) (fun _ h9 => h9) rfl dX6_copy_18 ?_
              refine lv_iload_n hx hb dX6_copy_21 rfl (lv_at hl 1 rfl) ?_
              refine va_aldq (D := (dC, dI)) hx hb hK.1 hP 2 4 rfl rfl (show ¬ _ by decide) dX6_copy_22 ?_
              refine z_top (v2 := .ref (q 32)) (rfl) ?_
              refine lv_astore (lv' := [(6, .ref (q 32)), (0, .ref (q 0)), (1, .int 2), (2, .int i), (3, .int 2), (4, .int j), (5, .int n)]) hx hb dX6_copy_23 hl (by decide) rfl (fun ls hl => ?_)
              refine lv_aload_n hx hb dX6_copy_25 rfl (lv_at hl 1 rfl) ?_
              refine va_get (D := (dC, dI)) (ci := 6) (v := .ref (q 2)) (C := RX6) (T := TX6) (N := 12) hx hb hts hi6 hown hK.1 hP 0 rfl rfl 1 (by decide) (hts _ wmt1_171) (fun _ h9 => h9) rfl dX6_copy_26 ?_
              refine lv_iload_n hx hb dX6_copy_29 rfl (lv_at hl 4 rfl) ?_
              refine va_aldq (D := (dC, dI)) hx hb hK.1 hP 2 4 rfl rfl (show ¬ _ by decide) dX6_copy_30 ?_
              refine z_top (v2 := .ref (q 32)) (rfl) ?_
              refine lv_astore (lv' := [(7, .ref (q 32)), (6, .ref (q 32)), (0, .ref (q 0)), (1, .int 2), (2, .int i), (3, .int 2), (4, .int j), (5, .int n)]) hx hb dX6_copy_31 hl (by decide) rfl (fun ls hl => ?_)
              refine lv_aload hx hb dX6_copy_33 (lv_at hl 1 rfl) ?_
              refine zcS_i (w := (zX k q 0 (-1) 12 100 0 (fun _ => 0) aps 0 ar1 ar2 ar3 ar4 ar5 ar6 ar7 ph pp py wy fa fb cm0 ia0 0 0 ih0 in0 il0 tx0 sh0 cm1 ia1 0 0 ih1 in1 il1 tx1 sh1 cm2 ia2 0 0 ih2 in2 il2 tx2 sh2 cm3 ia3 0 0 ih3 in3 il3 tx3 sh3 (-1) 0 it0 (-1) 0 it1 (-1) 0 it2 (-1) 0 it3)) (wc := (zShe k (q 32) (q 33) it2 (-1) 0)) (va_runV (As := []) (rest := []) ⟨hx, hb, hml, hown, hts⟩ (c_X5_isLost l dC dI k (zTX k) (q 32) (q 33) it2 0 _ ) (cwV 0 hts (gzV wmt2_98 wmt2_99 wmt2_100 wmt1_7 wmt2_101) rfl rfl rfl (by decide +kernel) ⟨Nat.le_of_ble_eq_true rfl, Nat.le_of_ble_eq_true rfl⟩) (zp_V (ci := 5) (q0 := 32) hK hP hD [32, 33] rfl rfl rfl rfl) rfl rfl hl.1 rfl (lv_room (Nat.le_of_ble_eq_true rfl)) dX6_copy_35 ⟨Nat.le_of_ble_eq_true rfl, Nat.le_of_ble_eq_true rfl⟩) hP hD hS hA [32, 33] rfl (fun _ => rfl) (fun r_145 u_146 H locs w_147 hP hD hS => ?_)
              have hP : va_P (dC, dI) vwCl (zX k q 0 (-1) 12 100 0 (fun _ => 0) aps 0 ar1 ar2 ar3 ar4 ar5 ar6 ar7 ph pp py wy fa fb cm0 ia0 0 0 ih0 in0 il0 tx0 sh0 cm1 ia1 0 0 ih1 in1 il1 tx1 sh1 cm2 ia2 0 0 ih2 in2 il2 tx2 sh2 cm3 ia3 0 0 ih3 in3 il3 tx3 sh3 (-1) 0 it0 (-1) 0 it1 (-1) 0 it2 (-1) 0 it3) H := hP
              have hD : va_D A (zX k q 0 (-1) 12 100 0 (fun _ => 0) aps 0 ar1 ar2 ar3 ar4 ar5 ar6 ar7 ph pp py wy fa fb cm0 ia0 0 0 ih0 in0 il0 tx0 sh0 cm1 ia1 0 0 ih1 in1 il1 tx1 sh1 cm2 ia2 0 0 ih2 in2 il2 tx2 sh2 cm3 ia3 0 0 ih3 in3 il3 tx3 sh3 (-1) 0 it0 (-1) 0 it1 (-1) 0 it2 (-1) 0 it3) := hD
              have e_148 := w_147
              replace e_148 : r_145 = 1 := e_148
              subst e_148
              refine lv_if_ne (tgt := 49) hx hb dX6_copy_38 (by decide) (fun c_149 => ?_) (fun c_149 => ?_)
              · skip
                refine lv_aload_n hx hb dX6_copy_49 rfl (lv_at hl 2 rfl) ?_
                refine lv_iconst (v := 1) hx hb dX6_copy_50 (by decide) ?_
                refine zcA_i (w := (zX k q 0 (-1) 12 100 0 (fun _ => 0) aps 0 ar1 ar2 ar3 ar4 ar5 ar6 ar7 ph pp py wy fa fb cm0 ia0 0 0 ih0 in0 il0 tx0 sh0 cm1 ia1 0 0 ih1 in1 il1 tx1 sh1 cm2 ia2 0 0 ih2 in2 il2 tx2 sh2 cm3 ia3 0 0 ih3 in3 il3 tx3 sh3 (-1) 0 it0 (-1) 0 it1 (-1) 0 it2 (-1) 0 it3)) (va_runV (As := [.int 1]) (rest := []) ⟨hx, hb, hml, hown, hts⟩ (c_X6_found_1 l dC dI k  q aps ar1 ar2 ar3 ar4 ar5 ar6 ar7 ph pp py wy fa fb cm0 ia0 ih0 in0 il0 tx0 sh0 cm1 ia1 ih1 in1 il1 tx1 sh1 cm2 ia2 ih2 in2 il2 tx2 sh2 cm3 ia3 ih3 in3 il3 tx3 sh3 it0 it1 it2 it3 _ ) (cwV 1 hts (gzV wmt2_102 wmt2_104 wmp1_7 wmt1_1 wmt2_105) rfl rfl rfl (by decide +kernel) ⟨Nat.le_of_ble_eq_true rfl, Nat.le_of_ble_eq_true rfl⟩) (zpA_V (ci := 6) (q0 := 0) hK hP hD rfl rfl) rfl rfl hl.1 rfl (lv_room (Nat.le_of_ble_eq_true rfl)) dX6_copy_51 ⟨Nat.le_of_ble_eq_true rfl, Nat.le_of_ble_eq_true rfl⟩) hD hS hA (fun r_150 u_151 H locs w_152 hP hD hS => ?_)
                obtain ⟨oxfi_153, rfl⟩ : ∃ z, z = u_151 := ⟨_, rfl⟩
                have hP : va_P (dC, dI) vwCl (zX k q 0 (-1) 12 100 oxfi_153 (fun _ => 0) aps 0 ar1 ar2 ar3 ar4 ar5 ar6 ar7 ph pp py wy fa fb cm0 ia0 0 0 ih0 in0 il0 tx0 sh0 cm1 ia1 0 0 ih1 in1 il1 tx1 sh1 cm2 ia2 0 0 ih2 in2 il2 tx2 sh2 cm3 ia3 0 0 ih3 in3 il3 tx3 sh3 (-1) 0 it0 (-1) 0 it1 (-1) 0 it2 (-1) 0 it3) H := hP
                have hD : va_D A (zX k q 0 (-1) 12 100 oxfi_153 (fun _ => 0) aps 0 ar1 ar2 ar3 ar4 ar5 ar6 ar7 ph pp py wy fa fb cm0 ia0 0 0 ih0 in0 il0 tx0 sh0 cm1 ia1 0 0 ih1 in1 il1 tx1 sh1 cm2 ia2 0 0 ih2 in2 il2 tx2 sh2 cm3 ia3 0 0 ih3 in3 il3 tx3 sh3 (-1) 0 it0 (-1) 0 it1 (-1) 0 it2 (-1) 0 it3) := hD
                have e_154 := w_152
                replace e_154 : r_150 = (-11) := e_154
                subst e_154
                exact W.iret (v := (-11)) hx hb hr (fun t ht hW => ⟨⟨(-11), (oxfi_153), rfl, (by first | assumption | with_reducible rfl | contradiction | exact (if_pos (by repeat' (first | assumption | decide | constructor))).symm | exact (if_neg (fun hh => absurd hh (by assumption))).symm | exact (if_neg (fun hh => absurd hh.1 (by assumption))).symm | exact (if_neg (fun hh => absurd hh.1.1 (by assumption))).symm | exact (if_neg (fun hh => absurd hh.1.2 (by assumption))).symm | exact (if_neg (fun hh => absurd hh.2 (by assumption))).symm | exact (if_neg (fun hh => absurd hh.2.1 (by assumption))).symm | exact (if_neg (fun hh => absurd hh.2.2 (by assumption))).symm | decide | (exfalso; simp only [zi_le, zi_lt, zi_eq, zi_n0, zi_n1, zi_n2, zi_n3, zi_n4, zi_n23, zi_n24, zi_n100, zi_n399, zi_n60, zi_n255, zi_n99, zi_nm1, zi_n30] at *; omega) | (simp_all; done)), ⟨by rw [ht]; exact hP, hD⟩⟩, hS.F ht⟩) hS.2.2 dX6_copy_54
              · skip
                exact absurd c_149 (by decide)
            · skip
              exact absurd c_144 (by decide)
          · skip
            refine lv_if_ne (tgt := 17) hx hb dX6_copy_11 (by decide) (fun c_155 => ?_) (fun c_155 => ?_)
            · skip
              refine lv_aload_n hx hb dX6_copy_17 rfl (lv_at hl 0 rfl) ?_
              refine va_get (D := (dC, dI)) (ci := 6) (v := .ref (q 2)) (C := RX6) (T := TX6) (N := 12) hx hb hts hi6 hown hK.1 hP 0 rfl rfl 1 (by decide) (hts _ wmt1_171) (fun _ h9 => h9) rfl dX6_copy_18 ?_
              refine lv_iload_n hx hb dX6_copy_21 rfl (lv_at hl 1 rfl) ?_
              refine va_aldq (D := (dC, dI)) hx hb hK.1 hP 2 4 rfl rfl (show ¬ _ by decide) dX6_copy_22 ?_
              refine z_top (v2 := .ref (q 32)) (rfl) ?_
              refine lv_astore (lv' := [(6, .ref (q 32)), (0, .ref (q 0)), (1, .int 2), (2, .int i), (3, .int 3), (4, .int j), (5, .int n)]) hx hb dX6_copy_23 hl (by decide) rfl (fun ls hl => ?_)
              refine lv_aload_n hx hb dX6_copy_25 rfl (lv_at hl 1 rfl) ?_
              refine va_get (D := (dC, dI)) (ci := 6) (v := .ref (q 2)) (C := RX6) (T := TX6) (N := 12) hx hb hts hi6 hown hK.1 hP 0 rfl rfl 1 (by decide) (hts _ wmt1_171) (fun _ h9 => h9) rfl dX6_copy_26 ?_
              refine lv_iload_n hx hb dX6_copy_29 rfl (lv_at hl 4 rfl) ?_
              refine va_aldq (D := (dC, dI)) hx hb hK.1 hP 2 4 rfl rfl (show ¬ _ by decide) dX6_copy_30 ?_
              refine z_top (v2 := .ref (q 34)) (rfl) ?_
              refine lv_astore (lv' := [(7, .ref (q 34)), (6, .ref (q 32)), (0, .ref (q 0)), (1, .int 2), (2, .int i), (3, .int 3), (4, .int j), (5, .int n)]) hx hb dX6_copy_31 hl (by decide) rfl (fun ls hl => ?_)
              refine lv_aload hx hb dX6_copy_33 (lv_at hl 1 rfl) ?_
              refine zcS_i (w := (zX k q 0 (-1) 12 100 0 (fun _ => 0) aps 0 ar1 ar2 ar3 ar4 ar5 ar6 ar7 ph pp py wy fa fb cm0 ia0 0 0 ih0 in0 il0 tx0 sh0 cm1 ia1 0 0 ih1 in1 il1 tx1 sh1 cm2 ia2 0 0 ih2 in2 il2 tx2 sh2 cm3 ia3 0 0 ih3 in3 il3 tx3 sh3 (-1) 0 it0 (-1) 0 it1 (-1) 0 it2 (-1) 0 it3)) (wc := (zShe k (q 32) (q 33) it2 (-1) 0)) (va_runV (As := []) (rest := []) ⟨hx, hb, hml, hown, hts⟩ (c_X5_isLost l dC dI k (zTX k) (q 32) (q 33) it2 0 _ ) (cwV 0 hts (gzV wmt2_98 wmt2_99 wmt2_100 wmt1_7 wmt2_101) rfl rfl rfl (by decide +kernel) ⟨Nat.le_of_ble_eq_true rfl, Nat.le_of_ble_eq_true rfl⟩) (zp_V (ci := 5) (q0 := 32) hK hP hD [32, 33] rfl rfl rfl rfl) rfl rfl hl.1 rfl (lv_room (Nat.le_of_ble_eq_true rfl)) dX6_copy_35 ⟨Nat.le_of_ble_eq_true rfl, Nat.le_of_ble_eq_true rfl⟩) hP hD hS hA [32, 33] rfl (fun _ => rfl) (fun r_156 u_157 H locs w_158 hP hD hS => ?_)
              have hP : va_P (dC, dI) vwCl (zX k q 0 (-1) 12 100 0 (fun _ => 0) aps 0 ar1 ar2 ar3 ar4 ar5 ar6 ar7 ph pp py wy fa fb cm0 ia0 0 0 ih0 in0 il0 tx0 sh0 cm1 ia1 0 0 ih1 in1 il1 tx1 sh1 cm2 ia2 0 0 ih2 in2 il2 tx2 sh2 cm3 ia3 0 0 ih3 in3 il3 tx3 sh3 (-1) 0 it0 (-1) 0 it1 (-1) 0 it2 (-1) 0 it3) H := hP
              have hD : va_D A (zX k q 0 (-1) 12 100 0 (fun _ => 0) aps 0 ar1 ar2 ar3 ar4 ar5 ar6 ar7 ph pp py wy fa fb cm0 ia0 0 0 ih0 in0 il0 tx0 sh0 cm1 ia1 0 0 ih1 in1 il1 tx1 sh1 cm2 ia2 0 0 ih2 in2 il2 tx2 sh2 cm3 ia3 0 0 ih3 in3 il3 tx3 sh3 (-1) 0 it0 (-1) 0 it1 (-1) 0 it2 (-1) 0 it3) := hD
              have e_159 := w_158
              replace e_159 : r_156 = 1 := e_159
              subst e_159
              refine lv_if_ne (tgt := 49) hx hb dX6_copy_38 (by decide) (fun c_160 => ?_) (fun c_160 => ?_)
              · skip
                refine lv_aload_n hx hb dX6_copy_49 rfl (lv_at hl 2 rfl) ?_
                refine lv_iconst (v := 1) hx hb dX6_copy_50 (by decide) ?_
                refine zcA_i (w := (zX k q 0 (-1) 12 100 0 (fun _ => 0) aps 0 ar1 ar2 ar3 ar4 ar5 ar6 ar7 ph pp py wy fa fb cm0 ia0 0 0 ih0 in0 il0 tx0 sh0 cm1 ia1 0 0 ih1 in1 il1 tx1 sh1 cm2 ia2 0 0 ih2 in2 il2 tx2 sh2 cm3 ia3 0 0 ih3 in3 il3 tx3 sh3 (-1) 0 it0 (-1) 0 it1 (-1) 0 it2 (-1) 0 it3)) (va_runV (As := [.int 1]) (rest := []) ⟨hx, hb, hml, hown, hts⟩ (c_X6_found_1 l dC dI k  q aps ar1 ar2 ar3 ar4 ar5 ar6 ar7 ph pp py wy fa fb cm0 ia0 ih0 in0 il0 tx0 sh0 cm1 ia1 ih1 in1 il1 tx1 sh1 cm2 ia2 ih2 in2 il2 tx2 sh2 cm3 ia3 ih3 in3 il3 tx3 sh3 it0 it1 it2 it3 _ ) (cwV 1 hts (gzV wmt2_102 wmt2_104 wmp1_7 wmt1_1 wmt2_105) rfl rfl rfl (by decide +kernel) ⟨Nat.le_of_ble_eq_true rfl, Nat.le_of_ble_eq_true rfl⟩) (zpA_V (ci := 6) (q0 := 0) hK hP hD rfl rfl) rfl rfl hl.1 rfl (lv_room (Nat.le_of_ble_eq_true rfl)) dX6_copy_51 ⟨Nat.le_of_ble_eq_true rfl, Nat.le_of_ble_eq_true rfl⟩) hD hS hA (fun r_161 u_162 H locs w_163 hP hD hS => ?_)
                obtain ⟨oxfi_164, rfl⟩ : ∃ z, z = u_162 := ⟨_, rfl⟩
                have hP : va_P (dC, dI) vwCl (zX k q 0 (-1) 12 100 oxfi_164 (fun _ => 0) aps 0 ar1 ar2 ar3 ar4 ar5 ar6 ar7 ph pp py wy fa fb cm0 ia0 0 0 ih0 in0 il0 tx0 sh0 cm1 ia1 0 0 ih1 in1 il1 tx1 sh1 cm2 ia2 0 0 ih2 in2 il2 tx2 sh2 cm3 ia3 0 0 ih3 in3 il3 tx3 sh3 (-1) 0 it0 (-1) 0 it1 (-1) 0 it2 (-1) 0 it3) H := hP
                have hD : va_D A (zX k q 0 (-1) 12 100 oxfi_164 (fun _ => 0) aps 0 ar1 ar2 ar3 ar4 ar5 ar6 ar7 ph pp py wy fa fb cm0 ia0 0 0 ih0 in0 il0 tx0 sh0 cm1 ia1 0 0 ih1 in1 il1 tx1 sh1 cm2 ia2 0 0 ih2 in2 il2 tx2 sh2 cm3 ia3 0 0 ih3 in3 il3 tx3 sh3 (-1) 0 it0 (-1) 0 it1 (-1) 0 it2 (-1) 0 it3) := hD
                have e_165 := w_163
                replace e_165 : r_161 = (-11) := e_165
                subst e_165
                exact W.iret (v := (-11)) hx hb hr (fun t ht hW => ⟨⟨(-11), (oxfi_164), rfl, (by first | assumption | with_reducible rfl | contradiction | exact (if_pos (by repeat' (first | assumption | decide | constructor))).symm | exact (if_neg (fun hh => absurd hh (by assumption))).symm | exact (if_neg (fun hh => absurd hh.1 (by assumption))).symm | exact (if_neg (fun hh => absurd hh.1.1 (by assumption))).symm | exact (if_neg (fun hh => absurd hh.1.2 (by assumption))).symm | exact (if_neg (fun hh => absurd hh.2 (by assumption))).symm | exact (if_neg (fun hh => absurd hh.2.1 (by assumption))).symm | exact (if_neg (fun hh => absurd hh.2.2 (by assumption))).symm | decide | (exfalso; simp only [zi_le, zi_lt, zi_eq, zi_n0, zi_n1, zi_n2, zi_n3, zi_n4, zi_n23, zi_n24, zi_n100, zi_n399, zi_n60, zi_n255, zi_n99, zi_nm1, zi_n30] at *; omega) | (simp_all; done)), ⟨by rw [ht]; exact hP, hD⟩⟩, hS.F ht⟩) hS.2.2 dX6_copy_54
              · skip
                exact absurd c_160 (by decide)
            · skip
              exact absurd c_155 (by decide)
        · skip
          replace e_121 : r_115 = 0 := e_121
          subst e_121
          replace h_120 : ¬ (0 ≤ (z2 : Int32) ∧ (z2 : Int32) ≤ 3) := h_120
          refine lv_if_ne (tgt := 17) hx hb dX6_copy_11 (by decide) (fun c_166 => ?_) (fun c_166 => ?_)
          · skip
            exact absurd c_166 (by decide)
          · skip
            refine lv_bipush (v := (-2)) hx hb dX6_copy_14 (by decide) ?_
            exact W.iret (v := (-2)) hx hb hr (fun t ht hW => ⟨⟨(-2), (0), rfl, (by first | assumption | with_reducible rfl | contradiction | exact (if_pos (by repeat' (first | assumption | decide | constructor))).symm | exact (if_neg (fun hh => absurd hh (by assumption))).symm | exact (if_neg (fun hh => absurd hh.1 (by assumption))).symm | exact (if_neg (fun hh => absurd hh.1.1 (by assumption))).symm | exact (if_neg (fun hh => absurd hh.1.2 (by assumption))).symm | exact (if_neg (fun hh => absurd hh.2 (by assumption))).symm | exact (if_neg (fun hh => absurd hh.2.1 (by assumption))).symm | exact (if_neg (fun hh => absurd hh.2.2 (by assumption))).symm | decide | (exfalso; simp only [zi_le, zi_lt, zi_eq, zi_n0, zi_n1, zi_n2, zi_n3, zi_n4, zi_n23, zi_n24, zi_n100, zi_n399, zi_n60, zi_n255, zi_n99, zi_nm1, zi_n30] at *; omega) | (simp_all; done)), ⟨by rw [ht]; exact hP, hD⟩⟩, hS.F ht⟩) hS.2.2 dX6_copy_16
    · skip
      refine lv_if_eq (tgt := 14) hx hb dX6_copy_4 (by decide) (fun c_167 => ?_) (fun c_167 => ?_)
      · skip
        exact absurd c_167 (by decide)
      · skip
        refine lv_iload_n hx hb dX6_copy_7 rfl (lv_at hl 3 rfl) ?_
        refine zc0_i (w := (zX k q 0 (-1) 12 100 0 (fun _ => 0) aps 0 ar1 ar2 ar3 ar4 ar5 ar6 ar7 ph pp py wy fa fb cm0 ia0 0 0 ih0 in0 il0 tx0 sh0 cm1 ia1 0 0 ih1 in1 il1 tx1 sh1 cm2 ia2 0 0 ih2 in2 il2 tx2 sh2 cm3 ia3 0 0 ih3 in3 il3 tx3 sh3 (-1) 0 it0 (-1) 0 it1 (-1) 0 it2 (-1) 0 it3)) (va_runS (As := [.int z2]) (rest := []) ⟨hx, hb, hml, hown, hts⟩ (c_X6_isSheet l dC dI k (zTX k) z2 _ ) (va_cwS 1 hts (gzS wmt2_95 wmt2_96 wmt1_1 wmt2_97) rfl rfl rfl (by decide +kernel) ⟨Nat.le_of_ble_eq_true rfl, Nat.le_of_ble_eq_true rfl⟩) (zp0_S hK) rfl rfl hl.1 rfl (lv_room (Nat.le_of_ble_eq_true rfl)) dX6_copy_8 ⟨Nat.le_of_ble_eq_true rfl, Nat.le_of_ble_eq_true rfl⟩) hP hS hA (fun r_168 u_169 H locs w_170 hP hS => ?_)
        rcases w_170 with ⟨e_172, h_171⟩ | ⟨e_174, h_173⟩
        · skip
          replace e_172 : r_168 = 1 := e_172
          subst e_172
          replace h_171 : 0 ≤ (z2 : Int32) ∧ (z2 : Int32) ≤ 3 := h_171
          rcases zi_4 h_171 with rfl | rfl | rfl | rfl
          · skip
            refine lv_if_ne (tgt := 17) hx hb dX6_copy_11 (by decide) (fun c_175 => ?_) (fun c_175 => ?_)
            · skip
              refine lv_aload_n hx hb dX6_copy_17 rfl (lv_at hl 0 rfl) ?_
              refine va_get (D := (dC, dI)) (ci := 6) (v := .ref (q 2)) (C := RX6) (T := TX6) (N := 12) hx hb hts hi6 hown hK.1 hP 0 rfl rfl 1 (by decide) (hts _ wmt1_171) (fun _ h9 => h9) rfl dX6_copy_18 ?_
              refine lv_iload_n hx hb dX6_copy_21 rfl (lv_at hl 1 rfl) ?_
              refine va_aldq (D := (dC, dI)) hx hb hK.1 hP 2 4 rfl rfl (show ¬ _ by decide) dX6_copy_22 ?_
              refine z_top (v2 := .ref (q 34)) (rfl) ?_
              refine lv_astore (lv' := [(6, .ref (q 34)), (0, .ref (q 0)), (1, .int 3), (2, .int i), (3, .int 0), (4, .int j), (5, .int n)]) hx hb dX6_copy_23 hl (by decide) rfl (fun ls hl => ?_)
              refine lv_aload_n hx hb dX6_copy_25 rfl (lv_at hl 1 rfl) ?_
              refine va_get (D := (dC, dI)) (ci := 6) (v := .ref (q 2)) (C := RX6) (T := TX6) (N := 12) hx hb hts hi6 hown hK.1 hP 0 rfl rfl 1 (by decide) (hts _ wmt1_171) (fun _ h9 => h9) rfl dX6_copy_26 ?_
              refine lv_iload_n hx hb dX6_copy_29 rfl (lv_at hl 4 rfl) ?_
              refine va_aldq (D := (dC, dI)) hx hb hK.1 hP 2 4 rfl rfl (show ¬ _ by decide) dX6_copy_30 ?_
              refine z_top (v2 := .ref (q 28)) (rfl) ?_
              refine lv_astore (lv' := [(7, .ref (q 28)), (6, .ref (q 34)), (0, .ref (q 0)), (1, .int 3), (2, .int i), (3, .int 0), (4, .int j), (5, .int n)]) hx hb dX6_copy_31 hl (by decide) rfl (fun ls hl => ?_)
              refine lv_aload hx hb dX6_copy_33 (lv_at hl 1 rfl) ?_
              refine zcS_i (w := (zX k q 0 (-1) 12 100 0 (fun _ => 0) aps 0 ar1 ar2 ar3 ar4 ar5 ar6 ar7 ph pp py wy fa fb cm0 ia0 0 0 ih0 in0 il0 tx0 sh0 cm1 ia1 0 0 ih1 in1 il1 tx1 sh1 cm2 ia2 0 0 ih2 in2 il2 tx2 sh2 cm3 ia3 0 0 ih3 in3 il3 tx3 sh3 (-1) 0 it0 (-1) 0 it1 (-1) 0 it2 (-1) 0 it3)) (wc := (zShe k (q 34) (q 35) it3 (-1) 0)) (va_runV (As := []) (rest := []) ⟨hx, hb, hml, hown, hts⟩ (c_X5_isLost l dC dI k (zTX k) (q 34) (q 35) it3 0 _ ) (cwV 0 hts (gzV wmt2_98 wmt2_99 wmt2_100 wmt1_7 wmt2_101) rfl rfl rfl (by decide +kernel) ⟨Nat.le_of_ble_eq_true rfl, Nat.le_of_ble_eq_true rfl⟩) (zp_V (ci := 5) (q0 := 34) hK hP hD [34, 35] rfl rfl rfl rfl) rfl rfl hl.1 rfl (lv_room (Nat.le_of_ble_eq_true rfl)) dX6_copy_35 ⟨Nat.le_of_ble_eq_true rfl, Nat.le_of_ble_eq_true rfl⟩) hP hD hS hA [34, 35] rfl (fun _ => rfl) (fun r_176 u_177 H locs w_178 hP hD hS => ?_)
              have hP : va_P (dC, dI) vwCl (zX k q 0 (-1) 12 100 0 (fun _ => 0) aps 0 ar1 ar2 ar3 ar4 ar5 ar6 ar7 ph pp py wy fa fb cm0 ia0 0 0 ih0 in0 il0 tx0 sh0 cm1 ia1 0 0 ih1 in1 il1 tx1 sh1 cm2 ia2 0 0 ih2 in2 il2 tx2 sh2 cm3 ia3 0 0 ih3 in3 il3 tx3 sh3 (-1) 0 it0 (-1) 0 it1 (-1) 0 it2 (-1) 0 it3) H := hP
              have hD : va_D A (zX k q 0 (-1) 12 100 0 (fun _ => 0) aps 0 ar1 ar2 ar3 ar4 ar5 ar6 ar7 ph pp py wy fa fb cm0 ia0 0 0 ih0 in0 il0 tx0 sh0 cm1 ia1 0 0 ih1 in1 il1 tx1 sh1 cm2 ia2 0 0 ih2 in2 il2 tx2 sh2 cm3 ia3 0 0 ih3 in3 il3 tx3 sh3 (-1) 0 it0 (-1) 0 it1 (-1) 0 it2 (-1) 0 it3) := hD
              have e_179 := w_178
              replace e_179 : r_176 = 1 := e_179
              subst e_179
              refine lv_if_ne (tgt := 49) hx hb dX6_copy_38 (by decide) (fun c_180 => ?_) (fun c_180 => ?_)
              · skip
                refine lv_aload_n hx hb dX6_copy_49 rfl (lv_at hl 2 rfl) ?_
                refine lv_iconst (v := 1) hx hb dX6_copy_50 (by decide) ?_
                refine zcA_i (w := (zX k q 0 (-1) 12 100 0 (fun _ => 0) aps 0 ar1 ar2 ar3 ar4 ar5 ar6 ar7 ph pp py wy fa fb cm0 ia0 0 0 ih0 in0 il0 tx0 sh0 cm1 ia1 0 0 ih1 in1 il1 tx1 sh1 cm2 ia2 0 0 ih2 in2 il2 tx2 sh2 cm3 ia3 0 0 ih3 in3 il3 tx3 sh3 (-1) 0 it0 (-1) 0 it1 (-1) 0 it2 (-1) 0 it3)) (va_runV (As := [.int 1]) (rest := []) ⟨hx, hb, hml, hown, hts⟩ (c_X6_found_1 l dC dI k  q aps ar1 ar2 ar3 ar4 ar5 ar6 ar7 ph pp py wy fa fb cm0 ia0 ih0 in0 il0 tx0 sh0 cm1 ia1 ih1 in1 il1 tx1 sh1 cm2 ia2 ih2 in2 il2 tx2 sh2 cm3 ia3 ih3 in3 il3 tx3 sh3 it0 it1 it2 it3 _ ) (cwV 1 hts (gzV wmt2_102 wmt2_104 wmp1_7 wmt1_1 wmt2_105) rfl rfl rfl (by decide +kernel) ⟨Nat.le_of_ble_eq_true rfl, Nat.le_of_ble_eq_true rfl⟩) (zpA_V (ci := 6) (q0 := 0) hK hP hD rfl rfl) rfl rfl hl.1 rfl (lv_room (Nat.le_of_ble_eq_true rfl)) dX6_copy_51 ⟨Nat.le_of_ble_eq_true rfl, Nat.le_of_ble_eq_true rfl⟩) hD hS hA (fun r_181 u_182 H locs w_183 hP hD hS => ?_)
                obtain ⟨oxfi_184, rfl⟩ : ∃ z, z = u_182 := ⟨_, rfl⟩
                have hP : va_P (dC, dI) vwCl (zX k q 0 (-1) 12 100 oxfi_184 (fun _ => 0) aps 0 ar1 ar2 ar3 ar4 ar5 ar6 ar7 ph pp py wy fa fb cm0 ia0 0 0 ih0 in0 il0 tx0 sh0 cm1 ia1 0 0 ih1 in1 il1 tx1 sh1 cm2 ia2 0 0 ih2 in2 il2 tx2 sh2 cm3 ia3 0 0 ih3 in3 il3 tx3 sh3 (-1) 0 it0 (-1) 0 it1 (-1) 0 it2 (-1) 0 it3) H := hP
                have hD : va_D A (zX k q 0 (-1) 12 100 oxfi_184 (fun _ => 0) aps 0 ar1 ar2 ar3 ar4 ar5 ar6 ar7 ph pp py wy fa fb cm0 ia0 0 0 ih0 in0 il0 tx0 sh0 cm1 ia1 0 0 ih1 in1 il1 tx1 sh1 cm2 ia2 0 0 ih2 in2 il2 tx2 sh2 cm3 ia3 0 0 ih3 in3 il3 tx3 sh3 (-1) 0 it0 (-1) 0 it1 (-1) 0 it2 (-1) 0 it3) := hD
                have e_185 := w_183
                replace e_185 : r_181 = (-11) := e_185
                subst e_185
                exact W.iret (v := (-11)) hx hb hr (fun t ht hW => ⟨⟨(-11), (oxfi_184), rfl, (by first | assumption | with_reducible rfl | contradiction | exact (if_pos (by repeat' (first | assumption | decide | constructor))).symm | exact (if_neg (fun hh => absurd hh (by assumption))).symm | exact (if_neg (fun hh => absurd hh.1 (by assumption))).symm | exact (if_neg (fun hh => absurd hh.1.1 (by assumption))).symm | exact (if_neg (fun hh => absurd hh.1.2 (by assumption))).symm | exact (if_neg (fun hh => absurd hh.2 (by assumption))).symm | exact (if_neg (fun hh => absurd hh.2.1 (by assumption))).symm | exact (if_neg (fun hh => absurd hh.2.2 (by assumption))).symm | decide | (exfalso; simp only [zi_le, zi_lt, zi_eq, zi_n0, zi_n1, zi_n2, zi_n3, zi_n4, zi_n23, zi_n24, zi_n100, zi_n399, zi_n60, zi_n255, zi_n99, zi_nm1, zi_n30] at *; omega) | (simp_all; done)), ⟨by rw [ht]; exact hP, hD⟩⟩, hS.F ht⟩) hS.2.2 dX6_copy_54
              · skip
                exact absurd c_180 (by decide)
            · skip
              exact absurd c_175 (by decide)
          · skip
            refine lv_if_ne (tgt := 17) hx hb dX6_copy_11 (by decide) (fun c_186 => ?_) (fun c_186 => ?_)
            · skip
              refine lv_aload_n hx hb dX6_copy_17 rfl (lv_at hl 0 rfl) ?_
              refine va_get (D := (dC, dI)) (ci := 6) (v := .ref (q 2)) (C := RX6) (T := TX6) (N := 12) hx hb hts hi6 hown hK.1 hP 0 rfl rfl 1 (by decide) (hts _ wmt1_171) (fun _ h9 => h9) rfl dX6_copy_18 ?_
              refine lv_iload_n hx hb dX6_copy_21 rfl (lv_at hl 1 rfl) ?_
              refine va_aldq (D := (dC, dI)) hx hb hK.1 hP 2 4 rfl rfl (show ¬ _ by decide) dX6_copy_22 ?_
              refine z_top (v2 := .ref (q 34)) (rfl) ?_
              refine lv_astore (lv' := [(6, .ref (q 34)), (0, .ref (q 0)), (1, .int 3), (2, .int i), (3, .int 1), (4, .int j), (5, .int n)]) hx hb dX6_copy_23 hl (by decide) rfl (fun ls hl => ?_)
              refine lv_aload_n hx hb dX6_copy_25 rfl (lv_at hl 1 rfl) ?_
              refine va_get (D := (dC, dI)) (ci := 6) (v := .ref (q 2)) (C := RX6) (T := TX6) (N := 12) hx hb hts hi6 hown hK.1 hP 0 rfl rfl 1 (by decide) (hts _ wmt1_171) (fun _ h9 => h9) rfl dX6_copy_26 ?_
              refine lv_iload_n hx hb dX6_copy_29 rfl (lv_at hl 4 rfl) ?_
              refine va_aldq (D := (dC, dI)) hx hb hK.1 hP 2 4 rfl rfl (show ¬ _ by decide) dX6_copy_30 ?_
              refine z_top (v2 := .ref (q 30)) (rfl) ?_
              refine lv_astore (lv' := [(7, .ref (q 30)), (6, .ref (q 34)), (0, .ref (q 0)), (1, .int 3), (2, .int i), (3, .int 1), (4, .int j), (5, .int n)]) hx hb dX6_copy_31 hl (by decide) rfl (fun ls hl => ?_)
              refine lv_aload hx hb dX6_copy_33 (lv_at hl 1 rfl) ?_
              refine zcS_i (w := (zX k q 0 (-1) 12 100 0 (fun _ => 0) aps 0 ar1 ar2 ar3 ar4 ar5 ar6 ar7 ph pp py wy fa fb cm0 ia0 0 0 ih0 in0 il0 tx0 sh0 cm1 ia1 0 0 ih1 in1 il1 tx1 sh1 cm2 ia2 0 0 ih2 in2 il2 tx2 sh2 cm3 ia3 0 0 ih3 in3 il3 tx3 sh3 (-1) 0 it0 (-1) 0 it1 (-1) 0 it2 (-1) 0 it3)) (wc := (zShe k (q 34) (q 35) it3 (-1) 0)) (va_runV (As := []) (rest := []) ⟨hx, hb, hml, hown, hts⟩ (c_X5_isLost l dC dI k (zTX k) (q 34) (q 35) it3 0 _ ) (cwV 0 hts (gzV wmt2_98 wmt2_99 wmt2_100 wmt1_7 wmt2_101) rfl rfl rfl (by decide +kernel) ⟨Nat.le_of_ble_eq_true rfl, Nat.le_of_ble_eq_true rfl⟩) (zp_V (ci := 5) (q0 := 34) hK hP hD [34, 35] rfl rfl rfl rfl) rfl rfl hl.1 rfl (lv_room (Nat.le_of_ble_eq_true rfl)) dX6_copy_35 ⟨Nat.le_of_ble_eq_true rfl, Nat.le_of_ble_eq_true rfl⟩) hP hD hS hA [34, 35] rfl (fun _ => rfl) (fun r_187 u_188 H locs w_189 hP hD hS => ?_)
              have hP : va_P (dC, dI) vwCl (zX k q 0 (-1) 12 100 0 (fun _ => 0) aps 0 ar1 ar2 ar3 ar4 ar5 ar6 ar7 ph pp py wy fa fb cm0 ia0 0 0 ih0 in0 il0 tx0 sh0 cm1 ia1 0 0 ih1 in1 il1 tx1 sh1 cm2 ia2 0 0 ih2 in2 il2 tx2 sh2 cm3 ia3 0 0 ih3 in3 il3 tx3 sh3 (-1) 0 it0 (-1) 0 it1 (-1) 0 it2 (-1) 0 it3) H := hP
              have hD : va_D A (zX k q 0 (-1) 12 100 0 (fun _ => 0) aps 0 ar1 ar2 ar3 ar4 ar5 ar6 ar7 ph pp py wy fa fb cm0 ia0 0 0 ih0 in0 il0 tx0 sh0 cm1 ia1 0 0 ih1 in1 il1 tx1 sh1 cm2 ia2 0 0 ih2 in2 il2 tx2 sh2 cm3 ia3 0 0 ih3 in3 il3 tx3 sh3 (-1) 0 it0 (-1) 0 it1 (-1) 0 it2 (-1) 0 it3) := hD
              have e_190 := w_189
              replace e_190 : r_187 = 1 := e_190
              subst e_190
              refine lv_if_ne (tgt := 49) hx hb dX6_copy_38 (by decide) (fun c_191 => ?_) (fun c_191 => ?_)
              · skip
                refine lv_aload_n hx hb dX6_copy_49 rfl (lv_at hl 2 rfl) ?_
                refine lv_iconst (v := 1) hx hb dX6_copy_50 (by decide) ?_
                refine zcA_i (w := (zX k q 0 (-1) 12 100 0 (fun _ => 0) aps 0 ar1 ar2 ar3 ar4 ar5 ar6 ar7 ph pp py wy fa fb cm0 ia0 0 0 ih0 in0 il0 tx0 sh0 cm1 ia1 0 0 ih1 in1 il1 tx1 sh1 cm2 ia2 0 0 ih2 in2 il2 tx2 sh2 cm3 ia3 0 0 ih3 in3 il3 tx3 sh3 (-1) 0 it0 (-1) 0 it1 (-1) 0 it2 (-1) 0 it3)) (va_runV (As := [.int 1]) (rest := []) ⟨hx, hb, hml, hown, hts⟩ (c_X6_found_1 l dC dI k  q aps ar1 ar2 ar3 ar4 ar5 ar6 ar7 ph pp py wy fa fb cm0 ia0 ih0 in0 il0 tx0 sh0 cm1 ia1 ih1 in1 il1 tx1 sh1 cm2 ia2 ih2 in2 il2 tx2 sh2 cm3 ia3 ih3 in3 il3 tx3 sh3 it0 it1 it2 it3 _ ) (cwV 1 hts (gzV wmt2_102 wmt2_104 wmp1_7 wmt1_1 wmt2_105) rfl rfl rfl (by decide +kernel) ⟨Nat.le_of_ble_eq_true rfl, Nat.le_of_ble_eq_true rfl⟩) (zpA_V (ci := 6) (q0 := 0) hK hP hD rfl rfl) rfl rfl hl.1 rfl (lv_room (Nat.le_of_ble_eq_true rfl)) dX6_copy_51 ⟨Nat.le_of_ble_eq_true rfl, Nat.le_of_ble_eq_true rfl⟩) hD hS hA (fun r_192 u_193 H locs w_194 hP hD hS => ?_)
                obtain ⟨oxfi_195, rfl⟩ : ∃ z, z = u_193 := ⟨_, rfl⟩
                have hP : va_P (dC, dI) vwCl (zX k q 0 (-1) 12 100 oxfi_195 (fun _ => 0) aps 0 ar1 ar2 ar3 ar4 ar5 ar6 ar7 ph pp py wy fa fb cm0 ia0 0 0 ih0 in0 il0 tx0 sh0 cm1 ia1 0 0 ih1 in1 il1 tx1 sh1 cm2 ia2 0 0 ih2 in2 il2 tx2 sh2 cm3 ia3 0 0 ih3 in3 il3 tx3 sh3 (-1) 0 it0 (-1) 0 it1 (-1) 0 it2 (-1) 0 it3) H := hP
                have hD : va_D A (zX k q 0 (-1) 12 100 oxfi_195 (fun _ => 0) aps 0 ar1 ar2 ar3 ar4 ar5 ar6 ar7 ph pp py wy fa fb cm0 ia0 0 0 ih0 in0 il0 tx0 sh0 cm1 ia1 0 0 ih1 in1 il1 tx1 sh1 cm2 ia2 0 0 ih2 in2 il2 tx2 sh2 cm3 ia3 0 0 ih3 in3 il3 tx3 sh3 (-1) 0 it0 (-1) 0 it1 (-1) 0 it2 (-1) 0 it3) := hD
                have e_196 := w_194
                replace e_196 : r_192 = (-11) := e_196
                subst e_196
                exact W.iret (v := (-11)) hx hb hr (fun t ht hW => ⟨⟨(-11), (oxfi_195), rfl, (by first | assumption | with_reducible rfl | contradiction | exact (if_pos (by repeat' (first | assumption | decide | constructor))).symm | exact (if_neg (fun hh => absurd hh (by assumption))).symm | exact (if_neg (fun hh => absurd hh.1 (by assumption))).symm | exact (if_neg (fun hh => absurd hh.1.1 (by assumption))).symm | exact (if_neg (fun hh => absurd hh.1.2 (by assumption))).symm | exact (if_neg (fun hh => absurd hh.2 (by assumption))).symm | exact (if_neg (fun hh => absurd hh.2.1 (by assumption))).symm | exact (if_neg (fun hh => absurd hh.2.2 (by assumption))).symm | decide | (exfalso; simp only [zi_le, zi_lt, zi_eq, zi_n0, zi_n1, zi_n2, zi_n3, zi_n4, zi_n23, zi_n24, zi_n100, zi_n399, zi_n60, zi_n255, zi_n99, zi_nm1, zi_n30] at *; omega) | (simp_all; done)), ⟨by rw [ht]; exact hP, hD⟩⟩, hS.F ht⟩) hS.2.2 dX6_copy_54
              · skip
                exact absurd c_191 (by decide)
            · skip
              exact absurd c_186 (by decide)
          · skip
            refine lv_if_ne (tgt := 17) hx hb dX6_copy_11 (by decide) (fun c_197 => ?_) (fun c_197 => ?_)
            · skip
              refine lv_aload_n hx hb dX6_copy_17 rfl (lv_at hl 0 rfl) ?_
              refine va_get (D := (dC, dI)) (ci := 6) (v := .ref (q 2)) (C := RX6) (T := TX6) (N := 12) hx hb hts hi6 hown hK.1 hP 0 rfl rfl 1 (by decide) (hts _ wmt1_171) (fun _ h9 => h9) rfl dX6_copy_18 ?_
              refine lv_iload_n hx hb dX6_copy_21 rfl (lv_at hl 1 rfl) ?_
              refine va_aldq (D := (dC, dI)) hx hb hK.1 hP 2 4 rfl rfl (show ¬ _ by decide) dX6_copy_22 ?_
              refine z_top (v2 := .ref (q 34)) (rfl) ?_
              refine lv_astore (lv' := [(6, .ref (q 34)), (0, .ref (q 0)), (1, .int 3), (2, .int i), (3, .int 2), (4, .int j), (5, .int n)]) hx hb dX6_copy_23 hl (by decide) rfl (fun ls hl => ?_)
              refine lv_aload_n hx hb dX6_copy_25 rfl (lv_at hl 1 rfl) ?_
              refine va_get (D := (dC, dI)) (ci := 6) (v := .ref (q 2)) (C := RX6) (T := TX6) (N := 12) hx hb hts hi6 hown hK.1 hP 0 rfl rfl 1 (by decide) (hts _ wmt1_171) (fun _ h9 => h9) rfl dX6_copy_26 ?_
              refine lv_iload_n hx hb dX6_copy_29 rfl (lv_at hl 4 rfl) ?_
              refine va_aldq (D := (dC, dI)) hx hb hK.1 hP 2 4 rfl rfl (show ¬ _ by decide) dX6_copy_30 ?_
              refine z_top (v2 := .ref (q 32)) (rfl) ?_
              refine lv_astore (lv' := [(7, .ref (q 32)), (6, .ref (q 34)), (0, .ref (q 0)), (1, .int 3), (2, .int i), (3, .int 2), (4, .int j), (5, .int n)]) hx hb dX6_copy_31 hl (by decide) rfl (fun ls hl => ?_)
              refine lv_aload hx hb dX6_copy_33 (lv_at hl 1 rfl) ?_
              refine zcS_i (w := (zX k q 0 (-1) 12 100 0 (fun _ => 0) aps 0 ar1 ar2 ar3 ar4 ar5 ar6 ar7 ph pp py wy fa fb cm0 ia0 0 0 ih0 in0 il0 tx0 sh0 cm1 ia1 0 0 ih1 in1 il1 tx1 sh1 cm2 ia2 0 0 ih2 in2 il2 tx2 sh2 cm3 ia3 0 0 ih3 in3 il3 tx3 sh3 (-1) 0 it0 (-1) 0 it1 (-1) 0 it2 (-1) 0 it3)) (wc := (zShe k (q 34) (q 35) it3 (-1) 0)) (va_runV (As := []) (rest := []) ⟨hx, hb, hml, hown, hts⟩ (c_X5_isLost l dC dI k (zTX k) (q 34) (q 35) it3 0 _ ) (cwV 0 hts (gzV wmt2_98 wmt2_99 wmt2_100 wmt1_7 wmt2_101) rfl rfl rfl (by decide +kernel) ⟨Nat.le_of_ble_eq_true rfl, Nat.le_of_ble_eq_true rfl⟩) (zp_V (ci := 5) (q0 := 34) hK hP hD [34, 35] rfl rfl rfl rfl) rfl rfl hl.1 rfl (lv_room (Nat.le_of_ble_eq_true rfl)) dX6_copy_35 ⟨Nat.le_of_ble_eq_true rfl, Nat.le_of_ble_eq_true rfl⟩) hP hD hS hA [34, 35] rfl (fun _ => rfl) (fun r_198 u_199 H locs w_200 hP hD hS => ?_)
              have hP : va_P (dC, dI) vwCl (zX k q 0 (-1) 12 100 0 (fun _ => 0) aps 0 ar1 ar2 ar3 ar4 ar5 ar6 ar7 ph pp py wy fa fb cm0 ia0 0 0 ih0 in0 il0 tx0 sh0 cm1 ia1 0 0 ih1 in1 il1 tx1 sh1 cm2 ia2 0 0 ih2 in2 il2 tx2 sh2 cm3 ia3 0 0 ih3 in3 il3 tx3 sh3 (-1) 0 it0 (-1) 0 it1 (-1) 0 it2 (-1) 0 it3) H := hP
              have hD : va_D A (zX k q 0 (-1) 12 100 0 (fun _ => 0) aps 0 ar1 ar2 ar3 ar4 ar5 ar6 ar7 ph pp py wy fa fb cm0 ia0 0 0 ih0 in0 il0 tx0 sh0 cm1 ia1 0 0 ih1 in1 il1 tx1 sh1 cm2 ia2 0 0 ih2 in2 il2 tx2 sh2 cm3 ia3 0 0 ih3 in3 il3 tx3 sh3 (-1) 0 it0 (-1) 0 it1 (-1) 0 it2 (-1) 0 it3) := hD
              have e_201 := w_200
              replace e_201 : r_198 = 1 := e_201
              subst e_201
              refine lv_if_ne (tgt := 49) hx hb dX6_copy_38 (by decide) (fun c_202 => ?_) (fun c_202 => ?_)
              · skip
                refine lv_aload_n hx hb dX6_copy_49 rfl (lv_at hl 2 rfl) ?_
                refine lv_iconst (v := 1) hx hb dX6_copy_50 (by decide) ?_
                refine zcA_i (w := (zX k q 0 (-1) 12 100 0 (fun _ => 0) aps 0 ar1 ar2 ar3 ar4 ar5 ar6 ar7 ph pp py wy fa fb cm0 ia0 0 0 ih0 in0 il0 tx0 sh0 cm1 ia1 0 0 ih1 in1 il1 tx1 sh1 cm2 ia2 0 0 ih2 in2 il2 tx2 sh2 cm3 ia3 0 0 ih3 in3 il3 tx3 sh3 (-1) 0 it0 (-1) 0 it1 (-1) 0 it2 (-1) 0 it3)) (va_runV (As := [.int 1]) (rest := []) ⟨hx, hb, hml, hown, hts⟩ (c_X6_found_1 l dC dI k  q aps ar1 ar2 ar3 ar4 ar5 ar6 ar7 ph pp py wy fa fb cm0 ia0 ih0 in0 il0 tx0 sh0 cm1 ia1 ih1 in1 il1 tx1 sh1 cm2 ia2 ih2 in2 il2 tx2 sh2 cm3 ia3 ih3 in3 il3 tx3 sh3 it0 it1 it2 it3 _ ) (cwV 1 hts (gzV wmt2_102 wmt2_104 wmp1_7 wmt1_1 wmt2_105) rfl rfl rfl (by decide +kernel) ⟨Nat.le_of_ble_eq_true rfl, Nat.le_of_ble_eq_true rfl⟩) (zpA_V (ci := 6) (q0 := 0) hK hP hD rfl rfl) rfl rfl hl.1 rfl (lv_room (Nat.le_of_ble_eq_true rfl)) dX6_copy_51 ⟨Nat.le_of_ble_eq_true rfl, Nat.le_of_ble_eq_true rfl⟩) hD hS hA (fun r_203 u_204 H locs w_205 hP hD hS => ?_)
                obtain ⟨oxfi_206, rfl⟩ : ∃ z, z = u_204 := ⟨_, rfl⟩
                have hP : va_P (dC, dI) vwCl (zX k q 0 (-1) 12 100 oxfi_206 (fun _ => 0) aps 0 ar1 ar2 ar3 ar4 ar5 ar6 ar7 ph pp py wy fa fb cm0 ia0 0 0 ih0 in0 il0 tx0 sh0 cm1 ia1 0 0 ih1 in1 il1 tx1 sh1 cm2 ia2 0 0 ih2 in2 il2 tx2 sh2 cm3 ia3 0 0 ih3 in3 il3 tx3 sh3 (-1) 0 it0 (-1) 0 it1 (-1) 0 it2 (-1) 0 it3) H := hP
                have hD : va_D A (zX k q 0 (-1) 12 100 oxfi_206 (fun _ => 0) aps 0 ar1 ar2 ar3 ar4 ar5 ar6 ar7 ph pp py wy fa fb cm0 ia0 0 0 ih0 in0 il0 tx0 sh0 cm1 ia1 0 0 ih1 in1 il1 tx1 sh1 cm2 ia2 0 0 ih2 in2 il2 tx2 sh2 cm3 ia3 0 0 ih3 in3 il3 tx3 sh3 (-1) 0 it0 (-1) 0 it1 (-1) 0 it2 (-1) 0 it3) := hD
                have e_207 := w_205
                replace e_207 : r_203 = (-11) := e_207
                subst e_207
                exact W.iret (v := (-11)) hx hb hr (fun t ht hW => ⟨⟨(-11), (oxfi_206), rfl, (by first | assumption | with_reducible rfl | contradiction | exact (if_pos (by repeat' (first | assumption | decide | constructor))).symm | exact (if_neg (fun hh => absurd hh (by assumption))).symm | exact (if_neg (fun hh => absurd hh.1 (by assumption))).symm | exact (if_neg (fun hh => absurd hh.1.1 (by assumption))).symm | exact (if_neg (fun hh => absurd hh.1.2 (by assumption))).symm | exact (if_neg (fun hh => absurd hh.2 (by assumption))).symm | exact (if_neg (fun hh => absurd hh.2.1 (by assumption))).symm | exact (if_neg (fun hh => absurd hh.2.2 (by assumption))).symm | decide | (exfalso; simp only [zi_le, zi_lt, zi_eq, zi_n0, zi_n1, zi_n2, zi_n3, zi_n4, zi_n23, zi_n24, zi_n100, zi_n399, zi_n60, zi_n255, zi_n99, zi_nm1, zi_n30] at *; omega) | (simp_all; done)), ⟨by rw [ht]; exact hP, hD⟩⟩, hS.F ht⟩) hS.2.2 dX6_copy_54
              · skip
                exact absurd c_202 (by decide)
            · skip
              exact absurd c_197 (by decide)
          · skip
            refine lv_if_ne (tgt := 17) hx hb dX6_copy_11 (by decide) (fun c_208 => ?_) (fun c_208 => ?_)
            · skip
              refine lv_aload_n hx hb dX6_copy_17 rfl (lv_at hl 0 rfl) ?_
              refine va_get (D := (dC, dI)) (ci := 6) (v := .ref (q 2)) (C := RX6) (T := TX6) (N := 12) hx hb hts hi6 hown hK.1 hP 0 rfl rfl 1 (by decide) (hts _ wmt1_171) (fun _ h9 => h9) rfl dX6_copy_18 ?_
              refine lv_iload_n hx hb dX6_copy_21 rfl (lv_at hl 1 rfl) ?_
              refine va_aldq (D := (dC, dI)) hx hb hK.1 hP 2 4 rfl rfl (show ¬ _ by decide) dX6_copy_22 ?_
              refine z_top (v2 := .ref (q 34)) (rfl) ?_
              refine lv_astore (lv' := [(6, .ref (q 34)), (0, .ref (q 0)), (1, .int 3), (2, .int i), (3, .int 3), (4, .int j), (5, .int n)]) hx hb dX6_copy_23 hl (by decide) rfl (fun ls hl => ?_)
              refine lv_aload_n hx hb dX6_copy_25 rfl (lv_at hl 1 rfl) ?_
              refine va_get (D := (dC, dI)) (ci := 6) (v := .ref (q 2)) (C := RX6) (T := TX6) (N := 12) hx hb hts hi6 hown hK.1 hP 0 rfl rfl 1 (by decide) (hts _ wmt1_171) (fun _ h9 => h9) rfl dX6_copy_26 ?_
              refine lv_iload_n hx hb dX6_copy_29 rfl (lv_at hl 4 rfl) ?_
              refine va_aldq (D := (dC, dI)) hx hb hK.1 hP 2 4 rfl rfl (show ¬ _ by decide) dX6_copy_30 ?_
              refine z_top (v2 := .ref (q 34)) (rfl) ?_
              refine lv_astore (lv' := [(7, .ref (q 34)), (6, .ref (q 34)), (0, .ref (q 0)), (1, .int 3), (2, .int i), (3, .int 3), (4, .int j), (5, .int n)]) hx hb dX6_copy_31 hl (by decide) rfl (fun ls hl => ?_)
              refine lv_aload hx hb dX6_copy_33 (lv_at hl 1 rfl) ?_
              refine zcS_i (w := (zX k q 0 (-1) 12 100 0 (fun _ => 0) aps 0 ar1 ar2 ar3 ar4 ar5 ar6 ar7 ph pp py wy fa fb cm0 ia0 0 0 ih0 in0 il0 tx0 sh0 cm1 ia1 0 0 ih1 in1 il1 tx1 sh1 cm2 ia2 0 0 ih2 in2 il2 tx2 sh2 cm3 ia3 0 0 ih3 in3 il3 tx3 sh3 (-1) 0 it0 (-1) 0 it1 (-1) 0 it2 (-1) 0 it3)) (wc := (zShe k (q 34) (q 35) it3 (-1) 0)) (va_runV (As := []) (rest := []) ⟨hx, hb, hml, hown, hts⟩ (c_X5_isLost l dC dI k (zTX k) (q 34) (q 35) it3 0 _ ) (cwV 0 hts (gzV wmt2_98 wmt2_99 wmt2_100 wmt1_7 wmt2_101) rfl rfl rfl (by decide +kernel) ⟨Nat.le_of_ble_eq_true rfl, Nat.le_of_ble_eq_true rfl⟩) (zp_V (ci := 5) (q0 := 34) hK hP hD [34, 35] rfl rfl rfl rfl) rfl rfl hl.1 rfl (lv_room (Nat.le_of_ble_eq_true rfl)) dX6_copy_35 ⟨Nat.le_of_ble_eq_true rfl, Nat.le_of_ble_eq_true rfl⟩) hP hD hS hA [34, 35] rfl (fun _ => rfl) (fun r_209 u_210 H locs w_211 hP hD hS => ?_)
              have hP : va_P (dC, dI) vwCl (zX k q 0 (-1) 12 100 0 (fun _ => 0) aps 0 ar1 ar2 ar3 ar4 ar5 ar6 ar7 ph pp py wy fa fb cm0 ia0 0 0 ih0 in0 il0 tx0 sh0 cm1 ia1 0 0 ih1 in1 il1 tx1 sh1 cm2 ia2 0 0 ih2 in2 il2 tx2 sh2 cm3 ia3 0 0 ih3 in3 il3 tx3 sh3 (-1) 0 it0 (-1) 0 it1 (-1) 0 it2 (-1) 0 it3) H := hP
              have hD : va_D A (zX k q 0 (-1) 12 100 0 (fun _ => 0) aps 0 ar1 ar2 ar3 ar4 ar5 ar6 ar7 ph pp py wy fa fb cm0 ia0 0 0 ih0 in0 il0 tx0 sh0 cm1 ia1 0 0 ih1 in1 il1 tx1 sh1 cm2 ia2 0 0 ih2 in2 il2 tx2 sh2 cm3 ia3 0 0 ih3 in3 il3 tx3 sh3 (-1) 0 it0 (-1) 0 it1 (-1) 0 it2 (-1) 0 it3) := hD
              have e_212 := w_211
              replace e_212 : r_209 = 1 := e_212
              subst e_212
              refine lv_if_ne (tgt := 49) hx hb dX6_copy_38 (by decide) (fun c_213 => ?_) (fun c_213 => ?_)
              · skip
                refine lv_aload_n hx hb dX6_copy_49 rfl (lv_at hl 2 rfl) ?_
                refine lv_iconst (v := 1) hx hb dX6_copy_50 (by decide) ?_
                refine zcA_i (w := (zX k q 0 (-1) 12 100 0 (fun _ => 0) aps 0 ar1 ar2 ar3 ar4 ar5 ar6 ar7 ph pp py wy fa fb cm0 ia0 0 0 ih0 in0 il0 tx0 sh0 cm1 ia1 0 0 ih1 in1 il1 tx1 sh1 cm2 ia2 0 0 ih2 in2 il2 tx2 sh2 cm3 ia3 0 0 ih3 in3 il3 tx3 sh3 (-1) 0 it0 (-1) 0 it1 (-1) 0 it2 (-1) 0 it3)) (va_runV (As := [.int 1]) (rest := []) ⟨hx, hb, hml, hown, hts⟩ (c_X6_found_1 l dC dI k  q aps ar1 ar2 ar3 ar4 ar5 ar6 ar7 ph pp py wy fa fb cm0 ia0 ih0 in0 il0 tx0 sh0 cm1 ia1 ih1 in1 il1 tx1 sh1 cm2 ia2 ih2 in2 il2 tx2 sh2 cm3 ia3 ih3 in3 il3 tx3 sh3 it0 it1 it2 it3 _ ) (cwV 1 hts (gzV wmt2_102 wmt2_104 wmp1_7 wmt1_1 wmt2_105) rfl rfl rfl (by decide +kernel) ⟨Nat.le_of_ble_eq_true rfl, Nat.le_of_ble_eq_true rfl⟩) (zpA_V (ci := 6) (q0 := 0) hK hP hD rfl rfl) rfl rfl hl.1 rfl (lv_room (Nat.le_of_ble_eq_true rfl)) dX6_copy_51 ⟨Nat.le_of_ble_eq_true rfl, Nat.le_of_ble_eq_true rfl⟩) hD hS hA (fun r_214 u_215 H locs w_216 hP hD hS => ?_)
                obtain ⟨oxfi_217, rfl⟩ : ∃ z, z = u_215 := ⟨_, rfl⟩
                have hP : va_P (dC, dI) vwCl (zX k q 0 (-1) 12 100 oxfi_217 (fun _ => 0) aps 0 ar1 ar2 ar3 ar4 ar5 ar6 ar7 ph pp py wy fa fb cm0 ia0 0 0 ih0 in0 il0 tx0 sh0 cm1 ia1 0 0 ih1 in1 il1 tx1 sh1 cm2 ia2 0 0 ih2 in2 il2 tx2 sh2 cm3 ia3 0 0 ih3 in3 il3 tx3 sh3 (-1) 0 it0 (-1) 0 it1 (-1) 0 it2 (-1) 0 it3) H := hP
                have hD : va_D A (zX k q 0 (-1) 12 100 oxfi_217 (fun _ => 0) aps 0 ar1 ar2 ar3 ar4 ar5 ar6 ar7 ph pp py wy fa fb cm0 ia0 0 0 ih0 in0 il0 tx0 sh0 cm1 ia1 0 0 ih1 in1 il1 tx1 sh1 cm2 ia2 0 0 ih2 in2 il2 tx2 sh2 cm3 ia3 0 0 ih3 in3 il3 tx3 sh3 (-1) 0 it0 (-1) 0 it1 (-1) 0 it2 (-1) 0 it3) := hD
                have e_218 := w_216
                replace e_218 : r_214 = (-11) := e_218
                subst e_218
                exact W.iret (v := (-11)) hx hb hr (fun t ht hW => ⟨⟨(-11), (oxfi_217), rfl, (by first | assumption | with_reducible rfl | contradiction | exact (if_pos (by repeat' (first | assumption | decide | constructor))).symm | exact (if_neg (fun hh => absurd hh (by assumption))).symm | exact (if_neg (fun hh => absurd hh.1 (by assumption))).symm | exact (if_neg (fun hh => absurd hh.1.1 (by assumption))).symm | exact (if_neg (fun hh => absurd hh.1.2 (by assumption))).symm | exact (if_neg (fun hh => absurd hh.2 (by assumption))).symm | exact (if_neg (fun hh => absurd hh.2.1 (by assumption))).symm | exact (if_neg (fun hh => absurd hh.2.2 (by assumption))).symm | decide | (exfalso; simp only [zi_le, zi_lt, zi_eq, zi_n0, zi_n1, zi_n2, zi_n3, zi_n4, zi_n23, zi_n24, zi_n100, zi_n399, zi_n60, zi_n255, zi_n99, zi_nm1, zi_n30] at *; omega) | (simp_all; done)), ⟨by rw [ht]; exact hP, hD⟩⟩, hS.F ht⟩) hS.2.2 dX6_copy_54
              · skip
                exact absurd c_213 (by decide)
            · skip
              exact absurd c_208 (by decide)
        · skip
          replace e_174 : r_168 = 0 := e_174
          subst e_174
          replace h_173 : ¬ (0 ≤ (z2 : Int32) ∧ (z2 : Int32) ≤ 3) := h_173
          refine lv_if_ne (tgt := 17) hx hb dX6_copy_11 (by decide) (fun c_219 => ?_) (fun c_219 => ?_)
          · skip
            exact absurd c_219 (by decide)
          · skip
            refine lv_bipush (v := (-2)) hx hb dX6_copy_14 (by decide) ?_
            exact W.iret (v := (-2)) hx hb hr (fun t ht hW => ⟨⟨(-2), (0), rfl, (by first | assumption | with_reducible rfl | contradiction | exact (if_pos (by repeat' (first | assumption | decide | constructor))).symm | exact (if_neg (fun hh => absurd hh (by assumption))).symm | exact (if_neg (fun hh => absurd hh.1 (by assumption))).symm | exact (if_neg (fun hh => absurd hh.1.1 (by assumption))).symm | exact (if_neg (fun hh => absurd hh.1.2 (by assumption))).symm | exact (if_neg (fun hh => absurd hh.2 (by assumption))).symm | exact (if_neg (fun hh => absurd hh.2.1 (by assumption))).symm | exact (if_neg (fun hh => absurd hh.2.2 (by assumption))).symm | decide | (exfalso; simp only [zi_le, zi_lt, zi_eq, zi_n0, zi_n1, zi_n2, zi_n3, zi_n4, zi_n23, zi_n24, zi_n100, zi_n399, zi_n60, zi_n255, zi_n99, zi_nm1, zi_n30] at *; omega) | (simp_all; done)), ⟨by rw [ht]; exact hP, hD⟩⟩, hS.F ht⟩) hS.2.2 dX6_copy_16
  · skip
    replace e_7 : r_1 = 0 := e_7
    subst e_7
    replace h_6 : ¬ (0 ≤ (z : Int32) ∧ (z : Int32) ≤ 3) := h_6
    refine lv_if_eq (tgt := 14) hx hb dX6_copy_4 (by decide) (fun c_220 => ?_) (fun c_220 => ?_)
    · skip
      refine lv_bipush (v := (-2)) hx hb dX6_copy_14 (by decide) ?_
      exact W.iret (v := (-2)) hx hb hr (fun t ht hW => ⟨⟨(-2), (0), rfl, (by first | assumption | with_reducible rfl | contradiction | exact (if_pos (by repeat' (first | assumption | decide | constructor))).symm | exact (if_neg (fun hh => absurd hh (by assumption))).symm | exact (if_neg (fun hh => absurd hh.1 (by assumption))).symm | exact (if_neg (fun hh => absurd hh.1.1 (by assumption))).symm | exact (if_neg (fun hh => absurd hh.1.2 (by assumption))).symm | exact (if_neg (fun hh => absurd hh.2 (by assumption))).symm | exact (if_neg (fun hh => absurd hh.2.1 (by assumption))).symm | exact (if_neg (fun hh => absurd hh.2.2 (by assumption))).symm | decide | (exfalso; simp only [zi_le, zi_lt, zi_eq, zi_n0, zi_n1, zi_n2, zi_n3, zi_n4, zi_n23, zi_n24, zi_n100, zi_n399, zi_n60, zi_n255, zi_n99, zi_nm1, zi_n30] at *; omega) | (simp_all; done)), ⟨by rw [ht]; exact hP, hD⟩⟩, hS.F ht⟩) hS.2.2 dX6_copy_16
    · skip
      exact absurd (by decide) c_220
set_option maxHeartbeats 4000000 in
set_option maxRecDepth 100000 in
theorem c_X6_write (l : Launch) (dC : Nat → ClassId) (dI : Nat → Nat → Nat) (k : Nat → ClassId)  (q : Nat → Nat) (aps : Int32) (ar1 : Nat → Int32) (ar2 : Nat → Int32) (ar3 : Nat → Int32) (ar4 : Nat → Int32) (ar5 : Nat → Int32) (ar6 : Nat → Int32) (ar7 : Nat → Int32) (ph : Int32) (pp : Int32) (py : Int32) (wy : Nat → Int64) (fa : Int64) (fb : Int64) (cm0 : Int64) (ia0 : Int32) (ih0 : Int32) (in0 : Int32) (il0 : Int32) (tx0 : Nat → Int32) (sh0 : Nat → Int64) (cm1 : Int64) (ia1 : Int32) (ih1 : Int32) (in1 : Int32) (il1 : Int32) (tx1 : Nat → Int32) (sh1 : Nat → Int64) (cm2 : Int64) (ia2 : Int32) (ih2 : Int32) (in2 : Int32) (il2 : Int32) (tx2 : Nat → Int32) (sh2 : Nat → Int64) (cm3 : Int64) (ia3 : Int32) (ih3 : Int32) (in3 : Int32) (il3 : Int32) (tx3 : Nat → Int32) (sh3 : Nat → Int64) (it0 : Nat → Int32) (it1 : Nat → Int32) (it2 : Nat → Int32) (it3 : Nat → Int32) (d : Int32) (z : Int32) (sz : Nat)  : Met l yX6_write (wz yX6_write cX6_write 6 (some .int)) ({ frames := 1, cells := 0, slots := 0, locals := 21 }) (va_Pc [.ref (q 0), .int d, .int z] (zPre dC dI k (zTX k) (zX k q 0 (-1) 12 100 0 (fun _ => 0) aps 0 ar1 ar2 ar3 ar4 ar5 ar6 ar7 ph pp py wy fa fb cm0 ia0 0 0 ih0 in0 il0 tx0 sh0 cm1 ia1 0 0 ih1 in1 il1 tx1 sh1 cm2 ia2 0 0 ih2 in2 il2 tx2 sh2 cm3 ia3 0 0 ih3 in3 il3 tx3 sh3 (-1) 0 it0 (-1) 0 it1 (-1) 0 it2 (-1) 0 it3) sz)) (va_Qi (fun (r : Int32) (u : Int32) => (r = if (0 ≤ (d : Int32) ∧ (d : Int32) ≤ 3) ∧ (0 ≤ (z : Int32) ∧ (z : Int32) ≤ 3) then (-11) else (-2))) (fun u t => zPost dC dI (va_A (zX k q 0 (-1) 12 100 0 (fun _ => 0) aps 0 ar1 ar2 ar3 ar4 ar5 ar6 ar7 ph pp py wy fa fb cm0 ia0 0 0 ih0 in0 il0 tx0 sh0 cm1 ia1 0 0 ih1 in1 il1 tx1 sh1 cm2 ia2 0 0 ih2 in2 il2 tx2 sh2 cm3 ia3 0 0 ih3 in3 il3 tx3 sh3 (-1) 0 it0 (-1) 0 it1 (-1) 0 it2 (-1) 0 it3) sz) (zX k q 0 (-1) 12 100 u (fun _ => 0) aps 0 ar1 ar2 ar3 ar4 ar5 ar6 ar7 ph pp py wy fa fb cm0 ia0 0 0 ih0 in0 il0 tx0 sh0 cm1 ia1 0 0 ih1 in1 il1 tx1 sh1 cm2 ia2 0 0 ih2 in2 il2 tx2 sh2 cm3 ia3 0 0 ih3 in3 il3 tx3 sh3 (-1) 0 it0 (-1) 0 it1 (-1) 0 it2 (-1) 0 it3) t) (va_A (zX k q 0 (-1) 12 100 0 (fun _ => 0) aps 0 ar1 ar2 ar3 ar4 ar5 ar6 ar7 ph pp py wy fa fb cm0 ia0 0 0 ih0 in0 il0 tx0 sh0 cm1 ia1 0 0 ih1 in1 il1 tx1 sh1 cm2 ia2 0 0 ih2 in2 il2 tx2 sh2 cm3 ia3 0 0 ih3 in3 il3 tx3 sh3 (-1) 0 it0 (-1) 0 it1 (-1) 0 it2 (-1) 0 it3) sz)) 0 0 (va_A (zX k q 0 (-1) 12 100 0 (fun _ => 0) aps 0 ar1 ar2 ar3 ar4 ar5 ar6 ar7 ph pp py wy fa fb cm0 ia0 0 0 ih0 in0 il0 tx0 sh0 cm1 ia1 0 0 ih1 in1 il1 tx1 sh1 cm2 ia2 0 0 ih2 in2 il2 tx2 sh2 cm3 ia3 0 0 ih3 in3 il3 tx3 sh3 (-1) 0 it0 (-1) 0 it1 (-1) 0 it2 (-1) 0 it3) sz) := by
  refine Met.ofW (cc := cX6_write) (maxL := 6) (ret := (some .int)) (by decide) rfl ?_
  intro p e s m args below meth c s₁ B hml hv
  obtain ⟨rfl, hsz, hP, hK, hD0⟩ := hv
  have hx := B.exec
  have hb := B.bytes
  have hr := B.returns
  have hts : ∀ w ∈ zw, w.before _ s = true := fun w h => atoms_spec (ws := (wz yX6_write cX6_write 6 (some .int))) B.pre w (List.mem_cons_of_mem _ h)
  have hown : s.vm.findClass RX6 = some m.cls := findClass_of_methodNamed B.named
  have hlocks := B.notSynchronized
  subst hsz
  have hi6 := inw6
  have hD := hD0.self (sz := s.heap.size)
  generalize hAe : va_A (zX k q 0 (-1) 12 100 0 (fun _ => 0) aps 0 ar1 ar2 ar3 ar4 ar5 ar6 ar7 ph pp py wy fa fb cm0 ia0 0 0 ih0 in0 il0 tx0 sh0 cm1 ia1 0 0 ih1 in1 il1 tx1 sh1 cm2 ia2 0 0 ih2 in2 il2 tx2 sh2 cm3 ia3 0 0 ih3 in3 il3 tx3 sh3 (-1) 0 it0 (-1) 0 it1 (-1) 0 it2 (-1) 0 it3) s.heap.size = A at hD ⊢
  have hA : ∀ q : Nat, s.heap.size ≤ q → A q := fun q h => by rw [← hAe]; exact Or.inr h
  have hl := lv_entry ([.ref (q 0), .int d, .int z]) (n := 6) (Nat.le_of_ble_eq_true rfl)
  rw [lg_entry_eq]
  generalize (lg_sl ([.ref (q 0), .int d, .int z]) ++ List.replicate (6 - (lg_sl ([.ref (q 0), .int d, .int z])).length) Slot.unset).toArray = ls at hl ⊢
  have hl : lv_has ls 6 [(0, .ref (q 0)), (1, .int d), (2, .int z)] := hl
  refine z_start (w := (zX k q 0 (-1) 12 100 0 (fun _ => 0) aps 0 ar1 ar2 ar3 ar4 ar5 ar6 ar7 ph pp py wy fa fb cm0 ia0 0 0 ih0 in0 il0 tx0 sh0 cm1 ia1 0 0 ih1 in1 il1 tx1 sh1 cm2 ia2 0 0 ih2 in2 il2 tx2 sh2 cm3 ia3 0 0 ih3 in3 il3 tx3 sh3 (-1) 0 it0 (-1) 0 it1 (-1) 0 it2 (-1) 0 it3)) hP hD (fun H locs hP hD hS => ?_)
  refine lv_iload_n hx hb dX6_write_0 rfl (lv_at hl 1 rfl) ?_
  refine zc0_i (w := (zX k q 0 (-1) 12 100 0 (fun _ => 0) aps 0 ar1 ar2 ar3 ar4 ar5 ar6 ar7 ph pp py wy fa fb cm0 ia0 0 0 ih0 in0 il0 tx0 sh0 cm1 ia1 0 0 ih1 in1 il1 tx1 sh1 cm2 ia2 0 0 ih2 in2 il2 tx2 sh2 cm3 ia3 0 0 ih3 in3 il3 tx3 sh3 (-1) 0 it0 (-1) 0 it1 (-1) 0 it2 (-1) 0 it3)) (va_runS (As := [.int d]) (rest := []) ⟨hx, hb, hml, hown, hts⟩ (c_X6_isDesign l dC dI k (zTX k) d _ ) (va_cwS 1 hts (gzS wmt1_211 wmt1_212 wmt1_1 wmt1_213) rfl rfl rfl (by decide +kernel) ⟨Nat.le_of_ble_eq_true rfl, Nat.le_of_ble_eq_true rfl⟩) (zp0_S hK) rfl rfl hl.1 rfl (lv_room (Nat.le_of_ble_eq_true rfl)) dX6_write_1 ⟨Nat.le_of_ble_eq_true rfl, Nat.le_of_ble_eq_true rfl⟩) hP hS hA (fun r_1 u_2 H locs w_3 hP hS => ?_)
  rcases w_3 with ⟨e_5, h_4⟩ | ⟨e_7, h_6⟩
  · skip
    replace e_5 : r_1 = 1 := e_5
    subst e_5
    replace h_4 : 0 ≤ (d : Int32) ∧ (d : Int32) ≤ 3 := h_4
    refine lv_if_eq (tgt := 14) hx hb dX6_write_4 (by decide) (fun c_8 => ?_) (fun c_8 => ?_)
    · skip
      exact absurd c_8 (by decide)
    · skip
      refine lv_iload_n hx hb dX6_write_7 rfl (lv_at hl 2 rfl) ?_
      refine zc0_i (w := (zX k q 0 (-1) 12 100 0 (fun _ => 0) aps 0 ar1 ar2 ar3 ar4 ar5 ar6 ar7 ph pp py wy fa fb cm0 ia0 0 0 ih0 in0 il0 tx0 sh0 cm1 ia1 0 0 ih1 in1 il1 tx1 sh1 cm2 ia2 0 0 ih2 in2 il2 tx2 sh2 cm3 ia3 0 0 ih3 in3 il3 tx3 sh3 (-1) 0 it0 (-1) 0 it1 (-1) 0 it2 (-1) 0 it3)) (va_runS (As := [.int z]) (rest := []) ⟨hx, hb, hml, hown, hts⟩ (c_X6_isSheet l dC dI k (zTX k) z _ ) (va_cwS 1 hts (gzS wmt2_95 wmt2_96 wmt1_1 wmt2_97) rfl rfl rfl (by decide +kernel) ⟨Nat.le_of_ble_eq_true rfl, Nat.le_of_ble_eq_true rfl⟩) (zp0_S hK) rfl rfl hl.1 rfl (lv_room (Nat.le_of_ble_eq_true rfl)) dX6_write_8 ⟨Nat.le_of_ble_eq_true rfl, Nat.le_of_ble_eq_true rfl⟩) hP hS hA (fun r_9 u_10 H locs w_11 hP hS => ?_)
      rcases w_11 with ⟨e_13, h_12⟩ | ⟨e_15, h_14⟩
      · skip
        replace e_13 : r_9 = 1 := e_13
        subst e_13
        replace h_12 : 0 ≤ (z : Int32) ∧ (z : Int32) ≤ 3 := h_12
        rcases zi_4 h_12 with rfl | rfl | rfl | rfl
        · skip
          refine lv_if_ne (tgt := 17) hx hb dX6_write_11 (by decide) (fun c_16 => ?_) (fun c_16 => ?_)
          · skip
            refine lv_aload_n hx hb dX6_write_17 rfl (lv_at hl 0 rfl) ?_
            refine va_get (D := (dC, dI)) (ci := 6) (v := .ref (q 2)) (C := RX6) (T := TX6) (N := 12) hx hb hts hi6 hown hK.1 hP 0 rfl rfl 1 (by decide) (hts _ wmt1_171) (fun _ h9 => h9) rfl dX6_write_18 ?_
            refine lv_iload_n hx hb dX6_write_21 rfl (lv_at hl 2 rfl) ?_
            refine va_aldq (D := (dC, dI)) hx hb hK.1 hP 2 4 rfl rfl (show ¬ _ by decide) dX6_write_22 ?_
            refine z_top (v2 := .ref (q 28)) (rfl) ?_
            refine lv_astore_n (lv' := [(3, .ref (q 28)), (0, .ref (q 0)), (1, .int d), (2, .int 0)]) hx hb dX6_write_23 rfl hl (by decide) rfl (fun ls hl => ?_)
            refine lv_aload_n hx hb dX6_write_24 rfl (lv_at hl 0 rfl) ?_
            refine zcS_i (w := (zX k q 0 (-1) 12 100 0 (fun _ => 0) aps 0 ar1 ar2 ar3 ar4 ar5 ar6 ar7 ph pp py wy fa fb cm0 ia0 0 0 ih0 in0 il0 tx0 sh0 cm1 ia1 0 0 ih1 in1 il1 tx1 sh1 cm2 ia2 0 0 ih2 in2 il2 tx2 sh2 cm3 ia3 0 0 ih3 in3 il3 tx3 sh3 (-1) 0 it0 (-1) 0 it1 (-1) 0 it2 (-1) 0 it3)) (wc := (zShe k (q 28) (q 29) it0 (-1) 0)) (va_runV (As := []) (rest := []) ⟨hx, hb, hml, hown, hts⟩ (c_X5_isLost l dC dI k (zTX k) (q 28) (q 29) it0 0 _ ) (cwV 0 hts (gzV wmt2_98 wmt2_99 wmt2_100 wmt1_7 wmt2_101) rfl rfl rfl (by decide +kernel) ⟨Nat.le_of_ble_eq_true rfl, Nat.le_of_ble_eq_true rfl⟩) (zp_V (ci := 5) (q0 := 28) hK hP hD [28, 29] rfl rfl rfl rfl) rfl rfl hl.1 rfl (lv_room (Nat.le_of_ble_eq_true rfl)) dX6_write_25 ⟨Nat.le_of_ble_eq_true rfl, Nat.le_of_ble_eq_true rfl⟩) hP hD hS hA [28, 29] rfl (fun _ => rfl) (fun r_17 u_18 H locs w_19 hP hD hS => ?_)
            have hP : va_P (dC, dI) vwCl (zX k q 0 (-1) 12 100 0 (fun _ => 0) aps 0 ar1 ar2 ar3 ar4 ar5 ar6 ar7 ph pp py wy fa fb cm0 ia0 0 0 ih0 in0 il0 tx0 sh0 cm1 ia1 0 0 ih1 in1 il1 tx1 sh1 cm2 ia2 0 0 ih2 in2 il2 tx2 sh2 cm3 ia3 0 0 ih3 in3 il3 tx3 sh3 (-1) 0 it0 (-1) 0 it1 (-1) 0 it2 (-1) 0 it3) H := hP
            have hD : va_D A (zX k q 0 (-1) 12 100 0 (fun _ => 0) aps 0 ar1 ar2 ar3 ar4 ar5 ar6 ar7 ph pp py wy fa fb cm0 ia0 0 0 ih0 in0 il0 tx0 sh0 cm1 ia1 0 0 ih1 in1 il1 tx1 sh1 cm2 ia2 0 0 ih2 in2 il2 tx2 sh2 cm3 ia3 0 0 ih3 in3 il3 tx3 sh3 (-1) 0 it0 (-1) 0 it1 (-1) 0 it2 (-1) 0 it3) := hD
            have e_20 := w_19
            replace e_20 : r_17 = 1 := e_20
            subst e_20
            refine lv_if_eq (tgt := 37) hx hb dX6_write_28 (by decide) (fun c_21 => ?_) (fun c_21 => ?_)
            · skip
              exact absurd c_21 (by decide)
            · skip
              refine lv_aload_n hx hb dX6_write_31 rfl (lv_at hl 1 rfl) ?_
              refine lv_iconst (v := 1) hx hb dX6_write_32 (by decide) ?_
              refine zcA_i (w := (zX k q 0 (-1) 12 100 0 (fun _ => 0) aps 0 ar1 ar2 ar3 ar4 ar5 ar6 ar7 ph pp py wy fa fb cm0 ia0 0 0 ih0 in0 il0 tx0 sh0 cm1 ia1 0 0 ih1 in1 il1 tx1 sh1 cm2 ia2 0 0 ih2 in2 il2 tx2 sh2 cm3 ia3 0 0 ih3 in3 il3 tx3 sh3 (-1) 0 it0 (-1) 0 it1 (-1) 0 it2 (-1) 0 it3)) (va_runV (As := [.int 1]) (rest := []) ⟨hx, hb, hml, hown, hts⟩ (c_X6_found_1 l dC dI k  q aps ar1 ar2 ar3 ar4 ar5 ar6 ar7 ph pp py wy fa fb cm0 ia0 ih0 in0 il0 tx0 sh0 cm1 ia1 ih1 in1 il1 tx1 sh1 cm2 ia2 ih2 in2 il2 tx2 sh2 cm3 ia3 ih3 in3 il3 tx3 sh3 it0 it1 it2 it3 _ ) (cwV 1 hts (gzV wmt2_102 wmt2_104 wmp1_7 wmt1_1 wmt2_105) rfl rfl rfl (by decide +kernel) ⟨Nat.le_of_ble_eq_true rfl, Nat.le_of_ble_eq_true rfl⟩) (zpA_V (ci := 6) (q0 := 0) hK hP hD rfl rfl) rfl rfl hl.1 rfl (lv_room (Nat.le_of_ble_eq_true rfl)) dX6_write_33 ⟨Nat.le_of_ble_eq_true rfl, Nat.le_of_ble_eq_true rfl⟩) hD hS hA (fun r_22 u_23 H locs w_24 hP hD hS => ?_)
              obtain ⟨oxfi_25, rfl⟩ : ∃ z, z = u_23 := ⟨_, rfl⟩
              have hP : va_P (dC, dI) vwCl (zX k q 0 (-1) 12 100 oxfi_25 (fun _ => 0) aps 0 ar1 ar2 ar3 ar4 ar5 ar6 ar7 ph pp py wy fa fb cm0 ia0 0 0 ih0 in0 il0 tx0 sh0 cm1 ia1 0 0 ih1 in1 il1 tx1 sh1 cm2 ia2 0 0 ih2 in2 il2 tx2 sh2 cm3 ia3 0 0 ih3 in3 il3 tx3 sh3 (-1) 0 it0 (-1) 0 it1 (-1) 0 it2 (-1) 0 it3) H := hP
              have hD : va_D A (zX k q 0 (-1) 12 100 oxfi_25 (fun _ => 0) aps 0 ar1 ar2 ar3 ar4 ar5 ar6 ar7 ph pp py wy fa fb cm0 ia0 0 0 ih0 in0 il0 tx0 sh0 cm1 ia1 0 0 ih1 in1 il1 tx1 sh1 cm2 ia2 0 0 ih2 in2 il2 tx2 sh2 cm3 ia3 0 0 ih3 in3 il3 tx3 sh3 (-1) 0 it0 (-1) 0 it1 (-1) 0 it2 (-1) 0 it3) := hD
              have e_26 := w_24
              replace e_26 : r_22 = (-11) := e_26
              subst e_26
              exact W.iret (v := (-11)) hx hb hr (fun t ht hW => ⟨⟨(-11), (oxfi_25), rfl, (by first | assumption | with_reducible rfl | contradiction | exact (if_pos (by repeat' (first | assumption | decide | constructor))).symm | exact (if_neg (fun hh => absurd hh (by assumption))).symm | exact (if_neg (fun hh => absurd hh.1 (by assumption))).symm | exact (if_neg (fun hh => absurd hh.1.1 (by assumption))).symm | exact (if_neg (fun hh => absurd hh.1.2 (by assumption))).symm | exact (if_neg (fun hh => absurd hh.2 (by assumption))).symm | exact (if_neg (fun hh => absurd hh.2.1 (by assumption))).symm | exact (if_neg (fun hh => absurd hh.2.2 (by assumption))).symm | decide | (exfalso; simp only [zi_le, zi_lt, zi_eq, zi_n0, zi_n1, zi_n2, zi_n3, zi_n4, zi_n23, zi_n24, zi_n100, zi_n399, zi_n60, zi_n255, zi_n99, zi_nm1, zi_n30] at *; omega) | (simp_all; done)), ⟨by rw [ht]; exact hP, hD⟩⟩, hS.F ht⟩) hS.2.2 dX6_write_36
          · skip
            exact absurd c_16 (by decide)
        · skip
          refine lv_if_ne (tgt := 17) hx hb dX6_write_11 (by decide) (fun c_27 => ?_) (fun c_27 => ?_)
          · skip
            refine lv_aload_n hx hb dX6_write_17 rfl (lv_at hl 0 rfl) ?_
            refine va_get (D := (dC, dI)) (ci := 6) (v := .ref (q 2)) (C := RX6) (T := TX6) (N := 12) hx hb hts hi6 hown hK.1 hP 0 rfl rfl 1 (by decide) (hts _ wmt1_171) (fun _ h9 => h9) rfl dX6_write_18 ?_
            refine lv_iload_n hx hb dX6_write_21 rfl (lv_at hl 2 rfl) ?_
            refine va_aldq (D := (dC, dI)) hx hb hK.1 hP 2 4 rfl rfl (show ¬ _ by decide) dX6_write_22 ?_
            refine z_top (v2 := .ref (q 30)) (rfl) ?_
            refine lv_astore_n (lv' := [(3, .ref (q 30)), (0, .ref (q 0)), (1, .int d), (2, .int 1)]) hx hb dX6_write_23 rfl hl (by decide) rfl (fun ls hl => ?_)
            refine lv_aload_n hx hb dX6_write_24 rfl (lv_at hl 0 rfl) ?_
            refine zcS_i (w := (zX k q 0 (-1) 12 100 0 (fun _ => 0) aps 0 ar1 ar2 ar3 ar4 ar5 ar6 ar7 ph pp py wy fa fb cm0 ia0 0 0 ih0 in0 il0 tx0 sh0 cm1 ia1 0 0 ih1 in1 il1 tx1 sh1 cm2 ia2 0 0 ih2 in2 il2 tx2 sh2 cm3 ia3 0 0 ih3 in3 il3 tx3 sh3 (-1) 0 it0 (-1) 0 it1 (-1) 0 it2 (-1) 0 it3)) (wc := (zShe k (q 30) (q 31) it1 (-1) 0)) (va_runV (As := []) (rest := []) ⟨hx, hb, hml, hown, hts⟩ (c_X5_isLost l dC dI k (zTX k) (q 30) (q 31) it1 0 _ ) (cwV 0 hts (gzV wmt2_98 wmt2_99 wmt2_100 wmt1_7 wmt2_101) rfl rfl rfl (by decide +kernel) ⟨Nat.le_of_ble_eq_true rfl, Nat.le_of_ble_eq_true rfl⟩) (zp_V (ci := 5) (q0 := 30) hK hP hD [30, 31] rfl rfl rfl rfl) rfl rfl hl.1 rfl (lv_room (Nat.le_of_ble_eq_true rfl)) dX6_write_25 ⟨Nat.le_of_ble_eq_true rfl, Nat.le_of_ble_eq_true rfl⟩) hP hD hS hA [30, 31] rfl (fun _ => rfl) (fun r_28 u_29 H locs w_30 hP hD hS => ?_)
            have hP : va_P (dC, dI) vwCl (zX k q 0 (-1) 12 100 0 (fun _ => 0) aps 0 ar1 ar2 ar3 ar4 ar5 ar6 ar7 ph pp py wy fa fb cm0 ia0 0 0 ih0 in0 il0 tx0 sh0 cm1 ia1 0 0 ih1 in1 il1 tx1 sh1 cm2 ia2 0 0 ih2 in2 il2 tx2 sh2 cm3 ia3 0 0 ih3 in3 il3 tx3 sh3 (-1) 0 it0 (-1) 0 it1 (-1) 0 it2 (-1) 0 it3) H := hP
            have hD : va_D A (zX k q 0 (-1) 12 100 0 (fun _ => 0) aps 0 ar1 ar2 ar3 ar4 ar5 ar6 ar7 ph pp py wy fa fb cm0 ia0 0 0 ih0 in0 il0 tx0 sh0 cm1 ia1 0 0 ih1 in1 il1 tx1 sh1 cm2 ia2 0 0 ih2 in2 il2 tx2 sh2 cm3 ia3 0 0 ih3 in3 il3 tx3 sh3 (-1) 0 it0 (-1) 0 it1 (-1) 0 it2 (-1) 0 it3) := hD
            have e_31 := w_30
            replace e_31 : r_28 = 1 := e_31
            subst e_31
            refine lv_if_eq (tgt := 37) hx hb dX6_write_28 (by decide) (fun c_32 => ?_) (fun c_32 => ?_)
            · skip
              exact absurd c_32 (by decide)
            · skip
              refine lv_aload_n hx hb dX6_write_31 rfl (lv_at hl 1 rfl) ?_
              refine lv_iconst (v := 1) hx hb dX6_write_32 (by decide) ?_
              refine zcA_i (w := (zX k q 0 (-1) 12 100 0 (fun _ => 0) aps 0 ar1 ar2 ar3 ar4 ar5 ar6 ar7 ph pp py wy fa fb cm0 ia0 0 0 ih0 in0 il0 tx0 sh0 cm1 ia1 0 0 ih1 in1 il1 tx1 sh1 cm2 ia2 0 0 ih2 in2 il2 tx2 sh2 cm3 ia3 0 0 ih3 in3 il3 tx3 sh3 (-1) 0 it0 (-1) 0 it1 (-1) 0 it2 (-1) 0 it3)) (va_runV (As := [.int 1]) (rest := []) ⟨hx, hb, hml, hown, hts⟩ (c_X6_found_1 l dC dI k  q aps ar1 ar2 ar3 ar4 ar5 ar6 ar7 ph pp py wy fa fb cm0 ia0 ih0 in0 il0 tx0 sh0 cm1 ia1 ih1 in1 il1 tx1 sh1 cm2 ia2 ih2 in2 il2 tx2 sh2 cm3 ia3 ih3 in3 il3 tx3 sh3 it0 it1 it2 it3 _ ) (cwV 1 hts (gzV wmt2_102 wmt2_104 wmp1_7 wmt1_1 wmt2_105) rfl rfl rfl (by decide +kernel) ⟨Nat.le_of_ble_eq_true rfl, Nat.le_of_ble_eq_true rfl⟩) (zpA_V (ci := 6) (q0 := 0) hK hP hD rfl rfl) rfl rfl hl.1 rfl (lv_room (Nat.le_of_ble_eq_true rfl)) dX6_write_33 ⟨Nat.le_of_ble_eq_true rfl, Nat.le_of_ble_eq_true rfl⟩) hD hS hA (fun r_33 u_34 H locs w_35 hP hD hS => ?_)
              obtain ⟨oxfi_36, rfl⟩ : ∃ z, z = u_34 := ⟨_, rfl⟩
              have hP : va_P (dC, dI) vwCl (zX k q 0 (-1) 12 100 oxfi_36 (fun _ => 0) aps 0 ar1 ar2 ar3 ar4 ar5 ar6 ar7 ph pp py wy fa fb cm0 ia0 0 0 ih0 in0 il0 tx0 sh0 cm1 ia1 0 0 ih1 in1 il1 tx1 sh1 cm2 ia2 0 0 ih2 in2 il2 tx2 sh2 cm3 ia3 0 0 ih3 in3 il3 tx3 sh3 (-1) 0 it0 (-1) 0 it1 (-1) 0 it2 (-1) 0 it3) H := hP
              have hD : va_D A (zX k q 0 (-1) 12 100 oxfi_36 (fun _ => 0) aps 0 ar1 ar2 ar3 ar4 ar5 ar6 ar7 ph pp py wy fa fb cm0 ia0 0 0 ih0 in0 il0 tx0 sh0 cm1 ia1 0 0 ih1 in1 il1 tx1 sh1 cm2 ia2 0 0 ih2 in2 il2 tx2 sh2 cm3 ia3 0 0 ih3 in3 il3 tx3 sh3 (-1) 0 it0 (-1) 0 it1 (-1) 0 it2 (-1) 0 it3) := hD
              have e_37 := w_35
              replace e_37 : r_33 = (-11) := e_37
              subst e_37
              exact W.iret (v := (-11)) hx hb hr (fun t ht hW => ⟨⟨(-11), (oxfi_36), rfl, (by first | assumption | with_reducible rfl | contradiction | exact (if_pos (by repeat' (first | assumption | decide | constructor))).symm | exact (if_neg (fun hh => absurd hh (by assumption))).symm | exact (if_neg (fun hh => absurd hh.1 (by assumption))).symm | exact (if_neg (fun hh => absurd hh.1.1 (by assumption))).symm | exact (if_neg (fun hh => absurd hh.1.2 (by assumption))).symm | exact (if_neg (fun hh => absurd hh.2 (by assumption))).symm | exact (if_neg (fun hh => absurd hh.2.1 (by assumption))).symm | exact (if_neg (fun hh => absurd hh.2.2 (by assumption))).symm | decide | (exfalso; simp only [zi_le, zi_lt, zi_eq, zi_n0, zi_n1, zi_n2, zi_n3, zi_n4, zi_n23, zi_n24, zi_n100, zi_n399, zi_n60, zi_n255, zi_n99, zi_nm1, zi_n30] at *; omega) | (simp_all; done)), ⟨by rw [ht]; exact hP, hD⟩⟩, hS.F ht⟩) hS.2.2 dX6_write_36
          · skip
            exact absurd c_27 (by decide)
        · skip
          refine lv_if_ne (tgt := 17) hx hb dX6_write_11 (by decide) (fun c_38 => ?_) (fun c_38 => ?_)
          · skip
            refine lv_aload_n hx hb dX6_write_17 rfl (lv_at hl 0 rfl) ?_
            refine va_get (D := (dC, dI)) (ci := 6) (v := .ref (q 2)) (C := RX6) (T := TX6) (N := 12) hx hb hts hi6 hown hK.1 hP 0 rfl rfl 1 (by decide) (hts _ wmt1_171) (fun _ h9 => h9) rfl dX6_write_18 ?_
            refine lv_iload_n hx hb dX6_write_21 rfl (lv_at hl 2 rfl) ?_
            refine va_aldq (D := (dC, dI)) hx hb hK.1 hP 2 4 rfl rfl (show ¬ _ by decide) dX6_write_22 ?_
            refine z_top (v2 := .ref (q 32)) (rfl) ?_
            refine lv_astore_n (lv' := [(3, .ref (q 32)), (0, .ref (q 0)), (1, .int d), (2, .int 2)]) hx hb dX6_write_23 rfl hl (by decide) rfl (fun ls hl => ?_)
            refine lv_aload_n hx hb dX6_write_24 rfl (lv_at hl 0 rfl) ?_
            refine zcS_i (w := (zX k q 0 (-1) 12 100 0 (fun _ => 0) aps 0 ar1 ar2 ar3 ar4 ar5 ar6 ar7 ph pp py wy fa fb cm0 ia0 0 0 ih0 in0 il0 tx0 sh0 cm1 ia1 0 0 ih1 in1 il1 tx1 sh1 cm2 ia2 0 0 ih2 in2 il2 tx2 sh2 cm3 ia3 0 0 ih3 in3 il3 tx3 sh3 (-1) 0 it0 (-1) 0 it1 (-1) 0 it2 (-1) 0 it3)) (wc := (zShe k (q 32) (q 33) it2 (-1) 0)) (va_runV (As := []) (rest := []) ⟨hx, hb, hml, hown, hts⟩ (c_X5_isLost l dC dI k (zTX k) (q 32) (q 33) it2 0 _ ) (cwV 0 hts (gzV wmt2_98 wmt2_99 wmt2_100 wmt1_7 wmt2_101) rfl rfl rfl (by decide +kernel) ⟨Nat.le_of_ble_eq_true rfl, Nat.le_of_ble_eq_true rfl⟩) (zp_V (ci := 5) (q0 := 32) hK hP hD [32, 33] rfl rfl rfl rfl) rfl rfl hl.1 rfl (lv_room (Nat.le_of_ble_eq_true rfl)) dX6_write_25 ⟨Nat.le_of_ble_eq_true rfl, Nat.le_of_ble_eq_true rfl⟩) hP hD hS hA [32, 33] rfl (fun _ => rfl) (fun r_39 u_40 H locs w_41 hP hD hS => ?_)
            have hP : va_P (dC, dI) vwCl (zX k q 0 (-1) 12 100 0 (fun _ => 0) aps 0 ar1 ar2 ar3 ar4 ar5 ar6 ar7 ph pp py wy fa fb cm0 ia0 0 0 ih0 in0 il0 tx0 sh0 cm1 ia1 0 0 ih1 in1 il1 tx1 sh1 cm2 ia2 0 0 ih2 in2 il2 tx2 sh2 cm3 ia3 0 0 ih3 in3 il3 tx3 sh3 (-1) 0 it0 (-1) 0 it1 (-1) 0 it2 (-1) 0 it3) H := hP
            have hD : va_D A (zX k q 0 (-1) 12 100 0 (fun _ => 0) aps 0 ar1 ar2 ar3 ar4 ar5 ar6 ar7 ph pp py wy fa fb cm0 ia0 0 0 ih0 in0 il0 tx0 sh0 cm1 ia1 0 0 ih1 in1 il1 tx1 sh1 cm2 ia2 0 0 ih2 in2 il2 tx2 sh2 cm3 ia3 0 0 ih3 in3 il3 tx3 sh3 (-1) 0 it0 (-1) 0 it1 (-1) 0 it2 (-1) 0 it3) := hD
            have e_42 := w_41
            replace e_42 : r_39 = 1 := e_42
            subst e_42
            refine lv_if_eq (tgt := 37) hx hb dX6_write_28 (by decide) (fun c_43 => ?_) (fun c_43 => ?_)
            · skip
              exact absurd c_43 (by decide)
            · skip
              refine lv_aload_n hx hb dX6_write_31 rfl (lv_at hl 1 rfl) ?_
              refine lv_iconst (v := 1) hx hb dX6_write_32 (by decide) ?_
              refine zcA_i (w := (zX k q 0 (-1) 12 100 0 (fun _ => 0) aps 0 ar1 ar2 ar3 ar4 ar5 ar6 ar7 ph pp py wy fa fb cm0 ia0 0 0 ih0 in0 il0 tx0 sh0 cm1 ia1 0 0 ih1 in1 il1 tx1 sh1 cm2 ia2 0 0 ih2 in2 il2 tx2 sh2 cm3 ia3 0 0 ih3 in3 il3 tx3 sh3 (-1) 0 it0 (-1) 0 it1 (-1) 0 it2 (-1) 0 it3)) (va_runV (As := [.int 1]) (rest := []) ⟨hx, hb, hml, hown, hts⟩ (c_X6_found_1 l dC dI k  q aps ar1 ar2 ar3 ar4 ar5 ar6 ar7 ph pp py wy fa fb cm0 ia0 ih0 in0 il0 tx0 sh0 cm1 ia1 ih1 in1 il1 tx1 sh1 cm2 ia2 ih2 in2 il2 tx2 sh2 cm3 ia3 ih3 in3 il3 tx3 sh3 it0 it1 it2 it3 _ ) (cwV 1 hts (gzV wmt2_102 wmt2_104 wmp1_7 wmt1_1 wmt2_105) rfl rfl rfl (by decide +kernel) ⟨Nat.le_of_ble_eq_true rfl, Nat.le_of_ble_eq_true rfl⟩) (zpA_V (ci := 6) (q0 := 0) hK hP hD rfl rfl) rfl rfl hl.1 rfl (lv_room (Nat.le_of_ble_eq_true rfl)) dX6_write_33 ⟨Nat.le_of_ble_eq_true rfl, Nat.le_of_ble_eq_true rfl⟩) hD hS hA (fun r_44 u_45 H locs w_46 hP hD hS => ?_)
              obtain ⟨oxfi_47, rfl⟩ : ∃ z, z = u_45 := ⟨_, rfl⟩
              have hP : va_P (dC, dI) vwCl (zX k q 0 (-1) 12 100 oxfi_47 (fun _ => 0) aps 0 ar1 ar2 ar3 ar4 ar5 ar6 ar7 ph pp py wy fa fb cm0 ia0 0 0 ih0 in0 il0 tx0 sh0 cm1 ia1 0 0 ih1 in1 il1 tx1 sh1 cm2 ia2 0 0 ih2 in2 il2 tx2 sh2 cm3 ia3 0 0 ih3 in3 il3 tx3 sh3 (-1) 0 it0 (-1) 0 it1 (-1) 0 it2 (-1) 0 it3) H := hP
              have hD : va_D A (zX k q 0 (-1) 12 100 oxfi_47 (fun _ => 0) aps 0 ar1 ar2 ar3 ar4 ar5 ar6 ar7 ph pp py wy fa fb cm0 ia0 0 0 ih0 in0 il0 tx0 sh0 cm1 ia1 0 0 ih1 in1 il1 tx1 sh1 cm2 ia2 0 0 ih2 in2 il2 tx2 sh2 cm3 ia3 0 0 ih3 in3 il3 tx3 sh3 (-1) 0 it0 (-1) 0 it1 (-1) 0 it2 (-1) 0 it3) := hD
              have e_48 := w_46
              replace e_48 : r_44 = (-11) := e_48
              subst e_48
              exact W.iret (v := (-11)) hx hb hr (fun t ht hW => ⟨⟨(-11), (oxfi_47), rfl, (by first | assumption | with_reducible rfl | contradiction | exact (if_pos (by repeat' (first | assumption | decide | constructor))).symm | exact (if_neg (fun hh => absurd hh (by assumption))).symm | exact (if_neg (fun hh => absurd hh.1 (by assumption))).symm | exact (if_neg (fun hh => absurd hh.1.1 (by assumption))).symm | exact (if_neg (fun hh => absurd hh.1.2 (by assumption))).symm | exact (if_neg (fun hh => absurd hh.2 (by assumption))).symm | exact (if_neg (fun hh => absurd hh.2.1 (by assumption))).symm | exact (if_neg (fun hh => absurd hh.2.2 (by assumption))).symm | decide | (exfalso; simp only [zi_le, zi_lt, zi_eq, zi_n0, zi_n1, zi_n2, zi_n3, zi_n4, zi_n23, zi_n24, zi_n100, zi_n399, zi_n60, zi_n255, zi_n99, zi_nm1, zi_n30] at *; omega) | (simp_all; done)), ⟨by rw [ht]; exact hP, hD⟩⟩, hS.F ht⟩) hS.2.2 dX6_write_36
          · skip
            exact absurd c_38 (by decide)
        · skip
          refine lv_if_ne (tgt := 17) hx hb dX6_write_11 (by decide) (fun c_49 => ?_) (fun c_49 => ?_)
          · skip
            refine lv_aload_n hx hb dX6_write_17 rfl (lv_at hl 0 rfl) ?_
            refine va_get (D := (dC, dI)) (ci := 6) (v := .ref (q 2)) (C := RX6) (T := TX6) (N := 12) hx hb hts hi6 hown hK.1 hP 0 rfl rfl 1 (by decide) (hts _ wmt1_171) (fun _ h9 => h9) rfl dX6_write_18 ?_
            refine lv_iload_n hx hb dX6_write_21 rfl (lv_at hl 2 rfl) ?_
            refine va_aldq (D := (dC, dI)) hx hb hK.1 hP 2 4 rfl rfl (show ¬ _ by decide) dX6_write_22 ?_
            refine z_top (v2 := .ref (q 34)) (rfl) ?_
            refine lv_astore_n (lv' := [(3, .ref (q 34)), (0, .ref (q 0)), (1, .int d), (2, .int 3)]) hx hb dX6_write_23 rfl hl (by decide) rfl (fun ls hl => ?_)
            refine lv_aload_n hx hb dX6_write_24 rfl (lv_at hl 0 rfl) ?_
            refine zcS_i (w := (zX k q 0 (-1) 12 100 0 (fun _ => 0) aps 0 ar1 ar2 ar3 ar4 ar5 ar6 ar7 ph pp py wy fa fb cm0 ia0 0 0 ih0 in0 il0 tx0 sh0 cm1 ia1 0 0 ih1 in1 il1 tx1 sh1 cm2 ia2 0 0 ih2 in2 il2 tx2 sh2 cm3 ia3 0 0 ih3 in3 il3 tx3 sh3 (-1) 0 it0 (-1) 0 it1 (-1) 0 it2 (-1) 0 it3)) (wc := (zShe k (q 34) (q 35) it3 (-1) 0)) (va_runV (As := []) (rest := []) ⟨hx, hb, hml, hown, hts⟩ (c_X5_isLost l dC dI k (zTX k) (q 34) (q 35) it3 0 _ ) (cwV 0 hts (gzV wmt2_98 wmt2_99 wmt2_100 wmt1_7 wmt2_101) rfl rfl rfl (by decide +kernel) ⟨Nat.le_of_ble_eq_true rfl, Nat.le_of_ble_eq_true rfl⟩) (zp_V (ci := 5) (q0 := 34) hK hP hD [34, 35] rfl rfl rfl rfl) rfl rfl hl.1 rfl (lv_room (Nat.le_of_ble_eq_true rfl)) dX6_write_25 ⟨Nat.le_of_ble_eq_true rfl, Nat.le_of_ble_eq_true rfl⟩) hP hD hS hA [34, 35] rfl (fun _ => rfl) (fun r_50 u_51 H locs w_52 hP hD hS => ?_)
            have hP : va_P (dC, dI) vwCl (zX k q 0 (-1) 12 100 0 (fun _ => 0) aps 0 ar1 ar2 ar3 ar4 ar5 ar6 ar7 ph pp py wy fa fb cm0 ia0 0 0 ih0 in0 il0 tx0 sh0 cm1 ia1 0 0 ih1 in1 il1 tx1 sh1 cm2 ia2 0 0 ih2 in2 il2 tx2 sh2 cm3 ia3 0 0 ih3 in3 il3 tx3 sh3 (-1) 0 it0 (-1) 0 it1 (-1) 0 it2 (-1) 0 it3) H := hP
            have hD : va_D A (zX k q 0 (-1) 12 100 0 (fun _ => 0) aps 0 ar1 ar2 ar3 ar4 ar5 ar6 ar7 ph pp py wy fa fb cm0 ia0 0 0 ih0 in0 il0 tx0 sh0 cm1 ia1 0 0 ih1 in1 il1 tx1 sh1 cm2 ia2 0 0 ih2 in2 il2 tx2 sh2 cm3 ia3 0 0 ih3 in3 il3 tx3 sh3 (-1) 0 it0 (-1) 0 it1 (-1) 0 it2 (-1) 0 it3) := hD
            have e_53 := w_52
            replace e_53 : r_50 = 1 := e_53
            subst e_53
            refine lv_if_eq (tgt := 37) hx hb dX6_write_28 (by decide) (fun c_54 => ?_) (fun c_54 => ?_)
            · skip
              exact absurd c_54 (by decide)
            · skip
              refine lv_aload_n hx hb dX6_write_31 rfl (lv_at hl 1 rfl) ?_
              refine lv_iconst (v := 1) hx hb dX6_write_32 (by decide) ?_
              refine zcA_i (w := (zX k q 0 (-1) 12 100 0 (fun _ => 0) aps 0 ar1 ar2 ar3 ar4 ar5 ar6 ar7 ph pp py wy fa fb cm0 ia0 0 0 ih0 in0 il0 tx0 sh0 cm1 ia1 0 0 ih1 in1 il1 tx1 sh1 cm2 ia2 0 0 ih2 in2 il2 tx2 sh2 cm3 ia3 0 0 ih3 in3 il3 tx3 sh3 (-1) 0 it0 (-1) 0 it1 (-1) 0 it2 (-1) 0 it3)) (va_runV (As := [.int 1]) (rest := []) ⟨hx, hb, hml, hown, hts⟩ (c_X6_found_1 l dC dI k  q aps ar1 ar2 ar3 ar4 ar5 ar6 ar7 ph pp py wy fa fb cm0 ia0 ih0 in0 il0 tx0 sh0 cm1 ia1 ih1 in1 il1 tx1 sh1 cm2 ia2 ih2 in2 il2 tx2 sh2 cm3 ia3 ih3 in3 il3 tx3 sh3 it0 it1 it2 it3 _ ) (cwV 1 hts (gzV wmt2_102 wmt2_104 wmp1_7 wmt1_1 wmt2_105) rfl rfl rfl (by decide +kernel) ⟨Nat.le_of_ble_eq_true rfl, Nat.le_of_ble_eq_true rfl⟩) (zpA_V (ci := 6) (q0 := 0) hK hP hD rfl rfl) rfl rfl hl.1 rfl (lv_room (Nat.le_of_ble_eq_true rfl)) dX6_write_33 ⟨Nat.le_of_ble_eq_true rfl, Nat.le_of_ble_eq_true rfl⟩) hD hS hA (fun r_55 u_56 H locs w_57 hP hD hS => ?_)
              obtain ⟨oxfi_58, rfl⟩ : ∃ z, z = u_56 := ⟨_, rfl⟩
              have hP : va_P (dC, dI) vwCl (zX k q 0 (-1) 12 100 oxfi_58 (fun _ => 0) aps 0 ar1 ar2 ar3 ar4 ar5 ar6 ar7 ph pp py wy fa fb cm0 ia0 0 0 ih0 in0 il0 tx0 sh0 cm1 ia1 0 0 ih1 in1 il1 tx1 sh1 cm2 ia2 0 0 ih2 in2 il2 tx2 sh2 cm3 ia3 0 0 ih3 in3 il3 tx3 sh3 (-1) 0 it0 (-1) 0 it1 (-1) 0 it2 (-1) 0 it3) H := hP
              have hD : va_D A (zX k q 0 (-1) 12 100 oxfi_58 (fun _ => 0) aps 0 ar1 ar2 ar3 ar4 ar5 ar6 ar7 ph pp py wy fa fb cm0 ia0 0 0 ih0 in0 il0 tx0 sh0 cm1 ia1 0 0 ih1 in1 il1 tx1 sh1 cm2 ia2 0 0 ih2 in2 il2 tx2 sh2 cm3 ia3 0 0 ih3 in3 il3 tx3 sh3 (-1) 0 it0 (-1) 0 it1 (-1) 0 it2 (-1) 0 it3) := hD
              have e_59 := w_57
              replace e_59 : r_55 = (-11) := e_59
              subst e_59
              exact W.iret (v := (-11)) hx hb hr (fun t ht hW => ⟨⟨(-11), (oxfi_58), rfl, (by first | assumption | with_reducible rfl | contradiction | exact (if_pos (by repeat' (first | assumption | decide | constructor))).symm | exact (if_neg (fun hh => absurd hh (by assumption))).symm | exact (if_neg (fun hh => absurd hh.1 (by assumption))).symm | exact (if_neg (fun hh => absurd hh.1.1 (by assumption))).symm | exact (if_neg (fun hh => absurd hh.1.2 (by assumption))).symm | exact (if_neg (fun hh => absurd hh.2 (by assumption))).symm | exact (if_neg (fun hh => absurd hh.2.1 (by assumption))).symm | exact (if_neg (fun hh => absurd hh.2.2 (by assumption))).symm | decide | (exfalso; simp only [zi_le, zi_lt, zi_eq, zi_n0, zi_n1, zi_n2, zi_n3, zi_n4, zi_n23, zi_n24, zi_n100, zi_n399, zi_n60, zi_n255, zi_n99, zi_nm1, zi_n30] at *; omega) | (simp_all; done)), ⟨by rw [ht]; exact hP, hD⟩⟩, hS.F ht⟩) hS.2.2 dX6_write_36
          · skip
            exact absurd c_49 (by decide)
      · skip
        replace e_15 : r_9 = 0 := e_15
        subst e_15
        replace h_14 : ¬ (0 ≤ (z : Int32) ∧ (z : Int32) ≤ 3) := h_14
        refine lv_if_ne (tgt := 17) hx hb dX6_write_11 (by decide) (fun c_60 => ?_) (fun c_60 => ?_)
        · skip
          exact absurd c_60 (by decide)
        · skip
          refine lv_bipush (v := (-2)) hx hb dX6_write_14 (by decide) ?_
          exact W.iret (v := (-2)) hx hb hr (fun t ht hW => ⟨⟨(-2), (0), rfl, (by first | assumption | with_reducible rfl | contradiction | exact (if_pos (by repeat' (first | assumption | decide | constructor))).symm | exact (if_neg (fun hh => absurd hh (by assumption))).symm | exact (if_neg (fun hh => absurd hh.1 (by assumption))).symm | exact (if_neg (fun hh => absurd hh.1.1 (by assumption))).symm | exact (if_neg (fun hh => absurd hh.1.2 (by assumption))).symm | exact (if_neg (fun hh => absurd hh.2 (by assumption))).symm | exact (if_neg (fun hh => absurd hh.2.1 (by assumption))).symm | exact (if_neg (fun hh => absurd hh.2.2 (by assumption))).symm | decide | (exfalso; simp only [zi_le, zi_lt, zi_eq, zi_n0, zi_n1, zi_n2, zi_n3, zi_n4, zi_n23, zi_n24, zi_n100, zi_n399, zi_n60, zi_n255, zi_n99, zi_nm1, zi_n30] at *; omega) | (simp_all; done)), ⟨by rw [ht]; exact hP, hD⟩⟩, hS.F ht⟩) hS.2.2 dX6_write_16
  · skip
    replace e_7 : r_1 = 0 := e_7
    subst e_7
    replace h_6 : ¬ (0 ≤ (d : Int32) ∧ (d : Int32) ≤ 3) := h_6
    refine lv_if_eq (tgt := 14) hx hb dX6_write_4 (by decide) (fun c_61 => ?_) (fun c_61 => ?_)
    · skip
      refine lv_bipush (v := (-2)) hx hb dX6_write_14 (by decide) ?_
      exact W.iret (v := (-2)) hx hb hr (fun t ht hW => ⟨⟨(-2), (0), rfl, (by first | assumption | with_reducible rfl | contradiction | exact (if_pos (by repeat' (first | assumption | decide | constructor))).symm | exact (if_neg (fun hh => absurd hh (by assumption))).symm | exact (if_neg (fun hh => absurd hh.1 (by assumption))).symm | exact (if_neg (fun hh => absurd hh.1.1 (by assumption))).symm | exact (if_neg (fun hh => absurd hh.1.2 (by assumption))).symm | exact (if_neg (fun hh => absurd hh.2 (by assumption))).symm | exact (if_neg (fun hh => absurd hh.2.1 (by assumption))).symm | exact (if_neg (fun hh => absurd hh.2.2 (by assumption))).symm | decide | (exfalso; simp only [zi_le, zi_lt, zi_eq, zi_n0, zi_n1, zi_n2, zi_n3, zi_n4, zi_n23, zi_n24, zi_n100, zi_n399, zi_n60, zi_n255, zi_n99, zi_nm1, zi_n30] at *; omega) | (simp_all; done)), ⟨by rw [ht]; exact hP, hD⟩⟩, hS.F ht⟩) hS.2.2 dX6_write_16
    · skip
      exact absurd (by decide) c_61
