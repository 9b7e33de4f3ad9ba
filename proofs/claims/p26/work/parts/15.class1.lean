set_option maxHeartbeats 4000000 in
set_option maxRecDepth 100000 in
theorem c_X6_dayOfView (l : Launch) (dC : Nat → ClassId) (dI : Nat → Nat → Nat) (k : Nat → ClassId) (q : Nat → Nat) (z : ZS) (sz : Nat) (hI : XInv z) : Met l yX6_dayOfView (wz yX6_dayOfView cX6_dayOfView 1 (some .int)) ({ frames := 0, cells := 0, slots := 0, locals := 0 }) (va_Pc [.ref (q 0)] (zPre dC dI k (zTX k) (zX k q z) sz)) (va_Qi (fun (r : Int32) (u : Unit) => True) (fun u t => zPost dC dI (va_A (zX k q z) sz) (zX k q z) t) (va_A (zX k q z) sz)) 0 0 (va_A (zX k q z) sz) := by
  refine Met.ofW (cc := cX6_dayOfView) (maxL := 1) (ret := (some .int)) (by decide) rfl ?_
  intro p e s m args below meth c s₁ B hml hv
  obtain ⟨rfl, hsz, hP, hK, hD0⟩ := hv
  have hx := B.exec
  have hb := B.bytes
  have hr := B.returns
  have hts := atoms_spec (ws := wz yX6_dayOfView cX6_dayOfView 1 (some .int)) B.pre
  have htb : ∀ w ∈ zw, w.before _ s = true := fun w h => hts w (List.mem_cons_of_mem _ h)
  have hown : s.vm.findClass RX6 = some m.cls := findClass_of_methodNamed B.named
  have hlocks := B.notSynchronized
  clear hts
  subst hsz
  have hD := hD0.self (sz := s.heap.size)
  generalize hAe : va_A (zX k q z) s.heap.size = A at hD ⊢
  have hA : ∀ q : Nat, s.heap.size ≤ q → A q := fun q h => by rw [← hAe]; exact Or.inr h
  have hDa : ∀ z9 : ZS, va_D A (zX k q z9) := fun z9 => va_D_adr (w := zX k q z) rfl hD
  have hl := lv_entry ([.ref (q 0)]) (n := 1) (Nat.le_of_ble_eq_true rfl)
  rw [lg_entry_eq]
  generalize (lg_sl ([.ref (q 0)]) ++ List.replicate (1 - (lg_sl ([.ref (q 0)])).length) Slot.unset).toArray = ls at hl ⊢
  have hl : lv_has ls 1 [(0, .ref (q 0))] := hl
  refine z_start2 (A := A) (w := (zX k q z)) hP (fun H locs hP hS => ?_)
  clear hD0 hAe
  have hT : trX z = trX z := rfl
  refine lv_aload_n hx hb dX6_dayOfView_0 rfl (lv_at hl 0 rfl) ?_
  refine va_get (D := (dC, dI)) (ci := 6) (v := .int (z.1 1)) (C := RX6) (T := TX6) (N := 12) hx hb htb inw6 hown hK.1 hP 0 rfl rfl 8 (by decide) (htb _ wmt1_178) (fun _ h9 => h9) rfl dX6_dayOfView_1 ?_
  refine lv_topi (fun x_1 ex_1 => ?_)
  have hx_1 : x_1.toInt = (z.1 1).toInt := by rw [ex_1]
  refine lv_iconst (v := (-1)) hx hb dX6_dayOfView_4 (by decide) ?_
  refine lv_icmp_ne (tgt := 15) hx hb dX6_dayOfView_5 (by decide) (fun c_2 => ?_) (fun c_2 => ?_)
  · skip
    have hc_2 := zb_ne rfl (show ((-1) : Int32).toInt = (-1) by decide) c_2
    refine lv_aload_n hx hb dX6_dayOfView_15 rfl (lv_at hl 0 rfl) ?_
    refine va_get (D := (dC, dI)) (ci := 6) (v := .int (z.1 1)) (C := RX6) (T := TX6) (N := 12) hx hb htb inw6 hown hK.1 hP 0 rfl rfl 8 (by decide) (htb _ wmt1_178) (fun _ h9 => h9) rfl dX6_dayOfView_16 ?_
    refine z_top (v2 := .int x_1) (congrArg Value.int ex_1.symm) ?_
    exact W.iret (v := x_1) hx hb hr (fun t ht hW => ⟨⟨x_1, (), rfl, trivial, ⟨by rw [ht]; exact hP, hDa _⟩⟩, hS.F ht⟩) hS.2.2 dX6_dayOfView_19
  · skip
    have hc_2 := zb_eq rfl (show ((-1) : Int32).toInt = (-1) by decide) c_2
    refine lv_aload_n hx hb dX6_dayOfView_8 rfl (lv_at hl 0 rfl) ?_
    refine va_get (D := (dC, dI)) (ci := 6) (v := .int (z.1 0)) (C := RX6) (T := TX6) (N := 12) hx hb htb inw6 hown hK.1 hP 0 rfl rfl 7 (by decide) (htb _ wmt1_177) (fun _ h9 => h9) rfl dX6_dayOfView_9 ?_
    refine lv_topi (fun x_3 ex_3 => ?_)
    have hx_3 : x_3.toInt = (z.1 0).toInt := by rw [ex_3]
    refine lv_goto (tgt := 19) hx hb dX6_dayOfView_12 (by decide) ?_
    exact W.iret (v := x_3) hx hb hr (fun t ht hW => ⟨⟨x_3, (), rfl, trivial, ⟨by rw [ht]; exact hP, hDa _⟩⟩, hS.F ht⟩) hS.2.2 dX6_dayOfView_19
set_option maxHeartbeats 4000000 in
set_option maxRecDepth 100000 in
theorem c_X6_found (l : Launch) (dC : Nat → ClassId) (dI : Nat → Nat → Nat) (k : Nat → ClassId) (q : Nat → Nat) (z : ZS) (n : Int32) (sz : Nat) (hI : XInv z) : Met l yX6_found (wz yX6_found cX6_found 2 (some .int)) ({ frames := 0, cells := 0, slots := 0, locals := 0 }) (va_Pc [.ref (q 0), .int n] (zPre dC dI k (zTX k) (zX k q z) sz)) (va_Qi (fun (r : Int32) (u : ZS) => (XInv u) ∧ (trX u = trX z) ∧ (r = (-10) - n)) (fun u t => zPost dC dI (va_A (zX k q z) sz) (zX k q u) t) (va_A (zX k q z) sz)) 0 0 (va_A (zX k q z) sz) := by
  refine Met.ofW (cc := cX6_found) (maxL := 2) (ret := (some .int)) (by decide) rfl ?_
  intro p e s m args below meth c s₁ B hml hv
  obtain ⟨rfl, hsz, hP, hK, hD0⟩ := hv
  have hx := B.exec
  have hb := B.bytes
  have hr := B.returns
  have hts := atoms_spec (ws := wz yX6_found cX6_found 2 (some .int)) B.pre
  have htb : ∀ w ∈ zw, w.before _ s = true := fun w h => hts w (List.mem_cons_of_mem _ h)
  have hown : s.vm.findClass RX6 = some m.cls := findClass_of_methodNamed B.named
  have hlocks := B.notSynchronized
  clear hts
  subst hsz
  have hD := hD0.self (sz := s.heap.size)
  generalize hAe : va_A (zX k q z) s.heap.size = A at hD ⊢
  have hA : ∀ q : Nat, s.heap.size ≤ q → A q := fun q h => by rw [← hAe]; exact Or.inr h
  have hDa : ∀ z9 : ZS, va_D A (zX k q z9) := fun z9 => va_D_adr (w := zX k q z) rfl hD
  have hl := lv_entry ([.ref (q 0), .int n]) (n := 2) (Nat.le_of_ble_eq_true rfl)
  rw [lg_entry_eq]
  generalize (lg_sl ([.ref (q 0), .int n]) ++ List.replicate (2 - (lg_sl ([.ref (q 0), .int n])).length) Slot.unset).toArray = ls at hl ⊢
  have hl : lv_has ls 2 [(0, .ref (q 0)), (1, .int n)] := hl
  refine z_start2 (A := A) (w := (zX k q z)) hP (fun H locs hP hS => ?_)
  clear hD0 hAe
  have hT : trX z = trX z := rfl
  refine lv_aload_n hx hb dX6_found_0 rfl (lv_at hl 0 rfl) ?_
  refine lv_iload_n hx hb dX6_found_1 rfl (lv_at hl 1 rfl) ?_
  refine va_put (D := (dC, dI)) (ci := 6) (v := .int n) (ty := .int) (C := RX6) (T := TX6) (N := 12) hx hb htb inw6 tyX6 tyX6_ok nmX6 hown hK.1 hP (hDa _) hS 0 rfl rfl 11 (by decide) (htb _ wmt1_181) (fun _ h9 => h9) rfl (by decide +kernel) rfl rfl (Nat.le_of_ble_eq_true rfl) dX6_found_2 (fun H locs hP _ hS => ?_)
  have hP : va_P (dC, dI) vwCl (zX k q (sI z 4 n)) H := hP
  refine lv_bipush (v := (-10)) hx hb dX6_found_5 (by decide) ?_
  refine lv_iload_n hx hb dX6_found_7 rfl (lv_at hl 1 rfl) ?_
  refine lv_isub hx hb dX6_found_8 ?_
  refine lv_topi (fun x_1 ex_1 => ?_)
  exact W.iret (v := x_1) hx hb hr (fun t ht hW => ⟨⟨x_1, (sI z 4 n), rfl, ⟨hI, hT, ex_1⟩, ⟨by rw [ht]; exact hP, hDa _⟩⟩, hS.F ht⟩) hS.2.2 dX6_found_9
set_option maxHeartbeats 4000000 in
set_option maxRecDepth 100000 in
theorem c_X6_fault (l : Launch) (dC : Nat → ClassId) (dI : Nat → Nat → Nat) (k : Nat → ClassId) (q : Nat → Nat) (z : ZS) (d : Int32) (sz : Nat) (hI : XInv z) : Met l yX6_fault (wz yX6_fault cX6_fault 2 (some .int)) ({ frames := 1, cells := 0, slots := 0, locals := 20 }) (va_Pc [.ref (q 0), .int d] (zPre dC dI k (zTX k) (zX k q z) sz)) (va_Qi (fun (r : Int32) (u : Unit) => (r = tFault (trX z) d)) (fun u t => zPost dC dI (va_A (zX k q z) sz) (zX k q z) t) (va_A (zX k q z) sz)) 0 0 (va_A (zX k q z) sz) := by
  refine Met.ofW (cc := cX6_fault) (maxL := 2) (ret := (some .int)) (by decide) rfl ?_
  intro p e s m args below meth c s₁ B hml hv
  obtain ⟨rfl, hsz, hP, hK, hD0⟩ := hv
  have hx := B.exec
  have hb := B.bytes
  have hr := B.returns
  have hts := atoms_spec (ws := wz yX6_fault cX6_fault 2 (some .int)) B.pre
  have htb : ∀ w ∈ zw, w.before _ s = true := fun w h => hts w (List.mem_cons_of_mem _ h)
  have hown : s.vm.findClass RX6 = some m.cls := findClass_of_methodNamed B.named
  have hlocks := B.notSynchronized
  clear hts
  subst hsz
  have hD := hD0.self (sz := s.heap.size)
  generalize hAe : va_A (zX k q z) s.heap.size = A at hD ⊢
  have hA : ∀ q : Nat, s.heap.size ≤ q → A q := fun q h => by rw [← hAe]; exact Or.inr h
  have hDa : ∀ z9 : ZS, va_D A (zX k q z9) := fun z9 => va_D_adr (w := zX k q z) rfl hD
  have hl := lv_entry ([.ref (q 0), .int d]) (n := 2) (Nat.le_of_ble_eq_true rfl)
  rw [lg_entry_eq]
  generalize (lg_sl ([.ref (q 0), .int d]) ++ List.replicate (2 - (lg_sl ([.ref (q 0), .int d])).length) Slot.unset).toArray = ls at hl ⊢
  have hl : lv_has ls 2 [(0, .ref (q 0)), (1, .int d)] := hl
  refine z_start2 (A := A) (w := (zX k q z)) hP (fun H locs hP hS => ?_)
  clear hD0 hAe
  have hT : trX z = trX z := rfl
  refine lv_iload_n hx hb dX6_fault_0 rfl (lv_at hl 1 rfl) ?_
  refine zc0_i (w := (zX k q z)) (va_runS (As := [.int d]) (rest := []) ⟨hx, hb, hml, hown, htb⟩ (c_X6_isDesign l dC dI k d _ ) (va_cwS 1 htb (gzS wmt1_211 wmt1_212 wmt1_1 wmt1_213) rfl rfl rfl (by decide +kernel) ⟨Nat.le_of_ble_eq_true rfl, Nat.le_of_ble_eq_true rfl⟩) (zp0_S hK) rfl rfl hl.1 rfl (lv_room (Nat.le_of_ble_eq_true rfl)) dX6_fault_1 ⟨Nat.le_of_ble_eq_true rfl, Nat.le_of_ble_eq_true rfl⟩) hP hS hA (fun r_1 u_2 H locs w_3 hP hS => ?_)
  rcases w_3 with ⟨e_5, h_4⟩ | ⟨e_7, h_6⟩
  · skip
    replace e_5 : r_1 = 1 := e_5
    subst e_5
    replace h_4 : 0 ≤ d.toInt ∧ d.toInt < 4 := h_4
    refine lv_if_eq (tgt := 19) hx hb dX6_fault_4 (by decide) (fun c_8 => ?_) (fun c_8 => ?_)
    · skip
      exact absurd c_8 (by decide)
    · skip
      refine lv_aload_n hx hb dX6_fault_7 rfl (lv_at hl 0 rfl) ?_
      refine va_get (D := (dC, dI)) (ci := 6) (v := .ref (q 1)) (C := RX6) (T := TX6) (N := 12) hx hb htb inw6 hown hK.1 hP 0 rfl rfl 0 (by decide) (htb _ wmt1_170) (fun _ h9 => h9) rfl dX6_fault_8 ?_
      refine lv_iload_n hx hb dX6_fault_11 rfl (lv_at hl 1 rfl) ?_
      refine va_aldq (D := (dC, dI)) hx hb hK.1 hP 1 3 rfl rfl (z_in (by omega)) dX6_fault_12 ?_
      obtain ⟨d_9, ed_9⟩ : ∃ x : Nat, x = d.toNatClampNeg := ⟨_, rfl⟩
      have hd_9 : d_9 < 4 := by rw [ed_9]; exact z_cl4 (by omega)
      refine z_top (v2 := .ref (qD q d_9 0)) (zgD_at2 ed_9 hd_9) ?_
      refine va_get (D := (dC, dI)) (ci := 1) (v := .int (z.1 (10 + 6 * d_9 + 2))) (C := RX1) (T := TX1) (N := 9) hx hb htb inw1 hown hK.1 hP (16 + 3 * d_9) (zX_D0 hd_9) rfl 5 (by decide) (htb _ wmt1_125) (fun _ h9 => h9) rfl dX6_fault_13 ?_
      refine lv_topi (fun x_10 ex_10 => ?_)
      have hx_10 : x_10.toInt = (z.1 (10 + 6 * d_9 + 2)).toInt := by rw [ex_10]
      refine lv_goto (tgt := 21) hx hb dX6_fault_16 (by decide) ?_
      exact W.iret (v := x_10) hx hb hr (fun t ht hW => ⟨⟨x_10, (), rfl, (tFault_ok (by omega) ed_9 ((trX_Fg hd_9).trans ex_10.symm)), ⟨by rw [ht]; exact hP, hDa _⟩⟩, hS.F ht⟩) hS.2.2 dX6_fault_21
  · skip
    replace e_7 : r_1 = 0 := e_7
    subst e_7
    replace h_6 : ¬ (0 ≤ d.toInt ∧ d.toInt < 4) := h_6
    refine lv_if_eq (tgt := 19) hx hb dX6_fault_4 (by decide) (fun c_11 => ?_) (fun c_11 => ?_)
    · skip
      refine lv_bipush (v := (-2)) hx hb dX6_fault_19 (by decide) ?_
      exact W.iret (v := (-2)) hx hb hr (fun t ht hW => ⟨⟨(-2), (), rfl, (tFault_bad (by omega)), ⟨by rw [ht]; exact hP, hDa _⟩⟩, hS.F ht⟩) hS.2.2 dX6_fault_21
    · skip
      exact absurd (by decide) c_11
set_option maxHeartbeats 4000000 in
set_option maxRecDepth 100000 in
theorem c_X6_unit (l : Launch) (dC : Nat → ClassId) (dI : Nat → Nat → Nat) (k : Nat → ClassId) (q : Nat → Nat) (z : ZS) (d : Int32) (sz : Nat) (hI : XInv z) : Met l yX6_unit (wz yX6_unit cX6_unit 3 (some .int)) ({ frames := 1, cells := 0, slots := 0, locals := 20 }) (va_Pc [.ref (q 0), .int d] (zPre dC dI k (zTX k) (zX k q z) sz)) (va_Qi (fun (r : Int32) (u : Unit) => (r.toInt = tUnit (trX z) d)) (fun u t => zPost dC dI (va_A (zX k q z) sz) (zX k q z) t) (va_A (zX k q z) sz)) 0 0 (va_A (zX k q z) sz) := by
  refine Met.ofW (cc := cX6_unit) (maxL := 3) (ret := (some .int)) (by decide) rfl ?_
  intro p e s m args below meth c s₁ B hml hv
  obtain ⟨rfl, hsz, hP, hK, hD0⟩ := hv
  have hx := B.exec
  have hb := B.bytes
  have hr := B.returns
  have hts := atoms_spec (ws := wz yX6_unit cX6_unit 3 (some .int)) B.pre
  have htb : ∀ w ∈ zw, w.before _ s = true := fun w h => hts w (List.mem_cons_of_mem _ h)
  have hown : s.vm.findClass RX6 = some m.cls := findClass_of_methodNamed B.named
  have hlocks := B.notSynchronized
  clear hts
  subst hsz
  have hD := hD0.self (sz := s.heap.size)
  generalize hAe : va_A (zX k q z) s.heap.size = A at hD ⊢
  have hA : ∀ q : Nat, s.heap.size ≤ q → A q := fun q h => by rw [← hAe]; exact Or.inr h
  have hDa : ∀ z9 : ZS, va_D A (zX k q z9) := fun z9 => va_D_adr (w := zX k q z) rfl hD
  have hl := lv_entry ([.ref (q 0), .int d]) (n := 3) (Nat.le_of_ble_eq_true rfl)
  rw [lg_entry_eq]
  generalize (lg_sl ([.ref (q 0), .int d]) ++ List.replicate (3 - (lg_sl ([.ref (q 0), .int d])).length) Slot.unset).toArray = ls at hl ⊢
  have hl : lv_has ls 3 [(0, .ref (q 0)), (1, .int d)] := hl
  refine z_start2 (A := A) (w := (zX k q z)) hP (fun H locs hP hS => ?_)
  clear hD0 hAe
  have hT : trX z = trX z := rfl
  refine lv_iload_n hx hb dX6_unit_0 rfl (lv_at hl 1 rfl) ?_
  refine zc0_i (w := (zX k q z)) (va_runS (As := [.int d]) (rest := []) ⟨hx, hb, hml, hown, htb⟩ (c_X6_isDesign l dC dI k d _ ) (va_cwS 1 htb (gzS wmt1_211 wmt1_212 wmt1_1 wmt1_213) rfl rfl rfl (by decide +kernel) ⟨Nat.le_of_ble_eq_true rfl, Nat.le_of_ble_eq_true rfl⟩) (zp0_S hK) rfl rfl hl.1 rfl (lv_room (Nat.le_of_ble_eq_true rfl)) dX6_unit_1 ⟨Nat.le_of_ble_eq_true rfl, Nat.le_of_ble_eq_true rfl⟩) hP hS hA (fun r_1 u_2 H locs w_3 hP hS => ?_)
  rcases w_3 with ⟨e_5, h_4⟩ | ⟨e_7, h_6⟩
  · skip
    replace e_5 : r_1 = 1 := e_5
    subst e_5
    replace h_4 : 0 ≤ d.toInt ∧ d.toInt < 4 := h_4
    refine lv_if_ne (tgt := 10) hx hb dX6_unit_4 (by decide) (fun c_8 => ?_) (fun c_8 => ?_)
    · skip
      refine lv_aload_n hx hb dX6_unit_10 rfl (lv_at hl 0 rfl) ?_
      refine va_get (D := (dC, dI)) (ci := 6) (v := .ref (q 1)) (C := RX6) (T := TX6) (N := 12) hx hb htb inw6 hown hK.1 hP 0 rfl rfl 0 (by decide) (htb _ wmt1_170) (fun _ h9 => h9) rfl dX6_unit_11 ?_
      refine lv_iload_n hx hb dX6_unit_14 rfl (lv_at hl 1 rfl) ?_
      refine va_aldq (D := (dC, dI)) hx hb hK.1 hP 1 3 rfl rfl (z_in (by omega)) dX6_unit_15 ?_
      obtain ⟨d_9, ed_9⟩ : ∃ x : Nat, x = d.toNatClampNeg := ⟨_, rfl⟩
      have hd_9 : d_9 < 4 := by rw [ed_9]; exact z_cl4 (by omega)
      refine z_top (v2 := .ref (qD q d_9 0)) (zgD_at2 ed_9 hd_9) ?_
      refine lv_astore_n (lv' := [(2, .ref (qD q d_9 0)), (0, .ref (q 0)), (1, .int d)]) hx hb dX6_unit_16 rfl hl (by decide) rfl (fun ls hl => ?_)
      refine lv_aload_n hx hb dX6_unit_17 rfl (lv_at hl 0 rfl) ?_
      refine zcS_i (w := (zX k q z)) (wc := (zD k (qD q d_9) (xD z d_9))) (va_runV (As := []) (rest := []) ⟨hx, hb, hml, hown, htb⟩ (c_X1_isFaulty l dC dI k (qD q d_9) (xD z d_9) _ ) (cwV 0 htb (gzV wmt2_55 wmt2_20 wmt2_21 wmt1_6 wmt2_22) rfl rfl rfl (by decide +kernel) ⟨Nat.le_of_ble_eq_true rfl, Nat.le_of_ble_eq_true rfl⟩) (zp_V (ci := 1) (q0 := (16 + 3 * d_9)) hK hP (hDa _) [16 + 3 * d_9, 17 + 3 * d_9, 18 + 3 * d_9] (zX_DC hd_9) (zX_ndD hd_9) rfl (zX_D0 hd_9)) rfl rfl hl.1 rfl (lv_room (Nat.le_of_ble_eq_true rfl)) dX6_unit_18 ⟨Nat.le_of_ble_eq_true rfl, Nat.le_of_ble_eq_true rfl⟩) hP (hDa _) hS hA [16 + 3 * d_9, 17 + 3 * d_9, 18 + 3 * d_9] (zX_DC hd_9) (fun _ => rfl) (fun r_10 u_11 H locs w_12 hP _ hS => ?_)
      have hP : va_P (dC, dI) vwCl (zX k q z) H := (zX_Dkeep hd_9) ▸ hP
      rcases w_12 with ⟨e_14, h_13⟩ | ⟨e_16, h_15⟩
      · skip
        replace e_14 : r_10 = 1 := e_14
        subst e_14
        replace h_13 : ¬ ((xD z d_9).1 2).toInt = -1 := h_13
        have hfa : ¬ (z.1 (10 + 6 * d_9 + 2)).toInt = -1 := h_13
        refine lv_if_eq (tgt := 29) hx hb dX6_unit_21 (by decide) (fun c_17 => ?_) (fun c_17 => ?_)
        · skip
          exact absurd c_17 (by decide)
        · skip
          refine lv_bipush (v := (-3)) hx hb dX6_unit_24 (by decide) ?_
          refine lv_goto (tgt := 33) hx hb dX6_unit_26 (by decide) ?_
          exact W.iret (v := (-3)) hx hb hr (fun t ht hW => ⟨⟨(-3), (), rfl, ((show (-3 : Int32).toInt = -3 by decide).trans (tUnit_ok (by omega) ed_9 (tUn_f (trX_Fg hd_9) hfa))), ⟨by rw [ht]; exact hP, hDa _⟩⟩, hS.F ht⟩) hS.2.2 dX6_unit_33
      · skip
        replace e_16 : r_10 = 0 := e_16
        subst e_16
        replace h_15 : ((xD z d_9).1 2).toInt = -1 := h_15
        have hfa : (z.1 (10 + 6 * d_9 + 2)).toInt = -1 := h_15
        have hlx := tL_X (z := z) hd_9 hfa
        refine lv_if_eq (tgt := 29) hx hb dX6_unit_21 (by decide) (fun c_18 => ?_) (fun c_18 => ?_)
        · skip
          refine lv_aload_n hx hb dX6_unit_29 rfl (lv_at hl 0 rfl) ?_
          refine va_get (D := (dC, dI)) (ci := 1) (v := .int (z.1 (10 + 6 * d_9 + 5))) (C := RX1) (T := TX1) (N := 9) hx hb htb inw1 hown hK.1 hP (16 + 3 * d_9) (zX_D0 hd_9) rfl 8 (by decide) (htb _ wmt1_132) (fun _ h9 => h9) rfl dX6_unit_30 ?_
          refine lv_topi (fun x_19 ex_19 => ?_)
          have hx_19 : x_19.toInt = (z.1 (10 + 6 * d_9 + 5)).toInt := by rw [ex_19]
          exact W.iret (v := x_19) hx hb hr (fun t ht hW => ⟨⟨x_19, (), rfl, (tUnit_ok (by omega) ed_9 (tUn_ok (trX_Fg hd_9) hfa (hlx.1.trans (by rw [ex_19])))), ⟨by rw [ht]; exact hP, hDa _⟩⟩, hS.F ht⟩) hS.2.2 dX6_unit_33
        · skip
          exact absurd (by decide) c_18
    · skip
      exact absurd c_8 (by decide)
  · skip
    replace e_7 : r_1 = 0 := e_7
    subst e_7
    replace h_6 : ¬ (0 ≤ d.toInt ∧ d.toInt < 4) := h_6
    refine lv_if_ne (tgt := 10) hx hb dX6_unit_4 (by decide) (fun c_20 => ?_) (fun c_20 => ?_)
    · skip
      exact absurd c_20 (by decide)
    · skip
      refine lv_bipush (v := (-2)) hx hb dX6_unit_7 (by decide) ?_
      exact W.iret (v := (-2)) hx hb hr (fun t ht hW => ⟨⟨(-2), (), rfl, ((show (-2 : Int32).toInt = -2 by decide).trans (tUnit_bad (by omega))), ⟨by rw [ht]; exact hP, hDa _⟩⟩, hS.F ht⟩) hS.2.2 dX6_unit_9
set_option maxHeartbeats 4000000 in
set_option maxRecDepth 100000 in
theorem c_X6_isWithinLimit (l : Launch) (dC : Nat → ClassId) (dI : Nat → Nat → Nat) (k : Nat → ClassId) (q : Nat → Nat) (z : ZS) (sz : Nat) (hI : XInv z) : Met l yX6_isWithinLimit (wz yX6_isWithinLimit cX6_isWithinLimit 1 (some .boolean)) ({ frames := 1, cells := 0, slots := 0, locals := 22 }) (va_Pc [.ref (q 0)] (zPre dC dI k (zTX k) (zX k q z) sz)) (va_Qi (fun (r : Int32) (u : Unit) => True) (fun u t => zPost dC dI (va_A (zX k q z) sz) (zX k q z) t) (va_A (zX k q z) sz)) 0 0 (va_A (zX k q z) sz) := by
  refine Met.ofW (cc := cX6_isWithinLimit) (maxL := 1) (ret := (some .boolean)) (by decide) rfl ?_
  intro p e s m args below meth c s₁ B hml hv
  obtain ⟨rfl, hsz, hP, hK, hD0⟩ := hv
  have hx := B.exec
  have hb := B.bytes
  have hr := B.returns
  have hts := atoms_spec (ws := wz yX6_isWithinLimit cX6_isWithinLimit 1 (some .boolean)) B.pre
  have htb : ∀ w ∈ zw, w.before _ s = true := fun w h => hts w (List.mem_cons_of_mem _ h)
  have hown : s.vm.findClass RX6 = some m.cls := findClass_of_methodNamed B.named
  have hlocks := B.notSynchronized
  clear hts
  subst hsz
  have hD := hD0.self (sz := s.heap.size)
  generalize hAe : va_A (zX k q z) s.heap.size = A at hD ⊢
  have hA : ∀ q : Nat, s.heap.size ≤ q → A q := fun q h => by rw [← hAe]; exact Or.inr h
  have hDa : ∀ z9 : ZS, va_D A (zX k q z9) := fun z9 => va_D_adr (w := zX k q z) rfl hD
  have hl := lv_entry ([.ref (q 0)]) (n := 1) (Nat.le_of_ble_eq_true rfl)
  rw [lg_entry_eq]
  generalize (lg_sl ([.ref (q 0)]) ++ List.replicate (1 - (lg_sl ([.ref (q 0)])).length) Slot.unset).toArray = ls at hl ⊢
  have hl : lv_has ls 1 [(0, .ref (q 0))] := hl
  refine z_start2 (A := A) (w := (zX k q z)) hP (fun H locs hP hS => ?_)
  clear hD0 hAe
  have hT : trX z = trX z := rfl
  refine lv_aload_n hx hb dX6_isWithinLimit_0 rfl (lv_at hl 0 rfl) ?_
  refine va_get (D := (dC, dI)) (ci := 6) (v := .ref (q 15)) (C := RX6) (T := TX6) (N := 12) hx hb htb inw6 hown hK.1 hP 0 rfl rfl 6 (by decide) (htb _ wmt1_176) (fun _ h9 => h9) rfl dX6_isWithinLimit_1 ?_
  refine lv_ldc2 (v := 1000000000) hx hb hown (htb _ wmt3_17) dX6_isWithinLimit_4 ?_
  refine zcS_i (w := (zX k q z)) (wc := (zF k (qof q 15) (xF z))) (va_runV (As := [.long 1000000000]) (rest := []) ⟨hx, hb, hml, hown, htb⟩ (c_X2_isAbove l dC dI k (qof q 15) (xF z) 1000000000 _ ) (cwV 1 htb (gzV wmt3_18 wmt3_19 wmt3_20 wmt1_5 wmt3_21) rfl rfl rfl (by decide +kernel) ⟨Nat.le_of_ble_eq_true rfl, Nat.le_of_ble_eq_true rfl⟩) (zp_V (ci := 2) (q0 := 15) hK hP (hDa _) [15] rfl (by decide) rfl rfl) rfl rfl hl.1 rfl (lv_room (Nat.le_of_ble_eq_true rfl)) dX6_isWithinLimit_7 ⟨Nat.le_of_ble_eq_true rfl, Nat.le_of_ble_eq_true rfl⟩) hP (hDa _) hS hA [15] rfl (fun _ => rfl) (fun r_1 u_2 H locs w_3 hP _ hS => ?_)
  have hP : va_P (dC, dI) vwCl (zX k q z) H := hP
  refine lv_if_ne (tgt := 65) hx hb dX6_isWithinLimit_10 (by decide) (fun c_4 => ?_) (fun c_4 => ?_)
  · skip
    have hc_4 := zb_ne rfl (show (0 : Int32).toInt = 0 by decide) c_4
    refine lv_iconst (v := 0) hx hb dX6_isWithinLimit_65 (by decide) ?_
    exact W.zret (v := 0) (ty := .boolean) hx hb hr rfl (fun t ht hW => ⟨⟨0, (), rfl, trivial, ⟨by rw [ht]; exact hP, hDa _⟩⟩, hS.F ht⟩) hS.2.2 dX6_isWithinLimit_66
  · skip
    have hc_4 := zb_eq rfl (show (0 : Int32).toInt = 0 by decide) c_4
    refine lv_aload_n hx hb dX6_isWithinLimit_13 rfl (lv_at hl 0 rfl) ?_
    refine va_get (D := (dC, dI)) (ci := 6) (v := .ref (q 15)) (C := RX6) (T := TX6) (N := 12) hx hb htb inw6 hown hK.1 hP 0 rfl rfl 6 (by decide) (htb _ wmt1_176) (fun _ h9 => h9) rfl dX6_isWithinLimit_14 ?_
    refine va_get (D := (dC, dI)) (ci := 2) (v := .long (z.2.1 0)) (C := RX2) (T := TX2) (N := 2) hx hb htb inw2 hown hK.1 hP 15 rfl rfl 0 (by decide) (htb _ wmt1_104) (fun _ h9 => h9) rfl dX6_isWithinLimit_17 ?_
    refine lv_topl (fun x_5 ex_5 => ?_)
    have hx_5 : x_5.toInt = (z.2.1 0).toInt := by rw [ex_5]
    refine lv_aload_n hx hb dX6_isWithinLimit_20 rfl (lv_at hl 0 rfl) ?_
    refine va_get (D := (dC, dI)) (ci := 6) (v := .int (z.1 3)) (C := RX6) (T := TX6) (N := 12) hx hb htb inw6 hown hK.1 hP 0 rfl rfl 10 (by decide) (htb _ wmt1_180) (fun _ h9 => h9) rfl dX6_isWithinLimit_21 ?_
    refine lv_topi (fun x_6 ex_6 => ?_)
    have hx_6 : x_6.toInt = (z.1 3).toInt := by rw [ex_6]
    refine lv_i2l (v := x_6.toInt64) hx hb dX6_isWithinLimit_24 rfl ?_
    refine lv_topl (fun x_7 ex_7 => ?_)
    have hx_7 : x_7.toInt = x_6.toInt := by rw [ex_7]; exact Jvm.Kit.i64_of_i32 _
    refine lv_aload_n hx hb dX6_isWithinLimit_25 rfl (lv_at hl 0 rfl) ?_
    refine va_get (D := (dC, dI)) (ci := 6) (v := .ref (q 15)) (C := RX6) (T := TX6) (N := 12) hx hb htb inw6 hown hK.1 hP 0 rfl rfl 6 (by decide) (htb _ wmt1_176) (fun _ h9 => h9) rfl dX6_isWithinLimit_26 ?_
    refine va_get (D := (dC, dI)) (ci := 2) (v := .long (z.2.1 1)) (C := RX2) (T := TX2) (N := 2) hx hb htb inw2 hown hK.1 hP 15 rfl rfl 1 (by decide) (htb _ wmt1_106) (fun _ h9 => h9) rfl dX6_isWithinLimit_29 ?_
    refine lv_topl (fun x_8 ex_8 => ?_)
    have hx_8 : x_8.toInt = (z.2.1 1).toInt := by rw [ex_8]
    refine lv_lmul hx hb dX6_isWithinLimit_32 ?_
    refine lv_topl (fun x_9 ex_9 => ?_)
    refine z_lcmp hx hb dX6_isWithinLimit_33 ?_
    refine lv_if_gt (tgt := 65) hx hb dX6_isWithinLimit_34 (by decide) (fun c_10 => ?_) (fun c_10 => ?_)
    · skip
      have hc_10 := zl_gt rfl rfl c_10
      refine lv_iconst (v := 0) hx hb dX6_isWithinLimit_65 (by decide) ?_
      exact W.zret (v := 0) (ty := .boolean) hx hb hr rfl (fun t ht hW => ⟨⟨0, (), rfl, trivial, ⟨by rw [ht]; exact hP, hDa _⟩⟩, hS.F ht⟩) hS.2.2 dX6_isWithinLimit_66
    · skip
      have hc_10 := zl_ngt rfl rfl c_10
      refine lv_aload_n hx hb dX6_isWithinLimit_37 rfl (lv_at hl 0 rfl) ?_
      refine va_get (D := (dC, dI)) (ci := 6) (v := .ref (q 15)) (C := RX6) (T := TX6) (N := 12) hx hb htb inw6 hown hK.1 hP 0 rfl rfl 6 (by decide) (htb _ wmt1_176) (fun _ h9 => h9) rfl dX6_isWithinLimit_38 ?_
      refine va_get (D := (dC, dI)) (ci := 2) (v := .long (z.2.1 1)) (C := RX2) (T := TX2) (N := 2) hx hb htb inw2 hown hK.1 hP 15 rfl rfl 1 (by decide) (htb _ wmt1_106) (fun _ h9 => h9) rfl dX6_isWithinLimit_41 ?_
      refine z_top (v2 := .long x_8) (congrArg Value.long ex_8.symm) ?_
      refine lv_aload_n hx hb dX6_isWithinLimit_44 rfl (lv_at hl 0 rfl) ?_
      refine va_get (D := (dC, dI)) (ci := 6) (v := .int (z.1 3)) (C := RX6) (T := TX6) (N := 12) hx hb htb inw6 hown hK.1 hP 0 rfl rfl 10 (by decide) (htb _ wmt1_180) (fun _ h9 => h9) rfl dX6_isWithinLimit_45 ?_
      refine z_top (v2 := .int x_6) (congrArg Value.int ex_6.symm) ?_
      refine lv_i2l (v := x_6.toInt64) hx hb dX6_isWithinLimit_48 rfl ?_
      refine lv_topl (fun x_11 ex_11 => ?_)
      have hx_11 : x_11.toInt = x_6.toInt := by rw [ex_11]; exact Jvm.Kit.i64_of_i32 _
      refine lv_aload_n hx hb dX6_isWithinLimit_49 rfl (lv_at hl 0 rfl) ?_
      refine va_get (D := (dC, dI)) (ci := 6) (v := .ref (q 15)) (C := RX6) (T := TX6) (N := 12) hx hb htb inw6 hown hK.1 hP 0 rfl rfl 6 (by decide) (htb _ wmt1_176) (fun _ h9 => h9) rfl dX6_isWithinLimit_50 ?_
      refine va_get (D := (dC, dI)) (ci := 2) (v := .long (z.2.1 0)) (C := RX2) (T := TX2) (N := 2) hx hb htb inw2 hown hK.1 hP 15 rfl rfl 0 (by decide) (htb _ wmt1_104) (fun _ h9 => h9) rfl dX6_isWithinLimit_53 ?_
      refine z_top (v2 := .long x_5) (congrArg Value.long ex_5.symm) ?_
      refine lv_lmul hx hb dX6_isWithinLimit_56 ?_
      refine lv_topl (fun x_12 ex_12 => ?_)
      refine z_lcmp hx hb dX6_isWithinLimit_57 ?_
      refine lv_if_gt (tgt := 65) hx hb dX6_isWithinLimit_58 (by decide) (fun c_13 => ?_) (fun c_13 => ?_)
      · skip
        have hc_13 := zl_gt rfl rfl c_13
        refine lv_iconst (v := 0) hx hb dX6_isWithinLimit_65 (by decide) ?_
        exact W.zret (v := 0) (ty := .boolean) hx hb hr rfl (fun t ht hW => ⟨⟨0, (), rfl, trivial, ⟨by rw [ht]; exact hP, hDa _⟩⟩, hS.F ht⟩) hS.2.2 dX6_isWithinLimit_66
      · skip
        have hc_13 := zl_ngt rfl rfl c_13
        refine lv_iconst (v := 1) hx hb dX6_isWithinLimit_61 (by decide) ?_
        refine lv_goto (tgt := 66) hx hb dX6_isWithinLimit_62 (by decide) ?_
        exact W.zret (v := 1) (ty := .boolean) hx hb hr rfl (fun t ht hW => ⟨⟨1, (), rfl, trivial, ⟨by rw [ht]; exact hP, hDa _⟩⟩, hS.F ht⟩) hS.2.2 dX6_isWithinLimit_66
set_option maxHeartbeats 4000000 in
set_option maxRecDepth 100000 in
theorem c_X6_takePoll (l : Launch) (dC : Nat → ClassId) (dI : Nat → Nat → Nat) (k : Nat → ClassId) (q : Nat → Nat) (z : ZS) (g : Int32) (d : Int32) (sz : Nat) (hI : XInv z) : Met l yX6_takePoll (wz yX6_takePoll cX6_takePoll 6 none) ({ frames := 1, cells := 0, slots := 0, locals := 23 }) (va_Pc [.ref (q 0), .int g, .int d] (zPre dC dI k (zTX k) (zX k q z) sz)) (va_Qv (fun (u : ZS) => (XInv u) ∧ (trX u = trX z)) (fun u t => zPost dC dI (va_A (zX k q z) sz) (zX k q u) t) (va_A (zX k q z) sz)) 0 0 (va_A (zX k q z) sz) := by
  refine Met.ofW (cc := cX6_takePoll) (maxL := 6) (ret := none) (by decide) rfl ?_
  intro p e s m args below meth c s₁ B hml hv
  obtain ⟨rfl, hsz, hP, hK, hD0⟩ := hv
  have hx := B.exec
  have hb := B.bytes
  have hr := B.returns
  have hts := atoms_spec (ws := wz yX6_takePoll cX6_takePoll 6 none) B.pre
  have htb : ∀ w ∈ zw, w.before _ s = true := fun w h => hts w (List.mem_cons_of_mem _ h)
  have hown : s.vm.findClass RX6 = some m.cls := findClass_of_methodNamed B.named
  have hlocks := B.notSynchronized
  clear hts
  subst hsz
  have hD := hD0.self (sz := s.heap.size)
  generalize hAe : va_A (zX k q z) s.heap.size = A at hD ⊢
  have hA : ∀ q : Nat, s.heap.size ≤ q → A q := fun q h => by rw [← hAe]; exact Or.inr h
  have hDa : ∀ z9 : ZS, va_D A (zX k q z9) := fun z9 => va_D_adr (w := zX k q z) rfl hD
  have hl := lv_entry ([.ref (q 0), .int g, .int d]) (n := 6) (Nat.le_of_ble_eq_true rfl)
  rw [lg_entry_eq]
  generalize (lg_sl ([.ref (q 0), .int g, .int d]) ++ List.replicate (6 - (lg_sl ([.ref (q 0), .int g, .int d])).length) Slot.unset).toArray = ls at hl ⊢
  have hl : lv_has ls 6 [(0, .ref (q 0)), (1, .int g), (2, .int d)] := hl
  refine z_start2 (A := A) (w := (zX k q z)) hP (fun H locs hP hS => ?_)
  clear hD0 hAe
  have hT : trX z = trX z := rfl
  have hA2 := hI.1.1
  have hA3 := hI.1.2.1
  have hA7 : ((xA z).1 1).toInt = (z.1 6).toInt := rfl
  refine lv_aload_n hx hb dX6_takePoll_0 rfl (lv_at hl 0 rfl) ?_
  refine va_get (D := (dC, dI)) (ci := 6) (v := .ref (q 12)) (C := RX6) (T := TX6) (N := 12) hx hb htb inw6 hown hK.1 hP 0 rfl rfl 4 (by decide) (htb _ wmt1_174) (fun _ h9 => h9) rfl dX6_takePoll_1 ?_
  refine zcS_v (w := (zX k q z)) (wc := (zP k (qof q 12) (xP z))) (va_runV (As := []) (rest := []) ⟨hx, hb, hml, hown, htb⟩ (c_X4_begin l dC dI k (qof q 12) (xP z) _ ) (cwV 0 htb (gzV wmt2_138 wmt2_139 wmt2_140 wmt1_3 wmt2_141) rfl rfl rfl (by decide +kernel) ⟨Nat.le_of_ble_eq_true rfl, Nat.le_of_ble_eq_true rfl⟩) (zp_V (ci := 4) (q0 := 12) hK hP (hDa _) [12] rfl (by decide) rfl rfl) rfl rfl hl.1 rfl (lv_room (Nat.le_of_ble_eq_true rfl)) dX6_takePoll_4 ⟨Nat.le_of_ble_eq_true rfl, Nat.le_of_ble_eq_true rfl⟩) hP (hDa _) hS hA [12] rfl (fun _ => rfl) (fun u_2 H locs w_3 hP _ hS => ?_)
  have hP : va_P (dC, dI) vwCl (zX k q (sI (sI (sI z 7 (u_2.1 0)) 8 (u_2.1 1)) 9 (u_2.1 2))) H := hP
  refine lv_aload_n hx hb dX6_takePoll_7 rfl (lv_at hl 0 rfl) ?_
  refine zcA_i (w := (zX k q (sI (sI (sI z 7 (u_2.1 0)) 8 (u_2.1 1)) 9 (u_2.1 2)))) (va_runV (As := []) (rest := []) ⟨hx, hb, hml, hown, htb⟩ (c_X6_dayOfView l dC dI k q (sI (sI (sI z 7 (u_2.1 0)) 8 (u_2.1 1)) 9 (u_2.1 2)) _ hI) (cwV 0 htb (gzV wmt2_118 wmt2_120 wmp1_8 wmt1_1 wmt2_121) rfl rfl rfl (by decide +kernel) ⟨Nat.le_of_ble_eq_true rfl, Nat.le_of_ble_eq_true rfl⟩) (zpA_V (ci := 6) (q0 := 0) hK hP (hDa _) rfl rfl) rfl rfl hl.1 rfl (lv_room (Nat.le_of_ble_eq_true rfl)) dX6_takePoll_8 ⟨Nat.le_of_ble_eq_true rfl, Nat.le_of_ble_eq_true rfl⟩) (hDa _) hS hA (fun r_4 u_5 H locs w_6 hP _ hS => ?_)
  refine lv_istore_n (lv' := [(3, .int r_4), (0, .ref (q 0)), (1, .int g), (2, .int d)]) hx hb dX6_takePoll_11 rfl hl (by decide) rfl (fun ls hl => ?_)
  refine lv_iconst (v := 0) hx hb dX6_takePoll_12 (by decide) ?_
  refine lv_istore (lv' := [(4, .int 0), (3, .int r_4), (0, .ref (q 0)), (1, .int g), (2, .int d)]) hx hb dX6_takePoll_13 hl (by decide) rfl (fun ls hl => ?_)
  obtain ⟨i, ei⟩ : ∃ x : Int32, 0 = x := ⟨_, rfl⟩
  obtain ⟨z1, ez1⟩ : ∃ x : ZS, (sI (sI (sI z 7 (u_2.1 0)) 8 (u_2.1 1)) 9 (u_2.1 2)) = x := ⟨_, rfl⟩
  have hv15 : (0 ≤ i.toInt ∧ i.toInt ≤ 120) ∧ (XInv z1) ∧ (trX z1 = trX z) := by subst ei ez1; exact ⟨(by decide), hI, hT⟩
  replace hl : lv_has ls 6 [(4, .int i), (3, .int r_4), (0, .ref (q 0)), (1, .int g), (2, .int d)] := by subst ei ez1; exact hl
  replace hP : va_P (dC, dI) vwCl (zX k q z1) H := by subst ez1; exact hP
  clear ei ez1
  obtain ⟨mm15, hm15⟩ : ∃ mm : Nat, mm = (120 - i.toInt).toNat := ⟨_, rfl⟩
  refine z_cut2 hP hS hl ?_
  clear hl hP
  intro H locs ls hP hS hl
  induction mm15 using Nat.strongRecOn generalizing i z1 H locs ls with
  | _ mm15 ih15 =>
    obtain ⟨hi, hI1, hT1⟩ := hv15
    have hI := hI1
    have hT := hT1
    have hA5 := hI.1.2.1
    refine lv_iload hx hb dX6_takePoll_15 (lv_at hl 0 rfl) ?_
    refine lv_aload_n hx hb dX6_takePoll_17 rfl (lv_at hl 2 rfl) ?_
    refine va_get (D := (dC, dI)) (ci := 6) (v := .ref (q 4)) (C := RX6) (T := TX6) (N := 12) hx hb htb inw6 hown hK.1 hP 0 rfl rfl 3 (by decide) (htb _ wmt1_173) (fun _ h9 => h9) rfl dX6_takePoll_18 ?_
    refine va_get (D := (dC, dI)) (ci := 0) (v := .int (z1.1 6)) (C := RX0) (T := TX0) (N := 9) hx hb htb inw0 hown hK.1 hP 4 rfl rfl 8 (by decide) (htb _ wmt1_47) (fun _ h9 => h9) rfl dX6_takePoll_21 ?_
    refine lv_topi (fun x_7 ex_7 => ?_)
    have hx_7 : x_7.toInt = (z1.1 6).toInt := by rw [ex_7]
    refine lv_icmp_ge (tgt := 102) hx hb dX6_takePoll_24 (by decide) (fun c_8 => ?_) (fun c_8 => ?_)
    · skip
      have hc_8 := zb_le rfl rfl c_8
      exact W.vret hx hb hr (fun t ht hW => ⟨⟨z1, rfl, ⟨hI, hT⟩, ⟨by rw [ht]; exact hP, hDa _⟩⟩, hS.F ht⟩) hS.2.2 dX6_takePoll_102
    · skip
      have hc_8 := zb_nle rfl rfl c_8
      refine lv_aload_n hx hb dX6_takePoll_27 rfl (lv_at hl 2 rfl) ?_
      refine va_get (D := (dC, dI)) (ci := 6) (v := .ref (q 4)) (C := RX6) (T := TX6) (N := 12) hx hb htb inw6 hown hK.1 hP 0 rfl rfl 3 (by decide) (htb _ wmt1_173) (fun _ h9 => h9) rfl dX6_takePoll_28 ?_
      refine va_get (D := (dC, dI)) (ci := 0) (v := .ref (q 5)) (C := RX0) (T := TX0) (N := 9) hx hb htb inw0 hown hK.1 hP 4 rfl rfl 0 (by decide) (htb _ wmt1_31) (fun _ h9 => h9) rfl dX6_takePoll_31 ?_
      refine lv_iload hx hb dX6_takePoll_34 (lv_at hl 0 rfl) ?_
      refine va_iald (D := (dC, dI)) hx hb hK.1 hP 5 0 rfl rfl (z_in (by omega)) dX6_takePoll_36 ?_
      refine lv_topi (fun x_9 ex_9 => ?_)
      have hpe : 0 ≤ x_9.toInt ∧ x_9.toInt < 24 := by have q := hI.1.2.2 i.toNatClampNeg (by rw [z_clamp hi.1]; omega); rw [ex_9]; omega
      refine lv_istore (lv' := [(5, .int x_9), (4, .int i), (3, .int r_4), (0, .ref (q 0)), (1, .int g), (2, .int d)]) hx hb dX6_takePoll_37 hl (by decide) rfl (fun ls hl => ?_)
      refine lv_aload_n hx hb dX6_takePoll_39 rfl (lv_at hl 3 rfl) ?_
      refine va_get (D := (dC, dI)) (ci := 6) (v := .ref (q 4)) (C := RX6) (T := TX6) (N := 12) hx hb htb inw6 hown hK.1 hP 0 rfl rfl 3 (by decide) (htb _ wmt1_173) (fun _ h9 => h9) rfl dX6_takePoll_40 ?_
      refine va_get (D := (dC, dI)) (ci := 0) (v := .ref (q 6)) (C := RX0) (T := TX0) (N := 9) hx hb htb inw0 hown hK.1 hP 4 rfl rfl 1 (by decide) (htb _ wmt1_33) (fun _ h9 => h9) rfl dX6_takePoll_43 ?_
      refine lv_iload hx hb dX6_takePoll_46 (lv_at hl 1 rfl) ?_
      refine va_iald (D := (dC, dI)) hx hb hK.1 hP 6 0 rfl rfl (z_in (by omega)) dX6_takePoll_48 ?_
      refine lv_topi (fun x_10 ex_10 => ?_)
      refine lv_iload_n hx hb dX6_takePoll_49 rfl (lv_at hl 5 rfl) ?_
      refine lv_icmp_ne (tgt := 96) hx hb dX6_takePoll_50 (by decide) (fun c_11 => ?_) (fun c_11 => ?_)
      · skip
        have hc_11 := zb_ne rfl rfl c_11
        obtain ⟨x_12, ex_12⟩ : ∃ y : Int32, y = i + 1 := ⟨_, rfl⟩
        have hx_12 : x_12.toInt = i.toInt + 1 := z_add ex_12 rfl (show (1 : Int32).toInt = 1 by decide) (by omega)
        refine lv_iinc (v := x_12) (lv' := [(4, .int x_12), (5, .int x_9), (3, .int r_4), (0, .ref (q 0)), (1, .int g), (2, .int d)]) hx hb dX6_takePoll_96 hl (k := 1) rfl (by rw [ex_12]; rfl) (by decide) rfl (fun ls hl => ?_)
        refine lv_goto (tgt := 15) hx hb dX6_takePoll_99 (by decide) ?_
        exact ih15 ((120 - x_12.toInt).toNat) (by omega) x_12 z1 ⟨(show 0 ≤ x_12.toInt ∧ x_12.toInt ≤ 120 by omega), hI, hT⟩ rfl H locs ls hP hS (lv_sub hl [0, 2, 3, 4, 5] rfl)
      · skip
        have hc_11 := zb_eq rfl rfl c_11
        refine lv_aload_n hx hb dX6_takePoll_53 rfl (lv_at hl 3 rfl) ?_
        refine va_get (D := (dC, dI)) (ci := 6) (v := .ref (q 3)) (C := RX6) (T := TX6) (N := 12) hx hb htb inw6 hown hK.1 hP 0 rfl rfl 2 (by decide) (htb _ wmt1_172) (fun _ h9 => h9) rfl dX6_takePoll_54 ?_
        refine lv_iload hx hb dX6_takePoll_57 (lv_at hl 0 rfl) ?_
        refine va_iald (D := (dC, dI)) hx hb hK.1 hP 3 0 rfl rfl (z_in (by omega)) dX6_takePoll_59 ?_
        refine lv_topi (fun x_13 ex_13 => ?_)
        refine lv_iload_n hx hb dX6_takePoll_60 rfl (lv_at hl 4 rfl) ?_
        refine lv_icmp_ne (tgt := 96) hx hb dX6_takePoll_61 (by decide) (fun c_14 => ?_) (fun c_14 => ?_)
        · skip
          have hc_14 := zb_ne rfl rfl c_14
          obtain ⟨x_15, ex_15⟩ : ∃ y : Int32, y = i + 1 := ⟨_, rfl⟩
          have hx_15 : x_15.toInt = i.toInt + 1 := z_add ex_15 rfl (show (1 : Int32).toInt = 1 by decide) (by omega)
          refine lv_iinc (v := x_15) (lv' := [(4, .int x_15), (5, .int x_9), (3, .int r_4), (0, .ref (q 0)), (1, .int g), (2, .int d)]) hx hb dX6_takePoll_96 hl (k := 1) rfl (by rw [ex_15]; rfl) (by decide) rfl (fun ls hl => ?_)
          refine lv_goto (tgt := 15) hx hb dX6_takePoll_99 (by decide) ?_
          exact ih15 ((120 - x_15.toInt).toNat) (by omega) x_15 z1 ⟨(show 0 ≤ x_15.toInt ∧ x_15.toInt ≤ 120 by omega), hI, hT⟩ rfl H locs ls hP hS (lv_sub hl [0, 2, 3, 4, 5] rfl)
        · skip
          have hc_14 := zb_eq rfl rfl c_14
          refine lv_aload_n hx hb dX6_takePoll_64 rfl (lv_at hl 3 rfl) ?_
          refine va_get (D := (dC, dI)) (ci := 6) (v := .ref (q 4)) (C := RX6) (T := TX6) (N := 12) hx hb htb inw6 hown hK.1 hP 0 rfl rfl 3 (by decide) (htb _ wmt1_173) (fun _ h9 => h9) rfl dX6_takePoll_65 ?_
          refine lv_iload hx hb dX6_takePoll_68 (lv_at hl 1 rfl) ?_
          refine lv_iload_n hx hb dX6_takePoll_70 rfl (lv_at hl 2 rfl) ?_
          refine zcS_i (w := (zX k q z1)) (wc := (zA k (qof q 4) (xA z1))) (va_runV (As := [.int i, .int r_4]) (rest := []) ⟨hx, hb, hml, hown, htb⟩ (c_X0_isKnown l dC dI k (qof q 4) (xA z1) i r_4 _ (by omega)) (cwV 2 htb (gzV wmt2_122 wmt2_123 wmt2_124 wmt1_2 wmt2_125) rfl rfl rfl (by decide +kernel) ⟨Nat.le_of_ble_eq_true rfl, Nat.le_of_ble_eq_true rfl⟩) (zp_V (ci := 0) (q0 := 4) hK hP (hDa _) [4, 5, 6, 7, 8, 9, 10, 11] rfl (by decide) rfl rfl) rfl rfl hl.1 rfl (lv_room (Nat.le_of_ble_eq_true rfl)) dX6_takePoll_71 ⟨Nat.le_of_ble_eq_true rfl, Nat.le_of_ble_eq_true rfl⟩) hP (hDa _) hS hA [4, 5, 6, 7, 8, 9, 10, 11] rfl (fun _ => rfl) (fun r_16 u_17 H locs w_18 hP _ hS => ?_)
          have hP : va_P (dC, dI) vwCl (zX k q z1) H := hP
          refine lv_if_eq (tgt := 96) hx hb dX6_takePoll_74 (by decide) (fun c_19 => ?_) (fun c_19 => ?_)
          · skip
            have hc_19 := zb_eq rfl (show (0 : Int32).toInt = 0 by decide) c_19
            obtain ⟨x_20, ex_20⟩ : ∃ y : Int32, y = i + 1 := ⟨_, rfl⟩
            have hx_20 : x_20.toInt = i.toInt + 1 := z_add ex_20 rfl (show (1 : Int32).toInt = 1 by decide) (by omega)
            refine lv_iinc (v := x_20) (lv' := [(4, .int x_20), (5, .int x_9), (3, .int r_4), (0, .ref (q 0)), (1, .int g), (2, .int d)]) hx hb dX6_takePoll_96 hl (k := 1) rfl (by rw [ex_20]; rfl) (by decide) rfl (fun ls hl => ?_)
            refine lv_goto (tgt := 15) hx hb dX6_takePoll_99 (by decide) ?_
            exact ih15 ((120 - x_20.toInt).toNat) (by omega) x_20 z1 ⟨(show 0 ≤ x_20.toInt ∧ x_20.toInt ≤ 120 by omega), hI, hT⟩ rfl H locs ls hP hS (lv_sub hl [0, 2, 3, 4, 5] rfl)
          · skip
            have hc_19 := zb_ne rfl (show (0 : Int32).toInt = 0 by decide) c_19
            refine lv_aload_n hx hb dX6_takePoll_77 rfl (lv_at hl 3 rfl) ?_
            refine va_get (D := (dC, dI)) (ci := 6) (v := .ref (q 12)) (C := RX6) (T := TX6) (N := 12) hx hb htb inw6 hown hK.1 hP 0 rfl rfl 4 (by decide) (htb _ wmt1_174) (fun _ h9 => h9) rfl dX6_takePoll_78 ?_
            refine lv_iload hx hb dX6_takePoll_81 (lv_at hl 0 rfl) ?_
            refine lv_aload_n hx hb dX6_takePoll_83 rfl (lv_at hl 3 rfl) ?_
            refine va_get (D := (dC, dI)) (ci := 6) (v := .ref (q 4)) (C := RX6) (T := TX6) (N := 12) hx hb htb inw6 hown hK.1 hP 0 rfl rfl 3 (by decide) (htb _ wmt1_173) (fun _ h9 => h9) rfl dX6_takePoll_84 ?_
            refine va_get (D := (dC, dI)) (ci := 0) (v := .ref (q 7)) (C := RX0) (T := TX0) (N := 9) hx hb htb inw0 hown hK.1 hP 4 rfl rfl 2 (by decide) (htb _ wmt1_35) (fun _ h9 => h9) rfl dX6_takePoll_87 ?_
            refine lv_iload hx hb dX6_takePoll_90 (lv_at hl 1 rfl) ?_
            refine va_iald (D := (dC, dI)) hx hb hK.1 hP 7 0 rfl rfl (z_in (by omega)) dX6_takePoll_92 ?_
            refine lv_topi (fun x_21 ex_21 => ?_)
            refine zcS_v (w := (zX k q z1)) (wc := (zP k (qof q 12) (xP z1))) (va_runV (As := [.int x_9, .int x_21]) (rest := []) ⟨hx, hb, hml, hown, htb⟩ (c_X4_hear l dC dI k (qof q 12) (xP z1) x_9 x_21 _ ) (cwV 2 htb (gzV wmt2_142 wmt2_143 wmt2_144 wmt1_3 wmt2_145) rfl rfl rfl (by decide +kernel) ⟨Nat.le_of_ble_eq_true rfl, Nat.le_of_ble_eq_true rfl⟩) (zp_V (ci := 4) (q0 := 12) hK hP (hDa _) [12] rfl (by decide) rfl rfl) rfl rfl hl.1 rfl (lv_room (Nat.le_of_ble_eq_true rfl)) dX6_takePoll_93 ⟨Nat.le_of_ble_eq_true rfl, Nat.le_of_ble_eq_true rfl⟩) hP (hDa _) hS hA [12] rfl (fun _ => rfl) (fun u_23 H locs w_24 hP _ hS => ?_)
            have hP : va_P (dC, dI) vwCl (zX k q (sI (sI (sI z1 7 (u_23.1 0)) 8 (u_23.1 1)) 9 (u_23.1 2))) H := hP
            obtain ⟨x_25, ex_25⟩ : ∃ y : Int32, y = i + 1 := ⟨_, rfl⟩
            have hx_25 : x_25.toInt = i.toInt + 1 := z_add ex_25 rfl (show (1 : Int32).toInt = 1 by decide) (by omega)
            refine lv_iinc (v := x_25) (lv' := [(4, .int x_25), (5, .int x_9), (3, .int r_4), (0, .ref (q 0)), (1, .int g), (2, .int d)]) hx hb dX6_takePoll_96 hl (k := 1) rfl (by rw [ex_25]; rfl) (by decide) rfl (fun ls hl => ?_)
            refine lv_goto (tgt := 15) hx hb dX6_takePoll_99 (by decide) ?_
            exact ih15 ((120 - x_25.toInt).toNat) (by omega) x_25 (sI (sI (sI z1 7 (u_23.1 0)) 8 (u_23.1 1)) 9 (u_23.1 2)) ⟨(show 0 ≤ x_25.toInt ∧ x_25.toInt ≤ 120 by omega), hI, hT⟩ rfl H locs ls hP hS (lv_sub hl [0, 2, 3, 4, 5] rfl)
set_option maxHeartbeats 4000000 in
set_option maxRecDepth 100000 in
theorem c_X6_poll (l : Launch) (dC : Nat → ClassId) (dI : Nat → Nat → Nat) (k : Nat → ClassId) (q : Nat → Nat) (z : ZS) (g : Int32) (d : Int32) (w : Int32) (sz : Nat) (hI : XInv z) : Met l yX6_poll (wz yX6_poll cX6_poll 4 (some .int)) ({ frames := 2, cells := 0, slots := 0, locals := 48 }) (va_Pc [.ref (q 0), .int g, .int d, .int w] (zPre dC dI k (zTX k) (zX k q z) sz)) (va_Qi (fun (r : Int32) (u : ZS) => (XInv u) ∧ (trX u = trX z)) (fun u t => zPost dC dI (va_A (zX k q z) sz) (zX k q u) t) (va_A (zX k q z) sz)) 0 0 (va_A (zX k q z) sz) := by
  refine Met.ofW (cc := cX6_poll) (maxL := 4) (ret := (some .int)) (by decide) rfl ?_
  intro p e s m args below meth c s₁ B hml hv
  obtain ⟨rfl, hsz, hP, hK, hD0⟩ := hv
  have hx := B.exec
  have hb := B.bytes
  have hr := B.returns
  have hts := atoms_spec (ws := wz yX6_poll cX6_poll 4 (some .int)) B.pre
  have htb : ∀ w ∈ zw, w.before _ s = true := fun w h => hts w (List.mem_cons_of_mem _ h)
  have hown : s.vm.findClass RX6 = some m.cls := findClass_of_methodNamed B.named
  have hlocks := B.notSynchronized
  clear hts
  subst hsz
  have hD := hD0.self (sz := s.heap.size)
  generalize hAe : va_A (zX k q z) s.heap.size = A at hD ⊢
  have hA : ∀ q : Nat, s.heap.size ≤ q → A q := fun q h => by rw [← hAe]; exact Or.inr h
  have hDa : ∀ z9 : ZS, va_D A (zX k q z9) := fun z9 => va_D_adr (w := zX k q z) rfl hD
  have hl := lv_entry ([.ref (q 0), .int g, .int d, .int w]) (n := 4) (Nat.le_of_ble_eq_true rfl)
  rw [lg_entry_eq]
  generalize (lg_sl ([.ref (q 0), .int g, .int d, .int w]) ++ List.replicate (4 - (lg_sl ([.ref (q 0), .int g, .int d, .int w])).length) Slot.unset).toArray = ls at hl ⊢
  have hl : lv_has ls 4 [(0, .ref (q 0)), (1, .int g), (2, .int d), (3, .int w)] := hl
  refine z_start2 (A := A) (w := (zX k q z)) hP (fun H locs hP hS => ?_)
  clear hD0 hAe
  have hT : trX z = trX z := rfl
  refine lv_iload_n hx hb dX6_poll_0 rfl (lv_at hl 1 rfl) ?_
  refine zc0_i (w := (zX k q z)) (va_runS (As := [.int g]) (rest := []) ⟨hx, hb, hml, hown, htb⟩ (c_X6_isGroup l dC dI k g _ ) (va_cwS 1 htb (gzS wmt2_80 wmt2_81 wmt1_1 wmt2_82) rfl rfl rfl (by decide +kernel) ⟨Nat.le_of_ble_eq_true rfl, Nat.le_of_ble_eq_true rfl⟩) (zp0_S hK) rfl rfl hl.1 rfl (lv_room (Nat.le_of_ble_eq_true rfl)) dX6_poll_1 ⟨Nat.le_of_ble_eq_true rfl, Nat.le_of_ble_eq_true rfl⟩) hP hS hA (fun r_1 u_2 H locs w_3 hP hS => ?_)
  rcases w_3 with ⟨e_5, h_4⟩ | ⟨e_7, h_6⟩
  · skip
    replace e_5 : r_1 = 1 := e_5
    subst e_5
    replace h_4 : 0 ≤ g.toInt ∧ g.toInt < 4 := h_4
    refine lv_if_eq (tgt := 21) hx hb dX6_poll_4 (by decide) (fun c_8 => ?_) (fun c_8 => ?_)
    · skip
      exact absurd c_8 (by decide)
    · skip
      refine lv_iload_n hx hb dX6_poll_7 rfl (lv_at hl 2 rfl) ?_
      refine zc0_i (w := (zX k q z)) (va_runS (As := [.int d]) (rest := []) ⟨hx, hb, hml, hown, htb⟩ (c_X6_isDesign l dC dI k d _ ) (va_cwS 1 htb (gzS wmt1_211 wmt1_212 wmt1_1 wmt1_213) rfl rfl rfl (by decide +kernel) ⟨Nat.le_of_ble_eq_true rfl, Nat.le_of_ble_eq_true rfl⟩) (zp0_S hK) rfl rfl hl.1 rfl (lv_room (Nat.le_of_ble_eq_true rfl)) dX6_poll_8 ⟨Nat.le_of_ble_eq_true rfl, Nat.le_of_ble_eq_true rfl⟩) hP hS hA (fun r_9 u_10 H locs w_11 hP hS => ?_)
      rcases w_11 with ⟨e_13, h_12⟩ | ⟨e_15, h_14⟩
      · skip
        replace e_13 : r_9 = 1 := e_13
        subst e_13
        replace h_12 : 0 ≤ d.toInt ∧ d.toInt < 4 := h_12
        refine lv_if_eq (tgt := 21) hx hb dX6_poll_11 (by decide) (fun c_16 => ?_) (fun c_16 => ?_)
        · skip
          exact absurd c_16 (by decide)
        · skip
          refine lv_iload_n hx hb dX6_poll_14 rfl (lv_at hl 3 rfl) ?_
          refine zc0_i (w := (zX k q z)) (va_runS (As := [.int w]) (rest := []) ⟨hx, hb, hml, hown, htb⟩ (c_X6_isEither l dC dI k w _ ) (va_cwS 1 htb (gzS wmt2_48 wmt2_49 wmt1_1 wmt2_50) rfl rfl rfl (by decide +kernel) ⟨Nat.le_of_ble_eq_true rfl, Nat.le_of_ble_eq_true rfl⟩) (zp0_S hK) rfl rfl hl.1 rfl (lv_room (Nat.le_of_ble_eq_true rfl)) dX6_poll_15 ⟨Nat.le_of_ble_eq_true rfl, Nat.le_of_ble_eq_true rfl⟩) hP hS hA (fun r_17 u_18 H locs w_19 hP hS => ?_)
          rcases w_19 with ⟨e_21, h_20⟩ | ⟨e_23, h_22⟩
          · skip
            replace e_21 : r_17 = 1 := e_21
            subst e_21
            replace h_20 : 0 ≤ w.toInt ∧ w.toInt < 2 := h_20
            refine lv_if_ne (tgt := 24) hx hb dX6_poll_18 (by decide) (fun c_24 => ?_) (fun c_24 => ?_)
            · skip
              refine lv_aload_n hx hb dX6_poll_24 rfl (lv_at hl 0 rfl) ?_
              refine lv_iload_n hx hb dX6_poll_25 rfl (lv_at hl 1 rfl) ?_
              refine lv_iload_n hx hb dX6_poll_26 rfl (lv_at hl 2 rfl) ?_
              refine zcA_v (w := (zX k q z)) (va_runV (As := [.int g, .int d]) (rest := []) ⟨hx, hb, hml, hown, htb⟩ (c_X6_takePoll l dC dI k q z g d _ hI) (cwV 2 htb (gzV wmt2_134 wmt2_136 wmp1_9 wmt1_1 wmt2_137) rfl rfl rfl (by decide +kernel) ⟨Nat.le_of_ble_eq_true rfl, Nat.le_of_ble_eq_true rfl⟩) (zpA_V (ci := 6) (q0 := 0) hK hP (hDa _) rfl rfl) rfl rfl hl.1 rfl (lv_room (Nat.le_of_ble_eq_true rfl)) dX6_poll_27 ⟨Nat.le_of_ble_eq_true rfl, Nat.le_of_ble_eq_true rfl⟩) (hDa _) hS hA (fun u_26 H locs w_27 hP _ hS => ?_)
              obtain ⟨h_28, h_29⟩ := w_27
              replace h_28 : XInv u_26 := h_28
              replace h_29 : trX u_26 = trX z := h_29
              have hI := h_28
              have hT := h_29.trans hT
              refine lv_iload_n hx hb dX6_poll_30 rfl (lv_at hl 3 rfl) ?_
              refine lv_if_ne (tgt := 44) hx hb dX6_poll_31 (by decide) (fun c_31 => ?_) (fun c_31 => ?_)
              · skip
                have hc_31 := zb_ne rfl (show (0 : Int32).toInt = 0 by decide) c_31
                refine lv_aload_n hx hb dX6_poll_44 rfl (lv_at hl 0 rfl) ?_
                refine va_get (D := (dC, dI)) (ci := 6) (v := .ref (q 12)) (C := RX6) (T := TX6) (N := 12) hx hb htb inw6 hown hK.1 hP 0 rfl rfl 4 (by decide) (htb _ wmt1_174) (fun _ h9 => h9) rfl dX6_poll_45 ?_
                refine va_get (D := (dC, dI)) (ci := 4) (v := .int (u_26.1 9)) (C := RX4) (T := TX4) (N := 3) hx hb htb inw4 hown hK.1 hP 12 rfl rfl 2 (by decide) (htb _ wmt1_78) (fun _ h9 => h9) rfl dX6_poll_48 ?_
                refine lv_topi (fun x_32 ex_32 => ?_)
                have hx_32 : x_32.toInt = (u_26.1 9).toInt := by rw [ex_32]
                exact W.iret (v := x_32) hx hb hr (fun t ht hW => ⟨⟨x_32, u_26, rfl, ⟨hI, hT⟩, ⟨by rw [ht]; exact hP, hDa _⟩⟩, hS.F ht⟩) hS.2.2 dX6_poll_51
              · skip
                have hc_31 := zb_eq rfl (show (0 : Int32).toInt = 0 by decide) c_31
                refine lv_aload_n hx hb dX6_poll_34 rfl (lv_at hl 0 rfl) ?_
                refine va_get (D := (dC, dI)) (ci := 6) (v := .ref (q 12)) (C := RX6) (T := TX6) (N := 12) hx hb htb inw6 hown hK.1 hP 0 rfl rfl 4 (by decide) (htb _ wmt1_174) (fun _ h9 => h9) rfl dX6_poll_35 ?_
                refine va_get (D := (dC, dI)) (ci := 4) (v := .int (u_26.1 8)) (C := RX4) (T := TX4) (N := 3) hx hb htb inw4 hown hK.1 hP 12 rfl rfl 1 (by decide) (htb _ wmt1_76) (fun _ h9 => h9) rfl dX6_poll_38 ?_
                refine lv_topi (fun x_33 ex_33 => ?_)
                have hx_33 : x_33.toInt = (u_26.1 8).toInt := by rw [ex_33]
                refine lv_goto (tgt := 51) hx hb dX6_poll_41 (by decide) ?_
                exact W.iret (v := x_33) hx hb hr (fun t ht hW => ⟨⟨x_33, u_26, rfl, ⟨hI, hT⟩, ⟨by rw [ht]; exact hP, hDa _⟩⟩, hS.F ht⟩) hS.2.2 dX6_poll_51
            · skip
              exact absurd c_24 (by decide)
          · skip
            replace e_23 : r_17 = 0 := e_23
            subst e_23
            replace h_22 : ¬ (0 ≤ w.toInt ∧ w.toInt < 2) := h_22
            refine lv_if_ne (tgt := 24) hx hb dX6_poll_18 (by decide) (fun c_34 => ?_) (fun c_34 => ?_)
            · skip
              exact absurd c_34 (by decide)
            · skip
              refine lv_bipush (v := (-2)) hx hb dX6_poll_21 (by decide) ?_
              exact W.iret (v := (-2)) hx hb hr (fun t ht hW => ⟨⟨(-2), z, rfl, ⟨hI, hT⟩, ⟨by rw [ht]; exact hP, hDa _⟩⟩, hS.F ht⟩) hS.2.2 dX6_poll_23
      · skip
        replace e_15 : r_9 = 0 := e_15
        subst e_15
        replace h_14 : ¬ (0 ≤ d.toInt ∧ d.toInt < 4) := h_14
        refine lv_if_eq (tgt := 21) hx hb dX6_poll_11 (by decide) (fun c_35 => ?_) (fun c_35 => ?_)
        · skip
          refine lv_bipush (v := (-2)) hx hb dX6_poll_21 (by decide) ?_
          exact W.iret (v := (-2)) hx hb hr (fun t ht hW => ⟨⟨(-2), z, rfl, ⟨hI, hT⟩, ⟨by rw [ht]; exact hP, hDa _⟩⟩, hS.F ht⟩) hS.2.2 dX6_poll_23
        · skip
          exact absurd (by decide) c_35
  · skip
    replace e_7 : r_1 = 0 := e_7
    subst e_7
    replace h_6 : ¬ (0 ≤ g.toInt ∧ g.toInt < 4) := h_6
    refine lv_if_eq (tgt := 21) hx hb dX6_poll_4 (by decide) (fun c_36 => ?_) (fun c_36 => ?_)
    · skip
      refine lv_bipush (v := (-2)) hx hb dX6_poll_21 (by decide) ?_
      exact W.iret (v := (-2)) hx hb hr (fun t ht hW => ⟨⟨(-2), z, rfl, ⟨hI, hT⟩, ⟨by rw [ht]; exact hP, hDa _⟩⟩, hS.F ht⟩) hS.2.2 dX6_poll_23
    · skip
      exact absurd (by decide) c_36
set_option maxHeartbeats 4000000 in
set_option maxRecDepth 100000 in
theorem c_X6_estimateRefusal (l : Launch) (dC : Nat → ClassId) (dI : Nat → Nat → Nat) (k : Nat → ClassId) (q : Nat → Nat) (z : ZS) (g : Int32) (d : Int32) (w : Int32) (n : Int32) (sz : Nat) (hI : XInv z) : Met l yX6_estimateRefusal (wz yX6_estimateRefusal cX6_estimateRefusal 6 (some .int)) ({ frames := 2, cells := 0, slots := 0, locals := 48 }) (va_Pc [.ref (q 0), .int g, .int d, .int w, .int n] (zPre dC dI k (zTX k) (zX k q z) sz)) (va_Qi (fun (r : Int32) (u : ZS) => (XInv u) ∧ (trX u = trX z) ∧ (r.toInt = 0 → 0 ≤ d.toInt ∧ d.toInt < 4)) (fun u t => zPost dC dI (va_A (zX k q z) sz) (zX k q u) t) (va_A (zX k q z) sz)) 0 0 (va_A (zX k q z) sz) := by
  refine Met.ofW (cc := cX6_estimateRefusal) (maxL := 6) (ret := (some .int)) (by decide) rfl ?_
  intro p e s m args below meth c s₁ B hml hv
  obtain ⟨rfl, hsz, hP, hK, hD0⟩ := hv
  have hx := B.exec
  have hb := B.bytes
  have hr := B.returns
  have hts := atoms_spec (ws := wz yX6_estimateRefusal cX6_estimateRefusal 6 (some .int)) B.pre
  have htb : ∀ w ∈ zw, w.before _ s = true := fun w h => hts w (List.mem_cons_of_mem _ h)
  have hown : s.vm.findClass RX6 = some m.cls := findClass_of_methodNamed B.named
  have hlocks := B.notSynchronized
  clear hts
  subst hsz
  have hD := hD0.self (sz := s.heap.size)
  generalize hAe : va_A (zX k q z) s.heap.size = A at hD ⊢
  have hA : ∀ q : Nat, s.heap.size ≤ q → A q := fun q h => by rw [← hAe]; exact Or.inr h
  have hDa : ∀ z9 : ZS, va_D A (zX k q z9) := fun z9 => va_D_adr (w := zX k q z) rfl hD
  have hl := lv_entry ([.ref (q 0), .int g, .int d, .int w, .int n]) (n := 6) (Nat.le_of_ble_eq_true rfl)
  rw [lg_entry_eq]
  generalize (lg_sl ([.ref (q 0), .int g, .int d, .int w, .int n]) ++ List.replicate (6 - (lg_sl ([.ref (q 0), .int g, .int d, .int w, .int n])).length) Slot.unset).toArray = ls at hl ⊢
  have hl : lv_has ls 6 [(0, .ref (q 0)), (1, .int g), (2, .int d), (3, .int w), (4, .int n)] := hl
  refine z_start2 (A := A) (w := (zX k q z)) hP (fun H locs hP hS => ?_)
  clear hD0 hAe
  have hT : trX z = trX z := rfl
  refine lv_iload_n hx hb dX6_estimateRefusal_0 rfl (lv_at hl 1 rfl) ?_
  refine zc0_i (w := (zX k q z)) (va_runS (As := [.int g]) (rest := []) ⟨hx, hb, hml, hown, htb⟩ (c_X6_isGroup l dC dI k g _ ) (va_cwS 1 htb (gzS wmt2_80 wmt2_81 wmt1_1 wmt2_82) rfl rfl rfl (by decide +kernel) ⟨Nat.le_of_ble_eq_true rfl, Nat.le_of_ble_eq_true rfl⟩) (zp0_S hK) rfl rfl hl.1 rfl (lv_room (Nat.le_of_ble_eq_true rfl)) dX6_estimateRefusal_1 ⟨Nat.le_of_ble_eq_true rfl, Nat.le_of_ble_eq_true rfl⟩) hP hS hA (fun r_1 u_2 H locs w_3 hP hS => ?_)
  rcases w_3 with ⟨e_5, h_4⟩ | ⟨e_7, h_6⟩
  · skip
    replace e_5 : r_1 = 1 := e_5
    subst e_5
    replace h_4 : 0 ≤ g.toInt ∧ g.toInt < 4 := h_4
    refine lv_if_eq (tgt := 21) hx hb dX6_estimateRefusal_4 (by decide) (fun c_8 => ?_) (fun c_8 => ?_)
    · skip
      exact absurd c_8 (by decide)
    · skip
      refine lv_iload_n hx hb dX6_estimateRefusal_7 rfl (lv_at hl 2 rfl) ?_
      refine zc0_i (w := (zX k q z)) (va_runS (As := [.int d]) (rest := []) ⟨hx, hb, hml, hown, htb⟩ (c_X6_isDesign l dC dI k d _ ) (va_cwS 1 htb (gzS wmt1_211 wmt1_212 wmt1_1 wmt1_213) rfl rfl rfl (by decide +kernel) ⟨Nat.le_of_ble_eq_true rfl, Nat.le_of_ble_eq_true rfl⟩) (zp0_S hK) rfl rfl hl.1 rfl (lv_room (Nat.le_of_ble_eq_true rfl)) dX6_estimateRefusal_8 ⟨Nat.le_of_ble_eq_true rfl, Nat.le_of_ble_eq_true rfl⟩) hP hS hA (fun r_9 u_10 H locs w_11 hP hS => ?_)
      rcases w_11 with ⟨e_13, h_12⟩ | ⟨e_15, h_14⟩
      · skip
        replace e_13 : r_9 = 1 := e_13
        subst e_13
        replace h_12 : 0 ≤ d.toInt ∧ d.toInt < 4 := h_12
        refine lv_if_eq (tgt := 21) hx hb dX6_estimateRefusal_11 (by decide) (fun c_16 => ?_) (fun c_16 => ?_)
        · skip
          exact absurd c_16 (by decide)
        · skip
          refine lv_iload_n hx hb dX6_estimateRefusal_14 rfl (lv_at hl 3 rfl) ?_
          refine zc0_i (w := (zX k q z)) (va_runS (As := [.int w]) (rest := []) ⟨hx, hb, hml, hown, htb⟩ (c_X6_isEither l dC dI k w _ ) (va_cwS 1 htb (gzS wmt2_48 wmt2_49 wmt1_1 wmt2_50) rfl rfl rfl (by decide +kernel) ⟨Nat.le_of_ble_eq_true rfl, Nat.le_of_ble_eq_true rfl⟩) (zp0_S hK) rfl rfl hl.1 rfl (lv_room (Nat.le_of_ble_eq_true rfl)) dX6_estimateRefusal_15 ⟨Nat.le_of_ble_eq_true rfl, Nat.le_of_ble_eq_true rfl⟩) hP hS hA (fun r_17 u_18 H locs w_19 hP hS => ?_)
          rcases w_19 with ⟨e_21, h_20⟩ | ⟨e_23, h_22⟩
          · skip
            replace e_21 : r_17 = 1 := e_21
            subst e_21
            replace h_20 : 0 ≤ w.toInt ∧ w.toInt < 2 := h_20
            refine lv_if_ne (tgt := 24) hx hb dX6_estimateRefusal_18 (by decide) (fun c_24 => ?_) (fun c_24 => ?_)
            · skip
              refine lv_aload_n hx hb dX6_estimateRefusal_24 rfl (lv_at hl 0 rfl) ?_
              refine lv_iload_n hx hb dX6_estimateRefusal_25 rfl (lv_at hl 1 rfl) ?_
              refine lv_iload_n hx hb dX6_estimateRefusal_26 rfl (lv_at hl 2 rfl) ?_
              refine zcA_v (w := (zX k q z)) (va_runV (As := [.int g, .int d]) (rest := []) ⟨hx, hb, hml, hown, htb⟩ (c_X6_takePoll l dC dI k q z g d _ hI) (cwV 2 htb (gzV wmt2_134 wmt2_136 wmp1_9 wmt1_1 wmt2_137) rfl rfl rfl (by decide +kernel) ⟨Nat.le_of_ble_eq_true rfl, Nat.le_of_ble_eq_true rfl⟩) (zpA_V (ci := 6) (q0 := 0) hK hP (hDa _) rfl rfl) rfl rfl hl.1 rfl (lv_room (Nat.le_of_ble_eq_true rfl)) dX6_estimateRefusal_27 ⟨Nat.le_of_ble_eq_true rfl, Nat.le_of_ble_eq_true rfl⟩) (hDa _) hS hA (fun u_26 H locs w_27 hP _ hS => ?_)
              obtain ⟨h_28, h_29⟩ := w_27
              replace h_28 : XInv u_26 := h_28
              replace h_29 : trX u_26 = trX z := h_29
              have hI := h_28
              have hT := h_29.trans hT
              refine lv_aload_n hx hb dX6_estimateRefusal_30 rfl (lv_at hl 0 rfl) ?_
              refine va_get (D := (dC, dI)) (ci := 6) (v := .ref (q 1)) (C := RX6) (T := TX6) (N := 12) hx hb htb inw6 hown hK.1 hP 0 rfl rfl 0 (by decide) (htb _ wmt1_170) (fun _ h9 => h9) rfl dX6_estimateRefusal_31 ?_
              refine lv_iload_n hx hb dX6_estimateRefusal_34 rfl (lv_at hl 2 rfl) ?_
              refine va_aldq (D := (dC, dI)) hx hb hK.1 hP 1 3 rfl rfl (z_in (by omega)) dX6_estimateRefusal_35 ?_
              obtain ⟨d_31, ed_31⟩ : ∃ x : Nat, x = d.toNatClampNeg := ⟨_, rfl⟩
              have hd_31 : d_31 < 4 := by rw [ed_31]; exact z_cl4 (by omega)
              refine z_top (v2 := .ref (qD q d_31 0)) (zgD_at2 ed_31 hd_31) ?_
              refine lv_astore (lv' := [(5, .ref (qD q d_31 0)), (0, .ref (q 0)), (1, .int g), (2, .int d), (3, .int w), (4, .int n)]) hx hb dX6_estimateRefusal_36 hl (by decide) rfl (fun ls hl => ?_)
              refine lv_aload hx hb dX6_estimateRefusal_38 (lv_at hl 0 rfl) ?_
              refine zcS_i (w := (zX k q u_26)) (wc := (zD k (qD q d_31) (xD u_26 d_31))) (va_runV (As := []) (rest := []) ⟨hx, hb, hml, hown, htb⟩ (c_X1_isFaulty l dC dI k (qD q d_31) (xD u_26 d_31) _ ) (cwV 0 htb (gzV wmt2_55 wmt2_20 wmt2_21 wmt1_6 wmt2_22) rfl rfl rfl (by decide +kernel) ⟨Nat.le_of_ble_eq_true rfl, Nat.le_of_ble_eq_true rfl⟩) (zp_V (ci := 1) (q0 := (16 + 3 * d_31)) hK hP (hDa _) [16 + 3 * d_31, 17 + 3 * d_31, 18 + 3 * d_31] (zX_DC hd_31) (zX_ndD hd_31) rfl (zX_D0 hd_31)) rfl rfl hl.1 rfl (lv_room (Nat.le_of_ble_eq_true rfl)) dX6_estimateRefusal_40 ⟨Nat.le_of_ble_eq_true rfl, Nat.le_of_ble_eq_true rfl⟩) hP (hDa _) hS hA [16 + 3 * d_31, 17 + 3 * d_31, 18 + 3 * d_31] (zX_DC hd_31) (fun _ => rfl) (fun r_32 u_33 H locs w_34 hP _ hS => ?_)
              have hP : va_P (dC, dI) vwCl (zX k q u_26) H := (zX_Dkeep hd_31) ▸ hP
              rcases w_34 with ⟨e_36, h_35⟩ | ⟨e_38, h_37⟩
              · skip
                replace e_36 : r_32 = 1 := e_36
                subst e_36
                replace h_35 : ¬ ((xD u_26 d_31).1 2).toInt = -1 := h_35
                refine lv_if_ne (tgt := 66) hx hb dX6_estimateRefusal_43 (by decide) (fun c_39 => ?_) (fun c_39 => ?_)
                · skip
                  refine lv_bipush (v := (-3)) hx hb dX6_estimateRefusal_66 (by decide) ?_
                  refine lv_goto (tgt := 72) hx hb dX6_estimateRefusal_68 (by decide) ?_
                  exact W.iret (v := (-3)) hx hb hr (fun t ht hW => ⟨⟨(-3), u_26, rfl, ⟨hI, hT, fun q => absurd q (by decide)⟩, ⟨by rw [ht]; exact hP, hDa _⟩⟩, hS.F ht⟩) hS.2.2 dX6_estimateRefusal_72
                · skip
                  exact absurd c_39 (by decide)
              · skip
                replace e_38 : r_32 = 0 := e_38
                subst e_38
                replace h_37 : ((xD u_26 d_31).1 2).toInt = -1 := h_37
                refine lv_if_ne (tgt := 66) hx hb dX6_estimateRefusal_43 (by decide) (fun c_40 => ?_) (fun c_40 => ?_)
                · skip
                  exact absurd c_40 (by decide)
                · skip
                  refine lv_aload hx hb dX6_estimateRefusal_46 (lv_at hl 0 rfl) ?_
                  refine zcS_i (w := (zX k q u_26)) (wc := (zD k (qD q d_31) (xD u_26 d_31))) (va_runV (As := []) (rest := []) ⟨hx, hb, hml, hown, htb⟩ (c_X1_tells l dC dI k (qD q d_31) (xD u_26 d_31) _ ) (cwV 0 htb (gzV wmt2_154 wmt2_155 wmt2_156 wmt1_6 wmt2_157) rfl rfl rfl (by decide +kernel) ⟨Nat.le_of_ble_eq_true rfl, Nat.le_of_ble_eq_true rfl⟩) (zp_V (ci := 1) (q0 := (16 + 3 * d_31)) hK hP (hDa _) [16 + 3 * d_31, 17 + 3 * d_31, 18 + 3 * d_31] (zX_DC hd_31) (zX_ndD hd_31) rfl (zX_D0 hd_31)) rfl rfl hl.1 rfl (lv_room (Nat.le_of_ble_eq_true rfl)) dX6_estimateRefusal_48 ⟨Nat.le_of_ble_eq_true rfl, Nat.le_of_ble_eq_true rfl⟩) hP (hDa _) hS hA [16 + 3 * d_31, 17 + 3 * d_31, 18 + 3 * d_31] (zX_DC hd_31) (fun _ => rfl) (fun r_41 u_42 H locs w_43 hP _ hS => ?_)
                  have hP : va_P (dC, dI) vwCl (zX k q u_26) H := (zX_Dkeep hd_31) ▸ hP
                  refine lv_if_eq (tgt := 66) hx hb dX6_estimateRefusal_51 (by decide) (fun c_44 => ?_) (fun c_44 => ?_)
                  · skip
                    have hc_44 := zb_eq rfl (show (0 : Int32).toInt = 0 by decide) c_44
                    refine lv_bipush (v := (-3)) hx hb dX6_estimateRefusal_66 (by decide) ?_
                    refine lv_goto (tgt := 72) hx hb dX6_estimateRefusal_68 (by decide) ?_
                    exact W.iret (v := (-3)) hx hb hr (fun t ht hW => ⟨⟨(-3), u_26, rfl, ⟨hI, hT, fun q => absurd q (by decide)⟩, ⟨by rw [ht]; exact hP, hDa _⟩⟩, hS.F ht⟩) hS.2.2 dX6_estimateRefusal_72
                  · skip
                    have hc_44 := zb_ne rfl (show (0 : Int32).toInt = 0 by decide) c_44
                    refine lv_aload_n hx hb dX6_estimateRefusal_54 rfl (lv_at hl 1 rfl) ?_
                    refine va_get (D := (dC, dI)) (ci := 6) (v := .ref (q 12)) (C := RX6) (T := TX6) (N := 12) hx hb htb inw6 hown hK.1 hP 0 rfl rfl 4 (by decide) (htb _ wmt1_174) (fun _ h9 => h9) rfl dX6_estimateRefusal_55 ?_
                    refine va_get (D := (dC, dI)) (ci := 4) (v := .int (u_26.1 8)) (C := RX4) (T := TX4) (N := 3) hx hb htb inw4 hown hK.1 hP 12 rfl rfl 1 (by decide) (htb _ wmt1_76) (fun _ h9 => h9) rfl dX6_estimateRefusal_58 ?_
                    refine lv_topi (fun x_45 ex_45 => ?_)
                    have hx_45 : x_45.toInt = (u_26.1 8).toInt := by rw [ex_45]
                    refine lv_iload hx hb dX6_estimateRefusal_61 (lv_at hl 5 rfl) ?_
                    refine lv_icmp_ge (tgt := 71) hx hb dX6_estimateRefusal_63 (by decide) (fun c_46 => ?_) (fun c_46 => ?_)
                    · skip
                      have hc_46 := zb_le rfl rfl c_46
                      refine lv_iconst (v := 0) hx hb dX6_estimateRefusal_71 (by decide) ?_
                      exact W.iret (v := 0) hx hb hr (fun t ht hW => ⟨⟨0, u_26, rfl, ⟨hI, hT, fun _ => by omega⟩, ⟨by rw [ht]; exact hP, hDa _⟩⟩, hS.F ht⟩) hS.2.2 dX6_estimateRefusal_72
                    · skip
                      have hc_46 := zb_nle rfl rfl c_46
                      refine lv_bipush (v := (-3)) hx hb dX6_estimateRefusal_66 (by decide) ?_
                      refine lv_goto (tgt := 72) hx hb dX6_estimateRefusal_68 (by decide) ?_
                      exact W.iret (v := (-3)) hx hb hr (fun t ht hW => ⟨⟨(-3), u_26, rfl, ⟨hI, hT, fun q => absurd q (by decide)⟩, ⟨by rw [ht]; exact hP, hDa _⟩⟩, hS.F ht⟩) hS.2.2 dX6_estimateRefusal_72
            · skip
              exact absurd c_24 (by decide)
          · skip
            replace e_23 : r_17 = 0 := e_23
            subst e_23
            replace h_22 : ¬ (0 ≤ w.toInt ∧ w.toInt < 2) := h_22
            refine lv_if_ne (tgt := 24) hx hb dX6_estimateRefusal_18 (by decide) (fun c_47 => ?_) (fun c_47 => ?_)
            · skip
              exact absurd c_47 (by decide)
            · skip
              refine lv_bipush (v := (-2)) hx hb dX6_estimateRefusal_21 (by decide) ?_
              exact W.iret (v := (-2)) hx hb hr (fun t ht hW => ⟨⟨(-2), z, rfl, ⟨hI, hT, fun q => absurd q (by decide)⟩, ⟨by rw [ht]; exact hP, hDa _⟩⟩, hS.F ht⟩) hS.2.2 dX6_estimateRefusal_23
      · skip
        replace e_15 : r_9 = 0 := e_15
        subst e_15
        replace h_14 : ¬ (0 ≤ d.toInt ∧ d.toInt < 4) := h_14
        refine lv_if_eq (tgt := 21) hx hb dX6_estimateRefusal_11 (by decide) (fun c_48 => ?_) (fun c_48 => ?_)
        · skip
          refine lv_bipush (v := (-2)) hx hb dX6_estimateRefusal_21 (by decide) ?_
          exact W.iret (v := (-2)) hx hb hr (fun t ht hW => ⟨⟨(-2), z, rfl, ⟨hI, hT, fun q => absurd q (by decide)⟩, ⟨by rw [ht]; exact hP, hDa _⟩⟩, hS.F ht⟩) hS.2.2 dX6_estimateRefusal_23
        · skip
          exact absurd (by decide) c_48
  · skip
    replace e_7 : r_1 = 0 := e_7
    subst e_7
    replace h_6 : ¬ (0 ≤ g.toInt ∧ g.toInt < 4) := h_6
    refine lv_if_eq (tgt := 21) hx hb dX6_estimateRefusal_4 (by decide) (fun c_49 => ?_) (fun c_49 => ?_)
    · skip
      refine lv_bipush (v := (-2)) hx hb dX6_estimateRefusal_21 (by decide) ?_
      exact W.iret (v := (-2)) hx hb hr (fun t ht hW => ⟨⟨(-2), z, rfl, ⟨hI, hT, fun q => absurd q (by decide)⟩, ⟨by rw [ht]; exact hP, hDa _⟩⟩, hS.F ht⟩) hS.2.2 dX6_estimateRefusal_23
    · skip
      exact absurd (by decide) c_49
set_option maxHeartbeats 4000000 in
set_option maxRecDepth 100000 in
theorem c_X6_lotsRefusal (l : Launch) (dC : Nat → ClassId) (dI : Nat → Nat → Nat) (k : Nat → ClassId) (q : Nat → Nat) (z : ZS) (g : Int32) (d : Int32) (n : Int32) (sz : Nat) (hI : XInv z) : Met l yX6_lotsRefusal (wz yX6_lotsRefusal cX6_lotsRefusal 5 (some .int)) ({ frames := 2, cells := 0, slots := 0, locals := 48 }) (va_Pc [.ref (q 0), .int g, .int d, .int n] (zPre dC dI k (zTX k) (zX k q z) sz)) (va_Qi (fun (r : Int32) (u : ZS) => (XInv u) ∧ (trX u = trX z) ∧ (r.toInt = 0 → (0 ≤ d.toInt ∧ d.toInt < 4) ∧ (u.1 8).toInt ≤ 12)) (fun u t => zPost dC dI (va_A (zX k q z) sz) (zX k q u) t) (va_A (zX k q z) sz)) 0 0 (va_A (zX k q z) sz) := by
  refine Met.ofW (cc := cX6_lotsRefusal) (maxL := 5) (ret := (some .int)) (by decide) rfl ?_
  intro p e s m args below meth c s₁ B hml hv
  obtain ⟨rfl, hsz, hP, hK, hD0⟩ := hv
  have hx := B.exec
  have hb := B.bytes
  have hr := B.returns
  have hts := atoms_spec (ws := wz yX6_lotsRefusal cX6_lotsRefusal 5 (some .int)) B.pre
  have htb : ∀ w ∈ zw, w.before _ s = true := fun w h => hts w (List.mem_cons_of_mem _ h)
  have hown : s.vm.findClass RX6 = some m.cls := findClass_of_methodNamed B.named
  have hlocks := B.notSynchronized
  clear hts
  subst hsz
  have hD := hD0.self (sz := s.heap.size)
  generalize hAe : va_A (zX k q z) s.heap.size = A at hD ⊢
  have hA : ∀ q : Nat, s.heap.size ≤ q → A q := fun q h => by rw [← hAe]; exact Or.inr h
  have hDa : ∀ z9 : ZS, va_D A (zX k q z9) := fun z9 => va_D_adr (w := zX k q z) rfl hD
  have hl := lv_entry ([.ref (q 0), .int g, .int d, .int n]) (n := 5) (Nat.le_of_ble_eq_true rfl)
  rw [lg_entry_eq]
  generalize (lg_sl ([.ref (q 0), .int g, .int d, .int n]) ++ List.replicate (5 - (lg_sl ([.ref (q 0), .int g, .int d, .int n])).length) Slot.unset).toArray = ls at hl ⊢
  have hl : lv_has ls 5 [(0, .ref (q 0)), (1, .int g), (2, .int d), (3, .int n)] := hl
  refine z_start2 (A := A) (w := (zX k q z)) hP (fun H locs hP hS => ?_)
  clear hD0 hAe
  have hT : trX z = trX z := rfl
  refine lv_iload_n hx hb dX6_lotsRefusal_0 rfl (lv_at hl 1 rfl) ?_
  refine zc0_i (w := (zX k q z)) (va_runS (As := [.int g]) (rest := []) ⟨hx, hb, hml, hown, htb⟩ (c_X6_isGroup l dC dI k g _ ) (va_cwS 1 htb (gzS wmt2_80 wmt2_81 wmt1_1 wmt2_82) rfl rfl rfl (by decide +kernel) ⟨Nat.le_of_ble_eq_true rfl, Nat.le_of_ble_eq_true rfl⟩) (zp0_S hK) rfl rfl hl.1 rfl (lv_room (Nat.le_of_ble_eq_true rfl)) dX6_lotsRefusal_1 ⟨Nat.le_of_ble_eq_true rfl, Nat.le_of_ble_eq_true rfl⟩) hP hS hA (fun r_1 u_2 H locs w_3 hP hS => ?_)
  rcases w_3 with ⟨e_5, h_4⟩ | ⟨e_7, h_6⟩
  · skip
    replace e_5 : r_1 = 1 := e_5
    subst e_5
    replace h_4 : 0 ≤ g.toInt ∧ g.toInt < 4 := h_4
    refine lv_if_eq (tgt := 18) hx hb dX6_lotsRefusal_4 (by decide) (fun c_8 => ?_) (fun c_8 => ?_)
    · skip
      exact absurd c_8 (by decide)
    · skip
      refine lv_iload_n hx hb dX6_lotsRefusal_7 rfl (lv_at hl 2 rfl) ?_
      refine zc0_i (w := (zX k q z)) (va_runS (As := [.int d]) (rest := []) ⟨hx, hb, hml, hown, htb⟩ (c_X6_isDesign l dC dI k d _ ) (va_cwS 1 htb (gzS wmt1_211 wmt1_212 wmt1_1 wmt1_213) rfl rfl rfl (by decide +kernel) ⟨Nat.le_of_ble_eq_true rfl, Nat.le_of_ble_eq_true rfl⟩) (zp0_S hK) rfl rfl hl.1 rfl (lv_room (Nat.le_of_ble_eq_true rfl)) dX6_lotsRefusal_8 ⟨Nat.le_of_ble_eq_true rfl, Nat.le_of_ble_eq_true rfl⟩) hP hS hA (fun r_9 u_10 H locs w_11 hP hS => ?_)
      rcases w_11 with ⟨e_13, h_12⟩ | ⟨e_15, h_14⟩
      · skip
        replace e_13 : r_9 = 1 := e_13
        subst e_13
        replace h_12 : 0 ≤ d.toInt ∧ d.toInt < 4 := h_12
        refine lv_if_eq (tgt := 18) hx hb dX6_lotsRefusal_11 (by decide) (fun c_16 => ?_) (fun c_16 => ?_)
        · skip
          exact absurd c_16 (by decide)
        · skip
          refine lv_iload_n hx hb dX6_lotsRefusal_14 rfl (lv_at hl 3 rfl) ?_
          refine lv_if_ge (tgt := 21) hx hb dX6_lotsRefusal_15 (by decide) (fun c_17 => ?_) (fun c_17 => ?_)
          · skip
            have hc_17 := zb_le (show (0 : Int32).toInt = 0 by decide) rfl c_17
            refine lv_aload_n hx hb dX6_lotsRefusal_21 rfl (lv_at hl 0 rfl) ?_
            refine lv_iload_n hx hb dX6_lotsRefusal_22 rfl (lv_at hl 1 rfl) ?_
            refine lv_iload_n hx hb dX6_lotsRefusal_23 rfl (lv_at hl 2 rfl) ?_
            refine zcA_v (w := (zX k q z)) (va_runV (As := [.int g, .int d]) (rest := []) ⟨hx, hb, hml, hown, htb⟩ (c_X6_takePoll l dC dI k q z g d _ hI) (cwV 2 htb (gzV wmt2_134 wmt2_136 wmp1_9 wmt1_1 wmt2_137) rfl rfl rfl (by decide +kernel) ⟨Nat.le_of_ble_eq_true rfl, Nat.le_of_ble_eq_true rfl⟩) (zpA_V (ci := 6) (q0 := 0) hK hP (hDa _) rfl rfl) rfl rfl hl.1 rfl (lv_room (Nat.le_of_ble_eq_true rfl)) dX6_lotsRefusal_24 ⟨Nat.le_of_ble_eq_true rfl, Nat.le_of_ble_eq_true rfl⟩) (hDa _) hS hA (fun u_19 H locs w_20 hP _ hS => ?_)
            obtain ⟨h_21, h_22⟩ := w_20
            replace h_21 : XInv u_19 := h_21
            replace h_22 : trX u_19 = trX z := h_22
            have hI := h_21
            have hT := h_22.trans hT
            refine lv_aload_n hx hb dX6_lotsRefusal_27 rfl (lv_at hl 0 rfl) ?_
            refine va_get (D := (dC, dI)) (ci := 6) (v := .ref (q 1)) (C := RX6) (T := TX6) (N := 12) hx hb htb inw6 hown hK.1 hP 0 rfl rfl 0 (by decide) (htb _ wmt1_170) (fun _ h9 => h9) rfl dX6_lotsRefusal_28 ?_
            refine lv_iload_n hx hb dX6_lotsRefusal_31 rfl (lv_at hl 2 rfl) ?_
            refine va_aldq (D := (dC, dI)) hx hb hK.1 hP 1 3 rfl rfl (z_in (by omega)) dX6_lotsRefusal_32 ?_
            obtain ⟨d_24, ed_24⟩ : ∃ x : Nat, x = d.toNatClampNeg := ⟨_, rfl⟩
            have hd_24 : d_24 < 4 := by rw [ed_24]; exact z_cl4 (by omega)
            refine z_top (v2 := .ref (qD q d_24 0)) (zgD_at2 ed_24 hd_24) ?_
            refine lv_astore (lv' := [(4, .ref (qD q d_24 0)), (0, .ref (q 0)), (1, .int g), (2, .int d), (3, .int n)]) hx hb dX6_lotsRefusal_33 hl (by decide) rfl (fun ls hl => ?_)
            refine lv_aload hx hb dX6_lotsRefusal_35 (lv_at hl 0 rfl) ?_
            refine zcS_i (w := (zX k q u_19)) (wc := (zD k (qD q d_24) (xD u_19 d_24))) (va_runV (As := []) (rest := []) ⟨hx, hb, hml, hown, htb⟩ (c_X1_isFaulty l dC dI k (qD q d_24) (xD u_19 d_24) _ ) (cwV 0 htb (gzV wmt2_55 wmt2_20 wmt2_21 wmt1_6 wmt2_22) rfl rfl rfl (by decide +kernel) ⟨Nat.le_of_ble_eq_true rfl, Nat.le_of_ble_eq_true rfl⟩) (zp_V (ci := 1) (q0 := (16 + 3 * d_24)) hK hP (hDa _) [16 + 3 * d_24, 17 + 3 * d_24, 18 + 3 * d_24] (zX_DC hd_24) (zX_ndD hd_24) rfl (zX_D0 hd_24)) rfl rfl hl.1 rfl (lv_room (Nat.le_of_ble_eq_true rfl)) dX6_lotsRefusal_37 ⟨Nat.le_of_ble_eq_true rfl, Nat.le_of_ble_eq_true rfl⟩) hP (hDa _) hS hA [16 + 3 * d_24, 17 + 3 * d_24, 18 + 3 * d_24] (zX_DC hd_24) (fun _ => rfl) (fun r_25 u_26 H locs w_27 hP _ hS => ?_)
            have hP : va_P (dC, dI) vwCl (zX k q u_19) H := (zX_Dkeep hd_24) ▸ hP
            rcases w_27 with ⟨e_29, h_28⟩ | ⟨e_31, h_30⟩
            · skip
              replace e_29 : r_25 = 1 := e_29
              subst e_29
              replace h_28 : ¬ ((xD u_19 d_24).1 2).toInt = -1 := h_28
              refine lv_if_ne (tgt := 54) hx hb dX6_lotsRefusal_40 (by decide) (fun c_32 => ?_) (fun c_32 => ?_)
              · skip
                refine lv_bipush (v := (-3)) hx hb dX6_lotsRefusal_54 (by decide) ?_
                exact W.iret (v := (-3)) hx hb hr (fun t ht hW => ⟨⟨(-3), u_19, rfl, ⟨hI, hT, fun q => absurd q (by decide)⟩, ⟨by rw [ht]; exact hP, hDa _⟩⟩, hS.F ht⟩) hS.2.2 dX6_lotsRefusal_56
              · skip
                exact absurd c_32 (by decide)
            · skip
              replace e_31 : r_25 = 0 := e_31
              subst e_31
              replace h_30 : ((xD u_19 d_24).1 2).toInt = -1 := h_30
              refine lv_if_ne (tgt := 54) hx hb dX6_lotsRefusal_40 (by decide) (fun c_33 => ?_) (fun c_33 => ?_)
              · skip
                exact absurd c_33 (by decide)
              · skip
                refine lv_iload_n hx hb dX6_lotsRefusal_43 rfl (lv_at hl 4 rfl) ?_
                refine lv_aload_n hx hb dX6_lotsRefusal_44 rfl (lv_at hl 1 rfl) ?_
                refine va_get (D := (dC, dI)) (ci := 6) (v := .ref (q 12)) (C := RX6) (T := TX6) (N := 12) hx hb htb inw6 hown hK.1 hP 0 rfl rfl 4 (by decide) (htb _ wmt1_174) (fun _ h9 => h9) rfl dX6_lotsRefusal_45 ?_
                refine va_get (D := (dC, dI)) (ci := 4) (v := .int (u_19.1 8)) (C := RX4) (T := TX4) (N := 3) hx hb htb inw4 hown hK.1 hP 12 rfl rfl 1 (by decide) (htb _ wmt1_76) (fun _ h9 => h9) rfl dX6_lotsRefusal_48 ?_
                refine lv_topi (fun x_34 ex_34 => ?_)
                have hx_34 : x_34.toInt = (u_19.1 8).toInt := by rw [ex_34]
                refine lv_icmp_le (tgt := 57) hx hb dX6_lotsRefusal_51 (by decide) (fun c_35 => ?_) (fun c_35 => ?_)
                · skip
                  have hc_35 := zb_le rfl rfl c_35
                  refine lv_aload_n hx hb dX6_lotsRefusal_57 rfl (lv_at hl 1 rfl) ?_
                  refine va_get (D := (dC, dI)) (ci := 6) (v := .ref (q 12)) (C := RX6) (T := TX6) (N := 12) hx hb htb inw6 hown hK.1 hP 0 rfl rfl 4 (by decide) (htb _ wmt1_174) (fun _ h9 => h9) rfl dX6_lotsRefusal_58 ?_
                  refine va_get (D := (dC, dI)) (ci := 4) (v := .int (u_19.1 8)) (C := RX4) (T := TX4) (N := 3) hx hb htb inw4 hown hK.1 hP 12 rfl rfl 1 (by decide) (htb _ wmt1_76) (fun _ h9 => h9) rfl dX6_lotsRefusal_61 ?_
                  refine z_top (v2 := .int x_34) (congrArg Value.int ex_34.symm) ?_
                  refine lv_bipush (v := 12) hx hb dX6_lotsRefusal_64 (by decide) ?_
                  refine lv_icmp_gt (tgt := 77) hx hb dX6_lotsRefusal_66 (by decide) (fun c_36 => ?_) (fun c_36 => ?_)
                  · skip
                    have hc_36 := zb_lt (show (12 : Int32).toInt = 12 by decide) rfl c_36
                    refine lv_bipush (v := (-4)) hx hb dX6_lotsRefusal_77 (by decide) ?_
                    refine lv_goto (tgt := 83) hx hb dX6_lotsRefusal_79 (by decide) ?_
                    exact W.iret (v := (-4)) hx hb hr (fun t ht hW => ⟨⟨(-4), u_19, rfl, ⟨hI, hT, fun q => absurd q (by decide)⟩, ⟨by rw [ht]; exact hP, hDa _⟩⟩, hS.F ht⟩) hS.2.2 dX6_lotsRefusal_83
                  · skip
                    have hc_36 := zb_nlt (show (12 : Int32).toInt = 12 by decide) rfl c_36
                    refine lv_aload hx hb dX6_lotsRefusal_69 (lv_at hl 0 rfl) ?_
                    refine zcS_i (w := (zX k q u_19)) (wc := (zD k (qD q d_24) (xD u_19 d_24))) (va_runV (As := []) (rest := []) ⟨hx, hb, hml, hown, htb⟩ (c_X1_isWide l dC dI k (qD q d_24) (xD u_19 d_24) _ ) (cwV 0 htb (gzV wmt2_174 wmt2_175 wmt2_176 wmt1_6 wmt2_177) rfl rfl rfl (by decide +kernel) ⟨Nat.le_of_ble_eq_true rfl, Nat.le_of_ble_eq_true rfl⟩) (zp_V (ci := 1) (q0 := (16 + 3 * d_24)) hK hP (hDa _) [16 + 3 * d_24, 17 + 3 * d_24, 18 + 3 * d_24] (zX_DC hd_24) (zX_ndD hd_24) rfl (zX_D0 hd_24)) rfl rfl hl.1 rfl (lv_room (Nat.le_of_ble_eq_true rfl)) dX6_lotsRefusal_71 ⟨Nat.le_of_ble_eq_true rfl, Nat.le_of_ble_eq_true rfl⟩) hP (hDa _) hS hA [16 + 3 * d_24, 17 + 3 * d_24, 18 + 3 * d_24] (zX_DC hd_24) (fun _ => rfl) (fun r_37 u_38 H locs w_39 hP _ hS => ?_)
                    have hP : va_P (dC, dI) vwCl (zX k q u_19) H := (zX_Dkeep hd_24) ▸ hP
                    refine lv_if_eq (tgt := 82) hx hb dX6_lotsRefusal_74 (by decide) (fun c_40 => ?_) (fun c_40 => ?_)
                    · skip
                      have hc_40 := zb_eq rfl (show (0 : Int32).toInt = 0 by decide) c_40
                      refine lv_iconst (v := 0) hx hb dX6_lotsRefusal_82 (by decide) ?_
                      exact W.iret (v := 0) hx hb hr (fun t ht hW => ⟨⟨0, u_19, rfl, ⟨hI, hT, fun _ => ⟨by omega, by omega⟩⟩, ⟨by rw [ht]; exact hP, hDa _⟩⟩, hS.F ht⟩) hS.2.2 dX6_lotsRefusal_83
                    · skip
                      have hc_40 := zb_ne rfl (show (0 : Int32).toInt = 0 by decide) c_40
                      refine lv_bipush (v := (-4)) hx hb dX6_lotsRefusal_77 (by decide) ?_
                      refine lv_goto (tgt := 83) hx hb dX6_lotsRefusal_79 (by decide) ?_
                      exact W.iret (v := (-4)) hx hb hr (fun t ht hW => ⟨⟨(-4), u_19, rfl, ⟨hI, hT, fun q => absurd q (by decide)⟩, ⟨by rw [ht]; exact hP, hDa _⟩⟩, hS.F ht⟩) hS.2.2 dX6_lotsRefusal_83
                · skip
                  have hc_35 := zb_nle rfl rfl c_35
                  refine lv_bipush (v := (-3)) hx hb dX6_lotsRefusal_54 (by decide) ?_
                  exact W.iret (v := (-3)) hx hb hr (fun t ht hW => ⟨⟨(-3), u_19, rfl, ⟨hI, hT, fun q => absurd q (by decide)⟩, ⟨by rw [ht]; exact hP, hDa _⟩⟩, hS.F ht⟩) hS.2.2 dX6_lotsRefusal_56
          · skip
            have hc_17 := zb_nle (show (0 : Int32).toInt = 0 by decide) rfl c_17
            refine lv_bipush (v := (-2)) hx hb dX6_lotsRefusal_18 (by decide) ?_
            exact W.iret (v := (-2)) hx hb hr (fun t ht hW => ⟨⟨(-2), z, rfl, ⟨hI, hT, fun q => absurd q (by decide)⟩, ⟨by rw [ht]; exact hP, hDa _⟩⟩, hS.F ht⟩) hS.2.2 dX6_lotsRefusal_20
      · skip
        replace e_15 : r_9 = 0 := e_15
        subst e_15
        replace h_14 : ¬ (0 ≤ d.toInt ∧ d.toInt < 4) := h_14
        refine lv_if_eq (tgt := 18) hx hb dX6_lotsRefusal_11 (by decide) (fun c_41 => ?_) (fun c_41 => ?_)
        · skip
          refine lv_bipush (v := (-2)) hx hb dX6_lotsRefusal_18 (by decide) ?_
          exact W.iret (v := (-2)) hx hb hr (fun t ht hW => ⟨⟨(-2), z, rfl, ⟨hI, hT, fun q => absurd q (by decide)⟩, ⟨by rw [ht]; exact hP, hDa _⟩⟩, hS.F ht⟩) hS.2.2 dX6_lotsRefusal_20
        · skip
          exact absurd (by decide) c_41
  · skip
    replace e_7 : r_1 = 0 := e_7
    subst e_7
    replace h_6 : ¬ (0 ≤ g.toInt ∧ g.toInt < 4) := h_6
    refine lv_if_eq (tgt := 18) hx hb dX6_lotsRefusal_4 (by decide) (fun c_42 => ?_) (fun c_42 => ?_)
    · skip
      refine lv_bipush (v := (-2)) hx hb dX6_lotsRefusal_18 (by decide) ?_
      exact W.iret (v := (-2)) hx hb hr (fun t ht hW => ⟨⟨(-2), z, rfl, ⟨hI, hT, fun q => absurd q (by decide)⟩, ⟨by rw [ht]; exact hP, hDa _⟩⟩, hS.F ht⟩) hS.2.2 dX6_lotsRefusal_20
    · skip
      exact absurd (by decide) c_42
set_option maxHeartbeats 4000000 in
set_option maxRecDepth 100000 in
theorem c_X6_waysOf (l : Launch) (dC : Nat → ClassId) (dI : Nat → Nat → Nat) (k : Nat → ClassId) (q : Nat → Nat) (z : ZS) (d0 : Nat) (kk : Int32) (sz : Nat) (hI : XInv z) (hd0 : d0 < 4) : Met l yX6_waysOf (wz yX6_waysOf cX6_waysOf 3 (some .long)) ({ frames := 2, cells := 0, slots := 0, locals := 52 }) (va_Pc [.ref (q 0), .ref (qD q d0 0), .int kk] (zPre dC dI k (zTX k) (zX k q z) sz)) (va_Ql (fun (r : Int64) (u : ZS) => (XInv u) ∧ (trX u = trX z) ∧ (u.1 8 = z.1 8)) (fun u t => zPost dC dI (va_A (zX k q z) sz) (zX k q u) t) (va_A (zX k q z) sz)) 0 0 (va_A (zX k q z) sz) := by
  refine Met.ofW (cc := cX6_waysOf) (maxL := 3) (ret := (some .long)) (by decide) rfl ?_
  intro p e s m args below meth c s₁ B hml hv
  obtain ⟨rfl, hsz, hP, hK, hD0⟩ := hv
  have hx := B.exec
  have hb := B.bytes
  have hr := B.returns
  have hts := atoms_spec (ws := wz yX6_waysOf cX6_waysOf 3 (some .long)) B.pre
  have htb : ∀ w ∈ zw, w.before _ s = true := fun w h => hts w (List.mem_cons_of_mem _ h)
  have hown : s.vm.findClass RX6 = some m.cls := findClass_of_methodNamed B.named
  have hlocks := B.notSynchronized
  clear hts
  subst hsz
  have hD := hD0.self (sz := s.heap.size)
  generalize hAe : va_A (zX k q z) s.heap.size = A at hD ⊢
  have hA : ∀ q : Nat, s.heap.size ≤ q → A q := fun q h => by rw [← hAe]; exact Or.inr h
  have hDa : ∀ z9 : ZS, va_D A (zX k q z9) := fun z9 => va_D_adr (w := zX k q z) rfl hD
  have hl := lv_entry ([.ref (q 0), .ref (qD q d0 0), .int kk]) (n := 3) (Nat.le_of_ble_eq_true rfl)
  rw [lg_entry_eq]
  generalize (lg_sl ([.ref (q 0), .ref (qD q d0 0), .int kk]) ++ List.replicate (3 - (lg_sl ([.ref (q 0), .ref (qD q d0 0), .int kk])).length) Slot.unset).toArray = ls at hl ⊢
  have hl : lv_has ls 3 [(0, .ref (q 0)), (1, .ref (qD q d0 0)), (2, .int kk)] := hl
  refine z_start2 (A := A) (w := (zX k q z)) hP (fun H locs hP hS => ?_)
  clear hD0 hAe
  have hT : trX z = trX z := rfl
  refine lv_aload_n hx hb dX6_waysOf_0 rfl (lv_at hl 0 rfl) ?_
  refine va_get (D := (dC, dI)) (ci := 6) (v := .ref (q 13)) (C := RX6) (T := TX6) (N := 12) hx hb htb inw6 hown hK.1 hP 0 rfl rfl 5 (by decide) (htb _ wmt1_175) (fun _ h9 => h9) rfl dX6_waysOf_1 ?_
  refine lv_aload_n hx hb dX6_waysOf_4 rfl (lv_at hl 1 rfl) ?_
  refine lv_aload_n hx hb dX6_waysOf_5 rfl (lv_at hl 0 rfl) ?_
  refine va_get (D := (dC, dI)) (ci := 6) (v := .ref (q 12)) (C := RX6) (T := TX6) (N := 12) hx hb htb inw6 hown hK.1 hP 0 rfl rfl 4 (by decide) (htb _ wmt1_174) (fun _ h9 => h9) rfl dX6_waysOf_6 ?_
  refine va_get (D := (dC, dI)) (ci := 4) (v := .int (z.1 8)) (C := RX4) (T := TX4) (N := 3) hx hb htb inw4 hown hK.1 hP 12 rfl rfl 1 (by decide) (htb _ wmt1_76) (fun _ h9 => h9) rfl dX6_waysOf_9 ?_
  refine lv_topi (fun x_1 ex_1 => ?_)
  have hx_1 : x_1.toInt = (z.1 8).toInt := by rw [ex_1]
  refine lv_iload_n hx hb dX6_waysOf_12 rfl (lv_at hl 2 rfl) ?_
  refine zcS_v (w := (zX k q z)) (wc := (zE k (qE q d0) (xE z d0))) (va_runV (As := [.ref (qD q d0 0), .int x_1, .int kk]) (rest := []) ⟨hx, hb, hml, hown, htb⟩ (c_X3_fall l dC dI k (qE q d0) (xE z d0) x_1 kk _ ) (cwV 3 htb (gzV wmt2_182 wmt2_183 wmt2_184 wmt1_4 wmt2_185) rfl rfl rfl (by decide +kernel) ⟨Nat.le_of_ble_eq_true rfl, Nat.le_of_ble_eq_true rfl⟩) (zp_V (ci := 3) (q0 := 13) hK hP (hDa _) [13, 14, 16 + 3 * d0, 17 + 3 * d0, 18 + 3 * d0] (zX_EC hd0) (zX_ndE hd0) rfl rfl) rfl rfl hl.1 rfl (lv_room (Nat.le_of_ble_eq_true rfl)) dX6_waysOf_13 ⟨Nat.le_of_ble_eq_true rfl, Nat.le_of_ble_eq_true rfl⟩) hP (hDa _) hS hA [13, 14, 16 + 3 * d0, 17 + 3 * d0, 18 + 3 * d0] (zX_EC hd0) (fun _ => rfl) (fun u_3 H locs w_4 hP _ hS => ?_)
  obtain ⟨f_5, hf_5⟩ := w_4
  subst hf_5
  have hP : va_P (dC, dI) vwCl (zX k q (sL z 0 f_5)) H := (zX_Eset hd0) ▸ hP
  have hP : va_P (dC, dI) vwCl (zX k q (sL z 0 f_5)) H := hP
  refine lv_aload_n hx hb dX6_waysOf_16 rfl (lv_at hl 0 rfl) ?_
  refine va_get (D := (dC, dI)) (ci := 6) (v := .ref (q 13)) (C := RX6) (T := TX6) (N := 12) hx hb htb inw6 hown hK.1 hP 0 rfl rfl 5 (by decide) (htb _ wmt1_175) (fun _ h9 => h9) rfl dX6_waysOf_17 ?_
  refine lv_aload_n hx hb dX6_waysOf_20 rfl (lv_at hl 0 rfl) ?_
  refine va_get (D := (dC, dI)) (ci := 6) (v := .ref (q 12)) (C := RX6) (T := TX6) (N := 12) hx hb htb inw6 hown hK.1 hP 0 rfl rfl 4 (by decide) (htb _ wmt1_174) (fun _ h9 => h9) rfl dX6_waysOf_21 ?_
  refine va_get (D := (dC, dI)) (ci := 4) (v := .int (z.1 9)) (C := RX4) (T := TX4) (N := 3) hx hb htb inw4 hown hK.1 hP 12 rfl rfl 2 (by decide) (htb _ wmt1_78) (fun _ h9 => h9) rfl dX6_waysOf_24 ?_
  refine lv_topi (fun x_6 ex_6 => ?_)
  have hx_6 : x_6.toInt = (z.1 9).toInt := by rw [ex_6]
  refine lv_aload_n hx hb dX6_waysOf_27 rfl (lv_at hl 0 rfl) ?_
  refine va_get (D := (dC, dI)) (ci := 6) (v := .ref (q 12)) (C := RX6) (T := TX6) (N := 12) hx hb htb inw6 hown hK.1 hP 0 rfl rfl 4 (by decide) (htb _ wmt1_174) (fun _ h9 => h9) rfl dX6_waysOf_28 ?_
  refine va_get (D := (dC, dI)) (ci := 4) (v := .int (z.1 9)) (C := RX4) (T := TX4) (N := 3) hx hb htb inw4 hown hK.1 hP 12 rfl rfl 2 (by decide) (htb _ wmt1_78) (fun _ h9 => h9) rfl dX6_waysOf_31 ?_
  refine z_top (v2 := .int x_6) (congrArg Value.int ex_6.symm) ?_
  refine zcS_l (w := (zX k q (sL z 0 f_5))) (wc := (zL k (qof q 13) (xL (sL z 0 f_5)))) (va_runV (As := [.int x_6, .int x_6]) (rest := []) ⟨hx, hb, hml, hown, htb⟩ (c_X3_among l dC dI k (qof q 13) (xL (sL z 0 f_5)) x_6 x_6 _ ) (cwV 2 htb (gzV wmt2_199 wmt2_200 wmt2_201 wmt1_4 wmt2_202) rfl rfl rfl (by decide +kernel) ⟨Nat.le_of_ble_eq_true rfl, Nat.le_of_ble_eq_true rfl⟩) (zp_V (ci := 3) (q0 := 13) hK hP (hDa _) [13, 14] rfl (by decide) rfl rfl) rfl rfl hl.1 rfl (lv_room (Nat.le_of_ble_eq_true rfl)) dX6_waysOf_34 ⟨Nat.le_of_ble_eq_true rfl, Nat.le_of_ble_eq_true rfl⟩) hP (hDa _) hS hA [13, 14] rfl (fun _ => rfl) (fun r_7 u_8 H locs w_9 hP _ hS => ?_)
  have hP : va_P (dC, dI) vwCl (zX k q (sL z 0 f_5)) H := hP
  exact W.lret (v := r_7) hx hb hr (fun t ht hW => ⟨⟨r_7, (sL z 0 f_5), rfl, ⟨hI, hT, rfl⟩, ⟨by rw [ht]; exact hP, hDa _⟩⟩, hS.F ht⟩) hS.2.2 dX6_waysOf_37
set_option maxHeartbeats 4000000 in
set_option maxRecDepth 100000 in
theorem c_X6_mostLikely (l : Launch) (dC : Nat → ClassId) (dI : Nat → Nat → Nat) (k : Nat → ClassId) (q : Nat → Nat) (z : ZS) (d0 : Nat) (sz : Nat) (hI : XInv z) (hd0 : d0 < 4) (h12 : (z.1 8).toInt ≤ 12) : Met l yX6_mostLikely (wz yX6_mostLikely cX6_mostLikely 8 (some .int)) ({ frames := 3, cells := 0, slots := 0, locals := 74 }) (va_Pc [.ref (q 0), .ref (qD q d0 0)] (zPre dC dI k (zTX k) (zX k q z) sz)) (va_Qi (fun (r : Int32) (u : ZS) => (XInv u) ∧ (trX u = trX z) ∧ (u.1 8 = z.1 8)) (fun u t => zPost dC dI (va_A (zX k q z) sz) (zX k q u) t) (va_A (zX k q z) sz)) 0 0 (va_A (zX k q z) sz) := by
  refine Met.ofW (cc := cX6_mostLikely) (maxL := 8) (ret := (some .int)) (by decide) rfl ?_
  intro p e s m args below meth c s₁ B hml hv
  obtain ⟨rfl, hsz, hP, hK, hD0⟩ := hv
  have hx := B.exec
  have hb := B.bytes
  have hr := B.returns
  have hts := atoms_spec (ws := wz yX6_mostLikely cX6_mostLikely 8 (some .int)) B.pre
  have htb : ∀ w ∈ zw, w.before _ s = true := fun w h => hts w (List.mem_cons_of_mem _ h)
  have hown : s.vm.findClass RX6 = some m.cls := findClass_of_methodNamed B.named
  have hlocks := B.notSynchronized
  clear hts
  subst hsz
  have hD := hD0.self (sz := s.heap.size)
  generalize hAe : va_A (zX k q z) s.heap.size = A at hD ⊢
  have hA : ∀ q : Nat, s.heap.size ≤ q → A q := fun q h => by rw [← hAe]; exact Or.inr h
  have hDa : ∀ z9 : ZS, va_D A (zX k q z9) := fun z9 => va_D_adr (w := zX k q z) rfl hD
  have hl := lv_entry ([.ref (q 0), .ref (qD q d0 0)]) (n := 8) (Nat.le_of_ble_eq_true rfl)
  rw [lg_entry_eq]
  generalize (lg_sl ([.ref (q 0), .ref (qD q d0 0)]) ++ List.replicate (8 - (lg_sl ([.ref (q 0), .ref (qD q d0 0)])).length) Slot.unset).toArray = ls at hl ⊢
  have hl : lv_has ls 8 [(0, .ref (q 0)), (1, .ref (qD q d0 0))] := hl
  refine z_start2 (A := A) (w := (zX k q z)) hP (fun H locs hP hS => ?_)
  clear hD0 hAe
  have hT : trX z = trX z := rfl
  refine lv_iconst (v := 0) hx hb dX6_mostLikely_0 (by decide) ?_
  refine lv_istore_n (lv' := [(2, .int 0), (0, .ref (q 0)), (1, .ref (qD q d0 0))]) hx hb dX6_mostLikely_1 rfl hl (by decide) rfl (fun ls hl => ?_)
  refine lv_aload_n hx hb dX6_mostLikely_2 rfl (lv_at hl 1 rfl) ?_
  refine lv_aload_n hx hb dX6_mostLikely_3 rfl (lv_at hl 2 rfl) ?_
  refine lv_iconst (v := 0) hx hb dX6_mostLikely_4 (by decide) ?_
  refine zcA_l (w := (zX k q z)) (va_runV (As := [.ref (qD q d0 0), .int 0]) (rest := []) ⟨hx, hb, hml, hown, htb⟩ (c_X6_waysOf l dC dI k q z d0 0 _ hI hd0) (cwV 2 htb (gzV wmt2_178 wmt2_180 wmp1_12 wmt1_1 wmt2_181) rfl rfl rfl (by decide +kernel) ⟨Nat.le_of_ble_eq_true rfl, Nat.le_of_ble_eq_true rfl⟩) (zpA_V (ci := 6) (q0 := 0) hK hP (hDa _) rfl rfl) rfl rfl hl.1 rfl (lv_room (Nat.le_of_ble_eq_true rfl)) dX6_mostLikely_5 ⟨Nat.le_of_ble_eq_true rfl, Nat.le_of_ble_eq_true rfl⟩) (hDa _) hS hA (fun r_1 u_2 H locs w_3 hP _ hS => ?_)
  obtain ⟨h_4, h_5, h_6⟩ := w_3
  replace h_4 : XInv u_2 := h_4
  replace h_5 : trX u_2 = trX z := h_5
  replace h_6 : u_2.1 8 = (z.1 8) := h_6
  have hI := h_4
  have hT := h_5.trans hT
  have h80 : u_2.1 8 = z.1 8 := h_6
  refine lv_lstore_n (lv' := [(3, .long r_1), (2, .int 0), (0, .ref (q 0)), (1, .ref (qD q d0 0))]) hx hb dX6_mostLikely_8 rfl hl (by decide) rfl (fun ls hl => ?_)
  refine lv_iconst (v := 1) hx hb dX6_mostLikely_9 (by decide) ?_
  refine lv_istore (lv' := [(5, .int 1), (3, .long r_1), (2, .int 0), (0, .ref (q 0)), (1, .ref (qD q d0 0))]) hx hb dX6_mostLikely_10 hl (by decide) rfl (fun ls hl => ?_)
  obtain ⟨bs, ebs⟩ : ∃ x : Int32, 0 = x := ⟨_, rfl⟩
  obtain ⟨mo, emo⟩ : ∃ x : Int64, r_1 = x := ⟨_, rfl⟩
  obtain ⟨i, ei⟩ : ∃ x : Int32, 1 = x := ⟨_, rfl⟩
  obtain ⟨z1, ez1⟩ : ∃ x : ZS, u_2 = x := ⟨_, rfl⟩
  have hv12 : (1 ≤ i.toInt ∧ i.toInt ≤ 13) ∧ (XInv z1) ∧ (trX z1 = trX z) ∧ (z1.1 8 = z.1 8) := by subst ebs emo ei ez1; exact ⟨(by decide), hI, hT, h80⟩
  replace hl : lv_has ls 8 [(5, .int i), (3, .long mo), (2, .int bs), (0, .ref (q 0)), (1, .ref (qD q d0 0))] := by subst ebs emo ei ez1; exact hl
  replace hP : va_P (dC, dI) vwCl (zX k q z1) H := by subst ez1; exact hP
  clear ebs emo ei ez1
  obtain ⟨mm12, hm12⟩ : ∃ mm : Nat, mm = (13 - i.toInt).toNat := ⟨_, rfl⟩
  refine z_cut2 hP hS hl ?_
  clear hl hP
  intro H locs ls hP hS hl
  induction mm12 using Nat.strongRecOn generalizing bs mo i z1 H locs ls with
  | _ mm12 ih12 =>
    obtain ⟨hi, hI1, hT1, h81⟩ := hv12
    have hI := hI1
    have hT := hT1
    have h83 : (z1.1 8).toInt = (z.1 8).toInt := by rw [h81]
    refine lv_iload hx hb dX6_mostLikely_12 (lv_at hl 0 rfl) ?_
    refine lv_aload_n hx hb dX6_mostLikely_14 rfl (lv_at hl 3 rfl) ?_
    refine va_get (D := (dC, dI)) (ci := 6) (v := .ref (q 12)) (C := RX6) (T := TX6) (N := 12) hx hb htb inw6 hown hK.1 hP 0 rfl rfl 4 (by decide) (htb _ wmt1_174) (fun _ h9 => h9) rfl dX6_mostLikely_15 ?_
    refine va_get (D := (dC, dI)) (ci := 4) (v := .int (z1.1 8)) (C := RX4) (T := TX4) (N := 3) hx hb htb inw4 hown hK.1 hP 12 rfl rfl 1 (by decide) (htb _ wmt1_76) (fun _ h9 => h9) rfl dX6_mostLikely_18 ?_
    refine lv_topi (fun x_8 ex_8 => ?_)
    have hx_8 : x_8.toInt = (z1.1 8).toInt := by rw [ex_8]
    refine lv_icmp_gt (tgt := 52) hx hb dX6_mostLikely_21 (by decide) (fun c_9 => ?_) (fun c_9 => ?_)
    · skip
      have hc_9 := zb_lt rfl rfl c_9
      refine lv_iload_n hx hb dX6_mostLikely_52 rfl (lv_at hl 2 rfl) ?_
      exact W.iret (v := bs) hx hb hr (fun t ht hW => ⟨⟨bs, z1, rfl, ⟨hI, hT, h81⟩, ⟨by rw [ht]; exact hP, hDa _⟩⟩, hS.F ht⟩) hS.2.2 dX6_mostLikely_53
    · skip
      have hc_9 := zb_nlt rfl rfl c_9
      refine lv_aload_n hx hb dX6_mostLikely_24 rfl (lv_at hl 3 rfl) ?_
      refine lv_aload_n hx hb dX6_mostLikely_25 rfl (lv_at hl 4 rfl) ?_
      refine lv_iload hx hb dX6_mostLikely_26 (lv_at hl 0 rfl) ?_
      refine zcA_l (w := (zX k q z1)) (va_runV (As := [.ref (qD q d0 0), .int i]) (rest := []) ⟨hx, hb, hml, hown, htb⟩ (c_X6_waysOf l dC dI k q z1 d0 i _ hI hd0) (cwV 2 htb (gzV wmt2_178 wmt2_180 wmp1_12 wmt1_1 wmt2_181) rfl rfl rfl (by decide +kernel) ⟨Nat.le_of_ble_eq_true rfl, Nat.le_of_ble_eq_true rfl⟩) (zpA_V (ci := 6) (q0 := 0) hK hP (hDa _) rfl rfl) rfl rfl hl.1 rfl (lv_room (Nat.le_of_ble_eq_true rfl)) dX6_mostLikely_28 ⟨Nat.le_of_ble_eq_true rfl, Nat.le_of_ble_eq_true rfl⟩) (hDa _) hS hA (fun r_10 u_11 H locs w_12 hP _ hS => ?_)
      obtain ⟨h_13, h_14, h_15⟩ := w_12
      replace h_13 : XInv u_11 := h_13
      replace h_14 : trX u_11 = trX z1 := h_14
      replace h_15 : u_11.1 8 = (z1.1 8) := h_15
      have hI := h_13
      have hT := h_14.trans hT
      have h82 : u_11.1 8 = z.1 8 := h_15.trans h81
      refine lv_lstore (lv' := [(6, .long r_10), (5, .int i), (3, .long mo), (2, .int bs), (0, .ref (q 0)), (1, .ref (qD q d0 0))]) hx hb dX6_mostLikely_31 hl (by decide) rfl (fun ls hl => ?_)
      refine lv_lload hx hb dX6_mostLikely_33 (lv_at hl 0 rfl) ?_
      refine lv_lload_n hx hb dX6_mostLikely_35 rfl (lv_at hl 2 rfl) ?_
      refine z_lcmp hx hb dX6_mostLikely_36 ?_
      refine lv_if_le (tgt := 46) hx hb dX6_mostLikely_37 (by decide) (fun c_17 => ?_) (fun c_17 => ?_)
      · skip
        have hc_17 := zl_le rfl rfl c_17
        obtain ⟨x_18, ex_18⟩ : ∃ y : Int32, y = i + 1 := ⟨_, rfl⟩
        have hx_18 : x_18.toInt = i.toInt + 1 := z_add ex_18 rfl (show (1 : Int32).toInt = 1 by decide) (by omega)
        refine lv_iinc (v := x_18) (lv' := [(5, .int x_18), (6, .long r_10), (3, .long mo), (2, .int bs), (0, .ref (q 0)), (1, .ref (qD q d0 0))]) hx hb dX6_mostLikely_46 hl (k := 1) rfl (by rw [ex_18]; rfl) (by decide) rfl (fun ls hl => ?_)
        refine lv_goto (tgt := 12) hx hb dX6_mostLikely_49 (by decide) ?_
        exact ih12 ((13 - x_18.toInt).toNat) (by omega) bs mo x_18 u_11 ⟨(show 1 ≤ x_18.toInt ∧ x_18.toInt ≤ 13 by omega), hI, hT, h82⟩ rfl H locs ls hP hS (lv_sub hl [0, 2, 3, 4, 5] rfl)
      · skip
        have hc_17 := zl_nle rfl rfl c_17
        refine lv_lload hx hb dX6_mostLikely_40 (lv_at hl 0 rfl) ?_
        refine lv_lstore_n (lv' := [(3, .long r_10), (6, .long r_10), (5, .int i), (2, .int bs), (0, .ref (q 0)), (1, .ref (qD q d0 0))]) hx hb dX6_mostLikely_42 rfl hl (by decide) rfl (fun ls hl => ?_)
        refine lv_iload hx hb dX6_mostLikely_43 (lv_at hl 2 rfl) ?_
        refine lv_istore_n (lv' := [(2, .int i), (3, .long r_10), (6, .long r_10), (5, .int i), (0, .ref (q 0)), (1, .ref (qD q d0 0))]) hx hb dX6_mostLikely_45 rfl hl (by decide) rfl (fun ls hl => ?_)
        obtain ⟨x_19, ex_19⟩ : ∃ y : Int32, y = i + 1 := ⟨_, rfl⟩
        have hx_19 : x_19.toInt = i.toInt + 1 := z_add ex_19 rfl (show (1 : Int32).toInt = 1 by decide) (by omega)
        refine lv_iinc (v := x_19) (lv' := [(5, .int x_19), (2, .int i), (3, .long r_10), (6, .long r_10), (0, .ref (q 0)), (1, .ref (qD q d0 0))]) hx hb dX6_mostLikely_46 hl (k := 3) rfl (by rw [ex_19]; rfl) (by decide) rfl (fun ls hl => ?_)
        refine lv_goto (tgt := 12) hx hb dX6_mostLikely_49 (by decide) ?_
        exact ih12 ((13 - x_19.toInt).toNat) (by omega) i r_10 x_19 u_11 ⟨(show 1 ≤ x_19.toInt ∧ x_19.toInt ≤ 13 by omega), hI, hT, h82⟩ rfl H locs ls hP hS (lv_sub hl [0, 2, 1, 4, 5] rfl)
