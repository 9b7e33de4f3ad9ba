set_option maxHeartbeats 4000000 in
set_option maxRecDepth 100000 in
theorem c_X7_faultOf (l : Launch) (dC : Nat → ClassId) (dI : Nat → Nat → Nat) (k : Nat → ClassId) (q : Nat → Nat) (z : ZS) (d : Int32) (sz : Nat) (hI : MInv z) (hd : 0 ≤ d.toInt ∧ d.toInt < 4) : Met l yX7_faultOf (wz yX7_faultOf cX7_faultOf 2 (some .int)) ({ frames := 4, cells := 0, slots := 0, locals := 93 }) (va_Pc [.ref (q 0), .int d] (zPre dC dI k (zTX k) (zM k q z) sz)) (va_Qi (fun (r : Int32) (u : (Nat → Int32) × (Nat → Int32) × (Nat → Int32) × (Nat → Int32) × (Nat → Int32) × (Nat → Int32) × (Nat → Int32) × Int32 × Int32 × Int32 × Int32 × (Nat → Int32) × (Nat → Int32) × (Nat → Int32)) => (MD (FR (z.2.2.1 2) (z.2.2.1 3)) u.1 u.2.1 u.2.2.1 u.2.2.2.1 u.2.2.2.2.1 u.2.2.2.2.2.1 u.2.2.2.2.2.2.1) ∧ (¬ u.1 d.toNatClampNeg = 0) ∧ (RK (z.2.2.1 4) (z.2.2.1 5) u.1 u.2.1) ∧ (R7 (z.2.2.1 4) (z.2.2.1 6) (z.2.2.1 7) (z.2.2.1 8) (z.2.2.1 9) (z.2.2.1 10) u.2.2.1 u.2.2.2.1 u.2.2.2.2.1 u.2.2.2.2.2.1 u.2.2.2.2.2.2.1) ∧ (r = u.2.1 d.toNatClampNeg)) (fun u t => zPost dC dI (va_A (zM k q z) sz) (zM k q (sA (sA (sA (sI (sI (sI (sI (sA (sA (sA (sA (sA (sA (sA z 4 u.1) 5 u.2.1) 6 u.2.2.1) 7 u.2.2.2.1) 8 u.2.2.2.2.1) 9 u.2.2.2.2.2.1) 10 u.2.2.2.2.2.2.1) 12 u.2.2.2.2.2.2.2.1) 13 u.2.2.2.2.2.2.2.2.1) 14 u.2.2.2.2.2.2.2.2.2.1) 15 u.2.2.2.2.2.2.2.2.2.2.1) 16 u.2.2.2.2.2.2.2.2.2.2.2.1) 17 u.2.2.2.2.2.2.2.2.2.2.2.2.1) 18 u.2.2.2.2.2.2.2.2.2.2.2.2.2)) t) (va_A (zM k q z) sz)) 0 0 (va_A (zM k q z) sz) := by
  refine Met.ofW (cc := cX7_faultOf) (maxL := 2) (ret := (some .int)) (by decide) rfl ?_
  intro p e s m args below meth c s₁ B hml hv
  obtain ⟨rfl, hsz, hP, hK, hD0⟩ := hv
  have hx := B.exec
  have hb := B.bytes
  have hr := B.returns
  have hts := atoms_spec (ws := wz yX7_faultOf cX7_faultOf 2 (some .int)) B.pre
  have htb : ∀ w ∈ zw, w.before _ s = true := fun w h => hts w (List.mem_cons_of_mem _ h)
  have hown : s.vm.findClass RX7 = some m.cls := findClass_of_methodNamed B.named
  have hlocks := B.notSynchronized
  clear hts
  subst hsz
  have hD := hD0.self (sz := s.heap.size)
  generalize hAe : va_A (zM k q z) s.heap.size = A at hD ⊢
  have hA : ∀ q : Nat, s.heap.size ≤ q → A q := fun q h => by rw [← hAe]; exact Or.inr h
  have hDa : ∀ z9 : ZS, va_D A (zM k q z9) := fun z9 => va_D_adr (w := zM k q z) rfl hD
  have hl := lv_entry ([.ref (q 0), .int d]) (n := 2) (Nat.le_of_ble_eq_true rfl)
  rw [lg_entry_eq]
  generalize (lg_sl ([.ref (q 0), .int d]) ++ List.replicate (2 - (lg_sl ([.ref (q 0), .int d])).length) Slot.unset).toArray = ls at hl ⊢
  have hl : lv_has ls 2 [(0, .ref (q 0)), (1, .int d)] := hl
  refine z_start2 (A := A) (w := (zM k q z)) hP (fun H locs hP hS => ?_)
  clear hD0 hAe
  refine lv_aload_n hx hb dX7_faultOf_0 rfl (lv_at hl 0 rfl) ?_
  refine lv_iload_n hx hb dX7_faultOf_1 rfl (lv_at hl 1 rfl) ?_
  refine zcA_v (w := (zM k q z)) (va_runV (As := [.int d]) (rest := []) ⟨hx, hb, hml, hown, htb⟩ (c_X7_reads l dC dI k q z d _ hI (show 0 ≤ d.toInt ∧ d.toInt < 4 by omega)) (cwV 1 htb (gzV wmt4_77 wmt4_79 wmp2_7 wmt1_8 wmt4_80) rfl rfl rfl (by decide +kernel) ⟨Nat.le_of_ble_eq_true rfl, Nat.le_of_ble_eq_true rfl⟩) (zpA_V (ci := 7) (q0 := 0) hK hP (hDa _) rfl rfl) rfl rfl hl.1 rfl (lv_room (Nat.le_of_ble_eq_true rfl)) dX7_faultOf_2 ⟨Nat.le_of_ble_eq_true rfl, Nat.le_of_ble_eq_true rfl⟩) (hDa _) hS hA (fun u_2 H locs w_3 hP _ hS => ?_)
  obtain ⟨o4_4, o5_5, o6_6, o7_7, o8_8, o9_9, o10_10, o12_11, o13_12, o14_13, o15_14, o16_15, o17_16, o18_17⟩ := u_2
  have hP : va_P (dC, dI) vwCl (zM k q (sA (sA (sA (sI (sI (sI (sI (sA (sA (sA (sA (sA (sA (sA z 4 o4_4) 5 o5_5) 6 o6_6) 7 o7_7) 8 o8_8) 9 o9_9) 10 o10_10) 12 o12_11) 13 o13_12) 14 o14_13) 15 o15_14) 16 o16_15) 17 o17_16) 18 o18_17)) H := hP
  obtain ⟨h_18, h_19, h_20, h_21⟩ := w_3
  replace h_18 : MD (FR ((z.2.2.1 2)) ((z.2.2.1 3))) o4_4 o5_5 o6_6 o7_7 o8_8 o9_9 o10_10 := h_18
  replace h_19 : ¬ o4_4 d.toNatClampNeg = 0 := h_19
  replace h_20 : RK ((z.2.2.1 4)) ((z.2.2.1 5)) o4_4 o5_5 := h_20
  replace h_21 : R7 ((z.2.2.1 4)) ((z.2.2.1 6)) ((z.2.2.1 7)) ((z.2.2.1 8)) ((z.2.2.1 9)) ((z.2.2.1 10)) o6_6 o7_7 o8_8 o9_9 o10_10 := h_21
  have hq0 := h_18
  have hq1 := h_19
  have hq2 := h_20
  have hq3 := h_21
  refine lv_aload_n hx hb dX7_faultOf_5 rfl (lv_at hl 0 rfl) ?_
  refine va_get (D := (dC, dI)) (ci := 7) (v := .ref (q 5)) (C := RX7) (T := TX7) (N := 42) hx hb htb inw7 hown hK.1 hP 0 rfl rfl 5 (by decide) (htb _ wmt3_172) (fun _ h9 => h9) rfl dX7_faultOf_6 ?_
  refine lv_iload_n hx hb dX7_faultOf_9 rfl (lv_at hl 1 rfl) ?_
  refine va_iald (D := (dC, dI)) hx hb hK.1 hP 4 0 rfl rfl (z_in (by omega)) dX7_faultOf_10 ?_
  refine lv_topi (fun x_23 ex_23 => ?_)
  replace ex_23 : x_23 = o5_5 d.toNatClampNeg := ex_23
  exact W.iret (v := x_23) hx hb hr (fun t ht hW => ⟨⟨x_23, (o4_4, o5_5, o6_6, o7_7, o8_8, o9_9, o10_10, o12_11, o13_12, o14_13, o15_14, o16_15, o17_16, o18_17), rfl, (show (MD (FR (z.2.2.1 2) (z.2.2.1 3)) o4_4 o5_5 o6_6 o7_7 o8_8 o9_9 o10_10) ∧ (¬ o4_4 d.toNatClampNeg = 0) ∧ (RK (z.2.2.1 4) (z.2.2.1 5) o4_4 o5_5) ∧ (R7 (z.2.2.1 4) (z.2.2.1 6) (z.2.2.1 7) (z.2.2.1 8) (z.2.2.1 9) (z.2.2.1 10) o6_6 o7_7 o8_8 o9_9 o10_10) ∧ (x_23 = o5_5 d.toNatClampNeg) from ⟨hq0, hq1, hq2, hq3, ex_23⟩), ⟨by rw [ht]; exact hP, hDa _⟩⟩, hS.F ht⟩) hS.2.2 dX7_faultOf_11
set_option maxHeartbeats 4000000 in
set_option maxRecDepth 100000 in
theorem c_X7_base (l : Launch) (dC : Nat → ClassId) (dI : Nat → Nat → Nat) (k : Nat → ClassId) (q : Nat → Nat) (z : ZS) (d : Int32) (sz : Nat) (hd : 0 ≤ d.toInt ∧ d.toInt < 4) (hms : MS (FR (z.2.2.1 2) (z.2.2.1 3) d.toNatClampNeg) (z.2.2.1 4 d.toNatClampNeg) (z.2.2.1 5 d.toNatClampNeg) (z.2.2.1 6 d.toNatClampNeg) (z.2.2.1 7 d.toNatClampNeg) (z.2.2.1 8 d.toNatClampNeg) (z.2.2.1 9 d.toNatClampNeg) (z.2.2.1 10 d.toNatClampNeg)) : Met l yX7_base (wz yX7_base cX7_base 2 (some .long)) ({ frames := 0, cells := 0, slots := 0, locals := 0 }) (va_Pc [.ref (q 0), .int d] (zPre dC dI k (zTX k) (zM k q z) sz)) (va_Ql (fun (r : Int64) (u : Unit) => (r.toInt = 24 * (z.2.2.1 6 d.toNatClampNeg).toInt)) (fun u t => zPost dC dI (va_A (zM k q z) sz) (zM k q z) t) (va_A (zM k q z) sz)) 0 0 (va_A (zM k q z) sz) := by
  refine Met.ofW (cc := cX7_base) (maxL := 2) (ret := (some .long)) (by decide) rfl ?_
  intro p e s m args below meth c s₁ B hml hv
  obtain ⟨rfl, hsz, hP, hK, hD0⟩ := hv
  have hx := B.exec
  have hb := B.bytes
  have hr := B.returns
  have hts := atoms_spec (ws := wz yX7_base cX7_base 2 (some .long)) B.pre
  have htb : ∀ w ∈ zw, w.before _ s = true := fun w h => hts w (List.mem_cons_of_mem _ h)
  have hown : s.vm.findClass RX7 = some m.cls := findClass_of_methodNamed B.named
  have hlocks := B.notSynchronized
  clear hts
  subst hsz
  have hD := hD0.self (sz := s.heap.size)
  generalize hAe : va_A (zM k q z) s.heap.size = A at hD ⊢
  have hA : ∀ q : Nat, s.heap.size ≤ q → A q := fun q h => by rw [← hAe]; exact Or.inr h
  have hDa : ∀ z9 : ZS, va_D A (zM k q z9) := fun z9 => va_D_adr (w := zM k q z) rfl hD
  have hl := lv_entry ([.ref (q 0), .int d]) (n := 2) (Nat.le_of_ble_eq_true rfl)
  rw [lg_entry_eq]
  generalize (lg_sl ([.ref (q 0), .int d]) ++ List.replicate (2 - (lg_sl ([.ref (q 0), .int d])).length) Slot.unset).toArray = ls at hl ⊢
  have hl : lv_has ls 2 [(0, .ref (q 0)), (1, .int d)] := hl
  refine z_start2 (A := A) (w := (zM k q z)) hP (fun H locs hP hS => ?_)
  clear hD0 hAe
  obtain ⟨hms1, hms2, hms3, hms4, hms5, -⟩ := hms
  refine lv_ldc2 (v := 24) hx hb hown (htb _ wmt4_124) dX7_base_0 ?_
  refine lv_aload_n hx hb dX7_base_3 rfl (lv_at hl 0 rfl) ?_
  refine va_get (D := (dC, dI)) (ci := 7) (v := .ref (q 6)) (C := RX7) (T := TX7) (N := 42) hx hb htb inw7 hown hK.1 hP 0 rfl rfl 6 (by decide) (htb _ wmt3_173) (fun _ h9 => h9) rfl dX7_base_4 ?_
  refine lv_iload_n hx hb dX7_base_7 rfl (lv_at hl 1 rfl) ?_
  refine va_iald (D := (dC, dI)) hx hb hK.1 hP 5 0 rfl rfl (z_in (by omega)) dX7_base_8 ?_
  refine lv_topi (fun x_1 ex_1 => ?_)
  have hx_1 : x_1.toInt = ((z.2.2.1 6) d.toNatClampNeg).toInt := by rw [ex_1]
  refine lv_i2l (v := x_1.toInt64) hx hb dX7_base_9 rfl ?_
  refine lv_topl (fun x_2 ex_2 => ?_)
  have hx_2 : x_2.toInt = x_1.toInt := by rw [ex_2]; exact Jvm.Kit.i64_of_i32 _
  refine lv_lmul hx hb dX7_base_10 ?_
  refine lv_topl (fun x_3 ex_3 => ?_)
  have hx_3 := zl_mul ex_3 (show (24 : Int64).toInt = 24 by decide) rfl (by omega)
  exact W.lret (v := x_3) hx hb hr (fun t ht hW => ⟨⟨x_3, (), rfl, (by omega), ⟨by rw [ht]; exact hP, hDa _⟩⟩, hS.F ht⟩) hS.2.2 dX7_base_11
set_option maxHeartbeats 4000000 in
set_option maxRecDepth 100000 in
theorem c_X7_yesIf (l : Launch) (dC : Nat → ClassId) (dI : Nat → Nat → Nat) (k : Nat → ClassId) (q : Nat → Nat) (z : ZS) (d : Int32) (ha : Int32) (sz : Nat) (hI : MInv z) (hd : 0 ≤ d.toInt ∧ d.toInt < 4) (hms : MS (FR (z.2.2.1 2) (z.2.2.1 3) d.toNatClampNeg) (z.2.2.1 4 d.toNatClampNeg) (z.2.2.1 5 d.toNatClampNeg) (z.2.2.1 6 d.toNatClampNeg) (z.2.2.1 7 d.toNatClampNeg) (z.2.2.1 8 d.toNatClampNeg) (z.2.2.1 9 d.toNatClampNeg) (z.2.2.1 10 d.toNatClampNeg)) : Met l yX7_yesIf (wz yX7_yesIf cX7_yesIf 4 (some .long)) ({ frames := 0, cells := 0, slots := 0, locals := 0 }) (va_Pc [.ref (q 0), .int d, .int ha] (zPre dC dI k (zTX k) (zM k q z) sz)) (va_Ql (fun (r : Int64) (u : Unit) => (0 ≤ r.toInt ∧ r.toInt ≤ 720000) ∧ (((z.2.2.1 7 d.toNatClampNeg).toInt + (z.2.2.1 8 d.toNatClampNeg).toInt + (z.2.2.1 9 d.toNatClampNeg).toInt + (z.2.2.1 10 d.toNatClampNeg).toInt ≤ (z.2.2.1 6 d.toNatClampNeg).toInt → r.toInt ≤ 24 * (z.2.2.1 6 d.toNatClampNeg).toInt)) ∧ (r.toInt = yI (z.2.2.1 7 d.toNatClampNeg) (z.2.2.1 8 d.toNatClampNeg) (z.2.2.1 9 d.toNatClampNeg) (z.2.2.1 10 d.toNatClampNeg) (z.1 11) ha)) (fun u t => zPost dC dI (va_A (zM k q z) sz) (zM k q z) t) (va_A (zM k q z) sz)) 0 0 (va_A (zM k q z) sz) := by
  refine Met.ofW (cc := cX7_yesIf) (maxL := 4) (ret := (some .long)) (by decide) rfl ?_
  intro p e s m args below meth c s₁ B hml hv
  obtain ⟨rfl, hsz, hP, hK, hD0⟩ := hv
  have hx := B.exec
  have hb := B.bytes
  have hr := B.returns
  have hts := atoms_spec (ws := wz yX7_yesIf cX7_yesIf 4 (some .long)) B.pre
  have htb : ∀ w ∈ zw, w.before _ s = true := fun w h => hts w (List.mem_cons_of_mem _ h)
  have hown : s.vm.findClass RX7 = some m.cls := findClass_of_methodNamed B.named
  have hlocks := B.notSynchronized
  clear hts
  subst hsz
  have hD := hD0.self (sz := s.heap.size)
  generalize hAe : va_A (zM k q z) s.heap.size = A at hD ⊢
  have hA : ∀ q : Nat, s.heap.size ≤ q → A q := fun q h => by rw [← hAe]; exact Or.inr h
  have hDa : ∀ z9 : ZS, va_D A (zM k q z9) := fun z9 => va_D_adr (w := zM k q z) rfl hD
  have hl := lv_entry ([.ref (q 0), .int d, .int ha]) (n := 4) (Nat.le_of_ble_eq_true rfl)
  rw [lg_entry_eq]
  generalize (lg_sl ([.ref (q 0), .int d, .int ha]) ++ List.replicate (4 - (lg_sl ([.ref (q 0), .int d, .int ha])).length) Slot.unset).toArray = ls at hl ⊢
  have hl : lv_has ls 4 [(0, .ref (q 0)), (1, .int d), (2, .int ha)] := hl
  refine z_start2 (A := A) (w := (zM k q z)) hP (fun H locs hP hS => ?_)
  clear hD0 hAe
  obtain ⟨hms1, hms2, hms3, hms4, hms5, -⟩ := hms
  have ho := hI.2.2.1
  refine lv_iload_n hx hb dX7_yesIf_0 rfl (lv_at hl 2 rfl) ?_
  refine lv_iconst (v := 1) hx hb dX7_yesIf_1 (by decide) ?_
  refine lv_icmp_ne (tgt := 14) hx hb dX7_yesIf_2 (by decide) (fun c_1 => ?_) (fun c_1 => ?_)
  · skip
    have hc_1 := zb_ne rfl (show (1 : Int32).toInt = 1 by decide) c_1
    refine lv_aload_n hx hb dX7_yesIf_14 rfl (lv_at hl 0 rfl) ?_
    refine va_get (D := (dC, dI)) (ci := 7) (v := .ref (q 8)) (C := RX7) (T := TX7) (N := 42) hx hb htb inw7 hown hK.1 hP 0 rfl rfl 8 (by decide) (htb _ wmt3_175) (fun _ h9 => h9) rfl dX7_yesIf_15 ?_
    refine lv_iload_n hx hb dX7_yesIf_18 rfl (lv_at hl 1 rfl) ?_
    refine va_iald (D := (dC, dI)) hx hb hK.1 hP 7 0 rfl rfl (z_in (by omega)) dX7_yesIf_19 ?_
    refine lv_topi (fun x_2 ex_2 => ?_)
    have hx_2 : x_2.toInt = ((z.2.2.1 8) d.toNatClampNeg).toInt := by rw [ex_2]
    refine lv_aload_n hx hb dX7_yesIf_20 rfl (lv_at hl 0 rfl) ?_
    refine va_get (D := (dC, dI)) (ci := 7) (v := .ref (q 9)) (C := RX7) (T := TX7) (N := 42) hx hb htb inw7 hown hK.1 hP 0 rfl rfl 9 (by decide) (htb _ wmt3_176) (fun _ h9 => h9) rfl dX7_yesIf_21 ?_
    refine lv_iload_n hx hb dX7_yesIf_24 rfl (lv_at hl 1 rfl) ?_
    refine va_iald (D := (dC, dI)) hx hb hK.1 hP 8 0 rfl rfl (z_in (by omega)) dX7_yesIf_25 ?_
    refine lv_topi (fun x_3 ex_3 => ?_)
    have hx_3 : x_3.toInt = ((z.2.2.1 9) d.toNatClampNeg).toInt := by rw [ex_3]
    refine lv_iadd hx hb dX7_yesIf_26 ?_
    refine lv_topi (fun x_4 ex_4 => ?_)
    have hx_4 := z_add ex_4 rfl rfl (by omega)
    refine lv_istore_n (lv' := [(3, .int x_4), (0, .ref (q 0)), (1, .int d), (2, .int ha)]) hx hb dX7_yesIf_27 rfl hl (by decide) rfl (fun ls hl => ?_)
    refine lv_ldc2 (v := 24) hx hb hown (htb _ wmt4_124) dX7_yesIf_28 ?_
    refine lv_iload_n hx hb dX7_yesIf_31 rfl (lv_at hl 0 rfl) ?_
    refine lv_i2l (v := x_4.toInt64) hx hb dX7_yesIf_32 rfl ?_
    refine lv_topl (fun x_5 ex_5 => ?_)
    have hx_5 : x_5.toInt = x_4.toInt := by rw [ex_5]; exact Jvm.Kit.i64_of_i32 _
    refine lv_lmul hx hb dX7_yesIf_33 ?_
    refine lv_topl (fun x_6 ex_6 => ?_)
    have hx_6 := zl_mul ex_6 (show (24 : Int64).toInt = 24 by decide) rfl (by omega)
    refine lv_aload_n hx hb dX7_yesIf_34 rfl (lv_at hl 1 rfl) ?_
    refine va_get (D := (dC, dI)) (ci := 7) (v := .ref (q 10)) (C := RX7) (T := TX7) (N := 42) hx hb htb inw7 hown hK.1 hP 0 rfl rfl 10 (by decide) (htb _ wmt3_177) (fun _ h9 => h9) rfl dX7_yesIf_35 ?_
    refine lv_iload_n hx hb dX7_yesIf_38 rfl (lv_at hl 2 rfl) ?_
    refine va_iald (D := (dC, dI)) hx hb hK.1 hP 9 0 rfl rfl (z_in (by omega)) dX7_yesIf_39 ?_
    refine lv_topi (fun x_7 ex_7 => ?_)
    have hx_7 : x_7.toInt = ((z.2.2.1 10) d.toNatClampNeg).toInt := by rw [ex_7]
    refine lv_i2l (v := x_7.toInt64) hx hb dX7_yesIf_40 rfl ?_
    refine lv_topl (fun x_8 ex_8 => ?_)
    have hx_8 : x_8.toInt = x_7.toInt := by rw [ex_8]; exact Jvm.Kit.i64_of_i32 _
    refine lv_aload_n hx hb dX7_yesIf_41 rfl (lv_at hl 1 rfl) ?_
    refine va_get (D := (dC, dI)) (ci := 7) (v := .int (z.1 11)) (C := RX7) (T := TX7) (N := 42) hx hb htb inw7 hown hK.1 hP 0 rfl rfl 11 (by decide) (htb _ wmt3_178) (fun _ h9 => h9) rfl dX7_yesIf_42 ?_
    refine lv_topi (fun x_9 ex_9 => ?_)
    have hx_9 : x_9.toInt = (z.1 11).toInt := by rw [ex_9]
    refine lv_i2l (v := x_9.toInt64) hx hb dX7_yesIf_45 rfl ?_
    refine lv_topl (fun x_10 ex_10 => ?_)
    have hx_10 : x_10.toInt = x_9.toInt := by rw [ex_10]; exact Jvm.Kit.i64_of_i32 _
    refine lv_lmul hx hb dX7_yesIf_46 ?_
    refine lv_topl (fun x_11 ex_11 => ?_)
    have qx_11 := z_mulb (a := x_8.toInt) (b := x_10.toInt) (A := x_8.toInt) (B := 24) (by omega) (by omega)
    have hx_11 := zl_mul ex_11 rfl rfl (by omega)
    have gx_11 : x_11.toInt = (z.2.2.1 10 d.toNatClampNeg).toInt * (z.1 11).toInt := by rw [hx_11, hx_8, hx_7, hx_10, hx_9]
    refine lv_ladd hx hb dX7_yesIf_47 ?_
    refine lv_topl (fun x_12 ex_12 => ?_)
    have hx_12 := zl_add ex_12 rfl rfl (by omega)
    exact W.lret (v := x_12) hx hb hr (fun t ht hW => ⟨⟨x_12, (), rfl, ⟨by omega, fun q9 => by omega, by unfold yI; split <;> omega⟩, ⟨by rw [ht]; exact hP, hDa _⟩⟩, hS.F ht⟩) hS.2.2 dX7_yesIf_48
  · skip
    have hc_1 := zb_eq rfl (show (1 : Int32).toInt = 1 by decide) c_1
    refine lv_aload_n hx hb dX7_yesIf_5 rfl (lv_at hl 0 rfl) ?_
    refine va_get (D := (dC, dI)) (ci := 7) (v := .ref (q 7)) (C := RX7) (T := TX7) (N := 42) hx hb htb inw7 hown hK.1 hP 0 rfl rfl 7 (by decide) (htb _ wmt3_174) (fun _ h9 => h9) rfl dX7_yesIf_6 ?_
    refine lv_iload_n hx hb dX7_yesIf_9 rfl (lv_at hl 1 rfl) ?_
    refine va_iald (D := (dC, dI)) hx hb hK.1 hP 6 0 rfl rfl (z_in (by omega)) dX7_yesIf_10 ?_
    refine lv_topi (fun x_13 ex_13 => ?_)
    have hx_13 : x_13.toInt = ((z.2.2.1 7) d.toNatClampNeg).toInt := by rw [ex_13]
    refine lv_goto (tgt := 20) hx hb dX7_yesIf_11 (by decide) ?_
    refine lv_aload_n hx hb dX7_yesIf_20 rfl (lv_at hl 0 rfl) ?_
    refine va_get (D := (dC, dI)) (ci := 7) (v := .ref (q 9)) (C := RX7) (T := TX7) (N := 42) hx hb htb inw7 hown hK.1 hP 0 rfl rfl 9 (by decide) (htb _ wmt3_176) (fun _ h9 => h9) rfl dX7_yesIf_21 ?_
    refine lv_iload_n hx hb dX7_yesIf_24 rfl (lv_at hl 1 rfl) ?_
    refine va_iald (D := (dC, dI)) hx hb hK.1 hP 8 0 rfl rfl (z_in (by omega)) dX7_yesIf_25 ?_
    refine lv_topi (fun x_14 ex_14 => ?_)
    have hx_14 : x_14.toInt = ((z.2.2.1 9) d.toNatClampNeg).toInt := by rw [ex_14]
    refine lv_iadd hx hb dX7_yesIf_26 ?_
    refine lv_topi (fun x_15 ex_15 => ?_)
    have hx_15 := z_add ex_15 rfl rfl (by omega)
    refine lv_istore_n (lv' := [(3, .int x_15), (0, .ref (q 0)), (1, .int d), (2, .int ha)]) hx hb dX7_yesIf_27 rfl hl (by decide) rfl (fun ls hl => ?_)
    refine lv_ldc2 (v := 24) hx hb hown (htb _ wmt4_124) dX7_yesIf_28 ?_
    refine lv_iload_n hx hb dX7_yesIf_31 rfl (lv_at hl 0 rfl) ?_
    refine lv_i2l (v := x_15.toInt64) hx hb dX7_yesIf_32 rfl ?_
    refine lv_topl (fun x_16 ex_16 => ?_)
    have hx_16 : x_16.toInt = x_15.toInt := by rw [ex_16]; exact Jvm.Kit.i64_of_i32 _
    refine lv_lmul hx hb dX7_yesIf_33 ?_
    refine lv_topl (fun x_17 ex_17 => ?_)
    have hx_17 := zl_mul ex_17 (show (24 : Int64).toInt = 24 by decide) rfl (by omega)
    refine lv_aload_n hx hb dX7_yesIf_34 rfl (lv_at hl 1 rfl) ?_
    refine va_get (D := (dC, dI)) (ci := 7) (v := .ref (q 10)) (C := RX7) (T := TX7) (N := 42) hx hb htb inw7 hown hK.1 hP 0 rfl rfl 10 (by decide) (htb _ wmt3_177) (fun _ h9 => h9) rfl dX7_yesIf_35 ?_
    refine lv_iload_n hx hb dX7_yesIf_38 rfl (lv_at hl 2 rfl) ?_
    refine va_iald (D := (dC, dI)) hx hb hK.1 hP 9 0 rfl rfl (z_in (by omega)) dX7_yesIf_39 ?_
    refine lv_topi (fun x_18 ex_18 => ?_)
    have hx_18 : x_18.toInt = ((z.2.2.1 10) d.toNatClampNeg).toInt := by rw [ex_18]
    refine lv_i2l (v := x_18.toInt64) hx hb dX7_yesIf_40 rfl ?_
    refine lv_topl (fun x_19 ex_19 => ?_)
    have hx_19 : x_19.toInt = x_18.toInt := by rw [ex_19]; exact Jvm.Kit.i64_of_i32 _
    refine lv_aload_n hx hb dX7_yesIf_41 rfl (lv_at hl 1 rfl) ?_
    refine va_get (D := (dC, dI)) (ci := 7) (v := .int (z.1 11)) (C := RX7) (T := TX7) (N := 42) hx hb htb inw7 hown hK.1 hP 0 rfl rfl 11 (by decide) (htb _ wmt3_178) (fun _ h9 => h9) rfl dX7_yesIf_42 ?_
    refine lv_topi (fun x_20 ex_20 => ?_)
    have hx_20 : x_20.toInt = (z.1 11).toInt := by rw [ex_20]
    refine lv_i2l (v := x_20.toInt64) hx hb dX7_yesIf_45 rfl ?_
    refine lv_topl (fun x_21 ex_21 => ?_)
    have hx_21 : x_21.toInt = x_20.toInt := by rw [ex_21]; exact Jvm.Kit.i64_of_i32 _
    refine lv_lmul hx hb dX7_yesIf_46 ?_
    refine lv_topl (fun x_22 ex_22 => ?_)
    have qx_22 := z_mulb (a := x_19.toInt) (b := x_21.toInt) (A := x_19.toInt) (B := 24) (by omega) (by omega)
    have hx_22 := zl_mul ex_22 rfl rfl (by omega)
    have gx_22 : x_22.toInt = (z.2.2.1 10 d.toNatClampNeg).toInt * (z.1 11).toInt := by rw [hx_22, hx_19, hx_18, hx_21, hx_20]
    refine lv_ladd hx hb dX7_yesIf_47 ?_
    refine lv_topl (fun x_23 ex_23 => ?_)
    have hx_23 := zl_add ex_23 rfl rfl (by omega)
    exact W.lret (v := x_23) hx hb hr (fun t ht hW => ⟨⟨x_23, (), rfl, ⟨by omega, fun q9 => by omega, by unfold yI; split <;> omega⟩, ⟨by rw [ht]; exact hP, hDa _⟩⟩, hS.F ht⟩) hS.2.2 dX7_yesIf_48
set_option maxHeartbeats 4000000 in
set_option maxRecDepth 100000 in
theorem c_X7_more (l : Launch) (dC : Nat → ClassId) (dI : Nat → Nat → Nat) (k : Nat → ClassId) (q : Nat → Nat) (z : ZS) (d : Int32) (sz : Nat) (hI : MInv z) (hd : 0 ≤ d.toInt ∧ d.toInt < 4) (hms : MS (FR (z.2.2.1 2) (z.2.2.1 3) d.toNatClampNeg) (z.2.2.1 4 d.toNatClampNeg) (z.2.2.1 5 d.toNatClampNeg) (z.2.2.1 6 d.toNatClampNeg) (z.2.2.1 7 d.toNatClampNeg) (z.2.2.1 8 d.toNatClampNeg) (z.2.2.1 9 d.toNatClampNeg) (z.2.2.1 10 d.toNatClampNeg)) : Met l yX7_more (wz yX7_more cX7_more 2 (some .long)) ({ frames := 1, cells := 0, slots := 0, locals := 23 }) (va_Pc [.ref (q 0), .int d] (zPre dC dI k (zTX k) (zM k q z) sz)) (va_Ql (fun (r : Int64) (u : Unit) => (-720000 ≤ r.toInt ∧ r.toInt ≤ 720000) ∧ (r.toInt = yI (z.2.2.1 7 d.toNatClampNeg) (z.2.2.1 8 d.toNatClampNeg) (z.2.2.1 9 d.toNatClampNeg) (z.2.2.1 10 d.toNatClampNeg) (z.1 11) 1 - yI (z.2.2.1 7 d.toNatClampNeg) (z.2.2.1 8 d.toNatClampNeg) (z.2.2.1 9 d.toNatClampNeg) (z.2.2.1 10 d.toNatClampNeg) (z.1 11) 0)) (fun u t => zPost dC dI (va_A (zM k q z) sz) (zM k q z) t) (va_A (zM k q z) sz)) 0 0 (va_A (zM k q z) sz) := by
  refine Met.ofW (cc := cX7_more) (maxL := 2) (ret := (some .long)) (by decide) rfl ?_
  intro p e s m args below meth c s₁ B hml hv
  obtain ⟨rfl, hsz, hP, hK, hD0⟩ := hv
  have hx := B.exec
  have hb := B.bytes
  have hr := B.returns
  have hts := atoms_spec (ws := wz yX7_more cX7_more 2 (some .long)) B.pre
  have htb : ∀ w ∈ zw, w.before _ s = true := fun w h => hts w (List.mem_cons_of_mem _ h)
  have hown : s.vm.findClass RX7 = some m.cls := findClass_of_methodNamed B.named
  have hlocks := B.notSynchronized
  clear hts
  subst hsz
  have hD := hD0.self (sz := s.heap.size)
  generalize hAe : va_A (zM k q z) s.heap.size = A at hD ⊢
  have hA : ∀ q : Nat, s.heap.size ≤ q → A q := fun q h => by rw [← hAe]; exact Or.inr h
  have hDa : ∀ z9 : ZS, va_D A (zM k q z9) := fun z9 => va_D_adr (w := zM k q z) rfl hD
  have hl := lv_entry ([.ref (q 0), .int d]) (n := 2) (Nat.le_of_ble_eq_true rfl)
  rw [lg_entry_eq]
  generalize (lg_sl ([.ref (q 0), .int d]) ++ List.replicate (2 - (lg_sl ([.ref (q 0), .int d])).length) Slot.unset).toArray = ls at hl ⊢
  have hl : lv_has ls 2 [(0, .ref (q 0)), (1, .int d)] := hl
  refine z_start2 (A := A) (w := (zM k q z)) hP (fun H locs hP hS => ?_)
  clear hD0 hAe
  refine lv_aload_n hx hb dX7_more_0 rfl (lv_at hl 0 rfl) ?_
  refine lv_iload_n hx hb dX7_more_1 rfl (lv_at hl 1 rfl) ?_
  refine lv_iconst (v := 1) hx hb dX7_more_2 (by decide) ?_
  refine zcA_l (w := (zM k q z)) (va_runV (As := [.int d, .int 1]) (rest := []) ⟨hx, hb, hml, hown, htb⟩ (c_X7_yesIf l dC dI k q z d 1 _ hI hd hms) (cwV 2 htb (gzV wmt4_120 wmt4_122 wmp2_14 wmt1_8 wmt4_123) rfl rfl rfl (by decide +kernel) ⟨Nat.le_of_ble_eq_true rfl, Nat.le_of_ble_eq_true rfl⟩) (zpA_V (ci := 7) (q0 := 0) hK hP (hDa _) rfl rfl) rfl rfl hl.1 rfl (lv_room (Nat.le_of_ble_eq_true rfl)) dX7_more_3 ⟨Nat.le_of_ble_eq_true rfl, Nat.le_of_ble_eq_true rfl⟩) (hDa _) hS hA (fun r_1 u_2 H locs w_3 hP _ hS => ?_)
  obtain ⟨h_4, h_5, h_6⟩ := w_3
  replace h_4 : 0 ≤ r_1.toInt ∧ r_1.toInt ≤ 720000 := h_4
  replace h_5 : (((z.2.2.1 7) d.toNatClampNeg).toInt + ((z.2.2.1 8) d.toNatClampNeg).toInt + ((z.2.2.1 9) d.toNatClampNeg).toInt + ((z.2.2.1 10) d.toNatClampNeg).toInt ≤ ((z.2.2.1 6) d.toNatClampNeg).toInt → r_1.toInt ≤ 24 * ((z.2.2.1 6) d.toNatClampNeg).toInt) := h_5
  replace h_6 : r_1.toInt = yI ((z.2.2.1 7) d.toNatClampNeg) ((z.2.2.1 8) d.toNatClampNeg) ((z.2.2.1 9) d.toNatClampNeg) ((z.2.2.1 10) d.toNatClampNeg) ((z.1 11)) (1 : Int32) := h_6
  refine lv_aload_n hx hb dX7_more_6 rfl (lv_at hl 0 rfl) ?_
  refine lv_iload_n hx hb dX7_more_7 rfl (lv_at hl 1 rfl) ?_
  refine lv_iconst (v := 0) hx hb dX7_more_8 (by decide) ?_
  refine zcA_l (w := (zM k q z)) (va_runV (As := [.int d, .int 0]) (rest := [.long r_1]) ⟨hx, hb, hml, hown, htb⟩ (c_X7_yesIf l dC dI k q z d 0 _ hI hd hms) (cwV 2 htb (gzV wmt4_120 wmt4_122 wmp2_14 wmt1_8 wmt4_123) rfl rfl rfl (by decide +kernel) ⟨Nat.le_of_ble_eq_true rfl, Nat.le_of_ble_eq_true rfl⟩) (zpA_V (ci := 7) (q0 := 0) hK hP (hDa _) rfl rfl) rfl rfl hl.1 rfl (lv_room (Nat.le_of_ble_eq_true rfl)) dX7_more_9 ⟨Nat.le_of_ble_eq_true rfl, Nat.le_of_ble_eq_true rfl⟩) (hDa _) hS hA (fun r_8 u_9 H locs w_10 hP _ hS => ?_)
  obtain ⟨h_11, h_12, h_13⟩ := w_10
  replace h_11 : 0 ≤ r_8.toInt ∧ r_8.toInt ≤ 720000 := h_11
  replace h_12 : (((z.2.2.1 7) d.toNatClampNeg).toInt + ((z.2.2.1 8) d.toNatClampNeg).toInt + ((z.2.2.1 9) d.toNatClampNeg).toInt + ((z.2.2.1 10) d.toNatClampNeg).toInt ≤ ((z.2.2.1 6) d.toNatClampNeg).toInt → r_8.toInt ≤ 24 * ((z.2.2.1 6) d.toNatClampNeg).toInt) := h_12
  replace h_13 : r_8.toInt = yI ((z.2.2.1 7) d.toNatClampNeg) ((z.2.2.1 8) d.toNatClampNeg) ((z.2.2.1 9) d.toNatClampNeg) ((z.2.2.1 10) d.toNatClampNeg) ((z.1 11)) (0 : Int32) := h_13
  refine lv_lsub hx hb dX7_more_12 ?_
  refine lv_topl (fun x_15 ex_15 => ?_)
  have hx_15 := zl_sub ex_15 rfl rfl (by omega)
  exact W.lret (v := x_15) hx hb hr (fun t ht hW => ⟨⟨x_15, (), rfl, ⟨by omega, by omega⟩, ⟨by rw [ht]; exact hP, hDa _⟩⟩, hS.F ht⟩) hS.2.2 dX7_more_13
set_option maxHeartbeats 4000000 in
set_option maxRecDepth 100000 in
theorem c_X7_saysOf (l : Launch) (dC : Nat → ClassId) (dI : Nat → Nat → Nat) (k : Nat → ClassId) (q : Nat → Nat) (z : ZS) (d : Int32) (ha : Int32) (w : Int32) (sz : Nat) (hI : MInv z) (hd : 0 ≤ d.toInt ∧ d.toInt < 4) : Met l yX7_saysOf (wz yX7_saysOf cX7_saysOf 4 (some .long)) ({ frames := 5, cells := 0, slots := 0, locals := 114 }) (va_Pc [.ref (q 0), .int d, .int ha, .int w] (zPre dC dI k (zTX k) (zM k q z) sz)) (va_Ql (fun (r : Int64) (u : (Nat → Int32) × (Nat → Int32) × (Nat → Int32) × (Nat → Int32) × (Nat → Int32) × (Nat → Int32) × (Nat → Int32) × Int32 × Int32 × Int32 × Int32 × (Nat → Int32) × (Nat → Int32) × (Nat → Int32) × Int64 × Int64) => (MD (FR (z.2.2.1 2) (z.2.2.1 3)) u.1 u.2.1 u.2.2.1 u.2.2.2.1 u.2.2.2.2.1 u.2.2.2.2.2.1 u.2.2.2.2.2.2.1) ∧ (r.toInt = tSy (trM z) d.toNatClampNeg ha.toInt w.toInt)) (fun u t => zPost dC dI (va_A (zM k q z) sz) (zM k q (sJ (sJ (sA (sA (sA (sI (sI (sI (sI (sA (sA (sA (sA (sA (sA (sA z 4 u.1) 5 u.2.1) 6 u.2.2.1) 7 u.2.2.2.1) 8 u.2.2.2.2.1) 9 u.2.2.2.2.2.1) 10 u.2.2.2.2.2.2.1) 12 u.2.2.2.2.2.2.2.1) 13 u.2.2.2.2.2.2.2.2.1) 14 u.2.2.2.2.2.2.2.2.2.1) 15 u.2.2.2.2.2.2.2.2.2.2.1) 16 u.2.2.2.2.2.2.2.2.2.2.2.1) 17 u.2.2.2.2.2.2.2.2.2.2.2.2.1) 18 u.2.2.2.2.2.2.2.2.2.2.2.2.2.1) 0 u.2.2.2.2.2.2.2.2.2.2.2.2.2.2.1) 1 u.2.2.2.2.2.2.2.2.2.2.2.2.2.2.2)) t) (va_A (zM k q z) sz)) 0 0 (va_A (zM k q z) sz) := by
  refine Met.ofW (cc := cX7_saysOf) (maxL := 4) (ret := (some .long)) (by decide) rfl ?_
  intro p e s m args below meth c s₁ B hml hv
  obtain ⟨rfl, hsz, hP, hK, hD0⟩ := hv
  have hx := B.exec
  have hb := B.bytes
  have hr := B.returns
  have hts := atoms_spec (ws := wz yX7_saysOf cX7_saysOf 4 (some .long)) B.pre
  have htb : ∀ w ∈ zw, w.before _ s = true := fun w h => hts w (List.mem_cons_of_mem _ h)
  have hown : s.vm.findClass RX7 = some m.cls := findClass_of_methodNamed B.named
  have hlocks := B.notSynchronized
  clear hts
  subst hsz
  have hD := hD0.self (sz := s.heap.size)
  generalize hAe : va_A (zM k q z) s.heap.size = A at hD ⊢
  have hA : ∀ q : Nat, s.heap.size ≤ q → A q := fun q h => by rw [← hAe]; exact Or.inr h
  have hDa : ∀ z9 : ZS, va_D A (zM k q z9) := fun z9 => va_D_adr (w := zM k q z) rfl hD
  have hl := lv_entry ([.ref (q 0), .int d, .int ha, .int w]) (n := 4) (Nat.le_of_ble_eq_true rfl)
  rw [lg_entry_eq]
  generalize (lg_sl ([.ref (q 0), .int d, .int ha, .int w]) ++ List.replicate (4 - (lg_sl ([.ref (q 0), .int d, .int ha, .int w])).length) Slot.unset).toArray = ls at hl ⊢
  have hl : lv_has ls 4 [(0, .ref (q 0)), (1, .int d), (2, .int ha), (3, .int w)] := hl
  refine z_start2 (A := A) (w := (zM k q z)) hP (fun H locs hP hS => ?_)
  clear hD0 hAe
  refine lv_aload_n hx hb dX7_saysOf_0 rfl (lv_at hl 0 rfl) ?_
  refine lv_iload_n hx hb dX7_saysOf_1 rfl (lv_at hl 1 rfl) ?_
  refine zcA_i (w := (zM k q z)) (va_runV (As := [.int d]) (rest := []) ⟨hx, hb, hml, hown, htb⟩ (c_X7_faultOf l dC dI k q z d _ hI (show 0 ≤ d.toInt ∧ d.toInt < 4 by omega)) (cwV 1 htb (gzV wmt4_73 wmt4_75 wmp2_6 wmt1_8 wmt4_76) rfl rfl rfl (by decide +kernel) ⟨Nat.le_of_ble_eq_true rfl, Nat.le_of_ble_eq_true rfl⟩) (zpA_V (ci := 7) (q0 := 0) hK hP (hDa _) rfl rfl) rfl rfl hl.1 rfl (lv_room (Nat.le_of_ble_eq_true rfl)) dX7_saysOf_2 ⟨Nat.le_of_ble_eq_true rfl, Nat.le_of_ble_eq_true rfl⟩) (hDa _) hS hA (fun r_1 u_2 H locs w_3 hP _ hS => ?_)
  obtain ⟨o4_4, o5_5, o6_6, o7_7, o8_8, o9_9, o10_10, o12_11, o13_12, o14_13, o15_14, o16_15, o17_16, o18_17⟩ := u_2
  have hP : va_P (dC, dI) vwCl (zM k q (sA (sA (sA (sI (sI (sI (sI (sA (sA (sA (sA (sA (sA (sA z 4 o4_4) 5 o5_5) 6 o6_6) 7 o7_7) 8 o8_8) 9 o9_9) 10 o10_10) 12 o12_11) 13 o13_12) 14 o14_13) 15 o15_14) 16 o16_15) 17 o17_16) 18 o18_17)) H := hP
  obtain ⟨h_18, h_19, h_20, h_21, h_22⟩ := w_3
  replace h_18 : MD (FR ((z.2.2.1 2)) ((z.2.2.1 3))) o4_4 o5_5 o6_6 o7_7 o8_8 o9_9 o10_10 := h_18
  replace h_19 : ¬ o4_4 d.toNatClampNeg = 0 := h_19
  replace h_20 : RK ((z.2.2.1 4)) ((z.2.2.1 5)) o4_4 o5_5 := h_20
  replace h_21 : R7 ((z.2.2.1 4)) ((z.2.2.1 6)) ((z.2.2.1 7)) ((z.2.2.1 8)) ((z.2.2.1 9)) ((z.2.2.1 10)) o6_6 o7_7 o8_8 o9_9 o10_10 := h_21
  replace h_22 : r_1 = o5_5 d.toNatClampNeg := h_22
  have hI : MInv (sA (sA (sA (sI (sI (sI (sI (sA (sA (sA (sA (sA (sA (sA z 4 o4_4) 5 o5_5) 6 o6_6) 7 o7_7) 8 o8_8) 9 o9_9) 10 o10_10) 12 o12_11) 13 o13_12) 14 o14_13) 15 o15_14) 16 o16_15) 17 o17_16) 18 o18_17) := ⟨hI.1, hI.2.1, hI.2.2.1, hI.2.2.2.1, hI.2.2.2.2.1, h_18⟩
  have hms := MD_at h_18 hd
  have hrd := h_19
  have hrk := h_20
  obtain ⟨hw, hff, hfF, hlk⟩ := hms.2.2.2.2.2 h_19
  have hwb := hms.1
  have hr5 : r_1.toInt = (o5_5 d.toNatClampNeg).toInt := by rw [h_22]
  have htF : tF (trM z) d.toNatClampNeg = o5_5 d.toNatClampNeg := (trM_Fg (z_cl4 hd)).trans (by unfold eF; rw [← hfF, Int32.ofInt_toInt])
  have ho24 := hI.2.2.1
  refine lv_iconst (v := (-1)) hx hb dX7_saysOf_5 (by decide) ?_
  refine lv_icmp_eq (tgt := 15) hx hb dX7_saysOf_6 (by decide) (fun c_24 => ?_) (fun c_24 => ?_)
  · skip
    have hc_24 := zb_eq rfl (show ((-1) : Int32).toInt = (-1) by decide) c_24
    refine lv_aload_n hx hb dX7_saysOf_15 rfl (lv_at hl 0 rfl) ?_
    refine lv_aload_n hx hb dX7_saysOf_16 rfl (lv_at hl 0 rfl) ?_
    refine lv_iload_n hx hb dX7_saysOf_17 rfl (lv_at hl 1 rfl) ?_
    refine lv_iload_n hx hb dX7_saysOf_18 rfl (lv_at hl 2 rfl) ?_
    refine zcA_l (w := (zM k q (sA (sA (sA (sI (sI (sI (sI (sA (sA (sA (sA (sA (sA (sA z 4 o4_4) 5 o5_5) 6 o6_6) 7 o7_7) 8 o8_8) 9 o9_9) 10 o10_10) 12 o12_11) 13 o13_12) 14 o14_13) 15 o15_14) 16 o16_15) 17 o17_16) 18 o18_17))) (va_runV (As := [.int d, .int ha]) (rest := [.ref (q 0)]) ⟨hx, hb, hml, hown, htb⟩ (c_X7_yesIf l dC dI k q (sA (sA (sA (sI (sI (sI (sI (sA (sA (sA (sA (sA (sA (sA z 4 o4_4) 5 o5_5) 6 o6_6) 7 o7_7) 8 o8_8) 9 o9_9) 10 o10_10) 12 o12_11) 13 o13_12) 14 o14_13) 15 o15_14) 16 o16_15) 17 o17_16) 18 o18_17) d ha _ hI (by omega) hms) (cwV 2 htb (gzV wmt4_120 wmt4_122 wmp2_14 wmt1_8 wmt4_123) rfl rfl rfl (by decide +kernel) ⟨Nat.le_of_ble_eq_true rfl, Nat.le_of_ble_eq_true rfl⟩) (zpA_V (ci := 7) (q0 := 0) hK hP (hDa _) rfl rfl) rfl rfl hl.1 rfl (lv_room (Nat.le_of_ble_eq_true rfl)) dX7_saysOf_19 ⟨Nat.le_of_ble_eq_true rfl, Nat.le_of_ble_eq_true rfl⟩) (hDa _) hS hA (fun r_25 u_26 H locs w_27 hP _ hS => ?_)
    obtain ⟨h_28, h_29, h_30⟩ := w_27
    replace h_28 : 0 ≤ r_25.toInt ∧ r_25.toInt ≤ 720000 := h_28
    replace h_29 : ((o7_7 d.toNatClampNeg).toInt + (o8_8 d.toNatClampNeg).toInt + (o9_9 d.toNatClampNeg).toInt + (o10_10 d.toNatClampNeg).toInt ≤ (o6_6 d.toNatClampNeg).toInt → r_25.toInt ≤ 24 * (o6_6 d.toNatClampNeg).toInt) := h_29
    replace h_30 : r_25.toInt = yI (o7_7 d.toNatClampNeg) (o8_8 d.toNatClampNeg) (o9_9 d.toNatClampNeg) (o10_10 d.toNatClampNeg) ((z.1 11)) ha := h_30
    have hyv := h_30
    refine lv_aload_n hx hb dX7_saysOf_22 rfl (lv_at hl 0 rfl) ?_
    refine lv_iload_n hx hb dX7_saysOf_23 rfl (lv_at hl 1 rfl) ?_
    refine zcA_l (w := (zM k q (sA (sA (sA (sI (sI (sI (sI (sA (sA (sA (sA (sA (sA (sA z 4 o4_4) 5 o5_5) 6 o6_6) 7 o7_7) 8 o8_8) 9 o9_9) 10 o10_10) 12 o12_11) 13 o13_12) 14 o14_13) 15 o15_14) 16 o16_15) 17 o17_16) 18 o18_17))) (va_runV (As := [.int d]) (rest := [.long r_25, .ref (q 0)]) ⟨hx, hb, hml, hown, htb⟩ (c_X7_base l dC dI k q (sA (sA (sA (sI (sI (sI (sI (sA (sA (sA (sA (sA (sA (sA z 4 o4_4) 5 o5_5) 6 o6_6) 7 o7_7) 8 o8_8) 9 o9_9) 10 o10_10) 12 o12_11) 13 o13_12) 14 o14_13) 15 o15_14) 16 o16_15) 17 o17_16) 18 o18_17) d _ (by omega) hms) (cwV 1 htb (gzV wmt4_125 wmt4_127 wmp2_15 wmt1_8 wmt4_128) rfl rfl rfl (by decide +kernel) ⟨Nat.le_of_ble_eq_true rfl, Nat.le_of_ble_eq_true rfl⟩) (zpA_V (ci := 7) (q0 := 0) hK hP (hDa _) rfl rfl) rfl rfl hl.1 rfl (lv_room (Nat.le_of_ble_eq_true rfl)) dX7_saysOf_24 ⟨Nat.le_of_ble_eq_true rfl, Nat.le_of_ble_eq_true rfl⟩) (hDa _) hS hA (fun r_32 u_33 H locs w_34 hP _ hS => ?_)
    have h_35 := w_34
    replace h_35 : r_32.toInt = 24 * (o6_6 d.toNatClampNeg).toInt := h_35
    have hbv := h_35
    refine zcA_v (w := (zM k q (sA (sA (sA (sI (sI (sI (sI (sA (sA (sA (sA (sA (sA (sA z 4 o4_4) 5 o5_5) 6 o6_6) 7 o7_7) 8 o8_8) 9 o9_9) 10 o10_10) 12 o12_11) 13 o13_12) 14 o14_13) 15 o15_14) 16 o16_15) 17 o17_16) 18 o18_17))) (va_runV (As := [.long r_25, .long r_32]) (rest := []) ⟨hx, hb, hml, hown, htb⟩ (c_X7_is l dC dI k q (sA (sA (sA (sI (sI (sI (sI (sA (sA (sA (sA (sA (sA (sA z 4 o4_4) 5 o5_5) 6 o6_6) 7 o7_7) 8 o8_8) 9 o9_9) 10 o10_10) 12 o12_11) 13 o13_12) 14 o14_13) 15 o15_14) 16 o16_15) 17 o17_16) 18 o18_17) r_25 r_32 _ (show (-4611686018427387904 < r_25.toInt ∧ r_25.toInt < 4611686018427387904) by omega) (show (-4611686018427387904 < r_32.toInt ∧ r_32.toInt < 4611686018427387904) by omega) (show r_32.toInt ≠ 0 by omega)) (cwV 2 htb (gzV wmt4_129 wmt4_131 wmp3_0 wmt1_8 wmt4_132) rfl rfl rfl (by decide +kernel) ⟨Nat.le_of_ble_eq_true rfl, Nat.le_of_ble_eq_true rfl⟩) (zpA_V (ci := 7) (q0 := 0) hK hP (hDa _) rfl rfl) rfl rfl hl.1 rfl (lv_room (Nat.le_of_ble_eq_true rfl)) dX7_saysOf_27 ⟨Nat.le_of_ble_eq_true rfl, Nat.le_of_ble_eq_true rfl⟩) (hDa _) hS hA (fun u_38 H locs w_39 hP _ hS => ?_)
    obtain ⟨oa_40, ob_41⟩ := u_38
    have hP : va_P (dC, dI) vwCl (zM k q (sJ (sJ (sA (sA (sA (sI (sI (sI (sI (sA (sA (sA (sA (sA (sA (sA z 4 o4_4) 5 o5_5) 6 o6_6) 7 o7_7) 8 o8_8) 9 o9_9) 10 o10_10) 12 o12_11) 13 o13_12) 14 o14_13) 15 o15_14) 16 o16_15) 17 o17_16) 18 o18_17) 0 oa_40) 1 ob_41)) H := hP
    obtain ⟨h_42, h_43, h_44, h_45, h_46, h_47⟩ := w_39
    replace h_42 : 1 ≤ ob_41.toInt ∧ ob_41.toInt ≤ (r_32.toInt.natAbs : Int) := h_42
    replace h_43 : (oa_40.toInt.natAbs : Int) ≤ (r_25.toInt.natAbs : Int) := h_43
    replace h_44 : (0 ≤ r_25.toInt → 0 < r_32.toInt → 0 ≤ oa_40.toInt) ∧ (0 < r_25.toInt → 0 < r_32.toInt → 1 ≤ oa_40.toInt) := h_44
    replace h_45 : ob_41.toInt = ((r_32.toInt.natAbs / Nat.gcd r_25.toInt.natAbs r_32.toInt.natAbs : Nat) : Int) := h_45
    replace h_46 : oa_40.toInt = r_25.toInt.tdiv (if r_32.toInt < 0 then -(Nat.gcd r_25.toInt.natAbs r_32.toInt.natAbs : Int) else (Nat.gcd r_25.toInt.natAbs r_32.toInt.natAbs : Int)) := h_46
    replace h_47 : Hd (0 ≤ r_25.toInt → 0 < r_32.toInt → oa_40.toInt = frT r_25.toInt r_32.toInt 0 ∧ ob_41.toInt = frT r_25.toInt r_32.toInt 1) := h_47
    have his0 := h_42
    have his1 := h_43
    have his2 := h_44
    have his3 := h_45
    have his4 := h_46
    have his5 := h_47
    have hfr := (un_hd h_47) (by omega) (by omega)
    refine lv_aload_n hx hb dX7_saysOf_30 rfl (lv_at hl 0 rfl) ?_
    refine lv_iload_n hx hb dX7_saysOf_31 rfl (lv_at hl 3 rfl) ?_
    refine zcA_l (w := (zM k q (sJ (sJ (sA (sA (sA (sI (sI (sI (sI (sA (sA (sA (sA (sA (sA (sA z 4 o4_4) 5 o5_5) 6 o6_6) 7 o7_7) 8 o8_8) 9 o9_9) 10 o10_10) 12 o12_11) 13 o13_12) 14 o14_13) 15 o15_14) 16 o16_15) 17 o17_16) 18 o18_17) 0 oa_40) 1 ob_41))) (va_runV (As := [.int w]) (rest := []) ⟨hx, hb, hml, hown, htb⟩ (c_X7_part l dC dI k q (sJ (sJ (sA (sA (sA (sI (sI (sI (sI (sA (sA (sA (sA (sA (sA (sA z 4 o4_4) 5 o5_5) 6 o6_6) 7 o7_7) 8 o8_8) 9 o9_9) 10 o10_10) 12 o12_11) 13 o13_12) 14 o14_13) 15 o15_14) 16 o16_15) 17 o17_16) 18 o18_17) 0 oa_40) 1 ob_41) w _ ) (cwV 1 htb (gzV wmt4_133 wmt4_135 wmp3_1 wmt1_8 wmt4_136) rfl rfl rfl (by decide +kernel) ⟨Nat.le_of_ble_eq_true rfl, Nat.le_of_ble_eq_true rfl⟩) (zpA_V (ci := 7) (q0 := 0) hK hP (hDa _) rfl rfl) rfl rfl hl.1 rfl (lv_room (Nat.le_of_ble_eq_true rfl)) dX7_saysOf_32 ⟨Nat.le_of_ble_eq_true rfl, Nat.le_of_ble_eq_true rfl⟩) (hDa _) hS hA (fun r_49 u_50 H locs w_51 hP _ hS => ?_)
    have h_52 := w_51
    replace h_52 : (w.toInt = 0 → r_49 = oa_40) ∧ (¬ w.toInt = 0 → r_49 = ob_41) := h_52
    have htd := h_52
    exact W.lret (v := r_49) hx hb hr (fun t ht hW => ⟨⟨r_49, (o4_4, o5_5, o6_6, o7_7, o8_8, o9_9, o10_10, o12_11, o13_12, o14_13, o15_14, o16_15, o17_16, o18_17, oa_40, ob_41), rfl, (show (MD (FR (z.2.2.1 2) (z.2.2.1 3)) o4_4 o5_5 o6_6 o7_7 o8_8 o9_9 o10_10) ∧ (r_49.toInt = tSy (trM z) d.toNatClampNeg ha.toInt w.toInt) from ⟨hI.2.2.2.2.2, (fr_told hfr.1 hfr.2 htd).trans (by rw [hyv, hbv]; exact says_M ho24 (z_cl4 hd) htF (by omega) hfF (hlk (by omega)))⟩), ⟨by rw [ht]; exact hP, hDa _⟩⟩, hS.F ht⟩) hS.2.2 dX7_saysOf_35
  · skip
    have hc_24 := zb_ne rfl (show ((-1) : Int32).toInt = (-1) by decide) c_24
    refine lv_bipush (v := (-3)) hx hb dX7_saysOf_9 (by decide) ?_
    refine zc0_l (w := (zM k q (sA (sA (sA (sI (sI (sI (sI (sA (sA (sA (sA (sA (sA (sA z 4 o4_4) 5 o5_5) 6 o6_6) 7 o7_7) 8 o8_8) 9 o9_9) 10 o10_10) 12 o12_11) 13 o13_12) 14 o14_13) 15 o15_14) 16 o16_15) 17 o17_16) 18 o18_17))) (va_runS (As := [.int (-3)]) (rest := []) ⟨hx, hb, hml, hown, htb⟩ (c_X7_told l dC dI k (-3) _ ) (va_cwS 1 htb (gzS wmt4_116 wmt4_117 wmt1_8 wmt4_118) rfl rfl rfl (by decide +kernel) ⟨Nat.le_of_ble_eq_true rfl, Nat.le_of_ble_eq_true rfl⟩) (zp0_S hK) rfl rfl hl.1 rfl (lv_room (Nat.le_of_ble_eq_true rfl)) dX7_saysOf_11 ⟨Nat.le_of_ble_eq_true rfl, Nat.le_of_ble_eq_true rfl⟩) hP hS hA (fun r_54 u_55 H locs w_56 hP hS => ?_)
    have h_57 := w_56
    replace h_57 : r_54.toInt = tl ((-3) : Int32) := h_57
    have hal := h_57
    exact W.lret (v := r_54) hx hb hr (fun t ht hW => ⟨⟨r_54, (o4_4, o5_5, o6_6, o7_7, o8_8, o9_9, o10_10, o12_11, o13_12, o14_13, o15_14, o16_15, o17_16, o18_17, z.2.1 0, z.2.1 1), rfl, (show (MD (FR (z.2.2.1 2) (z.2.2.1 3)) o4_4 o5_5 o6_6 o7_7 o8_8 o9_9 o10_10) ∧ (r_54.toInt = tSy (trM z) d.toNatClampNeg ha.toInt w.toInt) from ⟨hI.2.2.2.2.2, hal.trans (tSy_f htF (by omega))⟩), ⟨by rw [ht]; exact hP, hDa _⟩⟩, hS.F ht⟩) hS.2.2 dX7_saysOf_14
set_option maxHeartbeats 4000000 in
set_option maxRecDepth 100000 in
theorem c_X7_unitOf (l : Launch) (dC : Nat → ClassId) (dI : Nat → Nat → Nat) (k : Nat → ClassId) (q : Nat → Nat) (z : ZS) (d : Int32) (sz : Nat) (hI : MInv z) (hd : 0 ≤ d.toInt ∧ d.toInt < 4) : Met l yX7_unitOf (wz yX7_unitOf cX7_unitOf 4 (some .int)) ({ frames := 5, cells := 0, slots := 0, locals := 114 }) (va_Pc [.ref (q 0), .int d] (zPre dC dI k (zTX k) (zM k q z) sz)) (va_Qi (fun (r : Int32) (u : (Nat → Int32) × (Nat → Int32) × (Nat → Int32) × (Nat → Int32) × (Nat → Int32) × (Nat → Int32) × (Nat → Int32) × Int32 × Int32 × Int32 × Int32 × (Nat → Int32) × (Nat → Int32) × (Nat → Int32) × Int64 × Int64) => (MD (FR (z.2.2.1 2) (z.2.2.1 3)) u.1 u.2.1 u.2.2.1 u.2.2.2.1 u.2.2.2.2.1 u.2.2.2.2.2.1 u.2.2.2.2.2.2.1) ∧ (¬ u.1 d.toNatClampNeg = 0) ∧ (RK (z.2.2.1 4) (z.2.2.1 5) u.1 u.2.1) ∧ (R7 (z.2.2.1 4) (z.2.2.1 6) (z.2.2.1 7) (z.2.2.1 8) (z.2.2.1 9) (z.2.2.1 10) u.2.2.1 u.2.2.2.1 u.2.2.2.2.1 u.2.2.2.2.2.1 u.2.2.2.2.2.2.1) ∧ ((u.2.1 d.toNatClampNeg).toInt = -1 → 1 ≤ r.toInt) ∧ ((u.2.1 d.toNatClampNeg).toInt = -1 → r.toInt = uN (yI (u.2.2.2.1 d.toNatClampNeg) (u.2.2.2.2.1 d.toNatClampNeg) (u.2.2.2.2.2.1 d.toNatClampNeg) (u.2.2.2.2.2.2.1 d.toNatClampNeg) (z.1 11) 1) (yI (u.2.2.2.1 d.toNatClampNeg) (u.2.2.2.2.1 d.toNatClampNeg) (u.2.2.2.2.2.1 d.toNatClampNeg) (u.2.2.2.2.2.2.1 d.toNatClampNeg) (z.1 11) 0) (24 * (u.2.2.1 d.toNatClampNeg).toInt)) ∧ (¬ (u.2.1 d.toNatClampNeg).toInt = -1 → r.toInt = -3)) (fun u t => zPost dC dI (va_A (zM k q z) sz) (zM k q (sJ (sJ (sA (sA (sA (sI (sI (sI (sI (sA (sA (sA (sA (sA (sA (sA z 4 u.1) 5 u.2.1) 6 u.2.2.1) 7 u.2.2.2.1) 8 u.2.2.2.2.1) 9 u.2.2.2.2.2.1) 10 u.2.2.2.2.2.2.1) 12 u.2.2.2.2.2.2.2.1) 13 u.2.2.2.2.2.2.2.2.1) 14 u.2.2.2.2.2.2.2.2.2.1) 15 u.2.2.2.2.2.2.2.2.2.2.1) 16 u.2.2.2.2.2.2.2.2.2.2.2.1) 17 u.2.2.2.2.2.2.2.2.2.2.2.2.1) 18 u.2.2.2.2.2.2.2.2.2.2.2.2.2.1) 0 u.2.2.2.2.2.2.2.2.2.2.2.2.2.2.1) 1 u.2.2.2.2.2.2.2.2.2.2.2.2.2.2.2)) t) (va_A (zM k q z) sz)) 0 0 (va_A (zM k q z) sz) := by
  refine Met.ofW (cc := cX7_unitOf) (maxL := 4) (ret := (some .int)) (by decide) rfl ?_
  intro p e s m args below meth c s₁ B hml hv
  obtain ⟨rfl, hsz, hP, hK, hD0⟩ := hv
  have hx := B.exec
  have hb := B.bytes
  have hr := B.returns
  have hts := atoms_spec (ws := wz yX7_unitOf cX7_unitOf 4 (some .int)) B.pre
  have htb : ∀ w ∈ zw, w.before _ s = true := fun w h => hts w (List.mem_cons_of_mem _ h)
  have hown : s.vm.findClass RX7 = some m.cls := findClass_of_methodNamed B.named
  have hlocks := B.notSynchronized
  clear hts
  subst hsz
  have hD := hD0.self (sz := s.heap.size)
  generalize hAe : va_A (zM k q z) s.heap.size = A at hD ⊢
  have hA : ∀ q : Nat, s.heap.size ≤ q → A q := fun q h => by rw [← hAe]; exact Or.inr h
  have hDa : ∀ z9 : ZS, va_D A (zM k q z9) := fun z9 => va_D_adr (w := zM k q z) rfl hD
  have hl := lv_entry ([.ref (q 0), .int d]) (n := 4) (Nat.le_of_ble_eq_true rfl)
  rw [lg_entry_eq]
  generalize (lg_sl ([.ref (q 0), .int d]) ++ List.replicate (4 - (lg_sl ([.ref (q 0), .int d])).length) Slot.unset).toArray = ls at hl ⊢
  have hl : lv_has ls 4 [(0, .ref (q 0)), (1, .int d)] := hl
  refine z_start2 (A := A) (w := (zM k q z)) hP (fun H locs hP hS => ?_)
  clear hD0 hAe
  refine lv_aload_n hx hb dX7_unitOf_0 rfl (lv_at hl 0 rfl) ?_
  refine lv_iload_n hx hb dX7_unitOf_1 rfl (lv_at hl 1 rfl) ?_
  refine zcA_i (w := (zM k q z)) (va_runV (As := [.int d]) (rest := []) ⟨hx, hb, hml, hown, htb⟩ (c_X7_faultOf l dC dI k q z d _ hI (show 0 ≤ d.toInt ∧ d.toInt < 4 by omega)) (cwV 1 htb (gzV wmt4_73 wmt4_75 wmp2_6 wmt1_8 wmt4_76) rfl rfl rfl (by decide +kernel) ⟨Nat.le_of_ble_eq_true rfl, Nat.le_of_ble_eq_true rfl⟩) (zpA_V (ci := 7) (q0 := 0) hK hP (hDa _) rfl rfl) rfl rfl hl.1 rfl (lv_room (Nat.le_of_ble_eq_true rfl)) dX7_unitOf_2 ⟨Nat.le_of_ble_eq_true rfl, Nat.le_of_ble_eq_true rfl⟩) (hDa _) hS hA (fun r_1 u_2 H locs w_3 hP _ hS => ?_)
  obtain ⟨o4_4, o5_5, o6_6, o7_7, o8_8, o9_9, o10_10, o12_11, o13_12, o14_13, o15_14, o16_15, o17_16, o18_17⟩ := u_2
  have hP : va_P (dC, dI) vwCl (zM k q (sA (sA (sA (sI (sI (sI (sI (sA (sA (sA (sA (sA (sA (sA z 4 o4_4) 5 o5_5) 6 o6_6) 7 o7_7) 8 o8_8) 9 o9_9) 10 o10_10) 12 o12_11) 13 o13_12) 14 o14_13) 15 o15_14) 16 o16_15) 17 o17_16) 18 o18_17)) H := hP
  obtain ⟨h_18, h_19, h_20, h_21, h_22⟩ := w_3
  replace h_18 : MD (FR ((z.2.2.1 2)) ((z.2.2.1 3))) o4_4 o5_5 o6_6 o7_7 o8_8 o9_9 o10_10 := h_18
  replace h_19 : ¬ o4_4 d.toNatClampNeg = 0 := h_19
  replace h_20 : RK ((z.2.2.1 4)) ((z.2.2.1 5)) o4_4 o5_5 := h_20
  replace h_21 : R7 ((z.2.2.1 4)) ((z.2.2.1 6)) ((z.2.2.1 7)) ((z.2.2.1 8)) ((z.2.2.1 9)) ((z.2.2.1 10)) o6_6 o7_7 o8_8 o9_9 o10_10 := h_21
  replace h_22 : r_1 = o5_5 d.toNatClampNeg := h_22
  have hI : MInv (sA (sA (sA (sI (sI (sI (sI (sA (sA (sA (sA (sA (sA (sA z 4 o4_4) 5 o5_5) 6 o6_6) 7 o7_7) 8 o8_8) 9 o9_9) 10 o10_10) 12 o12_11) 13 o13_12) 14 o14_13) 15 o15_14) 16 o16_15) 17 o17_16) 18 o18_17) := ⟨hI.1, hI.2.1, hI.2.2.1, hI.2.2.2.1, hI.2.2.2.2.1, h_18⟩
  have hms := MD_at h_18 hd
  have hrd := h_19
  have hrk := h_20
  obtain ⟨hw, hff, hfF, hlk⟩ := hms.2.2.2.2.2 h_19
  have hwb := hms.1
  have hr5 : r_1.toInt = (o5_5 d.toNatClampNeg).toInt := by rw [h_22]
  have hr7 := h_21
  refine lv_iconst (v := (-1)) hx hb dX7_unitOf_5 (by decide) ?_
  refine lv_icmp_eq (tgt := 12) hx hb dX7_unitOf_6 (by decide) (fun c_24 => ?_) (fun c_24 => ?_)
  · skip
    have hc_24 := zb_eq rfl (show ((-1) : Int32).toInt = (-1) by decide) c_24
    refine lv_aload_n hx hb dX7_unitOf_12 rfl (lv_at hl 0 rfl) ?_
    refine lv_aload_n hx hb dX7_unitOf_13 rfl (lv_at hl 0 rfl) ?_
    refine lv_iload_n hx hb dX7_unitOf_14 rfl (lv_at hl 1 rfl) ?_
    refine lv_iconst (v := 1) hx hb dX7_unitOf_15 (by decide) ?_
    refine zcA_l (w := (zM k q (sA (sA (sA (sI (sI (sI (sI (sA (sA (sA (sA (sA (sA (sA z 4 o4_4) 5 o5_5) 6 o6_6) 7 o7_7) 8 o8_8) 9 o9_9) 10 o10_10) 12 o12_11) 13 o13_12) 14 o14_13) 15 o15_14) 16 o16_15) 17 o17_16) 18 o18_17))) (va_runV (As := [.int d, .int 1]) (rest := [.ref (q 0)]) ⟨hx, hb, hml, hown, htb⟩ (c_X7_yesIf l dC dI k q (sA (sA (sA (sI (sI (sI (sI (sA (sA (sA (sA (sA (sA (sA z 4 o4_4) 5 o5_5) 6 o6_6) 7 o7_7) 8 o8_8) 9 o9_9) 10 o10_10) 12 o12_11) 13 o13_12) 14 o14_13) 15 o15_14) 16 o16_15) 17 o17_16) 18 o18_17) d 1 _ hI (by omega) hms) (cwV 2 htb (gzV wmt4_120 wmt4_122 wmp2_14 wmt1_8 wmt4_123) rfl rfl rfl (by decide +kernel) ⟨Nat.le_of_ble_eq_true rfl, Nat.le_of_ble_eq_true rfl⟩) (zpA_V (ci := 7) (q0 := 0) hK hP (hDa _) rfl rfl) rfl rfl hl.1 rfl (lv_room (Nat.le_of_ble_eq_true rfl)) dX7_unitOf_16 ⟨Nat.le_of_ble_eq_true rfl, Nat.le_of_ble_eq_true rfl⟩) (hDa _) hS hA (fun r_25 u_26 H locs w_27 hP _ hS => ?_)
    obtain ⟨h_28, h_29, h_30⟩ := w_27
    replace h_28 : 0 ≤ r_25.toInt ∧ r_25.toInt ≤ 720000 := h_28
    replace h_29 : ((o7_7 d.toNatClampNeg).toInt + (o8_8 d.toNatClampNeg).toInt + (o9_9 d.toNatClampNeg).toInt + (o10_10 d.toNatClampNeg).toInt ≤ (o6_6 d.toNatClampNeg).toInt → r_25.toInt ≤ 24 * (o6_6 d.toNatClampNeg).toInt) := h_29
    replace h_30 : r_25.toInt = yI (o7_7 d.toNatClampNeg) (o8_8 d.toNatClampNeg) (o9_9 d.toNatClampNeg) (o10_10 d.toNatClampNeg) ((z.1 11)) (1 : Int32) := h_30
    have hya := h_30
    refine lv_aload_n hx hb dX7_unitOf_19 rfl (lv_at hl 0 rfl) ?_
    refine lv_iload_n hx hb dX7_unitOf_20 rfl (lv_at hl 1 rfl) ?_
    refine zcA_l (w := (zM k q (sA (sA (sA (sI (sI (sI (sI (sA (sA (sA (sA (sA (sA (sA z 4 o4_4) 5 o5_5) 6 o6_6) 7 o7_7) 8 o8_8) 9 o9_9) 10 o10_10) 12 o12_11) 13 o13_12) 14 o14_13) 15 o15_14) 16 o16_15) 17 o17_16) 18 o18_17))) (va_runV (As := [.int d]) (rest := [.long r_25, .ref (q 0)]) ⟨hx, hb, hml, hown, htb⟩ (c_X7_base l dC dI k q (sA (sA (sA (sI (sI (sI (sI (sA (sA (sA (sA (sA (sA (sA z 4 o4_4) 5 o5_5) 6 o6_6) 7 o7_7) 8 o8_8) 9 o9_9) 10 o10_10) 12 o12_11) 13 o13_12) 14 o14_13) 15 o15_14) 16 o16_15) 17 o17_16) 18 o18_17) d _ (by omega) hms) (cwV 1 htb (gzV wmt4_125 wmt4_127 wmp2_15 wmt1_8 wmt4_128) rfl rfl rfl (by decide +kernel) ⟨Nat.le_of_ble_eq_true rfl, Nat.le_of_ble_eq_true rfl⟩) (zpA_V (ci := 7) (q0 := 0) hK hP (hDa _) rfl rfl) rfl rfl hl.1 rfl (lv_room (Nat.le_of_ble_eq_true rfl)) dX7_unitOf_21 ⟨Nat.le_of_ble_eq_true rfl, Nat.le_of_ble_eq_true rfl⟩) (hDa _) hS hA (fun r_32 u_33 H locs w_34 hP _ hS => ?_)
    have h_35 := w_34
    replace h_35 : r_32.toInt = 24 * (o6_6 d.toNatClampNeg).toInt := h_35
    have hba := h_35
    refine zcA_v (w := (zM k q (sA (sA (sA (sI (sI (sI (sI (sA (sA (sA (sA (sA (sA (sA z 4 o4_4) 5 o5_5) 6 o6_6) 7 o7_7) 8 o8_8) 9 o9_9) 10 o10_10) 12 o12_11) 13 o13_12) 14 o14_13) 15 o15_14) 16 o16_15) 17 o17_16) 18 o18_17))) (va_runV (As := [.long r_25, .long r_32]) (rest := []) ⟨hx, hb, hml, hown, htb⟩ (c_X7_is l dC dI k q (sA (sA (sA (sI (sI (sI (sI (sA (sA (sA (sA (sA (sA (sA z 4 o4_4) 5 o5_5) 6 o6_6) 7 o7_7) 8 o8_8) 9 o9_9) 10 o10_10) 12 o12_11) 13 o13_12) 14 o14_13) 15 o15_14) 16 o16_15) 17 o17_16) 18 o18_17) r_25 r_32 _ (show (-4611686018427387904 < r_25.toInt ∧ r_25.toInt < 4611686018427387904) by omega) (show (-4611686018427387904 < r_32.toInt ∧ r_32.toInt < 4611686018427387904) by omega) (show r_32.toInt ≠ 0 by omega)) (cwV 2 htb (gzV wmt4_129 wmt4_131 wmp3_0 wmt1_8 wmt4_132) rfl rfl rfl (by decide +kernel) ⟨Nat.le_of_ble_eq_true rfl, Nat.le_of_ble_eq_true rfl⟩) (zpA_V (ci := 7) (q0 := 0) hK hP (hDa _) rfl rfl) rfl rfl hl.1 rfl (lv_room (Nat.le_of_ble_eq_true rfl)) dX7_unitOf_24 ⟨Nat.le_of_ble_eq_true rfl, Nat.le_of_ble_eq_true rfl⟩) (hDa _) hS hA (fun u_38 H locs w_39 hP _ hS => ?_)
    obtain ⟨oa_40, ob_41⟩ := u_38
    have hP : va_P (dC, dI) vwCl (zM k q (sJ (sJ (sA (sA (sA (sI (sI (sI (sI (sA (sA (sA (sA (sA (sA (sA z 4 o4_4) 5 o5_5) 6 o6_6) 7 o7_7) 8 o8_8) 9 o9_9) 10 o10_10) 12 o12_11) 13 o13_12) 14 o14_13) 15 o15_14) 16 o16_15) 17 o17_16) 18 o18_17) 0 oa_40) 1 ob_41)) H := hP
    obtain ⟨h_42, h_43, h_44, h_45, h_46, h_47⟩ := w_39
    replace h_42 : 1 ≤ ob_41.toInt ∧ ob_41.toInt ≤ (r_32.toInt.natAbs : Int) := h_42
    replace h_43 : (oa_40.toInt.natAbs : Int) ≤ (r_25.toInt.natAbs : Int) := h_43
    replace h_44 : (0 ≤ r_25.toInt → 0 < r_32.toInt → 0 ≤ oa_40.toInt) ∧ (0 < r_25.toInt → 0 < r_32.toInt → 1 ≤ oa_40.toInt) := h_44
    replace h_45 : ob_41.toInt = ((r_32.toInt.natAbs / Nat.gcd r_25.toInt.natAbs r_32.toInt.natAbs : Nat) : Int) := h_45
    replace h_46 : oa_40.toInt = r_25.toInt.tdiv (if r_32.toInt < 0 then -(Nat.gcd r_25.toInt.natAbs r_32.toInt.natAbs : Int) else (Nat.gcd r_25.toInt.natAbs r_32.toInt.natAbs : Int)) := h_46
    replace h_47 : Hd (0 ≤ r_25.toInt → 0 < r_32.toInt → oa_40.toInt = frT r_25.toInt r_32.toInt 0 ∧ ob_41.toInt = frT r_25.toInt r_32.toInt 1) := h_47
    have hob1 := h_42
    have hov1 := h_45
    refine lv_aload_n hx hb dX7_unitOf_27 rfl (lv_at hl 0 rfl) ?_
    refine va_get (D := (dC, dI)) (ci := 7) (v := .long ob_41) (C := RX7) (T := TX7) (N := 42) hx hb htb inw7 hown hK.1 hP 0 rfl rfl 1 (by decide) (htb _ wmt3_168) (fun _ h9 => h9) rfl dX7_unitOf_28 ?_
    refine lv_lstore_n (lv' := [(2, .long ob_41), (0, .ref (q 0)), (1, .int d)]) hx hb dX7_unitOf_31 rfl hl (by decide) rfl (fun ls hl => ?_)
    refine lv_aload_n hx hb dX7_unitOf_32 rfl (lv_at hl 1 rfl) ?_
    refine lv_aload_n hx hb dX7_unitOf_33 rfl (lv_at hl 1 rfl) ?_
    refine lv_iload_n hx hb dX7_unitOf_34 rfl (lv_at hl 2 rfl) ?_
    refine lv_iconst (v := 0) hx hb dX7_unitOf_35 (by decide) ?_
    refine zcA_l (w := (zM k q (sJ (sJ (sA (sA (sA (sI (sI (sI (sI (sA (sA (sA (sA (sA (sA (sA z 4 o4_4) 5 o5_5) 6 o6_6) 7 o7_7) 8 o8_8) 9 o9_9) 10 o10_10) 12 o12_11) 13 o13_12) 14 o14_13) 15 o15_14) 16 o16_15) 17 o17_16) 18 o18_17) 0 oa_40) 1 ob_41))) (va_runV (As := [.int d, .int 0]) (rest := [.ref (q 0)]) ⟨hx, hb, hml, hown, htb⟩ (c_X7_yesIf l dC dI k q (sJ (sJ (sA (sA (sA (sI (sI (sI (sI (sA (sA (sA (sA (sA (sA (sA z 4 o4_4) 5 o5_5) 6 o6_6) 7 o7_7) 8 o8_8) 9 o9_9) 10 o10_10) 12 o12_11) 13 o13_12) 14 o14_13) 15 o15_14) 16 o16_15) 17 o17_16) 18 o18_17) 0 oa_40) 1 ob_41) d 0 _ hI (by omega) hms) (cwV 2 htb (gzV wmt4_120 wmt4_122 wmp2_14 wmt1_8 wmt4_123) rfl rfl rfl (by decide +kernel) ⟨Nat.le_of_ble_eq_true rfl, Nat.le_of_ble_eq_true rfl⟩) (zpA_V (ci := 7) (q0 := 0) hK hP (hDa _) rfl rfl) rfl rfl hl.1 rfl (lv_room (Nat.le_of_ble_eq_true rfl)) dX7_unitOf_36 ⟨Nat.le_of_ble_eq_true rfl, Nat.le_of_ble_eq_true rfl⟩) (hDa _) hS hA (fun r_49 u_50 H locs w_51 hP _ hS => ?_)
    obtain ⟨h_52, h_53, h_54⟩ := w_51
    replace h_52 : 0 ≤ r_49.toInt ∧ r_49.toInt ≤ 720000 := h_52
    replace h_53 : ((o7_7 d.toNatClampNeg).toInt + (o8_8 d.toNatClampNeg).toInt + (o9_9 d.toNatClampNeg).toInt + (o10_10 d.toNatClampNeg).toInt ≤ (o6_6 d.toNatClampNeg).toInt → r_49.toInt ≤ 24 * (o6_6 d.toNatClampNeg).toInt) := h_53
    replace h_54 : r_49.toInt = yI (o7_7 d.toNatClampNeg) (o8_8 d.toNatClampNeg) (o9_9 d.toNatClampNeg) (o10_10 d.toNatClampNeg) ((z.1 11)) (0 : Int32) := h_54
    have hyb := h_54
    refine lv_aload_n hx hb dX7_unitOf_39 rfl (lv_at hl 1 rfl) ?_
    refine lv_iload_n hx hb dX7_unitOf_40 rfl (lv_at hl 2 rfl) ?_
    refine zcA_l (w := (zM k q (sJ (sJ (sA (sA (sA (sI (sI (sI (sI (sA (sA (sA (sA (sA (sA (sA z 4 o4_4) 5 o5_5) 6 o6_6) 7 o7_7) 8 o8_8) 9 o9_9) 10 o10_10) 12 o12_11) 13 o13_12) 14 o14_13) 15 o15_14) 16 o16_15) 17 o17_16) 18 o18_17) 0 oa_40) 1 ob_41))) (va_runV (As := [.int d]) (rest := [.long r_49, .ref (q 0)]) ⟨hx, hb, hml, hown, htb⟩ (c_X7_base l dC dI k q (sJ (sJ (sA (sA (sA (sI (sI (sI (sI (sA (sA (sA (sA (sA (sA (sA z 4 o4_4) 5 o5_5) 6 o6_6) 7 o7_7) 8 o8_8) 9 o9_9) 10 o10_10) 12 o12_11) 13 o13_12) 14 o14_13) 15 o15_14) 16 o16_15) 17 o17_16) 18 o18_17) 0 oa_40) 1 ob_41) d _ (by omega) hms) (cwV 1 htb (gzV wmt4_125 wmt4_127 wmp2_15 wmt1_8 wmt4_128) rfl rfl rfl (by decide +kernel) ⟨Nat.le_of_ble_eq_true rfl, Nat.le_of_ble_eq_true rfl⟩) (zpA_V (ci := 7) (q0 := 0) hK hP (hDa _) rfl rfl) rfl rfl hl.1 rfl (lv_room (Nat.le_of_ble_eq_true rfl)) dX7_unitOf_41 ⟨Nat.le_of_ble_eq_true rfl, Nat.le_of_ble_eq_true rfl⟩) (hDa _) hS hA (fun r_56 u_57 H locs w_58 hP _ hS => ?_)
    have h_59 := w_58
    replace h_59 : r_56.toInt = 24 * (o6_6 d.toNatClampNeg).toInt := h_59
    have hbb := h_59
    refine zcA_v (w := (zM k q (sJ (sJ (sA (sA (sA (sI (sI (sI (sI (sA (sA (sA (sA (sA (sA (sA z 4 o4_4) 5 o5_5) 6 o6_6) 7 o7_7) 8 o8_8) 9 o9_9) 10 o10_10) 12 o12_11) 13 o13_12) 14 o14_13) 15 o15_14) 16 o16_15) 17 o17_16) 18 o18_17) 0 oa_40) 1 ob_41))) (va_runV (As := [.long r_49, .long r_56]) (rest := []) ⟨hx, hb, hml, hown, htb⟩ (c_X7_is l dC dI k q (sJ (sJ (sA (sA (sA (sI (sI (sI (sI (sA (sA (sA (sA (sA (sA (sA z 4 o4_4) 5 o5_5) 6 o6_6) 7 o7_7) 8 o8_8) 9 o9_9) 10 o10_10) 12 o12_11) 13 o13_12) 14 o14_13) 15 o15_14) 16 o16_15) 17 o17_16) 18 o18_17) 0 oa_40) 1 ob_41) r_49 r_56 _ (show (-4611686018427387904 < r_49.toInt ∧ r_49.toInt < 4611686018427387904) by omega) (show (-4611686018427387904 < r_56.toInt ∧ r_56.toInt < 4611686018427387904) by omega) (show r_56.toInt ≠ 0 by omega)) (cwV 2 htb (gzV wmt4_129 wmt4_131 wmp3_0 wmt1_8 wmt4_132) rfl rfl rfl (by decide +kernel) ⟨Nat.le_of_ble_eq_true rfl, Nat.le_of_ble_eq_true rfl⟩) (zpA_V (ci := 7) (q0 := 0) hK hP (hDa _) rfl rfl) rfl rfl hl.1 rfl (lv_room (Nat.le_of_ble_eq_true rfl)) dX7_unitOf_44 ⟨Nat.le_of_ble_eq_true rfl, Nat.le_of_ble_eq_true rfl⟩) (hDa _) hS hA (fun u_62 H locs w_63 hP _ hS => ?_)
    obtain ⟨oa_64, ob_65⟩ := u_62
    have hP : va_P (dC, dI) vwCl (zM k q (sJ (sJ (sA (sA (sA (sI (sI (sI (sI (sA (sA (sA (sA (sA (sA (sA z 4 o4_4) 5 o5_5) 6 o6_6) 7 o7_7) 8 o8_8) 9 o9_9) 10 o10_10) 12 o12_11) 13 o13_12) 14 o14_13) 15 o15_14) 16 o16_15) 17 o17_16) 18 o18_17) 0 oa_64) 1 ob_65)) H := hP
    obtain ⟨h_66, h_67, h_68, h_69, h_70, h_71⟩ := w_63
    replace h_66 : 1 ≤ ob_65.toInt ∧ ob_65.toInt ≤ (r_56.toInt.natAbs : Int) := h_66
    replace h_67 : (oa_64.toInt.natAbs : Int) ≤ (r_49.toInt.natAbs : Int) := h_67
    replace h_68 : (0 ≤ r_49.toInt → 0 < r_56.toInt → 0 ≤ oa_64.toInt) ∧ (0 < r_49.toInt → 0 < r_56.toInt → 1 ≤ oa_64.toInt) := h_68
    replace h_69 : ob_65.toInt = ((r_56.toInt.natAbs / Nat.gcd r_49.toInt.natAbs r_56.toInt.natAbs : Nat) : Int) := h_69
    replace h_70 : oa_64.toInt = r_49.toInt.tdiv (if r_56.toInt < 0 then -(Nat.gcd r_49.toInt.natAbs r_56.toInt.natAbs : Int) else (Nat.gcd r_49.toInt.natAbs r_56.toInt.natAbs : Int)) := h_70
    replace h_71 : Hd (0 ≤ r_49.toInt → 0 < r_56.toInt → oa_64.toInt = frT r_49.toInt r_56.toInt 0 ∧ ob_65.toInt = frT r_49.toInt r_56.toInt 1) := h_71
    have hob2 := h_66
    have hov2 := h_69
    refine lv_lload_n hx hb dX7_unitOf_47 rfl (lv_at hl 0 rfl) ?_
    refine lv_lload_n hx hb dX7_unitOf_48 rfl (lv_at hl 0 rfl) ?_
    refine lv_aload_n hx hb dX7_unitOf_49 rfl (lv_at hl 1 rfl) ?_
    refine va_get (D := (dC, dI)) (ci := 7) (v := .long ob_65) (C := RX7) (T := TX7) (N := 42) hx hb htb inw7 hown hK.1 hP 0 rfl rfl 1 (by decide) (htb _ wmt3_168) (fun _ h9 => h9) rfl dX7_unitOf_50 ?_
    refine zc0_l (w := (zM k q (sJ (sJ (sA (sA (sA (sI (sI (sI (sI (sA (sA (sA (sA (sA (sA (sA z 4 o4_4) 5 o5_5) 6 o6_6) 7 o7_7) 8 o8_8) 9 o9_9) 10 o10_10) 12 o12_11) 13 o13_12) 14 o14_13) 15 o15_14) 16 o16_15) 17 o17_16) 18 o18_17) 0 oa_64) 1 ob_65))) (va_runS (As := [.long ob_41, .long ob_65]) (rest := [.long ob_41]) ⟨hx, hb, hml, hown, htb⟩ (c_X7_divisor l dC dI k ob_41 ob_65 _ (by omega) (by omega)) (va_cwS 2 htb (gzS wmt4_97 wmt4_98 wmt1_8 wmt4_99) rfl rfl rfl (by decide +kernel) ⟨Nat.le_of_ble_eq_true rfl, Nat.le_of_ble_eq_true rfl⟩) (zp0_S hK) rfl rfl hl.1 rfl (lv_room (Nat.le_of_ble_eq_true rfl)) dX7_unitOf_53 ⟨Nat.le_of_ble_eq_true rfl, Nat.le_of_ble_eq_true rfl⟩) hP hS hA (fun r_73 u_74 H locs w_75 hP hS => ?_)
    have h_76 := w_75
    replace h_76 : r_73.toInt = (Nat.gcd ob_41.toInt.natAbs ob_65.toInt.natAbs : Int) := h_76
    have hgp := zg_pos (x := ob_41.toInt) (y := ob_65.toInt) (by omega)
    have hgl := zg_le (x := ob_41.toInt) (y := ob_65.toInt) (by omega)
    have hgm := zg_le2 (x := ob_41.toInt) (y := ob_65.toInt)
    refine lv_ldiv hx hb dX7_unitOf_56 (z_l0ne (by omega)) ?_
    refine lv_topl (fun x_78 ex_78 => ?_)
    have hx_78 := zl_div ex_78 rfl rfl (by omega) (by omega)
    refine lv_aload_n hx hb dX7_unitOf_57 rfl (lv_at hl 1 rfl) ?_
    refine va_get (D := (dC, dI)) (ci := 7) (v := .long ob_65) (C := RX7) (T := TX7) (N := 42) hx hb htb inw7 hown hK.1 hP 0 rfl rfl 1 (by decide) (htb _ wmt3_168) (fun _ h9 => h9) rfl dX7_unitOf_58 ?_
    refine lv_lmul hx hb dX7_unitOf_61 ?_
    refine lv_topl (fun x_79 ex_79 => ?_)
    have px_79 : 1 * 1 ≤ x_78.toInt * ob_65.toInt := Int.mul_le_mul (by omega) (by omega) (by decide) (by omega)
    have qx_79 := z_mulb (a := x_78.toInt) (b := ob_65.toInt) (A := 11520) (B := 11520) (by omega) (by omega)
    have hx_79 := zl_mul ex_79 rfl rfl (by omega)
    have hml2 := hx_79
    refine lv_l2i (v := x_79.toInt32) hx hb dX7_unitOf_62 rfl ?_
    refine lv_topi (fun x_80 ex_80 => ?_)
    have hx_80 : x_80.toInt = x_79.toInt := by rw [ex_80]; exact Jvm.Kit.i32_of_i64 (by omega) (by omega)
    exact W.iret (v := x_80) hx hb hr (fun t ht hW => ⟨⟨x_80, (o4_4, o5_5, o6_6, o7_7, o8_8, o9_9, o10_10, o12_11, o13_12, o14_13, o15_14, o16_15, o17_16, o18_17, oa_64, ob_65), rfl, (show (MD (FR (z.2.2.1 2) (z.2.2.1 3)) o4_4 o5_5 o6_6 o7_7 o8_8 o9_9 o10_10) ∧ (¬ o4_4 d.toNatClampNeg = 0) ∧ (RK (z.2.2.1 4) (z.2.2.1 5) o4_4 o5_5) ∧ (R7 (z.2.2.1 4) (z.2.2.1 6) (z.2.2.1 7) (z.2.2.1 8) (z.2.2.1 9) (z.2.2.1 10) o6_6 o7_7 o8_8 o9_9 o10_10) ∧ ((o5_5 d.toNatClampNeg).toInt = -1 → 1 ≤ x_80.toInt) ∧ ((o5_5 d.toNatClampNeg).toInt = -1 → x_80.toInt = uN (yI (o7_7 d.toNatClampNeg) (o8_8 d.toNatClampNeg) (o9_9 d.toNatClampNeg) (o10_10 d.toNatClampNeg) (z.1 11) 1) (yI (o7_7 d.toNatClampNeg) (o8_8 d.toNatClampNeg) (o9_9 d.toNatClampNeg) (o10_10 d.toNatClampNeg) (z.1 11) 0) (24 * (o6_6 d.toNatClampNeg).toInt)) ∧ (¬ (o5_5 d.toNatClampNeg).toInt = -1 → x_80.toInt = -3) from ⟨hI.2.2.2.2.2, hrd, hrk, hr7, fun q9 => by omega, fun q9 => uN_eq hya hba hov1 hyb hbb hov2 h_76 (hx_78.1) hml2 (by omega), fun q9 => absurd (by omega) q9⟩), ⟨by rw [ht]; exact hP, hDa _⟩⟩, hS.F ht⟩) hS.2.2 dX7_unitOf_63
  · skip
    have hc_24 := zb_ne rfl (show ((-1) : Int32).toInt = (-1) by decide) c_24
    refine lv_bipush (v := (-3)) hx hb dX7_unitOf_9 (by decide) ?_
    exact W.iret (v := (-3)) hx hb hr (fun t ht hW => ⟨⟨(-3), (o4_4, o5_5, o6_6, o7_7, o8_8, o9_9, o10_10, o12_11, o13_12, o14_13, o15_14, o16_15, o17_16, o18_17, z.2.1 0, z.2.1 1), rfl, (show (MD (FR (z.2.2.1 2) (z.2.2.1 3)) o4_4 o5_5 o6_6 o7_7 o8_8 o9_9 o10_10) ∧ (¬ o4_4 d.toNatClampNeg = 0) ∧ (RK (z.2.2.1 4) (z.2.2.1 5) o4_4 o5_5) ∧ (R7 (z.2.2.1 4) (z.2.2.1 6) (z.2.2.1 7) (z.2.2.1 8) (z.2.2.1 9) (z.2.2.1 10) o6_6 o7_7 o8_8 o9_9 o10_10) ∧ ((o5_5 d.toNatClampNeg).toInt = -1 → 1 ≤ ((-3) : Int32).toInt) ∧ ((o5_5 d.toNatClampNeg).toInt = -1 → ((-3) : Int32).toInt = uN (yI (o7_7 d.toNatClampNeg) (o8_8 d.toNatClampNeg) (o9_9 d.toNatClampNeg) (o10_10 d.toNatClampNeg) (z.1 11) 1) (yI (o7_7 d.toNatClampNeg) (o8_8 d.toNatClampNeg) (o9_9 d.toNatClampNeg) (o10_10 d.toNatClampNeg) (z.1 11) 0) (24 * (o6_6 d.toNatClampNeg).toInt)) ∧ (¬ (o5_5 d.toNatClampNeg).toInt = -1 → ((-3) : Int32).toInt = -3) from ⟨hI.2.2.2.2.2, hrd, hrk, hr7, fun q9 => by omega, fun q9 => by omega, fun _ => by decide⟩), ⟨by rw [ht]; exact hP, hDa _⟩⟩, hS.F ht⟩) hS.2.2 dX7_unitOf_11
set_option maxHeartbeats 4000000 in
set_option maxRecDepth 100000 in
theorem c_X7_saysYes (l : Launch) (dC : Nat → ClassId) (dI : Nat → Nat → Nat) (k : Nat → ClassId) (q : Nat → Nat) (z : ZS) (d : Int32) (ha : Int32) (w : Int32) (sz : Nat) (hI : MInv z) : Met l yX7_saysYes (wz yX7_saysYes cX7_saysYes 4 (some .long)) ({ frames := 6, cells := 0, slots := 0, locals := 137 }) (va_Pc [.ref (q 0), .int d, .int ha, .int w] (zPre dC dI k (zTX k) (zM k q z) sz)) (va_Ql (fun (r : Int64) (u : (Nat → Int32) × (Nat → Int32) × (Nat → Int32) × (Nat → Int32) × (Nat → Int32) × (Nat → Int32) × (Nat → Int32) × Int32 × Int32 × Int32 × Int32 × (Nat → Int32) × (Nat → Int32) × (Nat → Int32) × Int64 × Int64) => (MD (FR (z.2.2.1 2) (z.2.2.1 3)) u.1 u.2.1 u.2.2.1 u.2.2.2.1 u.2.2.2.2.1 u.2.2.2.2.2.1 u.2.2.2.2.2.2.1) ∧ (r.toInt = tSays (trM z) d ha w)) (fun u t => zPost dC dI (va_A (zM k q z) sz) (zM k q (sJ (sJ (sA (sA (sA (sI (sI (sI (sI (sA (sA (sA (sA (sA (sA (sA z 4 u.1) 5 u.2.1) 6 u.2.2.1) 7 u.2.2.2.1) 8 u.2.2.2.2.1) 9 u.2.2.2.2.2.1) 10 u.2.2.2.2.2.2.1) 12 u.2.2.2.2.2.2.2.1) 13 u.2.2.2.2.2.2.2.2.1) 14 u.2.2.2.2.2.2.2.2.2.1) 15 u.2.2.2.2.2.2.2.2.2.2.1) 16 u.2.2.2.2.2.2.2.2.2.2.2.1) 17 u.2.2.2.2.2.2.2.2.2.2.2.2.1) 18 u.2.2.2.2.2.2.2.2.2.2.2.2.2.1) 0 u.2.2.2.2.2.2.2.2.2.2.2.2.2.2.1) 1 u.2.2.2.2.2.2.2.2.2.2.2.2.2.2.2)) t) (va_A (zM k q z) sz)) 0 0 (va_A (zM k q z) sz) := by
  refine Met.ofW (cc := cX7_saysYes) (maxL := 4) (ret := (some .long)) (by decide) rfl ?_
  intro p e s m args below meth c s₁ B hml hv
  obtain ⟨rfl, hsz, hP, hK, hD0⟩ := hv
  have hx := B.exec
  have hb := B.bytes
  have hr := B.returns
  have hts := atoms_spec (ws := wz yX7_saysYes cX7_saysYes 4 (some .long)) B.pre
  have htb : ∀ w ∈ zw, w.before _ s = true := fun w h => hts w (List.mem_cons_of_mem _ h)
  have hown : s.vm.findClass RX7 = some m.cls := findClass_of_methodNamed B.named
  have hlocks := B.notSynchronized
  clear hts
  subst hsz
  have hD := hD0.self (sz := s.heap.size)
  generalize hAe : va_A (zM k q z) s.heap.size = A at hD ⊢
  have hA : ∀ q : Nat, s.heap.size ≤ q → A q := fun q h => by rw [← hAe]; exact Or.inr h
  have hDa : ∀ z9 : ZS, va_D A (zM k q z9) := fun z9 => va_D_adr (w := zM k q z) rfl hD
  have hl := lv_entry ([.ref (q 0), .int d, .int ha, .int w]) (n := 4) (Nat.le_of_ble_eq_true rfl)
  rw [lg_entry_eq]
  generalize (lg_sl ([.ref (q 0), .int d, .int ha, .int w]) ++ List.replicate (4 - (lg_sl ([.ref (q 0), .int d, .int ha, .int w])).length) Slot.unset).toArray = ls at hl ⊢
  have hl : lv_has ls 4 [(0, .ref (q 0)), (1, .int d), (2, .int ha), (3, .int w)] := hl
  refine z_start2 (A := A) (w := (zM k q z)) hP (fun H locs hP hS => ?_)
  clear hD0 hAe
  refine lv_iload_n hx hb dX7_saysYes_0 rfl (lv_at hl 1 rfl) ?_
  refine zc0_i (w := (zM k q z)) (va_runS (As := [.int d]) (rest := []) ⟨hx, hb, hml, hown, htb⟩ (c_X7_isDesign l dC dI k d _ ) (va_cwS 1 htb (gzS wmt4_59 wmt4_60 wmt1_8 wmt4_61) rfl rfl rfl (by decide +kernel) ⟨Nat.le_of_ble_eq_true rfl, Nat.le_of_ble_eq_true rfl⟩) (zp0_S hK) rfl rfl hl.1 rfl (lv_room (Nat.le_of_ble_eq_true rfl)) dX7_saysYes_1 ⟨Nat.le_of_ble_eq_true rfl, Nat.le_of_ble_eq_true rfl⟩) hP hS hA (fun r_1 u_2 H locs w_3 hP hS => ?_)
  rcases w_3 with ⟨e_5, h_4⟩ | ⟨e_7, h_6⟩
  · skip
    replace e_5 : r_1 = 1 := e_5
    subst e_5
    replace h_4 : 0 ≤ d.toInt ∧ d.toInt < 4 := h_4
    refine lv_if_eq (tgt := 35) hx hb dX7_saysYes_4 (by decide) (fun c_8 => ?_) (fun c_8 => ?_)
    · skip
      exact absurd c_8 (by decide)
    · skip
      refine lv_iload_n hx hb dX7_saysYes_7 rfl (lv_at hl 2 rfl) ?_
      refine lv_iconst (v := 0) hx hb dX7_saysYes_8 (by decide) ?_
      refine lv_iconst (v := 1) hx hb dX7_saysYes_9 (by decide) ?_
      refine zc0_i (w := (zM k q z)) (va_runS (As := [.int ha, .int 0, .int 1]) (rest := []) ⟨hx, hb, hml, hown, htb⟩ (c_X7_in l dC dI k ha 0 1 _ ) (va_cwS 3 htb (gzS wmt4_62 wmt4_63 wmt1_8 wmt4_64) rfl rfl rfl (by decide +kernel) ⟨Nat.le_of_ble_eq_true rfl, Nat.le_of_ble_eq_true rfl⟩) (zp0_S hK) rfl rfl hl.1 rfl (lv_room (Nat.le_of_ble_eq_true rfl)) dX7_saysYes_10 ⟨Nat.le_of_ble_eq_true rfl, Nat.le_of_ble_eq_true rfl⟩) hP hS hA (fun r_9 u_10 H locs w_11 hP hS => ?_)
      rcases w_11 with ⟨e_13, h_12⟩ | ⟨e_15, h_14⟩
      · skip
        replace e_13 : r_9 = 1 := e_13
        subst e_13
        replace h_12 : (0 : Int32).toInt ≤ ha.toInt ∧ ha.toInt ≤ (1 : Int32).toInt := h_12
        rw [show (0 : Int32).toInt = 0 by decide, show (1 : Int32).toInt = 1 by decide] at h_12
        refine lv_if_eq (tgt := 35) hx hb dX7_saysYes_13 (by decide) (fun c_16 => ?_) (fun c_16 => ?_)
        · skip
          exact absurd c_16 (by decide)
        · skip
          refine lv_iload_n hx hb dX7_saysYes_16 rfl (lv_at hl 3 rfl) ?_
          refine lv_iconst (v := 0) hx hb dX7_saysYes_17 (by decide) ?_
          refine lv_iconst (v := 1) hx hb dX7_saysYes_18 (by decide) ?_
          refine zc0_i (w := (zM k q z)) (va_runS (As := [.int w, .int 0, .int 1]) (rest := []) ⟨hx, hb, hml, hown, htb⟩ (c_X7_in l dC dI k w 0 1 _ ) (va_cwS 3 htb (gzS wmt4_62 wmt4_63 wmt1_8 wmt4_64) rfl rfl rfl (by decide +kernel) ⟨Nat.le_of_ble_eq_true rfl, Nat.le_of_ble_eq_true rfl⟩) (zp0_S hK) rfl rfl hl.1 rfl (lv_room (Nat.le_of_ble_eq_true rfl)) dX7_saysYes_19 ⟨Nat.le_of_ble_eq_true rfl, Nat.le_of_ble_eq_true rfl⟩) hP hS hA (fun r_17 u_18 H locs w_19 hP hS => ?_)
          rcases w_19 with ⟨e_21, h_20⟩ | ⟨e_23, h_22⟩
          · skip
            replace e_21 : r_17 = 1 := e_21
            subst e_21
            replace h_20 : (0 : Int32).toInt ≤ w.toInt ∧ w.toInt ≤ (1 : Int32).toInt := h_20
            rw [show (0 : Int32).toInt = 0 by decide, show (1 : Int32).toInt = 1 by decide] at h_20
            refine lv_if_eq (tgt := 35) hx hb dX7_saysYes_22 (by decide) (fun c_24 => ?_) (fun c_24 => ?_)
            · skip
              exact absurd c_24 (by decide)
            · skip
              refine lv_aload_n hx hb dX7_saysYes_25 rfl (lv_at hl 0 rfl) ?_
              refine lv_iload_n hx hb dX7_saysYes_26 rfl (lv_at hl 1 rfl) ?_
              refine lv_iload_n hx hb dX7_saysYes_27 rfl (lv_at hl 2 rfl) ?_
              refine lv_iload_n hx hb dX7_saysYes_28 rfl (lv_at hl 3 rfl) ?_
              refine zcA_l (w := (zM k q z)) (va_runV (As := [.int d, .int ha, .int w]) (rest := []) ⟨hx, hb, hml, hown, htb⟩ (c_X7_saysOf l dC dI k q z d ha w _ hI (show 0 ≤ d.toInt ∧ d.toInt < 4 by omega)) (cwV 3 htb (gzV wmt4_112 wmt4_114 wmp2_13 wmt1_8 wmt4_115) rfl rfl rfl (by decide +kernel) ⟨Nat.le_of_ble_eq_true rfl, Nat.le_of_ble_eq_true rfl⟩) (zpA_V (ci := 7) (q0 := 0) hK hP (hDa _) rfl rfl) rfl rfl hl.1 rfl (lv_room (Nat.le_of_ble_eq_true rfl)) dX7_saysYes_29 ⟨Nat.le_of_ble_eq_true rfl, Nat.le_of_ble_eq_true rfl⟩) (hDa _) hS hA (fun r_25 u_26 H locs w_27 hP _ hS => ?_)
              obtain ⟨o4_28, o5_29, o6_30, o7_31, o8_32, o9_33, o10_34, o12_35, o13_36, o14_37, o15_38, o16_39, o17_40, o18_41, oa_42, ob_43⟩ := u_26
              have hP : va_P (dC, dI) vwCl (zM k q (sJ (sJ (sA (sA (sA (sI (sI (sI (sI (sA (sA (sA (sA (sA (sA (sA z 4 o4_28) 5 o5_29) 6 o6_30) 7 o7_31) 8 o8_32) 9 o9_33) 10 o10_34) 12 o12_35) 13 o13_36) 14 o14_37) 15 o15_38) 16 o16_39) 17 o17_40) 18 o18_41) 0 oa_42) 1 ob_43)) H := hP
              obtain ⟨h_44, h_45⟩ := w_27
              replace h_44 : MD (FR ((z.2.2.1 2)) ((z.2.2.1 3))) o4_28 o5_29 o6_30 o7_31 o8_32 o9_33 o10_34 := h_44
              replace h_45 : r_25.toInt = tSy (trM z) d.toNatClampNeg ha.toInt w.toInt := h_45
              have hI : MInv (sJ (sJ (sA (sA (sA (sI (sI (sI (sI (sA (sA (sA (sA (sA (sA (sA z 4 o4_28) 5 o5_29) 6 o6_30) 7 o7_31) 8 o8_32) 9 o9_33) 10 o10_34) 12 o12_35) 13 o13_36) 14 o14_37) 15 o15_38) 16 o16_39) 17 o17_40) 18 o18_41) 0 oa_42) 1 ob_43) := ⟨hI.1, hI.2.1, hI.2.2.1, hI.2.2.2.1, hI.2.2.2.2.1, h_44⟩
              have hsy := h_45
              refine lv_goto (tgt := 40) hx hb dX7_saysYes_32 (by decide) ?_
              exact W.lret (v := r_25) hx hb hr (fun t ht hW => ⟨⟨r_25, (o4_28, o5_29, o6_30, o7_31, o8_32, o9_33, o10_34, o12_35, o13_36, o14_37, o15_38, o16_39, o17_40, o18_41, oa_42, ob_43), rfl, (show (MD (FR (z.2.2.1 2) (z.2.2.1 3)) o4_28 o5_29 o6_30 o7_31 o8_32 o9_33 o10_34) ∧ (r_25.toInt = tSays (trM z) d ha w) from ⟨hI.2.2.2.2.2, tSays_ok (by omega) rfl hsy⟩), ⟨by rw [ht]; exact hP, hDa _⟩⟩, hS.F ht⟩) hS.2.2 dX7_saysYes_40
          · skip
            replace e_23 : r_17 = 0 := e_23
            subst e_23
            replace h_22 : ¬ ((0 : Int32).toInt ≤ w.toInt ∧ w.toInt ≤ (1 : Int32).toInt) := h_22
            rw [show (0 : Int32).toInt = 0 by decide, show (1 : Int32).toInt = 1 by decide] at h_22
            refine lv_if_eq (tgt := 35) hx hb dX7_saysYes_22 (by decide) (fun c_47 => ?_) (fun c_47 => ?_)
            · skip
              refine lv_bipush (v := (-2)) hx hb dX7_saysYes_35 (by decide) ?_
              refine zc0_l (w := (zM k q z)) (va_runS (As := [.int (-2)]) (rest := []) ⟨hx, hb, hml, hown, htb⟩ (c_X7_told l dC dI k (-2) _ ) (va_cwS 1 htb (gzS wmt4_116 wmt4_117 wmt1_8 wmt4_118) rfl rfl rfl (by decide +kernel) ⟨Nat.le_of_ble_eq_true rfl, Nat.le_of_ble_eq_true rfl⟩) (zp0_S hK) rfl rfl hl.1 rfl (lv_room (Nat.le_of_ble_eq_true rfl)) dX7_saysYes_37 ⟨Nat.le_of_ble_eq_true rfl, Nat.le_of_ble_eq_true rfl⟩) hP hS hA (fun r_48 u_49 H locs w_50 hP hS => ?_)
              have h_51 := w_50
              replace h_51 : r_48.toInt = tl ((-2) : Int32) := h_51
              have hal := h_51
              exact W.lret (v := r_48) hx hb hr (fun t ht hW => ⟨⟨r_48, (z.2.2.1 4, z.2.2.1 5, z.2.2.1 6, z.2.2.1 7, z.2.2.1 8, z.2.2.1 9, z.2.2.1 10, z.1 12, z.1 13, z.1 14, z.1 15, z.2.2.1 16, z.2.2.1 17, z.2.2.1 18, z.2.1 0, z.2.1 1), rfl, (show (MD (FR (z.2.2.1 2) (z.2.2.1 3)) (z.2.2.1 4) (z.2.2.1 5) (z.2.2.1 6) (z.2.2.1 7) (z.2.2.1 8) (z.2.2.1 9) (z.2.2.1 10)) ∧ (r_48.toInt = tSays (trM z) d ha w) from ⟨hI.2.2.2.2.2, hal.trans (tSays_bad (by omega))⟩), ⟨by rw [ht]; exact hP, hDa _⟩⟩, hS.F ht⟩) hS.2.2 dX7_saysYes_40
            · skip
              exact absurd (by decide) c_47
      · skip
        replace e_15 : r_9 = 0 := e_15
        subst e_15
        replace h_14 : ¬ ((0 : Int32).toInt ≤ ha.toInt ∧ ha.toInt ≤ (1 : Int32).toInt) := h_14
        rw [show (0 : Int32).toInt = 0 by decide, show (1 : Int32).toInt = 1 by decide] at h_14
        refine lv_if_eq (tgt := 35) hx hb dX7_saysYes_13 (by decide) (fun c_53 => ?_) (fun c_53 => ?_)
        · skip
          refine lv_bipush (v := (-2)) hx hb dX7_saysYes_35 (by decide) ?_
          refine zc0_l (w := (zM k q z)) (va_runS (As := [.int (-2)]) (rest := []) ⟨hx, hb, hml, hown, htb⟩ (c_X7_told l dC dI k (-2) _ ) (va_cwS 1 htb (gzS wmt4_116 wmt4_117 wmt1_8 wmt4_118) rfl rfl rfl (by decide +kernel) ⟨Nat.le_of_ble_eq_true rfl, Nat.le_of_ble_eq_true rfl⟩) (zp0_S hK) rfl rfl hl.1 rfl (lv_room (Nat.le_of_ble_eq_true rfl)) dX7_saysYes_37 ⟨Nat.le_of_ble_eq_true rfl, Nat.le_of_ble_eq_true rfl⟩) hP hS hA (fun r_54 u_55 H locs w_56 hP hS => ?_)
          have h_57 := w_56
          replace h_57 : r_54.toInt = tl ((-2) : Int32) := h_57
          have hal := h_57
          exact W.lret (v := r_54) hx hb hr (fun t ht hW => ⟨⟨r_54, (z.2.2.1 4, z.2.2.1 5, z.2.2.1 6, z.2.2.1 7, z.2.2.1 8, z.2.2.1 9, z.2.2.1 10, z.1 12, z.1 13, z.1 14, z.1 15, z.2.2.1 16, z.2.2.1 17, z.2.2.1 18, z.2.1 0, z.2.1 1), rfl, (show (MD (FR (z.2.2.1 2) (z.2.2.1 3)) (z.2.2.1 4) (z.2.2.1 5) (z.2.2.1 6) (z.2.2.1 7) (z.2.2.1 8) (z.2.2.1 9) (z.2.2.1 10)) ∧ (r_54.toInt = tSays (trM z) d ha w) from ⟨hI.2.2.2.2.2, hal.trans (tSays_bad (by omega))⟩), ⟨by rw [ht]; exact hP, hDa _⟩⟩, hS.F ht⟩) hS.2.2 dX7_saysYes_40
        · skip
          exact absurd (by decide) c_53
  · skip
    replace e_7 : r_1 = 0 := e_7
    subst e_7
    replace h_6 : ¬ (0 ≤ d.toInt ∧ d.toInt < 4) := h_6
    refine lv_if_eq (tgt := 35) hx hb dX7_saysYes_4 (by decide) (fun c_59 => ?_) (fun c_59 => ?_)
    · skip
      refine lv_bipush (v := (-2)) hx hb dX7_saysYes_35 (by decide) ?_
      refine zc0_l (w := (zM k q z)) (va_runS (As := [.int (-2)]) (rest := []) ⟨hx, hb, hml, hown, htb⟩ (c_X7_told l dC dI k (-2) _ ) (va_cwS 1 htb (gzS wmt4_116 wmt4_117 wmt1_8 wmt4_118) rfl rfl rfl (by decide +kernel) ⟨Nat.le_of_ble_eq_true rfl, Nat.le_of_ble_eq_true rfl⟩) (zp0_S hK) rfl rfl hl.1 rfl (lv_room (Nat.le_of_ble_eq_true rfl)) dX7_saysYes_37 ⟨Nat.le_of_ble_eq_true rfl, Nat.le_of_ble_eq_true rfl⟩) hP hS hA (fun r_60 u_61 H locs w_62 hP hS => ?_)
      have h_63 := w_62
      replace h_63 : r_60.toInt = tl ((-2) : Int32) := h_63
      have hal := h_63
      exact W.lret (v := r_60) hx hb hr (fun t ht hW => ⟨⟨r_60, (z.2.2.1 4, z.2.2.1 5, z.2.2.1 6, z.2.2.1 7, z.2.2.1 8, z.2.2.1 9, z.2.2.1 10, z.1 12, z.1 13, z.1 14, z.1 15, z.2.2.1 16, z.2.2.1 17, z.2.2.1 18, z.2.1 0, z.2.1 1), rfl, (show (MD (FR (z.2.2.1 2) (z.2.2.1 3)) (z.2.2.1 4) (z.2.2.1 5) (z.2.2.1 6) (z.2.2.1 7) (z.2.2.1 8) (z.2.2.1 9) (z.2.2.1 10)) ∧ (r_60.toInt = tSays (trM z) d ha w) from ⟨hI.2.2.2.2.2, hal.trans (tSays_bad (by omega))⟩), ⟨by rw [ht]; exact hP, hDa _⟩⟩, hS.F ht⟩) hS.2.2 dX7_saysYes_40
    · skip
      exact absurd (by decide) c_59
set_option maxHeartbeats 4000000 in
set_option maxRecDepth 100000 in
theorem c_X7_unit (l : Launch) (dC : Nat → ClassId) (dI : Nat → Nat → Nat) (k : Nat → ClassId) (q : Nat → Nat) (z : ZS) (d : Int32) (sz : Nat) (hI : MInv z) : Met l yX7_unit (wz yX7_unit cX7_unit 2 (some .int)) ({ frames := 6, cells := 0, slots := 0, locals := 137 }) (va_Pc [.ref (q 0), .int d] (zPre dC dI k (zTX k) (zM k q z) sz)) (va_Qi (fun (r : Int32) (u : (Nat → Int32) × (Nat → Int32) × (Nat → Int32) × (Nat → Int32) × (Nat → Int32) × (Nat → Int32) × (Nat → Int32) × Int32 × Int32 × Int32 × Int32 × (Nat → Int32) × (Nat → Int32) × (Nat → Int32) × Int64 × Int64) => (MD (FR (z.2.2.1 2) (z.2.2.1 3)) u.1 u.2.1 u.2.2.1 u.2.2.2.1 u.2.2.2.2.1 u.2.2.2.2.2.1 u.2.2.2.2.2.2.1) ∧ (r.toInt = tUnit (trM z) d)) (fun u t => zPost dC dI (va_A (zM k q z) sz) (zM k q (sJ (sJ (sA (sA (sA (sI (sI (sI (sI (sA (sA (sA (sA (sA (sA (sA z 4 u.1) 5 u.2.1) 6 u.2.2.1) 7 u.2.2.2.1) 8 u.2.2.2.2.1) 9 u.2.2.2.2.2.1) 10 u.2.2.2.2.2.2.1) 12 u.2.2.2.2.2.2.2.1) 13 u.2.2.2.2.2.2.2.2.1) 14 u.2.2.2.2.2.2.2.2.2.1) 15 u.2.2.2.2.2.2.2.2.2.2.1) 16 u.2.2.2.2.2.2.2.2.2.2.2.1) 17 u.2.2.2.2.2.2.2.2.2.2.2.2.1) 18 u.2.2.2.2.2.2.2.2.2.2.2.2.2.1) 0 u.2.2.2.2.2.2.2.2.2.2.2.2.2.2.1) 1 u.2.2.2.2.2.2.2.2.2.2.2.2.2.2.2)) t) (va_A (zM k q z) sz)) 0 0 (va_A (zM k q z) sz) := by
  refine Met.ofW (cc := cX7_unit) (maxL := 2) (ret := (some .int)) (by decide) rfl ?_
  intro p e s m args below meth c s₁ B hml hv
  obtain ⟨rfl, hsz, hP, hK, hD0⟩ := hv
  have hx := B.exec
  have hb := B.bytes
  have hr := B.returns
  have hts := atoms_spec (ws := wz yX7_unit cX7_unit 2 (some .int)) B.pre
  have htb : ∀ w ∈ zw, w.before _ s = true := fun w h => hts w (List.mem_cons_of_mem _ h)
  have hown : s.vm.findClass RX7 = some m.cls := findClass_of_methodNamed B.named
  have hlocks := B.notSynchronized
  clear hts
  subst hsz
  have hD := hD0.self (sz := s.heap.size)
  generalize hAe : va_A (zM k q z) s.heap.size = A at hD ⊢
  have hA : ∀ q : Nat, s.heap.size ≤ q → A q := fun q h => by rw [← hAe]; exact Or.inr h
  have hDa : ∀ z9 : ZS, va_D A (zM k q z9) := fun z9 => va_D_adr (w := zM k q z) rfl hD
  have hl := lv_entry ([.ref (q 0), .int d]) (n := 2) (Nat.le_of_ble_eq_true rfl)
  rw [lg_entry_eq]
  generalize (lg_sl ([.ref (q 0), .int d]) ++ List.replicate (2 - (lg_sl ([.ref (q 0), .int d])).length) Slot.unset).toArray = ls at hl ⊢
  have hl : lv_has ls 2 [(0, .ref (q 0)), (1, .int d)] := hl
  refine z_start2 (A := A) (w := (zM k q z)) hP (fun H locs hP hS => ?_)
  clear hD0 hAe
  refine lv_iload_n hx hb dX7_unit_0 rfl (lv_at hl 1 rfl) ?_
  refine zc0_i (w := (zM k q z)) (va_runS (As := [.int d]) (rest := []) ⟨hx, hb, hml, hown, htb⟩ (c_X7_isDesign l dC dI k d _ ) (va_cwS 1 htb (gzS wmt4_59 wmt4_60 wmt1_8 wmt4_61) rfl rfl rfl (by decide +kernel) ⟨Nat.le_of_ble_eq_true rfl, Nat.le_of_ble_eq_true rfl⟩) (zp0_S hK) rfl rfl hl.1 rfl (lv_room (Nat.le_of_ble_eq_true rfl)) dX7_unit_1 ⟨Nat.le_of_ble_eq_true rfl, Nat.le_of_ble_eq_true rfl⟩) hP hS hA (fun r_1 u_2 H locs w_3 hP hS => ?_)
  rcases w_3 with ⟨e_5, h_4⟩ | ⟨e_7, h_6⟩
  · skip
    replace e_5 : r_1 = 1 := e_5
    subst e_5
    replace h_4 : 0 ≤ d.toInt ∧ d.toInt < 4 := h_4
    refine lv_if_eq (tgt := 15) hx hb dX7_unit_4 (by decide) (fun c_8 => ?_) (fun c_8 => ?_)
    · skip
      exact absurd c_8 (by decide)
    · skip
      refine lv_aload_n hx hb dX7_unit_7 rfl (lv_at hl 0 rfl) ?_
      refine lv_iload_n hx hb dX7_unit_8 rfl (lv_at hl 1 rfl) ?_
      refine zcA_i (w := (zM k q z)) (va_runV (As := [.int d]) (rest := []) ⟨hx, hb, hml, hown, htb⟩ (c_X7_unitOf l dC dI k q z d _ hI (show 0 ≤ d.toInt ∧ d.toInt < 4 by omega)) (cwV 1 htb (gzV wmt4_141 wmt4_143 wmp3_2 wmt1_8 wmt4_144) rfl rfl rfl (by decide +kernel) ⟨Nat.le_of_ble_eq_true rfl, Nat.le_of_ble_eq_true rfl⟩) (zpA_V (ci := 7) (q0 := 0) hK hP (hDa _) rfl rfl) rfl rfl hl.1 rfl (lv_room (Nat.le_of_ble_eq_true rfl)) dX7_unit_9 ⟨Nat.le_of_ble_eq_true rfl, Nat.le_of_ble_eq_true rfl⟩) (hDa _) hS hA (fun r_9 u_10 H locs w_11 hP _ hS => ?_)
      obtain ⟨o4_12, o5_13, o6_14, o7_15, o8_16, o9_17, o10_18, o12_19, o13_20, o14_21, o15_22, o16_23, o17_24, o18_25, oa_26, ob_27⟩ := u_10
      have hP : va_P (dC, dI) vwCl (zM k q (sJ (sJ (sA (sA (sA (sI (sI (sI (sI (sA (sA (sA (sA (sA (sA (sA z 4 o4_12) 5 o5_13) 6 o6_14) 7 o7_15) 8 o8_16) 9 o9_17) 10 o10_18) 12 o12_19) 13 o13_20) 14 o14_21) 15 o15_22) 16 o16_23) 17 o17_24) 18 o18_25) 0 oa_26) 1 ob_27)) H := hP
      obtain ⟨h_28, h_29, h_30, h_31, h_32, h_33, h_34⟩ := w_11
      replace h_28 : MD (FR ((z.2.2.1 2)) ((z.2.2.1 3))) o4_12 o5_13 o6_14 o7_15 o8_16 o9_17 o10_18 := h_28
      replace h_29 : ¬ o4_12 d.toNatClampNeg = 0 := h_29
      replace h_30 : RK ((z.2.2.1 4)) ((z.2.2.1 5)) o4_12 o5_13 := h_30
      replace h_31 : R7 ((z.2.2.1 4)) ((z.2.2.1 6)) ((z.2.2.1 7)) ((z.2.2.1 8)) ((z.2.2.1 9)) ((z.2.2.1 10)) o6_14 o7_15 o8_16 o9_17 o10_18 := h_31
      replace h_32 : (o5_13 d.toNatClampNeg).toInt = -1 → 1 ≤ r_9.toInt := h_32
      replace h_33 : (o5_13 d.toNatClampNeg).toInt = -1 → r_9.toInt = uN (yI (o7_15 d.toNatClampNeg) (o8_16 d.toNatClampNeg) (o9_17 d.toNatClampNeg) (o10_18 d.toNatClampNeg) ((z.1 11)) 1) (yI (o7_15 d.toNatClampNeg) (o8_16 d.toNatClampNeg) (o9_17 d.toNatClampNeg) (o10_18 d.toNatClampNeg) ((z.1 11)) 0) (24 * (o6_14 d.toNatClampNeg).toInt) := h_33
      replace h_34 : ¬ (o5_13 d.toNatClampNeg).toInt = -1 → r_9.toInt = -3 := h_34
      have hI : MInv (sJ (sJ (sA (sA (sA (sI (sI (sI (sI (sA (sA (sA (sA (sA (sA (sA z 4 o4_12) 5 o5_13) 6 o6_14) 7 o7_15) 8 o8_16) 9 o9_17) 10 o10_18) 12 o12_19) 13 o13_20) 14 o14_21) 15 o15_22) 16 o16_23) 17 o17_24) 18 o18_25) 0 oa_26) 1 ob_27) := ⟨hI.1, hI.2.1, hI.2.2.1, hI.2.2.2.1, hI.2.2.2.2.1, h_28⟩
      obtain ⟨-, -, hfF, hlk⟩ := (MD_at h_28 (show 0 ≤ d.toInt ∧ d.toInt < 4 by omega)).2.2.2.2.2 h_29
      have htF : tF (trM z) d.toNatClampNeg = o5_13 d.toNatClampNeg := (trM_Fg (z_cl4 (show 0 ≤ d.toInt ∧ d.toInt < 4 by omega))).trans (by unfold eF; rw [← hfF, Int32.ofInt_toInt])
      have hun1 := h_33
      have hun0 := h_34
      refine lv_goto (tgt := 17) hx hb dX7_unit_12 (by decide) ?_
      exact W.iret (v := r_9) hx hb hr (fun t ht hW => ⟨⟨r_9, (o4_12, o5_13, o6_14, o7_15, o8_16, o9_17, o10_18, o12_19, o13_20, o14_21, o15_22, o16_23, o17_24, o18_25, oa_26, ob_27), rfl, (show (MD (FR (z.2.2.1 2) (z.2.2.1 3)) o4_12 o5_13 o6_14 o7_15 o8_16 o9_17 o10_18) ∧ (r_9.toInt = tUnit (trM z) d) from ⟨hI.2.2.2.2.2, tUnit_ok (by omega) rfl (by by_cases q8 : (o5_13 d.toNatClampNeg).toInt = -1; exact (hun1 q8).trans (unit_M hI.2.2.1 (z_cl4 (show 0 ≤ d.toInt ∧ d.toInt < 4 by omega)) htF q8 hfF (hlk q8)); exact (hun0 q8).trans (tUn_f htF q8))⟩), ⟨by rw [ht]; exact hP, hDa _⟩⟩, hS.F ht⟩) hS.2.2 dX7_unit_17
  · skip
    replace e_7 : r_1 = 0 := e_7
    subst e_7
    replace h_6 : ¬ (0 ≤ d.toInt ∧ d.toInt < 4) := h_6
    refine lv_if_eq (tgt := 15) hx hb dX7_unit_4 (by decide) (fun c_36 => ?_) (fun c_36 => ?_)
    · skip
      refine lv_bipush (v := (-2)) hx hb dX7_unit_15 (by decide) ?_
      exact W.iret (v := (-2)) hx hb hr (fun t ht hW => ⟨⟨(-2), (z.2.2.1 4, z.2.2.1 5, z.2.2.1 6, z.2.2.1 7, z.2.2.1 8, z.2.2.1 9, z.2.2.1 10, z.1 12, z.1 13, z.1 14, z.1 15, z.2.2.1 16, z.2.2.1 17, z.2.2.1 18, z.2.1 0, z.2.1 1), rfl, (show (MD (FR (z.2.2.1 2) (z.2.2.1 3)) (z.2.2.1 4) (z.2.2.1 5) (z.2.2.1 6) (z.2.2.1 7) (z.2.2.1 8) (z.2.2.1 9) (z.2.2.1 10)) ∧ (((-2) : Int32).toInt = tUnit (trM z) d) from ⟨hI.2.2.2.2.2, (show (-2 : Int32).toInt = -2 by decide).trans (tUnit_bad (by omega))⟩), ⟨by rw [ht]; exact hP, hDa _⟩⟩, hS.F ht⟩) hS.2.2 dX7_unit_17
    · skip
      exact absurd (by decide) c_36
set_option maxHeartbeats 4000000 in
set_option maxRecDepth 100000 in
theorem c_X7_fault (l : Launch) (dC : Nat → ClassId) (dI : Nat → Nat → Nat) (k : Nat → ClassId) (q : Nat → Nat) (z : ZS) (d : Int32) (sz : Nat) (hI : MInv z) : Met l yX7_fault (wz yX7_fault cX7_fault 2 (some .int)) ({ frames := 5, cells := 0, slots := 0, locals := 114 }) (va_Pc [.ref (q 0), .int d] (zPre dC dI k (zTX k) (zM k q z) sz)) (va_Qi (fun (r : Int32) (u : (Nat → Int32) × (Nat → Int32) × (Nat → Int32) × (Nat → Int32) × (Nat → Int32) × (Nat → Int32) × (Nat → Int32) × Int32 × Int32 × Int32 × Int32 × (Nat → Int32) × (Nat → Int32) × (Nat → Int32)) => (MD (FR (z.2.2.1 2) (z.2.2.1 3)) u.1 u.2.1 u.2.2.1 u.2.2.2.1 u.2.2.2.2.1 u.2.2.2.2.2.1 u.2.2.2.2.2.2.1) ∧ (r = tFault (trM z) d)) (fun u t => zPost dC dI (va_A (zM k q z) sz) (zM k q (sA (sA (sA (sI (sI (sI (sI (sA (sA (sA (sA (sA (sA (sA z 4 u.1) 5 u.2.1) 6 u.2.2.1) 7 u.2.2.2.1) 8 u.2.2.2.2.1) 9 u.2.2.2.2.2.1) 10 u.2.2.2.2.2.2.1) 12 u.2.2.2.2.2.2.2.1) 13 u.2.2.2.2.2.2.2.2.1) 14 u.2.2.2.2.2.2.2.2.2.1) 15 u.2.2.2.2.2.2.2.2.2.2.1) 16 u.2.2.2.2.2.2.2.2.2.2.2.1) 17 u.2.2.2.2.2.2.2.2.2.2.2.2.1) 18 u.2.2.2.2.2.2.2.2.2.2.2.2.2)) t) (va_A (zM k q z) sz)) 0 0 (va_A (zM k q z) sz) := by
  refine Met.ofW (cc := cX7_fault) (maxL := 2) (ret := (some .int)) (by decide) rfl ?_
  intro p e s m args below meth c s₁ B hml hv
  obtain ⟨rfl, hsz, hP, hK, hD0⟩ := hv
  have hx := B.exec
  have hb := B.bytes
  have hr := B.returns
  have hts := atoms_spec (ws := wz yX7_fault cX7_fault 2 (some .int)) B.pre
  have htb : ∀ w ∈ zw, w.before _ s = true := fun w h => hts w (List.mem_cons_of_mem _ h)
  have hown : s.vm.findClass RX7 = some m.cls := findClass_of_methodNamed B.named
  have hlocks := B.notSynchronized
  clear hts
  subst hsz
  have hD := hD0.self (sz := s.heap.size)
  generalize hAe : va_A (zM k q z) s.heap.size = A at hD ⊢
  have hA : ∀ q : Nat, s.heap.size ≤ q → A q := fun q h => by rw [← hAe]; exact Or.inr h
  have hDa : ∀ z9 : ZS, va_D A (zM k q z9) := fun z9 => va_D_adr (w := zM k q z) rfl hD
  have hl := lv_entry ([.ref (q 0), .int d]) (n := 2) (Nat.le_of_ble_eq_true rfl)
  rw [lg_entry_eq]
  generalize (lg_sl ([.ref (q 0), .int d]) ++ List.replicate (2 - (lg_sl ([.ref (q 0), .int d])).length) Slot.unset).toArray = ls at hl ⊢
  have hl : lv_has ls 2 [(0, .ref (q 0)), (1, .int d)] := hl
  refine z_start2 (A := A) (w := (zM k q z)) hP (fun H locs hP hS => ?_)
  clear hD0 hAe
  refine lv_iload_n hx hb dX7_fault_0 rfl (lv_at hl 1 rfl) ?_
  refine zc0_i (w := (zM k q z)) (va_runS (As := [.int d]) (rest := []) ⟨hx, hb, hml, hown, htb⟩ (c_X7_isDesign l dC dI k d _ ) (va_cwS 1 htb (gzS wmt4_59 wmt4_60 wmt1_8 wmt4_61) rfl rfl rfl (by decide +kernel) ⟨Nat.le_of_ble_eq_true rfl, Nat.le_of_ble_eq_true rfl⟩) (zp0_S hK) rfl rfl hl.1 rfl (lv_room (Nat.le_of_ble_eq_true rfl)) dX7_fault_1 ⟨Nat.le_of_ble_eq_true rfl, Nat.le_of_ble_eq_true rfl⟩) hP hS hA (fun r_1 u_2 H locs w_3 hP hS => ?_)
  rcases w_3 with ⟨e_5, h_4⟩ | ⟨e_7, h_6⟩
  · skip
    replace e_5 : r_1 = 1 := e_5
    subst e_5
    replace h_4 : 0 ≤ d.toInt ∧ d.toInt < 4 := h_4
    refine lv_if_eq (tgt := 15) hx hb dX7_fault_4 (by decide) (fun c_8 => ?_) (fun c_8 => ?_)
    · skip
      exact absurd c_8 (by decide)
    · skip
      refine lv_aload_n hx hb dX7_fault_7 rfl (lv_at hl 0 rfl) ?_
      refine lv_iload_n hx hb dX7_fault_8 rfl (lv_at hl 1 rfl) ?_
      refine zcA_i (w := (zM k q z)) (va_runV (As := [.int d]) (rest := []) ⟨hx, hb, hml, hown, htb⟩ (c_X7_faultOf l dC dI k q z d _ hI (show 0 ≤ d.toInt ∧ d.toInt < 4 by omega)) (cwV 1 htb (gzV wmt4_73 wmt4_75 wmp2_6 wmt1_8 wmt4_76) rfl rfl rfl (by decide +kernel) ⟨Nat.le_of_ble_eq_true rfl, Nat.le_of_ble_eq_true rfl⟩) (zpA_V (ci := 7) (q0 := 0) hK hP (hDa _) rfl rfl) rfl rfl hl.1 rfl (lv_room (Nat.le_of_ble_eq_true rfl)) dX7_fault_9 ⟨Nat.le_of_ble_eq_true rfl, Nat.le_of_ble_eq_true rfl⟩) (hDa _) hS hA (fun r_9 u_10 H locs w_11 hP _ hS => ?_)
      obtain ⟨o4_12, o5_13, o6_14, o7_15, o8_16, o9_17, o10_18, o12_19, o13_20, o14_21, o15_22, o16_23, o17_24, o18_25⟩ := u_10
      have hP : va_P (dC, dI) vwCl (zM k q (sA (sA (sA (sI (sI (sI (sI (sA (sA (sA (sA (sA (sA (sA z 4 o4_12) 5 o5_13) 6 o6_14) 7 o7_15) 8 o8_16) 9 o9_17) 10 o10_18) 12 o12_19) 13 o13_20) 14 o14_21) 15 o15_22) 16 o16_23) 17 o17_24) 18 o18_25)) H := hP
      obtain ⟨h_26, h_27, h_28, h_29, h_30⟩ := w_11
      replace h_26 : MD (FR ((z.2.2.1 2)) ((z.2.2.1 3))) o4_12 o5_13 o6_14 o7_15 o8_16 o9_17 o10_18 := h_26
      replace h_27 : ¬ o4_12 d.toNatClampNeg = 0 := h_27
      replace h_28 : RK ((z.2.2.1 4)) ((z.2.2.1 5)) o4_12 o5_13 := h_28
      replace h_29 : R7 ((z.2.2.1 4)) ((z.2.2.1 6)) ((z.2.2.1 7)) ((z.2.2.1 8)) ((z.2.2.1 9)) ((z.2.2.1 10)) o6_14 o7_15 o8_16 o9_17 o10_18 := h_29
      replace h_30 : r_9 = o5_13 d.toNatClampNeg := h_30
      have hI : MInv (sA (sA (sA (sI (sI (sI (sI (sA (sA (sA (sA (sA (sA (sA z 4 o4_12) 5 o5_13) 6 o6_14) 7 o7_15) 8 o8_16) 9 o9_17) 10 o10_18) 12 o12_19) 13 o13_20) 14 o14_21) 15 o15_22) 16 o16_23) 17 o17_24) 18 o18_25) := ⟨hI.1, hI.2.1, hI.2.2.1, hI.2.2.2.1, hI.2.2.2.2.1, h_26⟩
      have hms := MD_at h_26 (show 0 ≤ d.toInt ∧ d.toInt < 4 by omega)
      have hrd := h_27
      have hrk := h_28
      obtain ⟨hw, hff, hfF, hlk⟩ := hms.2.2.2.2.2 h_27
      have hwb := hms.1
      have hr5 : r_9.toInt = (o5_13 d.toNatClampNeg).toInt := by rw [h_30]
      refine lv_goto (tgt := 17) hx hb dX7_fault_12 (by decide) ?_
      exact W.iret (v := r_9) hx hb hr (fun t ht hW => ⟨⟨r_9, (o4_12, o5_13, o6_14, o7_15, o8_16, o9_17, o10_18, o12_19, o13_20, o14_21, o15_22, o16_23, o17_24, o18_25), rfl, (show (MD (FR (z.2.2.1 2) (z.2.2.1 3)) o4_12 o5_13 o6_14 o7_15 o8_16 o9_17 o10_18) ∧ (r_9 = tFault (trM z) d) from ⟨hI.2.2.2.2.2, tFault_ok (n := d.toNatClampNeg) (by omega) rfl ((trM_Fg (z_cl4 (show 0 ≤ d.toInt ∧ d.toInt < 4 by omega))).trans (by unfold eF; rw [← hfF, ← hr5, Int32.ofInt_toInt]))⟩), ⟨by rw [ht]; exact hP, hDa _⟩⟩, hS.F ht⟩) hS.2.2 dX7_fault_17
  · skip
    replace e_7 : r_1 = 0 := e_7
    subst e_7
    replace h_6 : ¬ (0 ≤ d.toInt ∧ d.toInt < 4) := h_6
    refine lv_if_eq (tgt := 15) hx hb dX7_fault_4 (by decide) (fun c_32 => ?_) (fun c_32 => ?_)
    · skip
      refine lv_bipush (v := (-2)) hx hb dX7_fault_15 (by decide) ?_
      exact W.iret (v := (-2)) hx hb hr (fun t ht hW => ⟨⟨(-2), (z.2.2.1 4, z.2.2.1 5, z.2.2.1 6, z.2.2.1 7, z.2.2.1 8, z.2.2.1 9, z.2.2.1 10, z.1 12, z.1 13, z.1 14, z.1 15, z.2.2.1 16, z.2.2.1 17, z.2.2.1 18), rfl, (show (MD (FR (z.2.2.1 2) (z.2.2.1 3)) (z.2.2.1 4) (z.2.2.1 5) (z.2.2.1 6) (z.2.2.1 7) (z.2.2.1 8) (z.2.2.1 9) (z.2.2.1 10)) ∧ (((-2) : Int32) = tFault (trM z) d) from ⟨hI.2.2.2.2.2, tFault_bad (by omega)⟩), ⟨by rw [ht]; exact hP, hDa _⟩⟩, hS.F ht⟩) hS.2.2 dX7_fault_17
    · skip
      exact absurd (by decide) c_32
