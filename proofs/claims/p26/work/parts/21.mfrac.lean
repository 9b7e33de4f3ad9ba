set_option maxHeartbeats 4000000 in
set_option maxRecDepth 100000 in
theorem c_X7_is (l : Launch) (dC : Nat → ClassId) (dI : Nat → Nat → Nat) (k : Nat → ClassId) (q : Nat → Nat) (z : ZS) (x0 : Int64) (y0 : Int64) (sz : Nat) (h1 : (-4611686018427387904 < x0.toInt ∧ x0.toInt < 4611686018427387904)) (h2 : (-4611686018427387904 < y0.toInt ∧ y0.toInt < 4611686018427387904)) (h0 : y0.toInt ≠ 0) : Met l yX7_is (wz yX7_is cX7_is 7 none) ({ frames := 1, cells := 0, slots := 0, locals := 29 }) (va_Pc [.ref (q 0), .long x0, .long y0] (zPre dC dI k (zTX k) (zM k q z) sz)) (va_Qv (fun (u : Int64 × Int64) => (1 ≤ u.2.toInt ∧ u.2.toInt ≤ (y0.toInt.natAbs : Int)) ∧ ((u.1.toInt.natAbs : Int) ≤ (x0.toInt.natAbs : Int)) ∧ ((0 ≤ x0.toInt → 0 < y0.toInt → 0 ≤ u.1.toInt) ∧ (0 < x0.toInt → 0 < y0.toInt → 1 ≤ u.1.toInt)) ∧ (u.2.toInt = ((y0.toInt.natAbs / Nat.gcd x0.toInt.natAbs y0.toInt.natAbs : Nat) : Int)) ∧ (u.1.toInt = x0.toInt.tdiv (if y0.toInt < 0 then -(Nat.gcd x0.toInt.natAbs y0.toInt.natAbs : Int) else (Nat.gcd x0.toInt.natAbs y0.toInt.natAbs : Int))) ∧ (Hd (0 ≤ x0.toInt → 0 < y0.toInt → u.1.toInt = frT x0.toInt y0.toInt 0 ∧ u.2.toInt = frT x0.toInt y0.toInt 1))) (fun u t => zPost dC dI (va_A (zM k q z) sz) (zM k q (sJ (sJ z 0 u.1) 1 u.2)) t) (va_A (zM k q z) sz)) 0 0 (va_A (zM k q z) sz) := by
  refine Met.ofW (cc := cX7_is) (maxL := 7) (ret := none) (by decide) rfl ?_
  intro p e s m args below meth c s₁ B hml hv
  obtain ⟨rfl, hsz, hP, hK, hD0⟩ := hv
  have hx := B.exec
  have hb := B.bytes
  have hr := B.returns
  have hts := atoms_spec (ws := wz yX7_is cX7_is 7 none) B.pre
  have htb : ∀ w ∈ zw, w.before _ s = true := fun w h => hts w (List.mem_cons_of_mem _ h)
  have hown : s.vm.findClass RX7 = some m.cls := findClass_of_methodNamed B.named
  have hlocks := B.notSynchronized
  clear hts
  subst hsz
  have hD := hD0.self (sz := s.heap.size)
  generalize hAe : va_A (zM k q z) s.heap.size = A at hD ⊢
  have hA : ∀ q : Nat, s.heap.size ≤ q → A q := fun q h => by rw [← hAe]; exact Or.inr h
  have hDa : ∀ z9 : ZS, va_D A (zM k q z9) := fun z9 => va_D_adr (w := zM k q z) rfl hD
  have hl := lv_entry ([.ref (q 0), .long x0, .long y0]) (n := 7) (Nat.le_of_ble_eq_true rfl)
  rw [lg_entry_eq]
  generalize (lg_sl ([.ref (q 0), .long x0, .long y0]) ++ List.replicate (7 - (lg_sl ([.ref (q 0), .long x0, .long y0])).length) Slot.unset).toArray = ls at hl ⊢
  have hl : lv_has ls 7 [(0, .ref (q 0)), (1, .long x0), (3, .long y0)] := hl
  refine z_start2 (A := A) (w := (zM k q z)) hP (fun H locs hP hS => ?_)
  clear hD0 hAe
  refine lv_lload_n hx hb dX7_is_0 rfl (lv_at hl 1 rfl) ?_
  refine lv_lload_n hx hb dX7_is_1 rfl (lv_at hl 2 rfl) ?_
  refine zc0_l (w := (zM k q z)) (va_runS (As := [.long x0, .long y0]) (rest := []) ⟨hx, hb, hml, hown, htb⟩ (c_X7_divisor l dC dI k x0 y0 _ (by omega) (by omega)) (va_cwS 2 htb (gzS wmt4_97 wmt4_98 wmt1_8 wmt4_99) rfl rfl rfl (by decide +kernel) ⟨Nat.le_of_ble_eq_true rfl, Nat.le_of_ble_eq_true rfl⟩) (zp0_S hK) rfl rfl hl.1 rfl (lv_room (Nat.le_of_ble_eq_true rfl)) dX7_is_2 ⟨Nat.le_of_ble_eq_true rfl, Nat.le_of_ble_eq_true rfl⟩) hP hS hA (fun r_1 u_2 H locs w_3 hP hS => ?_)
  have h_4 := w_3
  replace h_4 : r_1.toInt = (Nat.gcd x0.toInt.natAbs y0.toInt.natAbs : Int) := h_4
  have hgr := h_4
  have hgl := zg_le (x := x0.toInt) h0
  have hgp := zg_pos (x := x0.toInt) h0
  refine lv_lstore (lv' := [(5, .long r_1), (0, .ref (q 0)), (1, .long x0), (3, .long y0)]) hx hb dX7_is_5 hl (by decide) rfl (fun ls hl => ?_)
  refine lv_lload_n hx hb dX7_is_7 rfl (lv_at hl 3 rfl) ?_
  refine lv_lconst (v := 0) hx hb dX7_is_8 (by decide) ?_
  refine z_lcmp hx hb dX7_is_9 ?_
  refine lv_if_ge (tgt := 19) hx hb dX7_is_10 (by decide) (fun c_6 => ?_) (fun c_6 => ?_)
  · skip
    have hc_6 := zl_ge rfl (show (0 : Int64).toInt = 0 by decide) c_6
    refine lv_lload hx hb dX7_is_19 (lv_at hl 0 rfl) ?_
    have hby : r_1.toInt = if y0.toInt < 0 then -(Nat.gcd x0.toInt.natAbs y0.toInt.natAbs : Int) else (Nat.gcd x0.toInt.natAbs y0.toInt.natAbs : Int) := by rw [if_neg (by omega)]; omega
    refine lv_lstore (lv' := [(5, .long r_1), (0, .ref (q 0)), (1, .long x0), (3, .long y0)]) hx hb dX7_is_21 hl (by decide) rfl (fun ls hl => ?_)
    refine lv_aload_n hx hb dX7_is_23 rfl (lv_at hl 1 rfl) ?_
    refine lv_lload_n hx hb dX7_is_24 rfl (lv_at hl 2 rfl) ?_
    refine lv_lload hx hb dX7_is_25 (lv_at hl 0 rfl) ?_
    refine lv_ldiv hx hb dX7_is_27 (z_l0ne (by have q := hby; split at q <;> omega)) ?_
    refine lv_topl (fun x_7 ex_7 => ?_)
    have hx_7 := i64_div2 ex_7 (by omega)
    refine va_put (D := (dC, dI)) (ci := 7) (v := .long x_7) (ty := .long) (C := RX7) (T := TX7) (N := 42) hx hb htb inw7 tyX7 tyX7_ok nmX7 hown hK.1 hP (hDa _) hS 0 rfl rfl 0 (by decide) (htb _ wmt3_167) (fun _ h9 => h9) rfl (by decide +kernel) rfl rfl (Nat.le_of_ble_eq_true rfl) dX7_is_28 (fun H locs hP _ hS => ?_)
    have hP : va_P (dC, dI) vwCl (zM k q (sJ z 0 x_7)) H := hP
    refine lv_aload_n hx hb dX7_is_31 rfl (lv_at hl 1 rfl) ?_
    refine lv_lload_n hx hb dX7_is_32 rfl (lv_at hl 3 rfl) ?_
    refine lv_lload hx hb dX7_is_33 (lv_at hl 0 rfl) ?_
    refine lv_ldiv hx hb dX7_is_35 (z_l0ne (by have q := hby; split at q <;> omega)) ?_
    refine lv_topl (fun x_8 ex_8 => ?_)
    have hx_8 := i64_div2 ex_8 (by omega)
    refine va_put (D := (dC, dI)) (ci := 7) (v := .long x_8) (ty := .long) (C := RX7) (T := TX7) (N := 42) hx hb htb inw7 tyX7 tyX7_ok nmX7 hown hK.1 hP (hDa _) hS 0 rfl rfl 1 (by decide) (htb _ wmt3_168) (fun _ h9 => h9) rfl (by decide +kernel) rfl rfl (Nat.le_of_ble_eq_true rfl) dX7_is_36 (fun H locs hP _ hS => ?_)
    have hP : va_P (dC, dI) vwCl (zM k q (sJ (sJ z 0 x_7) 1 x_8)) H := hP
    exact W.vret hx hb hr (fun t ht hW => ⟨⟨(x_7, x_8), rfl, (show (1 ≤ x_8.toInt ∧ x_8.toInt ≤ (y0.toInt.natAbs : Int)) ∧ ((x_7.toInt.natAbs : Int) ≤ (x0.toInt.natAbs : Int)) ∧ ((0 ≤ x0.toInt → 0 < y0.toInt → 0 ≤ x_7.toInt) ∧ (0 < x0.toInt → 0 < y0.toInt → 1 ≤ x_7.toInt)) ∧ (x_8.toInt = ((y0.toInt.natAbs / Nat.gcd x0.toInt.natAbs y0.toInt.natAbs : Nat) : Int)) ∧ (x_7.toInt = x0.toInt.tdiv (if y0.toInt < 0 then -(Nat.gcd x0.toInt.natAbs y0.toInt.natAbs : Int) else (Nat.gcd x0.toInt.natAbs y0.toInt.natAbs : Int))) ∧ (Hd (0 ≤ x0.toInt → 0 < y0.toInt → x_7.toInt = frT x0.toInt y0.toInt 0 ∧ x_8.toInt = frT x0.toInt y0.toInt 1)) from (is_all h0 hgr hby hx_7 hx_8)), ⟨by rw [ht]; exact hP, hDa _⟩⟩, hS.F ht⟩) hS.2.2 dX7_is_39
  · skip
    have hc_6 := zl_nge rfl (show (0 : Int64).toInt = 0 by decide) c_6
    refine lv_lload hx hb dX7_is_13 (lv_at hl 0 rfl) ?_
    refine lv_lneg hx hb dX7_is_15 ?_
    refine lv_topl (fun x_9 ex_9 => ?_)
    have hx_9 : x_9.toInt = -r_1.toInt := by rw [ex_9]; exact Jvm.Kit.i64_neg (by omega)
    refine lv_goto (tgt := 21) hx hb dX7_is_16 (by decide) ?_
    have hby : x_9.toInt = if y0.toInt < 0 then -(Nat.gcd x0.toInt.natAbs y0.toInt.natAbs : Int) else (Nat.gcd x0.toInt.natAbs y0.toInt.natAbs : Int) := by rw [if_pos (by omega)]; omega
    refine lv_lstore (lv' := [(5, .long x_9), (0, .ref (q 0)), (1, .long x0), (3, .long y0)]) hx hb dX7_is_21 hl (by decide) rfl (fun ls hl => ?_)
    refine lv_aload_n hx hb dX7_is_23 rfl (lv_at hl 1 rfl) ?_
    refine lv_lload_n hx hb dX7_is_24 rfl (lv_at hl 2 rfl) ?_
    refine lv_lload hx hb dX7_is_25 (lv_at hl 0 rfl) ?_
    refine lv_ldiv hx hb dX7_is_27 (z_l0ne (by have q := hby; split at q <;> omega)) ?_
    refine lv_topl (fun x_10 ex_10 => ?_)
    have hx_10 := i64_div2 ex_10 (by omega)
    refine va_put (D := (dC, dI)) (ci := 7) (v := .long x_10) (ty := .long) (C := RX7) (T := TX7) (N := 42) hx hb htb inw7 tyX7 tyX7_ok nmX7 hown hK.1 hP (hDa _) hS 0 rfl rfl 0 (by decide) (htb _ wmt3_167) (fun _ h9 => h9) rfl (by decide +kernel) rfl rfl (Nat.le_of_ble_eq_true rfl) dX7_is_28 (fun H locs hP _ hS => ?_)
    have hP : va_P (dC, dI) vwCl (zM k q (sJ z 0 x_10)) H := hP
    refine lv_aload_n hx hb dX7_is_31 rfl (lv_at hl 1 rfl) ?_
    refine lv_lload_n hx hb dX7_is_32 rfl (lv_at hl 3 rfl) ?_
    refine lv_lload hx hb dX7_is_33 (lv_at hl 0 rfl) ?_
    refine lv_ldiv hx hb dX7_is_35 (z_l0ne (by have q := hby; split at q <;> omega)) ?_
    refine lv_topl (fun x_11 ex_11 => ?_)
    have hx_11 := i64_div2 ex_11 (by omega)
    refine va_put (D := (dC, dI)) (ci := 7) (v := .long x_11) (ty := .long) (C := RX7) (T := TX7) (N := 42) hx hb htb inw7 tyX7 tyX7_ok nmX7 hown hK.1 hP (hDa _) hS 0 rfl rfl 1 (by decide) (htb _ wmt3_168) (fun _ h9 => h9) rfl (by decide +kernel) rfl rfl (Nat.le_of_ble_eq_true rfl) dX7_is_36 (fun H locs hP _ hS => ?_)
    have hP : va_P (dC, dI) vwCl (zM k q (sJ (sJ z 0 x_10) 1 x_11)) H := hP
    exact W.vret hx hb hr (fun t ht hW => ⟨⟨(x_10, x_11), rfl, (show (1 ≤ x_11.toInt ∧ x_11.toInt ≤ (y0.toInt.natAbs : Int)) ∧ ((x_10.toInt.natAbs : Int) ≤ (x0.toInt.natAbs : Int)) ∧ ((0 ≤ x0.toInt → 0 < y0.toInt → 0 ≤ x_10.toInt) ∧ (0 < x0.toInt → 0 < y0.toInt → 1 ≤ x_10.toInt)) ∧ (x_11.toInt = ((y0.toInt.natAbs / Nat.gcd x0.toInt.natAbs y0.toInt.natAbs : Nat) : Int)) ∧ (x_10.toInt = x0.toInt.tdiv (if y0.toInt < 0 then -(Nat.gcd x0.toInt.natAbs y0.toInt.natAbs : Int) else (Nat.gcd x0.toInt.natAbs y0.toInt.natAbs : Int))) ∧ (Hd (0 ≤ x0.toInt → 0 < y0.toInt → x_10.toInt = frT x0.toInt y0.toInt 0 ∧ x_11.toInt = frT x0.toInt y0.toInt 1)) from (is_all h0 hgr hby hx_10 hx_11)), ⟨by rw [ht]; exact hP, hDa _⟩⟩, hS.F ht⟩) hS.2.2 dX7_is_39
set_option maxHeartbeats 4000000 in
set_option maxRecDepth 100000 in
theorem c_X7_part (l : Launch) (dC : Nat → ClassId) (dI : Nat → Nat → Nat) (k : Nat → ClassId) (q : Nat → Nat) (z : ZS) (w : Int32) (sz : Nat)  : Met l yX7_part (wz yX7_part cX7_part 2 (some .long)) ({ frames := 0, cells := 0, slots := 0, locals := 0 }) (va_Pc [.ref (q 0), .int w] (zPre dC dI k (zTX k) (zM k q z) sz)) (va_Ql (fun (r : Int64) (u : Unit) => ((w.toInt = 0 → r = z.2.1 0) ∧ (¬ w.toInt = 0 → r = z.2.1 1))) (fun u t => zPost dC dI (va_A (zM k q z) sz) (zM k q z) t) (va_A (zM k q z) sz)) 0 0 (va_A (zM k q z) sz) := by
  refine Met.ofW (cc := cX7_part) (maxL := 2) (ret := (some .long)) (by decide) rfl ?_
  intro p e s m args below meth c s₁ B hml hv
  obtain ⟨rfl, hsz, hP, hK, hD0⟩ := hv
  have hx := B.exec
  have hb := B.bytes
  have hr := B.returns
  have hts := atoms_spec (ws := wz yX7_part cX7_part 2 (some .long)) B.pre
  have htb : ∀ w ∈ zw, w.before _ s = true := fun w h => hts w (List.mem_cons_of_mem _ h)
  have hown : s.vm.findClass RX7 = some m.cls := findClass_of_methodNamed B.named
  have hlocks := B.notSynchronized
  clear hts
  subst hsz
  have hD := hD0.self (sz := s.heap.size)
  generalize hAe : va_A (zM k q z) s.heap.size = A at hD ⊢
  have hA : ∀ q : Nat, s.heap.size ≤ q → A q := fun q h => by rw [← hAe]; exact Or.inr h
  have hDa : ∀ z9 : ZS, va_D A (zM k q z9) := fun z9 => va_D_adr (w := zM k q z) rfl hD
  have hl := lv_entry ([.ref (q 0), .int w]) (n := 2) (Nat.le_of_ble_eq_true rfl)
  rw [lg_entry_eq]
  generalize (lg_sl ([.ref (q 0), .int w]) ++ List.replicate (2 - (lg_sl ([.ref (q 0), .int w])).length) Slot.unset).toArray = ls at hl ⊢
  have hl : lv_has ls 2 [(0, .ref (q 0)), (1, .int w)] := hl
  refine z_start2 (A := A) (w := (zM k q z)) hP (fun H locs hP hS => ?_)
  clear hD0 hAe
  refine lv_iload_n hx hb dX7_part_0 rfl (lv_at hl 1 rfl) ?_
  refine lv_if_ne (tgt := 11) hx hb dX7_part_1 (by decide) (fun c_1 => ?_) (fun c_1 => ?_)
  · skip
    have hc_1 := zb_ne rfl (show (0 : Int32).toInt = 0 by decide) c_1
    refine lv_aload_n hx hb dX7_part_11 rfl (lv_at hl 0 rfl) ?_
    refine va_get (D := (dC, dI)) (ci := 7) (v := .long (z.2.1 1)) (C := RX7) (T := TX7) (N := 42) hx hb htb inw7 hown hK.1 hP 0 rfl rfl 1 (by decide) (htb _ wmt3_168) (fun _ h9 => h9) rfl dX7_part_12 ?_
    refine lv_topl (fun x_2 ex_2 => ?_)
    have hx_2 : x_2.toInt = (z.2.1 1).toInt := by rw [ex_2]
    exact W.lret (v := x_2) hx hb hr (fun t ht hW => ⟨⟨x_2, (), rfl, ⟨fun q9 => absurd q9 (by omega), fun _ => ex_2⟩, ⟨by rw [ht]; exact hP, hDa _⟩⟩, hS.F ht⟩) hS.2.2 dX7_part_15
  · skip
    have hc_1 := zb_eq rfl (show (0 : Int32).toInt = 0 by decide) c_1
    refine lv_aload_n hx hb dX7_part_4 rfl (lv_at hl 0 rfl) ?_
    refine va_get (D := (dC, dI)) (ci := 7) (v := .long (z.2.1 0)) (C := RX7) (T := TX7) (N := 42) hx hb htb inw7 hown hK.1 hP 0 rfl rfl 0 (by decide) (htb _ wmt3_167) (fun _ h9 => h9) rfl dX7_part_5 ?_
    refine lv_topl (fun x_3 ex_3 => ?_)
    have hx_3 : x_3.toInt = (z.2.1 0).toInt := by rw [ex_3]
    refine lv_goto (tgt := 15) hx hb dX7_part_8 (by decide) ?_
    exact W.lret (v := x_3) hx hb hr (fun t ht hW => ⟨⟨x_3, (), rfl, ⟨fun _ => ex_3, fun q9 => absurd (by omega) q9⟩, ⟨by rw [ht]; exact hP, hDa _⟩⟩, hS.F ht⟩) hS.2.2 dX7_part_15
