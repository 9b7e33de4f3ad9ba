set_option maxHeartbeats 4000000 in
set_option maxRecDepth 100000 in
theorem c_X2_become (l : Launch) (dC : Nat → ClassId) (dI : Nat → Nat → Nat) (k : Nat → ClassId) (a : Nat → Nat) (z : ZS) (x0 : Int64) (y0 : Int64) (sz : Nat)  : Met l yX2_become (wz yX2_become cX2_become 7 none) ({ frames := 2, cells := 0, slots := 0, locals := 43 }) (va_Pc [.ref (a 0), .long x0, .long y0] (zPre dC dI k (zTX k) (zF k a z) sz)) (va_Qv (fun (u : ZS) => True) (fun u t => zPost dC dI (va_A (zF k a z) sz) (zF k a u) t) (va_A (zF k a z) sz)) 0 0 (va_A (zF k a z) sz) := by
  refine Met.ofW (cc := cX2_become) (maxL := 7) (ret := none) (by decide) rfl ?_
  intro p e s m args below meth c s₁ B hml hv
  obtain ⟨rfl, hsz, hP, hK, hD0⟩ := hv
  have hx := B.exec
  have hb := B.bytes
  have hr := B.returns
  have hts := atoms_spec (ws := wz yX2_become cX2_become 7 none) B.pre
  have htb : ∀ w ∈ zw, w.before _ s = true := fun w h => hts w (List.mem_cons_of_mem _ h)
  have hown : s.vm.findClass RX2 = some m.cls := findClass_of_methodNamed B.named
  have hlocks := B.notSynchronized
  clear hts
  subst hsz
  have hD := hD0.self (sz := s.heap.size)
  generalize hAe : va_A (zF k a z) s.heap.size = A at hD ⊢
  have hA : ∀ q : Nat, s.heap.size ≤ q → A q := fun q h => by rw [← hAe]; exact Or.inr h
  have hDa : ∀ z9 : ZS, va_D A (zF k a z9) := fun z9 => va_D_adr (w := zF k a z) rfl hD
  have hl := lv_entry ([.ref (a 0), .long x0, .long y0]) (n := 7) (Nat.le_of_ble_eq_true rfl)
  rw [lg_entry_eq]
  generalize (lg_sl ([.ref (a 0), .long x0, .long y0]) ++ List.replicate (7 - (lg_sl ([.ref (a 0), .long x0, .long y0])).length) Slot.unset).toArray = ls at hl ⊢
  have hl : lv_has ls 7 [(0, .ref (a 0)), (1, .long x0), (3, .long y0)] := hl
  refine z_start2 (A := A) (w := (zF k a z)) hP (fun H locs hP hS => ?_)
  clear hD0 hAe
  refine lv_lload_n hx hb dX2_become_0 rfl (lv_at hl 1 rfl) ?_
  refine lv_lload_n hx hb dX2_become_1 rfl (lv_at hl 2 rfl) ?_
  refine zc0_l (w := (zF k a z)) (va_runSN (As := [.long x0, .long y0]) (rest := []) ⟨hx, hb, hml, hown, htb⟩ (c_X6_commonDivisor l dC dI k x0 y0 _ ) ⟨va_cnB 2 htb (wz_good wmt2_10) rfl rfl rfl hK.2.2.2.2.2.2.2.2 (htb _ wmt1_1) (by decide +kernel) ⟨Nat.le_of_ble_eq_true rfl, Nat.le_of_ble_eq_true rfl⟩, (htb _ wmt2_9), trivial⟩ (zp0_S hK) rfl rfl hl.1 rfl (lv_room (Nat.le_of_ble_eq_true rfl)) dX2_become_2 ⟨Nat.le_of_ble_eq_true rfl, Nat.le_of_ble_eq_true rfl⟩) hP hS hA (fun r_1 u_2 H locs w_3 hP hS => ?_)
  refine lv_lstore (lv' := [(5, .long r_1), (0, .ref (a 0)), (1, .long x0), (3, .long y0)]) hx hb dX2_become_5 hl (by decide) rfl (fun ls hl => ?_)
  refine lv_lload_n hx hb dX2_become_7 rfl (lv_at hl 3 rfl) ?_
  refine lv_lconst (v := 0) hx hb dX2_become_8 (by decide) ?_
  refine z_lcmp hx hb dX2_become_9 ?_
  refine lv_if_ge (tgt := 18) hx hb dX2_become_10 (by decide) (fun c_4 => ?_) (fun c_4 => ?_)
  · skip
    have hc_4 := zl_ge rfl (show (0 : Int64).toInt = 0 by decide) c_4
    refine lv_lload hx hb dX2_become_18 (lv_at hl 0 rfl) ?_
    refine lv_lconst (v := 0) hx hb dX2_become_20 (by decide) ?_
    refine z_lcmp hx hb dX2_become_21 ?_
    refine lv_if_eq (tgt := 41) hx hb dX2_become_22 (by decide) (fun c_5 => ?_) (fun c_5 => ?_)
    · skip
      have hc_5 := zl_eq rfl (show (0 : Int64).toInt = 0 by decide) c_5
      exact W.vret hx hb hr (fun t ht hW => ⟨⟨z, rfl, trivial, ⟨by rw [ht]; exact hP, hDa _⟩⟩, hS.F ht⟩) hS.2.2 dX2_become_41
    · skip
      have hc_5 := zl_ne rfl (show (0 : Int64).toInt = 0 by decide) c_5
      refine lv_aload_n hx hb dX2_become_25 rfl (lv_at hl 1 rfl) ?_
      refine lv_lload_n hx hb dX2_become_26 rfl (lv_at hl 2 rfl) ?_
      refine lv_lload hx hb dX2_become_27 (lv_at hl 0 rfl) ?_
      refine lv_ldiv hx hb dX2_become_29 (z_l0ne (by omega)) ?_
      refine lv_topl (fun x_6 ex_6 => ?_)
      refine va_put (D := (dC, dI)) (ci := 2) (v := .long x_6) (ty := .long) (C := RX2) (T := TX2) (N := 2) hx hb htb inw2 tyX2 tyX2_ok nmX2 hown hK.1 hP (hDa _) hS 0 rfl rfl 0 (by decide) (htb _ wmt1_103) (fun _ h9 => h9) rfl (by decide +kernel) rfl rfl (Nat.le_of_ble_eq_true rfl) dX2_become_30 (fun H locs hP _ hS => ?_)
      have hP : va_P (dC, dI) vwCl (zF k a (sJ z 0 x_6)) H := hP
      refine lv_aload_n hx hb dX2_become_33 rfl (lv_at hl 1 rfl) ?_
      refine lv_lload_n hx hb dX2_become_34 rfl (lv_at hl 3 rfl) ?_
      refine lv_lload hx hb dX2_become_35 (lv_at hl 0 rfl) ?_
      refine lv_ldiv hx hb dX2_become_37 (z_l0ne (by omega)) ?_
      refine lv_topl (fun x_7 ex_7 => ?_)
      refine va_put (D := (dC, dI)) (ci := 2) (v := .long x_7) (ty := .long) (C := RX2) (T := TX2) (N := 2) hx hb htb inw2 tyX2 tyX2_ok nmX2 hown hK.1 hP (hDa _) hS 0 rfl rfl 1 (by decide) (htb _ wmt1_105) (fun _ h9 => h9) rfl (by decide +kernel) rfl rfl (Nat.le_of_ble_eq_true rfl) dX2_become_38 (fun H locs hP _ hS => ?_)
      have hP : va_P (dC, dI) vwCl (zF k a (sJ (sJ z 0 x_6) 1 x_7)) H := hP
      exact W.vret hx hb hr (fun t ht hW => ⟨⟨(sJ (sJ z 0 x_6) 1 x_7), rfl, trivial, ⟨by rw [ht]; exact hP, hDa _⟩⟩, hS.F ht⟩) hS.2.2 dX2_become_41
  · skip
    have hc_4 := zl_nge rfl (show (0 : Int64).toInt = 0 by decide) c_4
    refine lv_lload hx hb dX2_become_13 (lv_at hl 0 rfl) ?_
    refine lv_lneg hx hb dX2_become_15 ?_
    refine lv_topl (fun x_8 ex_8 => ?_)
    refine lv_lstore (lv' := [(5, .long x_8), (0, .ref (a 0)), (1, .long x0), (3, .long y0)]) hx hb dX2_become_16 hl (by decide) rfl (fun ls hl => ?_)
    refine lv_lload hx hb dX2_become_18 (lv_at hl 0 rfl) ?_
    refine lv_lconst (v := 0) hx hb dX2_become_20 (by decide) ?_
    refine z_lcmp hx hb dX2_become_21 ?_
    refine lv_if_eq (tgt := 41) hx hb dX2_become_22 (by decide) (fun c_9 => ?_) (fun c_9 => ?_)
    · skip
      have hc_9 := zl_eq rfl (show (0 : Int64).toInt = 0 by decide) c_9
      exact W.vret hx hb hr (fun t ht hW => ⟨⟨z, rfl, trivial, ⟨by rw [ht]; exact hP, hDa _⟩⟩, hS.F ht⟩) hS.2.2 dX2_become_41
    · skip
      have hc_9 := zl_ne rfl (show (0 : Int64).toInt = 0 by decide) c_9
      refine lv_aload_n hx hb dX2_become_25 rfl (lv_at hl 1 rfl) ?_
      refine lv_lload_n hx hb dX2_become_26 rfl (lv_at hl 2 rfl) ?_
      refine lv_lload hx hb dX2_become_27 (lv_at hl 0 rfl) ?_
      refine lv_ldiv hx hb dX2_become_29 (z_l0ne (by omega)) ?_
      refine lv_topl (fun x_10 ex_10 => ?_)
      refine va_put (D := (dC, dI)) (ci := 2) (v := .long x_10) (ty := .long) (C := RX2) (T := TX2) (N := 2) hx hb htb inw2 tyX2 tyX2_ok nmX2 hown hK.1 hP (hDa _) hS 0 rfl rfl 0 (by decide) (htb _ wmt1_103) (fun _ h9 => h9) rfl (by decide +kernel) rfl rfl (Nat.le_of_ble_eq_true rfl) dX2_become_30 (fun H locs hP _ hS => ?_)
      have hP : va_P (dC, dI) vwCl (zF k a (sJ z 0 x_10)) H := hP
      refine lv_aload_n hx hb dX2_become_33 rfl (lv_at hl 1 rfl) ?_
      refine lv_lload_n hx hb dX2_become_34 rfl (lv_at hl 3 rfl) ?_
      refine lv_lload hx hb dX2_become_35 (lv_at hl 0 rfl) ?_
      refine lv_ldiv hx hb dX2_become_37 (z_l0ne (by omega)) ?_
      refine lv_topl (fun x_11 ex_11 => ?_)
      refine va_put (D := (dC, dI)) (ci := 2) (v := .long x_11) (ty := .long) (C := RX2) (T := TX2) (N := 2) hx hb htb inw2 tyX2 tyX2_ok nmX2 hown hK.1 hP (hDa _) hS 0 rfl rfl 1 (by decide) (htb _ wmt1_105) (fun _ h9 => h9) rfl (by decide +kernel) rfl rfl (Nat.le_of_ble_eq_true rfl) dX2_become_38 (fun H locs hP _ hS => ?_)
      have hP : va_P (dC, dI) vwCl (zF k a (sJ (sJ z 0 x_10) 1 x_11)) H := hP
      exact W.vret hx hb hr (fun t ht hW => ⟨⟨(sJ (sJ z 0 x_10) 1 x_11), rfl, trivial, ⟨by rw [ht]; exact hP, hDa _⟩⟩, hS.F ht⟩) hS.2.2 dX2_become_41
set_option maxHeartbeats 4000000 in
set_option maxRecDepth 100000 in
theorem c_X2_become_v (l : Launch) (dC : Nat → ClassId) (dI : Nat → Nat → Nat) (k : Nat → ClassId) (a : Nat → Nat) (z : ZS) (x0 : Int64) (y0 : Int64) (sz : Nat) (h1 : 0 ≤ x0.toInt ∧ x0.toInt < 4611686018427387904) (h2 : 0 < y0.toInt ∧ y0.toInt < 4611686018427387904) : Met l yX2_become (wz yX2_become cX2_become 7 none) ({ frames := 2, cells := 0, slots := 0, locals := 43 }) (va_Pc [.ref (a 0), .long x0, .long y0] (zPre dC dI k (zTX k) (zF k a z) sz)) (va_Qv (fun (u : ZS) => ((u.2.1 0).toInt = frT x0.toInt y0.toInt 0) ∧ ((u.2.1 1).toInt = frT x0.toInt y0.toInt 1)) (fun u t => zPost dC dI (va_A (zF k a z) sz) (zF k a u) t) (va_A (zF k a z) sz)) 0 0 (va_A (zF k a z) sz) := by
  refine Met.ofW (cc := cX2_become) (maxL := 7) (ret := none) (by decide) rfl ?_
  intro p e s m args below meth c s₁ B hml hv
  obtain ⟨rfl, hsz, hP, hK, hD0⟩ := hv
  have hx := B.exec
  have hb := B.bytes
  have hr := B.returns
  have hts := atoms_spec (ws := wz yX2_become cX2_become 7 none) B.pre
  have htb : ∀ w ∈ zw, w.before _ s = true := fun w h => hts w (List.mem_cons_of_mem _ h)
  have hown : s.vm.findClass RX2 = some m.cls := findClass_of_methodNamed B.named
  have hlocks := B.notSynchronized
  clear hts
  subst hsz
  have hD := hD0.self (sz := s.heap.size)
  generalize hAe : va_A (zF k a z) s.heap.size = A at hD ⊢
  have hA : ∀ q : Nat, s.heap.size ≤ q → A q := fun q h => by rw [← hAe]; exact Or.inr h
  have hDa : ∀ z9 : ZS, va_D A (zF k a z9) := fun z9 => va_D_adr (w := zF k a z) rfl hD
  have hl := lv_entry ([.ref (a 0), .long x0, .long y0]) (n := 7) (Nat.le_of_ble_eq_true rfl)
  rw [lg_entry_eq]
  generalize (lg_sl ([.ref (a 0), .long x0, .long y0]) ++ List.replicate (7 - (lg_sl ([.ref (a 0), .long x0, .long y0])).length) Slot.unset).toArray = ls at hl ⊢
  have hl : lv_has ls 7 [(0, .ref (a 0)), (1, .long x0), (3, .long y0)] := hl
  refine z_start2 (A := A) (w := (zF k a z)) hP (fun H locs hP hS => ?_)
  clear hD0 hAe
  refine lv_lload_n hx hb dX2_become_0 rfl (lv_at hl 1 rfl) ?_
  refine lv_lload_n hx hb dX2_become_1 rfl (lv_at hl 2 rfl) ?_
  refine zc0_l (w := (zF k a z)) (va_runSN (As := [.long x0, .long y0]) (rest := []) ⟨hx, hb, hml, hown, htb⟩ (c_X6_commonDivisor_g l dC dI k x0 y0 _ (by omega) (by omega)) ⟨va_cnB 2 htb (wz_good wmt2_10) rfl rfl rfl hK.2.2.2.2.2.2.2.2 (htb _ wmt1_1) (by decide +kernel) ⟨Nat.le_of_ble_eq_true rfl, Nat.le_of_ble_eq_true rfl⟩, (htb _ wmt2_9), trivial⟩ (zp0_S hK) rfl rfl hl.1 rfl (lv_room (Nat.le_of_ble_eq_true rfl)) dX2_become_2 ⟨Nat.le_of_ble_eq_true rfl, Nat.le_of_ble_eq_true rfl⟩) hP hS hA (fun r_1 u_2 H locs w_3 hP hS => ?_)
  have h_4 := w_3
  replace h_4 : r_1.toInt = (Nat.gcd x0.toInt.natAbs y0.toInt.natAbs : Int) := h_4
  have hgr := h_4
  have hgp := zg_pos (x := x0.toInt) (y := y0.toInt) (by omega)
  refine lv_lstore (lv' := [(5, .long r_1), (0, .ref (a 0)), (1, .long x0), (3, .long y0)]) hx hb dX2_become_5 hl (by decide) rfl (fun ls hl => ?_)
  refine lv_lload_n hx hb dX2_become_7 rfl (lv_at hl 3 rfl) ?_
  refine lv_lconst (v := 0) hx hb dX2_become_8 (by decide) ?_
  refine z_lcmp hx hb dX2_become_9 ?_
  refine lv_if_ge (tgt := 18) hx hb dX2_become_10 (by decide) (fun c_6 => ?_) (fun c_6 => ?_)
  · skip
    have hc_6 := zl_ge rfl (show (0 : Int64).toInt = 0 by decide) c_6
    refine lv_lload hx hb dX2_become_18 (lv_at hl 0 rfl) ?_
    refine lv_lconst (v := 0) hx hb dX2_become_20 (by decide) ?_
    refine z_lcmp hx hb dX2_become_21 ?_
    refine lv_if_eq (tgt := 41) hx hb dX2_become_22 (by decide) (fun c_7 => ?_) (fun c_7 => ?_)
    · skip
      have hc_7 := zl_eq rfl (show (0 : Int64).toInt = 0 by decide) c_7
      exfalso; omega
    · skip
      have hc_7 := zl_ne rfl (show (0 : Int64).toInt = 0 by decide) c_7
      refine lv_aload_n hx hb dX2_become_25 rfl (lv_at hl 1 rfl) ?_
      refine lv_lload_n hx hb dX2_become_26 rfl (lv_at hl 2 rfl) ?_
      refine lv_lload hx hb dX2_become_27 (lv_at hl 0 rfl) ?_
      refine lv_ldiv hx hb dX2_become_29 (z_l0ne (by omega)) ?_
      refine lv_topl (fun x_8 ex_8 => ?_)
      have hbda := i64_div2 ex_8 (by omega)
      refine va_put (D := (dC, dI)) (ci := 2) (v := .long x_8) (ty := .long) (C := RX2) (T := TX2) (N := 2) hx hb htb inw2 tyX2 tyX2_ok nmX2 hown hK.1 hP (hDa _) hS 0 rfl rfl 0 (by decide) (htb _ wmt1_103) (fun _ h9 => h9) rfl (by decide +kernel) rfl rfl (Nat.le_of_ble_eq_true rfl) dX2_become_30 (fun H locs hP _ hS => ?_)
      have hP : va_P (dC, dI) vwCl (zF k a (sJ z 0 x_8)) H := hP
      refine lv_aload_n hx hb dX2_become_33 rfl (lv_at hl 1 rfl) ?_
      refine lv_lload_n hx hb dX2_become_34 rfl (lv_at hl 3 rfl) ?_
      refine lv_lload hx hb dX2_become_35 (lv_at hl 0 rfl) ?_
      refine lv_ldiv hx hb dX2_become_37 (z_l0ne (by omega)) ?_
      refine lv_topl (fun x_9 ex_9 => ?_)
      have hbdb := i64_div2 ex_9 (by omega)
      refine va_put (D := (dC, dI)) (ci := 2) (v := .long x_9) (ty := .long) (C := RX2) (T := TX2) (N := 2) hx hb htb inw2 tyX2 tyX2_ok nmX2 hown hK.1 hP (hDa _) hS 0 rfl rfl 1 (by decide) (htb _ wmt1_105) (fun _ h9 => h9) rfl (by decide +kernel) rfl rfl (Nat.le_of_ble_eq_true rfl) dX2_become_38 (fun H locs hP _ hS => ?_)
      have hP : va_P (dC, dI) vwCl (zF k a (sJ (sJ z 0 x_8) 1 x_9)) H := hP
      exact W.vret hx hb hr (fun t ht hW => ⟨⟨(sJ (sJ z 0 x_8) 1 x_9), rfl, ⟨(fr_div h1.1 h2.1 hgr hbda hbdb).1, (fr_div h1.1 h2.1 hgr hbda hbdb).2⟩, ⟨by rw [ht]; exact hP, hDa _⟩⟩, hS.F ht⟩) hS.2.2 dX2_become_41
  · skip
    have hc_6 := zl_nge rfl (show (0 : Int64).toInt = 0 by decide) c_6
    exfalso; omega
set_option maxHeartbeats 4000000 in
set_option maxRecDepth 100000 in
theorem c_X2_told (l : Launch) (dC : Nat → ClassId) (dI : Nat → Nat → Nat) (k : Nat → ClassId) (a : Nat → Nat) (z : ZS) (w : Int32) (sz : Nat)  : Met l yX2_told (wz yX2_told cX2_told 2 (some .long)) ({ frames := 0, cells := 0, slots := 0, locals := 0 }) (va_Pc [.ref (a 0), .int w] (zPre dC dI k (zTX k) (zF k a z) sz)) (va_Ql (fun (r : Int64) (u : Unit) => ((w.toInt = 0 → r = z.2.1 0) ∧ (¬ w.toInt = 0 → r = z.2.1 1))) (fun u t => zPost dC dI (va_A (zF k a z) sz) (zF k a z) t) (va_A (zF k a z) sz)) 0 0 (va_A (zF k a z) sz) := by
  refine Met.ofW (cc := cX2_told) (maxL := 2) (ret := (some .long)) (by decide) rfl ?_
  intro p e s m args below meth c s₁ B hml hv
  obtain ⟨rfl, hsz, hP, hK, hD0⟩ := hv
  have hx := B.exec
  have hb := B.bytes
  have hr := B.returns
  have hts := atoms_spec (ws := wz yX2_told cX2_told 2 (some .long)) B.pre
  have htb : ∀ w ∈ zw, w.before _ s = true := fun w h => hts w (List.mem_cons_of_mem _ h)
  have hown : s.vm.findClass RX2 = some m.cls := findClass_of_methodNamed B.named
  have hlocks := B.notSynchronized
  clear hts
  subst hsz
  have hD := hD0.self (sz := s.heap.size)
  generalize hAe : va_A (zF k a z) s.heap.size = A at hD ⊢
  have hA : ∀ q : Nat, s.heap.size ≤ q → A q := fun q h => by rw [← hAe]; exact Or.inr h
  have hDa : ∀ z9 : ZS, va_D A (zF k a z9) := fun z9 => va_D_adr (w := zF k a z) rfl hD
  have hl := lv_entry ([.ref (a 0), .int w]) (n := 2) (Nat.le_of_ble_eq_true rfl)
  rw [lg_entry_eq]
  generalize (lg_sl ([.ref (a 0), .int w]) ++ List.replicate (2 - (lg_sl ([.ref (a 0), .int w])).length) Slot.unset).toArray = ls at hl ⊢
  have hl : lv_has ls 2 [(0, .ref (a 0)), (1, .int w)] := hl
  refine z_start2 (A := A) (w := (zF k a z)) hP (fun H locs hP hS => ?_)
  clear hD0 hAe
  refine lv_iload_n hx hb dX2_told_0 rfl (lv_at hl 1 rfl) ?_
  refine lv_if_ne (tgt := 11) hx hb dX2_told_1 (by decide) (fun c_1 => ?_) (fun c_1 => ?_)
  · skip
    have hc_1 := zb_ne rfl (show (0 : Int32).toInt = 0 by decide) c_1
    refine lv_aload_n hx hb dX2_told_11 rfl (lv_at hl 0 rfl) ?_
    refine va_get (D := (dC, dI)) (ci := 2) (v := .long (z.2.1 1)) (C := RX2) (T := TX2) (N := 2) hx hb htb inw2 hown hK.1 hP 0 rfl rfl 1 (by decide) (htb _ wmt1_105) (fun _ h9 => h9) rfl dX2_told_12 ?_
    refine lv_topl (fun x_2 ex_2 => ?_)
    have hx_2 : x_2.toInt = (z.2.1 1).toInt := by rw [ex_2]
    exact W.lret (v := x_2) hx hb hr (fun t ht hW => ⟨⟨x_2, (), rfl, ⟨fun q9 => absurd q9 (by omega), fun _ => ex_2⟩, ⟨by rw [ht]; exact hP, hDa _⟩⟩, hS.F ht⟩) hS.2.2 dX2_told_15
  · skip
    have hc_1 := zb_eq rfl (show (0 : Int32).toInt = 0 by decide) c_1
    refine lv_aload_n hx hb dX2_told_4 rfl (lv_at hl 0 rfl) ?_
    refine va_get (D := (dC, dI)) (ci := 2) (v := .long (z.2.1 0)) (C := RX2) (T := TX2) (N := 2) hx hb htb inw2 hown hK.1 hP 0 rfl rfl 0 (by decide) (htb _ wmt1_103) (fun _ h9 => h9) rfl dX2_told_5 ?_
    refine lv_topl (fun x_3 ex_3 => ?_)
    have hx_3 : x_3.toInt = (z.2.1 0).toInt := by rw [ex_3]
    refine lv_goto (tgt := 15) hx hb dX2_told_8 (by decide) ?_
    exact W.lret (v := x_3) hx hb hr (fun t ht hW => ⟨⟨x_3, (), rfl, ⟨fun _ => ex_3, fun q9 => absurd (by omega) q9⟩, ⟨by rw [ht]; exact hP, hDa _⟩⟩, hS.F ht⟩) hS.2.2 dX2_told_15
set_option maxHeartbeats 4000000 in
set_option maxRecDepth 100000 in
theorem c_X2_isAbove (l : Launch) (dC : Nat → ClassId) (dI : Nat → Nat → Nat) (k : Nat → ClassId) (a : Nat → Nat) (z : ZS) (mo : Int64) (sz : Nat)  : Met l yX2_isAbove (wz yX2_isAbove cX2_isAbove 3 (some .boolean)) ({ frames := 0, cells := 0, slots := 0, locals := 0 }) (va_Pc [.ref (a 0), .long mo] (zPre dC dI k (zTX k) (zF k a z) sz)) (va_Qi (fun (r : Int32) (u : Unit) => True) (fun u t => zPost dC dI (va_A (zF k a z) sz) (zF k a z) t) (va_A (zF k a z) sz)) 0 0 (va_A (zF k a z) sz) := by
  refine Met.ofW (cc := cX2_isAbove) (maxL := 3) (ret := (some .boolean)) (by decide) rfl ?_
  intro p e s m args below meth c s₁ B hml hv
  obtain ⟨rfl, hsz, hP, hK, hD0⟩ := hv
  have hx := B.exec
  have hb := B.bytes
  have hr := B.returns
  have hts := atoms_spec (ws := wz yX2_isAbove cX2_isAbove 3 (some .boolean)) B.pre
  have htb : ∀ w ∈ zw, w.before _ s = true := fun w h => hts w (List.mem_cons_of_mem _ h)
  have hown : s.vm.findClass RX2 = some m.cls := findClass_of_methodNamed B.named
  have hlocks := B.notSynchronized
  clear hts
  subst hsz
  have hD := hD0.self (sz := s.heap.size)
  generalize hAe : va_A (zF k a z) s.heap.size = A at hD ⊢
  have hA : ∀ q : Nat, s.heap.size ≤ q → A q := fun q h => by rw [← hAe]; exact Or.inr h
  have hDa : ∀ z9 : ZS, va_D A (zF k a z9) := fun z9 => va_D_adr (w := zF k a z) rfl hD
  have hl := lv_entry ([.ref (a 0), .long mo]) (n := 3) (Nat.le_of_ble_eq_true rfl)
  rw [lg_entry_eq]
  generalize (lg_sl ([.ref (a 0), .long mo]) ++ List.replicate (3 - (lg_sl ([.ref (a 0), .long mo])).length) Slot.unset).toArray = ls at hl ⊢
  have hl : lv_has ls 3 [(0, .ref (a 0)), (1, .long mo)] := hl
  refine z_start2 (A := A) (w := (zF k a z)) hP (fun H locs hP hS => ?_)
  clear hD0 hAe
  refine lv_aload_n hx hb dX2_isAbove_0 rfl (lv_at hl 0 rfl) ?_
  refine va_get (D := (dC, dI)) (ci := 2) (v := .long (z.2.1 0)) (C := RX2) (T := TX2) (N := 2) hx hb htb inw2 hown hK.1 hP 0 rfl rfl 0 (by decide) (htb _ wmt1_103) (fun _ h9 => h9) rfl dX2_isAbove_1 ?_
  refine lv_topl (fun x_1 ex_1 => ?_)
  have hx_1 : x_1.toInt = (z.2.1 0).toInt := by rw [ex_1]
  refine lv_lload_n hx hb dX2_isAbove_4 rfl (lv_at hl 1 rfl) ?_
  refine z_lcmp hx hb dX2_isAbove_5 ?_
  refine lv_if_gt (tgt := 18) hx hb dX2_isAbove_6 (by decide) (fun c_2 => ?_) (fun c_2 => ?_)
  · skip
    have hc_2 := zl_gt rfl rfl c_2
    refine lv_iconst (v := 1) hx hb dX2_isAbove_18 (by decide) ?_
    refine lv_goto (tgt := 23) hx hb dX2_isAbove_19 (by decide) ?_
    exact W.zret (v := 1) (ty := .boolean) hx hb hr rfl (fun t ht hW => ⟨⟨1, (), rfl, trivial, ⟨by rw [ht]; exact hP, hDa _⟩⟩, hS.F ht⟩) hS.2.2 dX2_isAbove_23
  · skip
    have hc_2 := zl_ngt rfl rfl c_2
    refine lv_aload_n hx hb dX2_isAbove_9 rfl (lv_at hl 0 rfl) ?_
    refine va_get (D := (dC, dI)) (ci := 2) (v := .long (z.2.1 1)) (C := RX2) (T := TX2) (N := 2) hx hb htb inw2 hown hK.1 hP 0 rfl rfl 1 (by decide) (htb _ wmt1_105) (fun _ h9 => h9) rfl dX2_isAbove_10 ?_
    refine lv_topl (fun x_3 ex_3 => ?_)
    have hx_3 : x_3.toInt = (z.2.1 1).toInt := by rw [ex_3]
    refine lv_lload_n hx hb dX2_isAbove_13 rfl (lv_at hl 1 rfl) ?_
    refine z_lcmp hx hb dX2_isAbove_14 ?_
    refine lv_if_le (tgt := 22) hx hb dX2_isAbove_15 (by decide) (fun c_4 => ?_) (fun c_4 => ?_)
    · skip
      have hc_4 := zl_le rfl rfl c_4
      refine lv_iconst (v := 0) hx hb dX2_isAbove_22 (by decide) ?_
      exact W.zret (v := 0) (ty := .boolean) hx hb hr rfl (fun t ht hW => ⟨⟨0, (), rfl, trivial, ⟨by rw [ht]; exact hP, hDa _⟩⟩, hS.F ht⟩) hS.2.2 dX2_isAbove_23
    · skip
      have hc_4 := zl_nle rfl rfl c_4
      refine lv_iconst (v := 1) hx hb dX2_isAbove_18 (by decide) ?_
      refine lv_goto (tgt := 23) hx hb dX2_isAbove_19 (by decide) ?_
      exact W.zret (v := 1) (ty := .boolean) hx hb hr rfl (fun t ht hW => ⟨⟨1, (), rfl, trivial, ⟨by rw [ht]; exact hP, hDa _⟩⟩, hS.F ht⟩) hS.2.2 dX2_isAbove_23
set_option maxHeartbeats 4000000 in
set_option maxRecDepth 100000 in
theorem c_X4_begin (l : Launch) (dC : Nat → ClassId) (dI : Nat → Nat → Nat) (k : Nat → ClassId) (a : Nat → Nat) (z : ZS) (sz : Nat)  : Met l yX4_begin (wz yX4_begin cX4_begin 1 none) ({ frames := 0, cells := 0, slots := 0, locals := 0 }) (va_Pc [.ref (a 0)] (zPre dC dI k (zTX k) (zP k a z) sz)) (va_Qv (fun (u : ZS) => True) (fun u t => zPost dC dI (va_A (zP k a z) sz) (zP k a u) t) (va_A (zP k a z) sz)) 0 0 (va_A (zP k a z) sz) := by
  refine Met.ofW (cc := cX4_begin) (maxL := 1) (ret := none) (by decide) rfl ?_
  intro p e s m args below meth c s₁ B hml hv
  obtain ⟨rfl, hsz, hP, hK, hD0⟩ := hv
  have hx := B.exec
  have hb := B.bytes
  have hr := B.returns
  have hts := atoms_spec (ws := wz yX4_begin cX4_begin 1 none) B.pre
  have htb : ∀ w ∈ zw, w.before _ s = true := fun w h => hts w (List.mem_cons_of_mem _ h)
  have hown : s.vm.findClass RX4 = some m.cls := findClass_of_methodNamed B.named
  have hlocks := B.notSynchronized
  clear hts
  subst hsz
  have hD := hD0.self (sz := s.heap.size)
  generalize hAe : va_A (zP k a z) s.heap.size = A at hD ⊢
  have hA : ∀ q : Nat, s.heap.size ≤ q → A q := fun q h => by rw [← hAe]; exact Or.inr h
  have hDa : ∀ z9 : ZS, va_D A (zP k a z9) := fun z9 => va_D_adr (w := zP k a z) rfl hD
  have hl := lv_entry ([.ref (a 0)]) (n := 1) (Nat.le_of_ble_eq_true rfl)
  rw [lg_entry_eq]
  generalize (lg_sl ([.ref (a 0)]) ++ List.replicate (1 - (lg_sl ([.ref (a 0)])).length) Slot.unset).toArray = ls at hl ⊢
  have hl : lv_has ls 1 [(0, .ref (a 0))] := hl
  refine z_start2 (A := A) (w := (zP k a z)) hP (fun H locs hP hS => ?_)
  clear hD0 hAe
  refine lv_aload_n hx hb dX4_begin_0 rfl (lv_at hl 0 rfl) ?_
  refine lv_iconst (v := 0) hx hb dX4_begin_1 (by decide) ?_
  refine va_put (D := (dC, dI)) (ci := 4) (v := .int 0) (ty := .int) (C := RX4) (T := TX4) (N := 3) hx hb htb inw4 tyX4 tyX4_ok nmX4 hown hK.1 hP (hDa _) hS 0 rfl rfl 0 (by decide) (htb _ wmt1_74) (fun _ h9 => h9) rfl (by decide +kernel) rfl rfl (Nat.le_of_ble_eq_true rfl) dX4_begin_2 (fun H locs hP _ hS => ?_)
  have hP : va_P (dC, dI) vwCl (zP k a (sI z 0 0)) H := hP
  refine lv_aload_n hx hb dX4_begin_5 rfl (lv_at hl 0 rfl) ?_
  refine lv_iconst (v := 0) hx hb dX4_begin_6 (by decide) ?_
  refine va_put (D := (dC, dI)) (ci := 4) (v := .int 0) (ty := .int) (C := RX4) (T := TX4) (N := 3) hx hb htb inw4 tyX4 tyX4_ok nmX4 hown hK.1 hP (hDa _) hS 0 rfl rfl 1 (by decide) (htb _ wmt1_75) (fun _ h9 => h9) rfl (by decide +kernel) rfl rfl (Nat.le_of_ble_eq_true rfl) dX4_begin_7 (fun H locs hP _ hS => ?_)
  have hP : va_P (dC, dI) vwCl (zP k a (sI (sI z 0 0) 1 0)) H := hP
  refine lv_aload_n hx hb dX4_begin_10 rfl (lv_at hl 0 rfl) ?_
  refine lv_iconst (v := 0) hx hb dX4_begin_11 (by decide) ?_
  refine va_put (D := (dC, dI)) (ci := 4) (v := .int 0) (ty := .int) (C := RX4) (T := TX4) (N := 3) hx hb htb inw4 tyX4 tyX4_ok nmX4 hown hK.1 hP (hDa _) hS 0 rfl rfl 2 (by decide) (htb _ wmt1_77) (fun _ h9 => h9) rfl (by decide +kernel) rfl rfl (Nat.le_of_ble_eq_true rfl) dX4_begin_12 (fun H locs hP _ hS => ?_)
  have hP : va_P (dC, dI) vwCl (zP k a (sI (sI (sI z 0 0) 1 0) 2 0)) H := hP
  exact W.vret hx hb hr (fun t ht hW => ⟨⟨(sI (sI (sI z 0 0) 1 0) 2 0), rfl, trivial, ⟨by rw [ht]; exact hP, hDa _⟩⟩, hS.F ht⟩) hS.2.2 dX4_begin_15
set_option maxHeartbeats 4000000 in
set_option maxRecDepth 100000 in
theorem c_X4_hear (l : Launch) (dC : Nat → ClassId) (dI : Nat → Nat → Nat) (k : Nat → ClassId) (a : Nat → Nat) (z : ZS) (pe : Int32) (y : Int32) (sz : Nat)  : Met l yX4_hear (wz yX4_hear cX4_hear 4 none) ({ frames := 0, cells := 0, slots := 0, locals := 0 }) (va_Pc [.ref (a 0), .int pe, .int y] (zPre dC dI k (zTX k) (zP k a z) sz)) (va_Qv (fun (u : ZS) => True) (fun u t => zPost dC dI (va_A (zP k a z) sz) (zP k a u) t) (va_A (zP k a z) sz)) 0 0 (va_A (zP k a z) sz) := by
  refine Met.ofW (cc := cX4_hear) (maxL := 4) (ret := none) (by decide) rfl ?_
  intro p e s m args below meth c s₁ B hml hv
  obtain ⟨rfl, hsz, hP, hK, hD0⟩ := hv
  have hx := B.exec
  have hb := B.bytes
  have hr := B.returns
  have hts := atoms_spec (ws := wz yX4_hear cX4_hear 4 none) B.pre
  have htb : ∀ w ∈ zw, w.before _ s = true := fun w h => hts w (List.mem_cons_of_mem _ h)
  have hown : s.vm.findClass RX4 = some m.cls := findClass_of_methodNamed B.named
  have hlocks := B.notSynchronized
  clear hts
  subst hsz
  have hD := hD0.self (sz := s.heap.size)
  generalize hAe : va_A (zP k a z) s.heap.size = A at hD ⊢
  have hA : ∀ q : Nat, s.heap.size ≤ q → A q := fun q h => by rw [← hAe]; exact Or.inr h
  have hDa : ∀ z9 : ZS, va_D A (zP k a z9) := fun z9 => va_D_adr (w := zP k a z) rfl hD
  have hl := lv_entry ([.ref (a 0), .int pe, .int y]) (n := 4) (Nat.le_of_ble_eq_true rfl)
  rw [lg_entry_eq]
  generalize (lg_sl ([.ref (a 0), .int pe, .int y]) ++ List.replicate (4 - (lg_sl ([.ref (a 0), .int pe, .int y])).length) Slot.unset).toArray = ls at hl ⊢
  have hl : lv_has ls 4 [(0, .ref (a 0)), (1, .int pe), (2, .int y)] := hl
  refine z_start2 (A := A) (w := (zP k a z)) hP (fun H locs hP hS => ?_)
  clear hD0 hAe
  refine lv_iconst (v := 1) hx hb dX4_hear_0 (by decide) ?_
  refine lv_iload_n hx hb dX4_hear_1 rfl (lv_at hl 1 rfl) ?_
  refine lv_ishl hx hb dX4_hear_2 ?_
  refine lv_topi (fun x_1 ex_1 => ?_)
  refine lv_istore_n (lv' := [(3, .int x_1), (0, .ref (a 0)), (1, .int pe), (2, .int y)]) hx hb dX4_hear_3 rfl hl (by decide) rfl (fun ls hl => ?_)
  refine lv_aload_n hx hb dX4_hear_4 rfl (lv_at hl 1 rfl) ?_
  refine va_get (D := (dC, dI)) (ci := 4) (v := .int (z.1 0)) (C := RX4) (T := TX4) (N := 3) hx hb htb inw4 hown hK.1 hP 0 rfl rfl 0 (by decide) (htb _ wmt1_74) (fun _ h9 => h9) rfl dX4_hear_5 ?_
  refine lv_topi (fun x_2 ex_2 => ?_)
  have hx_2 : x_2.toInt = (z.1 0).toInt := by rw [ex_2]
  refine lv_iload_n hx hb dX4_hear_8 rfl (lv_at hl 0 rfl) ?_
  refine lv_iand hx hb dX4_hear_9 ?_
  refine lv_topi (fun x_3 ex_3 => ?_)
  refine lv_if_ne (tgt := 43) hx hb dX4_hear_10 (by decide) (fun c_4 => ?_) (fun c_4 => ?_)
  · skip
    have hc_4 := zb_ne rfl (show (0 : Int32).toInt = 0 by decide) c_4
    exact W.vret hx hb hr (fun t ht hW => ⟨⟨z, rfl, trivial, ⟨by rw [ht]; exact hP, hDa _⟩⟩, hS.F ht⟩) hS.2.2 dX4_hear_43
  · skip
    have hc_4 := zb_eq rfl (show (0 : Int32).toInt = 0 by decide) c_4
    refine lv_aload_n hx hb dX4_hear_13 rfl (lv_at hl 1 rfl) ?_
    refine lv_dup hx hb dX4_hear_14 rfl ?_
    refine va_get (D := (dC, dI)) (ci := 4) (v := .int (z.1 0)) (C := RX4) (T := TX4) (N := 3) hx hb htb inw4 hown hK.1 hP 0 rfl rfl 0 (by decide) (htb _ wmt1_74) (fun _ h9 => h9) rfl dX4_hear_15 ?_
    refine z_top (v2 := .int x_2) (congrArg Value.int ex_2.symm) ?_
    refine lv_iload_n hx hb dX4_hear_18 rfl (lv_at hl 0 rfl) ?_
    refine lv_ior hx hb dX4_hear_19 ?_
    refine lv_topi (fun x_5 ex_5 => ?_)
    refine va_put (D := (dC, dI)) (ci := 4) (v := .int x_5) (ty := .int) (C := RX4) (T := TX4) (N := 3) hx hb htb inw4 tyX4 tyX4_ok nmX4 hown hK.1 hP (hDa _) hS 0 rfl rfl 0 (by decide) (htb _ wmt1_74) (fun _ h9 => h9) rfl (by decide +kernel) rfl rfl (Nat.le_of_ble_eq_true rfl) dX4_hear_20 (fun H locs hP _ hS => ?_)
    have hP : va_P (dC, dI) vwCl (zP k a (sI z 0 x_5)) H := hP
    refine lv_aload_n hx hb dX4_hear_23 rfl (lv_at hl 1 rfl) ?_
    refine lv_dup hx hb dX4_hear_24 rfl ?_
    refine va_get (D := (dC, dI)) (ci := 4) (v := .int (z.1 1)) (C := RX4) (T := TX4) (N := 3) hx hb htb inw4 hown hK.1 hP 0 rfl rfl 1 (by decide) (htb _ wmt1_75) (fun _ h9 => h9) rfl dX4_hear_25 ?_
    refine lv_topi (fun x_6 ex_6 => ?_)
    have hx_6 : x_6.toInt = (z.1 1).toInt := by rw [ex_6]
    refine lv_iconst (v := 1) hx hb dX4_hear_28 (by decide) ?_
    refine lv_iadd hx hb dX4_hear_29 ?_
    refine lv_topi (fun x_7 ex_7 => ?_)
    refine va_put (D := (dC, dI)) (ci := 4) (v := .int x_7) (ty := .int) (C := RX4) (T := TX4) (N := 3) hx hb htb inw4 tyX4 tyX4_ok nmX4 hown hK.1 hP (hDa _) hS 0 rfl rfl 1 (by decide) (htb _ wmt1_75) (fun _ h9 => h9) rfl (by decide +kernel) rfl rfl (Nat.le_of_ble_eq_true rfl) dX4_hear_30 (fun H locs hP _ hS => ?_)
    have hP : va_P (dC, dI) vwCl (zP k a (sI (sI z 0 x_5) 1 x_7)) H := hP
    refine lv_aload_n hx hb dX4_hear_33 rfl (lv_at hl 1 rfl) ?_
    refine lv_dup hx hb dX4_hear_34 rfl ?_
    refine va_get (D := (dC, dI)) (ci := 4) (v := .int (z.1 2)) (C := RX4) (T := TX4) (N := 3) hx hb htb inw4 hown hK.1 hP 0 rfl rfl 2 (by decide) (htb _ wmt1_77) (fun _ h9 => h9) rfl dX4_hear_35 ?_
    refine lv_topi (fun x_8 ex_8 => ?_)
    have hx_8 : x_8.toInt = (z.1 2).toInt := by rw [ex_8]
    refine lv_iload_n hx hb dX4_hear_38 rfl (lv_at hl 3 rfl) ?_
    refine lv_iadd hx hb dX4_hear_39 ?_
    refine lv_topi (fun x_9 ex_9 => ?_)
    refine va_put (D := (dC, dI)) (ci := 4) (v := .int x_9) (ty := .int) (C := RX4) (T := TX4) (N := 3) hx hb htb inw4 tyX4 tyX4_ok nmX4 hown hK.1 hP (hDa _) hS 0 rfl rfl 2 (by decide) (htb _ wmt1_77) (fun _ h9 => h9) rfl (by decide +kernel) rfl rfl (Nat.le_of_ble_eq_true rfl) dX4_hear_40 (fun H locs hP _ hS => ?_)
    have hP : va_P (dC, dI) vwCl (zP k a (sI (sI (sI z 0 x_5) 1 x_7) 2 x_9)) H := hP
    exact W.vret hx hb hr (fun t ht hW => ⟨⟨(sI (sI (sI z 0 x_5) 1 x_7) 2 x_9), rfl, trivial, ⟨by rw [ht]; exact hP, hDa _⟩⟩, hS.F ht⟩) hS.2.2 dX4_hear_43
set_option maxHeartbeats 4000000 in
set_option maxRecDepth 100000 in
theorem c_X5_isLost (l : Launch) (dC : Nat → ClassId) (dI : Nat → Nat → Nat) (k : Nat → ClassId) (a : Nat → Nat) (z : ZS) (sz : Nat)  : Met l yX5_isLost (wz yX5_isLost cX5_isLost 1 (some .boolean)) ({ frames := 0, cells := 0, slots := 0, locals := 0 }) (va_Pc [.ref (a 0)] (zPre dC dI k (zTX k) (zS k a z) sz)) (va_Qi (fun (r : Int32) (u : Unit) => (r = 1 ∧ ((z.1 0).toInt = -1)) ∨ (r = 0 ∧ (¬ (z.1 0).toInt = -1))) (fun u t => zPost dC dI (va_A (zS k a z) sz) (zS k a z) t) (va_A (zS k a z) sz)) 0 0 (va_A (zS k a z) sz) := by
  refine Met.ofW (cc := cX5_isLost) (maxL := 1) (ret := (some .boolean)) (by decide) rfl ?_
  intro p e s m args below meth c s₁ B hml hv
  obtain ⟨rfl, hsz, hP, hK, hD0⟩ := hv
  have hx := B.exec
  have hb := B.bytes
  have hr := B.returns
  have hts := atoms_spec (ws := wz yX5_isLost cX5_isLost 1 (some .boolean)) B.pre
  have htb : ∀ w ∈ zw, w.before _ s = true := fun w h => hts w (List.mem_cons_of_mem _ h)
  have hown : s.vm.findClass RX5 = some m.cls := findClass_of_methodNamed B.named
  have hlocks := B.notSynchronized
  clear hts
  subst hsz
  have hD := hD0.self (sz := s.heap.size)
  generalize hAe : va_A (zS k a z) s.heap.size = A at hD ⊢
  have hA : ∀ q : Nat, s.heap.size ≤ q → A q := fun q h => by rw [← hAe]; exact Or.inr h
  have hDa : ∀ z9 : ZS, va_D A (zS k a z9) := fun z9 => va_D_adr (w := zS k a z) rfl hD
  have hl := lv_entry ([.ref (a 0)]) (n := 1) (Nat.le_of_ble_eq_true rfl)
  rw [lg_entry_eq]
  generalize (lg_sl ([.ref (a 0)]) ++ List.replicate (1 - (lg_sl ([.ref (a 0)])).length) Slot.unset).toArray = ls at hl ⊢
  have hl : lv_has ls 1 [(0, .ref (a 0))] := hl
  refine z_start2 (A := A) (w := (zS k a z)) hP (fun H locs hP hS => ?_)
  clear hD0 hAe
  refine lv_aload_n hx hb dX5_isLost_0 rfl (lv_at hl 0 rfl) ?_
  refine va_get (D := (dC, dI)) (ci := 5) (v := .int (z.1 0)) (C := RX5) (T := TX5) (N := 3) hx hb htb inw5 hown hK.1 hP 0 rfl rfl 1 (by decide) (htb _ wmt1_159) (fun _ h9 => h9) rfl dX5_isLost_1 ?_
  refine lv_topi (fun x_1 ex_1 => ?_)
  have hx_1 : x_1.toInt = (z.1 0).toInt := by rw [ex_1]
  refine lv_iconst (v := (-1)) hx hb dX5_isLost_4 (by decide) ?_
  refine lv_icmp_ne (tgt := 12) hx hb dX5_isLost_5 (by decide) (fun c_2 => ?_) (fun c_2 => ?_)
  · skip
    have hc_2 := zb_ne rfl (show ((-1) : Int32).toInt = (-1) by decide) c_2
    refine lv_iconst (v := 0) hx hb dX5_isLost_12 (by decide) ?_
    exact W.zret (v := 0) (ty := .boolean) hx hb hr rfl (fun t ht hW => ⟨⟨0, (), rfl, Or.inr (⟨rfl, (by first | assumption | omega | decide | rfl)⟩), ⟨by rw [ht]; exact hP, hDa _⟩⟩, hS.F ht⟩) hS.2.2 dX5_isLost_13
  · skip
    have hc_2 := zb_eq rfl (show ((-1) : Int32).toInt = (-1) by decide) c_2
    refine lv_iconst (v := 1) hx hb dX5_isLost_8 (by decide) ?_
    refine lv_goto (tgt := 13) hx hb dX5_isLost_9 (by decide) ?_
    exact W.zret (v := 1) (ty := .boolean) hx hb hr rfl (fun t ht hW => ⟨⟨1, (), rfl, Or.inl (⟨rfl, (by first | assumption | omega | decide | rfl)⟩), ⟨by rw [ht]; exact hP, hDa _⟩⟩, hS.F ht⟩) hS.2.2 dX5_isLost_13
set_option maxHeartbeats 4000000 in
set_option maxRecDepth 100000 in
theorem c_X5_begin (l : Launch) (dC : Nat → ClassId) (dI : Nat → Nat → Nat) (k : Nat → ClassId) (a : Nat → Nat) (z : ZS) (ty : Int32) (n : Int32) (sz : Nat)  : Met l yX5_begin (wz yX5_begin cX5_begin 3 none) ({ frames := 1, cells := 0, slots := 0, locals := 23 }) (va_Pc [.ref (a 0), .int ty, .int n] (zPre dC dI k (zTX k) (zS k a z) sz)) (va_Qv (fun (u : ZS) => (u.1 0 = ty) ∧ (u.1 1 = n) ∧ (cR (u.2.2.1 0) = fun _ => 0)) (fun u t => zPost dC dI (va_A (zS k a z) sz) (zS k a u) t) (va_A (zS k a z) sz)) 0 0 (va_A (zS k a z) sz) := by
  refine Met.ofW (cc := cX5_begin) (maxL := 3) (ret := none) (by decide) rfl ?_
  intro p e s m args below meth c s₁ B hml hv
  obtain ⟨rfl, hsz, hP, hK, hD0⟩ := hv
  have hx := B.exec
  have hb := B.bytes
  have hr := B.returns
  have hts := atoms_spec (ws := wz yX5_begin cX5_begin 3 none) B.pre
  have htb : ∀ w ∈ zw, w.before _ s = true := fun w h => hts w (List.mem_cons_of_mem _ h)
  have hown : s.vm.findClass RX5 = some m.cls := findClass_of_methodNamed B.named
  have hlocks := B.notSynchronized
  clear hts
  subst hsz
  have hD := hD0.self (sz := s.heap.size)
  generalize hAe : va_A (zS k a z) s.heap.size = A at hD ⊢
  have hA : ∀ q : Nat, s.heap.size ≤ q → A q := fun q h => by rw [← hAe]; exact Or.inr h
  have hDa : ∀ z9 : ZS, va_D A (zS k a z9) := fun z9 => va_D_adr (w := zS k a z) rfl hD
  have hl := lv_entry ([.ref (a 0), .int ty, .int n]) (n := 3) (Nat.le_of_ble_eq_true rfl)
  rw [lg_entry_eq]
  generalize (lg_sl ([.ref (a 0), .int ty, .int n]) ++ List.replicate (3 - (lg_sl ([.ref (a 0), .int ty, .int n])).length) Slot.unset).toArray = ls at hl ⊢
  have hl : lv_has ls 3 [(0, .ref (a 0)), (1, .int ty), (2, .int n)] := hl
  refine z_start2 (A := A) (w := (zS k a z)) hP (fun H locs hP hS => ?_)
  clear hD0 hAe
  refine lv_aload_n hx hb dX5_begin_0 rfl (lv_at hl 0 rfl) ?_
  refine va_get (D := (dC, dI)) (ci := 5) (v := .ref (a 1)) (C := RX5) (T := TX5) (N := 3) hx hb htb inw5 hown hK.1 hP 0 rfl rfl 0 (by decide) (htb _ wmt1_157) (fun _ h9 => h9) rfl dX5_begin_1 ?_
  refine lv_iconst (v := 0) hx hb dX5_begin_4 (by decide) ?_
  refine zcS_v (w := (zS k a z)) (wc := (zI60 k (fun _ => (a 1)) ((fun _ => 0, fun _ => 0, fun _ => z.2.2.1 0, fun _ _ => 0) : ZS))) (va_runS (As := [.ref (a 1), .int 0]) (rest := []) ⟨hx, hb, hml, hown, htb⟩ (c_J7_fill_53178_60 l dC dI k (fun _ => (a 1)) ((fun _ => 0, fun _ => 0, fun _ => z.2.2.1 0, fun _ _ => 0) : ZS) 0 _ ) (va_cwS 2 htb (gzS wmt3_96 wmt3_6 wmt1_9 wmt3_7) rfl rfl rfl (by decide +kernel) ⟨Nat.le_of_ble_eq_true rfl, Nat.le_of_ble_eq_true rfl⟩) (zp_S hK hP (hDa _) [1] rfl (by decide)) rfl rfl hl.1 rfl (lv_room (Nat.le_of_ble_eq_true rfl)) dX5_begin_5 ⟨Nat.le_of_ble_eq_true rfl, Nat.le_of_ble_eq_true rfl⟩) hP (hDa _) hS hA [1] rfl (fun _ => rfl) (fun u_2 H locs w_3 hP _ hS => ?_)
  have hP : va_P (dC, dI) vwCl (zS k a (sA z 0 (u_2.2.2.1 0))) H := hP
  have h_4 := w_3
  replace h_4 : ∀ j : Nat, j < 60 → u_2.2.2.1 0 j = (0 : Int32) := h_4
  refine lv_aload_n hx hb dX5_begin_8 rfl (lv_at hl 0 rfl) ?_
  refine lv_iload_n hx hb dX5_begin_9 rfl (lv_at hl 1 rfl) ?_
  refine va_put (D := (dC, dI)) (ci := 5) (v := .int ty) (ty := .int) (C := RX5) (T := TX5) (N := 3) hx hb htb inw5 tyX5 tyX5_ok nmX5 hown hK.1 hP (hDa _) hS 0 rfl rfl 1 (by decide) (htb _ wmt1_159) (fun _ h9 => h9) rfl (by decide +kernel) rfl rfl (Nat.le_of_ble_eq_true rfl) dX5_begin_10 (fun H locs hP _ hS => ?_)
  have hP : va_P (dC, dI) vwCl (zS k a (sI (sA z 0 (u_2.2.2.1 0)) 0 ty)) H := hP
  refine lv_aload_n hx hb dX5_begin_13 rfl (lv_at hl 0 rfl) ?_
  refine lv_iload_n hx hb dX5_begin_14 rfl (lv_at hl 2 rfl) ?_
  refine va_put (D := (dC, dI)) (ci := 5) (v := .int n) (ty := .int) (C := RX5) (T := TX5) (N := 3) hx hb htb inw5 tyX5 tyX5_ok nmX5 hown hK.1 hP (hDa _) hS 0 rfl rfl 2 (by decide) (htb _ wmt1_161) (fun _ h9 => h9) rfl (by decide +kernel) rfl rfl (Nat.le_of_ble_eq_true rfl) dX5_begin_15 (fun H locs hP _ hS => ?_)
  have hP : va_P (dC, dI) vwCl (zS k a (sI (sI (sA z 0 (u_2.2.2.1 0)) 0 ty) 1 n)) H := hP
  exact W.vret hx hb hr (fun t ht hW => ⟨⟨(sI (sI (sA z 0 (u_2.2.2.1 0)) 0 ty) 1 n), rfl, ⟨rfl, rfl, cR_0 h_4⟩, ⟨by rw [ht]; exact hP, hDa _⟩⟩, hS.F ht⟩) hS.2.2 dX5_begin_18
set_option maxHeartbeats 4000000 in
set_option maxRecDepth 100000 in
theorem c_X5_drop (l : Launch) (dC : Nat → ClassId) (dI : Nat → Nat → Nat) (k : Nat → ClassId) (a : Nat → Nat) (z : ZS) (sz : Nat)  : Met l yX5_drop (wz yX5_drop cX5_drop 2 (some .int)) ({ frames := 0, cells := 0, slots := 0, locals := 0 }) (va_Pc [.ref (a 0)] (zPre dC dI k (zTX k) (zS k a z) sz)) (va_Qi (fun (r : Int32) (u : ZS) => (r = z.1 1) ∧ (u.1 0 = -1) ∧ (u.1 1 = 0) ∧ (u.2.2.1 0 = z.2.2.1 0)) (fun u t => zPost dC dI (va_A (zS k a z) sz) (zS k a u) t) (va_A (zS k a z) sz)) 0 0 (va_A (zS k a z) sz) := by
  refine Met.ofW (cc := cX5_drop) (maxL := 2) (ret := (some .int)) (by decide) rfl ?_
  intro p e s m args below meth c s₁ B hml hv
  obtain ⟨rfl, hsz, hP, hK, hD0⟩ := hv
  have hx := B.exec
  have hb := B.bytes
  have hr := B.returns
  have hts := atoms_spec (ws := wz yX5_drop cX5_drop 2 (some .int)) B.pre
  have htb : ∀ w ∈ zw, w.before _ s = true := fun w h => hts w (List.mem_cons_of_mem _ h)
  have hown : s.vm.findClass RX5 = some m.cls := findClass_of_methodNamed B.named
  have hlocks := B.notSynchronized
  clear hts
  subst hsz
  have hD := hD0.self (sz := s.heap.size)
  generalize hAe : va_A (zS k a z) s.heap.size = A at hD ⊢
  have hA : ∀ q : Nat, s.heap.size ≤ q → A q := fun q h => by rw [← hAe]; exact Or.inr h
  have hDa : ∀ z9 : ZS, va_D A (zS k a z9) := fun z9 => va_D_adr (w := zS k a z) rfl hD
  have hl := lv_entry ([.ref (a 0)]) (n := 2) (Nat.le_of_ble_eq_true rfl)
  rw [lg_entry_eq]
  generalize (lg_sl ([.ref (a 0)]) ++ List.replicate (2 - (lg_sl ([.ref (a 0)])).length) Slot.unset).toArray = ls at hl ⊢
  have hl : lv_has ls 2 [(0, .ref (a 0))] := hl
  refine z_start2 (A := A) (w := (zS k a z)) hP (fun H locs hP hS => ?_)
  clear hD0 hAe
  refine lv_aload_n hx hb dX5_drop_0 rfl (lv_at hl 0 rfl) ?_
  refine va_get (D := (dC, dI)) (ci := 5) (v := .int (z.1 1)) (C := RX5) (T := TX5) (N := 3) hx hb htb inw5 hown hK.1 hP 0 rfl rfl 2 (by decide) (htb _ wmt1_161) (fun _ h9 => h9) rfl dX5_drop_1 ?_
  refine lv_topi (fun x_1 ex_1 => ?_)
  have hx_1 : x_1.toInt = (z.1 1).toInt := by rw [ex_1]
  refine lv_istore_n (lv' := [(1, .int x_1), (0, .ref (a 0))]) hx hb dX5_drop_4 rfl hl (by decide) rfl (fun ls hl => ?_)
  refine lv_aload_n hx hb dX5_drop_5 rfl (lv_at hl 1 rfl) ?_
  refine lv_iconst (v := (-1)) hx hb dX5_drop_6 (by decide) ?_
  refine va_put (D := (dC, dI)) (ci := 5) (v := .int (-1)) (ty := .int) (C := RX5) (T := TX5) (N := 3) hx hb htb inw5 tyX5 tyX5_ok nmX5 hown hK.1 hP (hDa _) hS 0 rfl rfl 1 (by decide) (htb _ wmt1_159) (fun _ h9 => h9) rfl (by decide +kernel) rfl rfl (Nat.le_of_ble_eq_true rfl) dX5_drop_7 (fun H locs hP _ hS => ?_)
  have hP : va_P (dC, dI) vwCl (zS k a (sI z 0 (-1))) H := hP
  refine lv_aload_n hx hb dX5_drop_10 rfl (lv_at hl 1 rfl) ?_
  refine lv_iconst (v := 0) hx hb dX5_drop_11 (by decide) ?_
  refine va_put (D := (dC, dI)) (ci := 5) (v := .int 0) (ty := .int) (C := RX5) (T := TX5) (N := 3) hx hb htb inw5 tyX5 tyX5_ok nmX5 hown hK.1 hP (hDa _) hS 0 rfl rfl 2 (by decide) (htb _ wmt1_161) (fun _ h9 => h9) rfl (by decide +kernel) rfl rfl (Nat.le_of_ble_eq_true rfl) dX5_drop_12 (fun H locs hP _ hS => ?_)
  have hP : va_P (dC, dI) vwCl (zS k a (sI (sI z 0 (-1)) 1 0)) H := hP
  refine lv_iload_n hx hb dX5_drop_15 rfl (lv_at hl 0 rfl) ?_
  exact W.iret (v := x_1) hx hb hr (fun t ht hW => ⟨⟨x_1, (sI (sI z 0 (-1)) 1 0), rfl, ⟨ex_1, rfl, rfl, rfl⟩, ⟨by rw [ht]; exact hP, hDa _⟩⟩, hS.F ht⟩) hS.2.2 dX5_drop_16
set_option maxHeartbeats 4000000 in
set_option maxRecDepth 100000 in
theorem c_X5_hasItems (l : Launch) (dC : Nat → ClassId) (dI : Nat → Nat → Nat) (k : Nat → ClassId) (a : Nat → Nat) (z : ZS) (fr : Int32) (n : Int32) (sz : Nat) (hI : XR (z.1 1)) : Met l yX5_hasItems (wz yX5_hasItems cX5_hasItems 3 (some .boolean)) ({ frames := 0, cells := 0, slots := 0, locals := 0 }) (va_Pc [.ref (a 0), .int fr, .int n] (zPre dC dI k (zTX k) (zS k a z) sz)) (va_Qi (fun (r : Int32) (u : Unit) => (r = 1 ∧ (0 ≤ fr.toInt ∧ 0 ≤ n.toInt ∧ n.toInt ≤ (z.1 1).toInt ∧ fr.toInt ≤ (z.1 1).toInt - n.toInt)) ∨ (r = 0 ∧ (¬ (0 ≤ fr.toInt ∧ 0 ≤ n.toInt ∧ n.toInt ≤ (z.1 1).toInt ∧ fr.toInt ≤ (z.1 1).toInt - n.toInt)))) (fun u t => zPost dC dI (va_A (zS k a z) sz) (zS k a z) t) (va_A (zS k a z) sz)) 0 0 (va_A (zS k a z) sz) := by
  refine Met.ofW (cc := cX5_hasItems) (maxL := 3) (ret := (some .boolean)) (by decide) rfl ?_
  intro p e s m args below meth c s₁ B hml hv
  obtain ⟨rfl, hsz, hP, hK, hD0⟩ := hv
  have hx := B.exec
  have hb := B.bytes
  have hr := B.returns
  have hts := atoms_spec (ws := wz yX5_hasItems cX5_hasItems 3 (some .boolean)) B.pre
  have htb : ∀ w ∈ zw, w.before _ s = true := fun w h => hts w (List.mem_cons_of_mem _ h)
  have hown : s.vm.findClass RX5 = some m.cls := findClass_of_methodNamed B.named
  have hlocks := B.notSynchronized
  clear hts
  subst hsz
  have hD := hD0.self (sz := s.heap.size)
  generalize hAe : va_A (zS k a z) s.heap.size = A at hD ⊢
  have hA : ∀ q : Nat, s.heap.size ≤ q → A q := fun q h => by rw [← hAe]; exact Or.inr h
  have hDa : ∀ z9 : ZS, va_D A (zS k a z9) := fun z9 => va_D_adr (w := zS k a z) rfl hD
  have hl := lv_entry ([.ref (a 0), .int fr, .int n]) (n := 3) (Nat.le_of_ble_eq_true rfl)
  rw [lg_entry_eq]
  generalize (lg_sl ([.ref (a 0), .int fr, .int n]) ++ List.replicate (3 - (lg_sl ([.ref (a 0), .int fr, .int n])).length) Slot.unset).toArray = ls at hl ⊢
  have hl : lv_has ls 3 [(0, .ref (a 0)), (1, .int fr), (2, .int n)] := hl
  refine z_start2 (A := A) (w := (zS k a z)) hP (fun H locs hP hS => ?_)
  clear hD0 hAe
  have hI2 := hI; unfold XR at hI2
  refine lv_iload_n hx hb dX5_hasItems_0 rfl (lv_at hl 1 rfl) ?_
  refine lv_if_lt (tgt := 30) hx hb dX5_hasItems_1 (by decide) (fun c_1 => ?_) (fun c_1 => ?_)
  · skip
    have hc_1 := zb_lt rfl (show (0 : Int32).toInt = 0 by decide) c_1
    refine lv_iconst (v := 0) hx hb dX5_hasItems_30 (by decide) ?_
    exact W.zret (v := 0) (ty := .boolean) hx hb hr rfl (fun t ht hW => ⟨⟨0, (), rfl, Or.inr (⟨rfl, (by first | assumption | omega | decide | rfl)⟩), ⟨by rw [ht]; exact hP, hDa _⟩⟩, hS.F ht⟩) hS.2.2 dX5_hasItems_31
  · skip
    have hc_1 := zb_nlt rfl (show (0 : Int32).toInt = 0 by decide) c_1
    refine lv_iload_n hx hb dX5_hasItems_4 rfl (lv_at hl 2 rfl) ?_
    refine lv_if_lt (tgt := 30) hx hb dX5_hasItems_5 (by decide) (fun c_2 => ?_) (fun c_2 => ?_)
    · skip
      have hc_2 := zb_lt rfl (show (0 : Int32).toInt = 0 by decide) c_2
      refine lv_iconst (v := 0) hx hb dX5_hasItems_30 (by decide) ?_
      exact W.zret (v := 0) (ty := .boolean) hx hb hr rfl (fun t ht hW => ⟨⟨0, (), rfl, Or.inr (⟨rfl, (by first | assumption | omega | decide | rfl)⟩), ⟨by rw [ht]; exact hP, hDa _⟩⟩, hS.F ht⟩) hS.2.2 dX5_hasItems_31
    · skip
      have hc_2 := zb_nlt rfl (show (0 : Int32).toInt = 0 by decide) c_2
      refine lv_iload_n hx hb dX5_hasItems_8 rfl (lv_at hl 2 rfl) ?_
      refine lv_aload_n hx hb dX5_hasItems_9 rfl (lv_at hl 0 rfl) ?_
      refine va_get (D := (dC, dI)) (ci := 5) (v := .int (z.1 1)) (C := RX5) (T := TX5) (N := 3) hx hb htb inw5 hown hK.1 hP 0 rfl rfl 2 (by decide) (htb _ wmt1_161) (fun _ h9 => h9) rfl dX5_hasItems_10 ?_
      refine lv_topi (fun x_3 ex_3 => ?_)
      have hx_3 : x_3.toInt = (z.1 1).toInt := by rw [ex_3]
      refine lv_icmp_gt (tgt := 30) hx hb dX5_hasItems_13 (by decide) (fun c_4 => ?_) (fun c_4 => ?_)
      · skip
        have hc_4 := zb_lt rfl rfl c_4
        refine lv_iconst (v := 0) hx hb dX5_hasItems_30 (by decide) ?_
        exact W.zret (v := 0) (ty := .boolean) hx hb hr rfl (fun t ht hW => ⟨⟨0, (), rfl, Or.inr (⟨rfl, (by first | assumption | omega | decide | rfl)⟩), ⟨by rw [ht]; exact hP, hDa _⟩⟩, hS.F ht⟩) hS.2.2 dX5_hasItems_31
      · skip
        have hc_4 := zb_nlt rfl rfl c_4
        refine lv_iload_n hx hb dX5_hasItems_16 rfl (lv_at hl 1 rfl) ?_
        refine lv_aload_n hx hb dX5_hasItems_17 rfl (lv_at hl 0 rfl) ?_
        refine va_get (D := (dC, dI)) (ci := 5) (v := .int (z.1 1)) (C := RX5) (T := TX5) (N := 3) hx hb htb inw5 hown hK.1 hP 0 rfl rfl 2 (by decide) (htb _ wmt1_161) (fun _ h9 => h9) rfl dX5_hasItems_18 ?_
        refine z_top (v2 := .int x_3) (congrArg Value.int ex_3.symm) ?_
        refine lv_iload_n hx hb dX5_hasItems_21 rfl (lv_at hl 2 rfl) ?_
        refine lv_isub hx hb dX5_hasItems_22 ?_
        refine lv_topi (fun x_5 ex_5 => ?_)
        have hx_5 := z_sub ex_5 rfl rfl (by omega)
        refine lv_icmp_gt (tgt := 30) hx hb dX5_hasItems_23 (by decide) (fun c_6 => ?_) (fun c_6 => ?_)
        · skip
          have hc_6 := zb_lt rfl rfl c_6
          refine lv_iconst (v := 0) hx hb dX5_hasItems_30 (by decide) ?_
          exact W.zret (v := 0) (ty := .boolean) hx hb hr rfl (fun t ht hW => ⟨⟨0, (), rfl, Or.inr (⟨rfl, (by first | assumption | omega | decide | rfl)⟩), ⟨by rw [ht]; exact hP, hDa _⟩⟩, hS.F ht⟩) hS.2.2 dX5_hasItems_31
        · skip
          have hc_6 := zb_nlt rfl rfl c_6
          refine lv_iconst (v := 1) hx hb dX5_hasItems_26 (by decide) ?_
          refine lv_goto (tgt := 31) hx hb dX5_hasItems_27 (by decide) ?_
          exact W.zret (v := 1) (ty := .boolean) hx hb hr rfl (fun t ht hW => ⟨⟨1, (), rfl, Or.inl (⟨rfl, (by first | assumption | omega | decide | rfl)⟩), ⟨by rw [ht]; exact hP, hDa _⟩⟩, hS.F ht⟩) hS.2.2 dX5_hasItems_31
set_option maxHeartbeats 4000000 in
set_option maxRecDepth 100000 in
theorem c_X5_keep (l : Launch) (dC : Nat → ClassId) (dI : Nat → Nat → Nat) (k : Nat → ClassId) (a : Nat → Nat) (z : ZS) (i : Int32) (v : Int32) (sz : Nat) (hi : 0 ≤ i.toInt ∧ i.toInt < 60) : Met l yX5_keep (wz yX5_keep cX5_keep 3 none) ({ frames := 0, cells := 0, slots := 0, locals := 0 }) (va_Pc [.ref (a 0), .int i, .int v] (zPre dC dI k (zTX k) (zS k a z) sz)) (va_Qv (fun (u : ZS) => (u.1 0 = z.1 0) ∧ (u.1 1 = z.1 1) ∧ (u.2.2.1 0 = upd (z.2.2.1 0) i.toNatClampNeg (nar3 (z.1 0) v))) (fun u t => zPost dC dI (va_A (zS k a z) sz) (zS k a u) t) (va_A (zS k a z) sz)) 0 0 (va_A (zS k a z) sz) := by
  refine Met.ofW (cc := cX5_keep) (maxL := 3) (ret := none) (by decide) rfl ?_
  intro p e s m args below meth c s₁ B hml hv
  obtain ⟨rfl, hsz, hP, hK, hD0⟩ := hv
  have hx := B.exec
  have hb := B.bytes
  have hr := B.returns
  have hts := atoms_spec (ws := wz yX5_keep cX5_keep 3 none) B.pre
  have htb : ∀ w ∈ zw, w.before _ s = true := fun w h => hts w (List.mem_cons_of_mem _ h)
  have hown : s.vm.findClass RX5 = some m.cls := findClass_of_methodNamed B.named
  have hlocks := B.notSynchronized
  clear hts
  subst hsz
  have hD := hD0.self (sz := s.heap.size)
  generalize hAe : va_A (zS k a z) s.heap.size = A at hD ⊢
  have hA : ∀ q : Nat, s.heap.size ≤ q → A q := fun q h => by rw [← hAe]; exact Or.inr h
  have hDa : ∀ z9 : ZS, va_D A (zS k a z9) := fun z9 => va_D_adr (w := zS k a z) rfl hD
  have hl := lv_entry ([.ref (a 0), .int i, .int v]) (n := 3) (Nat.le_of_ble_eq_true rfl)
  rw [lg_entry_eq]
  generalize (lg_sl ([.ref (a 0), .int i, .int v]) ++ List.replicate (3 - (lg_sl ([.ref (a 0), .int i, .int v])).length) Slot.unset).toArray = ls at hl ⊢
  have hl : lv_has ls 3 [(0, .ref (a 0)), (1, .int i), (2, .int v)] := hl
  refine z_start2 (A := A) (w := (zS k a z)) hP (fun H locs hP hS => ?_)
  clear hD0 hAe
  refine lv_aload_n hx hb dX5_keep_0 rfl (lv_at hl 0 rfl) ?_
  refine va_get (D := (dC, dI)) (ci := 5) (v := .int (z.1 0)) (C := RX5) (T := TX5) (N := 3) hx hb htb inw5 hown hK.1 hP 0 rfl rfl 1 (by decide) (htb _ wmt1_159) (fun _ h9 => h9) rfl dX5_keep_1 ?_
  refine lv_topi (fun x_1 ex_1 => ?_)
  have hx_1 : x_1.toInt = (z.1 0).toInt := by rw [ex_1]
  refine lv_if_ne (tgt := 18) hx hb dX5_keep_4 (by decide) (fun c_2 => ?_) (fun c_2 => ?_)
  · skip
    have hc_2 := zb_ne rfl (show (0 : Int32).toInt = 0 by decide) c_2
    refine lv_aload_n hx hb dX5_keep_18 rfl (lv_at hl 0 rfl) ?_
    refine va_get (D := (dC, dI)) (ci := 5) (v := .int (z.1 0)) (C := RX5) (T := TX5) (N := 3) hx hb htb inw5 hown hK.1 hP 0 rfl rfl 1 (by decide) (htb _ wmt1_159) (fun _ h9 => h9) rfl dX5_keep_19 ?_
    refine z_top (v2 := .int x_1) (congrArg Value.int ex_1.symm) ?_
    refine lv_iconst (v := 1) hx hb dX5_keep_22 (by decide) ?_
    refine lv_icmp_ne (tgt := 37) hx hb dX5_keep_23 (by decide) (fun c_3 => ?_) (fun c_3 => ?_)
    · skip
      have hc_3 := zb_ne rfl (show (1 : Int32).toInt = 1 by decide) c_3
      refine lv_aload_n hx hb dX5_keep_37 rfl (lv_at hl 0 rfl) ?_
      refine va_get (D := (dC, dI)) (ci := 5) (v := .ref (a 1)) (C := RX5) (T := TX5) (N := 3) hx hb htb inw5 hown hK.1 hP 0 rfl rfl 0 (by decide) (htb _ wmt1_157) (fun _ h9 => h9) rfl dX5_keep_38 ?_
      refine lv_iload_n hx hb dX5_keep_41 rfl (lv_at hl 1 rfl) ?_
      refine lv_iload_n hx hb dX5_keep_42 rfl (lv_at hl 2 rfl) ?_
      refine va_iast (D := (dC, dI)) hx hb hK.1 hP (hDa _) hS 1 0 rfl rfl (z_in (by omega)) dX5_keep_43 (fun H locs hP _ hS => ?_)
      obtain ⟨f_4, ef_4⟩ : ∃ x : Nat → Int32, x = upd (z.2.2.1 0) i.toNatClampNeg v := ⟨_, rfl⟩
      have hP : va_P (dC, dI) vwCl (zS k a (sA z 0 f_4)) H := by rw [ef_4]; exact hP
      exact W.vret hx hb hr (fun t ht hW => ⟨⟨(sA z 0 f_4), rfl, ⟨rfl, rfl, ef_4.trans (congrArg (upd (z.2.2.1 0) i.toNatClampNeg) (nar3_2 (by omega) (by omega)).symm)⟩, ⟨by rw [ht]; exact hP, hDa _⟩⟩, hS.F ht⟩) hS.2.2 dX5_keep_44
    · skip
      have hc_3 := zb_eq rfl (show (1 : Int32).toInt = 1 by decide) c_3
      refine lv_aload_n hx hb dX5_keep_26 rfl (lv_at hl 0 rfl) ?_
      refine va_get (D := (dC, dI)) (ci := 5) (v := .ref (a 1)) (C := RX5) (T := TX5) (N := 3) hx hb htb inw5 hown hK.1 hP 0 rfl rfl 0 (by decide) (htb _ wmt1_157) (fun _ h9 => h9) rfl dX5_keep_27 ?_
      refine lv_iload_n hx hb dX5_keep_30 rfl (lv_at hl 1 rfl) ?_
      refine lv_iload_n hx hb dX5_keep_31 rfl (lv_at hl 2 rfl) ?_
      refine lv_i2s (v := v.toInt16.toInt32) hx hb dX5_keep_32 rfl ?_
      refine lv_topi (fun x_5 ex_5 => ?_)
      refine va_iast (D := (dC, dI)) hx hb hK.1 hP (hDa _) hS 1 0 rfl rfl (z_in (by omega)) dX5_keep_33 (fun H locs hP _ hS => ?_)
      obtain ⟨f_6, ef_6⟩ : ∃ x : Nat → Int32, x = upd (z.2.2.1 0) i.toNatClampNeg x_5 := ⟨_, rfl⟩
      have hP : va_P (dC, dI) vwCl (zS k a (sA z 0 f_6)) H := by rw [ef_6]; exact hP
      refine lv_goto (tgt := 44) hx hb dX5_keep_34 (by decide) ?_
      exact W.vret hx hb hr (fun t ht hW => ⟨⟨(sA z 0 f_6), rfl, ⟨rfl, rfl, ef_6.trans (congrArg (upd (z.2.2.1 0) i.toNatClampNeg) (ex_5.trans (nar3_1 (by omega) (by omega)).symm))⟩, ⟨by rw [ht]; exact hP, hDa _⟩⟩, hS.F ht⟩) hS.2.2 dX5_keep_44
  · skip
    have hc_2 := zb_eq rfl (show (0 : Int32).toInt = 0 by decide) c_2
    refine lv_aload_n hx hb dX5_keep_7 rfl (lv_at hl 0 rfl) ?_
    refine va_get (D := (dC, dI)) (ci := 5) (v := .ref (a 1)) (C := RX5) (T := TX5) (N := 3) hx hb htb inw5 hown hK.1 hP 0 rfl rfl 0 (by decide) (htb _ wmt1_157) (fun _ h9 => h9) rfl dX5_keep_8 ?_
    refine lv_iload_n hx hb dX5_keep_11 rfl (lv_at hl 1 rfl) ?_
    refine lv_iload_n hx hb dX5_keep_12 rfl (lv_at hl 2 rfl) ?_
    refine lv_i2b (v := v.toInt8.toInt32) hx hb dX5_keep_13 rfl ?_
    refine lv_topi (fun x_7 ex_7 => ?_)
    refine va_iast (D := (dC, dI)) hx hb hK.1 hP (hDa _) hS 1 0 rfl rfl (z_in (by omega)) dX5_keep_14 (fun H locs hP _ hS => ?_)
    obtain ⟨f_8, ef_8⟩ : ∃ x : Nat → Int32, x = upd (z.2.2.1 0) i.toNatClampNeg x_7 := ⟨_, rfl⟩
    have hP : va_P (dC, dI) vwCl (zS k a (sA z 0 f_8)) H := by rw [ef_8]; exact hP
    refine lv_goto (tgt := 44) hx hb dX5_keep_15 (by decide) ?_
    exact W.vret hx hb hr (fun t ht hW => ⟨⟨(sA z 0 f_8), rfl, ⟨rfl, rfl, ef_8.trans (congrArg (upd (z.2.2.1 0) i.toNatClampNeg) (ex_7.trans (nar3_0 (by omega)).symm))⟩, ⟨by rw [ht]; exact hP, hDa _⟩⟩, hS.F ht⟩) hS.2.2 dX5_keep_44
set_option maxHeartbeats 4000000 in
set_option maxRecDepth 100000 in
theorem c_X3_addPerson (l : Launch) (dC : Nat → ClassId) (dI : Nat → Nat → Nat) (k : Nat → ClassId) (a : Nat → Nat) (z : ZS) (y : Int64) (n : Int64) (pp : Int32) (sz : Nat) (hp : 0 ≤ pp.toInt ∧ pp.toInt ≤ 12) : Met l yX3_addPerson (wz yX3_addPerson cX3_addPerson 7 none) ({ frames := 0, cells := 0, slots := 0, locals := 0 }) (va_Pc [.ref (a 0), .long y, .long n, .int pp] (zPre dC dI k (zTX k) (zL k a z) sz)) (va_Qv (fun (u : ZS) => True) (fun u t => zPost dC dI (va_A (zL k a z) sz) (zL k a u) t) (va_A (zL k a z) sz)) 0 0 (va_A (zL k a z) sz) := by
  refine Met.ofW (cc := cX3_addPerson) (maxL := 7) (ret := none) (by decide) rfl ?_
  intro p e s m args below meth c s₁ B hml hv
  obtain ⟨rfl, hsz, hP, hK, hD0⟩ := hv
  have hx := B.exec
  have hb := B.bytes
  have hr := B.returns
  have hts := atoms_spec (ws := wz yX3_addPerson cX3_addPerson 7 none) B.pre
  have htb : ∀ w ∈ zw, w.before _ s = true := fun w h => hts w (List.mem_cons_of_mem _ h)
  have hown : s.vm.findClass RX3 = some m.cls := findClass_of_methodNamed B.named
  have hlocks := B.notSynchronized
  clear hts
  subst hsz
  have hD := hD0.self (sz := s.heap.size)
  generalize hAe : va_A (zL k a z) s.heap.size = A at hD ⊢
  have hA : ∀ q : Nat, s.heap.size ≤ q → A q := fun q h => by rw [← hAe]; exact Or.inr h
  have hDa : ∀ z9 : ZS, va_D A (zL k a z9) := fun z9 => va_D_adr (w := zL k a z) rfl hD
  have hl := lv_entry ([.ref (a 0), .long y, .long n, .int pp]) (n := 7) (Nat.le_of_ble_eq_true rfl)
  rw [lg_entry_eq]
  generalize (lg_sl ([.ref (a 0), .long y, .long n, .int pp]) ++ List.replicate (7 - (lg_sl ([.ref (a 0), .long y, .long n, .int pp])).length) Slot.unset).toArray = ls at hl ⊢
  have hl : lv_has ls 7 [(0, .ref (a 0)), (1, .long y), (3, .long n), (5, .int pp)] := hl
  refine z_start2 (A := A) (w := (zL k a z)) hP (fun H locs hP hS => ?_)
  clear hD0 hAe
  refine lv_iload hx hb dX3_addPerson_0 (lv_at hl 3 rfl) ?_
  refine lv_istore (lv' := [(6, .int pp), (0, .ref (a 0)), (1, .long y), (3, .long n), (5, .int pp)]) hx hb dX3_addPerson_2 hl (by decide) rfl (fun ls hl => ?_)
  obtain ⟨i, ei⟩ : ∃ x : Int32, pp = x := ⟨_, rfl⟩
  obtain ⟨z1, ez1⟩ : ∃ x : ZS, z = x := ⟨_, rfl⟩
  have hv4 : (0 ≤ i.toInt ∧ i.toInt ≤ 12) := by subst ei ez1; exact hp
  replace hl : lv_has ls 7 [(6, .int i), (0, .ref (a 0)), (1, .long y), (3, .long n), (5, .int pp)] := by subst ei ez1; exact hl
  replace hP : va_P (dC, dI) vwCl (zL k a z1) H := by subst ez1; exact hP
  clear ei ez1
  obtain ⟨mm4, hm4⟩ : ∃ mm : Nat, mm = i.toInt.toNat := ⟨_, rfl⟩
  refine z_cut2 hP hS hl ?_
  clear hl hP
  intro H locs ls hP hS hl
  induction mm4 using Nat.strongRecOn generalizing i z1 H locs ls with
  | _ mm4 ih4 =>
    have hi := hv4
    refine lv_iload hx hb dX3_addPerson_4 (lv_at hl 0 rfl) ?_
    refine lv_if_le (tgt := 43) hx hb dX3_addPerson_6 (by decide) (fun c_1 => ?_) (fun c_1 => ?_)
    · skip
      have hc_1 := zb_le rfl (show (0 : Int32).toInt = 0 by decide) c_1
      refine lv_aload_n hx hb dX3_addPerson_43 rfl (lv_at hl 1 rfl) ?_
      refine va_get (D := (dC, dI)) (ci := 3) (v := .ref (a 1)) (C := RX3) (T := TX3) (N := 1) hx hb htb inw3 hown hK.1 hP 0 rfl rfl 0 (by decide) (htb _ wmt1_92) (fun _ h9 => h9) rfl dX3_addPerson_44 ?_
      refine lv_iconst (v := 0) hx hb dX3_addPerson_47 (by decide) ?_
      refine lv_dup2_11 hx hb dX3_addPerson_48 rfl rfl ?_
      refine va_lald (D := (dC, dI)) hx hb hK.1 hP 1 1 rfl rfl (show ¬ _ by decide) dX3_addPerson_49 ?_
      refine lv_topl (fun x_2 ex_2 => ?_)
      refine lv_lload_n hx hb dX3_addPerson_50 rfl (lv_at hl 3 rfl) ?_
      refine lv_lmul hx hb dX3_addPerson_51 ?_
      refine lv_topl (fun x_3 ex_3 => ?_)
      refine va_last (D := (dC, dI)) hx hb hK.1 hP (hDa _) hS 1 1 rfl rfl (show ¬ _ by decide) dX3_addPerson_52 (fun H locs hP _ hS => ?_)
      have hP : va_P (dC, dI) vwCl (zL k a (sL z1 0 (vp_updL (z1.2.2.2 0) 0 x_3))) H := hP
      obtain ⟨f_4, ef_4⟩ : ∃ x : Nat → Int64, x = vp_updL (z1.2.2.2 0) 0 x_3 := ⟨_, rfl⟩
      have hP : va_P (dC, dI) vwCl (zL k a (sL z1 0 f_4)) H := by rw [ef_4]; exact hP
      exact W.vret hx hb hr (fun t ht hW => ⟨⟨(sL z1 0 f_4), rfl, trivial, ⟨by rw [ht]; exact hP, hDa _⟩⟩, hS.F ht⟩) hS.2.2 dX3_addPerson_53
    · skip
      have hc_1 := zb_nle rfl (show (0 : Int32).toInt = 0 by decide) c_1
      refine lv_aload_n hx hb dX3_addPerson_9 rfl (lv_at hl 1 rfl) ?_
      refine va_get (D := (dC, dI)) (ci := 3) (v := .ref (a 1)) (C := RX3) (T := TX3) (N := 1) hx hb htb inw3 hown hK.1 hP 0 rfl rfl 0 (by decide) (htb _ wmt1_92) (fun _ h9 => h9) rfl dX3_addPerson_10 ?_
      refine lv_iload hx hb dX3_addPerson_13 (lv_at hl 0 rfl) ?_
      refine lv_aload_n hx hb dX3_addPerson_15 rfl (lv_at hl 1 rfl) ?_
      refine va_get (D := (dC, dI)) (ci := 3) (v := .ref (a 1)) (C := RX3) (T := TX3) (N := 1) hx hb htb inw3 hown hK.1 hP 0 rfl rfl 0 (by decide) (htb _ wmt1_92) (fun _ h9 => h9) rfl dX3_addPerson_16 ?_
      refine lv_iload hx hb dX3_addPerson_19 (lv_at hl 0 rfl) ?_
      refine va_lald (D := (dC, dI)) hx hb hK.1 hP 1 1 rfl rfl (z_in (by omega)) dX3_addPerson_21 ?_
      refine lv_topl (fun x_5 ex_5 => ?_)
      refine lv_lload_n hx hb dX3_addPerson_22 rfl (lv_at hl 3 rfl) ?_
      refine lv_lmul hx hb dX3_addPerson_23 ?_
      refine lv_topl (fun x_6 ex_6 => ?_)
      refine lv_aload_n hx hb dX3_addPerson_24 rfl (lv_at hl 1 rfl) ?_
      refine va_get (D := (dC, dI)) (ci := 3) (v := .ref (a 1)) (C := RX3) (T := TX3) (N := 1) hx hb htb inw3 hown hK.1 hP 0 rfl rfl 0 (by decide) (htb _ wmt1_92) (fun _ h9 => h9) rfl dX3_addPerson_25 ?_
      refine lv_iload hx hb dX3_addPerson_28 (lv_at hl 0 rfl) ?_
      refine lv_iconst (v := 1) hx hb dX3_addPerson_30 (by decide) ?_
      refine lv_isub hx hb dX3_addPerson_31 ?_
      refine lv_topi (fun x_7 ex_7 => ?_)
      have hx_7 := z_sub ex_7 rfl (show (1 : Int32).toInt = 1 by decide) (by omega)
      refine va_lald (D := (dC, dI)) hx hb hK.1 hP 1 1 rfl rfl (z_in (by omega)) dX3_addPerson_32 ?_
      refine lv_topl (fun x_8 ex_8 => ?_)
      refine lv_lload_n hx hb dX3_addPerson_33 rfl (lv_at hl 2 rfl) ?_
      refine lv_lmul hx hb dX3_addPerson_34 ?_
      refine lv_topl (fun x_9 ex_9 => ?_)
      refine lv_ladd hx hb dX3_addPerson_35 ?_
      refine lv_topl (fun x_10 ex_10 => ?_)
      refine va_last (D := (dC, dI)) hx hb hK.1 hP (hDa _) hS 1 1 rfl rfl (z_in (by omega)) dX3_addPerson_36 (fun H locs hP _ hS => ?_)
      obtain ⟨f_11, ef_11⟩ : ∃ x : Nat → Int64, x = vp_updL (z1.2.2.2 0) i.toNatClampNeg x_10 := ⟨_, rfl⟩
      have hP : va_P (dC, dI) vwCl (zL k a (sL z1 0 f_11)) H := by rw [ef_11]; exact hP
      obtain ⟨x_12, ex_12⟩ : ∃ y : Int32, y = i + (-1) := ⟨_, rfl⟩
      have hx_12 : x_12.toInt = i.toInt + (-1) := z_add ex_12 rfl (show ((-1) : Int32).toInt = (-1) by decide) (by omega)
      refine lv_iinc (v := x_12) (lv' := [(6, .int x_12), (0, .ref (a 0)), (1, .long y), (3, .long n), (5, .int pp)]) hx hb dX3_addPerson_37 hl (k := 0) rfl (by rw [ex_12]; rfl) (by decide) rfl (fun ls hl => ?_)
      refine lv_goto (tgt := 4) hx hb dX3_addPerson_40 (by decide) ?_
      exact ih4 (x_12.toInt.toNat) (by omega) x_12 (sL z1 0 f_11) (show 0 ≤ x_12.toInt ∧ x_12.toInt ≤ 12 by omega) rfl H locs ls hP hS (lv_sub hl [0, 1, 2, 3, 4] rfl)
set_option maxHeartbeats 4000000 in
set_option maxRecDepth 100000 in
theorem c_X3_among (l : Launch) (dC : Nat → ClassId) (dI : Nat → Nat → Nat) (k : Nat → ClassId) (a : Nat → Nat) (z : ZS) (x0 : Int32) (y0 : Int32) (sz : Nat)  : Met l yX3_among (wz yX3_among cX3_among 6 (some .long)) ({ frames := 1, cells := 0, slots := 0, locals := 13 }) (va_Pc [.ref (a 0), .int x0, .int y0] (zPre dC dI k (zTX k) (zL k a z) sz)) (va_Ql (fun (r : Int64) (u : Unit) => True) (fun u t => zPost dC dI (va_A (zL k a z) sz) (zL k a z) t) (va_A (zL k a z) sz)) 0 0 (va_A (zL k a z) sz) := by
  refine Met.ofW (cc := cX3_among) (maxL := 6) (ret := (some .long)) (by decide) rfl ?_
  intro p e s m args below meth c s₁ B hml hv
  obtain ⟨rfl, hsz, hP, hK, hD0⟩ := hv
  have hx := B.exec
  have hb := B.bytes
  have hr := B.returns
  have hts := atoms_spec (ws := wz yX3_among cX3_among 6 (some .long)) B.pre
  have htb : ∀ w ∈ zw, w.before _ s = true := fun w h => hts w (List.mem_cons_of_mem _ h)
  have hown : s.vm.findClass RX3 = some m.cls := findClass_of_methodNamed B.named
  have hlocks := B.notSynchronized
  clear hts
  subst hsz
  have hD := hD0.self (sz := s.heap.size)
  generalize hAe : va_A (zL k a z) s.heap.size = A at hD ⊢
  have hA : ∀ q : Nat, s.heap.size ≤ q → A q := fun q h => by rw [← hAe]; exact Or.inr h
  have hDa : ∀ z9 : ZS, va_D A (zL k a z9) := fun z9 => va_D_adr (w := zL k a z) rfl hD
  have hl := lv_entry ([.ref (a 0), .int x0, .int y0]) (n := 6) (Nat.le_of_ble_eq_true rfl)
  rw [lg_entry_eq]
  generalize (lg_sl ([.ref (a 0), .int x0, .int y0]) ++ List.replicate (6 - (lg_sl ([.ref (a 0), .int x0, .int y0])).length) Slot.unset).toArray = ls at hl ⊢
  have hl : lv_has ls 6 [(0, .ref (a 0)), (1, .int x0), (2, .int y0)] := hl
  refine z_start2 (A := A) (w := (zL k a z)) hP (fun H locs hP hS => ?_)
  clear hD0 hAe
  refine lv_lconst (v := 0) hx hb dX3_among_0 (by decide) ?_
  refine lv_lstore_n (lv' := [(3, .long 0), (0, .ref (a 0)), (1, .int x0), (2, .int y0)]) hx hb dX3_among_1 rfl hl (by decide) rfl (fun ls hl => ?_)
  refine lv_iload_n hx hb dX3_among_2 rfl (lv_at hl 2 rfl) ?_
  refine lv_iconst (v := 0) hx hb dX3_among_3 (by decide) ?_
  refine va_mmax hx hb (hml.trans hl.1.symm) hown (htb _ wmt2_203) (htb _ wmt2_204) (htb _ wmt1_10) (htb _ wmt2_205) (Nat.le_of_ble_eq_true rfl) (Nat.le_of_ble_eq_true rfl) (Nat.le_of_ble_eq_true rfl) (Nat.le_of_ble_eq_true rfl) dX3_among_4 ?_
  refine lv_topi (fun x_1 ex_1 => ?_)
  have hx_1 : 0 ≤ x_1.toInt := by rw [ex_1]; exact z_max0
  refine lv_istore (lv' := [(5, .int x_1), (3, .long 0), (0, .ref (a 0)), (1, .int x0), (2, .int y0)]) hx hb dX3_among_7 hl (by decide) rfl (fun ls hl => ?_)
  obtain ⟨sm, esm⟩ : ∃ x : Int64, 0 = x := ⟨_, rfl⟩
  obtain ⟨i, ei⟩ : ∃ x : Int32, x_1 = x := ⟨_, rfl⟩
  have hv9 : (0 ≤ i.toInt) := by subst esm ei; exact (show 0 ≤ x_1.toInt by omega)
  replace hl : lv_has ls 6 [(5, .int i), (3, .long sm), (0, .ref (a 0)), (1, .int x0), (2, .int y0)] := by subst esm ei; exact hl
  clear esm ei
  obtain ⟨mm9, hm9⟩ : ∃ mm : Nat, mm = (13 - i.toInt).toNat := ⟨_, rfl⟩
  refine z_cut2 hP hS hl ?_
  clear hl hP
  intro H locs ls hP hS hl
  induction mm9 using Nat.strongRecOn generalizing sm i H locs ls with
  | _ mm9 ih9 =>
    have hi := hv9
    refine lv_iload hx hb dX3_among_9 (lv_at hl 0 rfl) ?_
    refine lv_iload_n hx hb dX3_among_11 rfl (lv_at hl 4 rfl) ?_
    refine lv_icmp_gt (tgt := 38) hx hb dX3_among_12 (by decide) (fun c_2 => ?_) (fun c_2 => ?_)
    · skip
      have hc_2 := zb_lt rfl rfl c_2
      refine lv_lload_n hx hb dX3_among_38 rfl (lv_at hl 1 rfl) ?_
      exact W.lret (v := sm) hx hb hr (fun t ht hW => ⟨⟨sm, (), rfl, trivial, ⟨by rw [ht]; exact hP, hDa _⟩⟩, hS.F ht⟩) hS.2.2 dX3_among_39
    · skip
      have hc_2 := zb_nlt rfl rfl c_2
      refine lv_iload hx hb dX3_among_15 (lv_at hl 0 rfl) ?_
      refine lv_bipush (v := 12) hx hb dX3_among_17 (by decide) ?_
      refine lv_icmp_gt (tgt := 38) hx hb dX3_among_19 (by decide) (fun c_3 => ?_) (fun c_3 => ?_)
      · skip
        have hc_3 := zb_lt (show (12 : Int32).toInt = 12 by decide) rfl c_3
        refine lv_lload_n hx hb dX3_among_38 rfl (lv_at hl 1 rfl) ?_
        exact W.lret (v := sm) hx hb hr (fun t ht hW => ⟨⟨sm, (), rfl, trivial, ⟨by rw [ht]; exact hP, hDa _⟩⟩, hS.F ht⟩) hS.2.2 dX3_among_39
      · skip
        have hc_3 := zb_nlt (show (12 : Int32).toInt = 12 by decide) rfl c_3
        refine lv_lload_n hx hb dX3_among_22 rfl (lv_at hl 1 rfl) ?_
        refine lv_aload_n hx hb dX3_among_23 rfl (lv_at hl 2 rfl) ?_
        refine va_get (D := (dC, dI)) (ci := 3) (v := .ref (a 1)) (C := RX3) (T := TX3) (N := 1) hx hb htb inw3 hown hK.1 hP 0 rfl rfl 0 (by decide) (htb _ wmt1_92) (fun _ h9 => h9) rfl dX3_among_24 ?_
        refine lv_iload hx hb dX3_among_27 (lv_at hl 0 rfl) ?_
        refine va_lald (D := (dC, dI)) hx hb hK.1 hP 1 1 rfl rfl (z_in (by omega)) dX3_among_29 ?_
        refine lv_topl (fun x_4 ex_4 => ?_)
        refine lv_ladd hx hb dX3_among_30 ?_
        refine lv_topl (fun x_5 ex_5 => ?_)
        refine lv_lstore_n (lv' := [(3, .long x_5), (5, .int i), (0, .ref (a 0)), (1, .int x0), (2, .int y0)]) hx hb dX3_among_31 rfl hl (by decide) rfl (fun ls hl => ?_)
        obtain ⟨x_6, ex_6⟩ : ∃ y : Int32, y = i + 1 := ⟨_, rfl⟩
        have hx_6 : x_6.toInt = i.toInt + 1 := z_add ex_6 rfl (show (1 : Int32).toInt = 1 by decide) (by omega)
        refine lv_iinc (v := x_6) (lv' := [(5, .int x_6), (3, .long x_5), (0, .ref (a 0)), (1, .int x0), (2, .int y0)]) hx hb dX3_among_32 hl (k := 1) rfl (by rw [ex_6]; rfl) (by decide) rfl (fun ls hl => ?_)
        refine lv_goto (tgt := 9) hx hb dX3_among_35 (by decide) ?_
        exact ih9 ((13 - x_6.toInt).toNat) (by omega) x_5 x_6 (show 0 ≤ x_6.toInt by omega) rfl H locs ls hP hS (lv_sub hl [0, 1, 2, 3, 4] rfl)
set_option maxHeartbeats 4000000 in
set_option maxRecDepth 100000 in
theorem c_X3_fall (l : Launch) (dC : Nat → ClassId) (dI : Nat → Nat → Nat) (k : Nat → ClassId) (a : Nat → Nat) (z : ZS) (pe : Int32) (hv : Int32) (sz : Nat)  : Met l yX3_fall (wz yX3_fall cX3_fall 7 none) ({ frames := 1, cells := 0, slots := 0, locals := 26 }) (va_Pc [.ref (a 0), .ref (a 2), .int pe, .int hv] (zPre dC dI k (zTX k) (zE k a z) sz)) (va_Qv (fun (u : ZS) => (∃ f : Nat → Int64, u = sL z 0 f)) (fun u t => zPost dC dI (va_A (zE k a z) sz) (zE k a u) t) (va_A (zE k a z) sz)) 0 0 (va_A (zE k a z) sz) := by
  refine Met.ofW (cc := cX3_fall) (maxL := 7) (ret := none) (by decide) rfl ?_
  intro p e s m args below meth c s₁ B hml hv
  obtain ⟨rfl, hsz, hP, hK, hD0⟩ := hv
  have hx := B.exec
  have hb := B.bytes
  have hr := B.returns
  have hts := atoms_spec (ws := wz yX3_fall cX3_fall 7 none) B.pre
  have htb : ∀ w ∈ zw, w.before _ s = true := fun w h => hts w (List.mem_cons_of_mem _ h)
  have hown : s.vm.findClass RX3 = some m.cls := findClass_of_methodNamed B.named
  have hlocks := B.notSynchronized
  clear hts
  subst hsz
  have hD := hD0.self (sz := s.heap.size)
  generalize hAe : va_A (zE k a z) s.heap.size = A at hD ⊢
  have hA : ∀ q : Nat, s.heap.size ≤ q → A q := fun q h => by rw [← hAe]; exact Or.inr h
  have hDa : ∀ z9 : ZS, va_D A (zE k a z9) := fun z9 => va_D_adr (w := zE k a z) rfl hD
  have hl := lv_entry ([.ref (a 0), .ref (a 2), .int pe, .int hv]) (n := 7) (Nat.le_of_ble_eq_true rfl)
  rw [lg_entry_eq]
  generalize (lg_sl ([.ref (a 0), .ref (a 2), .int pe, .int hv]) ++ List.replicate (7 - (lg_sl ([.ref (a 0), .ref (a 2), .int pe, .int hv])).length) Slot.unset).toArray = ls at hl ⊢
  have hl : lv_has ls 7 [(0, .ref (a 0)), (1, .ref (a 2)), (2, .int pe), (3, .int hv)] := hl
  refine z_start2 (A := A) (w := (zE k a z)) hP (fun H locs hP hS => ?_)
  clear hD0 hAe
  refine lv_aload_n hx hb dX3_fall_0 rfl (lv_at hl 0 rfl) ?_
  refine va_get (D := (dC, dI)) (ci := 3) (v := .ref (a 1)) (C := RX3) (T := TX3) (N := 1) hx hb htb inw3 hown hK.1 hP 0 rfl rfl 0 (by decide) (htb _ wmt1_92) (fun _ h9 => h9) rfl dX3_fall_1 ?_
  refine lv_lconst (v := 0) hx hb dX3_fall_4 (by decide) ?_
  refine zcS_v (w := (zE k a z)) (wc := (zJ13 k (fun _ => (a 1)) ((fun _ => 0, fun _ => 0, fun _ _ => 0, fun _ => z.2.2.2 0) : ZS))) (va_runS (As := [.ref (a 1), .long 0]) (rest := []) ⟨hx, hb, hml, hown, htb⟩ (c_J7_fill_d0a16_13 l dC dI k (fun _ => (a 1)) ((fun _ => 0, fun _ => 0, fun _ _ => 0, fun _ => z.2.2.2 0) : ZS) 0 _ ) (va_cwS 2 htb (gzS wmt2_186 wmt1_227 wmt1_9 wmt1_228) rfl rfl rfl (by decide +kernel) ⟨Nat.le_of_ble_eq_true rfl, Nat.le_of_ble_eq_true rfl⟩) (zp_S hK hP (hDa _) [1] rfl (by decide)) rfl rfl hl.1 rfl (lv_room (Nat.le_of_ble_eq_true rfl)) dX3_fall_5 ⟨Nat.le_of_ble_eq_true rfl, Nat.le_of_ble_eq_true rfl⟩) hP (hDa _) hS hA [1] rfl (fun _ => rfl) (fun u_2 H locs w_3 hP _ hS => ?_)
  have hP : va_P (dC, dI) vwCl (zE k a (sL z 0 (u_2.2.2.2 0))) H := hP
  have h_4 := w_3
  replace h_4 : ∀ j : Nat, j < 13 → u_2.2.2.2 0 j = (0 : Int64) := h_4
  refine lv_aload_n hx hb dX3_fall_8 rfl (lv_at hl 0 rfl) ?_
  refine va_get (D := (dC, dI)) (ci := 3) (v := .ref (a 1)) (C := RX3) (T := TX3) (N := 1) hx hb htb inw3 hown hK.1 hP 0 rfl rfl 0 (by decide) (htb _ wmt1_92) (fun _ h9 => h9) rfl dX3_fall_9 ?_
  refine lv_iconst (v := 0) hx hb dX3_fall_12 (by decide) ?_
  refine lv_lconst (v := 1) hx hb dX3_fall_13 (by decide) ?_
  refine va_last (D := (dC, dI)) hx hb hK.1 hP (hDa _) hS 1 1 rfl rfl (show ¬ _ by decide) dX3_fall_14 (fun H locs hP _ hS => ?_)
  have hP : va_P (dC, dI) vwCl (zE k a (sL z 0 (vp_updL (u_2.2.2.2 0) 0 1))) H := hP
  obtain ⟨f_6, ef_6⟩ : ∃ x : Nat → Int64, x = vp_updL (u_2.2.2.2 0) 0 1 := ⟨_, rfl⟩
  have hP : va_P (dC, dI) vwCl (zE k a (sL z 0 f_6)) H := by rw [ef_6]; exact hP
  refine lv_iconst (v := 0) hx hb dX3_fall_15 (by decide) ?_
  refine lv_istore (lv' := [(4, .int 0), (0, .ref (a 0)), (1, .ref (a 2)), (2, .int pe), (3, .int hv)]) hx hb dX3_fall_16 hl (by decide) rfl (fun ls hl => ?_)
  obtain ⟨i, ei⟩ : ∃ x : Int32, 0 = x := ⟨_, rfl⟩
  obtain ⟨z1, ez1⟩ : ∃ x : ZS, (sL z 0 f_6) = x := ⟨_, rfl⟩
  have hv18 : (0 ≤ i.toInt ∧ i.toInt ≤ 12) ∧ (∃ f : Nat → Int64, z1 = sL z 0 f) := by subst ei ez1; exact ⟨(by decide), ⟨_, rfl⟩⟩
  replace hl : lv_has ls 7 [(4, .int i), (0, .ref (a 0)), (1, .ref (a 2)), (2, .int pe), (3, .int hv)] := by subst ei ez1; exact hl
  replace hP : va_P (dC, dI) vwCl (zE k a z1) H := by subst ez1; exact hP
  clear ei ez1
  obtain ⟨mm18, hm18⟩ : ∃ mm : Nat, mm = (12 - i.toInt).toNat := ⟨_, rfl⟩
  refine z_cut2 hP hS hl ?_
  clear hl hP
  intro H locs ls hP hS hl
  induction mm18 using Nat.strongRecOn generalizing i z1 H locs ls with
  | _ mm18 ih18 =>
    obtain ⟨hi, hz1⟩ := hv18
    refine lv_iload hx hb dX3_fall_18 (lv_at hl 0 rfl) ?_
    refine lv_iload_n hx hb dX3_fall_20 rfl (lv_at hl 3 rfl) ?_
    refine lv_icmp_ge (tgt := 76) hx hb dX3_fall_21 (by decide) (fun c_7 => ?_) (fun c_7 => ?_)
    · skip
      have hc_7 := zb_le rfl rfl c_7
      exact W.vret hx hb hr (fun t ht hW => ⟨⟨z1, rfl, (by obtain ⟨f8, q8⟩ := hz1; exact ⟨f8, q8⟩), ⟨by rw [ht]; exact hP, hDa _⟩⟩, hS.F ht⟩) hS.2.2 dX3_fall_76
    · skip
      have hc_7 := zb_nle rfl rfl c_7
      refine lv_iload hx hb dX3_fall_24 (lv_at hl 0 rfl) ?_
      refine lv_bipush (v := 12) hx hb dX3_fall_26 (by decide) ?_
      refine lv_icmp_ge (tgt := 76) hx hb dX3_fall_28 (by decide) (fun c_8 => ?_) (fun c_8 => ?_)
      · skip
        have hc_8 := zb_le (show (12 : Int32).toInt = 12 by decide) rfl c_8
        exact W.vret hx hb hr (fun t ht hW => ⟨⟨z1, rfl, (by obtain ⟨f8, q8⟩ := hz1; exact ⟨f8, q8⟩), ⟨by rw [ht]; exact hP, hDa _⟩⟩, hS.F ht⟩) hS.2.2 dX3_fall_76
      · skip
        have hc_8 := zb_nle (show (12 : Int32).toInt = 12 by decide) rfl c_8
        refine lv_iload hx hb dX3_fall_31 (lv_at hl 0 rfl) ?_
        refine lv_iload_n hx hb dX3_fall_33 rfl (lv_at hl 4 rfl) ?_
        refine lv_icmp_ge (tgt := 45) hx hb dX3_fall_34 (by decide) (fun c_9 => ?_) (fun c_9 => ?_)
        · skip
          have hc_9 := zb_le rfl rfl c_9
          refine lv_aload_n hx hb dX3_fall_45 rfl (lv_at hl 2 rfl) ?_
          refine lv_iconst (v := 1) hx hb dX3_fall_46 (by decide) ?_
          refine zcS_l (w := (zE k a z1)) (wc := (zD k (qof a 2) (xED z1))) (va_runV (As := [.int 1]) (rest := []) ⟨hx, hb, hml, hown, htb⟩ (c_X1_lotsIfHasNot l dC dI k (qof a 2) (xED z1) 1 _ ) (cwV 1 htb (gzV wmt2_191 wmt2_192 wmt2_193 wmt1_6 wmt2_194) rfl rfl rfl (by decide +kernel) ⟨Nat.le_of_ble_eq_true rfl, Nat.le_of_ble_eq_true rfl⟩) (zp_V (ci := 1) (q0 := 2) hK hP (hDa _) [2, 3, 4] rfl (by decide) rfl rfl) rfl rfl hl.1 rfl (lv_room (Nat.le_of_ble_eq_true rfl)) dX3_fall_47 ⟨Nat.le_of_ble_eq_true rfl, Nat.le_of_ble_eq_true rfl⟩) hP (hDa _) hS hA [2, 3, 4] rfl (fun _ => rfl) (fun r_10 u_11 H locs w_12 hP _ hS => ?_)
          have hP : va_P (dC, dI) vwCl (zE k a z1) H := hP
          refine lv_lstore (lv' := [(5, .long r_10), (4, .int i), (0, .ref (a 0)), (1, .ref (a 2)), (2, .int pe), (3, .int hv)]) hx hb dX3_fall_50 hl (by decide) rfl (fun ls hl => ?_)
          refine lv_aload_n hx hb dX3_fall_52 rfl (lv_at hl 2 rfl) ?_
          refine lv_lload hx hb dX3_fall_53 (lv_at hl 0 rfl) ?_
          refine lv_aload_n hx hb dX3_fall_55 rfl (lv_at hl 3 rfl) ?_
          refine va_get (D := (dC, dI)) (ci := 1) (v := .int (z1.1 5)) (C := RX1) (T := TX1) (N := 9) hx hb htb inw1 hown hK.1 hP 2 rfl rfl 8 (by decide) (htb _ wmt1_131) (fun _ h9 => h9) rfl dX3_fall_56 ?_
          refine lv_topi (fun x_13 ex_13 => ?_)
          have hx_13 : x_13.toInt = (z1.1 5).toInt := by rw [ex_13]
          refine lv_i2l (v := x_13.toInt64) hx hb dX3_fall_59 rfl ?_
          refine lv_topl (fun x_14 ex_14 => ?_)
          have hx_14 : x_14.toInt = x_13.toInt := by rw [ex_14]; exact Jvm.Kit.i64_of_i32 _
          refine lv_lload hx hb dX3_fall_60 (lv_at hl 0 rfl) ?_
          refine lv_lsub hx hb dX3_fall_62 ?_
          refine lv_topl (fun x_15 ex_15 => ?_)
          refine lv_iload hx hb dX3_fall_63 (lv_at hl 1 rfl) ?_
          refine lv_iconst (v := 1) hx hb dX3_fall_65 (by decide) ?_
          refine lv_iadd hx hb dX3_fall_66 ?_
          refine lv_topi (fun x_16 ex_16 => ?_)
          have hx_16 := z_add ex_16 rfl (show (1 : Int32).toInt = 1 by decide) (by omega)
          refine zcS_v (w := (zE k a z1)) (wc := (zL k a z1)) (va_runV (As := [.long r_10, .long x_15, .int x_16]) (rest := []) ⟨hx, hb, hml, hown, htb⟩ (c_X3_addPerson l dC dI k a z1 r_10 x_15 x_16 _ (by omega)) (cwV 3 htb (gzV wmt2_195 wmt2_197 wmp1_13 wmt1_4 wmt2_198) rfl rfl rfl (by decide +kernel) ⟨Nat.le_of_ble_eq_true rfl, Nat.le_of_ble_eq_true rfl⟩) (zp_V (ci := 3) (q0 := 0) hK hP (hDa _) [0, 1] rfl (by decide) rfl rfl) rfl rfl hl.1 rfl (lv_room (Nat.le_of_ble_eq_true rfl)) dX3_fall_67 ⟨Nat.le_of_ble_eq_true rfl, Nat.le_of_ble_eq_true rfl⟩) hP (hDa _) hS hA [0, 1] rfl (fun _ => rfl) (fun u_18 H locs w_19 hP _ hS => ?_)
          have hP : va_P (dC, dI) vwCl (zE k a (sL z1 0 (u_18.2.2.2 0))) H := hP
          obtain ⟨x_20, ex_20⟩ : ∃ y : Int32, y = i + 1 := ⟨_, rfl⟩
          have hx_20 : x_20.toInt = i.toInt + 1 := z_add ex_20 rfl (show (1 : Int32).toInt = 1 by decide) (by omega)
          refine lv_iinc (v := x_20) (lv' := [(4, .int x_20), (5, .long r_10), (0, .ref (a 0)), (1, .ref (a 2)), (2, .int pe), (3, .int hv)]) hx hb dX3_fall_70 hl (k := 1) rfl (by rw [ex_20]; rfl) (by decide) rfl (fun ls hl => ?_)
          refine lv_goto (tgt := 18) hx hb dX3_fall_73 (by decide) ?_
          exact ih18 ((12 - x_20.toInt).toNat) (by omega) x_20 (sL z1 0 (u_18.2.2.2 0)) ⟨(show 0 ≤ x_20.toInt ∧ x_20.toInt ≤ 12 by omega), (by obtain ⟨f8, q8⟩ := hz1; exact ⟨_, by rw [q8]; exact sL_sL⟩)⟩ rfl H locs ls hP hS (lv_sub hl [0, 2, 3, 4, 5] rfl)
        · skip
          have hc_9 := zb_nle rfl rfl c_9
          refine lv_aload_n hx hb dX3_fall_37 rfl (lv_at hl 2 rfl) ?_
          refine lv_iconst (v := 1) hx hb dX3_fall_38 (by decide) ?_
          refine zcS_l (w := (zE k a z1)) (wc := (zD k (qof a 2) (xED z1))) (va_runV (As := [.int 1]) (rest := []) ⟨hx, hb, hml, hown, htb⟩ (c_X1_lotsIfHas l dC dI k (qof a 2) (xED z1) 1 _ ) (cwV 1 htb (gzV wmt2_187 wmt2_188 wmt2_189 wmt1_6 wmt2_190) rfl rfl rfl (by decide +kernel) ⟨Nat.le_of_ble_eq_true rfl, Nat.le_of_ble_eq_true rfl⟩) (zp_V (ci := 1) (q0 := 2) hK hP (hDa _) [2, 3, 4] rfl (by decide) rfl rfl) rfl rfl hl.1 rfl (lv_room (Nat.le_of_ble_eq_true rfl)) dX3_fall_39 ⟨Nat.le_of_ble_eq_true rfl, Nat.le_of_ble_eq_true rfl⟩) hP (hDa _) hS hA [2, 3, 4] rfl (fun _ => rfl) (fun r_21 u_22 H locs w_23 hP _ hS => ?_)
          have hP : va_P (dC, dI) vwCl (zE k a z1) H := hP
          refine lv_goto (tgt := 50) hx hb dX3_fall_42 (by decide) ?_
          refine lv_lstore (lv' := [(5, .long r_21), (4, .int i), (0, .ref (a 0)), (1, .ref (a 2)), (2, .int pe), (3, .int hv)]) hx hb dX3_fall_50 hl (by decide) rfl (fun ls hl => ?_)
          refine lv_aload_n hx hb dX3_fall_52 rfl (lv_at hl 2 rfl) ?_
          refine lv_lload hx hb dX3_fall_53 (lv_at hl 0 rfl) ?_
          refine lv_aload_n hx hb dX3_fall_55 rfl (lv_at hl 3 rfl) ?_
          refine va_get (D := (dC, dI)) (ci := 1) (v := .int (z1.1 5)) (C := RX1) (T := TX1) (N := 9) hx hb htb inw1 hown hK.1 hP 2 rfl rfl 8 (by decide) (htb _ wmt1_131) (fun _ h9 => h9) rfl dX3_fall_56 ?_
          refine lv_topi (fun x_24 ex_24 => ?_)
          have hx_24 : x_24.toInt = (z1.1 5).toInt := by rw [ex_24]
          refine lv_i2l (v := x_24.toInt64) hx hb dX3_fall_59 rfl ?_
          refine lv_topl (fun x_25 ex_25 => ?_)
          have hx_25 : x_25.toInt = x_24.toInt := by rw [ex_25]; exact Jvm.Kit.i64_of_i32 _
          refine lv_lload hx hb dX3_fall_60 (lv_at hl 0 rfl) ?_
          refine lv_lsub hx hb dX3_fall_62 ?_
          refine lv_topl (fun x_26 ex_26 => ?_)
          refine lv_iload hx hb dX3_fall_63 (lv_at hl 1 rfl) ?_
          refine lv_iconst (v := 1) hx hb dX3_fall_65 (by decide) ?_
          refine lv_iadd hx hb dX3_fall_66 ?_
          refine lv_topi (fun x_27 ex_27 => ?_)
          have hx_27 := z_add ex_27 rfl (show (1 : Int32).toInt = 1 by decide) (by omega)
          refine zcS_v (w := (zE k a z1)) (wc := (zL k a z1)) (va_runV (As := [.long r_21, .long x_26, .int x_27]) (rest := []) ⟨hx, hb, hml, hown, htb⟩ (c_X3_addPerson l dC dI k a z1 r_21 x_26 x_27 _ (by omega)) (cwV 3 htb (gzV wmt2_195 wmt2_197 wmp1_13 wmt1_4 wmt2_198) rfl rfl rfl (by decide +kernel) ⟨Nat.le_of_ble_eq_true rfl, Nat.le_of_ble_eq_true rfl⟩) (zp_V (ci := 3) (q0 := 0) hK hP (hDa _) [0, 1] rfl (by decide) rfl rfl) rfl rfl hl.1 rfl (lv_room (Nat.le_of_ble_eq_true rfl)) dX3_fall_67 ⟨Nat.le_of_ble_eq_true rfl, Nat.le_of_ble_eq_true rfl⟩) hP (hDa _) hS hA [0, 1] rfl (fun _ => rfl) (fun u_29 H locs w_30 hP _ hS => ?_)
          have hP : va_P (dC, dI) vwCl (zE k a (sL z1 0 (u_29.2.2.2 0))) H := hP
          obtain ⟨x_31, ex_31⟩ : ∃ y : Int32, y = i + 1 := ⟨_, rfl⟩
          have hx_31 : x_31.toInt = i.toInt + 1 := z_add ex_31 rfl (show (1 : Int32).toInt = 1 by decide) (by omega)
          refine lv_iinc (v := x_31) (lv' := [(4, .int x_31), (5, .long r_21), (0, .ref (a 0)), (1, .ref (a 2)), (2, .int pe), (3, .int hv)]) hx hb dX3_fall_70 hl (k := 1) rfl (by rw [ex_31]; rfl) (by decide) rfl (fun ls hl => ?_)
          refine lv_goto (tgt := 18) hx hb dX3_fall_73 (by decide) ?_
          exact ih18 ((12 - x_31.toInt).toNat) (by omega) x_31 (sL z1 0 (u_29.2.2.2 0)) ⟨(show 0 ≤ x_31.toInt ∧ x_31.toInt ≤ 12 by omega), (by obtain ⟨f8, q8⟩ := hz1; exact ⟨_, by rw [q8]; exact sL_sL⟩)⟩ rfl H locs ls hP hS (lv_sub hl [0, 2, 3, 4, 5] rfl)
