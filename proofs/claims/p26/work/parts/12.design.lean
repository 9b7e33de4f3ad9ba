set_option maxHeartbeats 4000000 in
set_option maxRecDepth 100000 in
theorem c_X1_append (l : Launch) (dC : Nat → ClassId) (dI : Nat → Nat → Nat) (k : Nat → ClassId) (a : Nat → Nat) (z : ZS) (bb : Int32) (sz : Nat) (hI : XR (z.1 1)) : Met l yX1_append (wz yX1_append cX1_append 2 (some .boolean)) ({ frames := 0, cells := 0, slots := 0, locals := 0 }) (va_Pc [.ref (a 0), .int bb] (zPre dC dI k (zTX k) (zD k a z) sz)) (va_Qi (fun (r : Int32) (u : Int32 × (Nat → Int32)) => (r = 1 ∧ (u.1 = z.1 1 + 1) ∧ ((z.1 1).toInt < 60) ∧ (u.2 = upd (z.2.2.1 0) (z.1 1).toNatClampNeg bb)) ∨ (r = 0 ∧ (u.1 = z.1 1) ∧ (60 ≤ (z.1 1).toInt) ∧ (u.2 = z.2.2.1 0))) (fun u t => zPost dC dI (va_A (zD k a z) sz) (zD k a (sA (sI z 1 u.1) 0 u.2)) t) (va_A (zD k a z) sz)) 0 0 (va_A (zD k a z) sz) := by
  refine Met.ofW (cc := cX1_append) (maxL := 2) (ret := (some .boolean)) (by decide) rfl ?_
  intro p e s m args below meth c s₁ B hml hv
  obtain ⟨rfl, hsz, hP, hK, hD0⟩ := hv
  have hx := B.exec
  have hb := B.bytes
  have hr := B.returns
  have hts := atoms_spec (ws := wz yX1_append cX1_append 2 (some .boolean)) B.pre
  have htb : ∀ w ∈ zw, w.before _ s = true := fun w h => hts w (List.mem_cons_of_mem _ h)
  have hown : s.vm.findClass RX1 = some m.cls := findClass_of_methodNamed B.named
  have hlocks := B.notSynchronized
  clear hts
  subst hsz
  have hD := hD0.self (sz := s.heap.size)
  generalize hAe : va_A (zD k a z) s.heap.size = A at hD ⊢
  have hA : ∀ q : Nat, s.heap.size ≤ q → A q := fun q h => by rw [← hAe]; exact Or.inr h
  have hDa : ∀ z9 : ZS, va_D A (zD k a z9) := fun z9 => va_D_adr (w := zD k a z) rfl hD
  have hl := lv_entry ([.ref (a 0), .int bb]) (n := 2) (Nat.le_of_ble_eq_true rfl)
  rw [lg_entry_eq]
  generalize (lg_sl ([.ref (a 0), .int bb]) ++ List.replicate (2 - (lg_sl ([.ref (a 0), .int bb])).length) Slot.unset).toArray = ls at hl ⊢
  have hl : lv_has ls 2 [(0, .ref (a 0)), (1, .int bb)] := hl
  refine z_start2 (A := A) (w := (zD k a z)) hP (fun H locs hP hS => ?_)
  clear hD0 hAe
  have hI2 := hI; unfold XR at hI2
  refine lv_aload_n hx hb dX1_append_0 rfl (lv_at hl 0 rfl) ?_
  refine va_get (D := (dC, dI)) (ci := 1) (v := .int (z.1 1)) (C := RX1) (T := TX1) (N := 9) hx hb htb inw1 hown hK.1 hP 0 rfl rfl 4 (by decide) (htb _ wmt1_122) (fun _ h9 => h9) rfl dX1_append_1 ?_
  refine lv_topi (fun x_1 ex_1 => ?_)
  have hx_1 : x_1.toInt = (z.1 1).toInt := by rw [ex_1]
  refine lv_bipush (v := 60) hx hb dX1_append_4 (by decide) ?_
  refine lv_icmp_lt (tgt := 11) hx hb dX1_append_6 (by decide) (fun c_2 => ?_) (fun c_2 => ?_)
  · skip
    have hc_2 := zb_lt rfl (show (60 : Int32).toInt = 60 by decide) c_2
    refine lv_aload_n hx hb dX1_append_11 rfl (lv_at hl 0 rfl) ?_
    refine va_get (D := (dC, dI)) (ci := 1) (v := .ref (a 1)) (C := RX1) (T := TX1) (N := 9) hx hb htb inw1 hown hK.1 hP 0 rfl rfl 0 (by decide) (htb _ wmt1_118) (fun _ h9 => h9) rfl dX1_append_12 ?_
    refine lv_aload_n hx hb dX1_append_15 rfl (lv_at hl 0 rfl) ?_
    refine va_get (D := (dC, dI)) (ci := 1) (v := .int (z.1 1)) (C := RX1) (T := TX1) (N := 9) hx hb htb inw1 hown hK.1 hP 0 rfl rfl 4 (by decide) (htb _ wmt1_122) (fun _ h9 => h9) rfl dX1_append_16 ?_
    refine z_top (v2 := .int x_1) (congrArg Value.int ex_1.symm) ?_
    refine lv_iload_n hx hb dX1_append_19 rfl (lv_at hl 1 rfl) ?_
    refine va_iast (D := (dC, dI)) hx hb hK.1 hP (hDa _) hS 1 0 rfl rfl (z_in (by omega)) dX1_append_20 (fun H locs hP _ hS => ?_)
    obtain ⟨f_3, ef_3⟩ : ∃ x : Nat → Int32, x = upd (z.2.2.1 0) x_1.toNatClampNeg bb := ⟨_, rfl⟩
    have hP : va_P (dC, dI) vwCl (zD k a (sA z 0 f_3)) H := by rw [ef_3]; exact hP
    refine lv_aload_n hx hb dX1_append_21 rfl (lv_at hl 0 rfl) ?_
    refine lv_dup hx hb dX1_append_22 rfl ?_
    refine va_get (D := (dC, dI)) (ci := 1) (v := .int (z.1 1)) (C := RX1) (T := TX1) (N := 9) hx hb htb inw1 hown hK.1 hP 0 rfl rfl 4 (by decide) (htb _ wmt1_122) (fun _ h9 => h9) rfl dX1_append_23 ?_
    refine z_top (v2 := .int x_1) (congrArg Value.int ex_1.symm) ?_
    refine lv_iconst (v := 1) hx hb dX1_append_26 (by decide) ?_
    refine lv_iadd hx hb dX1_append_27 ?_
    refine lv_topi (fun x_4 ex_4 => ?_)
    have ex_new : x_4 = z.1 1 + 1 := by rw [ex_4, ex_1]
    refine va_put (D := (dC, dI)) (ci := 1) (v := .int x_4) (ty := .int) (C := RX1) (T := TX1) (N := 9) hx hb htb inw1 tyX1 tyX1_ok nmX1 hown hK.1 hP (hDa _) hS 0 rfl rfl 4 (by decide) (htb _ wmt1_122) (fun _ h9 => h9) rfl (by decide +kernel) rfl rfl (Nat.le_of_ble_eq_true rfl) dX1_append_28 (fun H locs hP _ hS => ?_)
    have hP : va_P (dC, dI) vwCl (zD k a (sI (sA z 0 f_3) 1 x_4)) H := hP
    refine lv_iconst (v := 1) hx hb dX1_append_31 (by decide) ?_
    exact W.zret (v := 1) (ty := .boolean) hx hb hr rfl (fun t ht hW => ⟨⟨1, (x_4, f_3), rfl, (show ((1 : Int32) = 1 ∧ (x_4 = z.1 1 + 1) ∧ ((z.1 1).toInt < 60) ∧ (f_3 = upd (z.2.2.1 0) (z.1 1).toNatClampNeg bb)) ∨ ((1 : Int32) = 0 ∧ (x_4 = z.1 1) ∧ (60 ≤ (z.1 1).toInt) ∧ (f_3 = z.2.2.1 0)) from (Or.inl ⟨rfl, ex_new, by omega, by rw [ef_3, ex_1]⟩)), ⟨by rw [ht]; exact hP, hDa _⟩⟩, hS.F ht⟩) hS.2.2 dX1_append_32
  · skip
    have hc_2 := zb_nlt rfl (show (60 : Int32).toInt = 60 by decide) c_2
    refine lv_iconst (v := 0) hx hb dX1_append_9 (by decide) ?_
    exact W.zret (v := 0) (ty := .boolean) hx hb hr rfl (fun t ht hW => ⟨⟨0, (z.1 1, z.2.2.1 0), rfl, (show ((0 : Int32) = 1 ∧ ((z.1 1) = z.1 1 + 1) ∧ ((z.1 1).toInt < 60) ∧ ((z.2.2.1 0) = upd (z.2.2.1 0) (z.1 1).toNatClampNeg bb)) ∨ ((0 : Int32) = 0 ∧ ((z.1 1) = z.1 1) ∧ (60 ≤ (z.1 1).toInt) ∧ ((z.2.2.1 0) = z.2.2.1 0)) from (Or.inr ⟨rfl, rfl, by omega, rfl⟩)), ⟨by rw [ht]; exact hP, hDa _⟩⟩, hS.F ht⟩) hS.2.2 dX1_append_10
set_option maxHeartbeats 4000000 in
set_option maxRecDepth 100000 in
theorem c_X1_empty (l : Launch) (dC : Nat → ClassId) (dI : Nat → Nat → Nat) (k : Nat → ClassId) (a : Nat → Nat) (z : ZS) (sz : Nat)  : Met l yX1_empty (wz yX1_empty cX1_empty 1 none) ({ frames := 0, cells := 0, slots := 0, locals := 0 }) (va_Pc [.ref (a 0)] (zPre dC dI k (zTX k) (zD k a z) sz)) (va_Qv (fun (u : Int32) => (u = 0)) (fun u t => zPost dC dI (va_A (zD k a z) sz) (zD k a (sI z 1 u)) t) (va_A (zD k a z) sz)) 0 0 (va_A (zD k a z) sz) := by
  refine Met.ofW (cc := cX1_empty) (maxL := 1) (ret := none) (by decide) rfl ?_
  intro p e s m args below meth c s₁ B hml hv
  obtain ⟨rfl, hsz, hP, hK, hD0⟩ := hv
  have hx := B.exec
  have hb := B.bytes
  have hr := B.returns
  have hts := atoms_spec (ws := wz yX1_empty cX1_empty 1 none) B.pre
  have htb : ∀ w ∈ zw, w.before _ s = true := fun w h => hts w (List.mem_cons_of_mem _ h)
  have hown : s.vm.findClass RX1 = some m.cls := findClass_of_methodNamed B.named
  have hlocks := B.notSynchronized
  clear hts
  subst hsz
  have hD := hD0.self (sz := s.heap.size)
  generalize hAe : va_A (zD k a z) s.heap.size = A at hD ⊢
  have hA : ∀ q : Nat, s.heap.size ≤ q → A q := fun q h => by rw [← hAe]; exact Or.inr h
  have hDa : ∀ z9 : ZS, va_D A (zD k a z9) := fun z9 => va_D_adr (w := zD k a z) rfl hD
  have hl := lv_entry ([.ref (a 0)]) (n := 1) (Nat.le_of_ble_eq_true rfl)
  rw [lg_entry_eq]
  generalize (lg_sl ([.ref (a 0)]) ++ List.replicate (1 - (lg_sl ([.ref (a 0)])).length) Slot.unset).toArray = ls at hl ⊢
  have hl : lv_has ls 1 [(0, .ref (a 0))] := hl
  refine z_start2 (A := A) (w := (zD k a z)) hP (fun H locs hP hS => ?_)
  clear hD0 hAe
  refine lv_aload_n hx hb dX1_empty_0 rfl (lv_at hl 0 rfl) ?_
  refine lv_iconst (v := 0) hx hb dX1_empty_1 (by decide) ?_
  refine va_put (D := (dC, dI)) (ci := 1) (v := .int 0) (ty := .int) (C := RX1) (T := TX1) (N := 9) hx hb htb inw1 tyX1 tyX1_ok nmX1 hown hK.1 hP (hDa _) hS 0 rfl rfl 4 (by decide) (htb _ wmt1_122) (fun _ h9 => h9) rfl (by decide +kernel) rfl rfl (Nat.le_of_ble_eq_true rfl) dX1_empty_2 (fun H locs hP _ hS => ?_)
  have hP : va_P (dC, dI) vwCl (zD k a (sI z 1 0)) H := hP
  exact W.vret hx hb hr (fun t ht hW => ⟨⟨0, rfl, (show ((0 : Int32) = 0) from rfl), ⟨by rw [ht]; exact hP, hDa _⟩⟩, hS.F ht⟩) hS.2.2 dX1_empty_5
set_option maxHeartbeats 4000000 in
set_option maxRecDepth 100000 in
theorem c_X1_byteAt (l : Launch) (dC : Nat → ClassId) (dI : Nat → Nat → Nat) (k : Nat → ClassId) (a : Nat → Nat) (z : ZS) (pl : Int32) (sz : Nat)  : Met l yX1_byteAt (wz yX1_byteAt cX1_byteAt 2 (some .int)) ({ frames := 0, cells := 0, slots := 0, locals := 0 }) (va_Pc [.ref (a 0), .int pl] (zPre dC dI k (zTX k) (zD k a z) sz)) (va_Qi (fun (r : Int32) (u : Unit) => (r.toInt = bX (z.1 1) (z.2.2.1 0) pl.toInt)) (fun u t => zPost dC dI (va_A (zD k a z) sz) (zD k a z) t) (va_A (zD k a z) sz)) 0 0 (va_A (zD k a z) sz) := by
  refine Met.ofW (cc := cX1_byteAt) (maxL := 2) (ret := (some .int)) (by decide) rfl ?_
  intro p e s m args below meth c s₁ B hml hv
  obtain ⟨rfl, hsz, hP, hK, hD0⟩ := hv
  have hx := B.exec
  have hb := B.bytes
  have hr := B.returns
  have hts := atoms_spec (ws := wz yX1_byteAt cX1_byteAt 2 (some .int)) B.pre
  have htb : ∀ w ∈ zw, w.before _ s = true := fun w h => hts w (List.mem_cons_of_mem _ h)
  have hown : s.vm.findClass RX1 = some m.cls := findClass_of_methodNamed B.named
  have hlocks := B.notSynchronized
  clear hts
  subst hsz
  have hD := hD0.self (sz := s.heap.size)
  generalize hAe : va_A (zD k a z) s.heap.size = A at hD ⊢
  have hA : ∀ q : Nat, s.heap.size ≤ q → A q := fun q h => by rw [← hAe]; exact Or.inr h
  have hDa : ∀ z9 : ZS, va_D A (zD k a z9) := fun z9 => va_D_adr (w := zD k a z) rfl hD
  have hl := lv_entry ([.ref (a 0), .int pl]) (n := 2) (Nat.le_of_ble_eq_true rfl)
  rw [lg_entry_eq]
  generalize (lg_sl ([.ref (a 0), .int pl]) ++ List.replicate (2 - (lg_sl ([.ref (a 0), .int pl])).length) Slot.unset).toArray = ls at hl ⊢
  have hl : lv_has ls 2 [(0, .ref (a 0)), (1, .int pl)] := hl
  refine z_start2 (A := A) (w := (zD k a z)) hP (fun H locs hP hS => ?_)
  clear hD0 hAe
  refine lv_iload_n hx hb dX1_byteAt_0 rfl (lv_at hl 1 rfl) ?_
  refine lv_if_lt (tgt := 27) hx hb dX1_byteAt_1 (by decide) (fun c_1 => ?_) (fun c_1 => ?_)
  · skip
    have hc_1 := zb_lt rfl (show (0 : Int32).toInt = 0 by decide) c_1
    refine lv_iconst (v := (-1)) hx hb dX1_byteAt_27 (by decide) ?_
    exact W.iret (v := (-1)) hx hb hr (fun t ht hW => ⟨⟨(-1), (), rfl, (by unfold bX; rw [if_neg (by omega)]; decide), ⟨by rw [ht]; exact hP, hDa _⟩⟩, hS.F ht⟩) hS.2.2 dX1_byteAt_28
  · skip
    have hc_1 := zb_nlt rfl (show (0 : Int32).toInt = 0 by decide) c_1
    refine lv_iload_n hx hb dX1_byteAt_4 rfl (lv_at hl 1 rfl) ?_
    refine lv_aload_n hx hb dX1_byteAt_5 rfl (lv_at hl 0 rfl) ?_
    refine va_get (D := (dC, dI)) (ci := 1) (v := .int (z.1 1)) (C := RX1) (T := TX1) (N := 9) hx hb htb inw1 hown hK.1 hP 0 rfl rfl 4 (by decide) (htb _ wmt1_122) (fun _ h9 => h9) rfl dX1_byteAt_6 ?_
    refine lv_topi (fun x_2 ex_2 => ?_)
    have hx_2 : x_2.toInt = (z.1 1).toInt := by rw [ex_2]
    refine lv_icmp_ge (tgt := 27) hx hb dX1_byteAt_9 (by decide) (fun c_3 => ?_) (fun c_3 => ?_)
    · skip
      have hc_3 := zb_le rfl rfl c_3
      refine lv_iconst (v := (-1)) hx hb dX1_byteAt_27 (by decide) ?_
      exact W.iret (v := (-1)) hx hb hr (fun t ht hW => ⟨⟨(-1), (), rfl, (by unfold bX; rw [if_neg (by omega)]; decide), ⟨by rw [ht]; exact hP, hDa _⟩⟩, hS.F ht⟩) hS.2.2 dX1_byteAt_28
    · skip
      have hc_3 := zb_nle rfl rfl c_3
      refine lv_iload_n hx hb dX1_byteAt_12 rfl (lv_at hl 1 rfl) ?_
      refine lv_bipush (v := 60) hx hb dX1_byteAt_13 (by decide) ?_
      refine lv_icmp_ge (tgt := 27) hx hb dX1_byteAt_15 (by decide) (fun c_4 => ?_) (fun c_4 => ?_)
      · skip
        have hc_4 := zb_le (show (60 : Int32).toInt = 60 by decide) rfl c_4
        refine lv_iconst (v := (-1)) hx hb dX1_byteAt_27 (by decide) ?_
        exact W.iret (v := (-1)) hx hb hr (fun t ht hW => ⟨⟨(-1), (), rfl, (by unfold bX; rw [if_neg (by omega)]; decide), ⟨by rw [ht]; exact hP, hDa _⟩⟩, hS.F ht⟩) hS.2.2 dX1_byteAt_28
      · skip
        have hc_4 := zb_nle (show (60 : Int32).toInt = 60 by decide) rfl c_4
        refine lv_aload_n hx hb dX1_byteAt_18 rfl (lv_at hl 0 rfl) ?_
        refine va_get (D := (dC, dI)) (ci := 1) (v := .ref (a 1)) (C := RX1) (T := TX1) (N := 9) hx hb htb inw1 hown hK.1 hP 0 rfl rfl 0 (by decide) (htb _ wmt1_118) (fun _ h9 => h9) rfl dX1_byteAt_19 ?_
        refine lv_iload_n hx hb dX1_byteAt_22 rfl (lv_at hl 1 rfl) ?_
        refine va_iald (D := (dC, dI)) hx hb hK.1 hP 1 0 rfl rfl (z_in (by omega)) dX1_byteAt_23 ?_
        refine lv_topi (fun x_5 ex_5 => ?_)
        refine lv_goto (tgt := 28) hx hb dX1_byteAt_24 (by decide) ?_
        exact W.iret (v := x_5) hx hb hr (fun t ht hW => ⟨⟨x_5, (), rfl, (by unfold bX; rw [if_pos (by omega), show pl.toInt.toNat = pl.toNatClampNeg by have q := z_clamp (x := pl) (by omega); omega, ex_5]), ⟨by rw [ht]; exact hP, hDa _⟩⟩, hS.F ht⟩) hS.2.2 dX1_byteAt_28
set_option maxHeartbeats 4000000 in
set_option maxRecDepth 100000 in
theorem c_X1_figureAt (l : Launch) (dC : Nat → ClassId) (dI : Nat → Nat → Nat) (k : Nat → ClassId) (a : Nat → Nat) (z : ZS) (pl : Int32) (sz : Nat)  : Met l yX1_figureAt (wz yX1_figureAt cX1_figureAt 3 (some .int)) ({ frames := 1, cells := 0, slots := 0, locals := 21 }) (va_Pc [.ref (a 0), .int pl] (zPre dC dI k (zTX k) (zD k a z) sz)) (va_Qi (fun (r : Int32) (u : Unit) => ((48 ≤ bX (z.1 1) (z.2.2.1 0) pl.toInt ∧ bX (z.1 1) (z.2.2.1 0) pl.toInt ≤ 57) ∧ (r.toInt = bX (z.1 1) (z.2.2.1 0) pl.toInt - 48)) ∨ (r = (-1) ∧ (¬ (48 ≤ bX (z.1 1) (z.2.2.1 0) pl.toInt ∧ bX (z.1 1) (z.2.2.1 0) pl.toInt ≤ 57)))) (fun u t => zPost dC dI (va_A (zD k a z) sz) (zD k a z) t) (va_A (zD k a z) sz)) 0 0 (va_A (zD k a z) sz) := by
  refine Met.ofW (cc := cX1_figureAt) (maxL := 3) (ret := (some .int)) (by decide) rfl ?_
  intro p e s m args below meth c s₁ B hml hv
  obtain ⟨rfl, hsz, hP, hK, hD0⟩ := hv
  have hx := B.exec
  have hb := B.bytes
  have hr := B.returns
  have hts := atoms_spec (ws := wz yX1_figureAt cX1_figureAt 3 (some .int)) B.pre
  have htb : ∀ w ∈ zw, w.before _ s = true := fun w h => hts w (List.mem_cons_of_mem _ h)
  have hown : s.vm.findClass RX1 = some m.cls := findClass_of_methodNamed B.named
  have hlocks := B.notSynchronized
  clear hts
  subst hsz
  have hD := hD0.self (sz := s.heap.size)
  generalize hAe : va_A (zD k a z) s.heap.size = A at hD ⊢
  have hA : ∀ q : Nat, s.heap.size ≤ q → A q := fun q h => by rw [← hAe]; exact Or.inr h
  have hDa : ∀ z9 : ZS, va_D A (zD k a z9) := fun z9 => va_D_adr (w := zD k a z) rfl hD
  have hl := lv_entry ([.ref (a 0), .int pl]) (n := 3) (Nat.le_of_ble_eq_true rfl)
  rw [lg_entry_eq]
  generalize (lg_sl ([.ref (a 0), .int pl]) ++ List.replicate (3 - (lg_sl ([.ref (a 0), .int pl])).length) Slot.unset).toArray = ls at hl ⊢
  have hl : lv_has ls 3 [(0, .ref (a 0)), (1, .int pl)] := hl
  refine z_start2 (A := A) (w := (zD k a z)) hP (fun H locs hP hS => ?_)
  clear hD0 hAe
  refine lv_aload_n hx hb dX1_figureAt_0 rfl (lv_at hl 0 rfl) ?_
  refine lv_iload_n hx hb dX1_figureAt_1 rfl (lv_at hl 1 rfl) ?_
  refine zcA_i (w := (zD k a z)) (va_runV (As := [.int pl]) (rest := []) ⟨hx, hb, hml, hown, htb⟩ (c_X1_byteAt l dC dI k a z pl _ ) (cwV 1 htb (gzV wmt1_233 wmt1_235 wmp1_2 wmt1_6 wmt1_236) rfl rfl rfl (by decide +kernel) ⟨Nat.le_of_ble_eq_true rfl, Nat.le_of_ble_eq_true rfl⟩) (zpA_V (ci := 1) (q0 := 0) hK hP (hDa _) rfl rfl) rfl rfl hl.1 rfl (lv_room (Nat.le_of_ble_eq_true rfl)) dX1_figureAt_2 ⟨Nat.le_of_ble_eq_true rfl, Nat.le_of_ble_eq_true rfl⟩) (hDa _) hS hA (fun r_1 u_2 H locs w_3 hP _ hS => ?_)
  have h_4 := w_3
  replace h_4 : r_1.toInt = bX ((z.1 1)) ((z.2.2.1 0)) pl.toInt := h_4
  refine lv_istore_n (lv' := [(2, .int r_1), (0, .ref (a 0)), (1, .int pl)]) hx hb dX1_figureAt_5 rfl hl (by decide) rfl (fun ls hl => ?_)
  refine lv_iload_n hx hb dX1_figureAt_6 rfl (lv_at hl 0 rfl) ?_
  refine lv_bipush (v := 48) hx hb dX1_figureAt_7 (by decide) ?_
  refine lv_icmp_lt (tgt := 25) hx hb dX1_figureAt_9 (by decide) (fun c_6 => ?_) (fun c_6 => ?_)
  · skip
    have hc_6 := zb_lt rfl (show (48 : Int32).toInt = 48 by decide) c_6
    refine lv_iconst (v := (-1)) hx hb dX1_figureAt_25 (by decide) ?_
    exact W.iret (v := (-1)) hx hb hr (fun t ht hW => ⟨⟨(-1), (), rfl, (Or.inr ⟨rfl, by omega⟩), ⟨by rw [ht]; exact hP, hDa _⟩⟩, hS.F ht⟩) hS.2.2 dX1_figureAt_26
  · skip
    have hc_6 := zb_nlt rfl (show (48 : Int32).toInt = 48 by decide) c_6
    refine lv_iload_n hx hb dX1_figureAt_12 rfl (lv_at hl 0 rfl) ?_
    refine lv_bipush (v := 57) hx hb dX1_figureAt_13 (by decide) ?_
    refine lv_icmp_gt (tgt := 25) hx hb dX1_figureAt_15 (by decide) (fun c_7 => ?_) (fun c_7 => ?_)
    · skip
      have hc_7 := zb_lt (show (57 : Int32).toInt = 57 by decide) rfl c_7
      refine lv_iconst (v := (-1)) hx hb dX1_figureAt_25 (by decide) ?_
      exact W.iret (v := (-1)) hx hb hr (fun t ht hW => ⟨⟨(-1), (), rfl, (Or.inr ⟨rfl, by omega⟩), ⟨by rw [ht]; exact hP, hDa _⟩⟩, hS.F ht⟩) hS.2.2 dX1_figureAt_26
    · skip
      have hc_7 := zb_nlt (show (57 : Int32).toInt = 57 by decide) rfl c_7
      refine lv_iload_n hx hb dX1_figureAt_18 rfl (lv_at hl 0 rfl) ?_
      refine lv_bipush (v := 48) hx hb dX1_figureAt_19 (by decide) ?_
      refine lv_isub hx hb dX1_figureAt_21 ?_
      refine lv_topi (fun x_8 ex_8 => ?_)
      have hx_8 := z_sub ex_8 rfl (show (48 : Int32).toInt = 48 by decide) (by omega)
      refine lv_goto (tgt := 26) hx hb dX1_figureAt_22 (by decide) ?_
      exact W.iret (v := x_8) hx hb hr (fun t ht hW => ⟨⟨x_8, (), rfl, (Or.inl ⟨by omega, by omega⟩), ⟨by rw [ht]; exact hP, hDa _⟩⟩, hS.F ht⟩) hS.2.2 dX1_figureAt_26
set_option maxHeartbeats 4000000 in
set_option maxRecDepth 100000 in
theorem c_X1_letterOf (l : Launch) (dC : Nat → ClassId) (dI : Nat → Nat → Nat) (k : Nat → ClassId) (v : Int32) (sz : Nat)  : Met l yX1_letterOf (wz yX1_letterOf cX1_letterOf 1 (some .int)) ({ frames := 0, cells := 0, slots := 0, locals := 0 }) (va_Pc [.int v] (zPre dC dI k (zTX k) [] sz)) (va_Qi (fun (r : Int32) (u : Unit) => (r.toInt = lT v.toInt)) (fun u t => zPost dC dI (va_A [] sz) [] t) (va_A [] sz)) 0 0 (va_A [] sz) := by
  refine Met.ofW (cc := cX1_letterOf) (maxL := 1) (ret := (some .int)) (by decide) rfl ?_
  intro p e s m args below meth c s₁ B hml hv
  obtain ⟨rfl, hsz, hP, hK, hD0⟩ := hv
  have hx := B.exec
  have hb := B.bytes
  have hr := B.returns
  have hts := atoms_spec (ws := wz yX1_letterOf cX1_letterOf 1 (some .int)) B.pre
  have htb : ∀ w ∈ zw, w.before _ s = true := fun w h => hts w (List.mem_cons_of_mem _ h)
  have hown : s.vm.findClass RX1 = some m.cls := findClass_of_methodNamed B.named
  have hlocks := B.notSynchronized
  clear hts
  subst hsz
  have hD := hD0.self (sz := s.heap.size)
  generalize hAe : va_A [] s.heap.size = A at hD ⊢
  have hA : ∀ q : Nat, s.heap.size ≤ q → A q := fun q h => by rw [← hAe]; exact Or.inr h
  have hl := lv_entry ([.int v]) (n := 1) (Nat.le_of_ble_eq_true rfl)
  rw [lg_entry_eq]
  generalize (lg_sl ([.int v]) ++ List.replicate (1 - (lg_sl ([.int v])).length) Slot.unset).toArray = ls at hl ⊢
  have hl : lv_has ls 1 [(0, .int v)] := hl
  refine z_start2 (A := A) (w := []) hP (fun H locs hP hS => ?_)
  clear hD0 hAe
  refine lv_iload_n hx hb dX1_letterOf_0 rfl (lv_at hl 0 rfl) ?_
  rcases Decidable.em (v.toInt < 110 ∨ 121 < v.toInt) with sw_1 | sw_1
  · skip
    refine lv_tableOut (tgt := 74) hx hb dX1_letterOf_1 sw_1 (by decide) ?_
    refine lv_iconst (v := (-1)) hx hb dX1_letterOf_74 (by decide) ?_
    exact W.iret (v := (-1)) hx hb hr (fun t ht hW => ⟨⟨(-1), (), rfl, (by rw [lT_n (by omega) (by omega) (by omega) (by omega) (by omega)]; decide), ⟨by rw [ht]; exact hP, hD⟩⟩, hS.F ht⟩) hS.2.2 dX1_letterOf_75
  · skip
    have sw_2 : v = 110 ∨ v = 111 ∨ v = 112 ∨ v = 113 ∨ v = 114 ∨ v = 115 ∨ v = 116 ∨ v = 117 ∨ v = 118 ∨ v = 119 ∨ v = 120 ∨ v = 121 := by simp only [zi_eq, (by decide : (110 : Int32).toInt = 110), (by decide : (111 : Int32).toInt = 111), (by decide : (112 : Int32).toInt = 112), (by decide : (113 : Int32).toInt = 113), (by decide : (114 : Int32).toInt = 114), (by decide : (115 : Int32).toInt = 115), (by decide : (116 : Int32).toInt = 116), (by decide : (117 : Int32).toInt = 117), (by decide : (118 : Int32).toInt = 118), (by decide : (119 : Int32).toInt = 119), (by decide : (120 : Int32).toInt = 120), (by decide : (121 : Int32).toInt = 121)]; omega
    clear sw_1
    rcases sw_2 with rfl | rfl | rfl | rfl | rfl | rfl | rfl | rfl | rfl | rfl | rfl | rfl
    · skip
      refine lv_tableIn (off := 69) (tgt := 70) hx hb dX1_letterOf_1 (by decide) (by decide) (by decide) (by decide) ?_
      refine lv_iconst (v := 3) hx hb dX1_letterOf_70 (by decide) ?_
      exact W.iret (v := 3) hx hb hr (fun t ht hW => ⟨⟨3, (), rfl, (by decide), ⟨by rw [ht]; exact hP, hD⟩⟩, hS.F ht⟩) hS.2.2 dX1_letterOf_71
    · skip
      refine lv_tableIn (off := 65) (tgt := 66) hx hb dX1_letterOf_1 (by decide) (by decide) (by decide) (by decide) ?_
      refine lv_iconst (v := 1) hx hb dX1_letterOf_66 (by decide) ?_
      exact W.iret (v := 1) hx hb hr (fun t ht hW => ⟨⟨1, (), rfl, (by decide), ⟨by rw [ht]; exact hP, hD⟩⟩, hS.F ht⟩) hS.2.2 dX1_letterOf_67
    · skip
      refine lv_tableIn (off := 73) (tgt := 74) hx hb dX1_letterOf_1 (by decide) (by decide) (by decide) (by decide) ?_
      refine lv_iconst (v := (-1)) hx hb dX1_letterOf_74 (by decide) ?_
      exact W.iret (v := (-1)) hx hb hr (fun t ht hW => ⟨⟨(-1), (), rfl, (by decide), ⟨by rw [ht]; exact hP, hD⟩⟩, hS.F ht⟩) hS.2.2 dX1_letterOf_75
    · skip
      refine lv_tableIn (off := 73) (tgt := 74) hx hb dX1_letterOf_1 (by decide) (by decide) (by decide) (by decide) ?_
      refine lv_iconst (v := (-1)) hx hb dX1_letterOf_74 (by decide) ?_
      exact W.iret (v := (-1)) hx hb hr (fun t ht hW => ⟨⟨(-1), (), rfl, (by decide), ⟨by rw [ht]; exact hP, hD⟩⟩, hS.F ht⟩) hS.2.2 dX1_letterOf_75
    · skip
      refine lv_tableIn (off := 73) (tgt := 74) hx hb dX1_letterOf_1 (by decide) (by decide) (by decide) (by decide) ?_
      refine lv_iconst (v := (-1)) hx hb dX1_letterOf_74 (by decide) ?_
      exact W.iret (v := (-1)) hx hb hr (fun t ht hW => ⟨⟨(-1), (), rfl, (by decide), ⟨by rw [ht]; exact hP, hD⟩⟩, hS.F ht⟩) hS.2.2 dX1_letterOf_75
    · skip
      refine lv_tableIn (off := 73) (tgt := 74) hx hb dX1_letterOf_1 (by decide) (by decide) (by decide) (by decide) ?_
      refine lv_iconst (v := (-1)) hx hb dX1_letterOf_74 (by decide) ?_
      exact W.iret (v := (-1)) hx hb hr (fun t ht hW => ⟨⟨(-1), (), rfl, (by decide), ⟨by rw [ht]; exact hP, hD⟩⟩, hS.F ht⟩) hS.2.2 dX1_letterOf_75
    · skip
      refine lv_tableIn (off := 63) (tgt := 64) hx hb dX1_letterOf_1 (by decide) (by decide) (by decide) (by decide) ?_
      refine lv_iconst (v := 0) hx hb dX1_letterOf_64 (by decide) ?_
      exact W.iret (v := 0) hx hb hr (fun t ht hW => ⟨⟨0, (), rfl, (by decide), ⟨by rw [ht]; exact hP, hD⟩⟩, hS.F ht⟩) hS.2.2 dX1_letterOf_65
    · skip
      refine lv_tableIn (off := 71) (tgt := 72) hx hb dX1_letterOf_1 (by decide) (by decide) (by decide) (by decide) ?_
      refine lv_iconst (v := 4) hx hb dX1_letterOf_72 (by decide) ?_
      exact W.iret (v := 4) hx hb hr (fun t ht hW => ⟨⟨4, (), rfl, (by decide), ⟨by rw [ht]; exact hP, hD⟩⟩, hS.F ht⟩) hS.2.2 dX1_letterOf_73
    · skip
      refine lv_tableIn (off := 73) (tgt := 74) hx hb dX1_letterOf_1 (by decide) (by decide) (by decide) (by decide) ?_
      refine lv_iconst (v := (-1)) hx hb dX1_letterOf_74 (by decide) ?_
      exact W.iret (v := (-1)) hx hb hr (fun t ht hW => ⟨⟨(-1), (), rfl, (by decide), ⟨by rw [ht]; exact hP, hD⟩⟩, hS.F ht⟩) hS.2.2 dX1_letterOf_75
    · skip
      refine lv_tableIn (off := 73) (tgt := 74) hx hb dX1_letterOf_1 (by decide) (by decide) (by decide) (by decide) ?_
      refine lv_iconst (v := (-1)) hx hb dX1_letterOf_74 (by decide) ?_
      exact W.iret (v := (-1)) hx hb hr (fun t ht hW => ⟨⟨(-1), (), rfl, (by decide), ⟨by rw [ht]; exact hP, hD⟩⟩, hS.F ht⟩) hS.2.2 dX1_letterOf_75
    · skip
      refine lv_tableIn (off := 73) (tgt := 74) hx hb dX1_letterOf_1 (by decide) (by decide) (by decide) (by decide) ?_
      refine lv_iconst (v := (-1)) hx hb dX1_letterOf_74 (by decide) ?_
      exact W.iret (v := (-1)) hx hb hr (fun t ht hW => ⟨⟨(-1), (), rfl, (by decide), ⟨by rw [ht]; exact hP, hD⟩⟩, hS.F ht⟩) hS.2.2 dX1_letterOf_75
    · skip
      refine lv_tableIn (off := 67) (tgt := 68) hx hb dX1_letterOf_1 (by decide) (by decide) (by decide) (by decide) ?_
      refine lv_iconst (v := 2) hx hb dX1_letterOf_68 (by decide) ?_
      exact W.iret (v := 2) hx hb hr (fun t ht hW => ⟨⟨2, (), rfl, (by decide), ⟨by rw [ht]; exact hP, hD⟩⟩, hS.F ht⟩) hS.2.2 dX1_letterOf_69
set_option maxHeartbeats 4000000 in
set_option maxRecDepth 100000 in
theorem c_X1_parseNumber (l : Launch) (dC : Nat → ClassId) (dI : Nat → Nat → Nat) (k : Nat → ClassId) (a : Nat → Nat) (z : ZS) (sz : Nat) (ha : 0 ≤ (z.1 0).toInt ∧ (z.1 0).toInt ≤ 1000) : Met l yX1_parseNumber (wz yX1_parseNumber cX1_parseNumber 3 (some .int)) ({ frames := 2, cells := 0, slots := 0, locals := 43 }) (va_Pc [.ref (a 0)] (zPre dC dI k (zTX k) (zD k a z) sz)) (va_Qi (fun (r : Int32) (u : Int32) => ((u.toInt = (z.1 0).toInt + nC (bX (z.1 1) (z.2.2.1 0)) (z.1 0).toInt) ∧ (¬ nC (bX (z.1 1) (z.2.2.1 0)) (z.1 0).toInt = 0) ∧ (r.toInt = nV (bX (z.1 1) (z.2.2.1 0)) (z.1 0).toInt)) ∨ (r = (-1) ∧ (u = z.1 0) ∧ (nC (bX (z.1 1) (z.2.2.1 0)) (z.1 0).toInt = 0))) (fun u t => zPost dC dI (va_A (zD k a z) sz) (zD k a (sI z 0 u)) t) (va_A (zD k a z) sz)) 0 0 (va_A (zD k a z) sz) := by
  refine Met.ofW (cc := cX1_parseNumber) (maxL := 3) (ret := (some .int)) (by decide) rfl ?_
  intro p e s m args below meth c s₁ B hml hv
  obtain ⟨rfl, hsz, hP, hK, hD0⟩ := hv
  have hx := B.exec
  have hb := B.bytes
  have hr := B.returns
  have hts := atoms_spec (ws := wz yX1_parseNumber cX1_parseNumber 3 (some .int)) B.pre
  have htb : ∀ w ∈ zw, w.before _ s = true := fun w h => hts w (List.mem_cons_of_mem _ h)
  have hown : s.vm.findClass RX1 = some m.cls := findClass_of_methodNamed B.named
  have hlocks := B.notSynchronized
  clear hts
  subst hsz
  have hD := hD0.self (sz := s.heap.size)
  generalize hAe : va_A (zD k a z) s.heap.size = A at hD ⊢
  have hA : ∀ q : Nat, s.heap.size ≤ q → A q := fun q h => by rw [← hAe]; exact Or.inr h
  have hDa : ∀ z9 : ZS, va_D A (zD k a z9) := fun z9 => va_D_adr (w := zD k a z) rfl hD
  have hl := lv_entry ([.ref (a 0)]) (n := 3) (Nat.le_of_ble_eq_true rfl)
  rw [lg_entry_eq]
  generalize (lg_sl ([.ref (a 0)]) ++ List.replicate (3 - (lg_sl ([.ref (a 0)])).length) Slot.unset).toArray = ls at hl ⊢
  have hl : lv_has ls 3 [(0, .ref (a 0))] := hl
  refine z_start2 (A := A) (w := (zD k a z)) hP (fun H locs hP hS => ?_)
  clear hD0 hAe
  refine lv_aload_n hx hb dX1_parseNumber_0 rfl (lv_at hl 0 rfl) ?_
  refine lv_aload_n hx hb dX1_parseNumber_1 rfl (lv_at hl 0 rfl) ?_
  refine va_get (D := (dC, dI)) (ci := 1) (v := .int (z.1 0)) (C := RX1) (T := TX1) (N := 9) hx hb htb inw1 hown hK.1 hP 0 rfl rfl 3 (by decide) (htb _ wmt1_121) (fun _ h9 => h9) rfl dX1_parseNumber_2 ?_
  refine lv_topi (fun x_1 ex_1 => ?_)
  have hx_1 : x_1.toInt = (z.1 0).toInt := by rw [ex_1]
  refine zcA_i (w := (zD k a z)) (va_runV (As := [.int x_1]) (rest := []) ⟨hx, hb, hml, hown, htb⟩ (c_X1_figureAt l dC dI k a z x_1 _ ) (cwV 1 htb (gzV wmt2_4 wmt2_6 wmp1_4 wmt1_6 wmt2_7) rfl rfl rfl (by decide +kernel) ⟨Nat.le_of_ble_eq_true rfl, Nat.le_of_ble_eq_true rfl⟩) (zpA_V (ci := 1) (q0 := 0) hK hP (hDa _) rfl rfl) rfl rfl hl.1 rfl (lv_room (Nat.le_of_ble_eq_true rfl)) dX1_parseNumber_5 ⟨Nat.le_of_ble_eq_true rfl, Nat.le_of_ble_eq_true rfl⟩) (hDa _) hS hA (fun r_2 u_3 H locs w_4 hP _ hS => ?_)
  rcases w_4 with ⟨h_5, h_6⟩ | ⟨e_9, h_8⟩
  · skip
    replace h_5 : 48 ≤ bX ((z.1 1)) ((z.2.2.1 0)) x_1.toInt ∧ bX ((z.1 1)) ((z.2.2.1 0)) x_1.toInt ≤ 57 := h_5
    replace h_6 : r_2.toInt = bX ((z.1 1)) ((z.2.2.1 0)) x_1.toInt - 48 := h_6
    have hf1 : 48 ≤ bX (z.1 1) (z.2.2.1 0) ((z.1 0).toInt) ∧ bX (z.1 1) (z.2.2.1 0) ((z.1 0).toInt) ≤ 57 := by have q := h_5; rw [show x_1.toInt = (z.1 0).toInt by omega] at q; exact q
    have hg1 : r_2.toInt = bX (z.1 1) (z.2.2.1 0) ((z.1 0).toInt) - 48 := by have q := h_6; rw [show x_1.toInt = (z.1 0).toInt by omega] at q; exact q
    refine lv_istore_n (lv' := [(1, .int r_2), (0, .ref (a 0))]) hx hb dX1_parseNumber_8 rfl hl (by decide) rfl (fun ls hl => ?_)
    refine lv_iload_n hx hb dX1_parseNumber_9 rfl (lv_at hl 0 rfl) ?_
    refine lv_iconst (v := (-1)) hx hb dX1_parseNumber_10 (by decide) ?_
    refine lv_icmp_ne (tgt := 16) hx hb dX1_parseNumber_11 (by decide) (fun c_10 => ?_) (fun c_10 => ?_)
    · skip
      have hc_10 := zb_ne rfl (show ((-1) : Int32).toInt = (-1) by decide) c_10
      refine lv_aload_n hx hb dX1_parseNumber_16 rfl (lv_at hl 1 rfl) ?_
      refine lv_dup hx hb dX1_parseNumber_17 rfl ?_
      refine va_get (D := (dC, dI)) (ci := 1) (v := .int (z.1 0)) (C := RX1) (T := TX1) (N := 9) hx hb htb inw1 hown hK.1 hP 0 rfl rfl 3 (by decide) (htb _ wmt1_121) (fun _ h9 => h9) rfl dX1_parseNumber_18 ?_
      refine z_top (v2 := .int x_1) (congrArg Value.int ex_1.symm) ?_
      refine lv_iconst (v := 1) hx hb dX1_parseNumber_21 (by decide) ?_
      refine lv_iadd hx hb dX1_parseNumber_22 ?_
      refine lv_topi (fun x_11 ex_11 => ?_)
      have hx_11 := z_add ex_11 rfl (show (1 : Int32).toInt = 1 by decide) (by omega)
      refine va_put (D := (dC, dI)) (ci := 1) (v := .int x_11) (ty := .int) (C := RX1) (T := TX1) (N := 9) hx hb htb inw1 tyX1 tyX1_ok nmX1 hown hK.1 hP (hDa _) hS 0 rfl rfl 3 (by decide) (htb _ wmt1_121) (fun _ h9 => h9) rfl (by decide +kernel) rfl rfl (Nat.le_of_ble_eq_true rfl) dX1_parseNumber_23 (fun H locs hP _ hS => ?_)
      have hP : va_P (dC, dI) vwCl (zD k a (sI z 0 x_11)) H := hP
      refine lv_aload_n hx hb dX1_parseNumber_26 rfl (lv_at hl 1 rfl) ?_
      refine lv_aload_n hx hb dX1_parseNumber_27 rfl (lv_at hl 1 rfl) ?_
      refine va_get (D := (dC, dI)) (ci := 1) (v := .int x_11) (C := RX1) (T := TX1) (N := 9) hx hb htb inw1 hown hK.1 hP 0 rfl rfl 3 (by decide) (htb _ wmt1_121) (fun _ h9 => h9) rfl dX1_parseNumber_28 ?_
      refine zcA_i (w := (zD k a (sI z 0 x_11))) (va_runV (As := [.int x_11]) (rest := []) ⟨hx, hb, hml, hown, htb⟩ (c_X1_figureAt l dC dI k a (sI z 0 x_11) x_11 _ ) (cwV 1 htb (gzV wmt2_4 wmt2_6 wmp1_4 wmt1_6 wmt2_7) rfl rfl rfl (by decide +kernel) ⟨Nat.le_of_ble_eq_true rfl, Nat.le_of_ble_eq_true rfl⟩) (zpA_V (ci := 1) (q0 := 0) hK hP (hDa _) rfl rfl) rfl rfl hl.1 rfl (lv_room (Nat.le_of_ble_eq_true rfl)) dX1_parseNumber_31 ⟨Nat.le_of_ble_eq_true rfl, Nat.le_of_ble_eq_true rfl⟩) (hDa _) hS hA (fun r_12 u_13 H locs w_14 hP _ hS => ?_)
      rcases w_14 with ⟨h_15, h_16⟩ | ⟨e_19, h_18⟩
      · skip
        replace h_15 : 48 ≤ bX ((z.1 1)) ((z.2.2.1 0)) x_11.toInt ∧ bX ((z.1 1)) ((z.2.2.1 0)) x_11.toInt ≤ 57 := h_15
        replace h_16 : r_12.toInt = bX ((z.1 1)) ((z.2.2.1 0)) x_11.toInt - 48 := h_16
        have hf2 : 48 ≤ bX (z.1 1) (z.2.2.1 0) ((z.1 0).toInt + 1) ∧ bX (z.1 1) (z.2.2.1 0) ((z.1 0).toInt + 1) ≤ 57 := by have q := h_15; rw [show x_11.toInt = ((z.1 0).toInt + 1) by omega] at q; exact q
        have hg2 : r_12.toInt = bX (z.1 1) (z.2.2.1 0) ((z.1 0).toInt + 1) - 48 := by have q := h_16; rw [show x_11.toInt = ((z.1 0).toInt + 1) by omega] at q; exact q
        refine lv_istore_n (lv' := [(2, .int r_12), (1, .int r_2), (0, .ref (a 0))]) hx hb dX1_parseNumber_34 rfl hl (by decide) rfl (fun ls hl => ?_)
        refine lv_iload_n hx hb dX1_parseNumber_35 rfl (lv_at hl 0 rfl) ?_
        refine lv_iconst (v := (-1)) hx hb dX1_parseNumber_36 (by decide) ?_
        refine lv_icmp_ne (tgt := 42) hx hb dX1_parseNumber_37 (by decide) (fun c_20 => ?_) (fun c_20 => ?_)
        · skip
          have hc_20 := zb_ne rfl (show ((-1) : Int32).toInt = (-1) by decide) c_20
          refine lv_aload_n hx hb dX1_parseNumber_42 rfl (lv_at hl 2 rfl) ?_
          refine lv_dup hx hb dX1_parseNumber_43 rfl ?_
          refine va_get (D := (dC, dI)) (ci := 1) (v := .int x_11) (C := RX1) (T := TX1) (N := 9) hx hb htb inw1 hown hK.1 hP 0 rfl rfl 3 (by decide) (htb _ wmt1_121) (fun _ h9 => h9) rfl dX1_parseNumber_44 ?_
          refine lv_iconst (v := 1) hx hb dX1_parseNumber_47 (by decide) ?_
          refine lv_iadd hx hb dX1_parseNumber_48 ?_
          refine lv_topi (fun x_21 ex_21 => ?_)
          have hx_21 := z_add ex_21 rfl (show (1 : Int32).toInt = 1 by decide) (by omega)
          refine va_put (D := (dC, dI)) (ci := 1) (v := .int x_21) (ty := .int) (C := RX1) (T := TX1) (N := 9) hx hb htb inw1 tyX1 tyX1_ok nmX1 hown hK.1 hP (hDa _) hS 0 rfl rfl 3 (by decide) (htb _ wmt1_121) (fun _ h9 => h9) rfl (by decide +kernel) rfl rfl (Nat.le_of_ble_eq_true rfl) dX1_parseNumber_49 (fun H locs hP _ hS => ?_)
          have hP : va_P (dC, dI) vwCl (zD k a (sI z 0 x_21)) H := hP
          refine lv_iload_n hx hb dX1_parseNumber_52 rfl (lv_at hl 1 rfl) ?_
          refine lv_bipush (v := 10) hx hb dX1_parseNumber_53 (by decide) ?_
          refine lv_imul hx hb dX1_parseNumber_55 ?_
          refine lv_topi (fun x_22 ex_22 => ?_)
          have hx_22 := z_mul ex_22 rfl (show (10 : Int32).toInt = 10 by decide) (by omega)
          refine lv_iload_n hx hb dX1_parseNumber_56 rfl (lv_at hl 0 rfl) ?_
          refine lv_iadd hx hb dX1_parseNumber_57 ?_
          refine lv_topi (fun x_23 ex_23 => ?_)
          have hx_23 := z_add ex_23 rfl rfl (by omega)
          exact W.iret (v := x_23) hx hb hr (fun t ht hW => ⟨⟨x_23, x_21, rfl, (show ((x_21.toInt = (z.1 0).toInt + nC (bX (z.1 1) (z.2.2.1 0)) (z.1 0).toInt) ∧ (¬ nC (bX (z.1 1) (z.2.2.1 0)) (z.1 0).toInt = 0) ∧ (x_23.toInt = nV (bX (z.1 1) (z.2.2.1 0)) (z.1 0).toInt)) ∨ (x_23 = (-1) ∧ (x_21 = z.1 0) ∧ (nC (bX (z.1 1) (z.2.2.1 0)) (z.1 0).toInt = 0)) from (Or.inl ⟨by have q := nC_2 hf1 hf2; omega, by have q := nC_2 hf1 hf2; omega, by have q := nC_2 hf1 hf2; omega⟩)), ⟨by rw [ht]; exact hP, hDa _⟩⟩, hS.F ht⟩) hS.2.2 dX1_parseNumber_58
        · skip
          have hc_20 := zb_eq rfl (show ((-1) : Int32).toInt = (-1) by decide) c_20
          exfalso; omega
      · skip
        replace e_19 : r_12 = (-1) := e_19
        subst e_19
        replace h_18 : ¬ (48 ≤ bX ((z.1 1)) ((z.2.2.1 0)) x_11.toInt ∧ bX ((z.1 1)) ((z.2.2.1 0)) x_11.toInt ≤ 57) := h_18
        have hf2 : ¬ (48 ≤ bX (z.1 1) (z.2.2.1 0) ((z.1 0).toInt + 1) ∧ bX (z.1 1) (z.2.2.1 0) ((z.1 0).toInt + 1) ≤ 57) := by have q := h_18; rw [show x_11.toInt = ((z.1 0).toInt + 1) by omega] at q; exact q
        refine lv_istore_n (lv' := [(2, .int (-1)), (1, .int r_2), (0, .ref (a 0))]) hx hb dX1_parseNumber_34 rfl hl (by decide) rfl (fun ls hl => ?_)
        refine lv_iload_n hx hb dX1_parseNumber_35 rfl (lv_at hl 0 rfl) ?_
        refine lv_iconst (v := (-1)) hx hb dX1_parseNumber_36 (by decide) ?_
        refine lv_icmp_ne (tgt := 42) hx hb dX1_parseNumber_37 (by decide) (fun c_24 => ?_) (fun c_24 => ?_)
        · skip
          exact absurd c_24 (by decide)
        · skip
          refine lv_iload_n hx hb dX1_parseNumber_40 rfl (lv_at hl 1 rfl) ?_
          exact W.iret (v := r_2) hx hb hr (fun t ht hW => ⟨⟨r_2, x_11, rfl, (show ((x_11.toInt = (z.1 0).toInt + nC (bX (z.1 1) (z.2.2.1 0)) (z.1 0).toInt) ∧ (¬ nC (bX (z.1 1) (z.2.2.1 0)) (z.1 0).toInt = 0) ∧ (r_2.toInt = nV (bX (z.1 1) (z.2.2.1 0)) (z.1 0).toInt)) ∨ (r_2 = (-1) ∧ (x_11 = z.1 0) ∧ (nC (bX (z.1 1) (z.2.2.1 0)) (z.1 0).toInt = 0)) from (Or.inl ⟨by have q := nC_1 hf1 hf2; omega, by have q := nC_1 hf1 hf2; omega, by have q := nC_1 hf1 hf2; omega⟩)), ⟨by rw [ht]; exact hP, hDa _⟩⟩, hS.F ht⟩) hS.2.2 dX1_parseNumber_41
    · skip
      have hc_10 := zb_eq rfl (show ((-1) : Int32).toInt = (-1) by decide) c_10
      exfalso; omega
  · skip
    replace e_9 : r_2 = (-1) := e_9
    subst e_9
    replace h_8 : ¬ (48 ≤ bX ((z.1 1)) ((z.2.2.1 0)) x_1.toInt ∧ bX ((z.1 1)) ((z.2.2.1 0)) x_1.toInt ≤ 57) := h_8
    have hf1 : ¬ (48 ≤ bX (z.1 1) (z.2.2.1 0) ((z.1 0).toInt) ∧ bX (z.1 1) (z.2.2.1 0) ((z.1 0).toInt) ≤ 57) := by have q := h_8; rw [show x_1.toInt = (z.1 0).toInt by omega] at q; exact q
    refine lv_istore_n (lv' := [(1, .int (-1)), (0, .ref (a 0))]) hx hb dX1_parseNumber_8 rfl hl (by decide) rfl (fun ls hl => ?_)
    refine lv_iload_n hx hb dX1_parseNumber_9 rfl (lv_at hl 0 rfl) ?_
    refine lv_iconst (v := (-1)) hx hb dX1_parseNumber_10 (by decide) ?_
    refine lv_icmp_ne (tgt := 16) hx hb dX1_parseNumber_11 (by decide) (fun c_25 => ?_) (fun c_25 => ?_)
    · skip
      exact absurd c_25 (by decide)
    · skip
      refine lv_iconst (v := (-1)) hx hb dX1_parseNumber_14 (by decide) ?_
      exact W.iret (v := (-1)) hx hb hr (fun t ht hW => ⟨⟨(-1), (z.1 0), rfl, (show (((z.1 0).toInt = (z.1 0).toInt + nC (bX (z.1 1) (z.2.2.1 0)) (z.1 0).toInt) ∧ (¬ nC (bX (z.1 1) (z.2.2.1 0)) (z.1 0).toInt = 0) ∧ (((-1) : Int32).toInt = nV (bX (z.1 1) (z.2.2.1 0)) (z.1 0).toInt)) ∨ (((-1) : Int32) = (-1) ∧ ((z.1 0) = z.1 0) ∧ (nC (bX (z.1 1) (z.2.2.1 0)) (z.1 0).toInt = 0)) from (Or.inr ⟨rfl, rfl, (nC_0 hf1).1⟩)), ⟨by rw [ht]; exact hP, hDa _⟩⟩, hS.F ht⟩) hS.2.2 dX1_parseNumber_15
set_option maxHeartbeats 4000000 in
set_option maxRecDepth 100000 in
theorem c_X1_parsePart (l : Launch) (dC : Nat → ClassId) (dI : Nat → Nat → Nat) (k : Nat → ClassId) (a : Nat → Nat) (z : ZS) (Mb : Int) (sz : Nat) (ha : 0 ≤ (z.1 0).toInt ∧ (z.1 0).toInt ≤ 900) (hsb : SB (z.2.2.2 0) Mb) (hMb : Mb ≤ 13967553600) (hcm : 0 ≤ (z.2.1 0).toInt ∧ (z.2.1 0).toInt ≤ 232792560) : Met l yX1_parsePart (wz yX1_parsePart cX1_parsePart 8 (some .int)) ({ frames := 3, cells := 0, slots := 0, locals := 65 }) (va_Pc [.ref (a 0)] (zPre dC dI k (zTX k) (zD k a z) sz)) (va_Qi (fun (r : Int32) (u : Int32 × Int64 × (Nat → Int64)) => (r.toInt = pX (bX (z.1 1) (z.2.2.1 0)) (z.1 0).toInt) ∧ (r.toInt = -1 → u.1.toInt = a3 (bX (z.1 1) (z.2.2.1 0)) (z.1 0).toInt ∧ acX u.2.2 u.2.1 = acU (acX (z.2.2.2 0) (z.2.1 0)) (lT (bX (z.1 1) (z.2.2.1 0) (z.1 0).toInt)) (nV (bX (z.1 1) (z.2.2.1 0)) ((z.1 0).toInt + 1)) (nV (bX (z.1 1) (z.2.2.1 0)) (a2 (bX (z.1 1) (z.2.2.1 0)) (z.1 0).toInt + 1)) ∧ SB u.2.2 (Mb + 232792560) ∧ (0 ≤ u.2.1.toInt ∧ u.2.1.toInt ≤ 232792560))) (fun u t => zPost dC dI (va_A (zD k a z) sz) (zD k a (sL (sJ (sI z 0 u.1) 0 u.2.1) 0 u.2.2)) t) (va_A (zD k a z) sz)) 0 0 (va_A (zD k a z) sz) := by
  refine Met.ofW (cc := cX1_parsePart) (maxL := 8) (ret := (some .int)) (by decide) rfl ?_
  intro p e s m args below meth c s₁ B hml hv
  obtain ⟨rfl, hsz, hP, hK, hD0⟩ := hv
  have hx := B.exec
  have hb := B.bytes
  have hr := B.returns
  have hts := atoms_spec (ws := wz yX1_parsePart cX1_parsePart 8 (some .int)) B.pre
  have htb : ∀ w ∈ zw, w.before _ s = true := fun w h => hts w (List.mem_cons_of_mem _ h)
  have hown : s.vm.findClass RX1 = some m.cls := findClass_of_methodNamed B.named
  have hlocks := B.notSynchronized
  clear hts
  subst hsz
  have hD := hD0.self (sz := s.heap.size)
  generalize hAe : va_A (zD k a z) s.heap.size = A at hD ⊢
  have hA : ∀ q : Nat, s.heap.size ≤ q → A q := fun q h => by rw [← hAe]; exact Or.inr h
  have hDa : ∀ z9 : ZS, va_D A (zD k a z9) := fun z9 => va_D_adr (w := zD k a z) rfl hD
  have hl := lv_entry ([.ref (a 0)]) (n := 8) (Nat.le_of_ble_eq_true rfl)
  rw [lg_entry_eq]
  generalize (lg_sl ([.ref (a 0)]) ++ List.replicate (8 - (lg_sl ([.ref (a 0)])).length) Slot.unset).toArray = ls at hl ⊢
  have hl : lv_has ls 8 [(0, .ref (a 0))] := hl
  refine z_start2 (A := A) (w := (zD k a z)) hP (fun H locs hP hS => ?_)
  clear hD0 hAe
  refine lv_aload_n hx hb dX1_parsePart_0 rfl (lv_at hl 0 rfl) ?_
  refine lv_aload_n hx hb dX1_parsePart_1 rfl (lv_at hl 0 rfl) ?_
  refine va_get (D := (dC, dI)) (ci := 1) (v := .int (z.1 0)) (C := RX1) (T := TX1) (N := 9) hx hb htb inw1 hown hK.1 hP 0 rfl rfl 3 (by decide) (htb _ wmt1_121) (fun _ h9 => h9) rfl dX1_parsePart_2 ?_
  refine lv_topi (fun x_1 ex_1 => ?_)
  have hx_1 : x_1.toInt = (z.1 0).toInt := by rw [ex_1]
  refine zcA_i (w := (zD k a z)) (va_runV (As := [.int x_1]) (rest := []) ⟨hx, hb, hml, hown, htb⟩ (c_X1_byteAt l dC dI k a z x_1 _ ) (cwV 1 htb (gzV wmt1_233 wmt1_235 wmp1_2 wmt1_6 wmt1_236) rfl rfl rfl (by decide +kernel) ⟨Nat.le_of_ble_eq_true rfl, Nat.le_of_ble_eq_true rfl⟩) (zpA_V (ci := 1) (q0 := 0) hK hP (hDa _) rfl rfl) rfl rfl hl.1 rfl (lv_room (Nat.le_of_ble_eq_true rfl)) dX1_parsePart_5 ⟨Nat.le_of_ble_eq_true rfl, Nat.le_of_ble_eq_true rfl⟩) (hDa _) hS hA (fun r_2 u_3 H locs w_4 hP _ hS => ?_)
  have h_5 := w_4
  replace h_5 : r_2.toInt = bX ((z.1 1)) ((z.2.2.1 0)) x_1.toInt := h_5
  have hby0 : r_2.toInt = bX (z.1 1) (z.2.2.1 0) (z.1 0).toInt := by have q := h_5; rw [show x_1.toInt = (z.1 0).toInt by omega] at q; exact q
  refine zc0_i (w := (zD k a z)) (va_runS (As := [.int r_2]) (rest := []) ⟨hx, hb, hml, hown, htb⟩ (c_X1_letterOf l dC dI k r_2 _ ) (va_cwS 1 htb (gzS wmt1_237 wmt1_238 wmt1_6 wmt1_239) rfl rfl rfl (by decide +kernel) ⟨Nat.le_of_ble_eq_true rfl, Nat.le_of_ble_eq_true rfl⟩) (zp0_S hK) rfl rfl hl.1 rfl (lv_room (Nat.le_of_ble_eq_true rfl)) dX1_parsePart_8 ⟨Nat.le_of_ble_eq_true rfl, Nat.le_of_ble_eq_true rfl⟩) hP hS hA (fun r_7 u_8 H locs w_9 hP hS => ?_)
  have h_10 := w_9
  replace h_10 : r_7.toInt = lT r_2.toInt := h_10
  have hlt : r_7.toInt = lT (bX (z.1 1) (z.2.2.1 0) (z.1 0).toInt) := by have q := h_10; rw [hby0] at q; exact q
  have hltb := lT_b (x := bX (z.1 1) (z.2.2.1 0) (z.1 0).toInt)
  refine lv_istore_n (lv' := [(1, .int r_7), (0, .ref (a 0))]) hx hb dX1_parsePart_11 rfl hl (by decide) rfl (fun ls hl => ?_)
  refine lv_iload_n hx hb dX1_parsePart_12 rfl (lv_at hl 0 rfl) ?_
  refine lv_iconst (v := (-1)) hx hb dX1_parsePart_13 (by decide) ?_
  refine lv_icmp_ne (tgt := 22) hx hb dX1_parsePart_14 (by decide) (fun c_12 => ?_) (fun c_12 => ?_)
  · skip
    have hc_12 := zb_ne rfl (show ((-1) : Int32).toInt = (-1) by decide) c_12
    refine lv_aload_n hx hb dX1_parsePart_22 rfl (lv_at hl 1 rfl) ?_
    refine va_get (D := (dC, dI)) (ci := 1) (v := .int (z.1 0)) (C := RX1) (T := TX1) (N := 9) hx hb htb inw1 hown hK.1 hP 0 rfl rfl 3 (by decide) (htb _ wmt1_121) (fun _ h9 => h9) rfl dX1_parsePart_23 ?_
    refine z_top (v2 := .int x_1) (congrArg Value.int ex_1.symm) ?_
    refine lv_iconst (v := 1) hx hb dX1_parsePart_26 (by decide) ?_
    refine lv_iadd hx hb dX1_parsePart_27 ?_
    refine lv_topi (fun x_13 ex_13 => ?_)
    have hx_13 := z_add ex_13 rfl (show (1 : Int32).toInt = 1 by decide) (by omega)
    refine lv_istore_n (lv' := [(2, .int x_13), (1, .int r_7), (0, .ref (a 0))]) hx hb dX1_parsePart_28 rfl hl (by decide) rfl (fun ls hl => ?_)
    refine lv_aload_n hx hb dX1_parsePart_29 rfl (lv_at hl 2 rfl) ?_
    refine lv_iload_n hx hb dX1_parsePart_30 rfl (lv_at hl 0 rfl) ?_
    refine va_put (D := (dC, dI)) (ci := 1) (v := .int x_13) (ty := .int) (C := RX1) (T := TX1) (N := 9) hx hb htb inw1 tyX1 tyX1_ok nmX1 hown hK.1 hP (hDa _) hS 0 rfl rfl 3 (by decide) (htb _ wmt1_121) (fun _ h9 => h9) rfl (by decide +kernel) rfl rfl (Nat.le_of_ble_eq_true rfl) dX1_parsePart_31 (fun H locs hP _ hS => ?_)
    have hP : va_P (dC, dI) vwCl (zD k a (sI z 0 x_13)) H := hP
    refine lv_aload_n hx hb dX1_parsePart_34 rfl (lv_at hl 2 rfl) ?_
    refine zcA_i (w := (zD k a (sI z 0 x_13))) (va_runV (As := []) (rest := []) ⟨hx, hb, hml, hown, htb⟩ (c_X1_parseNumber l dC dI k a (sI z 0 x_13) _ (show 0 ≤ x_13.toInt ∧ x_13.toInt ≤ 1000 by omega)) (cwV 0 htb (gzV wmt2_0 wmt2_2 wmp1_3 wmt1_6 wmt2_3) rfl rfl rfl (by decide +kernel) ⟨Nat.le_of_ble_eq_true rfl, Nat.le_of_ble_eq_true rfl⟩) (zpA_V (ci := 1) (q0 := 0) hK hP (hDa _) rfl rfl) rfl rfl hl.1 rfl (lv_room (Nat.le_of_ble_eq_true rfl)) dX1_parsePart_35 ⟨Nat.le_of_ble_eq_true rfl, Nat.le_of_ble_eq_true rfl⟩) (hDa _) hS hA (fun r_14 u_15 H locs w_16 hP _ hS => ?_)
    obtain ⟨oat_17, rfl⟩ : ∃ y, y = u_15 := ⟨_, rfl⟩
    have hP : va_P (dC, dI) vwCl (zD k a (sI z 0 oat_17)) H := hP
    rcases w_16 with ⟨h_18, h_19, h_20⟩ | ⟨e_24, h_22, h_23⟩
    · skip
      replace h_18 : oat_17.toInt = (x_13).toInt + nC (bX ((z.1 1)) ((z.2.2.1 0))) (x_13).toInt := h_18
      replace h_19 : ¬ nC (bX ((z.1 1)) ((z.2.2.1 0))) (x_13).toInt = 0 := h_19
      replace h_20 : r_14.toInt = nV (bX ((z.1 1)) ((z.2.2.1 0))) (x_13).toInt := h_20
      have hoa1 : oat_17.toInt = ((z.1 0).toInt + 1) + nC (bX (z.1 1) (z.2.2.1 0)) ((z.1 0).toInt + 1) := by have q := h_18; rw [show x_13.toInt = ((z.1 0).toInt + 1) by omega] at q; exact q
      have hnc1 : ¬ nC (bX (z.1 1) (z.2.2.1 0)) ((z.1 0).toInt + 1) = 0 := by have q := h_19; rw [show x_13.toInt = ((z.1 0).toInt + 1) by omega] at q; exact q
      have hnv1 : r_14.toInt = nV (bX (z.1 1) (z.2.2.1 0)) ((z.1 0).toInt + 1) := by have q := h_20; rw [show x_13.toInt = ((z.1 0).toInt + 1) by omega] at q; exact q
      have hcb1 := nC_b (B := bX (z.1 1) (z.2.2.1 0)) (a := ((z.1 0).toInt + 1))
      refine lv_istore_n (lv' := [(3, .int r_14), (2, .int x_13), (1, .int r_7), (0, .ref (a 0))]) hx hb dX1_parsePart_38 rfl hl (by decide) rfl (fun ls hl => ?_)
      refine lv_iload_n hx hb dX1_parsePart_39 rfl (lv_at hl 0 rfl) ?_
      refine lv_bipush (v := 20) hx hb dX1_parsePart_40 (by decide) ?_
      refine lv_icmp_le (tgt := 47) hx hb dX1_parsePart_42 (by decide) (fun c_25 => ?_) (fun c_25 => ?_)
      · skip
        have hc_25 := zb_le rfl (show (20 : Int32).toInt = 20 by decide) c_25
        refine lv_iload_n hx hb dX1_parsePart_47 rfl (lv_at hl 0 rfl) ?_
        refine lv_iconst (v := (-1)) hx hb dX1_parsePart_48 (by decide) ?_
        refine lv_icmp_eq (tgt := 65) hx hb dX1_parsePart_49 (by decide) (fun c_26 => ?_) (fun c_26 => ?_)
        · skip
          have hc_26 := zb_eq rfl (show ((-1) : Int32).toInt = (-1) by decide) c_26
          refine lv_aload_n hx hb dX1_parsePart_65 rfl (lv_at hl 3 rfl) ?_
          refine va_get (D := (dC, dI)) (ci := 1) (v := .int oat_17) (C := RX1) (T := TX1) (N := 9) hx hb htb inw1 hown hK.1 hP 0 rfl rfl 3 (by decide) (htb _ wmt1_121) (fun _ h9 => h9) rfl dX1_parsePart_66 ?_
          exact W.iret (v := oat_17) hx hb hr (fun t ht hW => ⟨⟨oat_17, (oat_17, z.2.1 0, z.2.2.2 0), rfl, (show (oat_17.toInt = pX (bX (z.1 1) (z.2.2.1 0)) (z.1 0).toInt) ∧ (oat_17.toInt = -1 → oat_17.toInt = a3 (bX (z.1 1) (z.2.2.1 0)) (z.1 0).toInt ∧ acX (z.2.2.2 0) (z.2.1 0) = acU (acX (z.2.2.2 0) (z.2.1 0)) (lT (bX (z.1 1) (z.2.2.1 0) (z.1 0).toInt)) (nV (bX (z.1 1) (z.2.2.1 0)) ((z.1 0).toInt + 1)) (nV (bX (z.1 1) (z.2.2.1 0)) (a2 (bX (z.1 1) (z.2.2.1 0)) (z.1 0).toInt + 1)) ∧ SB (z.2.2.2 0) (Mb + 232792560) ∧ (0 ≤ (z.2.1 0).toInt ∧ (z.2.1 0).toInt ≤ 232792560)) from ⟨by rw [pX_3 (by omega) (show ¬ (nC (bX (z.1 1) (z.2.2.1 0)) ((z.1 0).toInt + 1) = 0 ∨ 20 < nV (bX (z.1 1) (z.2.2.1 0)) ((z.1 0).toInt + 1)) by omega) (by omega)]; unfold a2; omega, fun q9 => by omega⟩), ⟨by rw [ht]; exact hP, hDa _⟩⟩, hS.F ht⟩) hS.2.2 dX1_parsePart_69
        · skip
          have hc_26 := zb_ne rfl (show ((-1) : Int32).toInt = (-1) by decide) c_26
          refine lv_aload_n hx hb dX1_parsePart_52 rfl (lv_at hl 3 rfl) ?_
          refine lv_aload_n hx hb dX1_parsePart_53 rfl (lv_at hl 3 rfl) ?_
          refine va_get (D := (dC, dI)) (ci := 1) (v := .int oat_17) (C := RX1) (T := TX1) (N := 9) hx hb htb inw1 hown hK.1 hP 0 rfl rfl 3 (by decide) (htb _ wmt1_121) (fun _ h9 => h9) rfl dX1_parsePart_54 ?_
          refine zcA_i (w := (zD k a (sI z 0 oat_17))) (va_runV (As := [.int oat_17]) (rest := []) ⟨hx, hb, hml, hown, htb⟩ (c_X1_byteAt l dC dI k a (sI z 0 oat_17) oat_17 _ ) (cwV 1 htb (gzV wmt1_233 wmt1_235 wmp1_2 wmt1_6 wmt1_236) rfl rfl rfl (by decide +kernel) ⟨Nat.le_of_ble_eq_true rfl, Nat.le_of_ble_eq_true rfl⟩) (zpA_V (ci := 1) (q0 := 0) hK hP (hDa _) rfl rfl) rfl rfl hl.1 rfl (lv_room (Nat.le_of_ble_eq_true rfl)) dX1_parsePart_57 ⟨Nat.le_of_ble_eq_true rfl, Nat.le_of_ble_eq_true rfl⟩) (hDa _) hS hA (fun r_27 u_28 H locs w_29 hP _ hS => ?_)
          have h_30 := w_29
          replace h_30 : r_27.toInt = bX ((z.1 1)) ((z.2.2.1 0)) oat_17.toInt := h_30
          have hby2 : r_27.toInt = bX (z.1 1) (z.2.2.1 0) (a2 (bX (z.1 1) (z.2.2.1 0)) (z.1 0).toInt) := by have q := h_30; rw [show oat_17.toInt = a2 (bX (z.1 1) (z.2.2.1 0)) (z.1 0).toInt by unfold a2; omega] at q; exact q
          refine lv_bipush (v := 47) hx hb dX1_parsePart_60 (by decide) ?_
          refine lv_icmp_eq (tgt := 70) hx hb dX1_parsePart_62 (by decide) (fun c_32 => ?_) (fun c_32 => ?_)
          · skip
            have hc_32 := zb_eq rfl (show (47 : Int32).toInt = 47 by decide) c_32
            refine lv_aload_n hx hb dX1_parsePart_70 rfl (lv_at hl 3 rfl) ?_
            refine va_get (D := (dC, dI)) (ci := 1) (v := .int oat_17) (C := RX1) (T := TX1) (N := 9) hx hb htb inw1 hown hK.1 hP 0 rfl rfl 3 (by decide) (htb _ wmt1_121) (fun _ h9 => h9) rfl dX1_parsePart_71 ?_
            refine lv_iconst (v := 1) hx hb dX1_parsePart_74 (by decide) ?_
            refine lv_iadd hx hb dX1_parsePart_75 ?_
            refine lv_topi (fun x_33 ex_33 => ?_)
            have hx_33 := z_add ex_33 rfl (show (1 : Int32).toInt = 1 by decide) (by omega)
            refine lv_istore (lv' := [(4, .int x_33), (3, .int r_14), (2, .int x_13), (1, .int r_7), (0, .ref (a 0))]) hx hb dX1_parsePart_76 hl (by decide) rfl (fun ls hl => ?_)
            refine lv_aload_n hx hb dX1_parsePart_78 rfl (lv_at hl 4 rfl) ?_
            refine lv_iload hx hb dX1_parsePart_79 (lv_at hl 0 rfl) ?_
            refine va_put (D := (dC, dI)) (ci := 1) (v := .int x_33) (ty := .int) (C := RX1) (T := TX1) (N := 9) hx hb htb inw1 tyX1 tyX1_ok nmX1 hown hK.1 hP (hDa _) hS 0 rfl rfl 3 (by decide) (htb _ wmt1_121) (fun _ h9 => h9) rfl (by decide +kernel) rfl rfl (Nat.le_of_ble_eq_true rfl) dX1_parsePart_81 (fun H locs hP _ hS => ?_)
            have hP : va_P (dC, dI) vwCl (zD k a (sI z 0 x_33)) H := hP
            refine lv_aload_n hx hb dX1_parsePart_84 rfl (lv_at hl 4 rfl) ?_
            refine zcA_i (w := (zD k a (sI z 0 x_33))) (va_runV (As := []) (rest := []) ⟨hx, hb, hml, hown, htb⟩ (c_X1_parseNumber l dC dI k a (sI z 0 x_33) _ (show 0 ≤ x_33.toInt ∧ x_33.toInt ≤ 1000 by omega)) (cwV 0 htb (gzV wmt2_0 wmt2_2 wmp1_3 wmt1_6 wmt2_3) rfl rfl rfl (by decide +kernel) ⟨Nat.le_of_ble_eq_true rfl, Nat.le_of_ble_eq_true rfl⟩) (zpA_V (ci := 1) (q0 := 0) hK hP (hDa _) rfl rfl) rfl rfl hl.1 rfl (lv_room (Nat.le_of_ble_eq_true rfl)) dX1_parsePart_85 ⟨Nat.le_of_ble_eq_true rfl, Nat.le_of_ble_eq_true rfl⟩) (hDa _) hS hA (fun r_34 u_35 H locs w_36 hP _ hS => ?_)
            obtain ⟨oat_37, rfl⟩ : ∃ y, y = u_35 := ⟨_, rfl⟩
            have hP : va_P (dC, dI) vwCl (zD k a (sI z 0 oat_37)) H := hP
            rcases w_36 with ⟨h_38, h_39, h_40⟩ | ⟨e_44, h_42, h_43⟩
            · skip
              replace h_38 : oat_37.toInt = (x_33).toInt + nC (bX ((z.1 1)) ((z.2.2.1 0))) (x_33).toInt := h_38
              replace h_39 : ¬ nC (bX ((z.1 1)) ((z.2.2.1 0))) (x_33).toInt = 0 := h_39
              replace h_40 : r_34.toInt = nV (bX ((z.1 1)) ((z.2.2.1 0))) (x_33).toInt := h_40
              have hoa2 : oat_37.toInt = (a2 (bX (z.1 1) (z.2.2.1 0)) (z.1 0).toInt + 1) + nC (bX (z.1 1) (z.2.2.1 0)) (a2 (bX (z.1 1) (z.2.2.1 0)) (z.1 0).toInt + 1) := by have q := h_38; rw [show x_33.toInt = (a2 (bX (z.1 1) (z.2.2.1 0)) (z.1 0).toInt + 1) by unfold a2; omega] at q; exact q
              have hnc2 : ¬ nC (bX (z.1 1) (z.2.2.1 0)) (a2 (bX (z.1 1) (z.2.2.1 0)) (z.1 0).toInt + 1) = 0 := by have q := h_39; rw [show x_33.toInt = (a2 (bX (z.1 1) (z.2.2.1 0)) (z.1 0).toInt + 1) by unfold a2; omega] at q; exact q
              have hnv2 : r_34.toInt = nV (bX (z.1 1) (z.2.2.1 0)) (a2 (bX (z.1 1) (z.2.2.1 0)) (z.1 0).toInt + 1) := by have q := h_40; rw [show x_33.toInt = (a2 (bX (z.1 1) (z.2.2.1 0)) (z.1 0).toInt + 1) by unfold a2; omega] at q; exact q
              have hcb2 := nC_b (B := bX (z.1 1) (z.2.2.1 0)) (a := (a2 (bX (z.1 1) (z.2.2.1 0)) (z.1 0).toInt + 1))
              refine lv_istore (lv' := [(5, .int r_34), (4, .int x_33), (3, .int r_14), (2, .int x_13), (1, .int r_7), (0, .ref (a 0))]) hx hb dX1_parsePart_88 hl (by decide) rfl (fun ls hl => ?_)
              refine lv_iload hx hb dX1_parsePart_90 (lv_at hl 0 rfl) ?_
              refine lv_iconst (v := (-1)) hx hb dX1_parsePart_92 (by decide) ?_
              refine lv_icmp_eq (tgt := 115) hx hb dX1_parsePart_93 (by decide) (fun c_45 => ?_) (fun c_45 => ?_)
              · skip
                have hc_45 := zb_eq rfl (show ((-1) : Int32).toInt = (-1) by decide) c_45
                refine lv_iload hx hb dX1_parsePart_115 (lv_at hl 1 rfl) ?_
                exact W.iret (v := x_33) hx hb hr (fun t ht hW => ⟨⟨x_33, (oat_37, z.2.1 0, z.2.2.2 0), rfl, (show (x_33.toInt = pX (bX (z.1 1) (z.2.2.1 0)) (z.1 0).toInt) ∧ (x_33.toInt = -1 → oat_37.toInt = a3 (bX (z.1 1) (z.2.2.1 0)) (z.1 0).toInt ∧ acX (z.2.2.2 0) (z.2.1 0) = acU (acX (z.2.2.2 0) (z.2.1 0)) (lT (bX (z.1 1) (z.2.2.1 0) (z.1 0).toInt)) (nV (bX (z.1 1) (z.2.2.1 0)) ((z.1 0).toInt + 1)) (nV (bX (z.1 1) (z.2.2.1 0)) (a2 (bX (z.1 1) (z.2.2.1 0)) (z.1 0).toInt + 1)) ∧ SB (z.2.2.2 0) (Mb + 232792560) ∧ (0 ≤ (z.2.1 0).toInt ∧ (z.2.1 0).toInt ≤ 232792560)) from ⟨by rw [pX_4 (by omega) (show ¬ (nC (bX (z.1 1) (z.2.2.1 0)) ((z.1 0).toInt + 1) = 0 ∨ 20 < nV (bX (z.1 1) (z.2.2.1 0)) ((z.1 0).toInt + 1)) by omega) (by omega) (Or.inr (by omega))]; unfold a2; omega, fun q9 => by omega⟩), ⟨by rw [ht]; exact hP, hDa _⟩⟩, hS.F ht⟩) hS.2.2 dX1_parsePart_117
              · skip
                have hc_45 := zb_ne rfl (show ((-1) : Int32).toInt = (-1) by decide) c_45
                refine lv_iload hx hb dX1_parsePart_96 (lv_at hl 0 rfl) ?_
                refine lv_iconst (v := 1) hx hb dX1_parsePart_98 (by decide) ?_
                refine lv_icmp_lt (tgt := 115) hx hb dX1_parsePart_99 (by decide) (fun c_46 => ?_) (fun c_46 => ?_)
                · skip
                  have hc_46 := zb_lt rfl (show (1 : Int32).toInt = 1 by decide) c_46
                  refine lv_iload hx hb dX1_parsePart_115 (lv_at hl 1 rfl) ?_
                  exact W.iret (v := x_33) hx hb hr (fun t ht hW => ⟨⟨x_33, (oat_37, z.2.1 0, z.2.2.2 0), rfl, (show (x_33.toInt = pX (bX (z.1 1) (z.2.2.1 0)) (z.1 0).toInt) ∧ (x_33.toInt = -1 → oat_37.toInt = a3 (bX (z.1 1) (z.2.2.1 0)) (z.1 0).toInt ∧ acX (z.2.2.2 0) (z.2.1 0) = acU (acX (z.2.2.2 0) (z.2.1 0)) (lT (bX (z.1 1) (z.2.2.1 0) (z.1 0).toInt)) (nV (bX (z.1 1) (z.2.2.1 0)) ((z.1 0).toInt + 1)) (nV (bX (z.1 1) (z.2.2.1 0)) (a2 (bX (z.1 1) (z.2.2.1 0)) (z.1 0).toInt + 1)) ∧ SB (z.2.2.2 0) (Mb + 232792560) ∧ (0 ≤ (z.2.1 0).toInt ∧ (z.2.1 0).toInt ≤ 232792560)) from ⟨by rw [pX_4 (by omega) (show ¬ (nC (bX (z.1 1) (z.2.2.1 0)) ((z.1 0).toInt + 1) = 0 ∨ 20 < nV (bX (z.1 1) (z.2.2.1 0)) ((z.1 0).toInt + 1)) by omega) (by omega) (Or.inr (by omega))]; unfold a2; omega, fun q9 => by omega⟩), ⟨by rw [ht]; exact hP, hDa _⟩⟩, hS.F ht⟩) hS.2.2 dX1_parsePart_117
                · skip
                  have hc_46 := zb_nlt rfl (show (1 : Int32).toInt = 1 by decide) c_46
                  refine lv_iload hx hb dX1_parsePart_102 (lv_at hl 0 rfl) ?_
                  refine lv_bipush (v := 20) hx hb dX1_parsePart_104 (by decide) ?_
                  refine lv_icmp_gt (tgt := 115) hx hb dX1_parsePart_106 (by decide) (fun c_47 => ?_) (fun c_47 => ?_)
                  · skip
                    have hc_47 := zb_lt (show (20 : Int32).toInt = 20 by decide) rfl c_47
                    refine lv_iload hx hb dX1_parsePart_115 (lv_at hl 1 rfl) ?_
                    exact W.iret (v := x_33) hx hb hr (fun t ht hW => ⟨⟨x_33, (oat_37, z.2.1 0, z.2.2.2 0), rfl, (show (x_33.toInt = pX (bX (z.1 1) (z.2.2.1 0)) (z.1 0).toInt) ∧ (x_33.toInt = -1 → oat_37.toInt = a3 (bX (z.1 1) (z.2.2.1 0)) (z.1 0).toInt ∧ acX (z.2.2.2 0) (z.2.1 0) = acU (acX (z.2.2.2 0) (z.2.1 0)) (lT (bX (z.1 1) (z.2.2.1 0) (z.1 0).toInt)) (nV (bX (z.1 1) (z.2.2.1 0)) ((z.1 0).toInt + 1)) (nV (bX (z.1 1) (z.2.2.1 0)) (a2 (bX (z.1 1) (z.2.2.1 0)) (z.1 0).toInt + 1)) ∧ SB (z.2.2.2 0) (Mb + 232792560) ∧ (0 ≤ (z.2.1 0).toInt ∧ (z.2.1 0).toInt ≤ 232792560)) from ⟨by rw [pX_4 (by omega) (show ¬ (nC (bX (z.1 1) (z.2.2.1 0)) ((z.1 0).toInt + 1) = 0 ∨ 20 < nV (bX (z.1 1) (z.2.2.1 0)) ((z.1 0).toInt + 1)) by omega) (by omega) (Or.inr (by omega))]; unfold a2; omega, fun q9 => by omega⟩), ⟨by rw [ht]; exact hP, hDa _⟩⟩, hS.F ht⟩) hS.2.2 dX1_parsePart_117
                  · skip
                    have hc_47 := zb_nlt (show (20 : Int32).toInt = 20 by decide) rfl c_47
                    refine lv_iload hx hb dX1_parsePart_109 (lv_at hl 0 rfl) ?_
                    refine lv_iload_n hx hb dX1_parsePart_111 rfl (lv_at hl 2 rfl) ?_
                    refine lv_icmp_ge (tgt := 118) hx hb dX1_parsePart_112 (by decide) (fun c_48 => ?_) (fun c_48 => ?_)
                    · skip
                      have hc_48 := zb_le rfl rfl c_48
                      refine lv_ldc2 (v := 232792560) hx hb hown (htb _ wmt1_117) dX1_parsePart_118 ?_
                      refine lv_iload hx hb dX1_parsePart_121 (lv_at hl 0 rfl) ?_
                      refine lv_i2l (v := r_34.toInt64) hx hb dX1_parsePart_123 rfl ?_
                      refine lv_topl (fun x_49 ex_49 => ?_)
                      have hx_49 : x_49.toInt = r_34.toInt := by rw [ex_49]; exact Jvm.Kit.i64_of_i32 _
                      refine lv_ldiv hx hb dX1_parsePart_124 (z_l0ne (by omega)) ?_
                      refine lv_topl (fun x_50 ex_50 => ?_)
                      have hx_50 := zl_div ex_50 (show (232792560 : Int64).toInt = 232792560 by decide) rfl (by omega) (by omega)
                      refine lv_iload_n hx hb dX1_parsePart_125 rfl (lv_at hl 2 rfl) ?_
                      refine lv_i2l (v := r_14.toInt64) hx hb dX1_parsePart_126 rfl ?_
                      refine lv_topl (fun x_51 ex_51 => ?_)
                      have hx_51 : x_51.toInt = r_14.toInt := by rw [ex_51]; exact Jvm.Kit.i64_of_i32 _
                      refine lv_lmul hx hb dX1_parsePart_127 ?_
                      refine lv_topl (fun x_52 ex_52 => ?_)
                      have qx_52 := z_mulb (a := x_50.toInt) (b := x_51.toInt) (A := 232792560) (B := 20) (by omega) (by omega)
                      have hx_52 := zl_mul ex_52 rfl rfl (by omega)
                      have hsh : x_52.toInt = (sh1 (nV (bX (z.1 1) (z.2.2.1 0)) ((z.1 0).toInt + 1)) (nV (bX (z.1 1) (z.2.2.1 0)) (a2 (bX (z.1 1) (z.2.2.1 0)) (z.1 0).toInt + 1)) : Int) := sh1_i (by rw [← hnv1, ← hnv2, hx_52, hx_50.1, hx_49, hx_51]) (by omega) (by omega)
                      have hshb := sh1_b (m := nV (bX (z.1 1) (z.2.2.1 0)) ((z.1 0).toInt + 1)) (n := nV (bX (z.1 1) (z.2.2.1 0)) (a2 (bX (z.1 1) (z.2.2.1 0)) (z.1 0).toInt + 1)) (by omega) (by omega) (by omega)
                      have hWz : (zW : Int) = 232792560 := rfl
                      refine lv_lstore (lv' := [(6, .long x_52), (5, .int r_34), (4, .int x_33), (3, .int r_14), (2, .int x_13), (1, .int r_7), (0, .ref (a 0))]) hx hb dX1_parsePart_128 hl (by decide) rfl (fun ls hl => ?_)
                      refine lv_aload_n hx hb dX1_parsePart_130 rfl (lv_at hl 6 rfl) ?_
                      refine va_get (D := (dC, dI)) (ci := 1) (v := .ref (a 2)) (C := RX1) (T := TX1) (N := 9) hx hb htb inw1 hown hK.1 hP 0 rfl rfl 1 (by decide) (htb _ wmt1_119) (fun _ h9 => h9) rfl dX1_parsePart_131 ?_
                      refine lv_iload_n hx hb dX1_parsePart_134 rfl (lv_at hl 5 rfl) ?_
                      refine lv_dup2_11 hx hb dX1_parsePart_135 rfl rfl ?_
                      refine va_lald (D := (dC, dI)) hx hb hK.1 hP 2 1 rfl rfl (z_in (by omega)) dX1_parsePart_136 ?_
                      refine lv_topl (fun x_53 ex_53 => ?_)
                      replace ex_53 : x_53 = (z.2.2.2 0) r_7.toNatClampNeg := ex_53
                      refine lv_lload hx hb dX1_parsePart_137 (lv_at hl 0 rfl) ?_
                      refine lv_ladd hx hb dX1_parsePart_139 ?_
                      refine lv_topl (fun x_54 ex_54 => ?_)
                      refine va_last (D := (dC, dI)) hx hb hK.1 hP (hDa _) hS 2 1 rfl rfl (z_in (by omega)) dX1_parsePart_140 (fun H locs hP _ hS => ?_)
                      obtain ⟨f_55, ef_55⟩ : ∃ x : Nat → Int64, x = vp_updL (z.2.2.2 0) r_7.toNatClampNeg x_54 := ⟨_, rfl⟩
                      have hP : va_P (dC, dI) vwCl (zD k a (sL (sI z 0 oat_37) 0 f_55)) H := by rw [ef_55]; exact hP
                      refine lv_aload_n hx hb dX1_parsePart_141 rfl (lv_at hl 6 rfl) ?_
                      refine lv_aload_n hx hb dX1_parsePart_142 rfl (lv_at hl 6 rfl) ?_
                      refine va_get (D := (dC, dI)) (ci := 1) (v := .long (z.2.1 0)) (C := RX1) (T := TX1) (N := 9) hx hb htb inw1 hown hK.1 hP 0 rfl rfl 2 (by decide) (htb _ wmt1_120) (fun _ h9 => h9) rfl dX1_parsePart_143 ?_
                      refine lv_topl (fun x_56 ex_56 => ?_)
                      have hx_56 : x_56.toInt = (z.2.1 0).toInt := by rw [ex_56]
                      refine lv_lload hx hb dX1_parsePart_146 (lv_at hl 0 rfl) ?_
                      refine zc0_l (w := (zD k a (sL (sI z 0 oat_37) 0 f_55))) (va_runSN (As := [.long x_56, .long x_52]) (rest := [.ref (a 0)]) ⟨hx, hb, hml, hown, htb⟩ (c_X6_commonDivisor_g l dC dI k x_56 x_52 _ (by omega) (by omega)) ⟨va_cnB 2 htb (wz_good wmt2_10) rfl rfl rfl hK.2.2.2.2.2.2.2.1 (htb _ wmt1_1) (by decide +kernel) ⟨Nat.le_of_ble_eq_true rfl, Nat.le_of_ble_eq_true rfl⟩, (htb _ wmt2_9), trivial⟩ (zp0_S hK) rfl rfl hl.1 rfl (lv_room (Nat.le_of_ble_eq_true rfl)) dX1_parsePart_148 ⟨Nat.le_of_ble_eq_true rfl, Nat.le_of_ble_eq_true rfl⟩) hP hS hA (fun r_57 u_58 H locs w_59 hP hS => ?_)
                      have h_60 := w_59
                      replace h_60 : r_57.toInt = (Nat.gcd x_56.toInt.natAbs x_52.toInt.natAbs : Int) := h_60
                      have hac := acX_step (m := nV (bX (z.1 1) (z.2.2.1 0)) ((z.1 0).toInt + 1)) (n := nV (bX (z.1 1) (z.2.2.1 0)) (a2 (bX (z.1 1) (z.2.2.1 0)) (z.1 0).toInt + 1)) hsb hMb (show 0 ≤ r_7.toInt ∧ r_7.toInt < 5 by omega) ex_53 ex_54 ef_55 hsh (by omega) hcm.1 (by have q := h_60; rw [ex_56] at q; exact q)
                      rw [ex_56] at h_60
                      have hgl := zg_bnd (x := x_52.toInt) hcm (by omega)
                      refine va_put (D := (dC, dI)) (ci := 1) (v := .long r_57) (ty := .long) (C := RX1) (T := TX1) (N := 9) hx hb htb inw1 tyX1 tyX1_ok nmX1 hown hK.1 hP (hDa _) hS 0 rfl rfl 2 (by decide) (htb _ wmt1_120) (fun _ h9 => h9) rfl (by decide +kernel) rfl rfl (Nat.le_of_ble_eq_true rfl) dX1_parsePart_151 (fun H locs hP _ hS => ?_)
                      have hP : va_P (dC, dI) vwCl (zD k a (sJ (sL (sI z 0 oat_37) 0 f_55) 0 r_57)) H := hP
                      refine lv_iconst (v := (-1)) hx hb dX1_parsePart_154 (by decide) ?_
                      exact W.iret (v := (-1)) hx hb hr (fun t ht hW => ⟨⟨(-1), (oat_37, r_57, f_55), rfl, (show (((-1) : Int32).toInt = pX (bX (z.1 1) (z.2.2.1 0)) (z.1 0).toInt) ∧ (((-1) : Int32).toInt = -1 → oat_37.toInt = a3 (bX (z.1 1) (z.2.2.1 0)) (z.1 0).toInt ∧ acX f_55 r_57 = acU (acX (z.2.2.2 0) (z.2.1 0)) (lT (bX (z.1 1) (z.2.2.1 0) (z.1 0).toInt)) (nV (bX (z.1 1) (z.2.2.1 0)) ((z.1 0).toInt + 1)) (nV (bX (z.1 1) (z.2.2.1 0)) (a2 (bX (z.1 1) (z.2.2.1 0)) (z.1 0).toInt + 1)) ∧ SB f_55 (Mb + 232792560) ∧ (0 ≤ r_57.toInt ∧ r_57.toInt ≤ 232792560)) from ⟨by rw [pX_5 (by omega) (show ¬ (nC (bX (z.1 1) (z.2.2.1 0)) ((z.1 0).toInt + 1) = 0 ∨ 20 < nV (bX (z.1 1) (z.2.2.1 0)) ((z.1 0).toInt + 1)) by omega) (by omega) (show ¬ (_ ∨ _ ∨ _ ∨ _) by omega)]; decide, fun _ => ⟨by unfold a3; omega, by rw [← hlt]; exact hac.1, hac.2, by omega⟩⟩), ⟨by rw [ht]; exact hP, hDa _⟩⟩, hS.F ht⟩) hS.2.2 dX1_parsePart_155
                    · skip
                      have hc_48 := zb_nle rfl rfl c_48
                      refine lv_iload hx hb dX1_parsePart_115 (lv_at hl 1 rfl) ?_
                      exact W.iret (v := x_33) hx hb hr (fun t ht hW => ⟨⟨x_33, (oat_37, z.2.1 0, z.2.2.2 0), rfl, (show (x_33.toInt = pX (bX (z.1 1) (z.2.2.1 0)) (z.1 0).toInt) ∧ (x_33.toInt = -1 → oat_37.toInt = a3 (bX (z.1 1) (z.2.2.1 0)) (z.1 0).toInt ∧ acX (z.2.2.2 0) (z.2.1 0) = acU (acX (z.2.2.2 0) (z.2.1 0)) (lT (bX (z.1 1) (z.2.2.1 0) (z.1 0).toInt)) (nV (bX (z.1 1) (z.2.2.1 0)) ((z.1 0).toInt + 1)) (nV (bX (z.1 1) (z.2.2.1 0)) (a2 (bX (z.1 1) (z.2.2.1 0)) (z.1 0).toInt + 1)) ∧ SB (z.2.2.2 0) (Mb + 232792560) ∧ (0 ≤ (z.2.1 0).toInt ∧ (z.2.1 0).toInt ≤ 232792560)) from ⟨by rw [pX_4 (by omega) (show ¬ (nC (bX (z.1 1) (z.2.2.1 0)) ((z.1 0).toInt + 1) = 0 ∨ 20 < nV (bX (z.1 1) (z.2.2.1 0)) ((z.1 0).toInt + 1)) by omega) (by omega) (Or.inr (by omega))]; unfold a2; omega, fun q9 => by omega⟩), ⟨by rw [ht]; exact hP, hDa _⟩⟩, hS.F ht⟩) hS.2.2 dX1_parsePart_117
            · skip
              replace e_44 : r_34 = (-1) := e_44
              subst e_44
              replace h_42 : oat_37 = x_33 := h_42
              replace h_43 : nC (bX ((z.1 1)) ((z.2.2.1 0))) (x_33).toInt = 0 := h_43
              have hoa2 : oat_37.toInt = (a2 (bX (z.1 1) (z.2.2.1 0)) (z.1 0).toInt + 1) := by rw [h_42]; unfold a2; omega
              have hnc2 : nC (bX (z.1 1) (z.2.2.1 0)) (a2 (bX (z.1 1) (z.2.2.1 0)) (z.1 0).toInt + 1) = 0 := by have q := h_43; rw [show x_33.toInt = (a2 (bX (z.1 1) (z.2.2.1 0)) (z.1 0).toInt + 1) by unfold a2; omega] at q; exact q
              have hcb2 := nC_b (B := bX (z.1 1) (z.2.2.1 0)) (a := (a2 (bX (z.1 1) (z.2.2.1 0)) (z.1 0).toInt + 1))
              refine lv_istore (lv' := [(5, .int (-1)), (4, .int x_33), (3, .int r_14), (2, .int x_13), (1, .int r_7), (0, .ref (a 0))]) hx hb dX1_parsePart_88 hl (by decide) rfl (fun ls hl => ?_)
              refine lv_iload hx hb dX1_parsePart_90 (lv_at hl 0 rfl) ?_
              refine lv_iconst (v := (-1)) hx hb dX1_parsePart_92 (by decide) ?_
              refine lv_icmp_eq (tgt := 115) hx hb dX1_parsePart_93 (by decide) (fun c_62 => ?_) (fun c_62 => ?_)
              · skip
                refine lv_iload hx hb dX1_parsePart_115 (lv_at hl 1 rfl) ?_
                exact W.iret (v := x_33) hx hb hr (fun t ht hW => ⟨⟨x_33, (oat_37, z.2.1 0, z.2.2.2 0), rfl, (show (x_33.toInt = pX (bX (z.1 1) (z.2.2.1 0)) (z.1 0).toInt) ∧ (x_33.toInt = -1 → oat_37.toInt = a3 (bX (z.1 1) (z.2.2.1 0)) (z.1 0).toInt ∧ acX (z.2.2.2 0) (z.2.1 0) = acU (acX (z.2.2.2 0) (z.2.1 0)) (lT (bX (z.1 1) (z.2.2.1 0) (z.1 0).toInt)) (nV (bX (z.1 1) (z.2.2.1 0)) ((z.1 0).toInt + 1)) (nV (bX (z.1 1) (z.2.2.1 0)) (a2 (bX (z.1 1) (z.2.2.1 0)) (z.1 0).toInt + 1)) ∧ SB (z.2.2.2 0) (Mb + 232792560) ∧ (0 ≤ (z.2.1 0).toInt ∧ (z.2.1 0).toInt ≤ 232792560)) from ⟨by rw [pX_4 (by omega) (show ¬ (nC (bX (z.1 1) (z.2.2.1 0)) ((z.1 0).toInt + 1) = 0 ∨ 20 < nV (bX (z.1 1) (z.2.2.1 0)) ((z.1 0).toInt + 1)) by omega) (by omega) (Or.inl hnc2)]; unfold a2; omega, fun q9 => by omega⟩), ⟨by rw [ht]; exact hP, hDa _⟩⟩, hS.F ht⟩) hS.2.2 dX1_parsePart_117
              · skip
                exact absurd (by decide) c_62
          · skip
            have hc_32 := zb_ne rfl (show (47 : Int32).toInt = 47 by decide) c_32
            refine lv_aload_n hx hb dX1_parsePart_65 rfl (lv_at hl 3 rfl) ?_
            refine va_get (D := (dC, dI)) (ci := 1) (v := .int oat_17) (C := RX1) (T := TX1) (N := 9) hx hb htb inw1 hown hK.1 hP 0 rfl rfl 3 (by decide) (htb _ wmt1_121) (fun _ h9 => h9) rfl dX1_parsePart_66 ?_
            exact W.iret (v := oat_17) hx hb hr (fun t ht hW => ⟨⟨oat_17, (oat_17, z.2.1 0, z.2.2.2 0), rfl, (show (oat_17.toInt = pX (bX (z.1 1) (z.2.2.1 0)) (z.1 0).toInt) ∧ (oat_17.toInt = -1 → oat_17.toInt = a3 (bX (z.1 1) (z.2.2.1 0)) (z.1 0).toInt ∧ acX (z.2.2.2 0) (z.2.1 0) = acU (acX (z.2.2.2 0) (z.2.1 0)) (lT (bX (z.1 1) (z.2.2.1 0) (z.1 0).toInt)) (nV (bX (z.1 1) (z.2.2.1 0)) ((z.1 0).toInt + 1)) (nV (bX (z.1 1) (z.2.2.1 0)) (a2 (bX (z.1 1) (z.2.2.1 0)) (z.1 0).toInt + 1)) ∧ SB (z.2.2.2 0) (Mb + 232792560) ∧ (0 ≤ (z.2.1 0).toInt ∧ (z.2.1 0).toInt ≤ 232792560)) from ⟨by rw [pX_3 (by omega) (show ¬ (nC (bX (z.1 1) (z.2.2.1 0)) ((z.1 0).toInt + 1) = 0 ∨ 20 < nV (bX (z.1 1) (z.2.2.1 0)) ((z.1 0).toInt + 1)) by omega) (by omega)]; unfold a2; omega, fun q9 => by omega⟩), ⟨by rw [ht]; exact hP, hDa _⟩⟩, hS.F ht⟩) hS.2.2 dX1_parsePart_69
      · skip
        have hc_25 := zb_nle rfl (show (20 : Int32).toInt = 20 by decide) c_25
        refine lv_iload_n hx hb dX1_parsePart_45 rfl (lv_at hl 1 rfl) ?_
        exact W.iret (v := x_13) hx hb hr (fun t ht hW => ⟨⟨x_13, (oat_17, z.2.1 0, z.2.2.2 0), rfl, (show (x_13.toInt = pX (bX (z.1 1) (z.2.2.1 0)) (z.1 0).toInt) ∧ (x_13.toInt = -1 → oat_17.toInt = a3 (bX (z.1 1) (z.2.2.1 0)) (z.1 0).toInt ∧ acX (z.2.2.2 0) (z.2.1 0) = acU (acX (z.2.2.2 0) (z.2.1 0)) (lT (bX (z.1 1) (z.2.2.1 0) (z.1 0).toInt)) (nV (bX (z.1 1) (z.2.2.1 0)) ((z.1 0).toInt + 1)) (nV (bX (z.1 1) (z.2.2.1 0)) (a2 (bX (z.1 1) (z.2.2.1 0)) (z.1 0).toInt + 1)) ∧ SB (z.2.2.2 0) (Mb + 232792560) ∧ (0 ≤ (z.2.1 0).toInt ∧ (z.2.1 0).toInt ≤ 232792560)) from ⟨by rw [pX_2 (by omega) (Or.inr (by omega))]; omega, fun q9 => by omega⟩), ⟨by rw [ht]; exact hP, hDa _⟩⟩, hS.F ht⟩) hS.2.2 dX1_parsePart_46
    · skip
      replace e_24 : r_14 = (-1) := e_24
      subst e_24
      replace h_22 : oat_17 = x_13 := h_22
      replace h_23 : nC (bX ((z.1 1)) ((z.2.2.1 0))) (x_13).toInt = 0 := h_23
      have hoa1 : oat_17.toInt = ((z.1 0).toInt + 1) := by rw [h_22]; omega
      have hnc1 : nC (bX (z.1 1) (z.2.2.1 0)) ((z.1 0).toInt + 1) = 0 := by have q := h_23; rw [show x_13.toInt = ((z.1 0).toInt + 1) by omega] at q; exact q
      have hcb1 := nC_b (B := bX (z.1 1) (z.2.2.1 0)) (a := ((z.1 0).toInt + 1))
      refine lv_istore_n (lv' := [(3, .int (-1)), (2, .int x_13), (1, .int r_7), (0, .ref (a 0))]) hx hb dX1_parsePart_38 rfl hl (by decide) rfl (fun ls hl => ?_)
      refine lv_iload_n hx hb dX1_parsePart_39 rfl (lv_at hl 0 rfl) ?_
      refine lv_bipush (v := 20) hx hb dX1_parsePart_40 (by decide) ?_
      refine lv_icmp_le (tgt := 47) hx hb dX1_parsePart_42 (by decide) (fun c_63 => ?_) (fun c_63 => ?_)
      · skip
        refine lv_iload_n hx hb dX1_parsePart_47 rfl (lv_at hl 0 rfl) ?_
        refine lv_iconst (v := (-1)) hx hb dX1_parsePart_48 (by decide) ?_
        refine lv_icmp_eq (tgt := 65) hx hb dX1_parsePart_49 (by decide) (fun c_64 => ?_) (fun c_64 => ?_)
        · skip
          refine lv_aload_n hx hb dX1_parsePart_65 rfl (lv_at hl 3 rfl) ?_
          refine va_get (D := (dC, dI)) (ci := 1) (v := .int oat_17) (C := RX1) (T := TX1) (N := 9) hx hb htb inw1 hown hK.1 hP 0 rfl rfl 3 (by decide) (htb _ wmt1_121) (fun _ h9 => h9) rfl dX1_parsePart_66 ?_
          exact W.iret (v := oat_17) hx hb hr (fun t ht hW => ⟨⟨oat_17, (oat_17, z.2.1 0, z.2.2.2 0), rfl, (show (oat_17.toInt = pX (bX (z.1 1) (z.2.2.1 0)) (z.1 0).toInt) ∧ (oat_17.toInt = -1 → oat_17.toInt = a3 (bX (z.1 1) (z.2.2.1 0)) (z.1 0).toInt ∧ acX (z.2.2.2 0) (z.2.1 0) = acU (acX (z.2.2.2 0) (z.2.1 0)) (lT (bX (z.1 1) (z.2.2.1 0) (z.1 0).toInt)) (nV (bX (z.1 1) (z.2.2.1 0)) ((z.1 0).toInt + 1)) (nV (bX (z.1 1) (z.2.2.1 0)) (a2 (bX (z.1 1) (z.2.2.1 0)) (z.1 0).toInt + 1)) ∧ SB (z.2.2.2 0) (Mb + 232792560) ∧ (0 ≤ (z.2.1 0).toInt ∧ (z.2.1 0).toInt ≤ 232792560)) from ⟨by rw [pX_2 (by omega) (Or.inl hnc1)]; omega, fun q9 => by omega⟩), ⟨by rw [ht]; exact hP, hDa _⟩⟩, hS.F ht⟩) hS.2.2 dX1_parsePart_69
        · skip
          exact absurd (by decide) c_64
      · skip
        exact absurd (by decide) c_63
  · skip
    have hc_12 := zb_eq rfl (show ((-1) : Int32).toInt = (-1) by decide) c_12
    refine lv_aload_n hx hb dX1_parsePart_17 rfl (lv_at hl 1 rfl) ?_
    refine va_get (D := (dC, dI)) (ci := 1) (v := .int (z.1 0)) (C := RX1) (T := TX1) (N := 9) hx hb htb inw1 hown hK.1 hP 0 rfl rfl 3 (by decide) (htb _ wmt1_121) (fun _ h9 => h9) rfl dX1_parsePart_18 ?_
    refine z_top (v2 := .int x_1) (congrArg Value.int ex_1.symm) ?_
    exact W.iret (v := x_1) hx hb hr (fun t ht hW => ⟨⟨x_1, (z.1 0, z.2.1 0, z.2.2.2 0), rfl, (show (x_1.toInt = pX (bX (z.1 1) (z.2.2.1 0)) (z.1 0).toInt) ∧ (x_1.toInt = -1 → (z.1 0).toInt = a3 (bX (z.1 1) (z.2.2.1 0)) (z.1 0).toInt ∧ acX (z.2.2.2 0) (z.2.1 0) = acU (acX (z.2.2.2 0) (z.2.1 0)) (lT (bX (z.1 1) (z.2.2.1 0) (z.1 0).toInt)) (nV (bX (z.1 1) (z.2.2.1 0)) ((z.1 0).toInt + 1)) (nV (bX (z.1 1) (z.2.2.1 0)) (a2 (bX (z.1 1) (z.2.2.1 0)) (z.1 0).toInt + 1)) ∧ SB (z.2.2.2 0) (Mb + 232792560) ∧ (0 ≤ (z.2.1 0).toInt ∧ (z.2.1 0).toInt ≤ 232792560)) from ⟨by rw [pX_1 (by omega)]; omega, fun q9 => by omega⟩), ⟨by rw [ht]; exact hP, hDa _⟩⟩, hS.F ht⟩) hS.2.2 dX1_parsePart_21
set_option maxHeartbeats 4000000 in
set_option maxRecDepth 100000 in
theorem c_X1_faultOfShares (l : Launch) (dC : Nat → ClassId) (dI : Nat → Nat → Nat) (k : Nat → ClassId) (a : Nat → Nat) (z : ZS) (sz : Nat) (hsb : SB (z.2.2.2 0) 13967553600) (hcm : 0 ≤ (z.2.1 0).toInt ∧ (z.2.1 0).toInt ≤ 232792560) : Met l yX1_faultOfShares (wz yX1_faultOfShares cX1_faultOfShares 4 (some .int)) ({ frames := 0, cells := 0, slots := 0, locals := 0 }) (va_Pc [.ref (a 0)] (zPre dC dI k (zTX k) (zD k a z) sz)) (va_Qi (fun (r : Int32) (u : Unit) => (r.toInt = acF (acX (z.2.2.2 0) (z.2.1 0)) (z.1 1).toInt)) (fun u t => zPost dC dI (va_A (zD k a z) sz) (zD k a z) t) (va_A (zD k a z) sz)) 0 0 (va_A (zD k a z) sz) := by
  refine Met.ofW (cc := cX1_faultOfShares) (maxL := 4) (ret := (some .int)) (by decide) rfl ?_
  intro p e s m args below meth c s₁ B hml hv
  obtain ⟨rfl, hsz, hP, hK, hD0⟩ := hv
  have hx := B.exec
  have hb := B.bytes
  have hr := B.returns
  have hts := atoms_spec (ws := wz yX1_faultOfShares cX1_faultOfShares 4 (some .int)) B.pre
  have htb : ∀ w ∈ zw, w.before _ s = true := fun w h => hts w (List.mem_cons_of_mem _ h)
  have hown : s.vm.findClass RX1 = some m.cls := findClass_of_methodNamed B.named
  have hlocks := B.notSynchronized
  clear hts
  subst hsz
  have hD := hD0.self (sz := s.heap.size)
  generalize hAe : va_A (zD k a z) s.heap.size = A at hD ⊢
  have hA : ∀ q : Nat, s.heap.size ≤ q → A q := fun q h => by rw [← hAe]; exact Or.inr h
  have hDa : ∀ z9 : ZS, va_D A (zD k a z9) := fun z9 => va_D_adr (w := zD k a z) rfl hD
  have hl := lv_entry ([.ref (a 0)]) (n := 4) (Nat.le_of_ble_eq_true rfl)
  rw [lg_entry_eq]
  generalize (lg_sl ([.ref (a 0)]) ++ List.replicate (4 - (lg_sl ([.ref (a 0)])).length) Slot.unset).toArray = ls at hl ⊢
  have hl : lv_has ls 4 [(0, .ref (a 0))] := hl
  refine z_start2 (A := A) (w := (zD k a z)) hP (fun H locs hP hS => ?_)
  clear hD0 hAe
  refine lv_lconst (v := 0) hx hb dX1_faultOfShares_0 (by decide) ?_
  refine lv_lstore_n (lv' := [(1, .long 0), (0, .ref (a 0))]) hx hb dX1_faultOfShares_1 rfl hl (by decide) rfl (fun ls hl => ?_)
  refine lv_iconst (v := 0) hx hb dX1_faultOfShares_2 (by decide) ?_
  refine lv_istore_n (lv' := [(3, .int 0), (1, .long 0), (0, .ref (a 0))]) hx hb dX1_faultOfShares_3 rfl hl (by decide) rfl (fun ls hl => ?_)
  obtain ⟨sm, esm⟩ : ∃ x : Int64, 0 = x := ⟨_, rfl⟩
  obtain ⟨i, ei⟩ : ∃ x : Int32, 0 = x := ⟨_, rfl⟩
  have hv4 : (0 ≤ i.toInt ∧ i.toInt ≤ 5) ∧ (sm.toInt = smr (z.2.2.2 0) i.toNatClampNeg) ∧ (0 ≤ sm.toInt ∧ sm.toInt ≤ 13967553600 * i.toInt) := by subst esm ei; exact ⟨(by decide), (by rw [show (0 : Int32).toNatClampNeg = 0 by decide, smr_0]; decide), (by decide)⟩
  replace hl : lv_has ls 4 [(3, .int i), (1, .long sm), (0, .ref (a 0))] := by subst esm ei; exact hl
  clear esm ei
  obtain ⟨mm4, hm4⟩ : ∃ mm : Nat, mm = (5 - i.toInt).toNat := ⟨_, rfl⟩
  refine z_cut2 hP hS hl ?_
  clear hl hP
  intro H locs ls hP hS hl
  induction mm4 using Nat.strongRecOn generalizing sm i H locs ls with
  | _ mm4 ih4 =>
    obtain ⟨hi, hsm, hsmb⟩ := hv4
    refine lv_iload_n hx hb dX1_faultOfShares_4 rfl (lv_at hl 0 rfl) ?_
    refine lv_iconst (v := 5) hx hb dX1_faultOfShares_5 (by decide) ?_
    refine lv_icmp_ge (tgt := 24) hx hb dX1_faultOfShares_6 (by decide) (fun c_1 => ?_) (fun c_1 => ?_)
    · skip
      have hc_1 := zb_le (show (5 : Int32).toInt = 5 by decide) rfl c_1
      have hs5 := smr_5 (cm := z.2.1 0) hsb (by omega) hsm
      refine lv_lload_n hx hb dX1_faultOfShares_24 rfl (lv_at hl 1 rfl) ?_
      refine lv_ldc2 (v := 232792560) hx hb hown (htb _ wmt1_117) dX1_faultOfShares_25 ?_
      refine z_lcmp hx hb dX1_faultOfShares_28 ?_
      refine lv_if_ne (tgt := 60) hx hb dX1_faultOfShares_29 (by decide) (fun c_2 => ?_) (fun c_2 => ?_)
      · skip
        have hc_2 := zl_ne rfl (show (232792560 : Int64).toInt = 232792560 by decide) c_2
        refine lv_iconst (v := 0) hx hb dX1_faultOfShares_60 (by decide) ?_
        refine lv_istore_n (lv' := [(3, .int 0), (1, .long sm), (0, .ref (a 0))]) hx hb dX1_faultOfShares_61 rfl hl (by decide) rfl (fun ls hl => ?_)
        refine lv_iload_n hx hb dX1_faultOfShares_62 rfl (lv_at hl 0 rfl) ?_
        refine lv_if_eq (tgt := 70) hx hb dX1_faultOfShares_63 (by decide) (fun c_3 => ?_) (fun c_3 => ?_)
        · skip
          refine lv_aload_n hx hb dX1_faultOfShares_70 rfl (lv_at hl 2 rfl) ?_
          refine va_get (D := (dC, dI)) (ci := 1) (v := .int (z.1 1)) (C := RX1) (T := TX1) (N := 9) hx hb htb inw1 hown hK.1 hP 0 rfl rfl 4 (by decide) (htb _ wmt1_122) (fun _ h9 => h9) rfl dX1_faultOfShares_71 ?_
          refine lv_topi (fun x_4 ex_4 => ?_)
          have hx_4 : x_4.toInt = (z.1 1).toInt := by rw [ex_4]
          exact W.iret (v := x_4) hx hb hr (fun t ht hW => ⟨⟨x_4, (), rfl, (by rw [acF_n hs5 (by omega)]; omega), ⟨by rw [ht]; exact hP, hDa _⟩⟩, hS.F ht⟩) hS.2.2 dX1_faultOfShares_74
        · skip
          exact absurd (by decide) c_3
      · skip
        have hc_2 := zl_eq rfl (show (232792560 : Int64).toInt = 232792560 by decide) c_2
        refine lv_aload_n hx hb dX1_faultOfShares_32 rfl (lv_at hl 2 rfl) ?_
        refine va_get (D := (dC, dI)) (ci := 1) (v := .long (z.2.1 0)) (C := RX1) (T := TX1) (N := 9) hx hb htb inw1 hown hK.1 hP 0 rfl rfl 2 (by decide) (htb _ wmt1_120) (fun _ h9 => h9) rfl dX1_faultOfShares_33 ?_
        refine lv_topl (fun x_5 ex_5 => ?_)
        have hx_5 : x_5.toInt = (z.2.1 0).toInt := by rw [ex_5]
        refine lv_lconst (v := 0) hx hb dX1_faultOfShares_36 (by decide) ?_
        refine z_lcmp hx hb dX1_faultOfShares_37 ?_
        refine lv_if_le (tgt := 60) hx hb dX1_faultOfShares_38 (by decide) (fun c_6 => ?_) (fun c_6 => ?_)
        · skip
          have hc_6 := zl_le rfl (show (0 : Int64).toInt = 0 by decide) c_6
          refine lv_iconst (v := 0) hx hb dX1_faultOfShares_60 (by decide) ?_
          refine lv_istore_n (lv' := [(3, .int 0), (1, .long sm), (0, .ref (a 0))]) hx hb dX1_faultOfShares_61 rfl hl (by decide) rfl (fun ls hl => ?_)
          refine lv_iload_n hx hb dX1_faultOfShares_62 rfl (lv_at hl 0 rfl) ?_
          refine lv_if_eq (tgt := 70) hx hb dX1_faultOfShares_63 (by decide) (fun c_7 => ?_) (fun c_7 => ?_)
          · skip
            refine lv_aload_n hx hb dX1_faultOfShares_70 rfl (lv_at hl 2 rfl) ?_
            refine va_get (D := (dC, dI)) (ci := 1) (v := .int (z.1 1)) (C := RX1) (T := TX1) (N := 9) hx hb htb inw1 hown hK.1 hP 0 rfl rfl 4 (by decide) (htb _ wmt1_122) (fun _ h9 => h9) rfl dX1_faultOfShares_71 ?_
            refine lv_topi (fun x_8 ex_8 => ?_)
            have hx_8 : x_8.toInt = (z.1 1).toInt := by rw [ex_8]
            exact W.iret (v := x_8) hx hb hr (fun t ht hW => ⟨⟨x_8, (), rfl, (by rw [acF_n hs5 (by omega)]; omega), ⟨by rw [ht]; exact hP, hDa _⟩⟩, hS.F ht⟩) hS.2.2 dX1_faultOfShares_74
          · skip
            exact absurd (by decide) c_7
        · skip
          have hc_6 := zl_nle rfl (show (0 : Int64).toInt = 0 by decide) c_6
          refine lv_ldc2 (v := 232792560) hx hb hown (htb _ wmt1_117) dX1_faultOfShares_41 ?_
          refine lv_aload_n hx hb dX1_faultOfShares_44 rfl (lv_at hl 2 rfl) ?_
          refine va_get (D := (dC, dI)) (ci := 1) (v := .long (z.2.1 0)) (C := RX1) (T := TX1) (N := 9) hx hb htb inw1 hown hK.1 hP 0 rfl rfl 2 (by decide) (htb _ wmt1_120) (fun _ h9 => h9) rfl dX1_faultOfShares_45 ?_
          refine z_top (v2 := .long x_5) (congrArg Value.long ex_5.symm) ?_
          refine lv_ldiv hx hb dX1_faultOfShares_48 (z_l0ne (by omega)) ?_
          refine lv_topl (fun x_9 ex_9 => ?_)
          have hx_9 := zl_div ex_9 (show (232792560 : Int64).toInt = 232792560 by decide) hx_5 (by omega) (by omega)
          refine lv_ldc2 (v := 24) hx hb hown (htb _ wmt2_18) dX1_faultOfShares_49 ?_
          refine z_lcmp hx hb dX1_faultOfShares_52 ?_
          refine lv_if_gt (tgt := 60) hx hb dX1_faultOfShares_53 (by decide) (fun c_10 => ?_) (fun c_10 => ?_)
          · skip
            have hc_10 := zl_gt rfl (show (24 : Int64).toInt = 24 by decide) c_10
            refine lv_iconst (v := 0) hx hb dX1_faultOfShares_60 (by decide) ?_
            refine lv_istore_n (lv' := [(3, .int 0), (1, .long sm), (0, .ref (a 0))]) hx hb dX1_faultOfShares_61 rfl hl (by decide) rfl (fun ls hl => ?_)
            refine lv_iload_n hx hb dX1_faultOfShares_62 rfl (lv_at hl 0 rfl) ?_
            refine lv_if_eq (tgt := 70) hx hb dX1_faultOfShares_63 (by decide) (fun c_11 => ?_) (fun c_11 => ?_)
            · skip
              refine lv_aload_n hx hb dX1_faultOfShares_70 rfl (lv_at hl 2 rfl) ?_
              refine va_get (D := (dC, dI)) (ci := 1) (v := .int (z.1 1)) (C := RX1) (T := TX1) (N := 9) hx hb htb inw1 hown hK.1 hP 0 rfl rfl 4 (by decide) (htb _ wmt1_122) (fun _ h9 => h9) rfl dX1_faultOfShares_71 ?_
              refine lv_topi (fun x_12 ex_12 => ?_)
              have hx_12 : x_12.toInt = (z.1 1).toInt := by rw [ex_12]
              exact W.iret (v := x_12) hx hb hr (fun t ht hW => ⟨⟨x_12, (), rfl, (by rw [acF_n hs5 (by omega)]; omega), ⟨by rw [ht]; exact hP, hDa _⟩⟩, hS.F ht⟩) hS.2.2 dX1_faultOfShares_74
            · skip
              exact absurd (by decide) c_11
          · skip
            have hc_10 := zl_ngt rfl (show (24 : Int64).toInt = 24 by decide) c_10
            refine lv_iconst (v := 1) hx hb dX1_faultOfShares_56 (by decide) ?_
            refine lv_goto (tgt := 61) hx hb dX1_faultOfShares_57 (by decide) ?_
            refine lv_istore_n (lv' := [(3, .int 1), (1, .long sm), (0, .ref (a 0))]) hx hb dX1_faultOfShares_61 rfl hl (by decide) rfl (fun ls hl => ?_)
            refine lv_iload_n hx hb dX1_faultOfShares_62 rfl (lv_at hl 0 rfl) ?_
            refine lv_if_eq (tgt := 70) hx hb dX1_faultOfShares_63 (by decide) (fun c_13 => ?_) (fun c_13 => ?_)
            · skip
              exact absurd c_13 (by decide)
            · skip
              refine lv_iconst (v := (-1)) hx hb dX1_faultOfShares_66 (by decide) ?_
              refine lv_goto (tgt := 74) hx hb dX1_faultOfShares_67 (by decide) ?_
              exact W.iret (v := (-1)) hx hb hr (fun t ht hW => ⟨⟨(-1), (), rfl, (by rw [acF_y hs5 (by omega) (by omega) hx_9.1 (by omega)]; decide), ⟨by rw [ht]; exact hP, hDa _⟩⟩, hS.F ht⟩) hS.2.2 dX1_faultOfShares_74
    · skip
      have hc_1 := zb_nle (show (5 : Int32).toInt = 5 by decide) rfl c_1
      refine lv_lload_n hx hb dX1_faultOfShares_9 rfl (lv_at hl 1 rfl) ?_
      refine lv_aload_n hx hb dX1_faultOfShares_10 rfl (lv_at hl 2 rfl) ?_
      refine va_get (D := (dC, dI)) (ci := 1) (v := .ref (a 2)) (C := RX1) (T := TX1) (N := 9) hx hb htb inw1 hown hK.1 hP 0 rfl rfl 1 (by decide) (htb _ wmt1_119) (fun _ h9 => h9) rfl dX1_faultOfShares_11 ?_
      refine lv_iload_n hx hb dX1_faultOfShares_14 rfl (lv_at hl 0 rfl) ?_
      refine va_lald (D := (dC, dI)) hx hb hK.1 hP 2 1 rfl rfl (z_in (by omega)) dX1_faultOfShares_15 ?_
      refine lv_topl (fun x_14 ex_14 => ?_)
      refine lv_ladd hx hb dX1_faultOfShares_16 ?_
      refine lv_topl (fun x_15 ex_15 => ?_)
      refine lv_lstore_n (lv' := [(1, .long x_15), (3, .int i), (0, .ref (a 0))]) hx hb dX1_faultOfShares_17 rfl hl (by decide) rfl (fun ls hl => ?_)
      obtain ⟨x_16, ex_16⟩ : ∃ y : Int32, y = i + 1 := ⟨_, rfl⟩
      have hx_16 : x_16.toInt = i.toInt + 1 := z_add ex_16 rfl (show (1 : Int32).toInt = 1 by decide) (by omega)
      refine lv_iinc (v := x_16) (lv' := [(3, .int x_16), (1, .long x_15), (0, .ref (a 0))]) hx hb dX1_faultOfShares_18 hl (k := 1) rfl (by rw [ex_16]; rfl) (by decide) rfl (fun ls hl => ?_)
      refine lv_goto (tgt := 4) hx hb dX1_faultOfShares_21 (by decide) ?_
      exact ih4 ((5 - x_16.toInt).toNat) (by omega) x_15 x_16 ⟨(show 0 ≤ x_16.toInt ∧ x_16.toInt ≤ 5 by omega), (smr_step hsb (by omega) hsm hsmb ex_14 ex_15 hx_16).1, (smr_step hsb (by omega) hsm hsmb ex_14 ex_15 hx_16).2⟩ rfl H locs ls hP hS (lv_sub hl [0, 1, 2] rfl)
set_option maxHeartbeats 4000000 in
set_option maxRecDepth 100000 in
theorem c_X1_parse (l : Launch) (dC : Nat → ClassId) (dI : Nat → Nat → Nat) (k : Nat → ClassId) (a : Nat → Nat) (z : ZS) (sz : Nat) (hI : XR (z.1 1)) : Met l yX1_parse (wz yX1_parse cX1_parse 3 (some .int)) ({ frames := 4, cells := 0, slots := 0, locals := 92 }) (va_Pc [.ref (a 0)] (zPre dC dI k (zTX k) (zD k a z) sz)) (va_Qi (fun (r : Int32) (u : Int32 × Int64 × (Nat → Int64)) => (r.toInt = pF (bX (z.1 1) (z.2.2.1 0)) (z.1 1).toInt) ∧ (r.toInt = -1 → acX u.2.2 u.2.1 = (pA (bX (z.1 1) (z.2.2.1 0)) (z.1 1).toInt).2 ∧ SB u.2.2 13967553600)) (fun u t => zPost dC dI (va_A (zD k a z) sz) (zD k a (sL (sJ (sI z 0 u.1) 0 u.2.1) 0 u.2.2)) t) (va_A (zD k a z) sz)) 0 0 (va_A (zD k a z) sz) := by
  refine Met.ofW (cc := cX1_parse) (maxL := 3) (ret := (some .int)) (by decide) rfl ?_
  intro p e s m args below meth c s₁ B hml hv
  obtain ⟨rfl, hsz, hP, hK, hD0⟩ := hv
  have hx := B.exec
  have hb := B.bytes
  have hr := B.returns
  have hts := atoms_spec (ws := wz yX1_parse cX1_parse 3 (some .int)) B.pre
  have htb : ∀ w ∈ zw, w.before _ s = true := fun w h => hts w (List.mem_cons_of_mem _ h)
  have hown : s.vm.findClass RX1 = some m.cls := findClass_of_methodNamed B.named
  have hlocks := B.notSynchronized
  clear hts
  subst hsz
  have hD := hD0.self (sz := s.heap.size)
  generalize hAe : va_A (zD k a z) s.heap.size = A at hD ⊢
  have hA : ∀ q : Nat, s.heap.size ≤ q → A q := fun q h => by rw [← hAe]; exact Or.inr h
  have hDa : ∀ z9 : ZS, va_D A (zD k a z9) := fun z9 => va_D_adr (w := zD k a z) rfl hD
  have hl := lv_entry ([.ref (a 0)]) (n := 3) (Nat.le_of_ble_eq_true rfl)
  rw [lg_entry_eq]
  generalize (lg_sl ([.ref (a 0)]) ++ List.replicate (3 - (lg_sl ([.ref (a 0)])).length) Slot.unset).toArray = ls at hl ⊢
  have hl : lv_has ls 3 [(0, .ref (a 0))] := hl
  refine z_start2 (A := A) (w := (zD k a z)) hP (fun H locs hP hS => ?_)
  clear hD0 hAe
  have hI2 := hI; unfold XR at hI2
  refine lv_aload_n hx hb dX1_parse_0 rfl (lv_at hl 0 rfl) ?_
  refine va_get (D := (dC, dI)) (ci := 1) (v := .ref (a 2)) (C := RX1) (T := TX1) (N := 9) hx hb htb inw1 hown hK.1 hP 0 rfl rfl 1 (by decide) (htb _ wmt1_119) (fun _ h9 => h9) rfl dX1_parse_1 ?_
  refine lv_lconst (v := 0) hx hb dX1_parse_4 (by decide) ?_
  refine zcS_v (w := (zD k a z)) (wc := (zJ5 k (fun _ => (a 2)) ((fun _ => 0, fun _ => 0, fun _ _ => 0, fun _ => z.2.2.2 0) : ZS))) (va_runS (As := [.ref (a 2), .long 0]) (rest := []) ⟨hx, hb, hml, hown, htb⟩ (c_J7_fill_d0a16_5 l dC dI k (fun _ => (a 2)) ((fun _ => 0, fun _ => 0, fun _ _ => 0, fun _ => z.2.2.2 0) : ZS) 0 _ ) (va_cwS 2 htb (gzS wmt1_226 wmt1_227 wmt1_9 wmt1_228) rfl rfl rfl (by decide +kernel) ⟨Nat.le_of_ble_eq_true rfl, Nat.le_of_ble_eq_true rfl⟩) (zp_S hK hP (hDa _) [2] rfl (by decide)) rfl rfl hl.1 rfl (lv_room (Nat.le_of_ble_eq_true rfl)) dX1_parse_5 ⟨Nat.le_of_ble_eq_true rfl, Nat.le_of_ble_eq_true rfl⟩) hP (hDa _) hS hA [2] rfl (fun _ => rfl) (fun u_2 H locs w_3 hP _ hS => ?_)
  have hP : va_P (dC, dI) vwCl (zD k a (sL z 0 (u_2.2.2.2 0))) H := hP
  have h_4 := w_3
  replace h_4 : ∀ j : Nat, j < 5 → u_2.2.2.2 0 j = (0 : Int64) := h_4
  refine lv_aload_n hx hb dX1_parse_8 rfl (lv_at hl 0 rfl) ?_
  refine lv_ldc2 (v := 232792560) hx hb hown (htb _ wmt1_117) dX1_parse_9 ?_
  refine va_put (D := (dC, dI)) (ci := 1) (v := .long 232792560) (ty := .long) (C := RX1) (T := TX1) (N := 9) hx hb htb inw1 tyX1 tyX1_ok nmX1 hown hK.1 hP (hDa _) hS 0 rfl rfl 2 (by decide) (htb _ wmt1_120) (fun _ h9 => h9) rfl (by decide +kernel) rfl rfl (Nat.le_of_ble_eq_true rfl) dX1_parse_12 (fun H locs hP _ hS => ?_)
  have hP : va_P (dC, dI) vwCl (zD k a (sJ (sL z 0 (u_2.2.2.2 0)) 0 232792560)) H := hP
  refine lv_aload_n hx hb dX1_parse_15 rfl (lv_at hl 0 rfl) ?_
  refine lv_iconst (v := 0) hx hb dX1_parse_16 (by decide) ?_
  refine va_put (D := (dC, dI)) (ci := 1) (v := .int 0) (ty := .int) (C := RX1) (T := TX1) (N := 9) hx hb htb inw1 tyX1 tyX1_ok nmX1 hown hK.1 hP (hDa _) hS 0 rfl rfl 3 (by decide) (htb _ wmt1_121) (fun _ h9 => h9) rfl (by decide +kernel) rfl rfl (Nat.le_of_ble_eq_true rfl) dX1_parse_17 (fun H locs hP _ hS => ?_)
  have hP : va_P (dC, dI) vwCl (zD k a (sI (sJ (sL z 0 (u_2.2.2.2 0)) 0 232792560) 0 0)) H := hP
  refine lv_iconst (v := 0) hx hb dX1_parse_20 (by decide) ?_
  refine lv_istore_n (lv' := [(1, .int 0), (0, .ref (a 0))]) hx hb dX1_parse_21 rfl hl (by decide) rfl (fun ls hl => ?_)
  obtain ⟨pt, ept⟩ : ∃ x : Int32, 0 = x := ⟨_, rfl⟩
  obtain ⟨at1, eat1⟩ : ∃ x : Int32, 0 = x := ⟨_, rfl⟩
  obtain ⟨cm1, ecm1⟩ : ∃ x : Int64, 232792560 = x := ⟨_, rfl⟩
  obtain ⟨sr1, esr1⟩ : ∃ x : Nat → Int64, u_2.2.2.2 0 = x := ⟨_, rfl⟩
  have hv22 : (0 ≤ pt.toInt ∧ pt.toInt ≤ 60) ∧ (0 ≤ at1.toInt ∧ at1.toInt ≤ 61) ∧ (SB sr1 (232792560 * pt.toInt)) ∧ (0 ≤ cm1.toInt ∧ cm1.toInt ≤ 232792560) ∧ (pL (bX (z.1 1) (z.2.2.1 0)) (z.1 1).toInt (60 - pt.toInt).toNat at1.toInt (acX sr1 cm1) = pA (bX (z.1 1) (z.2.2.1 0)) (z.1 1).toInt) := by subst ept eat1 ecm1 esr1; exact ⟨(by decide), (by decide), (by rw [show (232792560 : Int) * (0 : Int32).toInt = 0 by decide]; exact (acX_0 h_4).2), (by decide), (pA_0 (by decide) (by decide) (acX_0 h_4).1)⟩
  replace hl : lv_has ls 3 [(1, .int pt), (0, .ref (a 0))] := by subst ept eat1 ecm1 esr1; exact hl
  replace hP : va_P (dC, dI) vwCl (zD k a (sL (sJ (sI z 0 at1) 0 cm1) 0 sr1)) H := by subst eat1 ecm1 esr1; exact hP
  clear ept eat1 ecm1 esr1
  obtain ⟨mm22, hm22⟩ : ∃ mm : Nat, mm = (60 - pt.toInt).toNat := ⟨_, rfl⟩
  refine z_cut2 hP hS hl ?_
  clear hl hP
  intro H locs ls hP hS hl
  induction mm22 using Nat.strongRecOn generalizing pt at1 cm1 sr1 H locs ls with
  | _ mm22 ih22 =>
    obtain ⟨hpt, hat, hsb, hcm, hrem⟩ := hv22
    refine lv_iload_n hx hb dX1_parse_22 rfl (lv_at hl 0 rfl) ?_
    refine lv_bipush (v := 60) hx hb dX1_parse_23 (by decide) ?_
    refine lv_icmp_ge (tgt := 90) hx hb dX1_parse_25 (by decide) (fun c_6 => ?_) (fun c_6 => ?_)
    · skip
      have hc_6 := zb_le (show (60 : Int32).toInt = 60 by decide) rfl c_6
      refine lv_aload_n hx hb dX1_parse_90 rfl (lv_at hl 1 rfl) ?_
      refine va_get (D := (dC, dI)) (ci := 1) (v := .int (z.1 1)) (C := RX1) (T := TX1) (N := 9) hx hb htb inw1 hown hK.1 hP 0 rfl rfl 4 (by decide) (htb _ wmt1_122) (fun _ h9 => h9) rfl dX1_parse_91 ?_
      refine lv_topi (fun x_7 ex_7 => ?_)
      have hx_7 : x_7.toInt = (z.1 1).toInt := by rw [ex_7]
      exact W.iret (v := x_7) hx hb hr (fun t ht hW => ⟨⟨x_7, (at1, cm1, sr1), rfl, (show (x_7.toInt = pF (bX (z.1 1) (z.2.2.1 0)) (z.1 1).toInt) ∧ (x_7.toInt = -1 → acX sr1 cm1 = (pA (bX (z.1 1) (z.2.2.1 0)) (z.1 1).toInt).2 ∧ SB sr1 13967553600) from ⟨by unfold pF; rw [← hrem, show (60 - pt.toInt).toNat = 0 by omega, pL_0]; omega, fun q9 => by omega⟩), ⟨by rw [ht]; exact hP, hDa _⟩⟩, hS.F ht⟩) hS.2.2 dX1_parse_94
    · skip
      have hc_6 := zb_nle (show (60 : Int32).toInt = 60 by decide) rfl c_6
      refine lv_aload_n hx hb dX1_parse_28 rfl (lv_at hl 1 rfl) ?_
      refine zcA_i (w := (zD k a (sL (sJ (sI z 0 at1) 0 cm1) 0 sr1))) (va_runV (As := []) (rest := []) ⟨hx, hb, hml, hown, htb⟩ (c_X1_parsePart l dC dI k a (sL (sJ (sI z 0 at1) 0 cm1) 0 sr1) (232792560 * pt.toInt) _ (show 0 ≤ at1.toInt ∧ at1.toInt ≤ 900 by omega) hsb (show 232792560 * pt.toInt ≤ 13967553600 by omega) hcm) (cwV 0 htb (gzV wmt1_229 wmt1_231 wmp1_1 wmt1_6 wmt1_232) rfl rfl rfl (by decide +kernel) ⟨Nat.le_of_ble_eq_true rfl, Nat.le_of_ble_eq_true rfl⟩) (zpA_V (ci := 1) (q0 := 0) hK hP (hDa _) rfl rfl) rfl rfl hl.1 rfl (lv_room (Nat.le_of_ble_eq_true rfl)) dX1_parse_29 ⟨Nat.le_of_ble_eq_true rfl, Nat.le_of_ble_eq_true rfl⟩) (hDa _) hS hA (fun r_8 u_9 H locs w_10 hP _ hS => ?_)
      obtain ⟨oat_11, ocm_12, osh_13⟩ := u_9
      have hP : va_P (dC, dI) vwCl (zD k a (sL (sJ (sI z 0 oat_11) 0 ocm_12) 0 osh_13)) H := hP
      obtain ⟨h_14, h_15⟩ := w_10
      replace h_14 : r_8.toInt = pX (bX ((z.1 1)) ((z.2.2.1 0))) (at1).toInt := h_14
      replace h_15 : r_8.toInt = -1 → oat_11.toInt = a3 (bX ((z.1 1)) ((z.2.2.1 0))) (at1).toInt ∧ acX osh_13 ocm_12 = acU (acX (sr1) (cm1)) (lT (bX ((z.1 1)) ((z.2.2.1 0)) (at1).toInt)) (nV (bX ((z.1 1)) ((z.2.2.1 0))) ((at1).toInt + 1)) (nV (bX ((z.1 1)) ((z.2.2.1 0))) (a2 (bX ((z.1 1)) ((z.2.2.1 0))) (at1).toInt + 1)) ∧ SB osh_13 ((232792560 * pt.toInt) + 232792560) ∧ (0 ≤ ocm_12.toInt ∧ ocm_12.toInt ≤ 232792560) := h_15
      have hpx := h_14
      have hpo := h_15
      refine lv_istore_n (lv' := [(2, .int r_8), (1, .int pt), (0, .ref (a 0))]) hx hb dX1_parse_32 rfl hl (by decide) rfl (fun ls hl => ?_)
      refine lv_iload_n hx hb dX1_parse_33 rfl (lv_at hl 0 rfl) ?_
      refine lv_iconst (v := (-1)) hx hb dX1_parse_34 (by decide) ?_
      refine lv_icmp_eq (tgt := 40) hx hb dX1_parse_35 (by decide) (fun c_17 => ?_) (fun c_17 => ?_)
      · skip
        have hc_17 := zb_eq rfl (show ((-1) : Int32).toInt = (-1) by decide) c_17
        obtain ⟨hp1, hp2, hp3, hp4⟩ := hpo (by omega)
        have hcn := pL_cont (g := (59 - pt.toInt).toNat) (by omega) (by omega) hrem
        rw [← hp2, ← hp1] at hcn
        have hcb1 := nC_b (B := bX (z.1 1) (z.2.2.1 0)) (a := at1.toInt + 1)
        have hcb2 := nC_b (B := bX (z.1 1) (z.2.2.1 0)) (a := a2 (bX (z.1 1) (z.2.2.1 0)) at1.toInt + 1)
        have hoa : at1.toInt ≤ oat_11.toInt ∧ oat_11.toInt ≤ at1.toInt + 6 := by rw [hp1]; unfold a3 a2; unfold a2 at hcb2; omega
        refine lv_aload_n hx hb dX1_parse_40 rfl (lv_at hl 2 rfl) ?_
        refine va_get (D := (dC, dI)) (ci := 1) (v := .int oat_11) (C := RX1) (T := TX1) (N := 9) hx hb htb inw1 hown hK.1 hP 0 rfl rfl 3 (by decide) (htb _ wmt1_121) (fun _ h9 => h9) rfl dX1_parse_41 ?_
        refine lv_aload_n hx hb dX1_parse_44 rfl (lv_at hl 2 rfl) ?_
        refine va_get (D := (dC, dI)) (ci := 1) (v := .int (z.1 1)) (C := RX1) (T := TX1) (N := 9) hx hb htb inw1 hown hK.1 hP 0 rfl rfl 4 (by decide) (htb _ wmt1_122) (fun _ h9 => h9) rfl dX1_parse_45 ?_
        refine lv_topi (fun x_18 ex_18 => ?_)
        have hx_18 : x_18.toInt = (z.1 1).toInt := by rw [ex_18]
        refine lv_icmp_lt (tgt := 56) hx hb dX1_parse_48 (by decide) (fun c_19 => ?_) (fun c_19 => ?_)
        · skip
          have hc_19 := zb_lt rfl rfl c_19
          refine lv_aload_n hx hb dX1_parse_56 rfl (lv_at hl 2 rfl) ?_
          refine lv_aload_n hx hb dX1_parse_57 rfl (lv_at hl 2 rfl) ?_
          refine va_get (D := (dC, dI)) (ci := 1) (v := .int oat_11) (C := RX1) (T := TX1) (N := 9) hx hb htb inw1 hown hK.1 hP 0 rfl rfl 3 (by decide) (htb _ wmt1_121) (fun _ h9 => h9) rfl dX1_parse_58 ?_
          refine zcA_i (w := (zD k a (sL (sJ (sI z 0 oat_11) 0 ocm_12) 0 osh_13))) (va_runV (As := [.int oat_11]) (rest := []) ⟨hx, hb, hml, hown, htb⟩ (c_X1_byteAt l dC dI k a (sL (sJ (sI z 0 oat_11) 0 ocm_12) 0 osh_13) oat_11 _ ) (cwV 1 htb (gzV wmt1_233 wmt1_235 wmp1_2 wmt1_6 wmt1_236) rfl rfl rfl (by decide +kernel) ⟨Nat.le_of_ble_eq_true rfl, Nat.le_of_ble_eq_true rfl⟩) (zpA_V (ci := 1) (q0 := 0) hK hP (hDa _) rfl rfl) rfl rfl hl.1 rfl (lv_room (Nat.le_of_ble_eq_true rfl)) dX1_parse_61 ⟨Nat.le_of_ble_eq_true rfl, Nat.le_of_ble_eq_true rfl⟩) (hDa _) hS hA (fun r_20 u_21 H locs w_22 hP _ hS => ?_)
          have h_23 := w_22
          replace h_23 : r_20.toInt = bX ((z.1 1)) ((z.2.2.1 0)) oat_11.toInt := h_23
          have hby := h_23
          refine lv_bipush (v := 59) hx hb dX1_parse_64 (by decide) ?_
          refine lv_icmp_eq (tgt := 74) hx hb dX1_parse_66 (by decide) (fun c_25 => ?_) (fun c_25 => ?_)
          · skip
            have hc_25 := zb_eq rfl (show (59 : Int32).toInt = 59 by decide) c_25
            refine lv_aload_n hx hb dX1_parse_74 rfl (lv_at hl 2 rfl) ?_
            refine lv_dup hx hb dX1_parse_75 rfl ?_
            refine va_get (D := (dC, dI)) (ci := 1) (v := .int oat_11) (C := RX1) (T := TX1) (N := 9) hx hb htb inw1 hown hK.1 hP 0 rfl rfl 3 (by decide) (htb _ wmt1_121) (fun _ h9 => h9) rfl dX1_parse_76 ?_
            refine lv_iconst (v := 1) hx hb dX1_parse_79 (by decide) ?_
            refine lv_iadd hx hb dX1_parse_80 ?_
            refine lv_topi (fun x_26 ex_26 => ?_)
            have hx_26 := z_add ex_26 rfl (show (1 : Int32).toInt = 1 by decide) (by omega)
            refine va_put (D := (dC, dI)) (ci := 1) (v := .int x_26) (ty := .int) (C := RX1) (T := TX1) (N := 9) hx hb htb inw1 tyX1 tyX1_ok nmX1 hown hK.1 hP (hDa _) hS 0 rfl rfl 3 (by decide) (htb _ wmt1_121) (fun _ h9 => h9) rfl (by decide +kernel) rfl rfl (Nat.le_of_ble_eq_true rfl) dX1_parse_81 (fun H locs hP _ hS => ?_)
            have hP : va_P (dC, dI) vwCl (zD k a (sI (sL (sJ z 0 ocm_12) 0 osh_13) 0 x_26)) H := hP
            obtain ⟨x_27, ex_27⟩ : ∃ y : Int32, y = pt + 1 := ⟨_, rfl⟩
            have hx_27 : x_27.toInt = pt.toInt + 1 := z_add ex_27 rfl (show (1 : Int32).toInt = 1 by decide) (by omega)
            refine lv_iinc (v := x_27) (lv' := [(1, .int x_27), (2, .int r_8), (0, .ref (a 0))]) hx hb dX1_parse_84 hl (k := 1) rfl (by rw [ex_27]; rfl) (by decide) rfl (fun ls hl => ?_)
            refine lv_goto (tgt := 22) hx hb dX1_parse_87 (by decide) ?_
            exact ih22 ((60 - x_27.toInt).toNat) (by omega) x_27 x_26 ocm_12 osh_13 ⟨(show 0 ≤ x_27.toInt ∧ x_27.toInt ≤ 60 by omega), (show 0 ≤ x_26.toInt ∧ x_26.toInt ≤ 61 by omega), (by rw [show 232792560 * x_27.toInt = 232792560 * pt.toInt + 232792560 by omega]; exact hp3), hp4, (by rw [pC_n (by omega) (by omega)] at hcn; rw [show (60 - x_27.toInt).toNat = (59 - pt.toInt).toNat by omega, hx_26]; exact hcn)⟩ rfl H locs ls hP hS (lv_sub hl [0, 2] rfl)
          · skip
            have hc_25 := zb_ne rfl (show (59 : Int32).toInt = 59 by decide) c_25
            refine lv_aload_n hx hb dX1_parse_69 rfl (lv_at hl 2 rfl) ?_
            refine va_get (D := (dC, dI)) (ci := 1) (v := .int oat_11) (C := RX1) (T := TX1) (N := 9) hx hb htb inw1 hown hK.1 hP 0 rfl rfl 3 (by decide) (htb _ wmt1_121) (fun _ h9 => h9) rfl dX1_parse_70 ?_
            exact W.iret (v := oat_11) hx hb hr (fun t ht hW => ⟨⟨oat_11, (oat_11, ocm_12, osh_13), rfl, (show (oat_11.toInt = pF (bX (z.1 1) (z.2.2.1 0)) (z.1 1).toInt) ∧ (oat_11.toInt = -1 → acX osh_13 ocm_12 = (pA (bX (z.1 1) (z.2.2.1 0)) (z.1 1).toInt).2 ∧ SB osh_13 13967553600) from ⟨by unfold pF; rw [← hcn, pC_s (by omega) (by omega)], fun q9 => by omega⟩), ⟨by rw [ht]; exact hP, hDa _⟩⟩, hS.F ht⟩) hS.2.2 dX1_parse_73
        · skip
          have hc_19 := zb_nlt rfl rfl c_19
          refine lv_aload_n hx hb dX1_parse_51 rfl (lv_at hl 2 rfl) ?_
          refine zcA_i (w := (zD k a (sL (sJ (sI z 0 oat_11) 0 ocm_12) 0 osh_13))) (va_runV (As := []) (rest := []) ⟨hx, hb, hml, hown, htb⟩ (c_X1_faultOfShares l dC dI k a (sL (sJ (sI z 0 oat_11) 0 ocm_12) 0 osh_13) _ (fun k hk => ⟨(hp3 k hk).1, Int.le_trans (hp3 k hk).2 (by omega)⟩) hp4) (cwV 0 htb (gzV wmt2_14 wmt2_16 wmp1_5 wmt1_6 wmt2_17) rfl rfl rfl (by decide +kernel) ⟨Nat.le_of_ble_eq_true rfl, Nat.le_of_ble_eq_true rfl⟩) (zpA_V (ci := 1) (q0 := 0) hK hP (hDa _) rfl rfl) rfl rfl hl.1 rfl (lv_room (Nat.le_of_ble_eq_true rfl)) dX1_parse_52 ⟨Nat.le_of_ble_eq_true rfl, Nat.le_of_ble_eq_true rfl⟩) (hDa _) hS hA (fun r_28 u_29 H locs w_30 hP _ hS => ?_)
          have h_31 := w_30
          replace h_31 : r_28.toInt = acF (acX (osh_13) (ocm_12)) ((z.1 1)).toInt := h_31
          have hfs := h_31
          exact W.iret (v := r_28) hx hb hr (fun t ht hW => ⟨⟨r_28, (oat_11, ocm_12, osh_13), rfl, (show (r_28.toInt = pF (bX (z.1 1) (z.2.2.1 0)) (z.1 1).toInt) ∧ (r_28.toInt = -1 → acX osh_13 ocm_12 = (pA (bX (z.1 1) (z.2.2.1 0)) (z.1 1).toInt).2 ∧ SB osh_13 13967553600) from ⟨by unfold pF; rw [← hcn, pC_e (by omega)]; exact hfs, fun _ => ⟨by rw [← hcn, pC_e (by omega)], fun k hk => ⟨(hp3 k hk).1, Int.le_trans (hp3 k hk).2 (by omega)⟩⟩⟩), ⟨by rw [ht]; exact hP, hDa _⟩⟩, hS.F ht⟩) hS.2.2 dX1_parse_55
      · skip
        have hc_17 := zb_ne rfl (show ((-1) : Int32).toInt = (-1) by decide) c_17
        refine lv_iload_n hx hb dX1_parse_38 rfl (lv_at hl 0 rfl) ?_
        exact W.iret (v := r_8) hx hb hr (fun t ht hW => ⟨⟨r_8, (oat_11, ocm_12, osh_13), rfl, (show (r_8.toInt = pF (bX (z.1 1) (z.2.2.1 0)) (z.1 1).toInt) ∧ (r_8.toInt = -1 → acX osh_13 ocm_12 = (pA (bX (z.1 1) (z.2.2.1 0)) (z.1 1).toInt).2 ∧ SB osh_13 13967553600) from ⟨by unfold pF; rw [pL_fail (by omega) (by omega) hrem]; exact hpx, fun q9 => by omega⟩), ⟨by rw [ht]; exact hP, hDa _⟩⟩, hS.F ht⟩) hS.2.2 dX1_parse_39
set_option maxHeartbeats 4000000 in
set_option maxRecDepth 100000 in
theorem c_X1_isFaulty (l : Launch) (dC : Nat → ClassId) (dI : Nat → Nat → Nat) (k : Nat → ClassId) (a : Nat → Nat) (z : ZS) (sz : Nat)  : Met l yX1_isFaulty (wz yX1_isFaulty cX1_isFaulty 1 (some .boolean)) ({ frames := 0, cells := 0, slots := 0, locals := 0 }) (va_Pc [.ref (a 0)] (zPre dC dI k (zTX k) (zD k a z) sz)) (va_Qi (fun (r : Int32) (u : Unit) => (r = 1 ∧ (¬ (z.1 2).toInt = -1)) ∨ (r = 0 ∧ ((z.1 2).toInt = -1))) (fun u t => zPost dC dI (va_A (zD k a z) sz) (zD k a z) t) (va_A (zD k a z) sz)) 0 0 (va_A (zD k a z) sz) := by
  refine Met.ofW (cc := cX1_isFaulty) (maxL := 1) (ret := (some .boolean)) (by decide) rfl ?_
  intro p e s m args below meth c s₁ B hml hv
  obtain ⟨rfl, hsz, hP, hK, hD0⟩ := hv
  have hx := B.exec
  have hb := B.bytes
  have hr := B.returns
  have hts := atoms_spec (ws := wz yX1_isFaulty cX1_isFaulty 1 (some .boolean)) B.pre
  have htb : ∀ w ∈ zw, w.before _ s = true := fun w h => hts w (List.mem_cons_of_mem _ h)
  have hown : s.vm.findClass RX1 = some m.cls := findClass_of_methodNamed B.named
  have hlocks := B.notSynchronized
  clear hts
  subst hsz
  have hD := hD0.self (sz := s.heap.size)
  generalize hAe : va_A (zD k a z) s.heap.size = A at hD ⊢
  have hA : ∀ q : Nat, s.heap.size ≤ q → A q := fun q h => by rw [← hAe]; exact Or.inr h
  have hDa : ∀ z9 : ZS, va_D A (zD k a z9) := fun z9 => va_D_adr (w := zD k a z) rfl hD
  have hl := lv_entry ([.ref (a 0)]) (n := 1) (Nat.le_of_ble_eq_true rfl)
  rw [lg_entry_eq]
  generalize (lg_sl ([.ref (a 0)]) ++ List.replicate (1 - (lg_sl ([.ref (a 0)])).length) Slot.unset).toArray = ls at hl ⊢
  have hl : lv_has ls 1 [(0, .ref (a 0))] := hl
  refine z_start2 (A := A) (w := (zD k a z)) hP (fun H locs hP hS => ?_)
  clear hD0 hAe
  refine lv_aload_n hx hb dX1_isFaulty_0 rfl (lv_at hl 0 rfl) ?_
  refine va_get (D := (dC, dI)) (ci := 1) (v := .int (z.1 2)) (C := RX1) (T := TX1) (N := 9) hx hb htb inw1 hown hK.1 hP 0 rfl rfl 5 (by decide) (htb _ wmt1_124) (fun _ h9 => h9) rfl dX1_isFaulty_1 ?_
  refine lv_topi (fun x_1 ex_1 => ?_)
  have hx_1 : x_1.toInt = (z.1 2).toInt := by rw [ex_1]
  refine lv_iconst (v := (-1)) hx hb dX1_isFaulty_4 (by decide) ?_
  refine lv_icmp_eq (tgt := 12) hx hb dX1_isFaulty_5 (by decide) (fun c_2 => ?_) (fun c_2 => ?_)
  · skip
    have hc_2 := zb_eq rfl (show ((-1) : Int32).toInt = (-1) by decide) c_2
    refine lv_iconst (v := 0) hx hb dX1_isFaulty_12 (by decide) ?_
    exact W.zret (v := 0) (ty := .boolean) hx hb hr rfl (fun t ht hW => ⟨⟨0, (), rfl, Or.inr (⟨rfl, (by first | assumption | omega | decide | rfl)⟩), ⟨by rw [ht]; exact hP, hDa _⟩⟩, hS.F ht⟩) hS.2.2 dX1_isFaulty_13
  · skip
    have hc_2 := zb_ne rfl (show ((-1) : Int32).toInt = (-1) by decide) c_2
    refine lv_iconst (v := 1) hx hb dX1_isFaulty_8 (by decide) ?_
    refine lv_goto (tgt := 13) hx hb dX1_isFaulty_9 (by decide) ?_
    exact W.zret (v := 1) (ty := .boolean) hx hb hr rfl (fun t ht hW => ⟨⟨1, (), rfl, Or.inl (⟨rfl, (by first | assumption | omega | decide | rfl)⟩), ⟨by rw [ht]; exact hP, hDa _⟩⟩, hS.F ht⟩) hS.2.2 dX1_isFaulty_13
set_option maxHeartbeats 4000000 in
set_option maxRecDepth 100000 in
theorem c_X1_tells (l : Launch) (dC : Nat → ClassId) (dI : Nat → Nat → Nat) (k : Nat → ClassId) (a : Nat → Nat) (z : ZS) (sz : Nat)  : Met l yX1_tells (wz yX1_tells cX1_tells 1 (some .boolean)) ({ frames := 0, cells := 0, slots := 0, locals := 0 }) (va_Pc [.ref (a 0)] (zPre dC dI k (zTX k) (zD k a z) sz)) (va_Qi (fun (r : Int32) (u : Unit) => True) (fun u t => zPost dC dI (va_A (zD k a z) sz) (zD k a z) t) (va_A (zD k a z) sz)) 0 0 (va_A (zD k a z) sz) := by
  refine Met.ofW (cc := cX1_tells) (maxL := 1) (ret := (some .boolean)) (by decide) rfl ?_
  intro p e s m args below meth c s₁ B hml hv
  obtain ⟨rfl, hsz, hP, hK, hD0⟩ := hv
  have hx := B.exec
  have hb := B.bytes
  have hr := B.returns
  have hts := atoms_spec (ws := wz yX1_tells cX1_tells 1 (some .boolean)) B.pre
  have htb : ∀ w ∈ zw, w.before _ s = true := fun w h => hts w (List.mem_cons_of_mem _ h)
  have hown : s.vm.findClass RX1 = some m.cls := findClass_of_methodNamed B.named
  have hlocks := B.notSynchronized
  clear hts
  subst hsz
  have hD := hD0.self (sz := s.heap.size)
  generalize hAe : va_A (zD k a z) s.heap.size = A at hD ⊢
  have hA : ∀ q : Nat, s.heap.size ≤ q → A q := fun q h => by rw [← hAe]; exact Or.inr h
  have hDa : ∀ z9 : ZS, va_D A (zD k a z9) := fun z9 => va_D_adr (w := zD k a z) rfl hD
  have hl := lv_entry ([.ref (a 0)]) (n := 1) (Nat.le_of_ble_eq_true rfl)
  rw [lg_entry_eq]
  generalize (lg_sl ([.ref (a 0)]) ++ List.replicate (1 - (lg_sl ([.ref (a 0)])).length) Slot.unset).toArray = ls at hl ⊢
  have hl : lv_has ls 1 [(0, .ref (a 0))] := hl
  refine z_start2 (A := A) (w := (zD k a z)) hP (fun H locs hP hS => ?_)
  clear hD0 hAe
  refine lv_aload_n hx hb dX1_tells_0 rfl (lv_at hl 0 rfl) ?_
  refine va_get (D := (dC, dI)) (ci := 1) (v := .int (z.1 3)) (C := RX1) (T := TX1) (N := 9) hx hb htb inw1 hown hK.1 hP 0 rfl rfl 6 (by decide) (htb _ wmt1_126) (fun _ h9 => h9) rfl dX1_tells_1 ?_
  refine lv_topi (fun x_1 ex_1 => ?_)
  have hx_1 : x_1.toInt = (z.1 3).toInt := by rw [ex_1]
  refine lv_aload_n hx hb dX1_tells_4 rfl (lv_at hl 0 rfl) ?_
  refine va_get (D := (dC, dI)) (ci := 1) (v := .int (z.1 4)) (C := RX1) (T := TX1) (N := 9) hx hb htb inw1 hown hK.1 hP 0 rfl rfl 7 (by decide) (htb _ wmt1_128) (fun _ h9 => h9) rfl dX1_tells_5 ?_
  refine lv_topi (fun x_2 ex_2 => ?_)
  have hx_2 : x_2.toInt = (z.1 4).toInt := by rw [ex_2]
  refine lv_icmp_eq (tgt := 15) hx hb dX1_tells_8 (by decide) (fun c_3 => ?_) (fun c_3 => ?_)
  · skip
    have hc_3 := zb_eq rfl rfl c_3
    refine lv_iconst (v := 0) hx hb dX1_tells_15 (by decide) ?_
    exact W.zret (v := 0) (ty := .boolean) hx hb hr rfl (fun t ht hW => ⟨⟨0, (), rfl, trivial, ⟨by rw [ht]; exact hP, hDa _⟩⟩, hS.F ht⟩) hS.2.2 dX1_tells_16
  · skip
    have hc_3 := zb_ne rfl rfl c_3
    refine lv_iconst (v := 1) hx hb dX1_tells_11 (by decide) ?_
    refine lv_goto (tgt := 16) hx hb dX1_tells_12 (by decide) ?_
    exact W.zret (v := 1) (ty := .boolean) hx hb hr rfl (fun t ht hW => ⟨⟨1, (), rfl, trivial, ⟨by rw [ht]; exact hP, hDa _⟩⟩, hS.F ht⟩) hS.2.2 dX1_tells_16
set_option maxHeartbeats 4000000 in
set_option maxRecDepth 100000 in
theorem c_X1_isWide (l : Launch) (dC : Nat → ClassId) (dI : Nat → Nat → Nat) (k : Nat → ClassId) (a : Nat → Nat) (z : ZS) (sz : Nat)  : Met l yX1_isWide (wz yX1_isWide cX1_isWide 1 (some .boolean)) ({ frames := 0, cells := 0, slots := 0, locals := 0 }) (va_Pc [.ref (a 0)] (zPre dC dI k (zTX k) (zD k a z) sz)) (va_Qi (fun (r : Int32) (u : Unit) => True) (fun u t => zPost dC dI (va_A (zD k a z) sz) (zD k a z) t) (va_A (zD k a z) sz)) 0 0 (va_A (zD k a z) sz) := by
  refine Met.ofW (cc := cX1_isWide) (maxL := 1) (ret := (some .boolean)) (by decide) rfl ?_
  intro p e s m args below meth c s₁ B hml hv
  obtain ⟨rfl, hsz, hP, hK, hD0⟩ := hv
  have hx := B.exec
  have hb := B.bytes
  have hr := B.returns
  have hts := atoms_spec (ws := wz yX1_isWide cX1_isWide 1 (some .boolean)) B.pre
  have htb : ∀ w ∈ zw, w.before _ s = true := fun w h => hts w (List.mem_cons_of_mem _ h)
  have hown : s.vm.findClass RX1 = some m.cls := findClass_of_methodNamed B.named
  have hlocks := B.notSynchronized
  clear hts
  subst hsz
  have hD := hD0.self (sz := s.heap.size)
  generalize hAe : va_A (zD k a z) s.heap.size = A at hD ⊢
  have hA : ∀ q : Nat, s.heap.size ≤ q → A q := fun q h => by rw [← hAe]; exact Or.inr h
  have hDa : ∀ z9 : ZS, va_D A (zD k a z9) := fun z9 => va_D_adr (w := zD k a z) rfl hD
  have hl := lv_entry ([.ref (a 0)]) (n := 1) (Nat.le_of_ble_eq_true rfl)
  rw [lg_entry_eq]
  generalize (lg_sl ([.ref (a 0)]) ++ List.replicate (1 - (lg_sl ([.ref (a 0)])).length) Slot.unset).toArray = ls at hl ⊢
  have hl : lv_has ls 1 [(0, .ref (a 0))] := hl
  refine z_start2 (A := A) (w := (zD k a z)) hP (fun H locs hP hS => ?_)
  clear hD0 hAe
  refine lv_aload_n hx hb dX1_isWide_0 rfl (lv_at hl 0 rfl) ?_
  refine va_get (D := (dC, dI)) (ci := 1) (v := .int (z.1 5)) (C := RX1) (T := TX1) (N := 9) hx hb htb inw1 hown hK.1 hP 0 rfl rfl 8 (by decide) (htb _ wmt1_130) (fun _ h9 => h9) rfl dX1_isWide_1 ?_
  refine lv_topi (fun x_1 ex_1 => ?_)
  have hx_1 : x_1.toInt = (z.1 5).toInt := by rw [ex_1]
  refine lv_bipush (v := 24) hx hb dX1_isWide_4 (by decide) ?_
  refine lv_icmp_le (tgt := 13) hx hb dX1_isWide_6 (by decide) (fun c_2 => ?_) (fun c_2 => ?_)
  · skip
    have hc_2 := zb_le rfl (show (24 : Int32).toInt = 24 by decide) c_2
    refine lv_iconst (v := 0) hx hb dX1_isWide_13 (by decide) ?_
    exact W.zret (v := 0) (ty := .boolean) hx hb hr rfl (fun t ht hW => ⟨⟨0, (), rfl, trivial, ⟨by rw [ht]; exact hP, hDa _⟩⟩, hS.F ht⟩) hS.2.2 dX1_isWide_14
  · skip
    have hc_2 := zb_nle rfl (show (24 : Int32).toInt = 24 by decide) c_2
    refine lv_iconst (v := 1) hx hb dX1_isWide_9 (by decide) ?_
    refine lv_goto (tgt := 14) hx hb dX1_isWide_10 (by decide) ?_
    exact W.zret (v := 1) (ty := .boolean) hx hb hr rfl (fun t ht hW => ⟨⟨1, (), rfl, trivial, ⟨by rw [ht]; exact hP, hDa _⟩⟩, hS.F ht⟩) hS.2.2 dX1_isWide_14
set_option maxHeartbeats 4000000 in
set_option maxRecDepth 100000 in
theorem c_X1_isOpen (l : Launch) (dC : Nat → ClassId) (dI : Nat → Nat → Nat) (k : Nat → ClassId) (a : Nat → Nat) (z : ZS) (sz : Nat)  : Met l yX1_isOpen (wz yX1_isOpen cX1_isOpen 1 (some .boolean)) ({ frames := 0, cells := 0, slots := 0, locals := 0 }) (va_Pc [.ref (a 0)] (zPre dC dI k (zTX k) (zD k a z) sz)) (va_Qi (fun (r : Int32) (u : Unit) => True) (fun u t => zPost dC dI (va_A (zD k a z) sz) (zD k a z) t) (va_A (zD k a z) sz)) 0 0 (va_A (zD k a z) sz) := by
  refine Met.ofW (cc := cX1_isOpen) (maxL := 1) (ret := (some .boolean)) (by decide) rfl ?_
  intro p e s m args below meth c s₁ B hml hv
  obtain ⟨rfl, hsz, hP, hK, hD0⟩ := hv
  have hx := B.exec
  have hb := B.bytes
  have hr := B.returns
  have hts := atoms_spec (ws := wz yX1_isOpen cX1_isOpen 1 (some .boolean)) B.pre
  have htb : ∀ w ∈ zw, w.before _ s = true := fun w h => hts w (List.mem_cons_of_mem _ h)
  have hown : s.vm.findClass RX1 = some m.cls := findClass_of_methodNamed B.named
  have hlocks := B.notSynchronized
  clear hts
  subst hsz
  have hD := hD0.self (sz := s.heap.size)
  generalize hAe : va_A (zD k a z) s.heap.size = A at hD ⊢
  have hA : ∀ q : Nat, s.heap.size ≤ q → A q := fun q h => by rw [← hAe]; exact Or.inr h
  have hDa : ∀ z9 : ZS, va_D A (zD k a z9) := fun z9 => va_D_adr (w := zD k a z) rfl hD
  have hl := lv_entry ([.ref (a 0)]) (n := 1) (Nat.le_of_ble_eq_true rfl)
  rw [lg_entry_eq]
  generalize (lg_sl ([.ref (a 0)]) ++ List.replicate (1 - (lg_sl ([.ref (a 0)])).length) Slot.unset).toArray = ls at hl ⊢
  have hl : lv_has ls 1 [(0, .ref (a 0))] := hl
  refine z_start2 (A := A) (w := (zD k a z)) hP (fun H locs hP hS => ?_)
  clear hD0 hAe
  refine lv_aload_n hx hb dX1_isOpen_0 rfl (lv_at hl 0 rfl) ?_
  refine va_get (D := (dC, dI)) (ci := 1) (v := .int (z.1 3)) (C := RX1) (T := TX1) (N := 9) hx hb htb inw1 hown hK.1 hP 0 rfl rfl 6 (by decide) (htb _ wmt1_126) (fun _ h9 => h9) rfl dX1_isOpen_1 ?_
  refine lv_topi (fun x_1 ex_1 => ?_)
  have hx_1 : x_1.toInt = (z.1 3).toInt := by rw [ex_1]
  refine lv_if_le (tgt := 40) hx hb dX1_isOpen_4 (by decide) (fun c_2 => ?_) (fun c_2 => ?_)
  · skip
    have hc_2 := zb_le rfl (show (0 : Int32).toInt = 0 by decide) c_2
    refine lv_iconst (v := 0) hx hb dX1_isOpen_40 (by decide) ?_
    exact W.zret (v := 0) (ty := .boolean) hx hb hr rfl (fun t ht hW => ⟨⟨0, (), rfl, trivial, ⟨by rw [ht]; exact hP, hDa _⟩⟩, hS.F ht⟩) hS.2.2 dX1_isOpen_41
  · skip
    have hc_2 := zb_nle rfl (show (0 : Int32).toInt = 0 by decide) c_2
    refine lv_aload_n hx hb dX1_isOpen_7 rfl (lv_at hl 0 rfl) ?_
    refine va_get (D := (dC, dI)) (ci := 1) (v := .int (z.1 4)) (C := RX1) (T := TX1) (N := 9) hx hb htb inw1 hown hK.1 hP 0 rfl rfl 7 (by decide) (htb _ wmt1_128) (fun _ h9 => h9) rfl dX1_isOpen_8 ?_
    refine lv_topi (fun x_3 ex_3 => ?_)
    have hx_3 : x_3.toInt = (z.1 4).toInt := by rw [ex_3]
    refine lv_if_le (tgt := 40) hx hb dX1_isOpen_11 (by decide) (fun c_4 => ?_) (fun c_4 => ?_)
    · skip
      have hc_4 := zb_le rfl (show (0 : Int32).toInt = 0 by decide) c_4
      refine lv_iconst (v := 0) hx hb dX1_isOpen_40 (by decide) ?_
      exact W.zret (v := 0) (ty := .boolean) hx hb hr rfl (fun t ht hW => ⟨⟨0, (), rfl, trivial, ⟨by rw [ht]; exact hP, hDa _⟩⟩, hS.F ht⟩) hS.2.2 dX1_isOpen_41
    · skip
      have hc_4 := zb_nle rfl (show (0 : Int32).toInt = 0 by decide) c_4
      refine lv_aload_n hx hb dX1_isOpen_14 rfl (lv_at hl 0 rfl) ?_
      refine va_get (D := (dC, dI)) (ci := 1) (v := .int (z.1 3)) (C := RX1) (T := TX1) (N := 9) hx hb htb inw1 hown hK.1 hP 0 rfl rfl 6 (by decide) (htb _ wmt1_126) (fun _ h9 => h9) rfl dX1_isOpen_15 ?_
      refine z_top (v2 := .int x_1) (congrArg Value.int ex_1.symm) ?_
      refine lv_aload_n hx hb dX1_isOpen_18 rfl (lv_at hl 0 rfl) ?_
      refine va_get (D := (dC, dI)) (ci := 1) (v := .int (z.1 5)) (C := RX1) (T := TX1) (N := 9) hx hb htb inw1 hown hK.1 hP 0 rfl rfl 8 (by decide) (htb _ wmt1_130) (fun _ h9 => h9) rfl dX1_isOpen_19 ?_
      refine lv_topi (fun x_5 ex_5 => ?_)
      have hx_5 : x_5.toInt = (z.1 5).toInt := by rw [ex_5]
      refine lv_icmp_ge (tgt := 40) hx hb dX1_isOpen_22 (by decide) (fun c_6 => ?_) (fun c_6 => ?_)
      · skip
        have hc_6 := zb_le rfl rfl c_6
        refine lv_iconst (v := 0) hx hb dX1_isOpen_40 (by decide) ?_
        exact W.zret (v := 0) (ty := .boolean) hx hb hr rfl (fun t ht hW => ⟨⟨0, (), rfl, trivial, ⟨by rw [ht]; exact hP, hDa _⟩⟩, hS.F ht⟩) hS.2.2 dX1_isOpen_41
      · skip
        have hc_6 := zb_nle rfl rfl c_6
        refine lv_aload_n hx hb dX1_isOpen_25 rfl (lv_at hl 0 rfl) ?_
        refine va_get (D := (dC, dI)) (ci := 1) (v := .int (z.1 4)) (C := RX1) (T := TX1) (N := 9) hx hb htb inw1 hown hK.1 hP 0 rfl rfl 7 (by decide) (htb _ wmt1_128) (fun _ h9 => h9) rfl dX1_isOpen_26 ?_
        refine z_top (v2 := .int x_3) (congrArg Value.int ex_3.symm) ?_
        refine lv_aload_n hx hb dX1_isOpen_29 rfl (lv_at hl 0 rfl) ?_
        refine va_get (D := (dC, dI)) (ci := 1) (v := .int (z.1 5)) (C := RX1) (T := TX1) (N := 9) hx hb htb inw1 hown hK.1 hP 0 rfl rfl 8 (by decide) (htb _ wmt1_130) (fun _ h9 => h9) rfl dX1_isOpen_30 ?_
        refine z_top (v2 := .int x_5) (congrArg Value.int ex_5.symm) ?_
        refine lv_icmp_ge (tgt := 40) hx hb dX1_isOpen_33 (by decide) (fun c_7 => ?_) (fun c_7 => ?_)
        · skip
          have hc_7 := zb_le rfl rfl c_7
          refine lv_iconst (v := 0) hx hb dX1_isOpen_40 (by decide) ?_
          exact W.zret (v := 0) (ty := .boolean) hx hb hr rfl (fun t ht hW => ⟨⟨0, (), rfl, trivial, ⟨by rw [ht]; exact hP, hDa _⟩⟩, hS.F ht⟩) hS.2.2 dX1_isOpen_41
        · skip
          have hc_7 := zb_nle rfl rfl c_7
          refine lv_iconst (v := 1) hx hb dX1_isOpen_36 (by decide) ?_
          refine lv_goto (tgt := 41) hx hb dX1_isOpen_37 (by decide) ?_
          exact W.zret (v := 1) (ty := .boolean) hx hb hr rfl (fun t ht hW => ⟨⟨1, (), rfl, trivial, ⟨by rw [ht]; exact hP, hDa _⟩⟩, hS.F ht⟩) hS.2.2 dX1_isOpen_41
set_option maxHeartbeats 4000000 in
set_option maxRecDepth 100000 in
theorem c_X1_difference (l : Launch) (dC : Nat → ClassId) (dI : Nat → Nat → Nat) (k : Nat → ClassId) (a : Nat → Nat) (z : ZS) (sz : Nat)  : Met l yX1_difference (wz yX1_difference cX1_difference 1 (some .long)) ({ frames := 0, cells := 0, slots := 0, locals := 0 }) (va_Pc [.ref (a 0)] (zPre dC dI k (zTX k) (zD k a z) sz)) (va_Ql (fun (r : Int64) (u : Unit) => True) (fun u t => zPost dC dI (va_A (zD k a z) sz) (zD k a z) t) (va_A (zD k a z) sz)) 0 0 (va_A (zD k a z) sz) := by
  refine Met.ofW (cc := cX1_difference) (maxL := 1) (ret := (some .long)) (by decide) rfl ?_
  intro p e s m args below meth c s₁ B hml hv
  obtain ⟨rfl, hsz, hP, hK, hD0⟩ := hv
  have hx := B.exec
  have hb := B.bytes
  have hr := B.returns
  have hts := atoms_spec (ws := wz yX1_difference cX1_difference 1 (some .long)) B.pre
  have htb : ∀ w ∈ zw, w.before _ s = true := fun w h => hts w (List.mem_cons_of_mem _ h)
  have hown : s.vm.findClass RX1 = some m.cls := findClass_of_methodNamed B.named
  have hlocks := B.notSynchronized
  clear hts
  subst hsz
  have hD := hD0.self (sz := s.heap.size)
  generalize hAe : va_A (zD k a z) s.heap.size = A at hD ⊢
  have hA : ∀ q : Nat, s.heap.size ≤ q → A q := fun q h => by rw [← hAe]; exact Or.inr h
  have hDa : ∀ z9 : ZS, va_D A (zD k a z9) := fun z9 => va_D_adr (w := zD k a z) rfl hD
  have hl := lv_entry ([.ref (a 0)]) (n := 1) (Nat.le_of_ble_eq_true rfl)
  rw [lg_entry_eq]
  generalize (lg_sl ([.ref (a 0)]) ++ List.replicate (1 - (lg_sl ([.ref (a 0)])).length) Slot.unset).toArray = ls at hl ⊢
  have hl : lv_has ls 1 [(0, .ref (a 0))] := hl
  refine z_start2 (A := A) (w := (zD k a z)) hP (fun H locs hP hS => ?_)
  clear hD0 hAe
  refine lv_aload_n hx hb dX1_difference_0 rfl (lv_at hl 0 rfl) ?_
  refine va_get (D := (dC, dI)) (ci := 1) (v := .int (z.1 3)) (C := RX1) (T := TX1) (N := 9) hx hb htb inw1 hown hK.1 hP 0 rfl rfl 6 (by decide) (htb _ wmt1_126) (fun _ h9 => h9) rfl dX1_difference_1 ?_
  refine lv_topi (fun x_1 ex_1 => ?_)
  have hx_1 : x_1.toInt = (z.1 3).toInt := by rw [ex_1]
  refine lv_aload_n hx hb dX1_difference_4 rfl (lv_at hl 0 rfl) ?_
  refine va_get (D := (dC, dI)) (ci := 1) (v := .int (z.1 4)) (C := RX1) (T := TX1) (N := 9) hx hb htb inw1 hown hK.1 hP 0 rfl rfl 7 (by decide) (htb _ wmt1_128) (fun _ h9 => h9) rfl dX1_difference_5 ?_
  refine lv_topi (fun x_2 ex_2 => ?_)
  have hx_2 : x_2.toInt = (z.1 4).toInt := by rw [ex_2]
  refine lv_isub hx hb dX1_difference_8 ?_
  refine lv_topi (fun x_3 ex_3 => ?_)
  refine lv_i2l (v := x_3.toInt64) hx hb dX1_difference_9 rfl ?_
  refine lv_topl (fun x_4 ex_4 => ?_)
  have hx_4 : x_4.toInt = x_3.toInt := by rw [ex_4]; exact Jvm.Kit.i64_of_i32 _
  exact W.lret (v := x_4) hx hb hr (fun t ht hW => ⟨⟨x_4, (), rfl, trivial, ⟨by rw [ht]; exact hP, hDa _⟩⟩, hS.F ht⟩) hS.2.2 dX1_difference_10
set_option maxHeartbeats 4000000 in
set_option maxRecDepth 100000 in
theorem c_X1_lotsIfHas (l : Launch) (dC : Nat → ClassId) (dI : Nat → Nat → Nat) (k : Nat → ClassId) (a : Nat → Nat) (z : ZS) (y : Int32) (sz : Nat)  : Met l yX1_lotsIfHas (wz yX1_lotsIfHas cX1_lotsIfHas 2 (some .long)) ({ frames := 0, cells := 0, slots := 0, locals := 0 }) (va_Pc [.ref (a 0), .int y] (zPre dC dI k (zTX k) (zD k a z) sz)) (va_Ql (fun (r : Int64) (u : Unit) => True) (fun u t => zPost dC dI (va_A (zD k a z) sz) (zD k a z) t) (va_A (zD k a z) sz)) 0 0 (va_A (zD k a z) sz) := by
  refine Met.ofW (cc := cX1_lotsIfHas) (maxL := 2) (ret := (some .long)) (by decide) rfl ?_
  intro p e s m args below meth c s₁ B hml hv
  obtain ⟨rfl, hsz, hP, hK, hD0⟩ := hv
  have hx := B.exec
  have hb := B.bytes
  have hr := B.returns
  have hts := atoms_spec (ws := wz yX1_lotsIfHas cX1_lotsIfHas 2 (some .long)) B.pre
  have htb : ∀ w ∈ zw, w.before _ s = true := fun w h => hts w (List.mem_cons_of_mem _ h)
  have hown : s.vm.findClass RX1 = some m.cls := findClass_of_methodNamed B.named
  have hlocks := B.notSynchronized
  clear hts
  subst hsz
  have hD := hD0.self (sz := s.heap.size)
  generalize hAe : va_A (zD k a z) s.heap.size = A at hD ⊢
  have hA : ∀ q : Nat, s.heap.size ≤ q → A q := fun q h => by rw [← hAe]; exact Or.inr h
  have hDa : ∀ z9 : ZS, va_D A (zD k a z9) := fun z9 => va_D_adr (w := zD k a z) rfl hD
  have hl := lv_entry ([.ref (a 0), .int y]) (n := 2) (Nat.le_of_ble_eq_true rfl)
  rw [lg_entry_eq]
  generalize (lg_sl ([.ref (a 0), .int y]) ++ List.replicate (2 - (lg_sl ([.ref (a 0), .int y])).length) Slot.unset).toArray = ls at hl ⊢
  have hl : lv_has ls 2 [(0, .ref (a 0)), (1, .int y)] := hl
  refine z_start2 (A := A) (w := (zD k a z)) hP (fun H locs hP hS => ?_)
  clear hD0 hAe
  refine lv_iload_n hx hb dX1_lotsIfHas_0 rfl (lv_at hl 1 rfl) ?_
  refine lv_iconst (v := 1) hx hb dX1_lotsIfHas_1 (by decide) ?_
  refine lv_icmp_ne (tgt := 13) hx hb dX1_lotsIfHas_2 (by decide) (fun c_1 => ?_) (fun c_1 => ?_)
  · skip
    have hc_1 := zb_ne rfl (show (1 : Int32).toInt = 1 by decide) c_1
    refine lv_aload_n hx hb dX1_lotsIfHas_13 rfl (lv_at hl 0 rfl) ?_
    refine va_get (D := (dC, dI)) (ci := 1) (v := .int (z.1 5)) (C := RX1) (T := TX1) (N := 9) hx hb htb inw1 hown hK.1 hP 0 rfl rfl 8 (by decide) (htb _ wmt1_130) (fun _ h9 => h9) rfl dX1_lotsIfHas_14 ?_
    refine lv_topi (fun x_2 ex_2 => ?_)
    have hx_2 : x_2.toInt = (z.1 5).toInt := by rw [ex_2]
    refine lv_aload_n hx hb dX1_lotsIfHas_17 rfl (lv_at hl 0 rfl) ?_
    refine va_get (D := (dC, dI)) (ci := 1) (v := .int (z.1 3)) (C := RX1) (T := TX1) (N := 9) hx hb htb inw1 hown hK.1 hP 0 rfl rfl 6 (by decide) (htb _ wmt1_126) (fun _ h9 => h9) rfl dX1_lotsIfHas_18 ?_
    refine lv_topi (fun x_3 ex_3 => ?_)
    have hx_3 : x_3.toInt = (z.1 3).toInt := by rw [ex_3]
    refine lv_isub hx hb dX1_lotsIfHas_21 ?_
    refine lv_topi (fun x_4 ex_4 => ?_)
    refine lv_i2l (v := x_4.toInt64) hx hb dX1_lotsIfHas_22 rfl ?_
    refine lv_topl (fun x_5 ex_5 => ?_)
    have hx_5 : x_5.toInt = x_4.toInt := by rw [ex_5]; exact Jvm.Kit.i64_of_i32 _
    exact W.lret (v := x_5) hx hb hr (fun t ht hW => ⟨⟨x_5, (), rfl, trivial, ⟨by rw [ht]; exact hP, hDa _⟩⟩, hS.F ht⟩) hS.2.2 dX1_lotsIfHas_23
  · skip
    have hc_1 := zb_eq rfl (show (1 : Int32).toInt = 1 by decide) c_1
    refine lv_aload_n hx hb dX1_lotsIfHas_5 rfl (lv_at hl 0 rfl) ?_
    refine va_get (D := (dC, dI)) (ci := 1) (v := .int (z.1 3)) (C := RX1) (T := TX1) (N := 9) hx hb htb inw1 hown hK.1 hP 0 rfl rfl 6 (by decide) (htb _ wmt1_126) (fun _ h9 => h9) rfl dX1_lotsIfHas_6 ?_
    refine lv_topi (fun x_6 ex_6 => ?_)
    have hx_6 : x_6.toInt = (z.1 3).toInt := by rw [ex_6]
    refine lv_i2l (v := x_6.toInt64) hx hb dX1_lotsIfHas_9 rfl ?_
    refine lv_topl (fun x_7 ex_7 => ?_)
    have hx_7 : x_7.toInt = x_6.toInt := by rw [ex_7]; exact Jvm.Kit.i64_of_i32 _
    refine lv_goto (tgt := 23) hx hb dX1_lotsIfHas_10 (by decide) ?_
    exact W.lret (v := x_7) hx hb hr (fun t ht hW => ⟨⟨x_7, (), rfl, trivial, ⟨by rw [ht]; exact hP, hDa _⟩⟩, hS.F ht⟩) hS.2.2 dX1_lotsIfHas_23
set_option maxHeartbeats 4000000 in
set_option maxRecDepth 100000 in
theorem c_X1_lotsIfHasNot (l : Launch) (dC : Nat → ClassId) (dI : Nat → Nat → Nat) (k : Nat → ClassId) (a : Nat → Nat) (z : ZS) (y : Int32) (sz : Nat)  : Met l yX1_lotsIfHasNot (wz yX1_lotsIfHasNot cX1_lotsIfHasNot 2 (some .long)) ({ frames := 0, cells := 0, slots := 0, locals := 0 }) (va_Pc [.ref (a 0), .int y] (zPre dC dI k (zTX k) (zD k a z) sz)) (va_Ql (fun (r : Int64) (u : Unit) => True) (fun u t => zPost dC dI (va_A (zD k a z) sz) (zD k a z) t) (va_A (zD k a z) sz)) 0 0 (va_A (zD k a z) sz) := by
  refine Met.ofW (cc := cX1_lotsIfHasNot) (maxL := 2) (ret := (some .long)) (by decide) rfl ?_
  intro p e s m args below meth c s₁ B hml hv
  obtain ⟨rfl, hsz, hP, hK, hD0⟩ := hv
  have hx := B.exec
  have hb := B.bytes
  have hr := B.returns
  have hts := atoms_spec (ws := wz yX1_lotsIfHasNot cX1_lotsIfHasNot 2 (some .long)) B.pre
  have htb : ∀ w ∈ zw, w.before _ s = true := fun w h => hts w (List.mem_cons_of_mem _ h)
  have hown : s.vm.findClass RX1 = some m.cls := findClass_of_methodNamed B.named
  have hlocks := B.notSynchronized
  clear hts
  subst hsz
  have hD := hD0.self (sz := s.heap.size)
  generalize hAe : va_A (zD k a z) s.heap.size = A at hD ⊢
  have hA : ∀ q : Nat, s.heap.size ≤ q → A q := fun q h => by rw [← hAe]; exact Or.inr h
  have hDa : ∀ z9 : ZS, va_D A (zD k a z9) := fun z9 => va_D_adr (w := zD k a z) rfl hD
  have hl := lv_entry ([.ref (a 0), .int y]) (n := 2) (Nat.le_of_ble_eq_true rfl)
  rw [lg_entry_eq]
  generalize (lg_sl ([.ref (a 0), .int y]) ++ List.replicate (2 - (lg_sl ([.ref (a 0), .int y])).length) Slot.unset).toArray = ls at hl ⊢
  have hl : lv_has ls 2 [(0, .ref (a 0)), (1, .int y)] := hl
  refine z_start2 (A := A) (w := (zD k a z)) hP (fun H locs hP hS => ?_)
  clear hD0 hAe
  refine lv_iload_n hx hb dX1_lotsIfHasNot_0 rfl (lv_at hl 1 rfl) ?_
  refine lv_iconst (v := 1) hx hb dX1_lotsIfHasNot_1 (by decide) ?_
  refine lv_icmp_ne (tgt := 13) hx hb dX1_lotsIfHasNot_2 (by decide) (fun c_1 => ?_) (fun c_1 => ?_)
  · skip
    have hc_1 := zb_ne rfl (show (1 : Int32).toInt = 1 by decide) c_1
    refine lv_aload_n hx hb dX1_lotsIfHasNot_13 rfl (lv_at hl 0 rfl) ?_
    refine va_get (D := (dC, dI)) (ci := 1) (v := .int (z.1 5)) (C := RX1) (T := TX1) (N := 9) hx hb htb inw1 hown hK.1 hP 0 rfl rfl 8 (by decide) (htb _ wmt1_130) (fun _ h9 => h9) rfl dX1_lotsIfHasNot_14 ?_
    refine lv_topi (fun x_2 ex_2 => ?_)
    have hx_2 : x_2.toInt = (z.1 5).toInt := by rw [ex_2]
    refine lv_aload_n hx hb dX1_lotsIfHasNot_17 rfl (lv_at hl 0 rfl) ?_
    refine va_get (D := (dC, dI)) (ci := 1) (v := .int (z.1 4)) (C := RX1) (T := TX1) (N := 9) hx hb htb inw1 hown hK.1 hP 0 rfl rfl 7 (by decide) (htb _ wmt1_128) (fun _ h9 => h9) rfl dX1_lotsIfHasNot_18 ?_
    refine lv_topi (fun x_3 ex_3 => ?_)
    have hx_3 : x_3.toInt = (z.1 4).toInt := by rw [ex_3]
    refine lv_isub hx hb dX1_lotsIfHasNot_21 ?_
    refine lv_topi (fun x_4 ex_4 => ?_)
    refine lv_i2l (v := x_4.toInt64) hx hb dX1_lotsIfHasNot_22 rfl ?_
    refine lv_topl (fun x_5 ex_5 => ?_)
    have hx_5 : x_5.toInt = x_4.toInt := by rw [ex_5]; exact Jvm.Kit.i64_of_i32 _
    exact W.lret (v := x_5) hx hb hr (fun t ht hW => ⟨⟨x_5, (), rfl, trivial, ⟨by rw [ht]; exact hP, hDa _⟩⟩, hS.F ht⟩) hS.2.2 dX1_lotsIfHasNot_23
  · skip
    have hc_1 := zb_eq rfl (show (1 : Int32).toInt = 1 by decide) c_1
    refine lv_aload_n hx hb dX1_lotsIfHasNot_5 rfl (lv_at hl 0 rfl) ?_
    refine va_get (D := (dC, dI)) (ci := 1) (v := .int (z.1 4)) (C := RX1) (T := TX1) (N := 9) hx hb htb inw1 hown hK.1 hP 0 rfl rfl 7 (by decide) (htb _ wmt1_128) (fun _ h9 => h9) rfl dX1_lotsIfHasNot_6 ?_
    refine lv_topi (fun x_6 ex_6 => ?_)
    have hx_6 : x_6.toInt = (z.1 4).toInt := by rw [ex_6]
    refine lv_i2l (v := x_6.toInt64) hx hb dX1_lotsIfHasNot_9 rfl ?_
    refine lv_topl (fun x_7 ex_7 => ?_)
    have hx_7 : x_7.toInt = x_6.toInt := by rw [ex_7]; exact Jvm.Kit.i64_of_i32 _
    refine lv_goto (tgt := 23) hx hb dX1_lotsIfHasNot_10 (by decide) ?_
    exact W.lret (v := x_7) hx hb hr (fun t ht hW => ⟨⟨x_7, (), rfl, trivial, ⟨by rw [ht]; exact hP, hDa _⟩⟩, hS.F ht⟩) hS.2.2 dX1_lotsIfHasNot_23
set_option maxHeartbeats 4000000 in
set_option maxRecDepth 100000 in
theorem c_X1_weight (l : Launch) (dC : Nat → ClassId) (dI : Nat → Nat → Nat) (k : Nat → ClassId) (a : Nat → Nat) (z : ZS) (ha : Int32) (y : Int32) (sz : Nat)  : Met l yX1_weight (wz yX1_weight cX1_weight 3 (some .long)) ({ frames := 0, cells := 0, slots := 0, locals := 0 }) (va_Pc [.ref (a 0), .int ha, .int y] (zPre dC dI k (zTX k) (zD k a z) sz)) (va_Ql (fun (r : Int64) (u : Unit) => True) (fun u t => zPost dC dI (va_A (zD k a z) sz) (zD k a z) t) (va_A (zD k a z) sz)) 0 0 (va_A (zD k a z) sz) := by
  refine Met.ofW (cc := cX1_weight) (maxL := 3) (ret := (some .long)) (by decide) rfl ?_
  intro p e s m args below meth c s₁ B hml hv
  obtain ⟨rfl, hsz, hP, hK, hD0⟩ := hv
  have hx := B.exec
  have hb := B.bytes
  have hr := B.returns
  have hts := atoms_spec (ws := wz yX1_weight cX1_weight 3 (some .long)) B.pre
  have htb : ∀ w ∈ zw, w.before _ s = true := fun w h => hts w (List.mem_cons_of_mem _ h)
  have hown : s.vm.findClass RX1 = some m.cls := findClass_of_methodNamed B.named
  have hlocks := B.notSynchronized
  clear hts
  subst hsz
  have hD := hD0.self (sz := s.heap.size)
  generalize hAe : va_A (zD k a z) s.heap.size = A at hD ⊢
  have hA : ∀ q : Nat, s.heap.size ≤ q → A q := fun q h => by rw [← hAe]; exact Or.inr h
  have hDa : ∀ z9 : ZS, va_D A (zD k a z9) := fun z9 => va_D_adr (w := zD k a z) rfl hD
  have hl := lv_entry ([.ref (a 0), .int ha, .int y]) (n := 3) (Nat.le_of_ble_eq_true rfl)
  rw [lg_entry_eq]
  generalize (lg_sl ([.ref (a 0), .int ha, .int y]) ++ List.replicate (3 - (lg_sl ([.ref (a 0), .int ha, .int y])).length) Slot.unset).toArray = ls at hl ⊢
  have hl : lv_has ls 3 [(0, .ref (a 0)), (1, .int ha), (2, .int y)] := hl
  refine z_start2 (A := A) (w := (zD k a z)) hP (fun H locs hP hS => ?_)
  clear hD0 hAe
  refine lv_iload_n hx hb dX1_weight_0 rfl (lv_at hl 1 rfl) ?_
  refine lv_if_eq (tgt := 29) hx hb dX1_weight_1 (by decide) (fun c_1 => ?_) (fun c_1 => ?_)
  · skip
    have hc_1 := zb_eq rfl (show (0 : Int32).toInt = 0 by decide) c_1
    refine lv_iload_n hx hb dX1_weight_29 rfl (lv_at hl 2 rfl) ?_
    refine lv_iconst (v := 1) hx hb dX1_weight_30 (by decide) ?_
    refine lv_icmp_ne (tgt := 47) hx hb dX1_weight_31 (by decide) (fun c_2 => ?_) (fun c_2 => ?_)
    · skip
      have hc_2 := zb_ne rfl (show (1 : Int32).toInt = 1 by decide) c_2
      refine lv_aload_n hx hb dX1_weight_47 rfl (lv_at hl 0 rfl) ?_
      refine va_get (D := (dC, dI)) (ci := 1) (v := .int (z.1 3)) (C := RX1) (T := TX1) (N := 9) hx hb htb inw1 hown hK.1 hP 0 rfl rfl 6 (by decide) (htb _ wmt1_126) (fun _ h9 => h9) rfl dX1_weight_48 ?_
      refine lv_topi (fun x_3 ex_3 => ?_)
      have hx_3 : x_3.toInt = (z.1 3).toInt := by rw [ex_3]
      refine lv_i2l (v := x_3.toInt64) hx hb dX1_weight_51 rfl ?_
      refine lv_topl (fun x_4 ex_4 => ?_)
      have hx_4 : x_4.toInt = x_3.toInt := by rw [ex_4]; exact Jvm.Kit.i64_of_i32 _
      exact W.lret (v := x_4) hx hb hr (fun t ht hW => ⟨⟨x_4, (), rfl, trivial, ⟨by rw [ht]; exact hP, hDa _⟩⟩, hS.F ht⟩) hS.2.2 dX1_weight_52
    · skip
      have hc_2 := zb_eq rfl (show (1 : Int32).toInt = 1 by decide) c_2
      refine lv_aload_n hx hb dX1_weight_34 rfl (lv_at hl 0 rfl) ?_
      refine va_get (D := (dC, dI)) (ci := 1) (v := .int (z.1 3)) (C := RX1) (T := TX1) (N := 9) hx hb htb inw1 hown hK.1 hP 0 rfl rfl 6 (by decide) (htb _ wmt1_126) (fun _ h9 => h9) rfl dX1_weight_35 ?_
      refine lv_topi (fun x_5 ex_5 => ?_)
      have hx_5 : x_5.toInt = (z.1 3).toInt := by rw [ex_5]
      refine lv_aload_n hx hb dX1_weight_38 rfl (lv_at hl 0 rfl) ?_
      refine va_get (D := (dC, dI)) (ci := 1) (v := .int (z.1 5)) (C := RX1) (T := TX1) (N := 9) hx hb htb inw1 hown hK.1 hP 0 rfl rfl 8 (by decide) (htb _ wmt1_130) (fun _ h9 => h9) rfl dX1_weight_39 ?_
      refine lv_topi (fun x_6 ex_6 => ?_)
      have hx_6 : x_6.toInt = (z.1 5).toInt := by rw [ex_6]
      refine lv_isub hx hb dX1_weight_42 ?_
      refine lv_topi (fun x_7 ex_7 => ?_)
      refine lv_i2l (v := x_7.toInt64) hx hb dX1_weight_43 rfl ?_
      refine lv_topl (fun x_8 ex_8 => ?_)
      have hx_8 : x_8.toInt = x_7.toInt := by rw [ex_8]; exact Jvm.Kit.i64_of_i32 _
      refine lv_goto (tgt := 52) hx hb dX1_weight_44 (by decide) ?_
      exact W.lret (v := x_8) hx hb hr (fun t ht hW => ⟨⟨x_8, (), rfl, trivial, ⟨by rw [ht]; exact hP, hDa _⟩⟩, hS.F ht⟩) hS.2.2 dX1_weight_52
  · skip
    have hc_1 := zb_ne rfl (show (0 : Int32).toInt = 0 by decide) c_1
    refine lv_iload_n hx hb dX1_weight_4 rfl (lv_at hl 2 rfl) ?_
    refine lv_iconst (v := 1) hx hb dX1_weight_5 (by decide) ?_
    refine lv_icmp_ne (tgt := 22) hx hb dX1_weight_6 (by decide) (fun c_9 => ?_) (fun c_9 => ?_)
    · skip
      have hc_9 := zb_ne rfl (show (1 : Int32).toInt = 1 by decide) c_9
      refine lv_aload_n hx hb dX1_weight_22 rfl (lv_at hl 0 rfl) ?_
      refine va_get (D := (dC, dI)) (ci := 1) (v := .int (z.1 4)) (C := RX1) (T := TX1) (N := 9) hx hb htb inw1 hown hK.1 hP 0 rfl rfl 7 (by decide) (htb _ wmt1_128) (fun _ h9 => h9) rfl dX1_weight_23 ?_
      refine lv_topi (fun x_10 ex_10 => ?_)
      have hx_10 : x_10.toInt = (z.1 4).toInt := by rw [ex_10]
      refine lv_ineg hx hb dX1_weight_26 ?_
      refine lv_topi (fun x_11 ex_11 => ?_)
      refine lv_i2l (v := x_11.toInt64) hx hb dX1_weight_27 rfl ?_
      refine lv_topl (fun x_12 ex_12 => ?_)
      have hx_12 : x_12.toInt = x_11.toInt := by rw [ex_12]; exact Jvm.Kit.i64_of_i32 _
      exact W.lret (v := x_12) hx hb hr (fun t ht hW => ⟨⟨x_12, (), rfl, trivial, ⟨by rw [ht]; exact hP, hDa _⟩⟩, hS.F ht⟩) hS.2.2 dX1_weight_28
    · skip
      have hc_9 := zb_eq rfl (show (1 : Int32).toInt = 1 by decide) c_9
      refine lv_aload_n hx hb dX1_weight_9 rfl (lv_at hl 0 rfl) ?_
      refine va_get (D := (dC, dI)) (ci := 1) (v := .int (z.1 5)) (C := RX1) (T := TX1) (N := 9) hx hb htb inw1 hown hK.1 hP 0 rfl rfl 8 (by decide) (htb _ wmt1_130) (fun _ h9 => h9) rfl dX1_weight_10 ?_
      refine lv_topi (fun x_13 ex_13 => ?_)
      have hx_13 : x_13.toInt = (z.1 5).toInt := by rw [ex_13]
      refine lv_aload_n hx hb dX1_weight_13 rfl (lv_at hl 0 rfl) ?_
      refine va_get (D := (dC, dI)) (ci := 1) (v := .int (z.1 4)) (C := RX1) (T := TX1) (N := 9) hx hb htb inw1 hown hK.1 hP 0 rfl rfl 7 (by decide) (htb _ wmt1_128) (fun _ h9 => h9) rfl dX1_weight_14 ?_
      refine lv_topi (fun x_14 ex_14 => ?_)
      have hx_14 : x_14.toInt = (z.1 4).toInt := by rw [ex_14]
      refine lv_isub hx hb dX1_weight_17 ?_
      refine lv_topi (fun x_15 ex_15 => ?_)
      refine lv_i2l (v := x_15.toInt64) hx hb dX1_weight_18 rfl ?_
      refine lv_topl (fun x_16 ex_16 => ?_)
      have hx_16 : x_16.toInt = x_15.toInt := by rw [ex_16]; exact Jvm.Kit.i64_of_i32 _
      refine lv_goto (tgt := 28) hx hb dX1_weight_19 (by decide) ?_
      exact W.lret (v := x_16) hx hb hr (fun t ht hW => ⟨⟨x_16, (), rfl, trivial, ⟨by rw [ht]; exact hP, hDa _⟩⟩, hS.F ht⟩) hS.2.2 dX1_weight_28
set_option maxHeartbeats 4000000 in
set_option maxRecDepth 100000 in
theorem c_X1_lotsIfHas_v (l : Launch) (dC : Nat → ClassId) (dI : Nat → Nat → Nat) (k : Nat → ClassId) (a : Nat → Nat) (z : ZS) (y : Int32) (sz : Nat) (hb9 : (0 ≤ (z.1 3).toInt ∧ (z.1 3).toInt ≤ 576) ∧ (0 ≤ (z.1 4).toInt ∧ (z.1 4).toInt ≤ 576) ∧ (0 ≤ (z.1 5).toInt ∧ (z.1 5).toInt ≤ 576)) : Met l yX1_lotsIfHas (wz yX1_lotsIfHas cX1_lotsIfHas 2 (some .long)) ({ frames := 0, cells := 0, slots := 0, locals := 0 }) (va_Pc [.ref (a 0), .int y] (zPre dC dI k (zTX k) (zD k a z) sz)) (va_Ql (fun (r : Int64) (u : Unit) => (r.toInt = gA y.toInt (z.1 5).toInt (z.1 3).toInt)) (fun u t => zPost dC dI (va_A (zD k a z) sz) (zD k a z) t) (va_A (zD k a z) sz)) 0 0 (va_A (zD k a z) sz) := by
  refine Met.ofW (cc := cX1_lotsIfHas) (maxL := 2) (ret := (some .long)) (by decide) rfl ?_
  intro p e s m args below meth c s₁ B hml hv
  obtain ⟨rfl, hsz, hP, hK, hD0⟩ := hv
  have hx := B.exec
  have hb := B.bytes
  have hr := B.returns
  have hts := atoms_spec (ws := wz yX1_lotsIfHas cX1_lotsIfHas 2 (some .long)) B.pre
  have htb : ∀ w ∈ zw, w.before _ s = true := fun w h => hts w (List.mem_cons_of_mem _ h)
  have hown : s.vm.findClass RX1 = some m.cls := findClass_of_methodNamed B.named
  have hlocks := B.notSynchronized
  clear hts
  subst hsz
  have hD := hD0.self (sz := s.heap.size)
  generalize hAe : va_A (zD k a z) s.heap.size = A at hD ⊢
  have hA : ∀ q : Nat, s.heap.size ≤ q → A q := fun q h => by rw [← hAe]; exact Or.inr h
  have hDa : ∀ z9 : ZS, va_D A (zD k a z9) := fun z9 => va_D_adr (w := zD k a z) rfl hD
  have hl := lv_entry ([.ref (a 0), .int y]) (n := 2) (Nat.le_of_ble_eq_true rfl)
  rw [lg_entry_eq]
  generalize (lg_sl ([.ref (a 0), .int y]) ++ List.replicate (2 - (lg_sl ([.ref (a 0), .int y])).length) Slot.unset).toArray = ls at hl ⊢
  have hl : lv_has ls 2 [(0, .ref (a 0)), (1, .int y)] := hl
  refine z_start2 (A := A) (w := (zD k a z)) hP (fun H locs hP hS => ?_)
  clear hD0 hAe
  refine lv_iload_n hx hb dX1_lotsIfHas_0 rfl (lv_at hl 1 rfl) ?_
  refine lv_iconst (v := 1) hx hb dX1_lotsIfHas_1 (by decide) ?_
  refine lv_icmp_ne (tgt := 13) hx hb dX1_lotsIfHas_2 (by decide) (fun c_1 => ?_) (fun c_1 => ?_)
  · skip
    have hc_1 := zb_ne rfl (show (1 : Int32).toInt = 1 by decide) c_1
    refine lv_aload_n hx hb dX1_lotsIfHas_13 rfl (lv_at hl 0 rfl) ?_
    refine va_get (D := (dC, dI)) (ci := 1) (v := .int (z.1 5)) (C := RX1) (T := TX1) (N := 9) hx hb htb inw1 hown hK.1 hP 0 rfl rfl 8 (by decide) (htb _ wmt1_130) (fun _ h9 => h9) rfl dX1_lotsIfHas_14 ?_
    refine lv_topi (fun x_2 ex_2 => ?_)
    have hx_2 : x_2.toInt = (z.1 5).toInt := by rw [ex_2]
    refine lv_aload_n hx hb dX1_lotsIfHas_17 rfl (lv_at hl 0 rfl) ?_
    refine va_get (D := (dC, dI)) (ci := 1) (v := .int (z.1 3)) (C := RX1) (T := TX1) (N := 9) hx hb htb inw1 hown hK.1 hP 0 rfl rfl 6 (by decide) (htb _ wmt1_126) (fun _ h9 => h9) rfl dX1_lotsIfHas_18 ?_
    refine lv_topi (fun x_3 ex_3 => ?_)
    have hx_3 : x_3.toInt = (z.1 3).toInt := by rw [ex_3]
    refine lv_isub hx hb dX1_lotsIfHas_21 ?_
    refine lv_topi (fun x_4 ex_4 => ?_)
    have hx_4 := z_sub ex_4 rfl rfl (by omega)
    refine lv_i2l (v := x_4.toInt64) hx hb dX1_lotsIfHas_22 rfl ?_
    refine lv_topl (fun x_5 ex_5 => ?_)
    have hx_5 : x_5.toInt = x_4.toInt := by rw [ex_5]; exact Jvm.Kit.i64_of_i32 _
    exact W.lret (v := x_5) hx hb hr (fun t ht hW => ⟨⟨x_5, (), rfl, (by unfold gA; split <;> omega), ⟨by rw [ht]; exact hP, hDa _⟩⟩, hS.F ht⟩) hS.2.2 dX1_lotsIfHas_23
  · skip
    have hc_1 := zb_eq rfl (show (1 : Int32).toInt = 1 by decide) c_1
    refine lv_aload_n hx hb dX1_lotsIfHas_5 rfl (lv_at hl 0 rfl) ?_
    refine va_get (D := (dC, dI)) (ci := 1) (v := .int (z.1 3)) (C := RX1) (T := TX1) (N := 9) hx hb htb inw1 hown hK.1 hP 0 rfl rfl 6 (by decide) (htb _ wmt1_126) (fun _ h9 => h9) rfl dX1_lotsIfHas_6 ?_
    refine lv_topi (fun x_6 ex_6 => ?_)
    have hx_6 : x_6.toInt = (z.1 3).toInt := by rw [ex_6]
    refine lv_i2l (v := x_6.toInt64) hx hb dX1_lotsIfHas_9 rfl ?_
    refine lv_topl (fun x_7 ex_7 => ?_)
    have hx_7 : x_7.toInt = x_6.toInt := by rw [ex_7]; exact Jvm.Kit.i64_of_i32 _
    refine lv_goto (tgt := 23) hx hb dX1_lotsIfHas_10 (by decide) ?_
    exact W.lret (v := x_7) hx hb hr (fun t ht hW => ⟨⟨x_7, (), rfl, (by unfold gA; split <;> omega), ⟨by rw [ht]; exact hP, hDa _⟩⟩, hS.F ht⟩) hS.2.2 dX1_lotsIfHas_23
set_option maxHeartbeats 4000000 in
set_option maxRecDepth 100000 in
theorem c_X1_lotsIfHasNot_v (l : Launch) (dC : Nat → ClassId) (dI : Nat → Nat → Nat) (k : Nat → ClassId) (a : Nat → Nat) (z : ZS) (y : Int32) (sz : Nat) (hb9 : (0 ≤ (z.1 3).toInt ∧ (z.1 3).toInt ≤ 576) ∧ (0 ≤ (z.1 4).toInt ∧ (z.1 4).toInt ≤ 576) ∧ (0 ≤ (z.1 5).toInt ∧ (z.1 5).toInt ≤ 576)) : Met l yX1_lotsIfHasNot (wz yX1_lotsIfHasNot cX1_lotsIfHasNot 2 (some .long)) ({ frames := 0, cells := 0, slots := 0, locals := 0 }) (va_Pc [.ref (a 0), .int y] (zPre dC dI k (zTX k) (zD k a z) sz)) (va_Ql (fun (r : Int64) (u : Unit) => (r.toInt = gA y.toInt (z.1 5).toInt (z.1 4).toInt)) (fun u t => zPost dC dI (va_A (zD k a z) sz) (zD k a z) t) (va_A (zD k a z) sz)) 0 0 (va_A (zD k a z) sz) := by
  refine Met.ofW (cc := cX1_lotsIfHasNot) (maxL := 2) (ret := (some .long)) (by decide) rfl ?_
  intro p e s m args below meth c s₁ B hml hv
  obtain ⟨rfl, hsz, hP, hK, hD0⟩ := hv
  have hx := B.exec
  have hb := B.bytes
  have hr := B.returns
  have hts := atoms_spec (ws := wz yX1_lotsIfHasNot cX1_lotsIfHasNot 2 (some .long)) B.pre
  have htb : ∀ w ∈ zw, w.before _ s = true := fun w h => hts w (List.mem_cons_of_mem _ h)
  have hown : s.vm.findClass RX1 = some m.cls := findClass_of_methodNamed B.named
  have hlocks := B.notSynchronized
  clear hts
  subst hsz
  have hD := hD0.self (sz := s.heap.size)
  generalize hAe : va_A (zD k a z) s.heap.size = A at hD ⊢
  have hA : ∀ q : Nat, s.heap.size ≤ q → A q := fun q h => by rw [← hAe]; exact Or.inr h
  have hDa : ∀ z9 : ZS, va_D A (zD k a z9) := fun z9 => va_D_adr (w := zD k a z) rfl hD
  have hl := lv_entry ([.ref (a 0), .int y]) (n := 2) (Nat.le_of_ble_eq_true rfl)
  rw [lg_entry_eq]
  generalize (lg_sl ([.ref (a 0), .int y]) ++ List.replicate (2 - (lg_sl ([.ref (a 0), .int y])).length) Slot.unset).toArray = ls at hl ⊢
  have hl : lv_has ls 2 [(0, .ref (a 0)), (1, .int y)] := hl
  refine z_start2 (A := A) (w := (zD k a z)) hP (fun H locs hP hS => ?_)
  clear hD0 hAe
  refine lv_iload_n hx hb dX1_lotsIfHasNot_0 rfl (lv_at hl 1 rfl) ?_
  refine lv_iconst (v := 1) hx hb dX1_lotsIfHasNot_1 (by decide) ?_
  refine lv_icmp_ne (tgt := 13) hx hb dX1_lotsIfHasNot_2 (by decide) (fun c_1 => ?_) (fun c_1 => ?_)
  · skip
    have hc_1 := zb_ne rfl (show (1 : Int32).toInt = 1 by decide) c_1
    refine lv_aload_n hx hb dX1_lotsIfHasNot_13 rfl (lv_at hl 0 rfl) ?_
    refine va_get (D := (dC, dI)) (ci := 1) (v := .int (z.1 5)) (C := RX1) (T := TX1) (N := 9) hx hb htb inw1 hown hK.1 hP 0 rfl rfl 8 (by decide) (htb _ wmt1_130) (fun _ h9 => h9) rfl dX1_lotsIfHasNot_14 ?_
    refine lv_topi (fun x_2 ex_2 => ?_)
    have hx_2 : x_2.toInt = (z.1 5).toInt := by rw [ex_2]
    refine lv_aload_n hx hb dX1_lotsIfHasNot_17 rfl (lv_at hl 0 rfl) ?_
    refine va_get (D := (dC, dI)) (ci := 1) (v := .int (z.1 4)) (C := RX1) (T := TX1) (N := 9) hx hb htb inw1 hown hK.1 hP 0 rfl rfl 7 (by decide) (htb _ wmt1_128) (fun _ h9 => h9) rfl dX1_lotsIfHasNot_18 ?_
    refine lv_topi (fun x_3 ex_3 => ?_)
    have hx_3 : x_3.toInt = (z.1 4).toInt := by rw [ex_3]
    refine lv_isub hx hb dX1_lotsIfHasNot_21 ?_
    refine lv_topi (fun x_4 ex_4 => ?_)
    have hx_4 := z_sub ex_4 rfl rfl (by omega)
    refine lv_i2l (v := x_4.toInt64) hx hb dX1_lotsIfHasNot_22 rfl ?_
    refine lv_topl (fun x_5 ex_5 => ?_)
    have hx_5 : x_5.toInt = x_4.toInt := by rw [ex_5]; exact Jvm.Kit.i64_of_i32 _
    exact W.lret (v := x_5) hx hb hr (fun t ht hW => ⟨⟨x_5, (), rfl, (by unfold gA; split <;> omega), ⟨by rw [ht]; exact hP, hDa _⟩⟩, hS.F ht⟩) hS.2.2 dX1_lotsIfHasNot_23
  · skip
    have hc_1 := zb_eq rfl (show (1 : Int32).toInt = 1 by decide) c_1
    refine lv_aload_n hx hb dX1_lotsIfHasNot_5 rfl (lv_at hl 0 rfl) ?_
    refine va_get (D := (dC, dI)) (ci := 1) (v := .int (z.1 4)) (C := RX1) (T := TX1) (N := 9) hx hb htb inw1 hown hK.1 hP 0 rfl rfl 7 (by decide) (htb _ wmt1_128) (fun _ h9 => h9) rfl dX1_lotsIfHasNot_6 ?_
    refine lv_topi (fun x_6 ex_6 => ?_)
    have hx_6 : x_6.toInt = (z.1 4).toInt := by rw [ex_6]
    refine lv_i2l (v := x_6.toInt64) hx hb dX1_lotsIfHasNot_9 rfl ?_
    refine lv_topl (fun x_7 ex_7 => ?_)
    have hx_7 : x_7.toInt = x_6.toInt := by rw [ex_7]; exact Jvm.Kit.i64_of_i32 _
    refine lv_goto (tgt := 23) hx hb dX1_lotsIfHasNot_10 (by decide) ?_
    exact W.lret (v := x_7) hx hb hr (fun t ht hW => ⟨⟨x_7, (), rfl, (by unfold gA; split <;> omega), ⟨by rw [ht]; exact hP, hDa _⟩⟩, hS.F ht⟩) hS.2.2 dX1_lotsIfHasNot_23
set_option maxHeartbeats 4000000 in
set_option maxRecDepth 100000 in
theorem c_X1_isOpen_v (l : Launch) (dC : Nat → ClassId) (dI : Nat → Nat → Nat) (k : Nat → ClassId) (a : Nat → Nat) (z : ZS) (sz : Nat)  : Met l yX1_isOpen (wz yX1_isOpen cX1_isOpen 1 (some .boolean)) ({ frames := 0, cells := 0, slots := 0, locals := 0 }) (va_Pc [.ref (a 0)] (zPre dC dI k (zTX k) (zD k a z) sz)) (va_Qi (fun (r : Int32) (u : Unit) => (r = 1 ∧ (opn (z.1 5).toInt (z.1 3).toInt (z.1 4).toInt)) ∨ (r = 0 ∧ (¬ opn (z.1 5).toInt (z.1 3).toInt (z.1 4).toInt))) (fun u t => zPost dC dI (va_A (zD k a z) sz) (zD k a z) t) (va_A (zD k a z) sz)) 0 0 (va_A (zD k a z) sz) := by
  refine Met.ofW (cc := cX1_isOpen) (maxL := 1) (ret := (some .boolean)) (by decide) rfl ?_
  intro p e s m args below meth c s₁ B hml hv
  obtain ⟨rfl, hsz, hP, hK, hD0⟩ := hv
  have hx := B.exec
  have hb := B.bytes
  have hr := B.returns
  have hts := atoms_spec (ws := wz yX1_isOpen cX1_isOpen 1 (some .boolean)) B.pre
  have htb : ∀ w ∈ zw, w.before _ s = true := fun w h => hts w (List.mem_cons_of_mem _ h)
  have hown : s.vm.findClass RX1 = some m.cls := findClass_of_methodNamed B.named
  have hlocks := B.notSynchronized
  clear hts
  subst hsz
  have hD := hD0.self (sz := s.heap.size)
  generalize hAe : va_A (zD k a z) s.heap.size = A at hD ⊢
  have hA : ∀ q : Nat, s.heap.size ≤ q → A q := fun q h => by rw [← hAe]; exact Or.inr h
  have hDa : ∀ z9 : ZS, va_D A (zD k a z9) := fun z9 => va_D_adr (w := zD k a z) rfl hD
  have hl := lv_entry ([.ref (a 0)]) (n := 1) (Nat.le_of_ble_eq_true rfl)
  rw [lg_entry_eq]
  generalize (lg_sl ([.ref (a 0)]) ++ List.replicate (1 - (lg_sl ([.ref (a 0)])).length) Slot.unset).toArray = ls at hl ⊢
  have hl : lv_has ls 1 [(0, .ref (a 0))] := hl
  refine z_start2 (A := A) (w := (zD k a z)) hP (fun H locs hP hS => ?_)
  clear hD0 hAe
  refine lv_aload_n hx hb dX1_isOpen_0 rfl (lv_at hl 0 rfl) ?_
  refine va_get (D := (dC, dI)) (ci := 1) (v := .int (z.1 3)) (C := RX1) (T := TX1) (N := 9) hx hb htb inw1 hown hK.1 hP 0 rfl rfl 6 (by decide) (htb _ wmt1_126) (fun _ h9 => h9) rfl dX1_isOpen_1 ?_
  refine lv_topi (fun x_1 ex_1 => ?_)
  have hx_1 : x_1.toInt = (z.1 3).toInt := by rw [ex_1]
  refine lv_if_le (tgt := 40) hx hb dX1_isOpen_4 (by decide) (fun c_2 => ?_) (fun c_2 => ?_)
  · skip
    have hc_2 := zb_le rfl (show (0 : Int32).toInt = 0 by decide) c_2
    refine lv_iconst (v := 0) hx hb dX1_isOpen_40 (by decide) ?_
    exact W.zret (v := 0) (ty := .boolean) hx hb hr rfl (fun t ht hW => ⟨⟨0, (), rfl, (Or.inr ⟨rfl, (by unfold opn; omega)⟩), ⟨by rw [ht]; exact hP, hDa _⟩⟩, hS.F ht⟩) hS.2.2 dX1_isOpen_41
  · skip
    have hc_2 := zb_nle rfl (show (0 : Int32).toInt = 0 by decide) c_2
    refine lv_aload_n hx hb dX1_isOpen_7 rfl (lv_at hl 0 rfl) ?_
    refine va_get (D := (dC, dI)) (ci := 1) (v := .int (z.1 4)) (C := RX1) (T := TX1) (N := 9) hx hb htb inw1 hown hK.1 hP 0 rfl rfl 7 (by decide) (htb _ wmt1_128) (fun _ h9 => h9) rfl dX1_isOpen_8 ?_
    refine lv_topi (fun x_3 ex_3 => ?_)
    have hx_3 : x_3.toInt = (z.1 4).toInt := by rw [ex_3]
    refine lv_if_le (tgt := 40) hx hb dX1_isOpen_11 (by decide) (fun c_4 => ?_) (fun c_4 => ?_)
    · skip
      have hc_4 := zb_le rfl (show (0 : Int32).toInt = 0 by decide) c_4
      refine lv_iconst (v := 0) hx hb dX1_isOpen_40 (by decide) ?_
      exact W.zret (v := 0) (ty := .boolean) hx hb hr rfl (fun t ht hW => ⟨⟨0, (), rfl, (Or.inr ⟨rfl, (by unfold opn; omega)⟩), ⟨by rw [ht]; exact hP, hDa _⟩⟩, hS.F ht⟩) hS.2.2 dX1_isOpen_41
    · skip
      have hc_4 := zb_nle rfl (show (0 : Int32).toInt = 0 by decide) c_4
      refine lv_aload_n hx hb dX1_isOpen_14 rfl (lv_at hl 0 rfl) ?_
      refine va_get (D := (dC, dI)) (ci := 1) (v := .int (z.1 3)) (C := RX1) (T := TX1) (N := 9) hx hb htb inw1 hown hK.1 hP 0 rfl rfl 6 (by decide) (htb _ wmt1_126) (fun _ h9 => h9) rfl dX1_isOpen_15 ?_
      refine z_top (v2 := .int x_1) (congrArg Value.int ex_1.symm) ?_
      refine lv_aload_n hx hb dX1_isOpen_18 rfl (lv_at hl 0 rfl) ?_
      refine va_get (D := (dC, dI)) (ci := 1) (v := .int (z.1 5)) (C := RX1) (T := TX1) (N := 9) hx hb htb inw1 hown hK.1 hP 0 rfl rfl 8 (by decide) (htb _ wmt1_130) (fun _ h9 => h9) rfl dX1_isOpen_19 ?_
      refine lv_topi (fun x_5 ex_5 => ?_)
      have hx_5 : x_5.toInt = (z.1 5).toInt := by rw [ex_5]
      refine lv_icmp_ge (tgt := 40) hx hb dX1_isOpen_22 (by decide) (fun c_6 => ?_) (fun c_6 => ?_)
      · skip
        have hc_6 := zb_le rfl rfl c_6
        refine lv_iconst (v := 0) hx hb dX1_isOpen_40 (by decide) ?_
        exact W.zret (v := 0) (ty := .boolean) hx hb hr rfl (fun t ht hW => ⟨⟨0, (), rfl, (Or.inr ⟨rfl, (by unfold opn; omega)⟩), ⟨by rw [ht]; exact hP, hDa _⟩⟩, hS.F ht⟩) hS.2.2 dX1_isOpen_41
      · skip
        have hc_6 := zb_nle rfl rfl c_6
        refine lv_aload_n hx hb dX1_isOpen_25 rfl (lv_at hl 0 rfl) ?_
        refine va_get (D := (dC, dI)) (ci := 1) (v := .int (z.1 4)) (C := RX1) (T := TX1) (N := 9) hx hb htb inw1 hown hK.1 hP 0 rfl rfl 7 (by decide) (htb _ wmt1_128) (fun _ h9 => h9) rfl dX1_isOpen_26 ?_
        refine z_top (v2 := .int x_3) (congrArg Value.int ex_3.symm) ?_
        refine lv_aload_n hx hb dX1_isOpen_29 rfl (lv_at hl 0 rfl) ?_
        refine va_get (D := (dC, dI)) (ci := 1) (v := .int (z.1 5)) (C := RX1) (T := TX1) (N := 9) hx hb htb inw1 hown hK.1 hP 0 rfl rfl 8 (by decide) (htb _ wmt1_130) (fun _ h9 => h9) rfl dX1_isOpen_30 ?_
        refine z_top (v2 := .int x_5) (congrArg Value.int ex_5.symm) ?_
        refine lv_icmp_ge (tgt := 40) hx hb dX1_isOpen_33 (by decide) (fun c_7 => ?_) (fun c_7 => ?_)
        · skip
          have hc_7 := zb_le rfl rfl c_7
          refine lv_iconst (v := 0) hx hb dX1_isOpen_40 (by decide) ?_
          exact W.zret (v := 0) (ty := .boolean) hx hb hr rfl (fun t ht hW => ⟨⟨0, (), rfl, (Or.inr ⟨rfl, (by unfold opn; omega)⟩), ⟨by rw [ht]; exact hP, hDa _⟩⟩, hS.F ht⟩) hS.2.2 dX1_isOpen_41
        · skip
          have hc_7 := zb_nle rfl rfl c_7
          refine lv_iconst (v := 1) hx hb dX1_isOpen_36 (by decide) ?_
          refine lv_goto (tgt := 41) hx hb dX1_isOpen_37 (by decide) ?_
          exact W.zret (v := 1) (ty := .boolean) hx hb hr rfl (fun t ht hW => ⟨⟨1, (), rfl, (Or.inl ⟨rfl, (by unfold opn; omega)⟩), ⟨by rw [ht]; exact hP, hDa _⟩⟩, hS.F ht⟩) hS.2.2 dX1_isOpen_41
set_option maxHeartbeats 4000000 in
set_option maxRecDepth 100000 in
theorem c_X1_settleLots (l : Launch) (dC : Nat → ClassId) (dI : Nat → Nat → Nat) (k : Nat → ClassId) (a : Nat → Nat) (z : ZS) (v : Int32) (sz : Nat) (hv : 0 ≤ v.toInt ∧ v.toInt ≤ 24) (hsb : SB (z.2.2.2 0) 232792560) (hAD : AD (acX (z.2.2.2 0) (z.2.1 0))) (hA0 : 0 < (acX (z.2.2.2 0) (z.2.1 0)).2) (hA2 : zW / (acX (z.2.2.2 0) (z.2.1 0)).2 ≤ 24) (hSw : acS (acX (z.2.2.2 0) (z.2.1 0)) = zW) : Met l yX1_settleLots (wz yX1_settleLots cX1_settleLots 12 none) ({ frames := 2, cells := 0, slots := 0, locals := 43 }) (va_Pc [.ref (a 0), .int v] (zPre dC dI k (zTX k) (zD k a z) sz)) (va_Qv (fun (u : Int32 × Int32 × Int32) => (u.2.2.toInt = lU (acX (z.2.2.2 0) (z.2.1 0)) v.toInt) ∧ (u.1.toInt = lY (acX (z.2.2.2 0) (z.2.1 0)) v.toInt 0) ∧ (u.2.1.toInt = lY (acX (z.2.2.2 0) (z.2.1 0)) v.toInt 1)) (fun u t => zPost dC dI (va_A (zD k a z) sz) (zD k a (sI (sI (sI z 3 u.1) 4 u.2.1) 5 u.2.2)) t) (va_A (zD k a z) sz)) 0 0 (va_A (zD k a z) sz) := by
  refine Met.ofW (cc := cX1_settleLots) (maxL := 12) (ret := none) (by decide) rfl ?_
  intro p e s m args below meth c s₁ B hml hv
  obtain ⟨rfl, hsz, hP, hK, hD0⟩ := hv
  have hx := B.exec
  have hb := B.bytes
  have hr := B.returns
  have hts := atoms_spec (ws := wz yX1_settleLots cX1_settleLots 12 none) B.pre
  have htb : ∀ w ∈ zw, w.before _ s = true := fun w h => hts w (List.mem_cons_of_mem _ h)
  have hown : s.vm.findClass RX1 = some m.cls := findClass_of_methodNamed B.named
  have hlocks := B.notSynchronized
  clear hts
  subst hsz
  have hD := hD0.self (sz := s.heap.size)
  generalize hAe : va_A (zD k a z) s.heap.size = A at hD ⊢
  have hA : ∀ q : Nat, s.heap.size ≤ q → A q := fun q h => by rw [← hAe]; exact Or.inr h
  have hDa : ∀ z9 : ZS, va_D A (zD k a z9) := fun z9 => va_D_adr (w := zD k a z) rfl hD
  have hl := lv_entry ([.ref (a 0), .int v]) (n := 12) (Nat.le_of_ble_eq_true rfl)
  rw [lg_entry_eq]
  generalize (lg_sl ([.ref (a 0), .int v]) ++ List.replicate (12 - (lg_sl ([.ref (a 0), .int v])).length) Slot.unset).toArray = ls at hl ⊢
  have hl : lv_has ls 12 [(0, .ref (a 0)), (1, .int v)] := hl
  refine z_start2 (A := A) (w := (zD k a z)) hP (fun H locs hP hS => ?_)
  clear hD0 hAe
  have hUb := lU_b (ot := v.toInt) hAD hA0 hA2
  have hYb := lY_b (j := 0) hAD hA0 hA2 hSw hv (by decide)
  have hNb := lY_b (j := 1) hAD hA0 hA2 hSw hv (by decide)
  refine lv_ldc2 (v := 5587021440) hx hb hown (htb _ wmt2_27) dX1_settleLots_0 ?_
  refine lv_lstore_n (lv' := [(2, .long 5587021440), (0, .ref (a 0)), (1, .int v)]) hx hb dX1_settleLots_3 rfl hl (by decide) rfl (fun ls hl => ?_)
  refine lv_aload_n hx hb dX1_settleLots_4 rfl (lv_at hl 1 rfl) ?_
  refine va_get (D := (dC, dI)) (ci := 1) (v := .ref (a 2)) (C := RX1) (T := TX1) (N := 9) hx hb htb inw1 hown hK.1 hP 0 rfl rfl 1 (by decide) (htb _ wmt1_119) (fun _ h9 => h9) rfl dX1_settleLots_5 ?_
  refine lv_iconst (v := 2) hx hb dX1_settleLots_8 (by decide) ?_
  refine va_lald (D := (dC, dI)) hx hb hK.1 hP 2 1 rfl rfl (show ¬ _ by decide) dX1_settleLots_9 ?_
  refine lv_topl (fun x_1 ex_1 => ?_)
  have hx_1 : x_1.toInt = (((acX (z.2.2.2 0) (z.2.1 0)).1 2 : Nat) : Int) := by rw [ex_1, show (2 : Int32).toNatClampNeg = 2 by decide]; exact (acX_at hsb (by decide)).symm
  have bx_1 := hsb 2 (by decide)
  have cx_1 : x_1.toInt = (z.2.2.2 0 2).toInt := by rw [ex_1, show (2 : Int32).toNatClampNeg = 2 by decide]
  refine lv_ldc2 (v := 24) hx hb hown (htb _ wmt2_18) dX1_settleLots_10 ?_
  refine lv_lmul hx hb dX1_settleLots_13 ?_
  refine lv_topl (fun x_2 ex_2 => ?_)
  have hx_2 := zl_mul ex_2 rfl (show (24 : Int64).toInt = 24 by decide) (by omega)
  refine lv_aload_n hx hb dX1_settleLots_14 rfl (lv_at hl 1 rfl) ?_
  refine va_get (D := (dC, dI)) (ci := 1) (v := .ref (a 2)) (C := RX1) (T := TX1) (N := 9) hx hb htb inw1 hown hK.1 hP 0 rfl rfl 1 (by decide) (htb _ wmt1_119) (fun _ h9 => h9) rfl dX1_settleLots_15 ?_
  refine lv_iconst (v := 4) hx hb dX1_settleLots_18 (by decide) ?_
  refine va_lald (D := (dC, dI)) hx hb hK.1 hP 2 1 rfl rfl (show ¬ _ by decide) dX1_settleLots_19 ?_
  refine lv_topl (fun x_3 ex_3 => ?_)
  have hx_3 : x_3.toInt = (((acX (z.2.2.2 0) (z.2.1 0)).1 4 : Nat) : Int) := by rw [ex_3, show (4 : Int32).toNatClampNeg = 4 by decide]; exact (acX_at hsb (by decide)).symm
  have bx_3 := hsb 4 (by decide)
  have cx_3 : x_3.toInt = (z.2.2.2 0 4).toInt := by rw [ex_3, show (4 : Int32).toNatClampNeg = 4 by decide]
  refine lv_iload_n hx hb dX1_settleLots_20 rfl (lv_at hl 2 rfl) ?_
  refine lv_i2l (v := v.toInt64) hx hb dX1_settleLots_21 rfl ?_
  refine lv_topl (fun x_4 ex_4 => ?_)
  have hx_4 : x_4.toInt = v.toInt := by rw [ex_4]; exact Jvm.Kit.i64_of_i32 _
  refine lv_lmul hx hb dX1_settleLots_22 ?_
  refine lv_topl (fun x_5 ex_5 => ?_)
  have qx_5 := z_mulb (a := x_3.toInt) (b := x_4.toInt) (A := 232792560) (B := 24) (by omega) (by omega)
  have hx_5 := zl_mul ex_5 rfl rfl (by omega)
  have gx_5 : x_5.toInt = x_3.toInt * v.toInt := by rw [hx_5, hx_4]
  refine lv_ladd hx hb dX1_settleLots_23 ?_
  refine lv_topl (fun x_6 ex_6 => ?_)
  have hx_6 := zl_add ex_6 rfl rfl (by omega)
  refine lv_lstore (lv' := [(4, .long x_6), (2, .long 5587021440), (0, .ref (a 0)), (1, .int v)]) hx hb dX1_settleLots_24 hl (by decide) rfl (fun ls hl => ?_)
  refine lv_aload_n hx hb dX1_settleLots_26 rfl (lv_at hl 2 rfl) ?_
  refine va_get (D := (dC, dI)) (ci := 1) (v := .ref (a 2)) (C := RX1) (T := TX1) (N := 9) hx hb htb inw1 hown hK.1 hP 0 rfl rfl 1 (by decide) (htb _ wmt1_119) (fun _ h9 => h9) rfl dX1_settleLots_27 ?_
  refine lv_iconst (v := 0) hx hb dX1_settleLots_30 (by decide) ?_
  refine va_lald (D := (dC, dI)) hx hb hK.1 hP 2 1 rfl rfl (show ¬ _ by decide) dX1_settleLots_31 ?_
  refine lv_topl (fun x_7 ex_7 => ?_)
  have hx_7 : x_7.toInt = (((acX (z.2.2.2 0) (z.2.1 0)).1 0 : Nat) : Int) := by rw [ex_7, show (0 : Int32).toNatClampNeg = 0 by decide]; exact (acX_at hsb (by decide)).symm
  have bx_7 := hsb 0 (by decide)
  have cx_7 : x_7.toInt = (z.2.2.2 0 0).toInt := by rw [ex_7, show (0 : Int32).toNatClampNeg = 0 by decide]
  refine lv_ldc2 (v := 24) hx hb hown (htb _ wmt2_18) dX1_settleLots_32 ?_
  refine lv_lmul hx hb dX1_settleLots_35 ?_
  refine lv_topl (fun x_8 ex_8 => ?_)
  have hx_8 := zl_mul ex_8 rfl (show (24 : Int64).toInt = 24 by decide) (by omega)
  refine lv_lload hx hb dX1_settleLots_36 (lv_at hl 0 rfl) ?_
  refine lv_ladd hx hb dX1_settleLots_38 ?_
  refine lv_topl (fun x_9 ex_9 => ?_)
  have hx_9 := zl_add ex_9 rfl rfl (by omega)
  have hH0 : x_9.toInt = (lH (acX (z.2.2.2 0) (z.2.1 0)) v.toInt 0 : Int) := lH_i hx_7 hx_1 hx_3 hv.1 (by rw [hx_9]; omega)
  have hHb0 := lH_b (j := 0) hSw hv (by decide)
  have hLW : (lW : Int) = 5587021440 := rfl
  refine lv_lstore (lv' := [(6, .long x_9), (4, .long x_6), (2, .long 5587021440), (0, .ref (a 0)), (1, .int v)]) hx hb dX1_settleLots_39 hl (by decide) rfl (fun ls hl => ?_)
  refine lv_aload_n hx hb dX1_settleLots_41 rfl (lv_at hl 3 rfl) ?_
  refine va_get (D := (dC, dI)) (ci := 1) (v := .ref (a 2)) (C := RX1) (T := TX1) (N := 9) hx hb htb inw1 hown hK.1 hP 0 rfl rfl 1 (by decide) (htb _ wmt1_119) (fun _ h9 => h9) rfl dX1_settleLots_42 ?_
  refine lv_iconst (v := 1) hx hb dX1_settleLots_45 (by decide) ?_
  refine va_lald (D := (dC, dI)) hx hb hK.1 hP 2 1 rfl rfl (show ¬ _ by decide) dX1_settleLots_46 ?_
  refine lv_topl (fun x_10 ex_10 => ?_)
  have hx_10 : x_10.toInt = (((acX (z.2.2.2 0) (z.2.1 0)).1 1 : Nat) : Int) := by rw [ex_10, show (1 : Int32).toNatClampNeg = 1 by decide]; exact (acX_at hsb (by decide)).symm
  have bx_10 := hsb 1 (by decide)
  have cx_10 : x_10.toInt = (z.2.2.2 0 1).toInt := by rw [ex_10, show (1 : Int32).toNatClampNeg = 1 by decide]
  refine lv_ldc2 (v := 24) hx hb hown (htb _ wmt2_18) dX1_settleLots_47 ?_
  refine lv_lmul hx hb dX1_settleLots_50 ?_
  refine lv_topl (fun x_11 ex_11 => ?_)
  have hx_11 := zl_mul ex_11 rfl (show (24 : Int64).toInt = 24 by decide) (by omega)
  refine lv_lload hx hb dX1_settleLots_51 (lv_at hl 1 rfl) ?_
  refine lv_ladd hx hb dX1_settleLots_53 ?_
  refine lv_topl (fun x_12 ex_12 => ?_)
  have hx_12 := zl_add ex_12 rfl rfl (by omega)
  have hH1 : x_12.toInt = (lH (acX (z.2.2.2 0) (z.2.1 0)) v.toInt 1 : Int) := lH_i hx_10 hx_1 hx_3 hv.1 (by rw [hx_12]; omega)
  have hHb1 := lH_b (j := 1) hSw hv (by decide)
  refine lv_lstore (lv' := [(8, .long x_12), (6, .long x_9), (4, .long x_6), (2, .long 5587021440), (0, .ref (a 0)), (1, .int v)]) hx hb dX1_settleLots_54 hl (by decide) rfl (fun ls hl => ?_)
  refine lv_lload_n hx hb dX1_settleLots_56 rfl (lv_at hl 3 rfl) ?_
  refine lv_lload hx hb dX1_settleLots_57 (lv_at hl 1 rfl) ?_
  refine lv_lload hx hb dX1_settleLots_59 (lv_at hl 0 rfl) ?_
  refine zc0_l (w := (zD k a z)) (va_runSN (As := [.long x_9, .long x_12]) (rest := [.long 5587021440]) ⟨hx, hb, hml, hown, htb⟩ (c_X6_commonDivisor_g l dC dI k x_9 x_12 _ (by omega) (by omega)) ⟨va_cnB 2 htb (wz_good wmt2_10) rfl rfl rfl hK.2.2.2.2.2.2.2.1 (htb _ wmt1_1) (by decide +kernel) ⟨Nat.le_of_ble_eq_true rfl, Nat.le_of_ble_eq_true rfl⟩, (htb _ wmt2_9), trivial⟩ (zp0_S hK) rfl rfl hl.1 rfl (lv_room (Nat.le_of_ble_eq_true rfl)) dX1_settleLots_61 ⟨Nat.le_of_ble_eq_true rfl, Nat.le_of_ble_eq_true rfl⟩) hP hS hA (fun r_13 u_14 H locs w_15 hP hS => ?_)
  have h_16 := w_15
  replace h_16 : r_13.toInt = (Nat.gcd x_9.toInt.natAbs x_12.toInt.natAbs : Int) := h_16
  have hg1 : r_13.toInt = (Nat.gcd (lH (acX (z.2.2.2 0) (z.2.1 0)) v.toInt 0) (lH (acX (z.2.2.2 0) (z.2.1 0)) v.toInt 1) : Int) := by rw [h_16, hH0, hH1]; rfl
  have hg1b : Nat.gcd (lH (acX (z.2.2.2 0) (z.2.1 0)) v.toInt 0) (lH (acX (z.2.2.2 0) (z.2.1 0)) v.toInt 1) ≤ 5587021440 := z_gle (by omega) (by omega)
  refine zc0_l (w := (zD k a z)) (va_runSN (As := [.long 5587021440, .long r_13]) (rest := []) ⟨hx, hb, hml, hown, htb⟩ (c_X6_commonDivisor_g l dC dI k 5587021440 r_13 _ (by decide) (by omega)) ⟨va_cnB 2 htb (wz_good wmt2_10) rfl rfl rfl hK.2.2.2.2.2.2.2.1 (htb _ wmt1_1) (by decide +kernel) ⟨Nat.le_of_ble_eq_true rfl, Nat.le_of_ble_eq_true rfl⟩, (htb _ wmt2_9), trivial⟩ (zp0_S hK) rfl rfl hl.1 rfl (lv_room (Nat.le_of_ble_eq_true rfl)) dX1_settleLots_64 ⟨Nat.le_of_ble_eq_true rfl, Nat.le_of_ble_eq_true rfl⟩) hP hS hA (fun r_18 u_19 H locs w_20 hP hS => ?_)
  have h_21 := w_20
  replace h_21 : r_18.toInt = (Nat.gcd (5587021440 : Int64).toInt.natAbs r_13.toInt.natAbs : Int) := h_21
  rw [show (5587021440 : Int64).toInt = 5587021440 by decide] at h_21
  have hg2 : r_18.toInt = (lG (acX (z.2.2.2 0) (z.2.1 0)) v.toInt : Int) := by rw [h_21, hg1]; rfl
  have hgp := lG_pos (A := acX (z.2.2.2 0) (z.2.1 0)) (ot := v.toInt)
  refine lv_lstore (lv' := [(10, .long r_18), (8, .long x_12), (6, .long x_9), (4, .long x_6), (2, .long 5587021440), (0, .ref (a 0)), (1, .int v)]) hx hb dX1_settleLots_67 hl (by decide) rfl (fun ls hl => ?_)
  refine lv_lload hx hb dX1_settleLots_69 (lv_at hl 0 rfl) ?_
  refine lv_lconst (v := 0) hx hb dX1_settleLots_71 (by decide) ?_
  refine z_lcmp hx hb dX1_settleLots_72 ?_
  refine lv_if_le (tgt := 105) hx hb dX1_settleLots_73 (by decide) (fun c_23 => ?_) (fun c_23 => ?_)
  · skip
    have hc_23 := zl_le rfl (show (0 : Int64).toInt = 0 by decide) c_23
    exfalso; omega
  · skip
    have hc_23 := zl_nle rfl (show (0 : Int64).toInt = 0 by decide) c_23
    refine lv_aload_n hx hb dX1_settleLots_76 rfl (lv_at hl 5 rfl) ?_
    refine lv_lload_n hx hb dX1_settleLots_77 rfl (lv_at hl 4 rfl) ?_
    refine lv_lload hx hb dX1_settleLots_78 (lv_at hl 0 rfl) ?_
    refine lv_ldiv hx hb dX1_settleLots_80 (z_l0ne (by omega)) ?_
    refine lv_topl (fun x_24 ex_24 => ?_)
    have hx_24 := zl_div ex_24 (show (5587021440 : Int64).toInt = 5587021440 by decide) rfl (by omega) (by omega)
    have kx_24 : x_24.toInt = lU (acX (z.2.2.2 0) (z.2.1 0)) v.toInt := by rw [hx_24.1, hg2]; rfl
    refine lv_l2i (v := x_24.toInt32) hx hb dX1_settleLots_81 rfl ?_
    refine lv_topi (fun x_25 ex_25 => ?_)
    have hx_25 : x_25.toInt = x_24.toInt := by rw [ex_25]; exact Jvm.Kit.i32_of_i64 (by omega) (by omega)
    refine va_put (D := (dC, dI)) (ci := 1) (v := .int x_25) (ty := .int) (C := RX1) (T := TX1) (N := 9) hx hb htb inw1 tyX1 tyX1_ok nmX1 hown hK.1 hP (hDa _) hS 0 rfl rfl 8 (by decide) (htb _ wmt1_130) (fun _ h9 => h9) rfl (by decide +kernel) rfl rfl (Nat.le_of_ble_eq_true rfl) dX1_settleLots_82 (fun H locs hP _ hS => ?_)
    have hP : va_P (dC, dI) vwCl (zD k a (sI z 5 x_25)) H := hP
    refine lv_aload_n hx hb dX1_settleLots_85 rfl (lv_at hl 5 rfl) ?_
    refine lv_lload hx hb dX1_settleLots_86 (lv_at hl 2 rfl) ?_
    refine lv_lload hx hb dX1_settleLots_88 (lv_at hl 0 rfl) ?_
    refine lv_ldiv hx hb dX1_settleLots_90 (z_l0ne (by omega)) ?_
    refine lv_topl (fun x_26 ex_26 => ?_)
    have hx_26 := zl_div ex_26 rfl rfl (by omega) (by omega)
    have kx_26 : x_26.toInt = lY (acX (z.2.2.2 0) (z.2.1 0)) v.toInt 0 := by rw [hx_26.1, hg2, hH0]; rfl
    refine lv_l2i (v := x_26.toInt32) hx hb dX1_settleLots_91 rfl ?_
    refine lv_topi (fun x_27 ex_27 => ?_)
    have hx_27 : x_27.toInt = x_26.toInt := by rw [ex_27]; exact Jvm.Kit.i32_of_i64 (by omega) (by omega)
    refine va_put (D := (dC, dI)) (ci := 1) (v := .int x_27) (ty := .int) (C := RX1) (T := TX1) (N := 9) hx hb htb inw1 tyX1 tyX1_ok nmX1 hown hK.1 hP (hDa _) hS 0 rfl rfl 6 (by decide) (htb _ wmt1_126) (fun _ h9 => h9) rfl (by decide +kernel) rfl rfl (Nat.le_of_ble_eq_true rfl) dX1_settleLots_92 (fun H locs hP _ hS => ?_)
    have hP : va_P (dC, dI) vwCl (zD k a (sI (sI z 5 x_25) 3 x_27)) H := hP
    refine lv_aload_n hx hb dX1_settleLots_95 rfl (lv_at hl 5 rfl) ?_
    refine lv_lload hx hb dX1_settleLots_96 (lv_at hl 1 rfl) ?_
    refine lv_lload hx hb dX1_settleLots_98 (lv_at hl 0 rfl) ?_
    refine lv_ldiv hx hb dX1_settleLots_100 (z_l0ne (by omega)) ?_
    refine lv_topl (fun x_28 ex_28 => ?_)
    have hx_28 := zl_div ex_28 rfl rfl (by omega) (by omega)
    have kx_28 : x_28.toInt = lY (acX (z.2.2.2 0) (z.2.1 0)) v.toInt 1 := by rw [hx_28.1, hg2, hH1]; rfl
    refine lv_l2i (v := x_28.toInt32) hx hb dX1_settleLots_101 rfl ?_
    refine lv_topi (fun x_29 ex_29 => ?_)
    have hx_29 : x_29.toInt = x_28.toInt := by rw [ex_29]; exact Jvm.Kit.i32_of_i64 (by omega) (by omega)
    refine va_put (D := (dC, dI)) (ci := 1) (v := .int x_29) (ty := .int) (C := RX1) (T := TX1) (N := 9) hx hb htb inw1 tyX1 tyX1_ok nmX1 hown hK.1 hP (hDa _) hS 0 rfl rfl 7 (by decide) (htb _ wmt1_128) (fun _ h9 => h9) rfl (by decide +kernel) rfl rfl (Nat.le_of_ble_eq_true rfl) dX1_settleLots_102 (fun H locs hP _ hS => ?_)
    have hP : va_P (dC, dI) vwCl (zD k a (sI (sI (sI z 5 x_25) 3 x_27) 4 x_29)) H := hP
    exact W.vret hx hb hr (fun t ht hW => ⟨⟨(x_27, x_29, x_25), rfl, (show (x_25.toInt = lU (acX (z.2.2.2 0) (z.2.1 0)) v.toInt) ∧ (x_27.toInt = lY (acX (z.2.2.2 0) (z.2.1 0)) v.toInt 0) ∧ (x_29.toInt = lY (acX (z.2.2.2 0) (z.2.1 0)) v.toInt 1) from ⟨by omega, by omega, by omega⟩), ⟨by rw [ht]; exact hP, hDa _⟩⟩, hS.F ht⟩) hS.2.2 dX1_settleLots_105
set_option maxHeartbeats 4000000 in
set_option maxRecDepth 100000 in
theorem c_X1_settle (l : Launch) (dC : Nat → ClassId) (dI : Nat → Nat → Nat) (k : Nat → ClassId) (a : Nat → Nat) (z : ZS) (v : Int32) (sz : Nat) (hI : XR (z.1 1)) (hv : 0 ≤ v.toInt ∧ v.toInt ≤ 24) : Met l yX1_settle (wz yX1_settle cX1_settle 2 none) ({ frames := 5, cells := 0, slots := 0, locals := 114 }) (va_Pc [.ref (a 0), .int v] (zPre dC dI k (zTX k) (zD k a z) sz)) (va_Qv (fun (u : Int32 × Int32 × Int32 × Int32 × Int32 × Int64 × (Nat → Int64)) => (u.2.1.toInt = pF (bX (z.1 1) (z.2.2.1 0)) (z.1 1).toInt) ∧ (u.2.1.toInt = -1 → u.2.2.2.2.1.toInt = lU (pA (bX (z.1 1) (z.2.2.1 0)) (z.1 1).toInt).2 v.toInt ∧ u.2.2.1.toInt = lY (pA (bX (z.1 1) (z.2.2.1 0)) (z.1 1).toInt).2 v.toInt 0 ∧ u.2.2.2.1.toInt = lY (pA (bX (z.1 1) (z.2.2.1 0)) (z.1 1).toInt).2 v.toInt 1)) (fun u t => zPost dC dI (va_A (zD k a z) sz) (zD k a (sL (sJ (sI (sI (sI (sI (sI z 0 u.1) 2 u.2.1) 3 u.2.2.1) 4 u.2.2.2.1) 5 u.2.2.2.2.1) 0 u.2.2.2.2.2.1) 0 u.2.2.2.2.2.2)) t) (va_A (zD k a z) sz)) 0 0 (va_A (zD k a z) sz) := by
  refine Met.ofW (cc := cX1_settle) (maxL := 2) (ret := none) (by decide) rfl ?_
  intro p e s m args below meth c s₁ B hml hv
  obtain ⟨rfl, hsz, hP, hK, hD0⟩ := hv
  have hx := B.exec
  have hb := B.bytes
  have hr := B.returns
  have hts := atoms_spec (ws := wz yX1_settle cX1_settle 2 none) B.pre
  have htb : ∀ w ∈ zw, w.before _ s = true := fun w h => hts w (List.mem_cons_of_mem _ h)
  have hown : s.vm.findClass RX1 = some m.cls := findClass_of_methodNamed B.named
  have hlocks := B.notSynchronized
  clear hts
  subst hsz
  have hD := hD0.self (sz := s.heap.size)
  generalize hAe : va_A (zD k a z) s.heap.size = A at hD ⊢
  have hA : ∀ q : Nat, s.heap.size ≤ q → A q := fun q h => by rw [← hAe]; exact Or.inr h
  have hDa : ∀ z9 : ZS, va_D A (zD k a z9) := fun z9 => va_D_adr (w := zD k a z) rfl hD
  have hl := lv_entry ([.ref (a 0), .int v]) (n := 2) (Nat.le_of_ble_eq_true rfl)
  rw [lg_entry_eq]
  generalize (lg_sl ([.ref (a 0), .int v]) ++ List.replicate (2 - (lg_sl ([.ref (a 0), .int v])).length) Slot.unset).toArray = ls at hl ⊢
  have hl : lv_has ls 2 [(0, .ref (a 0)), (1, .int v)] := hl
  refine z_start2 (A := A) (w := (zD k a z)) hP (fun H locs hP hS => ?_)
  clear hD0 hAe
  have hI2 := hI; unfold XR at hI2
  refine lv_aload_n hx hb dX1_settle_0 rfl (lv_at hl 0 rfl) ?_
  refine lv_aload_n hx hb dX1_settle_1 rfl (lv_at hl 0 rfl) ?_
  refine zcA_i (w := (zD k a z)) (va_runV (As := []) (rest := [.ref (a 0)]) ⟨hx, hb, hml, hown, htb⟩ (c_X1_parse l dC dI k a z _ hI) (cwV 0 htb (gzV wmt1_222 wmt1_224 wmp1_0 wmt1_6 wmt1_225) rfl rfl rfl (by decide +kernel) ⟨Nat.le_of_ble_eq_true rfl, Nat.le_of_ble_eq_true rfl⟩) (zpA_V (ci := 1) (q0 := 0) hK hP (hDa _) rfl rfl) rfl rfl hl.1 rfl (lv_room (Nat.le_of_ble_eq_true rfl)) dX1_settle_2 ⟨Nat.le_of_ble_eq_true rfl, Nat.le_of_ble_eq_true rfl⟩) (hDa _) hS hA (fun r_1 u_2 H locs w_3 hP _ hS => ?_)
  obtain ⟨oat_4, ocm_5, osh_6⟩ := u_2
  have hP : va_P (dC, dI) vwCl (zD k a (sL (sJ (sI z 0 oat_4) 0 ocm_5) 0 osh_6)) H := hP
  obtain ⟨h_7, h_8⟩ := w_3
  replace h_7 : r_1.toInt = pF (bX ((z.1 1)) ((z.2.2.1 0))) ((z.1 1)).toInt := h_7
  replace h_8 : r_1.toInt = -1 → acX osh_6 ocm_5 = (pA (bX ((z.1 1)) ((z.2.2.1 0))) ((z.1 1)).toInt).2 ∧ SB osh_6 13967553600 := h_8
  have hpf := h_7
  have hpa := h_8
  refine va_put (D := (dC, dI)) (ci := 1) (v := .int r_1) (ty := .int) (C := RX1) (T := TX1) (N := 9) hx hb htb inw1 tyX1 tyX1_ok nmX1 hown hK.1 hP (hDa _) hS 0 rfl rfl 5 (by decide) (htb _ wmt1_124) (fun _ h9 => h9) rfl (by decide +kernel) rfl rfl (Nat.le_of_ble_eq_true rfl) dX1_settle_5 (fun H locs hP _ hS => ?_)
  have hP : va_P (dC, dI) vwCl (zD k a (sI (sL (sJ (sI z 0 oat_4) 0 ocm_5) 0 osh_6) 2 r_1)) H := hP
  refine lv_aload_n hx hb dX1_settle_8 rfl (lv_at hl 0 rfl) ?_
  refine zcA_i (w := (zD k a (sI (sL (sJ (sI z 0 oat_4) 0 ocm_5) 0 osh_6) 2 r_1))) (va_runV (As := []) (rest := []) ⟨hx, hb, hml, hown, htb⟩ (c_X1_isFaulty l dC dI k a (sI (sL (sJ (sI z 0 oat_4) 0 ocm_5) 0 osh_6) 2 r_1) _ ) (cwV 0 htb (gzV wmt2_19 wmt2_20 wmt2_21 wmt1_6 wmt2_22) rfl rfl rfl (by decide +kernel) ⟨Nat.le_of_ble_eq_true rfl, Nat.le_of_ble_eq_true rfl⟩) (zpA_V (ci := 1) (q0 := 0) hK hP (hDa _) rfl rfl) rfl rfl hl.1 rfl (lv_room (Nat.le_of_ble_eq_true rfl)) dX1_settle_9 ⟨Nat.le_of_ble_eq_true rfl, Nat.le_of_ble_eq_true rfl⟩) (hDa _) hS hA (fun r_10 u_11 H locs w_12 hP _ hS => ?_)
  rcases w_12 with ⟨e_14, h_13⟩ | ⟨e_16, h_15⟩
  · skip
    replace e_14 : r_10 = 1 := e_14
    subst e_14
    replace h_13 : ¬ (r_1).toInt = -1 := h_13
    have hfl := h_13
    refine lv_if_ne (tgt := 20) hx hb dX1_settle_12 (by decide) (fun c_17 => ?_) (fun c_17 => ?_)
    · skip
      exact W.vret hx hb hr (fun t ht hW => ⟨⟨(oat_4, r_1, z.1 3, z.1 4, z.1 5, ocm_5, osh_6), rfl, (show (r_1.toInt = pF (bX (z.1 1) (z.2.2.1 0)) (z.1 1).toInt) ∧ (r_1.toInt = -1 → (z.1 5).toInt = lU (pA (bX (z.1 1) (z.2.2.1 0)) (z.1 1).toInt).2 v.toInt ∧ (z.1 3).toInt = lY (pA (bX (z.1 1) (z.2.2.1 0)) (z.1 1).toInt).2 v.toInt 0 ∧ (z.1 4).toInt = lY (pA (bX (z.1 1) (z.2.2.1 0)) (z.1 1).toInt).2 v.toInt 1) from ⟨hpf, fun q9 => by omega⟩), ⟨by rw [ht]; exact hP, hDa _⟩⟩, hS.F ht⟩) hS.2.2 dX1_settle_20
    · skip
      exact absurd c_17 (by decide)
  · skip
    replace e_16 : r_10 = 0 := e_16
    subst e_16
    replace h_15 : (r_1).toInt = -1 := h_15
    have hfl := h_15
    obtain ⟨hpa1, hpa2⟩ := hpa (by omega)
    obtain ⟨hok1, hok2, hok3⟩ := pL_ok (B := bX (z.1 1) (z.2.2.1 0)) (n := (z.1 1).toInt) (f := 60) (a := 0) (A := ac0) hI2.1 (by decide) (show pF (bX (z.1 1) (z.2.2.1 0)) (z.1 1).toInt = -1 by omega)
    have ha1 : acS (acX osh_6 ocm_5) = zW := by rw [hpa1]; exact hok1
    have ha2 : AD (acX osh_6 ocm_5) := by rw [hpa1]; exact pL_AD AD_0
    have ha3 : 0 < (acX osh_6 ocm_5).2 := by rw [hpa1]; exact hok2
    have ha4 : zW / (acX osh_6 ocm_5).2 ≤ 24 := by rw [hpa1]; exact hok3
    refine lv_if_ne (tgt := 20) hx hb dX1_settle_12 (by decide) (fun c_18 => ?_) (fun c_18 => ?_)
    · skip
      exact absurd c_18 (by decide)
    · skip
      refine lv_aload_n hx hb dX1_settle_15 rfl (lv_at hl 0 rfl) ?_
      refine lv_iload_n hx hb dX1_settle_16 rfl (lv_at hl 1 rfl) ?_
      refine zcA_v (w := (zD k a (sI (sL (sJ (sI z 0 oat_4) 0 ocm_5) 0 osh_6) 2 r_1))) (va_runV (As := [.int v]) (rest := []) ⟨hx, hb, hml, hown, htb⟩ (c_X1_settleLots l dC dI k a (sI (sL (sJ (sI z 0 oat_4) 0 ocm_5) 0 osh_6) 2 r_1) v _ hv (SB_w hpa2 ha1) ha2 ha3 ha4 ha1) (cwV 1 htb (gzV wmt2_23 wmt2_25 wmp1_6 wmt1_6 wmt2_26) rfl rfl rfl (by decide +kernel) ⟨Nat.le_of_ble_eq_true rfl, Nat.le_of_ble_eq_true rfl⟩) (zpA_V (ci := 1) (q0 := 0) hK hP (hDa _) rfl rfl) rfl rfl hl.1 rfl (lv_room (Nat.le_of_ble_eq_true rfl)) dX1_settle_17 ⟨Nat.le_of_ble_eq_true rfl, Nat.le_of_ble_eq_true rfl⟩) (hDa _) hS hA (fun u_20 H locs w_21 hP _ hS => ?_)
      obtain ⟨oy_22, on_23, ou_24⟩ := u_20
      have hP : va_P (dC, dI) vwCl (zD k a (sI (sI (sI (sI (sL (sJ (sI z 0 oat_4) 0 ocm_5) 0 osh_6) 2 r_1) 3 oy_22) 4 on_23) 5 ou_24)) H := hP
      obtain ⟨h_25, h_26, h_27⟩ := w_21
      replace h_25 : ou_24.toInt = lU (acX (osh_6) (ocm_5)) v.toInt := h_25
      replace h_26 : oy_22.toInt = lY (acX (osh_6) (ocm_5)) v.toInt 0 := h_26
      replace h_27 : on_23.toInt = lY (acX (osh_6) (ocm_5)) v.toInt 1 := h_27
      have hsl0 := h_25
      rw [hpa1] at hsl0
      have hsl1 := h_26
      rw [hpa1] at hsl1
      have hsl2 := h_27
      rw [hpa1] at hsl2
      exact W.vret hx hb hr (fun t ht hW => ⟨⟨(oat_4, r_1, oy_22, on_23, ou_24, ocm_5, osh_6), rfl, (show (r_1.toInt = pF (bX (z.1 1) (z.2.2.1 0)) (z.1 1).toInt) ∧ (r_1.toInt = -1 → ou_24.toInt = lU (pA (bX (z.1 1) (z.2.2.1 0)) (z.1 1).toInt).2 v.toInt ∧ oy_22.toInt = lY (pA (bX (z.1 1) (z.2.2.1 0)) (z.1 1).toInt).2 v.toInt 0 ∧ on_23.toInt = lY (pA (bX (z.1 1) (z.2.2.1 0)) (z.1 1).toInt).2 v.toInt 1) from ⟨hpf, fun _ => ⟨hsl0, hsl1, hsl2⟩⟩), ⟨by rw [ht]; exact hP, hDa _⟩⟩, hS.F ht⟩) hS.2.2 dX1_settle_20
