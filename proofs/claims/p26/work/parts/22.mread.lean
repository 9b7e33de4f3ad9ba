set_option maxHeartbeats 4000000 in
set_option maxRecDepth 100000 in
theorem c_X7_byteNow (l : Launch) (dC : Nat → ClassId) (dI : Nat → Nat → Nat) (k : Nat → ClassId) (q : Nat → Nat) (z : ZS) (sz : Nat) (hdn : 0 ≤ (z.1 12).toInt ∧ (z.1 12).toInt < 4) (hm4 : M4 (z.2.2.1 2)) (hat : 0 ≤ (z.1 13).toInt ∧ (z.1 13).toInt ≤ 1000) : Met l yX7_byteNow (wz yX7_byteNow cX7_byteNow 1 (some .int)) ({ frames := 0, cells := 0, slots := 0, locals := 0 }) (va_Pc [.ref (q 0)] (zPre dC dI k (zTX k) (zM k q z) sz)) (va_Qi (fun (r : Int32) (u : Unit) => ((z.1 13).toInt < (z.2.2.1 2 (z.1 12).toNatClampNeg).toInt ∨ r.toInt = -1) ∧ (r.toInt = bRf (z.2.2.1 2) (z.2.2.1 3) (z.1 12).toNatClampNeg (z.1 13).toInt)) (fun u t => zPost dC dI (va_A (zM k q z) sz) (zM k q z) t) (va_A (zM k q z) sz)) 0 0 (va_A (zM k q z) sz) := by
  refine Met.ofW (cc := cX7_byteNow) (maxL := 1) (ret := (some .int)) (by decide) rfl ?_
  intro p e s m args below meth c s₁ B hml hv
  obtain ⟨rfl, hsz, hP, hK, hD0⟩ := hv
  have hx := B.exec
  have hb := B.bytes
  have hr := B.returns
  have hts := atoms_spec (ws := wz yX7_byteNow cX7_byteNow 1 (some .int)) B.pre
  have htb : ∀ w ∈ zw, w.before _ s = true := fun w h => hts w (List.mem_cons_of_mem _ h)
  have hown : s.vm.findClass RX7 = some m.cls := findClass_of_methodNamed B.named
  have hlocks := B.notSynchronized
  clear hts
  subst hsz
  have hD := hD0.self (sz := s.heap.size)
  generalize hAe : va_A (zM k q z) s.heap.size = A at hD ⊢
  have hA : ∀ q : Nat, s.heap.size ≤ q → A q := fun q h => by rw [← hAe]; exact Or.inr h
  have hDa : ∀ z9 : ZS, va_D A (zM k q z9) := fun z9 => va_D_adr (w := zM k q z) rfl hD
  have hl := lv_entry ([.ref (q 0)]) (n := 1) (Nat.le_of_ble_eq_true rfl)
  rw [lg_entry_eq]
  generalize (lg_sl ([.ref (q 0)]) ++ List.replicate (1 - (lg_sl ([.ref (q 0)])).length) Slot.unset).toArray = ls at hl ⊢
  have hl : lv_has ls 1 [(0, .ref (q 0))] := hl
  refine z_start2 (A := A) (w := (zM k q z)) hP (fun H locs hP hS => ?_)
  clear hD0 hAe
  have hty := M4_at hm4 hdn
  refine lv_aload_n hx hb dX7_byteNow_0 rfl (lv_at hl 0 rfl) ?_
  refine va_get (D := (dC, dI)) (ci := 7) (v := .int (z.1 13)) (C := RX7) (T := TX7) (N := 42) hx hb htb inw7 hown hK.1 hP 0 rfl rfl 13 (by decide) (htb _ wmt3_180) (fun _ h9 => h9) rfl dX7_byteNow_1 ?_
  refine lv_topi (fun x_1 ex_1 => ?_)
  have hx_1 : x_1.toInt = (z.1 13).toInt := by rw [ex_1]
  refine lv_aload_n hx hb dX7_byteNow_4 rfl (lv_at hl 0 rfl) ?_
  refine va_get (D := (dC, dI)) (ci := 7) (v := .ref (q 2)) (C := RX7) (T := TX7) (N := 42) hx hb htb inw7 hown hK.1 hP 0 rfl rfl 2 (by decide) (htb _ wmt3_169) (fun _ h9 => h9) rfl dX7_byteNow_5 ?_
  refine lv_aload_n hx hb dX7_byteNow_8 rfl (lv_at hl 0 rfl) ?_
  refine va_get (D := (dC, dI)) (ci := 7) (v := .int (z.1 12)) (C := RX7) (T := TX7) (N := 42) hx hb htb inw7 hown hK.1 hP 0 rfl rfl 12 (by decide) (htb _ wmt3_179) (fun _ h9 => h9) rfl dX7_byteNow_9 ?_
  refine lv_topi (fun x_2 ex_2 => ?_)
  have hx_2 : x_2.toInt = (z.1 12).toInt := by rw [ex_2]
  refine va_iald (D := (dC, dI)) hx hb hK.1 hP 1 0 rfl rfl (z_in (by omega)) dX7_byteNow_12 ?_
  refine lv_topi (fun x_3 ex_3 => ?_)
  have hx_3 : x_3.toInt = (z.2.2.1 2 (z.1 12).toNatClampNeg).toInt := by rw [ex_3, ex_2]
  refine lv_icmp_ge (tgt := 36) hx hb dX7_byteNow_13 (by decide) (fun c_4 => ?_) (fun c_4 => ?_)
  · skip
    have hc_4 := zb_le rfl rfl c_4
    refine lv_iconst (v := (-1)) hx hb dX7_byteNow_36 (by decide) ?_
    exact W.iret (v := (-1)) hx hb hr (fun t ht hW => ⟨⟨(-1), (), rfl, ⟨Or.inr (by decide), by unfold bRf bX; rw [if_neg (by omega)]; decide⟩, ⟨by rw [ht]; exact hP, hDa _⟩⟩, hS.F ht⟩) hS.2.2 dX7_byteNow_37
  · skip
    have hc_4 := zb_nle rfl rfl c_4
    refine lv_aload_n hx hb dX7_byteNow_16 rfl (lv_at hl 0 rfl) ?_
    refine va_get (D := (dC, dI)) (ci := 7) (v := .ref (q 3)) (C := RX7) (T := TX7) (N := 42) hx hb htb inw7 hown hK.1 hP 0 rfl rfl 3 (by decide) (htb _ wmt3_170) (fun _ h9 => h9) rfl dX7_byteNow_17 ?_
    refine lv_bipush (v := 60) hx hb dX7_byteNow_20 (by decide) ?_
    refine lv_aload_n hx hb dX7_byteNow_22 rfl (lv_at hl 0 rfl) ?_
    refine va_get (D := (dC, dI)) (ci := 7) (v := .int (z.1 12)) (C := RX7) (T := TX7) (N := 42) hx hb htb inw7 hown hK.1 hP 0 rfl rfl 12 (by decide) (htb _ wmt3_179) (fun _ h9 => h9) rfl dX7_byteNow_23 ?_
    refine z_top (v2 := .int x_2) (congrArg Value.int ex_2.symm) ?_
    refine lv_imul hx hb dX7_byteNow_26 ?_
    refine lv_topi (fun x_5 ex_5 => ?_)
    have hx_5 := z_mul ex_5 (show (60 : Int32).toInt = 60 by decide) rfl (by omega)
    refine lv_aload_n hx hb dX7_byteNow_27 rfl (lv_at hl 0 rfl) ?_
    refine va_get (D := (dC, dI)) (ci := 7) (v := .int (z.1 13)) (C := RX7) (T := TX7) (N := 42) hx hb htb inw7 hown hK.1 hP 0 rfl rfl 13 (by decide) (htb _ wmt3_180) (fun _ h9 => h9) rfl dX7_byteNow_28 ?_
    refine z_top (v2 := .int x_1) (congrArg Value.int ex_1.symm) ?_
    refine lv_iadd hx hb dX7_byteNow_31 ?_
    refine lv_topi (fun x_6 ex_6 => ?_)
    have hx_6 := z_add ex_6 rfl rfl (by omega)
    refine va_iald (D := (dC, dI)) hx hb hK.1 hP 2 0 rfl rfl (z_in (by omega)) dX7_byteNow_32 ?_
    refine lv_topi (fun x_7 ex_7 => ?_)
    refine lv_goto (tgt := 37) hx hb dX7_byteNow_33 (by decide) ?_
    exact W.iret (v := x_7) hx hb hr (fun t ht hW => ⟨⟨x_7, (), rfl, ⟨Or.inl (by omega), by have q := z_clamp (x := x_6) (by omega); have q2 := z_clamp (x := z.1 12) (by omega); unfold bRf bX; rw [if_pos (by omega), TXr_at (by omega), ex_7, show x_6.toNatClampNeg = 60 * (z.1 12).toNatClampNeg + (z.1 13).toInt.toNat by omega]⟩, ⟨by rw [ht]; exact hP, hDa _⟩⟩, hS.F ht⟩) hS.2.2 dX7_byteNow_37
set_option maxHeartbeats 4000000 in
set_option maxRecDepth 100000 in
theorem c_X7_number (l : Launch) (dC : Nat → ClassId) (dI : Nat → Nat → Nat) (k : Nat → ClassId) (q : Nat → Nat) (z : ZS) (lo : Int32) (hi : Int32) (sz : Nat) (hdn : 0 ≤ (z.1 12).toInt ∧ (z.1 12).toInt < 4) (hm4 : M4 (z.2.2.1 2)) (hat : 0 ≤ (z.1 13).toInt ∧ (z.1 13).toInt ≤ 900) : Met l yX7_number (wz yX7_number cX7_number 5 (some .int)) ({ frames := 1, cells := 0, slots := 0, locals := 22 }) (va_Pc [.ref (q 0), .int lo, .int hi] (zPre dC dI k (zTX k) (zM k q z) sz)) (va_Qi (fun (r : Int32) (u : Int32 × Int32) => (0 ≤ r.toInt ∧ r.toInt ≤ 99) ∧ ((z.1 13).toInt ≤ u.1.toInt ∧ u.1.toInt ≤ (z.1 13).toInt + 2) ∧ ((z.1 14).toInt = -1 ∨ u.2 = z.1 14) ∧ (u.2.toInt = -1 → (z.1 14).toInt = -1 ∧ (z.1 13).toInt < u.1.toInt ∧ u.1.toInt ≤ (z.2.2.1 2 (z.1 12).toNatClampNeg).toInt ∧ lo.toInt ≤ r.toInt ∧ r.toInt ≤ hi.toInt) ∧ ((z.1 14).toInt = -1 → u.1.toInt = (z.1 13).toInt + nC (bRf (z.2.2.1 2) (z.2.2.1 3) (z.1 12).toNatClampNeg) (z.1 13).toInt ∧ r.toInt = nV (bRf (z.2.2.1 2) (z.2.2.1 3) (z.1 12).toNatClampNeg) (z.1 13).toInt ∧ ((¬ nC (bRf (z.2.2.1 2) (z.2.2.1 3) (z.1 12).toNatClampNeg) (z.1 13).toInt = 0 ∧ lo.toInt ≤ nV (bRf (z.2.2.1 2) (z.2.2.1 3) (z.1 12).toNatClampNeg) (z.1 13).toInt ∧ nV (bRf (z.2.2.1 2) (z.2.2.1 3) (z.1 12).toNatClampNeg) (z.1 13).toInt ≤ hi.toInt) ∧ u.2.toInt = -1 ∨ ¬ (¬ nC (bRf (z.2.2.1 2) (z.2.2.1 3) (z.1 12).toNatClampNeg) (z.1 13).toInt = 0 ∧ lo.toInt ≤ nV (bRf (z.2.2.1 2) (z.2.2.1 3) (z.1 12).toNatClampNeg) (z.1 13).toInt ∧ nV (bRf (z.2.2.1 2) (z.2.2.1 3) (z.1 12).toNatClampNeg) (z.1 13).toInt ≤ hi.toInt) ∧ u.2.toInt = (z.1 13).toInt))) (fun u t => zPost dC dI (va_A (zM k q z) sz) (zM k q (sI (sI z 13 u.1) 14 u.2)) t) (va_A (zM k q z) sz)) 0 0 (va_A (zM k q z) sz) := by
  refine Met.ofW (cc := cX7_number) (maxL := 5) (ret := (some .int)) (by decide) rfl ?_
  intro p e s m args below meth c s₁ B hml hv
  obtain ⟨rfl, hsz, hP, hK, hD0⟩ := hv
  have hx := B.exec
  have hb := B.bytes
  have hr := B.returns
  have hts := atoms_spec (ws := wz yX7_number cX7_number 5 (some .int)) B.pre
  have htb : ∀ w ∈ zw, w.before _ s = true := fun w h => hts w (List.mem_cons_of_mem _ h)
  have hown : s.vm.findClass RX7 = some m.cls := findClass_of_methodNamed B.named
  have hlocks := B.notSynchronized
  clear hts
  subst hsz
  have hD := hD0.self (sz := s.heap.size)
  generalize hAe : va_A (zM k q z) s.heap.size = A at hD ⊢
  have hA : ∀ q : Nat, s.heap.size ≤ q → A q := fun q h => by rw [← hAe]; exact Or.inr h
  have hDa : ∀ z9 : ZS, va_D A (zM k q z9) := fun z9 => va_D_adr (w := zM k q z) rfl hD
  have hl := lv_entry ([.ref (q 0), .int lo, .int hi]) (n := 5) (Nat.le_of_ble_eq_true rfl)
  rw [lg_entry_eq]
  generalize (lg_sl ([.ref (q 0), .int lo, .int hi]) ++ List.replicate (5 - (lg_sl ([.ref (q 0), .int lo, .int hi])).length) Slot.unset).toArray = ls at hl ⊢
  have hl : lv_has ls 5 [(0, .ref (q 0)), (1, .int lo), (2, .int hi)] := hl
  refine z_start2 (A := A) (w := (zM k q z)) hP (fun H locs hP hS => ?_)
  clear hD0 hAe
  have hty := M4_at hm4 hdn
  have hz0 : (0 : Int32).toInt = 0 := by decide
  refine lv_aload_n hx hb dX7_number_0 rfl (lv_at hl 0 rfl) ?_
  refine va_get (D := (dC, dI)) (ci := 7) (v := .int (z.1 13)) (C := RX7) (T := TX7) (N := 42) hx hb htb inw7 hown hK.1 hP 0 rfl rfl 13 (by decide) (htb _ wmt3_180) (fun _ h9 => h9) rfl dX7_number_1 ?_
  refine lv_topi (fun x_1 ex_1 => ?_)
  have hx_1 : x_1.toInt = (z.1 13).toInt := by rw [ex_1]
  refine lv_istore_n (lv' := [(3, .int x_1), (0, .ref (q 0)), (1, .int lo), (2, .int hi)]) hx hb dX7_number_4 rfl hl (by decide) rfl (fun ls hl => ?_)
  refine lv_iconst (v := 0) hx hb dX7_number_5 (by decide) ?_
  refine lv_istore (lv' := [(4, .int 0), (3, .int x_1), (0, .ref (q 0)), (1, .int lo), (2, .int hi)]) hx hb dX7_number_6 hl (by decide) rfl (fun ls hl => ?_)
  refine lv_aload_n hx hb dX7_number_8 rfl (lv_at hl 2 rfl) ?_
  refine va_get (D := (dC, dI)) (ci := 7) (v := .int (z.1 14)) (C := RX7) (T := TX7) (N := 42) hx hb htb inw7 hown hK.1 hP 0 rfl rfl 14 (by decide) (htb _ wmt3_181) (fun _ h9 => h9) rfl dX7_number_9 ?_
  refine lv_topi (fun x_2 ex_2 => ?_)
  have hx_2 : x_2.toInt = (z.1 14).toInt := by rw [ex_2]
  refine lv_iconst (v := (-1)) hx hb dX7_number_12 (by decide) ?_
  refine lv_icmp_ne (tgt := 72) hx hb dX7_number_13 (by decide) (fun c_3 => ?_) (fun c_3 => ?_)
  · skip
    have hc_3 := zb_ne rfl (show ((-1) : Int32).toInt = (-1) by decide) c_3
    refine lv_aload_n hx hb dX7_number_72 rfl (lv_at hl 2 rfl) ?_
    refine va_get (D := (dC, dI)) (ci := 7) (v := .int (z.1 14)) (C := RX7) (T := TX7) (N := 42) hx hb htb inw7 hown hK.1 hP 0 rfl rfl 14 (by decide) (htb _ wmt3_181) (fun _ h9 => h9) rfl dX7_number_73 ?_
    refine z_top (v2 := .int x_2) (congrArg Value.int ex_2.symm) ?_
    refine lv_iconst (v := (-1)) hx hb dX7_number_76 (by decide) ?_
    refine lv_icmp_ne (tgt := 103) hx hb dX7_number_77 (by decide) (fun c_4 => ?_) (fun c_4 => ?_)
    · skip
      have hc_4 := zb_ne rfl (show ((-1) : Int32).toInt = (-1) by decide) c_4
      refine lv_iload hx hb dX7_number_103 (lv_at hl 0 rfl) ?_
      exact W.iret (v := 0) hx hb hr (fun t ht hW => ⟨⟨0, (z.1 13, z.1 14), rfl, (show (0 ≤ (0 : Int32).toInt ∧ (0 : Int32).toInt ≤ 99) ∧ ((z.1 13).toInt ≤ (z.1 13).toInt ∧ (z.1 13).toInt ≤ (z.1 13).toInt + 2) ∧ ((z.1 14).toInt = -1 ∨ (z.1 14) = z.1 14) ∧ ((z.1 14).toInt = -1 → (z.1 14).toInt = -1 ∧ (z.1 13).toInt < (z.1 13).toInt ∧ (z.1 13).toInt ≤ (z.2.2.1 2 (z.1 12).toNatClampNeg).toInt ∧ lo.toInt ≤ (0 : Int32).toInt ∧ (0 : Int32).toInt ≤ hi.toInt) ∧ ((z.1 14).toInt = -1 → (z.1 13).toInt = (z.1 13).toInt + nC (bRf (z.2.2.1 2) (z.2.2.1 3) (z.1 12).toNatClampNeg) (z.1 13).toInt ∧ (0 : Int32).toInt = nV (bRf (z.2.2.1 2) (z.2.2.1 3) (z.1 12).toNatClampNeg) (z.1 13).toInt ∧ ((¬ nC (bRf (z.2.2.1 2) (z.2.2.1 3) (z.1 12).toNatClampNeg) (z.1 13).toInt = 0 ∧ lo.toInt ≤ nV (bRf (z.2.2.1 2) (z.2.2.1 3) (z.1 12).toNatClampNeg) (z.1 13).toInt ∧ nV (bRf (z.2.2.1 2) (z.2.2.1 3) (z.1 12).toNatClampNeg) (z.1 13).toInt ≤ hi.toInt) ∧ (z.1 14).toInt = -1 ∨ ¬ (¬ nC (bRf (z.2.2.1 2) (z.2.2.1 3) (z.1 12).toNatClampNeg) (z.1 13).toInt = 0 ∧ lo.toInt ≤ nV (bRf (z.2.2.1 2) (z.2.2.1 3) (z.1 12).toNatClampNeg) (z.1 13).toInt ∧ nV (bRf (z.2.2.1 2) (z.2.2.1 3) (z.1 12).toNatClampNeg) (z.1 13).toInt ≤ hi.toInt) ∧ (z.1 14).toInt = (z.1 13).toInt)) from ⟨by omega, by omega, by first | (left; omega) | (right; rfl), fun q9 => by omega, fun q9 => by omega⟩), ⟨by rw [ht]; exact hP, hDa _⟩⟩, hS.F ht⟩) hS.2.2 dX7_number_105
    · skip
      have hc_4 := zb_eq rfl (show ((-1) : Int32).toInt = (-1) by decide) c_4
      refine lv_aload_n hx hb dX7_number_80 rfl (lv_at hl 2 rfl) ?_
      refine va_get (D := (dC, dI)) (ci := 7) (v := .int (z.1 13)) (C := RX7) (T := TX7) (N := 42) hx hb htb inw7 hown hK.1 hP 0 rfl rfl 13 (by decide) (htb _ wmt3_180) (fun _ h9 => h9) rfl dX7_number_81 ?_
      refine z_top (v2 := .int x_1) (congrArg Value.int ex_1.symm) ?_
      refine lv_iload_n hx hb dX7_number_84 rfl (lv_at hl 1 rfl) ?_
      refine lv_icmp_eq (tgt := 98) hx hb dX7_number_85 (by decide) (fun c_5 => ?_) (fun c_5 => ?_)
      · skip
        have hc_5 := zb_eq rfl rfl c_5
        refine lv_aload_n hx hb dX7_number_98 rfl (lv_at hl 2 rfl) ?_
        refine lv_iload_n hx hb dX7_number_99 rfl (lv_at hl 1 rfl) ?_
        refine va_put (D := (dC, dI)) (ci := 7) (v := .int x_1) (ty := .int) (C := RX7) (T := TX7) (N := 42) hx hb htb inw7 tyX7 tyX7_ok nmX7 hown hK.1 hP (hDa _) hS 0 rfl rfl 14 (by decide) (htb _ wmt3_181) (fun _ h9 => h9) rfl (by decide +kernel) rfl rfl (Nat.le_of_ble_eq_true rfl) dX7_number_100 (fun H locs hP _ hS => ?_)
        have hP : va_P (dC, dI) vwCl (zM k q (sI z 14 x_1)) H := hP
        refine lv_iload hx hb dX7_number_103 (lv_at hl 0 rfl) ?_
        exact W.iret (v := 0) hx hb hr (fun t ht hW => ⟨⟨0, (z.1 13, x_1), rfl, (show (0 ≤ (0 : Int32).toInt ∧ (0 : Int32).toInt ≤ 99) ∧ ((z.1 13).toInt ≤ (z.1 13).toInt ∧ (z.1 13).toInt ≤ (z.1 13).toInt + 2) ∧ ((z.1 14).toInt = -1 ∨ x_1 = z.1 14) ∧ (x_1.toInt = -1 → (z.1 14).toInt = -1 ∧ (z.1 13).toInt < (z.1 13).toInt ∧ (z.1 13).toInt ≤ (z.2.2.1 2 (z.1 12).toNatClampNeg).toInt ∧ lo.toInt ≤ (0 : Int32).toInt ∧ (0 : Int32).toInt ≤ hi.toInt) ∧ ((z.1 14).toInt = -1 → (z.1 13).toInt = (z.1 13).toInt + nC (bRf (z.2.2.1 2) (z.2.2.1 3) (z.1 12).toNatClampNeg) (z.1 13).toInt ∧ (0 : Int32).toInt = nV (bRf (z.2.2.1 2) (z.2.2.1 3) (z.1 12).toNatClampNeg) (z.1 13).toInt ∧ ((¬ nC (bRf (z.2.2.1 2) (z.2.2.1 3) (z.1 12).toNatClampNeg) (z.1 13).toInt = 0 ∧ lo.toInt ≤ nV (bRf (z.2.2.1 2) (z.2.2.1 3) (z.1 12).toNatClampNeg) (z.1 13).toInt ∧ nV (bRf (z.2.2.1 2) (z.2.2.1 3) (z.1 12).toNatClampNeg) (z.1 13).toInt ≤ hi.toInt) ∧ x_1.toInt = -1 ∨ ¬ (¬ nC (bRf (z.2.2.1 2) (z.2.2.1 3) (z.1 12).toNatClampNeg) (z.1 13).toInt = 0 ∧ lo.toInt ≤ nV (bRf (z.2.2.1 2) (z.2.2.1 3) (z.1 12).toNatClampNeg) (z.1 13).toInt ∧ nV (bRf (z.2.2.1 2) (z.2.2.1 3) (z.1 12).toNatClampNeg) (z.1 13).toInt ≤ hi.toInt) ∧ x_1.toInt = (z.1 13).toInt)) from ⟨by omega, by omega, by first | (left; omega) | (right; rfl), fun q9 => by omega, fun q9 => by omega⟩), ⟨by rw [ht]; exact hP, hDa _⟩⟩, hS.F ht⟩) hS.2.2 dX7_number_105
      · skip
        have hc_5 := zb_ne rfl rfl c_5
        refine lv_iload hx hb dX7_number_88 (lv_at hl 0 rfl) ?_
        refine lv_iload_n hx hb dX7_number_90 rfl (lv_at hl 3 rfl) ?_
        refine lv_iload_n hx hb dX7_number_91 rfl (lv_at hl 4 rfl) ?_
        refine zc0_i (w := (zM k q z)) (va_runS (As := [.int 0, .int lo, .int hi]) (rest := []) ⟨hx, hb, hml, hown, htb⟩ (c_X7_in l dC dI k 0 lo hi _ ) (va_cwS 3 htb (gzS wmt4_62 wmt4_63 wmt1_8 wmt4_64) rfl rfl rfl (by decide +kernel) ⟨Nat.le_of_ble_eq_true rfl, Nat.le_of_ble_eq_true rfl⟩) (zp0_S hK) rfl rfl hl.1 rfl (lv_room (Nat.le_of_ble_eq_true rfl)) dX7_number_92 ⟨Nat.le_of_ble_eq_true rfl, Nat.le_of_ble_eq_true rfl⟩) hP hS hA (fun r_6 u_7 H locs w_8 hP hS => ?_)
        rcases w_8 with ⟨e_10, h_9⟩ | ⟨e_12, h_11⟩
        · skip
          replace e_10 : r_6 = 1 := e_10
          subst e_10
          replace h_9 : lo.toInt ≤ (0 : Int32).toInt ∧ (0 : Int32).toInt ≤ hi.toInt := h_9
          rw [show (0 : Int32).toInt = 0 by decide] at h_9
          refine lv_if_ne (tgt := 103) hx hb dX7_number_95 (by decide) (fun c_13 => ?_) (fun c_13 => ?_)
          · skip
            refine lv_iload hx hb dX7_number_103 (lv_at hl 0 rfl) ?_
            exact W.iret (v := 0) hx hb hr (fun t ht hW => ⟨⟨0, (z.1 13, z.1 14), rfl, (show (0 ≤ (0 : Int32).toInt ∧ (0 : Int32).toInt ≤ 99) ∧ ((z.1 13).toInt ≤ (z.1 13).toInt ∧ (z.1 13).toInt ≤ (z.1 13).toInt + 2) ∧ ((z.1 14).toInt = -1 ∨ (z.1 14) = z.1 14) ∧ ((z.1 14).toInt = -1 → (z.1 14).toInt = -1 ∧ (z.1 13).toInt < (z.1 13).toInt ∧ (z.1 13).toInt ≤ (z.2.2.1 2 (z.1 12).toNatClampNeg).toInt ∧ lo.toInt ≤ (0 : Int32).toInt ∧ (0 : Int32).toInt ≤ hi.toInt) ∧ ((z.1 14).toInt = -1 → (z.1 13).toInt = (z.1 13).toInt + nC (bRf (z.2.2.1 2) (z.2.2.1 3) (z.1 12).toNatClampNeg) (z.1 13).toInt ∧ (0 : Int32).toInt = nV (bRf (z.2.2.1 2) (z.2.2.1 3) (z.1 12).toNatClampNeg) (z.1 13).toInt ∧ ((¬ nC (bRf (z.2.2.1 2) (z.2.2.1 3) (z.1 12).toNatClampNeg) (z.1 13).toInt = 0 ∧ lo.toInt ≤ nV (bRf (z.2.2.1 2) (z.2.2.1 3) (z.1 12).toNatClampNeg) (z.1 13).toInt ∧ nV (bRf (z.2.2.1 2) (z.2.2.1 3) (z.1 12).toNatClampNeg) (z.1 13).toInt ≤ hi.toInt) ∧ (z.1 14).toInt = -1 ∨ ¬ (¬ nC (bRf (z.2.2.1 2) (z.2.2.1 3) (z.1 12).toNatClampNeg) (z.1 13).toInt = 0 ∧ lo.toInt ≤ nV (bRf (z.2.2.1 2) (z.2.2.1 3) (z.1 12).toNatClampNeg) (z.1 13).toInt ∧ nV (bRf (z.2.2.1 2) (z.2.2.1 3) (z.1 12).toNatClampNeg) (z.1 13).toInt ≤ hi.toInt) ∧ (z.1 14).toInt = (z.1 13).toInt)) from ⟨by omega, by omega, by first | (left; omega) | (right; rfl), fun q9 => by omega, fun q9 => by omega⟩), ⟨by rw [ht]; exact hP, hDa _⟩⟩, hS.F ht⟩) hS.2.2 dX7_number_105
          · skip
            exact absurd c_13 (by decide)
        · skip
          replace e_12 : r_6 = 0 := e_12
          subst e_12
          replace h_11 : ¬ (lo.toInt ≤ (0 : Int32).toInt ∧ (0 : Int32).toInt ≤ hi.toInt) := h_11
          rw [show (0 : Int32).toInt = 0 by decide] at h_11
          refine lv_if_ne (tgt := 103) hx hb dX7_number_95 (by decide) (fun c_14 => ?_) (fun c_14 => ?_)
          · skip
            exact absurd c_14 (by decide)
          · skip
            refine lv_aload_n hx hb dX7_number_98 rfl (lv_at hl 2 rfl) ?_
            refine lv_iload_n hx hb dX7_number_99 rfl (lv_at hl 1 rfl) ?_
            refine va_put (D := (dC, dI)) (ci := 7) (v := .int x_1) (ty := .int) (C := RX7) (T := TX7) (N := 42) hx hb htb inw7 tyX7 tyX7_ok nmX7 hown hK.1 hP (hDa _) hS 0 rfl rfl 14 (by decide) (htb _ wmt3_181) (fun _ h9 => h9) rfl (by decide +kernel) rfl rfl (Nat.le_of_ble_eq_true rfl) dX7_number_100 (fun H locs hP _ hS => ?_)
            have hP : va_P (dC, dI) vwCl (zM k q (sI z 14 x_1)) H := hP
            refine lv_iload hx hb dX7_number_103 (lv_at hl 0 rfl) ?_
            exact W.iret (v := 0) hx hb hr (fun t ht hW => ⟨⟨0, (z.1 13, x_1), rfl, (show (0 ≤ (0 : Int32).toInt ∧ (0 : Int32).toInt ≤ 99) ∧ ((z.1 13).toInt ≤ (z.1 13).toInt ∧ (z.1 13).toInt ≤ (z.1 13).toInt + 2) ∧ ((z.1 14).toInt = -1 ∨ x_1 = z.1 14) ∧ (x_1.toInt = -1 → (z.1 14).toInt = -1 ∧ (z.1 13).toInt < (z.1 13).toInt ∧ (z.1 13).toInt ≤ (z.2.2.1 2 (z.1 12).toNatClampNeg).toInt ∧ lo.toInt ≤ (0 : Int32).toInt ∧ (0 : Int32).toInt ≤ hi.toInt) ∧ ((z.1 14).toInt = -1 → (z.1 13).toInt = (z.1 13).toInt + nC (bRf (z.2.2.1 2) (z.2.2.1 3) (z.1 12).toNatClampNeg) (z.1 13).toInt ∧ (0 : Int32).toInt = nV (bRf (z.2.2.1 2) (z.2.2.1 3) (z.1 12).toNatClampNeg) (z.1 13).toInt ∧ ((¬ nC (bRf (z.2.2.1 2) (z.2.2.1 3) (z.1 12).toNatClampNeg) (z.1 13).toInt = 0 ∧ lo.toInt ≤ nV (bRf (z.2.2.1 2) (z.2.2.1 3) (z.1 12).toNatClampNeg) (z.1 13).toInt ∧ nV (bRf (z.2.2.1 2) (z.2.2.1 3) (z.1 12).toNatClampNeg) (z.1 13).toInt ≤ hi.toInt) ∧ x_1.toInt = -1 ∨ ¬ (¬ nC (bRf (z.2.2.1 2) (z.2.2.1 3) (z.1 12).toNatClampNeg) (z.1 13).toInt = 0 ∧ lo.toInt ≤ nV (bRf (z.2.2.1 2) (z.2.2.1 3) (z.1 12).toNatClampNeg) (z.1 13).toInt ∧ nV (bRf (z.2.2.1 2) (z.2.2.1 3) (z.1 12).toNatClampNeg) (z.1 13).toInt ≤ hi.toInt) ∧ x_1.toInt = (z.1 13).toInt)) from ⟨by omega, by omega, by first | (left; omega) | (right; rfl), fun q9 => by omega, fun q9 => by omega⟩), ⟨by rw [ht]; exact hP, hDa _⟩⟩, hS.F ht⟩) hS.2.2 dX7_number_105
  · skip
    have hc_3 := zb_eq rfl (show ((-1) : Int32).toInt = (-1) by decide) c_3
    refine lv_aload_n hx hb dX7_number_16 rfl (lv_at hl 2 rfl) ?_
    refine va_get (D := (dC, dI)) (ci := 7) (v := .int (z.1 13)) (C := RX7) (T := TX7) (N := 42) hx hb htb inw7 hown hK.1 hP 0 rfl rfl 13 (by decide) (htb _ wmt3_180) (fun _ h9 => h9) rfl dX7_number_17 ?_
    refine z_top (v2 := .int x_1) (congrArg Value.int ex_1.symm) ?_
    refine lv_iload_n hx hb dX7_number_20 rfl (lv_at hl 1 rfl) ?_
    refine lv_iconst (v := 2) hx hb dX7_number_21 (by decide) ?_
    refine lv_iadd hx hb dX7_number_22 ?_
    refine lv_topi (fun x_15 ex_15 => ?_)
    have hx_15 := z_add ex_15 rfl (show (2 : Int32).toInt = 2 by decide) (by omega)
    refine lv_icmp_ge (tgt := 72) hx hb dX7_number_23 (by decide) (fun c_16 => ?_) (fun c_16 => ?_)
    · skip
      have hc_16 := zb_le rfl rfl c_16
      exfalso; omega
    · skip
      have hc_16 := zb_nle rfl rfl c_16
      refine lv_aload_n hx hb dX7_number_26 rfl (lv_at hl 2 rfl) ?_
      refine zcA_i (w := (zM k q z)) (va_runV (As := []) (rest := []) ⟨hx, hb, hml, hown, htb⟩ (c_X7_byteNow l dC dI k q z _ (show 0 ≤ (z.1 12).toInt ∧ (z.1 12).toInt < 4 by omega) hm4 (show 0 ≤ (z.1 13).toInt ∧ (z.1 13).toInt ≤ 1000 by omega)) (cwV 0 htb (gzV wmt4_85 wmt4_87 wmp2_9 wmt1_8 wmt4_88) rfl rfl rfl (by decide +kernel) ⟨Nat.le_of_ble_eq_true rfl, Nat.le_of_ble_eq_true rfl⟩) (zpA_V (ci := 7) (q0 := 0) hK hP (hDa _) rfl rfl) rfl rfl hl.1 rfl (lv_room (Nat.le_of_ble_eq_true rfl)) dX7_number_27 ⟨Nat.le_of_ble_eq_true rfl, Nat.le_of_ble_eq_true rfl⟩) (hDa _) hS hA (fun r_17 u_18 H locs w_19 hP _ hS => ?_)
      obtain ⟨h_20, h_21⟩ := w_19
      replace h_20 : ((z.1 13)).toInt < ((z.2.2.1 2) ((z.1 12)).toNatClampNeg).toInt ∨ r_17.toInt = -1 := h_20
      replace h_21 : r_17.toInt = bRf ((z.2.2.1 2)) ((z.2.2.1 3)) ((z.1 12)).toNatClampNeg ((z.1 13)).toInt := h_21
      have hB_23 : r_17.toInt = bRf (z.2.2.1 2) (z.2.2.1 3) (z.1 12).toNatClampNeg ((z.1 13).toInt) := by have q := h_21; rw [show (z.1 13).toInt = (z.1 13).toInt by omega] at q; exact q
      refine lv_bipush (v := 48) hx hb dX7_number_30 (by decide) ?_
      refine lv_icmp_lt (tgt := 72) hx hb dX7_number_32 (by decide) (fun c_24 => ?_) (fun c_24 => ?_)
      · skip
        have hc_24 := zb_lt rfl (show (48 : Int32).toInt = 48 by decide) c_24
        refine lv_aload_n hx hb dX7_number_72 rfl (lv_at hl 2 rfl) ?_
        refine va_get (D := (dC, dI)) (ci := 7) (v := .int (z.1 14)) (C := RX7) (T := TX7) (N := 42) hx hb htb inw7 hown hK.1 hP 0 rfl rfl 14 (by decide) (htb _ wmt3_181) (fun _ h9 => h9) rfl dX7_number_73 ?_
        refine z_top (v2 := .int x_2) (congrArg Value.int ex_2.symm) ?_
        refine lv_iconst (v := (-1)) hx hb dX7_number_76 (by decide) ?_
        refine lv_icmp_ne (tgt := 103) hx hb dX7_number_77 (by decide) (fun c_25 => ?_) (fun c_25 => ?_)
        · skip
          have hc_25 := zb_ne rfl (show ((-1) : Int32).toInt = (-1) by decide) c_25
          refine lv_iload hx hb dX7_number_103 (lv_at hl 0 rfl) ?_
          exact W.iret (v := 0) hx hb hr (fun t ht hW => ⟨⟨0, (z.1 13, z.1 14), rfl, (show (0 ≤ (0 : Int32).toInt ∧ (0 : Int32).toInt ≤ 99) ∧ ((z.1 13).toInt ≤ (z.1 13).toInt ∧ (z.1 13).toInt ≤ (z.1 13).toInt + 2) ∧ ((z.1 14).toInt = -1 ∨ (z.1 14) = z.1 14) ∧ ((z.1 14).toInt = -1 → (z.1 14).toInt = -1 ∧ (z.1 13).toInt < (z.1 13).toInt ∧ (z.1 13).toInt ≤ (z.2.2.1 2 (z.1 12).toNatClampNeg).toInt ∧ lo.toInt ≤ (0 : Int32).toInt ∧ (0 : Int32).toInt ≤ hi.toInt) ∧ ((z.1 14).toInt = -1 → (z.1 13).toInt = (z.1 13).toInt + nC (bRf (z.2.2.1 2) (z.2.2.1 3) (z.1 12).toNatClampNeg) (z.1 13).toInt ∧ (0 : Int32).toInt = nV (bRf (z.2.2.1 2) (z.2.2.1 3) (z.1 12).toNatClampNeg) (z.1 13).toInt ∧ ((¬ nC (bRf (z.2.2.1 2) (z.2.2.1 3) (z.1 12).toNatClampNeg) (z.1 13).toInt = 0 ∧ lo.toInt ≤ nV (bRf (z.2.2.1 2) (z.2.2.1 3) (z.1 12).toNatClampNeg) (z.1 13).toInt ∧ nV (bRf (z.2.2.1 2) (z.2.2.1 3) (z.1 12).toNatClampNeg) (z.1 13).toInt ≤ hi.toInt) ∧ (z.1 14).toInt = -1 ∨ ¬ (¬ nC (bRf (z.2.2.1 2) (z.2.2.1 3) (z.1 12).toNatClampNeg) (z.1 13).toInt = 0 ∧ lo.toInt ≤ nV (bRf (z.2.2.1 2) (z.2.2.1 3) (z.1 12).toNatClampNeg) (z.1 13).toInt ∧ nV (bRf (z.2.2.1 2) (z.2.2.1 3) (z.1 12).toNatClampNeg) (z.1 13).toInt ≤ hi.toInt) ∧ (z.1 14).toInt = (z.1 13).toInt)) from ⟨by omega, by omega, by first | (left; omega) | (right; rfl), fun q9 => by omega, fun q9 => by have qn := nC_0 (show ¬ (48 ≤ bRf (z.2.2.1 2) (z.2.2.1 3) (z.1 12).toNatClampNeg (z.1 13).toInt ∧ bRf (z.2.2.1 2) (z.2.2.1 3) (z.1 12).toNatClampNeg (z.1 13).toInt ≤ 57) by omega); omega⟩), ⟨by rw [ht]; exact hP, hDa _⟩⟩, hS.F ht⟩) hS.2.2 dX7_number_105
        · skip
          have hc_25 := zb_eq rfl (show ((-1) : Int32).toInt = (-1) by decide) c_25
          refine lv_aload_n hx hb dX7_number_80 rfl (lv_at hl 2 rfl) ?_
          refine va_get (D := (dC, dI)) (ci := 7) (v := .int (z.1 13)) (C := RX7) (T := TX7) (N := 42) hx hb htb inw7 hown hK.1 hP 0 rfl rfl 13 (by decide) (htb _ wmt3_180) (fun _ h9 => h9) rfl dX7_number_81 ?_
          refine z_top (v2 := .int x_1) (congrArg Value.int ex_1.symm) ?_
          refine lv_iload_n hx hb dX7_number_84 rfl (lv_at hl 1 rfl) ?_
          refine lv_icmp_eq (tgt := 98) hx hb dX7_number_85 (by decide) (fun c_26 => ?_) (fun c_26 => ?_)
          · skip
            have hc_26 := zb_eq rfl rfl c_26
            refine lv_aload_n hx hb dX7_number_98 rfl (lv_at hl 2 rfl) ?_
            refine lv_iload_n hx hb dX7_number_99 rfl (lv_at hl 1 rfl) ?_
            refine va_put (D := (dC, dI)) (ci := 7) (v := .int x_1) (ty := .int) (C := RX7) (T := TX7) (N := 42) hx hb htb inw7 tyX7 tyX7_ok nmX7 hown hK.1 hP (hDa _) hS 0 rfl rfl 14 (by decide) (htb _ wmt3_181) (fun _ h9 => h9) rfl (by decide +kernel) rfl rfl (Nat.le_of_ble_eq_true rfl) dX7_number_100 (fun H locs hP _ hS => ?_)
            have hP : va_P (dC, dI) vwCl (zM k q (sI z 14 x_1)) H := hP
            refine lv_iload hx hb dX7_number_103 (lv_at hl 0 rfl) ?_
            exact W.iret (v := 0) hx hb hr (fun t ht hW => ⟨⟨0, (z.1 13, x_1), rfl, (show (0 ≤ (0 : Int32).toInt ∧ (0 : Int32).toInt ≤ 99) ∧ ((z.1 13).toInt ≤ (z.1 13).toInt ∧ (z.1 13).toInt ≤ (z.1 13).toInt + 2) ∧ ((z.1 14).toInt = -1 ∨ x_1 = z.1 14) ∧ (x_1.toInt = -1 → (z.1 14).toInt = -1 ∧ (z.1 13).toInt < (z.1 13).toInt ∧ (z.1 13).toInt ≤ (z.2.2.1 2 (z.1 12).toNatClampNeg).toInt ∧ lo.toInt ≤ (0 : Int32).toInt ∧ (0 : Int32).toInt ≤ hi.toInt) ∧ ((z.1 14).toInt = -1 → (z.1 13).toInt = (z.1 13).toInt + nC (bRf (z.2.2.1 2) (z.2.2.1 3) (z.1 12).toNatClampNeg) (z.1 13).toInt ∧ (0 : Int32).toInt = nV (bRf (z.2.2.1 2) (z.2.2.1 3) (z.1 12).toNatClampNeg) (z.1 13).toInt ∧ ((¬ nC (bRf (z.2.2.1 2) (z.2.2.1 3) (z.1 12).toNatClampNeg) (z.1 13).toInt = 0 ∧ lo.toInt ≤ nV (bRf (z.2.2.1 2) (z.2.2.1 3) (z.1 12).toNatClampNeg) (z.1 13).toInt ∧ nV (bRf (z.2.2.1 2) (z.2.2.1 3) (z.1 12).toNatClampNeg) (z.1 13).toInt ≤ hi.toInt) ∧ x_1.toInt = -1 ∨ ¬ (¬ nC (bRf (z.2.2.1 2) (z.2.2.1 3) (z.1 12).toNatClampNeg) (z.1 13).toInt = 0 ∧ lo.toInt ≤ nV (bRf (z.2.2.1 2) (z.2.2.1 3) (z.1 12).toNatClampNeg) (z.1 13).toInt ∧ nV (bRf (z.2.2.1 2) (z.2.2.1 3) (z.1 12).toNatClampNeg) (z.1 13).toInt ≤ hi.toInt) ∧ x_1.toInt = (z.1 13).toInt)) from ⟨by omega, by omega, by first | (left; omega) | (right; rfl), fun q9 => by omega, fun q9 => by have qn := nC_0 (show ¬ (48 ≤ bRf (z.2.2.1 2) (z.2.2.1 3) (z.1 12).toNatClampNeg (z.1 13).toInt ∧ bRf (z.2.2.1 2) (z.2.2.1 3) (z.1 12).toNatClampNeg (z.1 13).toInt ≤ 57) by omega); omega⟩), ⟨by rw [ht]; exact hP, hDa _⟩⟩, hS.F ht⟩) hS.2.2 dX7_number_105
          · skip
            have hc_26 := zb_ne rfl rfl c_26
            refine lv_iload hx hb dX7_number_88 (lv_at hl 0 rfl) ?_
            refine lv_iload_n hx hb dX7_number_90 rfl (lv_at hl 3 rfl) ?_
            refine lv_iload_n hx hb dX7_number_91 rfl (lv_at hl 4 rfl) ?_
            refine zc0_i (w := (zM k q z)) (va_runS (As := [.int 0, .int lo, .int hi]) (rest := []) ⟨hx, hb, hml, hown, htb⟩ (c_X7_in l dC dI k 0 lo hi _ ) (va_cwS 3 htb (gzS wmt4_62 wmt4_63 wmt1_8 wmt4_64) rfl rfl rfl (by decide +kernel) ⟨Nat.le_of_ble_eq_true rfl, Nat.le_of_ble_eq_true rfl⟩) (zp0_S hK) rfl rfl hl.1 rfl (lv_room (Nat.le_of_ble_eq_true rfl)) dX7_number_92 ⟨Nat.le_of_ble_eq_true rfl, Nat.le_of_ble_eq_true rfl⟩) hP hS hA (fun r_27 u_28 H locs w_29 hP hS => ?_)
            rcases w_29 with ⟨e_31, h_30⟩ | ⟨e_33, h_32⟩
            · skip
              replace e_31 : r_27 = 1 := e_31
              subst e_31
              replace h_30 : lo.toInt ≤ (0 : Int32).toInt ∧ (0 : Int32).toInt ≤ hi.toInt := h_30
              rw [show (0 : Int32).toInt = 0 by decide] at h_30
              refine lv_if_ne (tgt := 103) hx hb dX7_number_95 (by decide) (fun c_34 => ?_) (fun c_34 => ?_)
              · skip
                refine lv_iload hx hb dX7_number_103 (lv_at hl 0 rfl) ?_
                exact W.iret (v := 0) hx hb hr (fun t ht hW => ⟨⟨0, (z.1 13, z.1 14), rfl, (show (0 ≤ (0 : Int32).toInt ∧ (0 : Int32).toInt ≤ 99) ∧ ((z.1 13).toInt ≤ (z.1 13).toInt ∧ (z.1 13).toInt ≤ (z.1 13).toInt + 2) ∧ ((z.1 14).toInt = -1 ∨ (z.1 14) = z.1 14) ∧ ((z.1 14).toInt = -1 → (z.1 14).toInt = -1 ∧ (z.1 13).toInt < (z.1 13).toInt ∧ (z.1 13).toInt ≤ (z.2.2.1 2 (z.1 12).toNatClampNeg).toInt ∧ lo.toInt ≤ (0 : Int32).toInt ∧ (0 : Int32).toInt ≤ hi.toInt) ∧ ((z.1 14).toInt = -1 → (z.1 13).toInt = (z.1 13).toInt + nC (bRf (z.2.2.1 2) (z.2.2.1 3) (z.1 12).toNatClampNeg) (z.1 13).toInt ∧ (0 : Int32).toInt = nV (bRf (z.2.2.1 2) (z.2.2.1 3) (z.1 12).toNatClampNeg) (z.1 13).toInt ∧ ((¬ nC (bRf (z.2.2.1 2) (z.2.2.1 3) (z.1 12).toNatClampNeg) (z.1 13).toInt = 0 ∧ lo.toInt ≤ nV (bRf (z.2.2.1 2) (z.2.2.1 3) (z.1 12).toNatClampNeg) (z.1 13).toInt ∧ nV (bRf (z.2.2.1 2) (z.2.2.1 3) (z.1 12).toNatClampNeg) (z.1 13).toInt ≤ hi.toInt) ∧ (z.1 14).toInt = -1 ∨ ¬ (¬ nC (bRf (z.2.2.1 2) (z.2.2.1 3) (z.1 12).toNatClampNeg) (z.1 13).toInt = 0 ∧ lo.toInt ≤ nV (bRf (z.2.2.1 2) (z.2.2.1 3) (z.1 12).toNatClampNeg) (z.1 13).toInt ∧ nV (bRf (z.2.2.1 2) (z.2.2.1 3) (z.1 12).toNatClampNeg) (z.1 13).toInt ≤ hi.toInt) ∧ (z.1 14).toInt = (z.1 13).toInt)) from ⟨by omega, by omega, by first | (left; omega) | (right; rfl), fun q9 => by omega, fun q9 => by have qn := nC_0 (show ¬ (48 ≤ bRf (z.2.2.1 2) (z.2.2.1 3) (z.1 12).toNatClampNeg (z.1 13).toInt ∧ bRf (z.2.2.1 2) (z.2.2.1 3) (z.1 12).toNatClampNeg (z.1 13).toInt ≤ 57) by omega); omega⟩), ⟨by rw [ht]; exact hP, hDa _⟩⟩, hS.F ht⟩) hS.2.2 dX7_number_105
              · skip
                exact absurd c_34 (by decide)
            · skip
              replace e_33 : r_27 = 0 := e_33
              subst e_33
              replace h_32 : ¬ (lo.toInt ≤ (0 : Int32).toInt ∧ (0 : Int32).toInt ≤ hi.toInt) := h_32
              rw [show (0 : Int32).toInt = 0 by decide] at h_32
              refine lv_if_ne (tgt := 103) hx hb dX7_number_95 (by decide) (fun c_35 => ?_) (fun c_35 => ?_)
              · skip
                exact absurd c_35 (by decide)
              · skip
                refine lv_aload_n hx hb dX7_number_98 rfl (lv_at hl 2 rfl) ?_
                refine lv_iload_n hx hb dX7_number_99 rfl (lv_at hl 1 rfl) ?_
                refine va_put (D := (dC, dI)) (ci := 7) (v := .int x_1) (ty := .int) (C := RX7) (T := TX7) (N := 42) hx hb htb inw7 tyX7 tyX7_ok nmX7 hown hK.1 hP (hDa _) hS 0 rfl rfl 14 (by decide) (htb _ wmt3_181) (fun _ h9 => h9) rfl (by decide +kernel) rfl rfl (Nat.le_of_ble_eq_true rfl) dX7_number_100 (fun H locs hP _ hS => ?_)
                have hP : va_P (dC, dI) vwCl (zM k q (sI z 14 x_1)) H := hP
                refine lv_iload hx hb dX7_number_103 (lv_at hl 0 rfl) ?_
                exact W.iret (v := 0) hx hb hr (fun t ht hW => ⟨⟨0, (z.1 13, x_1), rfl, (show (0 ≤ (0 : Int32).toInt ∧ (0 : Int32).toInt ≤ 99) ∧ ((z.1 13).toInt ≤ (z.1 13).toInt ∧ (z.1 13).toInt ≤ (z.1 13).toInt + 2) ∧ ((z.1 14).toInt = -1 ∨ x_1 = z.1 14) ∧ (x_1.toInt = -1 → (z.1 14).toInt = -1 ∧ (z.1 13).toInt < (z.1 13).toInt ∧ (z.1 13).toInt ≤ (z.2.2.1 2 (z.1 12).toNatClampNeg).toInt ∧ lo.toInt ≤ (0 : Int32).toInt ∧ (0 : Int32).toInt ≤ hi.toInt) ∧ ((z.1 14).toInt = -1 → (z.1 13).toInt = (z.1 13).toInt + nC (bRf (z.2.2.1 2) (z.2.2.1 3) (z.1 12).toNatClampNeg) (z.1 13).toInt ∧ (0 : Int32).toInt = nV (bRf (z.2.2.1 2) (z.2.2.1 3) (z.1 12).toNatClampNeg) (z.1 13).toInt ∧ ((¬ nC (bRf (z.2.2.1 2) (z.2.2.1 3) (z.1 12).toNatClampNeg) (z.1 13).toInt = 0 ∧ lo.toInt ≤ nV (bRf (z.2.2.1 2) (z.2.2.1 3) (z.1 12).toNatClampNeg) (z.1 13).toInt ∧ nV (bRf (z.2.2.1 2) (z.2.2.1 3) (z.1 12).toNatClampNeg) (z.1 13).toInt ≤ hi.toInt) ∧ x_1.toInt = -1 ∨ ¬ (¬ nC (bRf (z.2.2.1 2) (z.2.2.1 3) (z.1 12).toNatClampNeg) (z.1 13).toInt = 0 ∧ lo.toInt ≤ nV (bRf (z.2.2.1 2) (z.2.2.1 3) (z.1 12).toNatClampNeg) (z.1 13).toInt ∧ nV (bRf (z.2.2.1 2) (z.2.2.1 3) (z.1 12).toNatClampNeg) (z.1 13).toInt ≤ hi.toInt) ∧ x_1.toInt = (z.1 13).toInt)) from ⟨by omega, by omega, by first | (left; omega) | (right; rfl), fun q9 => by omega, fun q9 => by have qn := nC_0 (show ¬ (48 ≤ bRf (z.2.2.1 2) (z.2.2.1 3) (z.1 12).toNatClampNeg (z.1 13).toInt ∧ bRf (z.2.2.1 2) (z.2.2.1 3) (z.1 12).toNatClampNeg (z.1 13).toInt ≤ 57) by omega); omega⟩), ⟨by rw [ht]; exact hP, hDa _⟩⟩, hS.F ht⟩) hS.2.2 dX7_number_105
      · skip
        have hc_24 := zb_nlt rfl (show (48 : Int32).toInt = 48 by decide) c_24
        refine lv_aload_n hx hb dX7_number_35 rfl (lv_at hl 2 rfl) ?_
        refine zcA_i (w := (zM k q z)) (va_runV (As := []) (rest := []) ⟨hx, hb, hml, hown, htb⟩ (c_X7_byteNow l dC dI k q z _ (show 0 ≤ (z.1 12).toInt ∧ (z.1 12).toInt < 4 by omega) hm4 (show 0 ≤ (z.1 13).toInt ∧ (z.1 13).toInt ≤ 1000 by omega)) (cwV 0 htb (gzV wmt4_85 wmt4_87 wmp2_9 wmt1_8 wmt4_88) rfl rfl rfl (by decide +kernel) ⟨Nat.le_of_ble_eq_true rfl, Nat.le_of_ble_eq_true rfl⟩) (zpA_V (ci := 7) (q0 := 0) hK hP (hDa _) rfl rfl) rfl rfl hl.1 rfl (lv_room (Nat.le_of_ble_eq_true rfl)) dX7_number_36 ⟨Nat.le_of_ble_eq_true rfl, Nat.le_of_ble_eq_true rfl⟩) (hDa _) hS hA (fun r_36 u_37 H locs w_38 hP _ hS => ?_)
        obtain ⟨h_39, h_40⟩ := w_38
        replace h_39 : ((z.1 13)).toInt < ((z.2.2.1 2) ((z.1 12)).toNatClampNeg).toInt ∨ r_36.toInt = -1 := h_39
        replace h_40 : r_36.toInt = bRf ((z.2.2.1 2)) ((z.2.2.1 3)) ((z.1 12)).toNatClampNeg ((z.1 13)).toInt := h_40
        have hB_42 : r_36.toInt = bRf (z.2.2.1 2) (z.2.2.1 3) (z.1 12).toNatClampNeg ((z.1 13).toInt) := by have q := h_40; rw [show (z.1 13).toInt = (z.1 13).toInt by omega] at q; exact q
        refine lv_bipush (v := 57) hx hb dX7_number_39 (by decide) ?_
        refine lv_icmp_gt (tgt := 72) hx hb dX7_number_41 (by decide) (fun c_43 => ?_) (fun c_43 => ?_)
        · skip
          have hc_43 := zb_lt (show (57 : Int32).toInt = 57 by decide) rfl c_43
          refine lv_aload_n hx hb dX7_number_72 rfl (lv_at hl 2 rfl) ?_
          refine va_get (D := (dC, dI)) (ci := 7) (v := .int (z.1 14)) (C := RX7) (T := TX7) (N := 42) hx hb htb inw7 hown hK.1 hP 0 rfl rfl 14 (by decide) (htb _ wmt3_181) (fun _ h9 => h9) rfl dX7_number_73 ?_
          refine z_top (v2 := .int x_2) (congrArg Value.int ex_2.symm) ?_
          refine lv_iconst (v := (-1)) hx hb dX7_number_76 (by decide) ?_
          refine lv_icmp_ne (tgt := 103) hx hb dX7_number_77 (by decide) (fun c_44 => ?_) (fun c_44 => ?_)
          · skip
            have hc_44 := zb_ne rfl (show ((-1) : Int32).toInt = (-1) by decide) c_44
            refine lv_iload hx hb dX7_number_103 (lv_at hl 0 rfl) ?_
            exact W.iret (v := 0) hx hb hr (fun t ht hW => ⟨⟨0, (z.1 13, z.1 14), rfl, (show (0 ≤ (0 : Int32).toInt ∧ (0 : Int32).toInt ≤ 99) ∧ ((z.1 13).toInt ≤ (z.1 13).toInt ∧ (z.1 13).toInt ≤ (z.1 13).toInt + 2) ∧ ((z.1 14).toInt = -1 ∨ (z.1 14) = z.1 14) ∧ ((z.1 14).toInt = -1 → (z.1 14).toInt = -1 ∧ (z.1 13).toInt < (z.1 13).toInt ∧ (z.1 13).toInt ≤ (z.2.2.1 2 (z.1 12).toNatClampNeg).toInt ∧ lo.toInt ≤ (0 : Int32).toInt ∧ (0 : Int32).toInt ≤ hi.toInt) ∧ ((z.1 14).toInt = -1 → (z.1 13).toInt = (z.1 13).toInt + nC (bRf (z.2.2.1 2) (z.2.2.1 3) (z.1 12).toNatClampNeg) (z.1 13).toInt ∧ (0 : Int32).toInt = nV (bRf (z.2.2.1 2) (z.2.2.1 3) (z.1 12).toNatClampNeg) (z.1 13).toInt ∧ ((¬ nC (bRf (z.2.2.1 2) (z.2.2.1 3) (z.1 12).toNatClampNeg) (z.1 13).toInt = 0 ∧ lo.toInt ≤ nV (bRf (z.2.2.1 2) (z.2.2.1 3) (z.1 12).toNatClampNeg) (z.1 13).toInt ∧ nV (bRf (z.2.2.1 2) (z.2.2.1 3) (z.1 12).toNatClampNeg) (z.1 13).toInt ≤ hi.toInt) ∧ (z.1 14).toInt = -1 ∨ ¬ (¬ nC (bRf (z.2.2.1 2) (z.2.2.1 3) (z.1 12).toNatClampNeg) (z.1 13).toInt = 0 ∧ lo.toInt ≤ nV (bRf (z.2.2.1 2) (z.2.2.1 3) (z.1 12).toNatClampNeg) (z.1 13).toInt ∧ nV (bRf (z.2.2.1 2) (z.2.2.1 3) (z.1 12).toNatClampNeg) (z.1 13).toInt ≤ hi.toInt) ∧ (z.1 14).toInt = (z.1 13).toInt)) from ⟨by omega, by omega, by first | (left; omega) | (right; rfl), fun q9 => by omega, fun q9 => by have qn := nC_0 (show ¬ (48 ≤ bRf (z.2.2.1 2) (z.2.2.1 3) (z.1 12).toNatClampNeg (z.1 13).toInt ∧ bRf (z.2.2.1 2) (z.2.2.1 3) (z.1 12).toNatClampNeg (z.1 13).toInt ≤ 57) by omega); omega⟩), ⟨by rw [ht]; exact hP, hDa _⟩⟩, hS.F ht⟩) hS.2.2 dX7_number_105
          · skip
            have hc_44 := zb_eq rfl (show ((-1) : Int32).toInt = (-1) by decide) c_44
            refine lv_aload_n hx hb dX7_number_80 rfl (lv_at hl 2 rfl) ?_
            refine va_get (D := (dC, dI)) (ci := 7) (v := .int (z.1 13)) (C := RX7) (T := TX7) (N := 42) hx hb htb inw7 hown hK.1 hP 0 rfl rfl 13 (by decide) (htb _ wmt3_180) (fun _ h9 => h9) rfl dX7_number_81 ?_
            refine z_top (v2 := .int x_1) (congrArg Value.int ex_1.symm) ?_
            refine lv_iload_n hx hb dX7_number_84 rfl (lv_at hl 1 rfl) ?_
            refine lv_icmp_eq (tgt := 98) hx hb dX7_number_85 (by decide) (fun c_45 => ?_) (fun c_45 => ?_)
            · skip
              have hc_45 := zb_eq rfl rfl c_45
              refine lv_aload_n hx hb dX7_number_98 rfl (lv_at hl 2 rfl) ?_
              refine lv_iload_n hx hb dX7_number_99 rfl (lv_at hl 1 rfl) ?_
              refine va_put (D := (dC, dI)) (ci := 7) (v := .int x_1) (ty := .int) (C := RX7) (T := TX7) (N := 42) hx hb htb inw7 tyX7 tyX7_ok nmX7 hown hK.1 hP (hDa _) hS 0 rfl rfl 14 (by decide) (htb _ wmt3_181) (fun _ h9 => h9) rfl (by decide +kernel) rfl rfl (Nat.le_of_ble_eq_true rfl) dX7_number_100 (fun H locs hP _ hS => ?_)
              have hP : va_P (dC, dI) vwCl (zM k q (sI z 14 x_1)) H := hP
              refine lv_iload hx hb dX7_number_103 (lv_at hl 0 rfl) ?_
              exact W.iret (v := 0) hx hb hr (fun t ht hW => ⟨⟨0, (z.1 13, x_1), rfl, (show (0 ≤ (0 : Int32).toInt ∧ (0 : Int32).toInt ≤ 99) ∧ ((z.1 13).toInt ≤ (z.1 13).toInt ∧ (z.1 13).toInt ≤ (z.1 13).toInt + 2) ∧ ((z.1 14).toInt = -1 ∨ x_1 = z.1 14) ∧ (x_1.toInt = -1 → (z.1 14).toInt = -1 ∧ (z.1 13).toInt < (z.1 13).toInt ∧ (z.1 13).toInt ≤ (z.2.2.1 2 (z.1 12).toNatClampNeg).toInt ∧ lo.toInt ≤ (0 : Int32).toInt ∧ (0 : Int32).toInt ≤ hi.toInt) ∧ ((z.1 14).toInt = -1 → (z.1 13).toInt = (z.1 13).toInt + nC (bRf (z.2.2.1 2) (z.2.2.1 3) (z.1 12).toNatClampNeg) (z.1 13).toInt ∧ (0 : Int32).toInt = nV (bRf (z.2.2.1 2) (z.2.2.1 3) (z.1 12).toNatClampNeg) (z.1 13).toInt ∧ ((¬ nC (bRf (z.2.2.1 2) (z.2.2.1 3) (z.1 12).toNatClampNeg) (z.1 13).toInt = 0 ∧ lo.toInt ≤ nV (bRf (z.2.2.1 2) (z.2.2.1 3) (z.1 12).toNatClampNeg) (z.1 13).toInt ∧ nV (bRf (z.2.2.1 2) (z.2.2.1 3) (z.1 12).toNatClampNeg) (z.1 13).toInt ≤ hi.toInt) ∧ x_1.toInt = -1 ∨ ¬ (¬ nC (bRf (z.2.2.1 2) (z.2.2.1 3) (z.1 12).toNatClampNeg) (z.1 13).toInt = 0 ∧ lo.toInt ≤ nV (bRf (z.2.2.1 2) (z.2.2.1 3) (z.1 12).toNatClampNeg) (z.1 13).toInt ∧ nV (bRf (z.2.2.1 2) (z.2.2.1 3) (z.1 12).toNatClampNeg) (z.1 13).toInt ≤ hi.toInt) ∧ x_1.toInt = (z.1 13).toInt)) from ⟨by omega, by omega, by first | (left; omega) | (right; rfl), fun q9 => by omega, fun q9 => by have qn := nC_0 (show ¬ (48 ≤ bRf (z.2.2.1 2) (z.2.2.1 3) (z.1 12).toNatClampNeg (z.1 13).toInt ∧ bRf (z.2.2.1 2) (z.2.2.1 3) (z.1 12).toNatClampNeg (z.1 13).toInt ≤ 57) by omega); omega⟩), ⟨by rw [ht]; exact hP, hDa _⟩⟩, hS.F ht⟩) hS.2.2 dX7_number_105
            · skip
              have hc_45 := zb_ne rfl rfl c_45
              refine lv_iload hx hb dX7_number_88 (lv_at hl 0 rfl) ?_
              refine lv_iload_n hx hb dX7_number_90 rfl (lv_at hl 3 rfl) ?_
              refine lv_iload_n hx hb dX7_number_91 rfl (lv_at hl 4 rfl) ?_
              refine zc0_i (w := (zM k q z)) (va_runS (As := [.int 0, .int lo, .int hi]) (rest := []) ⟨hx, hb, hml, hown, htb⟩ (c_X7_in l dC dI k 0 lo hi _ ) (va_cwS 3 htb (gzS wmt4_62 wmt4_63 wmt1_8 wmt4_64) rfl rfl rfl (by decide +kernel) ⟨Nat.le_of_ble_eq_true rfl, Nat.le_of_ble_eq_true rfl⟩) (zp0_S hK) rfl rfl hl.1 rfl (lv_room (Nat.le_of_ble_eq_true rfl)) dX7_number_92 ⟨Nat.le_of_ble_eq_true rfl, Nat.le_of_ble_eq_true rfl⟩) hP hS hA (fun r_46 u_47 H locs w_48 hP hS => ?_)
              rcases w_48 with ⟨e_50, h_49⟩ | ⟨e_52, h_51⟩
              · skip
                replace e_50 : r_46 = 1 := e_50
                subst e_50
                replace h_49 : lo.toInt ≤ (0 : Int32).toInt ∧ (0 : Int32).toInt ≤ hi.toInt := h_49
                rw [show (0 : Int32).toInt = 0 by decide] at h_49
                refine lv_if_ne (tgt := 103) hx hb dX7_number_95 (by decide) (fun c_53 => ?_) (fun c_53 => ?_)
                · skip
                  refine lv_iload hx hb dX7_number_103 (lv_at hl 0 rfl) ?_
                  exact W.iret (v := 0) hx hb hr (fun t ht hW => ⟨⟨0, (z.1 13, z.1 14), rfl, (show (0 ≤ (0 : Int32).toInt ∧ (0 : Int32).toInt ≤ 99) ∧ ((z.1 13).toInt ≤ (z.1 13).toInt ∧ (z.1 13).toInt ≤ (z.1 13).toInt + 2) ∧ ((z.1 14).toInt = -1 ∨ (z.1 14) = z.1 14) ∧ ((z.1 14).toInt = -1 → (z.1 14).toInt = -1 ∧ (z.1 13).toInt < (z.1 13).toInt ∧ (z.1 13).toInt ≤ (z.2.2.1 2 (z.1 12).toNatClampNeg).toInt ∧ lo.toInt ≤ (0 : Int32).toInt ∧ (0 : Int32).toInt ≤ hi.toInt) ∧ ((z.1 14).toInt = -1 → (z.1 13).toInt = (z.1 13).toInt + nC (bRf (z.2.2.1 2) (z.2.2.1 3) (z.1 12).toNatClampNeg) (z.1 13).toInt ∧ (0 : Int32).toInt = nV (bRf (z.2.2.1 2) (z.2.2.1 3) (z.1 12).toNatClampNeg) (z.1 13).toInt ∧ ((¬ nC (bRf (z.2.2.1 2) (z.2.2.1 3) (z.1 12).toNatClampNeg) (z.1 13).toInt = 0 ∧ lo.toInt ≤ nV (bRf (z.2.2.1 2) (z.2.2.1 3) (z.1 12).toNatClampNeg) (z.1 13).toInt ∧ nV (bRf (z.2.2.1 2) (z.2.2.1 3) (z.1 12).toNatClampNeg) (z.1 13).toInt ≤ hi.toInt) ∧ (z.1 14).toInt = -1 ∨ ¬ (¬ nC (bRf (z.2.2.1 2) (z.2.2.1 3) (z.1 12).toNatClampNeg) (z.1 13).toInt = 0 ∧ lo.toInt ≤ nV (bRf (z.2.2.1 2) (z.2.2.1 3) (z.1 12).toNatClampNeg) (z.1 13).toInt ∧ nV (bRf (z.2.2.1 2) (z.2.2.1 3) (z.1 12).toNatClampNeg) (z.1 13).toInt ≤ hi.toInt) ∧ (z.1 14).toInt = (z.1 13).toInt)) from ⟨by omega, by omega, by first | (left; omega) | (right; rfl), fun q9 => by omega, fun q9 => by have qn := nC_0 (show ¬ (48 ≤ bRf (z.2.2.1 2) (z.2.2.1 3) (z.1 12).toNatClampNeg (z.1 13).toInt ∧ bRf (z.2.2.1 2) (z.2.2.1 3) (z.1 12).toNatClampNeg (z.1 13).toInt ≤ 57) by omega); omega⟩), ⟨by rw [ht]; exact hP, hDa _⟩⟩, hS.F ht⟩) hS.2.2 dX7_number_105
                · skip
                  exact absurd c_53 (by decide)
              · skip
                replace e_52 : r_46 = 0 := e_52
                subst e_52
                replace h_51 : ¬ (lo.toInt ≤ (0 : Int32).toInt ∧ (0 : Int32).toInt ≤ hi.toInt) := h_51
                rw [show (0 : Int32).toInt = 0 by decide] at h_51
                refine lv_if_ne (tgt := 103) hx hb dX7_number_95 (by decide) (fun c_54 => ?_) (fun c_54 => ?_)
                · skip
                  exact absurd c_54 (by decide)
                · skip
                  refine lv_aload_n hx hb dX7_number_98 rfl (lv_at hl 2 rfl) ?_
                  refine lv_iload_n hx hb dX7_number_99 rfl (lv_at hl 1 rfl) ?_
                  refine va_put (D := (dC, dI)) (ci := 7) (v := .int x_1) (ty := .int) (C := RX7) (T := TX7) (N := 42) hx hb htb inw7 tyX7 tyX7_ok nmX7 hown hK.1 hP (hDa _) hS 0 rfl rfl 14 (by decide) (htb _ wmt3_181) (fun _ h9 => h9) rfl (by decide +kernel) rfl rfl (Nat.le_of_ble_eq_true rfl) dX7_number_100 (fun H locs hP _ hS => ?_)
                  have hP : va_P (dC, dI) vwCl (zM k q (sI z 14 x_1)) H := hP
                  refine lv_iload hx hb dX7_number_103 (lv_at hl 0 rfl) ?_
                  exact W.iret (v := 0) hx hb hr (fun t ht hW => ⟨⟨0, (z.1 13, x_1), rfl, (show (0 ≤ (0 : Int32).toInt ∧ (0 : Int32).toInt ≤ 99) ∧ ((z.1 13).toInt ≤ (z.1 13).toInt ∧ (z.1 13).toInt ≤ (z.1 13).toInt + 2) ∧ ((z.1 14).toInt = -1 ∨ x_1 = z.1 14) ∧ (x_1.toInt = -1 → (z.1 14).toInt = -1 ∧ (z.1 13).toInt < (z.1 13).toInt ∧ (z.1 13).toInt ≤ (z.2.2.1 2 (z.1 12).toNatClampNeg).toInt ∧ lo.toInt ≤ (0 : Int32).toInt ∧ (0 : Int32).toInt ≤ hi.toInt) ∧ ((z.1 14).toInt = -1 → (z.1 13).toInt = (z.1 13).toInt + nC (bRf (z.2.2.1 2) (z.2.2.1 3) (z.1 12).toNatClampNeg) (z.1 13).toInt ∧ (0 : Int32).toInt = nV (bRf (z.2.2.1 2) (z.2.2.1 3) (z.1 12).toNatClampNeg) (z.1 13).toInt ∧ ((¬ nC (bRf (z.2.2.1 2) (z.2.2.1 3) (z.1 12).toNatClampNeg) (z.1 13).toInt = 0 ∧ lo.toInt ≤ nV (bRf (z.2.2.1 2) (z.2.2.1 3) (z.1 12).toNatClampNeg) (z.1 13).toInt ∧ nV (bRf (z.2.2.1 2) (z.2.2.1 3) (z.1 12).toNatClampNeg) (z.1 13).toInt ≤ hi.toInt) ∧ x_1.toInt = -1 ∨ ¬ (¬ nC (bRf (z.2.2.1 2) (z.2.2.1 3) (z.1 12).toNatClampNeg) (z.1 13).toInt = 0 ∧ lo.toInt ≤ nV (bRf (z.2.2.1 2) (z.2.2.1 3) (z.1 12).toNatClampNeg) (z.1 13).toInt ∧ nV (bRf (z.2.2.1 2) (z.2.2.1 3) (z.1 12).toNatClampNeg) (z.1 13).toInt ≤ hi.toInt) ∧ x_1.toInt = (z.1 13).toInt)) from ⟨by omega, by omega, by first | (left; omega) | (right; rfl), fun q9 => by omega, fun q9 => by have qn := nC_0 (show ¬ (48 ≤ bRf (z.2.2.1 2) (z.2.2.1 3) (z.1 12).toNatClampNeg (z.1 13).toInt ∧ bRf (z.2.2.1 2) (z.2.2.1 3) (z.1 12).toNatClampNeg (z.1 13).toInt ≤ 57) by omega); omega⟩), ⟨by rw [ht]; exact hP, hDa _⟩⟩, hS.F ht⟩) hS.2.2 dX7_number_105
        · skip
          have hc_43 := zb_nlt (show (57 : Int32).toInt = 57 by decide) rfl c_43
          refine lv_bipush (v := 10) hx hb dX7_number_44 (by decide) ?_
          refine lv_iload hx hb dX7_number_46 (lv_at hl 0 rfl) ?_
          refine lv_imul hx hb dX7_number_48 ?_
          refine z_top (v2 := .int 0) (congrArg Value.int (by decide)) ?_
          refine lv_aload_n hx hb dX7_number_49 rfl (lv_at hl 2 rfl) ?_
          refine zcA_i (w := (zM k q z)) (va_runV (As := []) (rest := [.int 0]) ⟨hx, hb, hml, hown, htb⟩ (c_X7_byteNow l dC dI k q z _ (show 0 ≤ (z.1 12).toInt ∧ (z.1 12).toInt < 4 by omega) hm4 (show 0 ≤ (z.1 13).toInt ∧ (z.1 13).toInt ≤ 1000 by omega)) (cwV 0 htb (gzV wmt4_85 wmt4_87 wmp2_9 wmt1_8 wmt4_88) rfl rfl rfl (by decide +kernel) ⟨Nat.le_of_ble_eq_true rfl, Nat.le_of_ble_eq_true rfl⟩) (zpA_V (ci := 7) (q0 := 0) hK hP (hDa _) rfl rfl) rfl rfl hl.1 rfl (lv_room (Nat.le_of_ble_eq_true rfl)) dX7_number_50 ⟨Nat.le_of_ble_eq_true rfl, Nat.le_of_ble_eq_true rfl⟩) (hDa _) hS hA (fun r_55 u_56 H locs w_57 hP _ hS => ?_)
          obtain ⟨h_58, h_59⟩ := w_57
          replace h_58 : ((z.1 13)).toInt < ((z.2.2.1 2) ((z.1 12)).toNatClampNeg).toInt ∨ r_55.toInt = -1 := h_58
          replace h_59 : r_55.toInt = bRf ((z.2.2.1 2)) ((z.2.2.1 3)) ((z.1 12)).toNatClampNeg ((z.1 13)).toInt := h_59
          have hB_61 : r_55.toInt = bRf (z.2.2.1 2) (z.2.2.1 3) (z.1 12).toNatClampNeg ((z.1 13).toInt) := by have q := h_59; rw [show (z.1 13).toInt = (z.1 13).toInt by omega] at q; exact q
          refine lv_iadd hx hb dX7_number_53 ?_
          refine lv_topi (fun x_62 ex_62 => ?_)
          have hx_62 := z_add ex_62 (show (0 : Int32).toInt = 0 by decide) rfl (by omega)
          refine lv_bipush (v := 48) hx hb dX7_number_54 (by decide) ?_
          refine lv_isub hx hb dX7_number_56 ?_
          refine lv_topi (fun x_63 ex_63 => ?_)
          have hx_63 := z_sub ex_63 rfl (show (48 : Int32).toInt = 48 by decide) (by omega)
          refine lv_istore (lv' := [(4, .int x_63), (3, .int x_1), (0, .ref (q 0)), (1, .int lo), (2, .int hi)]) hx hb dX7_number_57 hl (by decide) rfl (fun ls hl => ?_)
          refine lv_aload_n hx hb dX7_number_59 rfl (lv_at hl 2 rfl) ?_
          refine lv_dup hx hb dX7_number_60 rfl ?_
          refine va_get (D := (dC, dI)) (ci := 7) (v := .int (z.1 13)) (C := RX7) (T := TX7) (N := 42) hx hb htb inw7 hown hK.1 hP 0 rfl rfl 13 (by decide) (htb _ wmt3_180) (fun _ h9 => h9) rfl dX7_number_61 ?_
          refine z_top (v2 := .int x_1) (congrArg Value.int ex_1.symm) ?_
          refine lv_iconst (v := 1) hx hb dX7_number_64 (by decide) ?_
          refine lv_iadd hx hb dX7_number_65 ?_
          refine lv_topi (fun x_64 ex_64 => ?_)
          have hx_64 := z_add ex_64 rfl (show (1 : Int32).toInt = 1 by decide) (by omega)
          refine va_put (D := (dC, dI)) (ci := 7) (v := .int x_64) (ty := .int) (C := RX7) (T := TX7) (N := 42) hx hb htb inw7 tyX7 tyX7_ok nmX7 hown hK.1 hP (hDa _) hS 0 rfl rfl 13 (by decide) (htb _ wmt3_180) (fun _ h9 => h9) rfl (by decide +kernel) rfl rfl (Nat.le_of_ble_eq_true rfl) dX7_number_66 (fun H locs hP _ hS => ?_)
          have hP : va_P (dC, dI) vwCl (zM k q (sI z 13 x_64)) H := hP
          refine lv_goto (tgt := 8) hx hb dX7_number_69 (by decide) ?_
          refine lv_aload_n hx hb dX7_number_8 rfl (lv_at hl 2 rfl) ?_
          refine va_get (D := (dC, dI)) (ci := 7) (v := .int (z.1 14)) (C := RX7) (T := TX7) (N := 42) hx hb htb inw7 hown hK.1 hP 0 rfl rfl 14 (by decide) (htb _ wmt3_181) (fun _ h9 => h9) rfl dX7_number_9 ?_
          refine z_top (v2 := .int x_2) (congrArg Value.int ex_2.symm) ?_
          refine lv_iconst (v := (-1)) hx hb dX7_number_12 (by decide) ?_
          refine lv_icmp_ne (tgt := 72) hx hb dX7_number_13 (by decide) (fun c_65 => ?_) (fun c_65 => ?_)
          · skip
            have hc_65 := zb_ne rfl (show ((-1) : Int32).toInt = (-1) by decide) c_65
            exfalso; omega
          · skip
            have hc_65 := zb_eq rfl (show ((-1) : Int32).toInt = (-1) by decide) c_65
            refine lv_aload_n hx hb dX7_number_16 rfl (lv_at hl 2 rfl) ?_
            refine va_get (D := (dC, dI)) (ci := 7) (v := .int x_64) (C := RX7) (T := TX7) (N := 42) hx hb htb inw7 hown hK.1 hP 0 rfl rfl 13 (by decide) (htb _ wmt3_180) (fun _ h9 => h9) rfl dX7_number_17 ?_
            refine lv_iload_n hx hb dX7_number_20 rfl (lv_at hl 1 rfl) ?_
            refine lv_iconst (v := 2) hx hb dX7_number_21 (by decide) ?_
            refine lv_iadd hx hb dX7_number_22 ?_
            refine lv_topi (fun x_66 ex_66 => ?_)
            have hx_66 := z_add ex_66 rfl (show (2 : Int32).toInt = 2 by decide) (by omega)
            refine lv_icmp_ge (tgt := 72) hx hb dX7_number_23 (by decide) (fun c_67 => ?_) (fun c_67 => ?_)
            · skip
              have hc_67 := zb_le rfl rfl c_67
              exfalso; omega
            · skip
              have hc_67 := zb_nle rfl rfl c_67
              refine lv_aload_n hx hb dX7_number_26 rfl (lv_at hl 2 rfl) ?_
              refine zcA_i (w := (zM k q (sI z 13 x_64))) (va_runV (As := []) (rest := []) ⟨hx, hb, hml, hown, htb⟩ (c_X7_byteNow l dC dI k q (sI z 13 x_64) _ (show 0 ≤ (z.1 12).toInt ∧ (z.1 12).toInt < 4 by omega) hm4 (show 0 ≤ x_64.toInt ∧ x_64.toInt ≤ 1000 by omega)) (cwV 0 htb (gzV wmt4_85 wmt4_87 wmp2_9 wmt1_8 wmt4_88) rfl rfl rfl (by decide +kernel) ⟨Nat.le_of_ble_eq_true rfl, Nat.le_of_ble_eq_true rfl⟩) (zpA_V (ci := 7) (q0 := 0) hK hP (hDa _) rfl rfl) rfl rfl hl.1 rfl (lv_room (Nat.le_of_ble_eq_true rfl)) dX7_number_27 ⟨Nat.le_of_ble_eq_true rfl, Nat.le_of_ble_eq_true rfl⟩) (hDa _) hS hA (fun r_68 u_69 H locs w_70 hP _ hS => ?_)
              obtain ⟨h_71, h_72⟩ := w_70
              replace h_71 : (x_64).toInt < ((z.2.2.1 2) ((z.1 12)).toNatClampNeg).toInt ∨ r_68.toInt = -1 := h_71
              replace h_72 : r_68.toInt = bRf ((z.2.2.1 2)) ((z.2.2.1 3)) ((z.1 12)).toNatClampNeg (x_64).toInt := h_72
              have hB_74 : r_68.toInt = bRf (z.2.2.1 2) (z.2.2.1 3) (z.1 12).toNatClampNeg ((z.1 13).toInt + 1) := by have q := h_72; rw [show x_64.toInt = ((z.1 13).toInt + 1) by omega] at q; exact q
              refine lv_bipush (v := 48) hx hb dX7_number_30 (by decide) ?_
              refine lv_icmp_lt (tgt := 72) hx hb dX7_number_32 (by decide) (fun c_75 => ?_) (fun c_75 => ?_)
              · skip
                have hc_75 := zb_lt rfl (show (48 : Int32).toInt = 48 by decide) c_75
                refine lv_aload_n hx hb dX7_number_72 rfl (lv_at hl 2 rfl) ?_
                refine va_get (D := (dC, dI)) (ci := 7) (v := .int (z.1 14)) (C := RX7) (T := TX7) (N := 42) hx hb htb inw7 hown hK.1 hP 0 rfl rfl 14 (by decide) (htb _ wmt3_181) (fun _ h9 => h9) rfl dX7_number_73 ?_
                refine z_top (v2 := .int x_2) (congrArg Value.int ex_2.symm) ?_
                refine lv_iconst (v := (-1)) hx hb dX7_number_76 (by decide) ?_
                refine lv_icmp_ne (tgt := 103) hx hb dX7_number_77 (by decide) (fun c_76 => ?_) (fun c_76 => ?_)
                · skip
                  have hc_76 := zb_ne rfl (show ((-1) : Int32).toInt = (-1) by decide) c_76
                  refine lv_iload hx hb dX7_number_103 (lv_at hl 0 rfl) ?_
                  exact W.iret (v := x_63) hx hb hr (fun t ht hW => ⟨⟨x_63, (x_64, z.1 14), rfl, (show (0 ≤ x_63.toInt ∧ x_63.toInt ≤ 99) ∧ ((z.1 13).toInt ≤ x_64.toInt ∧ x_64.toInt ≤ (z.1 13).toInt + 2) ∧ ((z.1 14).toInt = -1 ∨ (z.1 14) = z.1 14) ∧ ((z.1 14).toInt = -1 → (z.1 14).toInt = -1 ∧ (z.1 13).toInt < x_64.toInt ∧ x_64.toInt ≤ (z.2.2.1 2 (z.1 12).toNatClampNeg).toInt ∧ lo.toInt ≤ x_63.toInt ∧ x_63.toInt ≤ hi.toInt) ∧ ((z.1 14).toInt = -1 → x_64.toInt = (z.1 13).toInt + nC (bRf (z.2.2.1 2) (z.2.2.1 3) (z.1 12).toNatClampNeg) (z.1 13).toInt ∧ x_63.toInt = nV (bRf (z.2.2.1 2) (z.2.2.1 3) (z.1 12).toNatClampNeg) (z.1 13).toInt ∧ ((¬ nC (bRf (z.2.2.1 2) (z.2.2.1 3) (z.1 12).toNatClampNeg) (z.1 13).toInt = 0 ∧ lo.toInt ≤ nV (bRf (z.2.2.1 2) (z.2.2.1 3) (z.1 12).toNatClampNeg) (z.1 13).toInt ∧ nV (bRf (z.2.2.1 2) (z.2.2.1 3) (z.1 12).toNatClampNeg) (z.1 13).toInt ≤ hi.toInt) ∧ (z.1 14).toInt = -1 ∨ ¬ (¬ nC (bRf (z.2.2.1 2) (z.2.2.1 3) (z.1 12).toNatClampNeg) (z.1 13).toInt = 0 ∧ lo.toInt ≤ nV (bRf (z.2.2.1 2) (z.2.2.1 3) (z.1 12).toNatClampNeg) (z.1 13).toInt ∧ nV (bRf (z.2.2.1 2) (z.2.2.1 3) (z.1 12).toNatClampNeg) (z.1 13).toInt ≤ hi.toInt) ∧ (z.1 14).toInt = (z.1 13).toInt)) from ⟨by omega, by omega, by first | (left; omega) | (right; rfl), fun q9 => by omega, fun q9 => by have qn := nC_1 (show 48 ≤ bRf (z.2.2.1 2) (z.2.2.1 3) (z.1 12).toNatClampNeg (z.1 13).toInt ∧ bRf (z.2.2.1 2) (z.2.2.1 3) (z.1 12).toNatClampNeg (z.1 13).toInt ≤ 57 by omega) (show ¬ (48 ≤ bRf (z.2.2.1 2) (z.2.2.1 3) (z.1 12).toNatClampNeg ((z.1 13).toInt + 1) ∧ bRf (z.2.2.1 2) (z.2.2.1 3) (z.1 12).toNatClampNeg ((z.1 13).toInt + 1) ≤ 57) by omega); omega⟩), ⟨by rw [ht]; exact hP, hDa _⟩⟩, hS.F ht⟩) hS.2.2 dX7_number_105
                · skip
                  have hc_76 := zb_eq rfl (show ((-1) : Int32).toInt = (-1) by decide) c_76
                  refine lv_aload_n hx hb dX7_number_80 rfl (lv_at hl 2 rfl) ?_
                  refine va_get (D := (dC, dI)) (ci := 7) (v := .int x_64) (C := RX7) (T := TX7) (N := 42) hx hb htb inw7 hown hK.1 hP 0 rfl rfl 13 (by decide) (htb _ wmt3_180) (fun _ h9 => h9) rfl dX7_number_81 ?_
                  refine lv_iload_n hx hb dX7_number_84 rfl (lv_at hl 1 rfl) ?_
                  refine lv_icmp_eq (tgt := 98) hx hb dX7_number_85 (by decide) (fun c_77 => ?_) (fun c_77 => ?_)
                  · skip
                    have hc_77 := zb_eq rfl rfl c_77
                    refine lv_aload_n hx hb dX7_number_98 rfl (lv_at hl 2 rfl) ?_
                    refine lv_iload_n hx hb dX7_number_99 rfl (lv_at hl 1 rfl) ?_
                    refine va_put (D := (dC, dI)) (ci := 7) (v := .int x_1) (ty := .int) (C := RX7) (T := TX7) (N := 42) hx hb htb inw7 tyX7 tyX7_ok nmX7 hown hK.1 hP (hDa _) hS 0 rfl rfl 14 (by decide) (htb _ wmt3_181) (fun _ h9 => h9) rfl (by decide +kernel) rfl rfl (Nat.le_of_ble_eq_true rfl) dX7_number_100 (fun H locs hP _ hS => ?_)
                    have hP : va_P (dC, dI) vwCl (zM k q (sI (sI z 13 x_64) 14 x_1)) H := hP
                    refine lv_iload hx hb dX7_number_103 (lv_at hl 0 rfl) ?_
                    exact W.iret (v := x_63) hx hb hr (fun t ht hW => ⟨⟨x_63, (x_64, x_1), rfl, (show (0 ≤ x_63.toInt ∧ x_63.toInt ≤ 99) ∧ ((z.1 13).toInt ≤ x_64.toInt ∧ x_64.toInt ≤ (z.1 13).toInt + 2) ∧ ((z.1 14).toInt = -1 ∨ x_1 = z.1 14) ∧ (x_1.toInt = -1 → (z.1 14).toInt = -1 ∧ (z.1 13).toInt < x_64.toInt ∧ x_64.toInt ≤ (z.2.2.1 2 (z.1 12).toNatClampNeg).toInt ∧ lo.toInt ≤ x_63.toInt ∧ x_63.toInt ≤ hi.toInt) ∧ ((z.1 14).toInt = -1 → x_64.toInt = (z.1 13).toInt + nC (bRf (z.2.2.1 2) (z.2.2.1 3) (z.1 12).toNatClampNeg) (z.1 13).toInt ∧ x_63.toInt = nV (bRf (z.2.2.1 2) (z.2.2.1 3) (z.1 12).toNatClampNeg) (z.1 13).toInt ∧ ((¬ nC (bRf (z.2.2.1 2) (z.2.2.1 3) (z.1 12).toNatClampNeg) (z.1 13).toInt = 0 ∧ lo.toInt ≤ nV (bRf (z.2.2.1 2) (z.2.2.1 3) (z.1 12).toNatClampNeg) (z.1 13).toInt ∧ nV (bRf (z.2.2.1 2) (z.2.2.1 3) (z.1 12).toNatClampNeg) (z.1 13).toInt ≤ hi.toInt) ∧ x_1.toInt = -1 ∨ ¬ (¬ nC (bRf (z.2.2.1 2) (z.2.2.1 3) (z.1 12).toNatClampNeg) (z.1 13).toInt = 0 ∧ lo.toInt ≤ nV (bRf (z.2.2.1 2) (z.2.2.1 3) (z.1 12).toNatClampNeg) (z.1 13).toInt ∧ nV (bRf (z.2.2.1 2) (z.2.2.1 3) (z.1 12).toNatClampNeg) (z.1 13).toInt ≤ hi.toInt) ∧ x_1.toInt = (z.1 13).toInt)) from ⟨by omega, by omega, by first | (left; omega) | (right; rfl), fun q9 => by omega, fun q9 => by have qn := nC_1 (show 48 ≤ bRf (z.2.2.1 2) (z.2.2.1 3) (z.1 12).toNatClampNeg (z.1 13).toInt ∧ bRf (z.2.2.1 2) (z.2.2.1 3) (z.1 12).toNatClampNeg (z.1 13).toInt ≤ 57 by omega) (show ¬ (48 ≤ bRf (z.2.2.1 2) (z.2.2.1 3) (z.1 12).toNatClampNeg ((z.1 13).toInt + 1) ∧ bRf (z.2.2.1 2) (z.2.2.1 3) (z.1 12).toNatClampNeg ((z.1 13).toInt + 1) ≤ 57) by omega); omega⟩), ⟨by rw [ht]; exact hP, hDa _⟩⟩, hS.F ht⟩) hS.2.2 dX7_number_105
                  · skip
                    have hc_77 := zb_ne rfl rfl c_77
                    refine lv_iload hx hb dX7_number_88 (lv_at hl 0 rfl) ?_
                    refine lv_iload_n hx hb dX7_number_90 rfl (lv_at hl 3 rfl) ?_
                    refine lv_iload_n hx hb dX7_number_91 rfl (lv_at hl 4 rfl) ?_
                    refine zc0_i (w := (zM k q (sI z 13 x_64))) (va_runS (As := [.int x_63, .int lo, .int hi]) (rest := []) ⟨hx, hb, hml, hown, htb⟩ (c_X7_in l dC dI k x_63 lo hi _ ) (va_cwS 3 htb (gzS wmt4_62 wmt4_63 wmt1_8 wmt4_64) rfl rfl rfl (by decide +kernel) ⟨Nat.le_of_ble_eq_true rfl, Nat.le_of_ble_eq_true rfl⟩) (zp0_S hK) rfl rfl hl.1 rfl (lv_room (Nat.le_of_ble_eq_true rfl)) dX7_number_92 ⟨Nat.le_of_ble_eq_true rfl, Nat.le_of_ble_eq_true rfl⟩) hP hS hA (fun r_78 u_79 H locs w_80 hP hS => ?_)
                    rcases w_80 with ⟨e_82, h_81⟩ | ⟨e_84, h_83⟩
                    · skip
                      replace e_82 : r_78 = 1 := e_82
                      subst e_82
                      replace h_81 : lo.toInt ≤ x_63.toInt ∧ x_63.toInt ≤ hi.toInt := h_81
                      refine lv_if_ne (tgt := 103) hx hb dX7_number_95 (by decide) (fun c_85 => ?_) (fun c_85 => ?_)
                      · skip
                        refine lv_iload hx hb dX7_number_103 (lv_at hl 0 rfl) ?_
                        exact W.iret (v := x_63) hx hb hr (fun t ht hW => ⟨⟨x_63, (x_64, z.1 14), rfl, (show (0 ≤ x_63.toInt ∧ x_63.toInt ≤ 99) ∧ ((z.1 13).toInt ≤ x_64.toInt ∧ x_64.toInt ≤ (z.1 13).toInt + 2) ∧ ((z.1 14).toInt = -1 ∨ (z.1 14) = z.1 14) ∧ ((z.1 14).toInt = -1 → (z.1 14).toInt = -1 ∧ (z.1 13).toInt < x_64.toInt ∧ x_64.toInt ≤ (z.2.2.1 2 (z.1 12).toNatClampNeg).toInt ∧ lo.toInt ≤ x_63.toInt ∧ x_63.toInt ≤ hi.toInt) ∧ ((z.1 14).toInt = -1 → x_64.toInt = (z.1 13).toInt + nC (bRf (z.2.2.1 2) (z.2.2.1 3) (z.1 12).toNatClampNeg) (z.1 13).toInt ∧ x_63.toInt = nV (bRf (z.2.2.1 2) (z.2.2.1 3) (z.1 12).toNatClampNeg) (z.1 13).toInt ∧ ((¬ nC (bRf (z.2.2.1 2) (z.2.2.1 3) (z.1 12).toNatClampNeg) (z.1 13).toInt = 0 ∧ lo.toInt ≤ nV (bRf (z.2.2.1 2) (z.2.2.1 3) (z.1 12).toNatClampNeg) (z.1 13).toInt ∧ nV (bRf (z.2.2.1 2) (z.2.2.1 3) (z.1 12).toNatClampNeg) (z.1 13).toInt ≤ hi.toInt) ∧ (z.1 14).toInt = -1 ∨ ¬ (¬ nC (bRf (z.2.2.1 2) (z.2.2.1 3) (z.1 12).toNatClampNeg) (z.1 13).toInt = 0 ∧ lo.toInt ≤ nV (bRf (z.2.2.1 2) (z.2.2.1 3) (z.1 12).toNatClampNeg) (z.1 13).toInt ∧ nV (bRf (z.2.2.1 2) (z.2.2.1 3) (z.1 12).toNatClampNeg) (z.1 13).toInt ≤ hi.toInt) ∧ (z.1 14).toInt = (z.1 13).toInt)) from ⟨by omega, by omega, by first | (left; omega) | (right; rfl), fun q9 => by omega, fun q9 => by have qn := nC_1 (show 48 ≤ bRf (z.2.2.1 2) (z.2.2.1 3) (z.1 12).toNatClampNeg (z.1 13).toInt ∧ bRf (z.2.2.1 2) (z.2.2.1 3) (z.1 12).toNatClampNeg (z.1 13).toInt ≤ 57 by omega) (show ¬ (48 ≤ bRf (z.2.2.1 2) (z.2.2.1 3) (z.1 12).toNatClampNeg ((z.1 13).toInt + 1) ∧ bRf (z.2.2.1 2) (z.2.2.1 3) (z.1 12).toNatClampNeg ((z.1 13).toInt + 1) ≤ 57) by omega); omega⟩), ⟨by rw [ht]; exact hP, hDa _⟩⟩, hS.F ht⟩) hS.2.2 dX7_number_105
                      · skip
                        exact absurd c_85 (by decide)
                    · skip
                      replace e_84 : r_78 = 0 := e_84
                      subst e_84
                      replace h_83 : ¬ (lo.toInt ≤ x_63.toInt ∧ x_63.toInt ≤ hi.toInt) := h_83
                      refine lv_if_ne (tgt := 103) hx hb dX7_number_95 (by decide) (fun c_86 => ?_) (fun c_86 => ?_)
                      · skip
                        exact absurd c_86 (by decide)
                      · skip
                        refine lv_aload_n hx hb dX7_number_98 rfl (lv_at hl 2 rfl) ?_
                        refine lv_iload_n hx hb dX7_number_99 rfl (lv_at hl 1 rfl) ?_
                        refine va_put (D := (dC, dI)) (ci := 7) (v := .int x_1) (ty := .int) (C := RX7) (T := TX7) (N := 42) hx hb htb inw7 tyX7 tyX7_ok nmX7 hown hK.1 hP (hDa _) hS 0 rfl rfl 14 (by decide) (htb _ wmt3_181) (fun _ h9 => h9) rfl (by decide +kernel) rfl rfl (Nat.le_of_ble_eq_true rfl) dX7_number_100 (fun H locs hP _ hS => ?_)
                        have hP : va_P (dC, dI) vwCl (zM k q (sI (sI z 13 x_64) 14 x_1)) H := hP
                        refine lv_iload hx hb dX7_number_103 (lv_at hl 0 rfl) ?_
                        exact W.iret (v := x_63) hx hb hr (fun t ht hW => ⟨⟨x_63, (x_64, x_1), rfl, (show (0 ≤ x_63.toInt ∧ x_63.toInt ≤ 99) ∧ ((z.1 13).toInt ≤ x_64.toInt ∧ x_64.toInt ≤ (z.1 13).toInt + 2) ∧ ((z.1 14).toInt = -1 ∨ x_1 = z.1 14) ∧ (x_1.toInt = -1 → (z.1 14).toInt = -1 ∧ (z.1 13).toInt < x_64.toInt ∧ x_64.toInt ≤ (z.2.2.1 2 (z.1 12).toNatClampNeg).toInt ∧ lo.toInt ≤ x_63.toInt ∧ x_63.toInt ≤ hi.toInt) ∧ ((z.1 14).toInt = -1 → x_64.toInt = (z.1 13).toInt + nC (bRf (z.2.2.1 2) (z.2.2.1 3) (z.1 12).toNatClampNeg) (z.1 13).toInt ∧ x_63.toInt = nV (bRf (z.2.2.1 2) (z.2.2.1 3) (z.1 12).toNatClampNeg) (z.1 13).toInt ∧ ((¬ nC (bRf (z.2.2.1 2) (z.2.2.1 3) (z.1 12).toNatClampNeg) (z.1 13).toInt = 0 ∧ lo.toInt ≤ nV (bRf (z.2.2.1 2) (z.2.2.1 3) (z.1 12).toNatClampNeg) (z.1 13).toInt ∧ nV (bRf (z.2.2.1 2) (z.2.2.1 3) (z.1 12).toNatClampNeg) (z.1 13).toInt ≤ hi.toInt) ∧ x_1.toInt = -1 ∨ ¬ (¬ nC (bRf (z.2.2.1 2) (z.2.2.1 3) (z.1 12).toNatClampNeg) (z.1 13).toInt = 0 ∧ lo.toInt ≤ nV (bRf (z.2.2.1 2) (z.2.2.1 3) (z.1 12).toNatClampNeg) (z.1 13).toInt ∧ nV (bRf (z.2.2.1 2) (z.2.2.1 3) (z.1 12).toNatClampNeg) (z.1 13).toInt ≤ hi.toInt) ∧ x_1.toInt = (z.1 13).toInt)) from ⟨by omega, by omega, by first | (left; omega) | (right; rfl), fun q9 => by omega, fun q9 => by have qn := nC_1 (show 48 ≤ bRf (z.2.2.1 2) (z.2.2.1 3) (z.1 12).toNatClampNeg (z.1 13).toInt ∧ bRf (z.2.2.1 2) (z.2.2.1 3) (z.1 12).toNatClampNeg (z.1 13).toInt ≤ 57 by omega) (show ¬ (48 ≤ bRf (z.2.2.1 2) (z.2.2.1 3) (z.1 12).toNatClampNeg ((z.1 13).toInt + 1) ∧ bRf (z.2.2.1 2) (z.2.2.1 3) (z.1 12).toNatClampNeg ((z.1 13).toInt + 1) ≤ 57) by omega); omega⟩), ⟨by rw [ht]; exact hP, hDa _⟩⟩, hS.F ht⟩) hS.2.2 dX7_number_105
              · skip
                have hc_75 := zb_nlt rfl (show (48 : Int32).toInt = 48 by decide) c_75
                refine lv_aload_n hx hb dX7_number_35 rfl (lv_at hl 2 rfl) ?_
                refine zcA_i (w := (zM k q (sI z 13 x_64))) (va_runV (As := []) (rest := []) ⟨hx, hb, hml, hown, htb⟩ (c_X7_byteNow l dC dI k q (sI z 13 x_64) _ (show 0 ≤ (z.1 12).toInt ∧ (z.1 12).toInt < 4 by omega) hm4 (show 0 ≤ x_64.toInt ∧ x_64.toInt ≤ 1000 by omega)) (cwV 0 htb (gzV wmt4_85 wmt4_87 wmp2_9 wmt1_8 wmt4_88) rfl rfl rfl (by decide +kernel) ⟨Nat.le_of_ble_eq_true rfl, Nat.le_of_ble_eq_true rfl⟩) (zpA_V (ci := 7) (q0 := 0) hK hP (hDa _) rfl rfl) rfl rfl hl.1 rfl (lv_room (Nat.le_of_ble_eq_true rfl)) dX7_number_36 ⟨Nat.le_of_ble_eq_true rfl, Nat.le_of_ble_eq_true rfl⟩) (hDa _) hS hA (fun r_87 u_88 H locs w_89 hP _ hS => ?_)
                obtain ⟨h_90, h_91⟩ := w_89
                replace h_90 : (x_64).toInt < ((z.2.2.1 2) ((z.1 12)).toNatClampNeg).toInt ∨ r_87.toInt = -1 := h_90
                replace h_91 : r_87.toInt = bRf ((z.2.2.1 2)) ((z.2.2.1 3)) ((z.1 12)).toNatClampNeg (x_64).toInt := h_91
                have hB_93 : r_87.toInt = bRf (z.2.2.1 2) (z.2.2.1 3) (z.1 12).toNatClampNeg ((z.1 13).toInt + 1) := by have q := h_91; rw [show x_64.toInt = ((z.1 13).toInt + 1) by omega] at q; exact q
                refine lv_bipush (v := 57) hx hb dX7_number_39 (by decide) ?_
                refine lv_icmp_gt (tgt := 72) hx hb dX7_number_41 (by decide) (fun c_94 => ?_) (fun c_94 => ?_)
                · skip
                  have hc_94 := zb_lt (show (57 : Int32).toInt = 57 by decide) rfl c_94
                  refine lv_aload_n hx hb dX7_number_72 rfl (lv_at hl 2 rfl) ?_
                  refine va_get (D := (dC, dI)) (ci := 7) (v := .int (z.1 14)) (C := RX7) (T := TX7) (N := 42) hx hb htb inw7 hown hK.1 hP 0 rfl rfl 14 (by decide) (htb _ wmt3_181) (fun _ h9 => h9) rfl dX7_number_73 ?_
                  refine z_top (v2 := .int x_2) (congrArg Value.int ex_2.symm) ?_
                  refine lv_iconst (v := (-1)) hx hb dX7_number_76 (by decide) ?_
                  refine lv_icmp_ne (tgt := 103) hx hb dX7_number_77 (by decide) (fun c_95 => ?_) (fun c_95 => ?_)
                  · skip
                    have hc_95 := zb_ne rfl (show ((-1) : Int32).toInt = (-1) by decide) c_95
                    refine lv_iload hx hb dX7_number_103 (lv_at hl 0 rfl) ?_
                    exact W.iret (v := x_63) hx hb hr (fun t ht hW => ⟨⟨x_63, (x_64, z.1 14), rfl, (show (0 ≤ x_63.toInt ∧ x_63.toInt ≤ 99) ∧ ((z.1 13).toInt ≤ x_64.toInt ∧ x_64.toInt ≤ (z.1 13).toInt + 2) ∧ ((z.1 14).toInt = -1 ∨ (z.1 14) = z.1 14) ∧ ((z.1 14).toInt = -1 → (z.1 14).toInt = -1 ∧ (z.1 13).toInt < x_64.toInt ∧ x_64.toInt ≤ (z.2.2.1 2 (z.1 12).toNatClampNeg).toInt ∧ lo.toInt ≤ x_63.toInt ∧ x_63.toInt ≤ hi.toInt) ∧ ((z.1 14).toInt = -1 → x_64.toInt = (z.1 13).toInt + nC (bRf (z.2.2.1 2) (z.2.2.1 3) (z.1 12).toNatClampNeg) (z.1 13).toInt ∧ x_63.toInt = nV (bRf (z.2.2.1 2) (z.2.2.1 3) (z.1 12).toNatClampNeg) (z.1 13).toInt ∧ ((¬ nC (bRf (z.2.2.1 2) (z.2.2.1 3) (z.1 12).toNatClampNeg) (z.1 13).toInt = 0 ∧ lo.toInt ≤ nV (bRf (z.2.2.1 2) (z.2.2.1 3) (z.1 12).toNatClampNeg) (z.1 13).toInt ∧ nV (bRf (z.2.2.1 2) (z.2.2.1 3) (z.1 12).toNatClampNeg) (z.1 13).toInt ≤ hi.toInt) ∧ (z.1 14).toInt = -1 ∨ ¬ (¬ nC (bRf (z.2.2.1 2) (z.2.2.1 3) (z.1 12).toNatClampNeg) (z.1 13).toInt = 0 ∧ lo.toInt ≤ nV (bRf (z.2.2.1 2) (z.2.2.1 3) (z.1 12).toNatClampNeg) (z.1 13).toInt ∧ nV (bRf (z.2.2.1 2) (z.2.2.1 3) (z.1 12).toNatClampNeg) (z.1 13).toInt ≤ hi.toInt) ∧ (z.1 14).toInt = (z.1 13).toInt)) from ⟨by omega, by omega, by first | (left; omega) | (right; rfl), fun q9 => by omega, fun q9 => by have qn := nC_1 (show 48 ≤ bRf (z.2.2.1 2) (z.2.2.1 3) (z.1 12).toNatClampNeg (z.1 13).toInt ∧ bRf (z.2.2.1 2) (z.2.2.1 3) (z.1 12).toNatClampNeg (z.1 13).toInt ≤ 57 by omega) (show ¬ (48 ≤ bRf (z.2.2.1 2) (z.2.2.1 3) (z.1 12).toNatClampNeg ((z.1 13).toInt + 1) ∧ bRf (z.2.2.1 2) (z.2.2.1 3) (z.1 12).toNatClampNeg ((z.1 13).toInt + 1) ≤ 57) by omega); omega⟩), ⟨by rw [ht]; exact hP, hDa _⟩⟩, hS.F ht⟩) hS.2.2 dX7_number_105
                  · skip
                    have hc_95 := zb_eq rfl (show ((-1) : Int32).toInt = (-1) by decide) c_95
                    refine lv_aload_n hx hb dX7_number_80 rfl (lv_at hl 2 rfl) ?_
                    refine va_get (D := (dC, dI)) (ci := 7) (v := .int x_64) (C := RX7) (T := TX7) (N := 42) hx hb htb inw7 hown hK.1 hP 0 rfl rfl 13 (by decide) (htb _ wmt3_180) (fun _ h9 => h9) rfl dX7_number_81 ?_
                    refine lv_iload_n hx hb dX7_number_84 rfl (lv_at hl 1 rfl) ?_
                    refine lv_icmp_eq (tgt := 98) hx hb dX7_number_85 (by decide) (fun c_96 => ?_) (fun c_96 => ?_)
                    · skip
                      have hc_96 := zb_eq rfl rfl c_96
                      refine lv_aload_n hx hb dX7_number_98 rfl (lv_at hl 2 rfl) ?_
                      refine lv_iload_n hx hb dX7_number_99 rfl (lv_at hl 1 rfl) ?_
                      refine va_put (D := (dC, dI)) (ci := 7) (v := .int x_1) (ty := .int) (C := RX7) (T := TX7) (N := 42) hx hb htb inw7 tyX7 tyX7_ok nmX7 hown hK.1 hP (hDa _) hS 0 rfl rfl 14 (by decide) (htb _ wmt3_181) (fun _ h9 => h9) rfl (by decide +kernel) rfl rfl (Nat.le_of_ble_eq_true rfl) dX7_number_100 (fun H locs hP _ hS => ?_)
                      have hP : va_P (dC, dI) vwCl (zM k q (sI (sI z 13 x_64) 14 x_1)) H := hP
                      refine lv_iload hx hb dX7_number_103 (lv_at hl 0 rfl) ?_
                      exact W.iret (v := x_63) hx hb hr (fun t ht hW => ⟨⟨x_63, (x_64, x_1), rfl, (show (0 ≤ x_63.toInt ∧ x_63.toInt ≤ 99) ∧ ((z.1 13).toInt ≤ x_64.toInt ∧ x_64.toInt ≤ (z.1 13).toInt + 2) ∧ ((z.1 14).toInt = -1 ∨ x_1 = z.1 14) ∧ (x_1.toInt = -1 → (z.1 14).toInt = -1 ∧ (z.1 13).toInt < x_64.toInt ∧ x_64.toInt ≤ (z.2.2.1 2 (z.1 12).toNatClampNeg).toInt ∧ lo.toInt ≤ x_63.toInt ∧ x_63.toInt ≤ hi.toInt) ∧ ((z.1 14).toInt = -1 → x_64.toInt = (z.1 13).toInt + nC (bRf (z.2.2.1 2) (z.2.2.1 3) (z.1 12).toNatClampNeg) (z.1 13).toInt ∧ x_63.toInt = nV (bRf (z.2.2.1 2) (z.2.2.1 3) (z.1 12).toNatClampNeg) (z.1 13).toInt ∧ ((¬ nC (bRf (z.2.2.1 2) (z.2.2.1 3) (z.1 12).toNatClampNeg) (z.1 13).toInt = 0 ∧ lo.toInt ≤ nV (bRf (z.2.2.1 2) (z.2.2.1 3) (z.1 12).toNatClampNeg) (z.1 13).toInt ∧ nV (bRf (z.2.2.1 2) (z.2.2.1 3) (z.1 12).toNatClampNeg) (z.1 13).toInt ≤ hi.toInt) ∧ x_1.toInt = -1 ∨ ¬ (¬ nC (bRf (z.2.2.1 2) (z.2.2.1 3) (z.1 12).toNatClampNeg) (z.1 13).toInt = 0 ∧ lo.toInt ≤ nV (bRf (z.2.2.1 2) (z.2.2.1 3) (z.1 12).toNatClampNeg) (z.1 13).toInt ∧ nV (bRf (z.2.2.1 2) (z.2.2.1 3) (z.1 12).toNatClampNeg) (z.1 13).toInt ≤ hi.toInt) ∧ x_1.toInt = (z.1 13).toInt)) from ⟨by omega, by omega, by first | (left; omega) | (right; rfl), fun q9 => by omega, fun q9 => by have qn := nC_1 (show 48 ≤ bRf (z.2.2.1 2) (z.2.2.1 3) (z.1 12).toNatClampNeg (z.1 13).toInt ∧ bRf (z.2.2.1 2) (z.2.2.1 3) (z.1 12).toNatClampNeg (z.1 13).toInt ≤ 57 by omega) (show ¬ (48 ≤ bRf (z.2.2.1 2) (z.2.2.1 3) (z.1 12).toNatClampNeg ((z.1 13).toInt + 1) ∧ bRf (z.2.2.1 2) (z.2.2.1 3) (z.1 12).toNatClampNeg ((z.1 13).toInt + 1) ≤ 57) by omega); omega⟩), ⟨by rw [ht]; exact hP, hDa _⟩⟩, hS.F ht⟩) hS.2.2 dX7_number_105
                    · skip
                      have hc_96 := zb_ne rfl rfl c_96
                      refine lv_iload hx hb dX7_number_88 (lv_at hl 0 rfl) ?_
                      refine lv_iload_n hx hb dX7_number_90 rfl (lv_at hl 3 rfl) ?_
                      refine lv_iload_n hx hb dX7_number_91 rfl (lv_at hl 4 rfl) ?_
                      refine zc0_i (w := (zM k q (sI z 13 x_64))) (va_runS (As := [.int x_63, .int lo, .int hi]) (rest := []) ⟨hx, hb, hml, hown, htb⟩ (c_X7_in l dC dI k x_63 lo hi _ ) (va_cwS 3 htb (gzS wmt4_62 wmt4_63 wmt1_8 wmt4_64) rfl rfl rfl (by decide +kernel) ⟨Nat.le_of_ble_eq_true rfl, Nat.le_of_ble_eq_true rfl⟩) (zp0_S hK) rfl rfl hl.1 rfl (lv_room (Nat.le_of_ble_eq_true rfl)) dX7_number_92 ⟨Nat.le_of_ble_eq_true rfl, Nat.le_of_ble_eq_true rfl⟩) hP hS hA (fun r_97 u_98 H locs w_99 hP hS => ?_)
                      rcases w_99 with ⟨e_101, h_100⟩ | ⟨e_103, h_102⟩
                      · skip
                        replace e_101 : r_97 = 1 := e_101
                        subst e_101
                        replace h_100 : lo.toInt ≤ x_63.toInt ∧ x_63.toInt ≤ hi.toInt := h_100
                        refine lv_if_ne (tgt := 103) hx hb dX7_number_95 (by decide) (fun c_104 => ?_) (fun c_104 => ?_)
                        · skip
                          refine lv_iload hx hb dX7_number_103 (lv_at hl 0 rfl) ?_
                          exact W.iret (v := x_63) hx hb hr (fun t ht hW => ⟨⟨x_63, (x_64, z.1 14), rfl, (show (0 ≤ x_63.toInt ∧ x_63.toInt ≤ 99) ∧ ((z.1 13).toInt ≤ x_64.toInt ∧ x_64.toInt ≤ (z.1 13).toInt + 2) ∧ ((z.1 14).toInt = -1 ∨ (z.1 14) = z.1 14) ∧ ((z.1 14).toInt = -1 → (z.1 14).toInt = -1 ∧ (z.1 13).toInt < x_64.toInt ∧ x_64.toInt ≤ (z.2.2.1 2 (z.1 12).toNatClampNeg).toInt ∧ lo.toInt ≤ x_63.toInt ∧ x_63.toInt ≤ hi.toInt) ∧ ((z.1 14).toInt = -1 → x_64.toInt = (z.1 13).toInt + nC (bRf (z.2.2.1 2) (z.2.2.1 3) (z.1 12).toNatClampNeg) (z.1 13).toInt ∧ x_63.toInt = nV (bRf (z.2.2.1 2) (z.2.2.1 3) (z.1 12).toNatClampNeg) (z.1 13).toInt ∧ ((¬ nC (bRf (z.2.2.1 2) (z.2.2.1 3) (z.1 12).toNatClampNeg) (z.1 13).toInt = 0 ∧ lo.toInt ≤ nV (bRf (z.2.2.1 2) (z.2.2.1 3) (z.1 12).toNatClampNeg) (z.1 13).toInt ∧ nV (bRf (z.2.2.1 2) (z.2.2.1 3) (z.1 12).toNatClampNeg) (z.1 13).toInt ≤ hi.toInt) ∧ (z.1 14).toInt = -1 ∨ ¬ (¬ nC (bRf (z.2.2.1 2) (z.2.2.1 3) (z.1 12).toNatClampNeg) (z.1 13).toInt = 0 ∧ lo.toInt ≤ nV (bRf (z.2.2.1 2) (z.2.2.1 3) (z.1 12).toNatClampNeg) (z.1 13).toInt ∧ nV (bRf (z.2.2.1 2) (z.2.2.1 3) (z.1 12).toNatClampNeg) (z.1 13).toInt ≤ hi.toInt) ∧ (z.1 14).toInt = (z.1 13).toInt)) from ⟨by omega, by omega, by first | (left; omega) | (right; rfl), fun q9 => by omega, fun q9 => by have qn := nC_1 (show 48 ≤ bRf (z.2.2.1 2) (z.2.2.1 3) (z.1 12).toNatClampNeg (z.1 13).toInt ∧ bRf (z.2.2.1 2) (z.2.2.1 3) (z.1 12).toNatClampNeg (z.1 13).toInt ≤ 57 by omega) (show ¬ (48 ≤ bRf (z.2.2.1 2) (z.2.2.1 3) (z.1 12).toNatClampNeg ((z.1 13).toInt + 1) ∧ bRf (z.2.2.1 2) (z.2.2.1 3) (z.1 12).toNatClampNeg ((z.1 13).toInt + 1) ≤ 57) by omega); omega⟩), ⟨by rw [ht]; exact hP, hDa _⟩⟩, hS.F ht⟩) hS.2.2 dX7_number_105
                        · skip
                          exact absurd c_104 (by decide)
                      · skip
                        replace e_103 : r_97 = 0 := e_103
                        subst e_103
                        replace h_102 : ¬ (lo.toInt ≤ x_63.toInt ∧ x_63.toInt ≤ hi.toInt) := h_102
                        refine lv_if_ne (tgt := 103) hx hb dX7_number_95 (by decide) (fun c_105 => ?_) (fun c_105 => ?_)
                        · skip
                          exact absurd c_105 (by decide)
                        · skip
                          refine lv_aload_n hx hb dX7_number_98 rfl (lv_at hl 2 rfl) ?_
                          refine lv_iload_n hx hb dX7_number_99 rfl (lv_at hl 1 rfl) ?_
                          refine va_put (D := (dC, dI)) (ci := 7) (v := .int x_1) (ty := .int) (C := RX7) (T := TX7) (N := 42) hx hb htb inw7 tyX7 tyX7_ok nmX7 hown hK.1 hP (hDa _) hS 0 rfl rfl 14 (by decide) (htb _ wmt3_181) (fun _ h9 => h9) rfl (by decide +kernel) rfl rfl (Nat.le_of_ble_eq_true rfl) dX7_number_100 (fun H locs hP _ hS => ?_)
                          have hP : va_P (dC, dI) vwCl (zM k q (sI (sI z 13 x_64) 14 x_1)) H := hP
                          refine lv_iload hx hb dX7_number_103 (lv_at hl 0 rfl) ?_
                          exact W.iret (v := x_63) hx hb hr (fun t ht hW => ⟨⟨x_63, (x_64, x_1), rfl, (show (0 ≤ x_63.toInt ∧ x_63.toInt ≤ 99) ∧ ((z.1 13).toInt ≤ x_64.toInt ∧ x_64.toInt ≤ (z.1 13).toInt + 2) ∧ ((z.1 14).toInt = -1 ∨ x_1 = z.1 14) ∧ (x_1.toInt = -1 → (z.1 14).toInt = -1 ∧ (z.1 13).toInt < x_64.toInt ∧ x_64.toInt ≤ (z.2.2.1 2 (z.1 12).toNatClampNeg).toInt ∧ lo.toInt ≤ x_63.toInt ∧ x_63.toInt ≤ hi.toInt) ∧ ((z.1 14).toInt = -1 → x_64.toInt = (z.1 13).toInt + nC (bRf (z.2.2.1 2) (z.2.2.1 3) (z.1 12).toNatClampNeg) (z.1 13).toInt ∧ x_63.toInt = nV (bRf (z.2.2.1 2) (z.2.2.1 3) (z.1 12).toNatClampNeg) (z.1 13).toInt ∧ ((¬ nC (bRf (z.2.2.1 2) (z.2.2.1 3) (z.1 12).toNatClampNeg) (z.1 13).toInt = 0 ∧ lo.toInt ≤ nV (bRf (z.2.2.1 2) (z.2.2.1 3) (z.1 12).toNatClampNeg) (z.1 13).toInt ∧ nV (bRf (z.2.2.1 2) (z.2.2.1 3) (z.1 12).toNatClampNeg) (z.1 13).toInt ≤ hi.toInt) ∧ x_1.toInt = -1 ∨ ¬ (¬ nC (bRf (z.2.2.1 2) (z.2.2.1 3) (z.1 12).toNatClampNeg) (z.1 13).toInt = 0 ∧ lo.toInt ≤ nV (bRf (z.2.2.1 2) (z.2.2.1 3) (z.1 12).toNatClampNeg) (z.1 13).toInt ∧ nV (bRf (z.2.2.1 2) (z.2.2.1 3) (z.1 12).toNatClampNeg) (z.1 13).toInt ≤ hi.toInt) ∧ x_1.toInt = (z.1 13).toInt)) from ⟨by omega, by omega, by first | (left; omega) | (right; rfl), fun q9 => by omega, fun q9 => by have qn := nC_1 (show 48 ≤ bRf (z.2.2.1 2) (z.2.2.1 3) (z.1 12).toNatClampNeg (z.1 13).toInt ∧ bRf (z.2.2.1 2) (z.2.2.1 3) (z.1 12).toNatClampNeg (z.1 13).toInt ≤ 57 by omega) (show ¬ (48 ≤ bRf (z.2.2.1 2) (z.2.2.1 3) (z.1 12).toNatClampNeg ((z.1 13).toInt + 1) ∧ bRf (z.2.2.1 2) (z.2.2.1 3) (z.1 12).toNatClampNeg ((z.1 13).toInt + 1) ≤ 57) by omega); omega⟩), ⟨by rw [ht]; exact hP, hDa _⟩⟩, hS.F ht⟩) hS.2.2 dX7_number_105
                · skip
                  have hc_94 := zb_nlt (show (57 : Int32).toInt = 57 by decide) rfl c_94
                  refine lv_bipush (v := 10) hx hb dX7_number_44 (by decide) ?_
                  refine lv_iload hx hb dX7_number_46 (lv_at hl 0 rfl) ?_
                  refine lv_imul hx hb dX7_number_48 ?_
                  refine lv_topi (fun x_106 ex_106 => ?_)
                  have hx_106 := z_mul ex_106 (show (10 : Int32).toInt = 10 by decide) rfl (by omega)
                  refine lv_aload_n hx hb dX7_number_49 rfl (lv_at hl 2 rfl) ?_
                  refine zcA_i (w := (zM k q (sI z 13 x_64))) (va_runV (As := []) (rest := [.int x_106]) ⟨hx, hb, hml, hown, htb⟩ (c_X7_byteNow l dC dI k q (sI z 13 x_64) _ (show 0 ≤ (z.1 12).toInt ∧ (z.1 12).toInt < 4 by omega) hm4 (show 0 ≤ x_64.toInt ∧ x_64.toInt ≤ 1000 by omega)) (cwV 0 htb (gzV wmt4_85 wmt4_87 wmp2_9 wmt1_8 wmt4_88) rfl rfl rfl (by decide +kernel) ⟨Nat.le_of_ble_eq_true rfl, Nat.le_of_ble_eq_true rfl⟩) (zpA_V (ci := 7) (q0 := 0) hK hP (hDa _) rfl rfl) rfl rfl hl.1 rfl (lv_room (Nat.le_of_ble_eq_true rfl)) dX7_number_50 ⟨Nat.le_of_ble_eq_true rfl, Nat.le_of_ble_eq_true rfl⟩) (hDa _) hS hA (fun r_107 u_108 H locs w_109 hP _ hS => ?_)
                  obtain ⟨h_110, h_111⟩ := w_109
                  replace h_110 : (x_64).toInt < ((z.2.2.1 2) ((z.1 12)).toNatClampNeg).toInt ∨ r_107.toInt = -1 := h_110
                  replace h_111 : r_107.toInt = bRf ((z.2.2.1 2)) ((z.2.2.1 3)) ((z.1 12)).toNatClampNeg (x_64).toInt := h_111
                  have hB_113 : r_107.toInt = bRf (z.2.2.1 2) (z.2.2.1 3) (z.1 12).toNatClampNeg ((z.1 13).toInt + 1) := by have q := h_111; rw [show x_64.toInt = ((z.1 13).toInt + 1) by omega] at q; exact q
                  refine lv_iadd hx hb dX7_number_53 ?_
                  refine lv_topi (fun x_114 ex_114 => ?_)
                  have hx_114 := z_add ex_114 rfl rfl (by omega)
                  refine lv_bipush (v := 48) hx hb dX7_number_54 (by decide) ?_
                  refine lv_isub hx hb dX7_number_56 ?_
                  refine lv_topi (fun x_115 ex_115 => ?_)
                  have hx_115 := z_sub ex_115 rfl (show (48 : Int32).toInt = 48 by decide) (by omega)
                  refine lv_istore (lv' := [(4, .int x_115), (3, .int x_1), (0, .ref (q 0)), (1, .int lo), (2, .int hi)]) hx hb dX7_number_57 hl (by decide) rfl (fun ls hl => ?_)
                  refine lv_aload_n hx hb dX7_number_59 rfl (lv_at hl 2 rfl) ?_
                  refine lv_dup hx hb dX7_number_60 rfl ?_
                  refine va_get (D := (dC, dI)) (ci := 7) (v := .int x_64) (C := RX7) (T := TX7) (N := 42) hx hb htb inw7 hown hK.1 hP 0 rfl rfl 13 (by decide) (htb _ wmt3_180) (fun _ h9 => h9) rfl dX7_number_61 ?_
                  refine lv_iconst (v := 1) hx hb dX7_number_64 (by decide) ?_
                  refine lv_iadd hx hb dX7_number_65 ?_
                  refine lv_topi (fun x_116 ex_116 => ?_)
                  have hx_116 := z_add ex_116 rfl (show (1 : Int32).toInt = 1 by decide) (by omega)
                  refine va_put (D := (dC, dI)) (ci := 7) (v := .int x_116) (ty := .int) (C := RX7) (T := TX7) (N := 42) hx hb htb inw7 tyX7 tyX7_ok nmX7 hown hK.1 hP (hDa _) hS 0 rfl rfl 13 (by decide) (htb _ wmt3_180) (fun _ h9 => h9) rfl (by decide +kernel) rfl rfl (Nat.le_of_ble_eq_true rfl) dX7_number_66 (fun H locs hP _ hS => ?_)
                  have hP : va_P (dC, dI) vwCl (zM k q (sI z 13 x_116)) H := hP
                  refine lv_goto (tgt := 8) hx hb dX7_number_69 (by decide) ?_
                  refine lv_aload_n hx hb dX7_number_8 rfl (lv_at hl 2 rfl) ?_
                  refine va_get (D := (dC, dI)) (ci := 7) (v := .int (z.1 14)) (C := RX7) (T := TX7) (N := 42) hx hb htb inw7 hown hK.1 hP 0 rfl rfl 14 (by decide) (htb _ wmt3_181) (fun _ h9 => h9) rfl dX7_number_9 ?_
                  refine z_top (v2 := .int x_2) (congrArg Value.int ex_2.symm) ?_
                  refine lv_iconst (v := (-1)) hx hb dX7_number_12 (by decide) ?_
                  refine lv_icmp_ne (tgt := 72) hx hb dX7_number_13 (by decide) (fun c_117 => ?_) (fun c_117 => ?_)
                  · skip
                    have hc_117 := zb_ne rfl (show ((-1) : Int32).toInt = (-1) by decide) c_117
                    exfalso; omega
                  · skip
                    have hc_117 := zb_eq rfl (show ((-1) : Int32).toInt = (-1) by decide) c_117
                    refine lv_aload_n hx hb dX7_number_16 rfl (lv_at hl 2 rfl) ?_
                    refine va_get (D := (dC, dI)) (ci := 7) (v := .int x_116) (C := RX7) (T := TX7) (N := 42) hx hb htb inw7 hown hK.1 hP 0 rfl rfl 13 (by decide) (htb _ wmt3_180) (fun _ h9 => h9) rfl dX7_number_17 ?_
                    refine lv_iload_n hx hb dX7_number_20 rfl (lv_at hl 1 rfl) ?_
                    refine lv_iconst (v := 2) hx hb dX7_number_21 (by decide) ?_
                    refine lv_iadd hx hb dX7_number_22 ?_
                    refine lv_topi (fun x_118 ex_118 => ?_)
                    have hx_118 := z_add ex_118 rfl (show (2 : Int32).toInt = 2 by decide) (by omega)
                    refine lv_icmp_ge (tgt := 72) hx hb dX7_number_23 (by decide) (fun c_119 => ?_) (fun c_119 => ?_)
                    · skip
                      have hc_119 := zb_le rfl rfl c_119
                      refine lv_aload_n hx hb dX7_number_72 rfl (lv_at hl 2 rfl) ?_
                      refine va_get (D := (dC, dI)) (ci := 7) (v := .int (z.1 14)) (C := RX7) (T := TX7) (N := 42) hx hb htb inw7 hown hK.1 hP 0 rfl rfl 14 (by decide) (htb _ wmt3_181) (fun _ h9 => h9) rfl dX7_number_73 ?_
                      refine z_top (v2 := .int x_2) (congrArg Value.int ex_2.symm) ?_
                      refine lv_iconst (v := (-1)) hx hb dX7_number_76 (by decide) ?_
                      refine lv_icmp_ne (tgt := 103) hx hb dX7_number_77 (by decide) (fun c_120 => ?_) (fun c_120 => ?_)
                      · skip
                        have hc_120 := zb_ne rfl (show ((-1) : Int32).toInt = (-1) by decide) c_120
                        refine lv_iload hx hb dX7_number_103 (lv_at hl 0 rfl) ?_
                        exact W.iret (v := x_115) hx hb hr (fun t ht hW => ⟨⟨x_115, (x_116, z.1 14), rfl, (show (0 ≤ x_115.toInt ∧ x_115.toInt ≤ 99) ∧ ((z.1 13).toInt ≤ x_116.toInt ∧ x_116.toInt ≤ (z.1 13).toInt + 2) ∧ ((z.1 14).toInt = -1 ∨ (z.1 14) = z.1 14) ∧ ((z.1 14).toInt = -1 → (z.1 14).toInt = -1 ∧ (z.1 13).toInt < x_116.toInt ∧ x_116.toInt ≤ (z.2.2.1 2 (z.1 12).toNatClampNeg).toInt ∧ lo.toInt ≤ x_115.toInt ∧ x_115.toInt ≤ hi.toInt) ∧ ((z.1 14).toInt = -1 → x_116.toInt = (z.1 13).toInt + nC (bRf (z.2.2.1 2) (z.2.2.1 3) (z.1 12).toNatClampNeg) (z.1 13).toInt ∧ x_115.toInt = nV (bRf (z.2.2.1 2) (z.2.2.1 3) (z.1 12).toNatClampNeg) (z.1 13).toInt ∧ ((¬ nC (bRf (z.2.2.1 2) (z.2.2.1 3) (z.1 12).toNatClampNeg) (z.1 13).toInt = 0 ∧ lo.toInt ≤ nV (bRf (z.2.2.1 2) (z.2.2.1 3) (z.1 12).toNatClampNeg) (z.1 13).toInt ∧ nV (bRf (z.2.2.1 2) (z.2.2.1 3) (z.1 12).toNatClampNeg) (z.1 13).toInt ≤ hi.toInt) ∧ (z.1 14).toInt = -1 ∨ ¬ (¬ nC (bRf (z.2.2.1 2) (z.2.2.1 3) (z.1 12).toNatClampNeg) (z.1 13).toInt = 0 ∧ lo.toInt ≤ nV (bRf (z.2.2.1 2) (z.2.2.1 3) (z.1 12).toNatClampNeg) (z.1 13).toInt ∧ nV (bRf (z.2.2.1 2) (z.2.2.1 3) (z.1 12).toNatClampNeg) (z.1 13).toInt ≤ hi.toInt) ∧ (z.1 14).toInt = (z.1 13).toInt)) from ⟨by omega, by omega, by first | (left; omega) | (right; rfl), fun q9 => by omega, fun q9 => by have qn := nC_2 (show 48 ≤ bRf (z.2.2.1 2) (z.2.2.1 3) (z.1 12).toNatClampNeg (z.1 13).toInt ∧ bRf (z.2.2.1 2) (z.2.2.1 3) (z.1 12).toNatClampNeg (z.1 13).toInt ≤ 57 by omega) (show 48 ≤ bRf (z.2.2.1 2) (z.2.2.1 3) (z.1 12).toNatClampNeg ((z.1 13).toInt + 1) ∧ bRf (z.2.2.1 2) (z.2.2.1 3) (z.1 12).toNatClampNeg ((z.1 13).toInt + 1) ≤ 57 by omega); omega⟩), ⟨by rw [ht]; exact hP, hDa _⟩⟩, hS.F ht⟩) hS.2.2 dX7_number_105
                      · skip
                        have hc_120 := zb_eq rfl (show ((-1) : Int32).toInt = (-1) by decide) c_120
                        refine lv_aload_n hx hb dX7_number_80 rfl (lv_at hl 2 rfl) ?_
                        refine va_get (D := (dC, dI)) (ci := 7) (v := .int x_116) (C := RX7) (T := TX7) (N := 42) hx hb htb inw7 hown hK.1 hP 0 rfl rfl 13 (by decide) (htb _ wmt3_180) (fun _ h9 => h9) rfl dX7_number_81 ?_
                        refine lv_iload_n hx hb dX7_number_84 rfl (lv_at hl 1 rfl) ?_
                        refine lv_icmp_eq (tgt := 98) hx hb dX7_number_85 (by decide) (fun c_121 => ?_) (fun c_121 => ?_)
                        · skip
                          have hc_121 := zb_eq rfl rfl c_121
                          refine lv_aload_n hx hb dX7_number_98 rfl (lv_at hl 2 rfl) ?_
                          refine lv_iload_n hx hb dX7_number_99 rfl (lv_at hl 1 rfl) ?_
                          refine va_put (D := (dC, dI)) (ci := 7) (v := .int x_1) (ty := .int) (C := RX7) (T := TX7) (N := 42) hx hb htb inw7 tyX7 tyX7_ok nmX7 hown hK.1 hP (hDa _) hS 0 rfl rfl 14 (by decide) (htb _ wmt3_181) (fun _ h9 => h9) rfl (by decide +kernel) rfl rfl (Nat.le_of_ble_eq_true rfl) dX7_number_100 (fun H locs hP _ hS => ?_)
                          have hP : va_P (dC, dI) vwCl (zM k q (sI (sI z 13 x_116) 14 x_1)) H := hP
                          refine lv_iload hx hb dX7_number_103 (lv_at hl 0 rfl) ?_
                          exact W.iret (v := x_115) hx hb hr (fun t ht hW => ⟨⟨x_115, (x_116, x_1), rfl, (show (0 ≤ x_115.toInt ∧ x_115.toInt ≤ 99) ∧ ((z.1 13).toInt ≤ x_116.toInt ∧ x_116.toInt ≤ (z.1 13).toInt + 2) ∧ ((z.1 14).toInt = -1 ∨ x_1 = z.1 14) ∧ (x_1.toInt = -1 → (z.1 14).toInt = -1 ∧ (z.1 13).toInt < x_116.toInt ∧ x_116.toInt ≤ (z.2.2.1 2 (z.1 12).toNatClampNeg).toInt ∧ lo.toInt ≤ x_115.toInt ∧ x_115.toInt ≤ hi.toInt) ∧ ((z.1 14).toInt = -1 → x_116.toInt = (z.1 13).toInt + nC (bRf (z.2.2.1 2) (z.2.2.1 3) (z.1 12).toNatClampNeg) (z.1 13).toInt ∧ x_115.toInt = nV (bRf (z.2.2.1 2) (z.2.2.1 3) (z.1 12).toNatClampNeg) (z.1 13).toInt ∧ ((¬ nC (bRf (z.2.2.1 2) (z.2.2.1 3) (z.1 12).toNatClampNeg) (z.1 13).toInt = 0 ∧ lo.toInt ≤ nV (bRf (z.2.2.1 2) (z.2.2.1 3) (z.1 12).toNatClampNeg) (z.1 13).toInt ∧ nV (bRf (z.2.2.1 2) (z.2.2.1 3) (z.1 12).toNatClampNeg) (z.1 13).toInt ≤ hi.toInt) ∧ x_1.toInt = -1 ∨ ¬ (¬ nC (bRf (z.2.2.1 2) (z.2.2.1 3) (z.1 12).toNatClampNeg) (z.1 13).toInt = 0 ∧ lo.toInt ≤ nV (bRf (z.2.2.1 2) (z.2.2.1 3) (z.1 12).toNatClampNeg) (z.1 13).toInt ∧ nV (bRf (z.2.2.1 2) (z.2.2.1 3) (z.1 12).toNatClampNeg) (z.1 13).toInt ≤ hi.toInt) ∧ x_1.toInt = (z.1 13).toInt)) from ⟨by omega, by omega, by first | (left; omega) | (right; rfl), fun q9 => by omega, fun q9 => by have qn := nC_2 (show 48 ≤ bRf (z.2.2.1 2) (z.2.2.1 3) (z.1 12).toNatClampNeg (z.1 13).toInt ∧ bRf (z.2.2.1 2) (z.2.2.1 3) (z.1 12).toNatClampNeg (z.1 13).toInt ≤ 57 by omega) (show 48 ≤ bRf (z.2.2.1 2) (z.2.2.1 3) (z.1 12).toNatClampNeg ((z.1 13).toInt + 1) ∧ bRf (z.2.2.1 2) (z.2.2.1 3) (z.1 12).toNatClampNeg ((z.1 13).toInt + 1) ≤ 57 by omega); omega⟩), ⟨by rw [ht]; exact hP, hDa _⟩⟩, hS.F ht⟩) hS.2.2 dX7_number_105
                        · skip
                          have hc_121 := zb_ne rfl rfl c_121
                          refine lv_iload hx hb dX7_number_88 (lv_at hl 0 rfl) ?_
                          refine lv_iload_n hx hb dX7_number_90 rfl (lv_at hl 3 rfl) ?_
                          refine lv_iload_n hx hb dX7_number_91 rfl (lv_at hl 4 rfl) ?_
                          refine zc0_i (w := (zM k q (sI z 13 x_116))) (va_runS (As := [.int x_115, .int lo, .int hi]) (rest := []) ⟨hx, hb, hml, hown, htb⟩ (c_X7_in l dC dI k x_115 lo hi _ ) (va_cwS 3 htb (gzS wmt4_62 wmt4_63 wmt1_8 wmt4_64) rfl rfl rfl (by decide +kernel) ⟨Nat.le_of_ble_eq_true rfl, Nat.le_of_ble_eq_true rfl⟩) (zp0_S hK) rfl rfl hl.1 rfl (lv_room (Nat.le_of_ble_eq_true rfl)) dX7_number_92 ⟨Nat.le_of_ble_eq_true rfl, Nat.le_of_ble_eq_true rfl⟩) hP hS hA (fun r_122 u_123 H locs w_124 hP hS => ?_)
                          rcases w_124 with ⟨e_126, h_125⟩ | ⟨e_128, h_127⟩
                          · skip
                            replace e_126 : r_122 = 1 := e_126
                            subst e_126
                            replace h_125 : lo.toInt ≤ x_115.toInt ∧ x_115.toInt ≤ hi.toInt := h_125
                            refine lv_if_ne (tgt := 103) hx hb dX7_number_95 (by decide) (fun c_129 => ?_) (fun c_129 => ?_)
                            · skip
                              refine lv_iload hx hb dX7_number_103 (lv_at hl 0 rfl) ?_
                              exact W.iret (v := x_115) hx hb hr (fun t ht hW => ⟨⟨x_115, (x_116, z.1 14), rfl, (show (0 ≤ x_115.toInt ∧ x_115.toInt ≤ 99) ∧ ((z.1 13).toInt ≤ x_116.toInt ∧ x_116.toInt ≤ (z.1 13).toInt + 2) ∧ ((z.1 14).toInt = -1 ∨ (z.1 14) = z.1 14) ∧ ((z.1 14).toInt = -1 → (z.1 14).toInt = -1 ∧ (z.1 13).toInt < x_116.toInt ∧ x_116.toInt ≤ (z.2.2.1 2 (z.1 12).toNatClampNeg).toInt ∧ lo.toInt ≤ x_115.toInt ∧ x_115.toInt ≤ hi.toInt) ∧ ((z.1 14).toInt = -1 → x_116.toInt = (z.1 13).toInt + nC (bRf (z.2.2.1 2) (z.2.2.1 3) (z.1 12).toNatClampNeg) (z.1 13).toInt ∧ x_115.toInt = nV (bRf (z.2.2.1 2) (z.2.2.1 3) (z.1 12).toNatClampNeg) (z.1 13).toInt ∧ ((¬ nC (bRf (z.2.2.1 2) (z.2.2.1 3) (z.1 12).toNatClampNeg) (z.1 13).toInt = 0 ∧ lo.toInt ≤ nV (bRf (z.2.2.1 2) (z.2.2.1 3) (z.1 12).toNatClampNeg) (z.1 13).toInt ∧ nV (bRf (z.2.2.1 2) (z.2.2.1 3) (z.1 12).toNatClampNeg) (z.1 13).toInt ≤ hi.toInt) ∧ (z.1 14).toInt = -1 ∨ ¬ (¬ nC (bRf (z.2.2.1 2) (z.2.2.1 3) (z.1 12).toNatClampNeg) (z.1 13).toInt = 0 ∧ lo.toInt ≤ nV (bRf (z.2.2.1 2) (z.2.2.1 3) (z.1 12).toNatClampNeg) (z.1 13).toInt ∧ nV (bRf (z.2.2.1 2) (z.2.2.1 3) (z.1 12).toNatClampNeg) (z.1 13).toInt ≤ hi.toInt) ∧ (z.1 14).toInt = (z.1 13).toInt)) from ⟨by omega, by omega, by first | (left; omega) | (right; rfl), fun q9 => by omega, fun q9 => by have qn := nC_2 (show 48 ≤ bRf (z.2.2.1 2) (z.2.2.1 3) (z.1 12).toNatClampNeg (z.1 13).toInt ∧ bRf (z.2.2.1 2) (z.2.2.1 3) (z.1 12).toNatClampNeg (z.1 13).toInt ≤ 57 by omega) (show 48 ≤ bRf (z.2.2.1 2) (z.2.2.1 3) (z.1 12).toNatClampNeg ((z.1 13).toInt + 1) ∧ bRf (z.2.2.1 2) (z.2.2.1 3) (z.1 12).toNatClampNeg ((z.1 13).toInt + 1) ≤ 57 by omega); omega⟩), ⟨by rw [ht]; exact hP, hDa _⟩⟩, hS.F ht⟩) hS.2.2 dX7_number_105
                            · skip
                              exact absurd c_129 (by decide)
                          · skip
                            replace e_128 : r_122 = 0 := e_128
                            subst e_128
                            replace h_127 : ¬ (lo.toInt ≤ x_115.toInt ∧ x_115.toInt ≤ hi.toInt) := h_127
                            refine lv_if_ne (tgt := 103) hx hb dX7_number_95 (by decide) (fun c_130 => ?_) (fun c_130 => ?_)
                            · skip
                              exact absurd c_130 (by decide)
                            · skip
                              refine lv_aload_n hx hb dX7_number_98 rfl (lv_at hl 2 rfl) ?_
                              refine lv_iload_n hx hb dX7_number_99 rfl (lv_at hl 1 rfl) ?_
                              refine va_put (D := (dC, dI)) (ci := 7) (v := .int x_1) (ty := .int) (C := RX7) (T := TX7) (N := 42) hx hb htb inw7 tyX7 tyX7_ok nmX7 hown hK.1 hP (hDa _) hS 0 rfl rfl 14 (by decide) (htb _ wmt3_181) (fun _ h9 => h9) rfl (by decide +kernel) rfl rfl (Nat.le_of_ble_eq_true rfl) dX7_number_100 (fun H locs hP _ hS => ?_)
                              have hP : va_P (dC, dI) vwCl (zM k q (sI (sI z 13 x_116) 14 x_1)) H := hP
                              refine lv_iload hx hb dX7_number_103 (lv_at hl 0 rfl) ?_
                              exact W.iret (v := x_115) hx hb hr (fun t ht hW => ⟨⟨x_115, (x_116, x_1), rfl, (show (0 ≤ x_115.toInt ∧ x_115.toInt ≤ 99) ∧ ((z.1 13).toInt ≤ x_116.toInt ∧ x_116.toInt ≤ (z.1 13).toInt + 2) ∧ ((z.1 14).toInt = -1 ∨ x_1 = z.1 14) ∧ (x_1.toInt = -1 → (z.1 14).toInt = -1 ∧ (z.1 13).toInt < x_116.toInt ∧ x_116.toInt ≤ (z.2.2.1 2 (z.1 12).toNatClampNeg).toInt ∧ lo.toInt ≤ x_115.toInt ∧ x_115.toInt ≤ hi.toInt) ∧ ((z.1 14).toInt = -1 → x_116.toInt = (z.1 13).toInt + nC (bRf (z.2.2.1 2) (z.2.2.1 3) (z.1 12).toNatClampNeg) (z.1 13).toInt ∧ x_115.toInt = nV (bRf (z.2.2.1 2) (z.2.2.1 3) (z.1 12).toNatClampNeg) (z.1 13).toInt ∧ ((¬ nC (bRf (z.2.2.1 2) (z.2.2.1 3) (z.1 12).toNatClampNeg) (z.1 13).toInt = 0 ∧ lo.toInt ≤ nV (bRf (z.2.2.1 2) (z.2.2.1 3) (z.1 12).toNatClampNeg) (z.1 13).toInt ∧ nV (bRf (z.2.2.1 2) (z.2.2.1 3) (z.1 12).toNatClampNeg) (z.1 13).toInt ≤ hi.toInt) ∧ x_1.toInt = -1 ∨ ¬ (¬ nC (bRf (z.2.2.1 2) (z.2.2.1 3) (z.1 12).toNatClampNeg) (z.1 13).toInt = 0 ∧ lo.toInt ≤ nV (bRf (z.2.2.1 2) (z.2.2.1 3) (z.1 12).toNatClampNeg) (z.1 13).toInt ∧ nV (bRf (z.2.2.1 2) (z.2.2.1 3) (z.1 12).toNatClampNeg) (z.1 13).toInt ≤ hi.toInt) ∧ x_1.toInt = (z.1 13).toInt)) from ⟨by omega, by omega, by first | (left; omega) | (right; rfl), fun q9 => by omega, fun q9 => by have qn := nC_2 (show 48 ≤ bRf (z.2.2.1 2) (z.2.2.1 3) (z.1 12).toNatClampNeg (z.1 13).toInt ∧ bRf (z.2.2.1 2) (z.2.2.1 3) (z.1 12).toNatClampNeg (z.1 13).toInt ≤ 57 by omega) (show 48 ≤ bRf (z.2.2.1 2) (z.2.2.1 3) (z.1 12).toNatClampNeg ((z.1 13).toInt + 1) ∧ bRf (z.2.2.1 2) (z.2.2.1 3) (z.1 12).toNatClampNeg ((z.1 13).toInt + 1) ≤ 57 by omega); omega⟩), ⟨by rw [ht]; exact hP, hDa _⟩⟩, hS.F ht⟩) hS.2.2 dX7_number_105
                    · skip
                      have hc_119 := zb_nle rfl rfl c_119
                      exfalso; omega
set_option maxHeartbeats 4000000 in
set_option maxRecDepth 100000 in
theorem c_X7_partRead (l : Launch) (dC : Nat → ClassId) (dI : Nat → Nat → Nat) (k : Nat → ClassId) (q : Nat → Nat) (z : ZS) (sz : Nat) (hdn : 0 ≤ (z.1 12).toInt ∧ (z.1 12).toInt < 4) (hm4 : M4 (z.2.2.1 2)) (hat : 0 ≤ (z.1 13).toInt ∧ (z.1 13).toInt ≤ 200) (hf : (z.1 14).toInt = -1) (hpt : PT (z.1 15) (z.2.2.1 17) (z.2.2.1 18)) (h4 : 4 * (z.1 15).toInt ≤ (z.1 13).toInt) : Met l yX7_partRead (wz yX7_partRead cX7_partRead 4 none) ({ frames := 2, cells := 0, slots := 0, locals := 46 }) (va_Pc [.ref (q 0)] (zPre dC dI k (zTX k) (zM k q z) sz)) (va_Qv (fun (u : Int32 × Int32 × Int32 × (Nat → Int32) × (Nat → Int32) × (Nat → Int32)) => (PT u.2.2.1 u.2.2.2.2.1 u.2.2.2.2.2) ∧ (4 * u.2.2.1.toInt ≤ u.1.toInt) ∧ ((z.1 13).toInt ≤ u.1.toInt ∧ u.1.toInt ≤ (z.1 13).toInt + 6) ∧ (u.2.1.toInt = -1 → (z.1 13).toInt < u.1.toInt ∧ u.1.toInt ≤ (z.2.2.1 2 (z.1 12).toNatClampNeg).toInt) ∧ (u.2.1.toInt = pX (bRf (z.2.2.1 2) (z.2.2.1 3) (z.1 12).toNatClampNeg) (z.1 13).toInt) ∧ (u.2.1.toInt = -1 → u.1.toInt = a3 (bRf (z.2.2.1 2) (z.2.2.1 3) (z.1 12).toNatClampNeg) (z.1 13).toInt ∧ u.2.2.1.toInt = (z.1 15).toInt + 1 ∧ (u.2.2.2.1 (z.1 15).toNatClampNeg).toInt = bRf (z.2.2.1 2) (z.2.2.1 3) (z.1 12).toNatClampNeg (z.1 13).toInt ∧ (u.2.2.2.2.1 (z.1 15).toNatClampNeg).toInt = nV (bRf (z.2.2.1 2) (z.2.2.1 3) (z.1 12).toNatClampNeg) ((z.1 13).toInt + 1) ∧ (u.2.2.2.2.2 (z.1 15).toNatClampNeg).toInt = nV (bRf (z.2.2.1 2) (z.2.2.1 3) (z.1 12).toNatClampNeg) (a2 (bRf (z.2.2.1 2) (z.2.2.1 3) (z.1 12).toNatClampNeg) (z.1 13).toInt + 1) ∧ (∀ k : Nat, k ≠ (z.1 15).toNatClampNeg → u.2.2.2.1 k = z.2.2.1 16 k ∧ u.2.2.2.2.1 k = z.2.2.1 17 k ∧ u.2.2.2.2.2 k = z.2.2.1 18 k))) (fun u t => zPost dC dI (va_A (zM k q z) sz) (zM k q (sA (sA (sA (sI (sI (sI z 13 u.1) 14 u.2.1) 15 u.2.2.1) 16 u.2.2.2.1) 17 u.2.2.2.2.1) 18 u.2.2.2.2.2)) t) (va_A (zM k q z) sz)) 0 0 (va_A (zM k q z) sz) := by
  refine Met.ofW (cc := cX7_partRead) (maxL := 4) (ret := none) (by decide) rfl ?_
  intro p e s m args below meth c s₁ B hml hv
  obtain ⟨rfl, hsz, hP, hK, hD0⟩ := hv
  have hx := B.exec
  have hb := B.bytes
  have hr := B.returns
  have hts := atoms_spec (ws := wz yX7_partRead cX7_partRead 4 none) B.pre
  have htb : ∀ w ∈ zw, w.before _ s = true := fun w h => hts w (List.mem_cons_of_mem _ h)
  have hown : s.vm.findClass RX7 = some m.cls := findClass_of_methodNamed B.named
  have hlocks := B.notSynchronized
  clear hts
  subst hsz
  have hD := hD0.self (sz := s.heap.size)
  generalize hAe : va_A (zM k q z) s.heap.size = A at hD ⊢
  have hA : ∀ q : Nat, s.heap.size ≤ q → A q := fun q h => by rw [← hAe]; exact Or.inr h
  have hDa : ∀ z9 : ZS, va_D A (zM k q z9) := fun z9 => va_D_adr (w := zM k q z) rfl hD
  have hl := lv_entry ([.ref (q 0)]) (n := 4) (Nat.le_of_ble_eq_true rfl)
  rw [lg_entry_eq]
  generalize (lg_sl ([.ref (q 0)]) ++ List.replicate (4 - (lg_sl ([.ref (q 0)])).length) Slot.unset).toArray = ls at hl ⊢
  have hl : lv_has ls 4 [(0, .ref (q 0))] := hl
  refine z_start2 (A := A) (w := (zM k q z)) hP (fun H locs hP hS => ?_)
  clear hD0 hAe
  have hty := M4_at hm4 hdn
  have hp0 := hpt.1
  have hp1 := hpt.2.1
  refine lv_aload_n hx hb dX7_partRead_0 rfl (lv_at hl 0 rfl) ?_
  refine zcA_i (w := (zM k q z)) (va_runV (As := []) (rest := []) ⟨hx, hb, hml, hown, htb⟩ (c_X7_byteNow l dC dI k q z _ (show 0 ≤ (z.1 12).toInt ∧ (z.1 12).toInt < 4 by omega) hm4 (show 0 ≤ (z.1 13).toInt ∧ (z.1 13).toInt ≤ 1000 by omega)) (cwV 0 htb (gzV wmt4_85 wmt4_87 wmp2_9 wmt1_8 wmt4_88) rfl rfl rfl (by decide +kernel) ⟨Nat.le_of_ble_eq_true rfl, Nat.le_of_ble_eq_true rfl⟩) (zpA_V (ci := 7) (q0 := 0) hK hP (hDa _) rfl rfl) rfl rfl hl.1 rfl (lv_room (Nat.le_of_ble_eq_true rfl)) dX7_partRead_1 ⟨Nat.le_of_ble_eq_true rfl, Nat.le_of_ble_eq_true rfl⟩) (hDa _) hS hA (fun r_1 u_2 H locs w_3 hP _ hS => ?_)
  obtain ⟨h_4, h_5⟩ := w_3
  replace h_4 : ((z.1 13)).toInt < ((z.2.2.1 2) ((z.1 12)).toNatClampNeg).toInt ∨ r_1.toInt = -1 := h_4
  replace h_5 : r_1.toInt = bRf ((z.2.2.1 2)) ((z.2.2.1 3)) ((z.1 12)).toNatClampNeg ((z.1 13)).toInt := h_5
  have hB0 : r_1.toInt = bRf (z.2.2.1 2) (z.2.2.1 3) (z.1 12).toNatClampNeg (z.1 13).toInt := h_5
  refine lv_istore_n (lv' := [(1, .int r_1), (0, .ref (q 0))]) hx hb dX7_partRead_4 rfl hl (by decide) rfl (fun ls hl => ?_)
  refine z_join2 (dC := dC) (dI := dI) (A := A) (H0 := s.heap) (nL := 4) (α := Int32) (Inv := fun x => (x.toInt = bRf (z.2.2.1 2) (z.2.2.1 3) (z.1 12).toNatClampNeg (z.1 13).toInt ∧ ¬ lT (bRf (z.2.2.1 2) (z.2.2.1 3) (z.1 12).toNatClampNeg (z.1 13).toInt) = -1)) (lv2 := fun x => [(0, .ref (q 0)), (1, .int x)]) (st2 := fun _ => []) (w2 := fun x => (zM k q z)) 44 (fun x H locs ls hinv hP hS hl => ?_) (fun hj44 => ?_)
  · skip
    obtain ⟨bb, rfl⟩ : ∃ y, y = x := ⟨_, rfl⟩
    have hbb := hinv
    replace hbb : bb.toInt = bRf (z.2.2.1 2) (z.2.2.1 3) (z.1 12).toNatClampNeg (z.1 13).toInt ∧ ¬ lT (bRf (z.2.2.1 2) (z.2.2.1 3) (z.1 12).toNatClampNeg (z.1 13).toInt) = -1 := hbb
    have hP : va_P (dC, dI) vwCl (zM k q z) H := hP
    have hl : lv_has ls 4 [(0, .ref (q 0)), (1, .int bb)] := hl
    refine lv_aload_n hx hb dX7_partRead_44 rfl (lv_at hl 0 rfl) ?_
    refine lv_dup hx hb dX7_partRead_45 rfl ?_
    refine va_get (D := (dC, dI)) (ci := 7) (v := .int (z.1 13)) (C := RX7) (T := TX7) (N := 42) hx hb htb inw7 hown hK.1 hP 0 rfl rfl 13 (by decide) (htb _ wmt3_180) (fun _ h9 => h9) rfl dX7_partRead_46 ?_
    refine lv_topi (fun x_7 ex_7 => ?_)
    have hx_7 : x_7.toInt = (z.1 13).toInt := by rw [ex_7]
    refine lv_iconst (v := 1) hx hb dX7_partRead_49 (by decide) ?_
    refine lv_iadd hx hb dX7_partRead_50 ?_
    refine lv_topi (fun x_8 ex_8 => ?_)
    have hx_8 := z_add ex_8 rfl (show (1 : Int32).toInt = 1 by decide) (by omega)
    refine va_put (D := (dC, dI)) (ci := 7) (v := .int x_8) (ty := .int) (C := RX7) (T := TX7) (N := 42) hx hb htb inw7 tyX7 tyX7_ok nmX7 hown hK.1 hP (hDa _) hS 0 rfl rfl 13 (by decide) (htb _ wmt3_180) (fun _ h9 => h9) rfl (by decide +kernel) rfl rfl (Nat.le_of_ble_eq_true rfl) dX7_partRead_51 (fun H locs hP _ hS => ?_)
    have hP : va_P (dC, dI) vwCl (zM k q (sI z 13 x_8)) H := hP
    refine lv_aload_n hx hb dX7_partRead_54 rfl (lv_at hl 0 rfl) ?_
    refine lv_iconst (v := 0) hx hb dX7_partRead_55 (by decide) ?_
    refine lv_bipush (v := 20) hx hb dX7_partRead_56 (by decide) ?_
    refine zcA_i (w := (zM k q (sI z 13 x_8))) (va_runV (As := [.int 0, .int 20]) (rest := []) ⟨hx, hb, hml, hown, htb⟩ (c_X7_number l dC dI k q (sI z 13 x_8) 0 20 _ (show 0 ≤ (z.1 12).toInt ∧ (z.1 12).toInt < 4 by omega) hm4 (show 0 ≤ x_8.toInt ∧ x_8.toInt ≤ 900 by omega)) (cwV 2 htb (gzV wmt4_89 wmt4_91 wmp2_10 wmt1_8 wmt4_92) rfl rfl rfl (by decide +kernel) ⟨Nat.le_of_ble_eq_true rfl, Nat.le_of_ble_eq_true rfl⟩) (zpA_V (ci := 7) (q0 := 0) hK hP (hDa _) rfl rfl) rfl rfl hl.1 rfl (lv_room (Nat.le_of_ble_eq_true rfl)) dX7_partRead_58 ⟨Nat.le_of_ble_eq_true rfl, Nat.le_of_ble_eq_true rfl⟩) (hDa _) hS hA (fun r_9 u_10 H locs w_11 hP _ hS => ?_)
    obtain ⟨oat_12, ofa_13⟩ := u_10
    have hP : va_P (dC, dI) vwCl (zM k q (sI (sI z 13 oat_12) 14 ofa_13)) H := hP
    obtain ⟨h_14, h_15, h_16, h_17, h_18⟩ := w_11
    replace h_14 : 0 ≤ r_9.toInt ∧ r_9.toInt ≤ 99 := h_14
    replace h_15 : (x_8).toInt ≤ oat_12.toInt ∧ oat_12.toInt ≤ (x_8).toInt + 2 := h_15
    replace h_16 : ((z.1 14)).toInt = -1 ∨ ofa_13 = (z.1 14) := h_16
    replace h_17 : ofa_13.toInt = -1 → ((z.1 14)).toInt = -1 ∧ (x_8).toInt < oat_12.toInt ∧ oat_12.toInt ≤ ((z.2.2.1 2) ((z.1 12)).toNatClampNeg).toInt ∧ (0 : Int32).toInt ≤ r_9.toInt ∧ r_9.toInt ≤ (20 : Int32).toInt := h_17
    rw [show (0 : Int32).toInt = 0 by decide, show (20 : Int32).toInt = 20 by decide] at h_17
    replace h_18 : ((z.1 14)).toInt = -1 → oat_12.toInt = (x_8).toInt + nC (bRf ((z.2.2.1 2)) ((z.2.2.1 3)) ((z.1 12)).toNatClampNeg) (x_8).toInt ∧ r_9.toInt = nV (bRf ((z.2.2.1 2)) ((z.2.2.1 3)) ((z.1 12)).toNatClampNeg) (x_8).toInt ∧ ((¬ nC (bRf ((z.2.2.1 2)) ((z.2.2.1 3)) ((z.1 12)).toNatClampNeg) (x_8).toInt = 0 ∧ (0 : Int32).toInt ≤ nV (bRf ((z.2.2.1 2)) ((z.2.2.1 3)) ((z.1 12)).toNatClampNeg) (x_8).toInt ∧ nV (bRf ((z.2.2.1 2)) ((z.2.2.1 3)) ((z.1 12)).toNatClampNeg) (x_8).toInt ≤ (20 : Int32).toInt) ∧ ofa_13.toInt = -1 ∨ ¬ (¬ nC (bRf ((z.2.2.1 2)) ((z.2.2.1 3)) ((z.1 12)).toNatClampNeg) (x_8).toInt = 0 ∧ (0 : Int32).toInt ≤ nV (bRf ((z.2.2.1 2)) ((z.2.2.1 3)) ((z.1 12)).toNatClampNeg) (x_8).toInt ∧ nV (bRf ((z.2.2.1 2)) ((z.2.2.1 3)) ((z.1 12)).toNatClampNeg) (x_8).toInt ≤ (20 : Int32).toInt) ∧ ofa_13.toInt = (x_8).toInt) := h_18
    rw [show (0 : Int32).toInt = 0 by decide, show (20 : Int32).toInt = 20 by decide] at h_18
    have hnaa := h_14
    have hnab := h_15
    have hnac := h_16
    have hnad := h_17
    have hnae := h_18
    rw [show x_8.toInt = ((z.1 13).toInt + 1) by omega] at hnae
    have hnan := nC_b (B := bRf (z.2.2.1 2) (z.2.2.1 3) (z.1 12).toNatClampNeg) (a := ((z.1 13).toInt + 1))
    refine lv_istore_n (lv' := [(2, .int r_9), (0, .ref (q 0)), (1, .int bb)]) hx hb dX7_partRead_61 rfl hl (by decide) rfl (fun ls hl => ?_)
    refine z_join2 (dC := dC) (dI := dI) (A := A) (H0 := s.heap) (nL := 4) (α := Int32) (Inv := fun x => ((x.toInt = -1 ∧ ¬ nC (bRf (z.2.2.1 2) (z.2.2.1 3) (z.1 12).toNatClampNeg) ((z.1 13).toInt + 1) = 0 ∧ nV (bRf (z.2.2.1 2) (z.2.2.1 3) (z.1 12).toNatClampNeg) ((z.1 13).toInt + 1) ≤ 20 ∧ bRf (z.2.2.1 2) (z.2.2.1 3) (z.1 12).toNatClampNeg (a2 (bRf (z.2.2.1 2) (z.2.2.1 3) (z.1 12).toNatClampNeg) (z.1 13).toInt) = 47) ∨ (¬ x.toInt = -1 ∧ x.toInt = pX (bRf (z.2.2.1 2) (z.2.2.1 3) (z.1 12).toNatClampNeg) (z.1 13).toInt)) ∧ (x.toInt = -1 → ofa_13.toInt = -1 ∧ oat_12.toInt < (z.2.2.1 2 (z.1 12).toNatClampNeg).toInt)) (lv2 := fun x => [(0, .ref (q 0)), (1, .int bb), (2, .int r_9)]) (st2 := fun _ => []) (w2 := fun x => (zM k q (sI (sI z 13 oat_12) 14 x))) 87 (fun x H locs ls hinv hP hS hl => ?_) (fun hj87 => ?_)
    · skip
      obtain ⟨fa1, rfl⟩ : ∃ y, y = x := ⟨_, rfl⟩
      obtain ⟨hfa1, hfa2⟩ := hinv
      replace hfa1 : (fa1.toInt = -1 ∧ ¬ nC (bRf (z.2.2.1 2) (z.2.2.1 3) (z.1 12).toNatClampNeg) ((z.1 13).toInt + 1) = 0 ∧ nV (bRf (z.2.2.1 2) (z.2.2.1 3) (z.1 12).toNatClampNeg) ((z.1 13).toInt + 1) ≤ 20 ∧ bRf (z.2.2.1 2) (z.2.2.1 3) (z.1 12).toNatClampNeg (a2 (bRf (z.2.2.1 2) (z.2.2.1 3) (z.1 12).toNatClampNeg) (z.1 13).toInt) = 47) ∨ (¬ fa1.toInt = -1 ∧ fa1.toInt = pX (bRf (z.2.2.1 2) (z.2.2.1 3) (z.1 12).toNatClampNeg) (z.1 13).toInt) := hfa1
      replace hfa2 : fa1.toInt = -1 → ofa_13.toInt = -1 ∧ oat_12.toInt < (z.2.2.1 2 (z.1 12).toNatClampNeg).toInt := hfa2
      have hP : va_P (dC, dI) vwCl (zM k q (sI (sI z 13 oat_12) 14 fa1)) H := hP
      have hl : lv_has ls 4 [(0, .ref (q 0)), (1, .int bb), (2, .int r_9)] := hl
      refine lv_aload_n hx hb dX7_partRead_87 rfl (lv_at hl 0 rfl) ?_
      refine lv_dup hx hb dX7_partRead_88 rfl ?_
      refine va_get (D := (dC, dI)) (ci := 7) (v := .int oat_12) (C := RX7) (T := TX7) (N := 42) hx hb htb inw7 hown hK.1 hP 0 rfl rfl 13 (by decide) (htb _ wmt3_180) (fun _ h9 => h9) rfl dX7_partRead_89 ?_
      refine lv_iconst (v := 1) hx hb dX7_partRead_92 (by decide) ?_
      refine lv_iadd hx hb dX7_partRead_93 ?_
      refine lv_topi (fun x_20 ex_20 => ?_)
      have hx_20 := z_add ex_20 rfl (show (1 : Int32).toInt = 1 by decide) (by omega)
      refine va_put (D := (dC, dI)) (ci := 7) (v := .int x_20) (ty := .int) (C := RX7) (T := TX7) (N := 42) hx hb htb inw7 tyX7 tyX7_ok nmX7 hown hK.1 hP (hDa _) hS 0 rfl rfl 13 (by decide) (htb _ wmt3_180) (fun _ h9 => h9) rfl (by decide +kernel) rfl rfl (Nat.le_of_ble_eq_true rfl) dX7_partRead_94 (fun H locs hP _ hS => ?_)
      have hP : va_P (dC, dI) vwCl (zM k q (sI (sI z 14 fa1) 13 x_20)) H := hP
      refine lv_aload_n hx hb dX7_partRead_97 rfl (lv_at hl 0 rfl) ?_
      refine lv_iload_n hx hb dX7_partRead_98 rfl (lv_at hl 2 rfl) ?_
      refine lv_iconst (v := 1) hx hb dX7_partRead_99 (by decide) ?_
      refine lv_icmp_ge (tgt := 107) hx hb dX7_partRead_100 (by decide) (fun c_21 => ?_) (fun c_21 => ?_)
      · skip
        have hc_21 := zb_le (show (1 : Int32).toInt = 1 by decide) rfl c_21
        refine lv_iload_n hx hb dX7_partRead_107 rfl (lv_at hl 2 rfl) ?_
        refine lv_bipush (v := 20) hx hb dX7_partRead_108 (by decide) ?_
        refine zcA_i (w := (zM k q (sI (sI z 14 fa1) 13 x_20))) (va_runV (As := [.int r_9, .int 20]) (rest := []) ⟨hx, hb, hml, hown, htb⟩ (c_X7_number l dC dI k q (sI (sI z 14 fa1) 13 x_20) r_9 20 _ (show 0 ≤ (z.1 12).toInt ∧ (z.1 12).toInt < 4 by omega) hm4 (show 0 ≤ x_20.toInt ∧ x_20.toInt ≤ 900 by omega)) (cwV 2 htb (gzV wmt4_89 wmt4_91 wmp2_10 wmt1_8 wmt4_92) rfl rfl rfl (by decide +kernel) ⟨Nat.le_of_ble_eq_true rfl, Nat.le_of_ble_eq_true rfl⟩) (zpA_V (ci := 7) (q0 := 0) hK hP (hDa _) rfl rfl) rfl rfl hl.1 rfl (lv_room (Nat.le_of_ble_eq_true rfl)) dX7_partRead_110 ⟨Nat.le_of_ble_eq_true rfl, Nat.le_of_ble_eq_true rfl⟩) (hDa _) hS hA (fun r_22 u_23 H locs w_24 hP _ hS => ?_)
        obtain ⟨oat_25, ofa_26⟩ := u_23
        have hP : va_P (dC, dI) vwCl (zM k q (sI (sI z 13 oat_25) 14 ofa_26)) H := hP
        obtain ⟨h_27, h_28, h_29, h_30, h_31⟩ := w_24
        replace h_27 : 0 ≤ r_22.toInt ∧ r_22.toInt ≤ 99 := h_27
        replace h_28 : (x_20).toInt ≤ oat_25.toInt ∧ oat_25.toInt ≤ (x_20).toInt + 2 := h_28
        replace h_29 : (fa1).toInt = -1 ∨ ofa_26 = fa1 := h_29
        replace h_30 : ofa_26.toInt = -1 → (fa1).toInt = -1 ∧ (x_20).toInt < oat_25.toInt ∧ oat_25.toInt ≤ ((z.2.2.1 2) ((z.1 12)).toNatClampNeg).toInt ∧ r_9.toInt ≤ r_22.toInt ∧ r_22.toInt ≤ (20 : Int32).toInt := h_30
        rw [show (20 : Int32).toInt = 20 by decide] at h_30
        replace h_31 : (fa1).toInt = -1 → oat_25.toInt = (x_20).toInt + nC (bRf ((z.2.2.1 2)) ((z.2.2.1 3)) ((z.1 12)).toNatClampNeg) (x_20).toInt ∧ r_22.toInt = nV (bRf ((z.2.2.1 2)) ((z.2.2.1 3)) ((z.1 12)).toNatClampNeg) (x_20).toInt ∧ ((¬ nC (bRf ((z.2.2.1 2)) ((z.2.2.1 3)) ((z.1 12)).toNatClampNeg) (x_20).toInt = 0 ∧ r_9.toInt ≤ nV (bRf ((z.2.2.1 2)) ((z.2.2.1 3)) ((z.1 12)).toNatClampNeg) (x_20).toInt ∧ nV (bRf ((z.2.2.1 2)) ((z.2.2.1 3)) ((z.1 12)).toNatClampNeg) (x_20).toInt ≤ (20 : Int32).toInt) ∧ ofa_26.toInt = -1 ∨ ¬ (¬ nC (bRf ((z.2.2.1 2)) ((z.2.2.1 3)) ((z.1 12)).toNatClampNeg) (x_20).toInt = 0 ∧ r_9.toInt ≤ nV (bRf ((z.2.2.1 2)) ((z.2.2.1 3)) ((z.1 12)).toNatClampNeg) (x_20).toInt ∧ nV (bRf ((z.2.2.1 2)) ((z.2.2.1 3)) ((z.1 12)).toNatClampNeg) (x_20).toInt ≤ (20 : Int32).toInt) ∧ ofa_26.toInt = (x_20).toInt) := h_31
        rw [show (20 : Int32).toInt = 20 by decide] at h_31
        have hnba := h_27
        have hnbb := h_28
        have hnbc := h_29
        have hnbd := h_30
        have hnbe := h_31
        rw [show x_20.toInt = (a2 (bRf (z.2.2.1 2) (z.2.2.1 3) (z.1 12).toNatClampNeg) (z.1 13).toInt + 1) by unfold a2; omega] at hnbe
        have hnbn := nC_b (B := bRf (z.2.2.1 2) (z.2.2.1 3) (z.1 12).toNatClampNeg) (a := (a2 (bRf (z.2.2.1 2) (z.2.2.1 3) (z.1 12).toNatClampNeg) (z.1 13).toInt + 1))
        refine lv_istore_n (lv' := [(3, .int r_22), (0, .ref (q 0)), (1, .int bb), (2, .int r_9)]) hx hb dX7_partRead_113 rfl hl (by decide) rfl (fun ls hl => ?_)
        refine lv_aload_n hx hb dX7_partRead_114 rfl (lv_at hl 1 rfl) ?_
        refine va_get (D := (dC, dI)) (ci := 7) (v := .int ofa_26) (C := RX7) (T := TX7) (N := 42) hx hb htb inw7 hown hK.1 hP 0 rfl rfl 14 (by decide) (htb _ wmt3_181) (fun _ h9 => h9) rfl dX7_partRead_115 ?_
        refine lv_iconst (v := (-1)) hx hb dX7_partRead_118 (by decide) ?_
        refine lv_icmp_ne (tgt := 162) hx hb dX7_partRead_119 (by decide) (fun c_33 => ?_) (fun c_33 => ?_)
        · skip
          have hc_33 := zb_ne rfl (show ((-1) : Int32).toInt = (-1) by decide) c_33
          exact W.vret hx hb hr (fun t ht hW => ⟨⟨(oat_25, ofa_26, z.1 15, z.2.2.1 16, z.2.2.1 17, z.2.2.1 18), rfl, (show (PT (z.1 15) (z.2.2.1 17) (z.2.2.1 18)) ∧ (4 * (z.1 15).toInt ≤ oat_25.toInt) ∧ ((z.1 13).toInt ≤ oat_25.toInt ∧ oat_25.toInt ≤ (z.1 13).toInt + 6) ∧ (ofa_26.toInt = -1 → (z.1 13).toInt < oat_25.toInt ∧ oat_25.toInt ≤ (z.2.2.1 2 (z.1 12).toNatClampNeg).toInt) ∧ (ofa_26.toInt = pX (bRf (z.2.2.1 2) (z.2.2.1 3) (z.1 12).toNatClampNeg) (z.1 13).toInt) ∧ (ofa_26.toInt = -1 → oat_25.toInt = a3 (bRf (z.2.2.1 2) (z.2.2.1 3) (z.1 12).toNatClampNeg) (z.1 13).toInt ∧ (z.1 15).toInt = (z.1 15).toInt + 1 ∧ ((z.2.2.1 16) (z.1 15).toNatClampNeg).toInt = bRf (z.2.2.1 2) (z.2.2.1 3) (z.1 12).toNatClampNeg (z.1 13).toInt ∧ ((z.2.2.1 17) (z.1 15).toNatClampNeg).toInt = nV (bRf (z.2.2.1 2) (z.2.2.1 3) (z.1 12).toNatClampNeg) ((z.1 13).toInt + 1) ∧ ((z.2.2.1 18) (z.1 15).toNatClampNeg).toInt = nV (bRf (z.2.2.1 2) (z.2.2.1 3) (z.1 12).toNatClampNeg) (a2 (bRf (z.2.2.1 2) (z.2.2.1 3) (z.1 12).toNatClampNeg) (z.1 13).toInt + 1) ∧ (∀ k : Nat, k ≠ (z.1 15).toNatClampNeg → (z.2.2.1 16) k = z.2.2.1 16 k ∧ (z.2.2.1 17) k = z.2.2.1 17 k ∧ (z.2.2.1 18) k = z.2.2.1 18 k)) from ⟨hpt, by omega, by omega, fun q9 => by omega, by rcases hfa1 with q8 | q8; exact (by rw [pX_4 hbb.2 (show ¬ (nC (bRf (z.2.2.1 2) (z.2.2.1 3) (z.1 12).toNatClampNeg) ((z.1 13).toInt + 1) = 0 ∨ 20 < nV (bRf (z.2.2.1 2) (z.2.2.1 3) (z.1 12).toNatClampNeg) ((z.1 13).toInt + 1)) by omega) (show bRf (z.2.2.1 2) (z.2.2.1 3) (z.1 12).toNatClampNeg (a2 (bRf (z.2.2.1 2) (z.2.2.1 3) (z.1 12).toNatClampNeg) (z.1 13).toInt) = 47 by omega) (by omega)]; omega); exact (by rcases hnbc with q7 | q7; omega; rw [q7]; exact q8.2), fun q9 => by omega⟩), ⟨by rw [ht]; exact hP, hDa _⟩⟩, hS.F ht⟩) hS.2.2 dX7_partRead_162
        · skip
          have hc_33 := zb_eq rfl (show ((-1) : Int32).toInt = (-1) by decide) c_33
          refine lv_aload_n hx hb dX7_partRead_122 rfl (lv_at hl 1 rfl) ?_
          refine va_get (D := (dC, dI)) (ci := 7) (v := .ref (q 16)) (C := RX7) (T := TX7) (N := 42) hx hb htb inw7 hown hK.1 hP 0 rfl rfl 16 (by decide) (htb _ wmt3_183) (fun _ h9 => h9) rfl dX7_partRead_123 ?_
          refine lv_aload_n hx hb dX7_partRead_126 rfl (lv_at hl 1 rfl) ?_
          refine va_get (D := (dC, dI)) (ci := 7) (v := .int (z.1 15)) (C := RX7) (T := TX7) (N := 42) hx hb htb inw7 hown hK.1 hP 0 rfl rfl 15 (by decide) (htb _ wmt3_182) (fun _ h9 => h9) rfl dX7_partRead_127 ?_
          refine lv_topi (fun x_34 ex_34 => ?_)
          have hx_34 : x_34.toInt = (z.1 15).toInt := by rw [ex_34]
          refine lv_iload_n hx hb dX7_partRead_130 rfl (lv_at hl 2 rfl) ?_
          refine va_iast (D := (dC, dI)) hx hb hK.1 hP (hDa _) hS 10 0 rfl rfl (z_in (by omega)) dX7_partRead_131 (fun H locs hP _ hS => ?_)
          obtain ⟨f_35, ef_35⟩ : ∃ x : Nat → Int32, x = upd (z.2.2.1 16) x_34.toNatClampNeg bb := ⟨_, rfl⟩
          have hP : va_P (dC, dI) vwCl (zM k q (sA (sI (sI z 13 oat_25) 14 ofa_26) 16 f_35)) H := by rw [ef_35]; exact hP
          refine lv_aload_n hx hb dX7_partRead_132 rfl (lv_at hl 1 rfl) ?_
          refine va_get (D := (dC, dI)) (ci := 7) (v := .ref (q 17)) (C := RX7) (T := TX7) (N := 42) hx hb htb inw7 hown hK.1 hP 0 rfl rfl 17 (by decide) (htb _ wmt3_184) (fun _ h9 => h9) rfl dX7_partRead_133 ?_
          refine lv_aload_n hx hb dX7_partRead_136 rfl (lv_at hl 1 rfl) ?_
          refine va_get (D := (dC, dI)) (ci := 7) (v := .int (z.1 15)) (C := RX7) (T := TX7) (N := 42) hx hb htb inw7 hown hK.1 hP 0 rfl rfl 15 (by decide) (htb _ wmt3_182) (fun _ h9 => h9) rfl dX7_partRead_137 ?_
          refine z_top (v2 := .int x_34) (congrArg Value.int ex_34.symm) ?_
          refine lv_iload_n hx hb dX7_partRead_140 rfl (lv_at hl 3 rfl) ?_
          refine va_iast (D := (dC, dI)) hx hb hK.1 hP (hDa _) hS 11 0 rfl rfl (z_in (by omega)) dX7_partRead_141 (fun H locs hP _ hS => ?_)
          obtain ⟨f_36, ef_36⟩ : ∃ x : Nat → Int32, x = upd (z.2.2.1 17) x_34.toNatClampNeg r_9 := ⟨_, rfl⟩
          have hP : va_P (dC, dI) vwCl (zM k q (sA (sA (sI (sI z 13 oat_25) 14 ofa_26) 16 f_35) 17 f_36)) H := by rw [ef_36]; exact hP
          refine lv_aload_n hx hb dX7_partRead_142 rfl (lv_at hl 1 rfl) ?_
          refine va_get (D := (dC, dI)) (ci := 7) (v := .ref (q 18)) (C := RX7) (T := TX7) (N := 42) hx hb htb inw7 hown hK.1 hP 0 rfl rfl 18 (by decide) (htb _ wmt3_185) (fun _ h9 => h9) rfl dX7_partRead_143 ?_
          refine lv_aload_n hx hb dX7_partRead_146 rfl (lv_at hl 1 rfl) ?_
          refine va_get (D := (dC, dI)) (ci := 7) (v := .int (z.1 15)) (C := RX7) (T := TX7) (N := 42) hx hb htb inw7 hown hK.1 hP 0 rfl rfl 15 (by decide) (htb _ wmt3_182) (fun _ h9 => h9) rfl dX7_partRead_147 ?_
          refine z_top (v2 := .int x_34) (congrArg Value.int ex_34.symm) ?_
          refine lv_iload_n hx hb dX7_partRead_150 rfl (lv_at hl 0 rfl) ?_
          refine va_iast (D := (dC, dI)) hx hb hK.1 hP (hDa _) hS 12 0 rfl rfl (z_in (by omega)) dX7_partRead_151 (fun H locs hP _ hS => ?_)
          obtain ⟨f_37, ef_37⟩ : ∃ x : Nat → Int32, x = upd (z.2.2.1 18) x_34.toNatClampNeg r_22 := ⟨_, rfl⟩
          have hP : va_P (dC, dI) vwCl (zM k q (sA (sA (sA (sI (sI z 13 oat_25) 14 ofa_26) 16 f_35) 17 f_36) 18 f_37)) H := by rw [ef_37]; exact hP
          refine lv_aload_n hx hb dX7_partRead_152 rfl (lv_at hl 1 rfl) ?_
          refine lv_dup hx hb dX7_partRead_153 rfl ?_
          refine va_get (D := (dC, dI)) (ci := 7) (v := .int (z.1 15)) (C := RX7) (T := TX7) (N := 42) hx hb htb inw7 hown hK.1 hP 0 rfl rfl 15 (by decide) (htb _ wmt3_182) (fun _ h9 => h9) rfl dX7_partRead_154 ?_
          refine z_top (v2 := .int x_34) (congrArg Value.int ex_34.symm) ?_
          refine lv_iconst (v := 1) hx hb dX7_partRead_157 (by decide) ?_
          refine lv_iadd hx hb dX7_partRead_158 ?_
          refine lv_topi (fun x_38 ex_38 => ?_)
          have hx_38 : x_38.toInt = (z.1 15).toInt + 1 := z_add ex_38 hx_34 (show (1 : Int32).toInt = 1 by decide) (by omega)
          refine va_put (D := (dC, dI)) (ci := 7) (v := .int x_38) (ty := .int) (C := RX7) (T := TX7) (N := 42) hx hb htb inw7 tyX7 tyX7_ok nmX7 hown hK.1 hP (hDa _) hS 0 rfl rfl 15 (by decide) (htb _ wmt3_182) (fun _ h9 => h9) rfl (by decide +kernel) rfl rfl (Nat.le_of_ble_eq_true rfl) dX7_partRead_159 (fun H locs hP _ hS => ?_)
          have hP : va_P (dC, dI) vwCl (zM k q (sI (sA (sA (sA (sI (sI z 13 oat_25) 14 ofa_26) 16 f_35) 17 f_36) 18 f_37) 15 x_38)) H := hP
          exact W.vret hx hb hr (fun t ht hW => ⟨⟨(oat_25, ofa_26, x_38, f_35, f_36, f_37), rfl, (show (PT x_38 f_36 f_37) ∧ (4 * x_38.toInt ≤ oat_25.toInt) ∧ ((z.1 13).toInt ≤ oat_25.toInt ∧ oat_25.toInt ≤ (z.1 13).toInt + 6) ∧ (ofa_26.toInt = -1 → (z.1 13).toInt < oat_25.toInt ∧ oat_25.toInt ≤ (z.2.2.1 2 (z.1 12).toNatClampNeg).toInt) ∧ (ofa_26.toInt = pX (bRf (z.2.2.1 2) (z.2.2.1 3) (z.1 12).toNatClampNeg) (z.1 13).toInt) ∧ (ofa_26.toInt = -1 → oat_25.toInt = a3 (bRf (z.2.2.1 2) (z.2.2.1 3) (z.1 12).toNatClampNeg) (z.1 13).toInt ∧ x_38.toInt = (z.1 15).toInt + 1 ∧ (f_35 (z.1 15).toNatClampNeg).toInt = bRf (z.2.2.1 2) (z.2.2.1 3) (z.1 12).toNatClampNeg (z.1 13).toInt ∧ (f_36 (z.1 15).toNatClampNeg).toInt = nV (bRf (z.2.2.1 2) (z.2.2.1 3) (z.1 12).toNatClampNeg) ((z.1 13).toInt + 1) ∧ (f_37 (z.1 15).toNatClampNeg).toInt = nV (bRf (z.2.2.1 2) (z.2.2.1 3) (z.1 12).toNatClampNeg) (a2 (bRf (z.2.2.1 2) (z.2.2.1 3) (z.1 12).toNatClampNeg) (z.1 13).toInt + 1) ∧ (∀ k : Nat, k ≠ (z.1 15).toNatClampNeg → f_35 k = z.2.2.1 16 k ∧ f_36 k = z.2.2.1 17 k ∧ f_37 k = z.2.2.1 18 k)) from (by subst ex_34; exact ⟨PT_step hpt (by omega) ex_38 ef_36 ef_37 ⟨by omega, by omega, by omega, by omega⟩, by omega, by omega, fun _ => ⟨by omega, by omega⟩, by rw [pX_5 hbb.2 (show ¬ (nC (bRf (z.2.2.1 2) (z.2.2.1 3) (z.1 12).toNatClampNeg) ((z.1 13).toInt + 1) = 0 ∨ 20 < nV (bRf (z.2.2.1 2) (z.2.2.1 3) (z.1 12).toNatClampNeg) ((z.1 13).toInt + 1)) by omega) (show bRf (z.2.2.1 2) (z.2.2.1 3) (z.1 12).toNatClampNeg (a2 (bRf (z.2.2.1 2) (z.2.2.1 3) (z.1 12).toNatClampNeg) (z.1 13).toInt) = 47 by omega) (show ¬ (_ ∨ _ ∨ _ ∨ _) by omega)]; omega, fun _ => ⟨by unfold a3; omega, by omega, by rw [ef_35, pk_us]; exact hbb.1, by rw [ef_36, pk_us]; omega, by rw [ef_37, pk_us]; omega, fun k hk => ⟨by rw [ef_35, pk_un hk], by rw [ef_36, pk_un hk], by rw [ef_37, pk_un hk]⟩⟩⟩)), ⟨by rw [ht]; exact hP, hDa _⟩⟩, hS.F ht⟩) hS.2.2 dX7_partRead_162
      · skip
        have hc_21 := zb_nle (show (1 : Int32).toInt = 1 by decide) rfl c_21
        refine lv_iconst (v := 1) hx hb dX7_partRead_103 (by decide) ?_
        refine lv_goto (tgt := 108) hx hb dX7_partRead_104 (by decide) ?_
        refine lv_bipush (v := 20) hx hb dX7_partRead_108 (by decide) ?_
        refine zcA_i (w := (zM k q (sI (sI z 14 fa1) 13 x_20))) (va_runV (As := [.int 1, .int 20]) (rest := []) ⟨hx, hb, hml, hown, htb⟩ (c_X7_number l dC dI k q (sI (sI z 14 fa1) 13 x_20) 1 20 _ (show 0 ≤ (z.1 12).toInt ∧ (z.1 12).toInt < 4 by omega) hm4 (show 0 ≤ x_20.toInt ∧ x_20.toInt ≤ 900 by omega)) (cwV 2 htb (gzV wmt4_89 wmt4_91 wmp2_10 wmt1_8 wmt4_92) rfl rfl rfl (by decide +kernel) ⟨Nat.le_of_ble_eq_true rfl, Nat.le_of_ble_eq_true rfl⟩) (zpA_V (ci := 7) (q0 := 0) hK hP (hDa _) rfl rfl) rfl rfl hl.1 rfl (lv_room (Nat.le_of_ble_eq_true rfl)) dX7_partRead_110 ⟨Nat.le_of_ble_eq_true rfl, Nat.le_of_ble_eq_true rfl⟩) (hDa _) hS hA (fun r_39 u_40 H locs w_41 hP _ hS => ?_)
        obtain ⟨oat_42, ofa_43⟩ := u_40
        have hP : va_P (dC, dI) vwCl (zM k q (sI (sI z 13 oat_42) 14 ofa_43)) H := hP
        obtain ⟨h_44, h_45, h_46, h_47, h_48⟩ := w_41
        replace h_44 : 0 ≤ r_39.toInt ∧ r_39.toInt ≤ 99 := h_44
        replace h_45 : (x_20).toInt ≤ oat_42.toInt ∧ oat_42.toInt ≤ (x_20).toInt + 2 := h_45
        replace h_46 : (fa1).toInt = -1 ∨ ofa_43 = fa1 := h_46
        replace h_47 : ofa_43.toInt = -1 → (fa1).toInt = -1 ∧ (x_20).toInt < oat_42.toInt ∧ oat_42.toInt ≤ ((z.2.2.1 2) ((z.1 12)).toNatClampNeg).toInt ∧ (1 : Int32).toInt ≤ r_39.toInt ∧ r_39.toInt ≤ (20 : Int32).toInt := h_47
        rw [show (1 : Int32).toInt = 1 by decide, show (20 : Int32).toInt = 20 by decide] at h_47
        replace h_48 : (fa1).toInt = -1 → oat_42.toInt = (x_20).toInt + nC (bRf ((z.2.2.1 2)) ((z.2.2.1 3)) ((z.1 12)).toNatClampNeg) (x_20).toInt ∧ r_39.toInt = nV (bRf ((z.2.2.1 2)) ((z.2.2.1 3)) ((z.1 12)).toNatClampNeg) (x_20).toInt ∧ ((¬ nC (bRf ((z.2.2.1 2)) ((z.2.2.1 3)) ((z.1 12)).toNatClampNeg) (x_20).toInt = 0 ∧ (1 : Int32).toInt ≤ nV (bRf ((z.2.2.1 2)) ((z.2.2.1 3)) ((z.1 12)).toNatClampNeg) (x_20).toInt ∧ nV (bRf ((z.2.2.1 2)) ((z.2.2.1 3)) ((z.1 12)).toNatClampNeg) (x_20).toInt ≤ (20 : Int32).toInt) ∧ ofa_43.toInt = -1 ∨ ¬ (¬ nC (bRf ((z.2.2.1 2)) ((z.2.2.1 3)) ((z.1 12)).toNatClampNeg) (x_20).toInt = 0 ∧ (1 : Int32).toInt ≤ nV (bRf ((z.2.2.1 2)) ((z.2.2.1 3)) ((z.1 12)).toNatClampNeg) (x_20).toInt ∧ nV (bRf ((z.2.2.1 2)) ((z.2.2.1 3)) ((z.1 12)).toNatClampNeg) (x_20).toInt ≤ (20 : Int32).toInt) ∧ ofa_43.toInt = (x_20).toInt) := h_48
        rw [show (1 : Int32).toInt = 1 by decide, show (20 : Int32).toInt = 20 by decide] at h_48
        have hnba := h_44
        have hnbb := h_45
        have hnbc := h_46
        have hnbd := h_47
        have hnbe := h_48
        rw [show x_20.toInt = (a2 (bRf (z.2.2.1 2) (z.2.2.1 3) (z.1 12).toNatClampNeg) (z.1 13).toInt + 1) by unfold a2; omega] at hnbe
        have hnbn := nC_b (B := bRf (z.2.2.1 2) (z.2.2.1 3) (z.1 12).toNatClampNeg) (a := (a2 (bRf (z.2.2.1 2) (z.2.2.1 3) (z.1 12).toNatClampNeg) (z.1 13).toInt + 1))
        refine lv_istore_n (lv' := [(3, .int r_39), (0, .ref (q 0)), (1, .int bb), (2, .int r_9)]) hx hb dX7_partRead_113 rfl hl (by decide) rfl (fun ls hl => ?_)
        refine lv_aload_n hx hb dX7_partRead_114 rfl (lv_at hl 1 rfl) ?_
        refine va_get (D := (dC, dI)) (ci := 7) (v := .int ofa_43) (C := RX7) (T := TX7) (N := 42) hx hb htb inw7 hown hK.1 hP 0 rfl rfl 14 (by decide) (htb _ wmt3_181) (fun _ h9 => h9) rfl dX7_partRead_115 ?_
        refine lv_iconst (v := (-1)) hx hb dX7_partRead_118 (by decide) ?_
        refine lv_icmp_ne (tgt := 162) hx hb dX7_partRead_119 (by decide) (fun c_50 => ?_) (fun c_50 => ?_)
        · skip
          have hc_50 := zb_ne rfl (show ((-1) : Int32).toInt = (-1) by decide) c_50
          exact W.vret hx hb hr (fun t ht hW => ⟨⟨(oat_42, ofa_43, z.1 15, z.2.2.1 16, z.2.2.1 17, z.2.2.1 18), rfl, (show (PT (z.1 15) (z.2.2.1 17) (z.2.2.1 18)) ∧ (4 * (z.1 15).toInt ≤ oat_42.toInt) ∧ ((z.1 13).toInt ≤ oat_42.toInt ∧ oat_42.toInt ≤ (z.1 13).toInt + 6) ∧ (ofa_43.toInt = -1 → (z.1 13).toInt < oat_42.toInt ∧ oat_42.toInt ≤ (z.2.2.1 2 (z.1 12).toNatClampNeg).toInt) ∧ (ofa_43.toInt = pX (bRf (z.2.2.1 2) (z.2.2.1 3) (z.1 12).toNatClampNeg) (z.1 13).toInt) ∧ (ofa_43.toInt = -1 → oat_42.toInt = a3 (bRf (z.2.2.1 2) (z.2.2.1 3) (z.1 12).toNatClampNeg) (z.1 13).toInt ∧ (z.1 15).toInt = (z.1 15).toInt + 1 ∧ ((z.2.2.1 16) (z.1 15).toNatClampNeg).toInt = bRf (z.2.2.1 2) (z.2.2.1 3) (z.1 12).toNatClampNeg (z.1 13).toInt ∧ ((z.2.2.1 17) (z.1 15).toNatClampNeg).toInt = nV (bRf (z.2.2.1 2) (z.2.2.1 3) (z.1 12).toNatClampNeg) ((z.1 13).toInt + 1) ∧ ((z.2.2.1 18) (z.1 15).toNatClampNeg).toInt = nV (bRf (z.2.2.1 2) (z.2.2.1 3) (z.1 12).toNatClampNeg) (a2 (bRf (z.2.2.1 2) (z.2.2.1 3) (z.1 12).toNatClampNeg) (z.1 13).toInt + 1) ∧ (∀ k : Nat, k ≠ (z.1 15).toNatClampNeg → (z.2.2.1 16) k = z.2.2.1 16 k ∧ (z.2.2.1 17) k = z.2.2.1 17 k ∧ (z.2.2.1 18) k = z.2.2.1 18 k)) from ⟨hpt, by omega, by omega, fun q9 => by omega, by rcases hfa1 with q8 | q8; exact (by rw [pX_4 hbb.2 (show ¬ (nC (bRf (z.2.2.1 2) (z.2.2.1 3) (z.1 12).toNatClampNeg) ((z.1 13).toInt + 1) = 0 ∨ 20 < nV (bRf (z.2.2.1 2) (z.2.2.1 3) (z.1 12).toNatClampNeg) ((z.1 13).toInt + 1)) by omega) (show bRf (z.2.2.1 2) (z.2.2.1 3) (z.1 12).toNatClampNeg (a2 (bRf (z.2.2.1 2) (z.2.2.1 3) (z.1 12).toNatClampNeg) (z.1 13).toInt) = 47 by omega) (by omega)]; omega); exact (by rcases hnbc with q7 | q7; omega; rw [q7]; exact q8.2), fun q9 => by omega⟩), ⟨by rw [ht]; exact hP, hDa _⟩⟩, hS.F ht⟩) hS.2.2 dX7_partRead_162
        · skip
          have hc_50 := zb_eq rfl (show ((-1) : Int32).toInt = (-1) by decide) c_50
          refine lv_aload_n hx hb dX7_partRead_122 rfl (lv_at hl 1 rfl) ?_
          refine va_get (D := (dC, dI)) (ci := 7) (v := .ref (q 16)) (C := RX7) (T := TX7) (N := 42) hx hb htb inw7 hown hK.1 hP 0 rfl rfl 16 (by decide) (htb _ wmt3_183) (fun _ h9 => h9) rfl dX7_partRead_123 ?_
          refine lv_aload_n hx hb dX7_partRead_126 rfl (lv_at hl 1 rfl) ?_
          refine va_get (D := (dC, dI)) (ci := 7) (v := .int (z.1 15)) (C := RX7) (T := TX7) (N := 42) hx hb htb inw7 hown hK.1 hP 0 rfl rfl 15 (by decide) (htb _ wmt3_182) (fun _ h9 => h9) rfl dX7_partRead_127 ?_
          refine lv_topi (fun x_51 ex_51 => ?_)
          have hx_51 : x_51.toInt = (z.1 15).toInt := by rw [ex_51]
          refine lv_iload_n hx hb dX7_partRead_130 rfl (lv_at hl 2 rfl) ?_
          refine va_iast (D := (dC, dI)) hx hb hK.1 hP (hDa _) hS 10 0 rfl rfl (z_in (by omega)) dX7_partRead_131 (fun H locs hP _ hS => ?_)
          obtain ⟨f_52, ef_52⟩ : ∃ x : Nat → Int32, x = upd (z.2.2.1 16) x_51.toNatClampNeg bb := ⟨_, rfl⟩
          have hP : va_P (dC, dI) vwCl (zM k q (sA (sI (sI z 13 oat_42) 14 ofa_43) 16 f_52)) H := by rw [ef_52]; exact hP
          refine lv_aload_n hx hb dX7_partRead_132 rfl (lv_at hl 1 rfl) ?_
          refine va_get (D := (dC, dI)) (ci := 7) (v := .ref (q 17)) (C := RX7) (T := TX7) (N := 42) hx hb htb inw7 hown hK.1 hP 0 rfl rfl 17 (by decide) (htb _ wmt3_184) (fun _ h9 => h9) rfl dX7_partRead_133 ?_
          refine lv_aload_n hx hb dX7_partRead_136 rfl (lv_at hl 1 rfl) ?_
          refine va_get (D := (dC, dI)) (ci := 7) (v := .int (z.1 15)) (C := RX7) (T := TX7) (N := 42) hx hb htb inw7 hown hK.1 hP 0 rfl rfl 15 (by decide) (htb _ wmt3_182) (fun _ h9 => h9) rfl dX7_partRead_137 ?_
          refine z_top (v2 := .int x_51) (congrArg Value.int ex_51.symm) ?_
          refine lv_iload_n hx hb dX7_partRead_140 rfl (lv_at hl 3 rfl) ?_
          refine va_iast (D := (dC, dI)) hx hb hK.1 hP (hDa _) hS 11 0 rfl rfl (z_in (by omega)) dX7_partRead_141 (fun H locs hP _ hS => ?_)
          obtain ⟨f_53, ef_53⟩ : ∃ x : Nat → Int32, x = upd (z.2.2.1 17) x_51.toNatClampNeg r_9 := ⟨_, rfl⟩
          have hP : va_P (dC, dI) vwCl (zM k q (sA (sA (sI (sI z 13 oat_42) 14 ofa_43) 16 f_52) 17 f_53)) H := by rw [ef_53]; exact hP
          refine lv_aload_n hx hb dX7_partRead_142 rfl (lv_at hl 1 rfl) ?_
          refine va_get (D := (dC, dI)) (ci := 7) (v := .ref (q 18)) (C := RX7) (T := TX7) (N := 42) hx hb htb inw7 hown hK.1 hP 0 rfl rfl 18 (by decide) (htb _ wmt3_185) (fun _ h9 => h9) rfl dX7_partRead_143 ?_
          refine lv_aload_n hx hb dX7_partRead_146 rfl (lv_at hl 1 rfl) ?_
          refine va_get (D := (dC, dI)) (ci := 7) (v := .int (z.1 15)) (C := RX7) (T := TX7) (N := 42) hx hb htb inw7 hown hK.1 hP 0 rfl rfl 15 (by decide) (htb _ wmt3_182) (fun _ h9 => h9) rfl dX7_partRead_147 ?_
          refine z_top (v2 := .int x_51) (congrArg Value.int ex_51.symm) ?_
          refine lv_iload_n hx hb dX7_partRead_150 rfl (lv_at hl 0 rfl) ?_
          refine va_iast (D := (dC, dI)) hx hb hK.1 hP (hDa _) hS 12 0 rfl rfl (z_in (by omega)) dX7_partRead_151 (fun H locs hP _ hS => ?_)
          obtain ⟨f_54, ef_54⟩ : ∃ x : Nat → Int32, x = upd (z.2.2.1 18) x_51.toNatClampNeg r_39 := ⟨_, rfl⟩
          have hP : va_P (dC, dI) vwCl (zM k q (sA (sA (sA (sI (sI z 13 oat_42) 14 ofa_43) 16 f_52) 17 f_53) 18 f_54)) H := by rw [ef_54]; exact hP
          refine lv_aload_n hx hb dX7_partRead_152 rfl (lv_at hl 1 rfl) ?_
          refine lv_dup hx hb dX7_partRead_153 rfl ?_
          refine va_get (D := (dC, dI)) (ci := 7) (v := .int (z.1 15)) (C := RX7) (T := TX7) (N := 42) hx hb htb inw7 hown hK.1 hP 0 rfl rfl 15 (by decide) (htb _ wmt3_182) (fun _ h9 => h9) rfl dX7_partRead_154 ?_
          refine z_top (v2 := .int x_51) (congrArg Value.int ex_51.symm) ?_
          refine lv_iconst (v := 1) hx hb dX7_partRead_157 (by decide) ?_
          refine lv_iadd hx hb dX7_partRead_158 ?_
          refine lv_topi (fun x_55 ex_55 => ?_)
          have hx_55 : x_55.toInt = (z.1 15).toInt + 1 := z_add ex_55 hx_51 (show (1 : Int32).toInt = 1 by decide) (by omega)
          refine va_put (D := (dC, dI)) (ci := 7) (v := .int x_55) (ty := .int) (C := RX7) (T := TX7) (N := 42) hx hb htb inw7 tyX7 tyX7_ok nmX7 hown hK.1 hP (hDa _) hS 0 rfl rfl 15 (by decide) (htb _ wmt3_182) (fun _ h9 => h9) rfl (by decide +kernel) rfl rfl (Nat.le_of_ble_eq_true rfl) dX7_partRead_159 (fun H locs hP _ hS => ?_)
          have hP : va_P (dC, dI) vwCl (zM k q (sI (sA (sA (sA (sI (sI z 13 oat_42) 14 ofa_43) 16 f_52) 17 f_53) 18 f_54) 15 x_55)) H := hP
          exact W.vret hx hb hr (fun t ht hW => ⟨⟨(oat_42, ofa_43, x_55, f_52, f_53, f_54), rfl, (show (PT x_55 f_53 f_54) ∧ (4 * x_55.toInt ≤ oat_42.toInt) ∧ ((z.1 13).toInt ≤ oat_42.toInt ∧ oat_42.toInt ≤ (z.1 13).toInt + 6) ∧ (ofa_43.toInt = -1 → (z.1 13).toInt < oat_42.toInt ∧ oat_42.toInt ≤ (z.2.2.1 2 (z.1 12).toNatClampNeg).toInt) ∧ (ofa_43.toInt = pX (bRf (z.2.2.1 2) (z.2.2.1 3) (z.1 12).toNatClampNeg) (z.1 13).toInt) ∧ (ofa_43.toInt = -1 → oat_42.toInt = a3 (bRf (z.2.2.1 2) (z.2.2.1 3) (z.1 12).toNatClampNeg) (z.1 13).toInt ∧ x_55.toInt = (z.1 15).toInt + 1 ∧ (f_52 (z.1 15).toNatClampNeg).toInt = bRf (z.2.2.1 2) (z.2.2.1 3) (z.1 12).toNatClampNeg (z.1 13).toInt ∧ (f_53 (z.1 15).toNatClampNeg).toInt = nV (bRf (z.2.2.1 2) (z.2.2.1 3) (z.1 12).toNatClampNeg) ((z.1 13).toInt + 1) ∧ (f_54 (z.1 15).toNatClampNeg).toInt = nV (bRf (z.2.2.1 2) (z.2.2.1 3) (z.1 12).toNatClampNeg) (a2 (bRf (z.2.2.1 2) (z.2.2.1 3) (z.1 12).toNatClampNeg) (z.1 13).toInt + 1) ∧ (∀ k : Nat, k ≠ (z.1 15).toNatClampNeg → f_52 k = z.2.2.1 16 k ∧ f_53 k = z.2.2.1 17 k ∧ f_54 k = z.2.2.1 18 k)) from (by subst ex_51; exact ⟨PT_step hpt (by omega) ex_55 ef_53 ef_54 ⟨by omega, by omega, by omega, by omega⟩, by omega, by omega, fun _ => ⟨by omega, by omega⟩, by rw [pX_5 hbb.2 (show ¬ (nC (bRf (z.2.2.1 2) (z.2.2.1 3) (z.1 12).toNatClampNeg) ((z.1 13).toInt + 1) = 0 ∨ 20 < nV (bRf (z.2.2.1 2) (z.2.2.1 3) (z.1 12).toNatClampNeg) ((z.1 13).toInt + 1)) by omega) (show bRf (z.2.2.1 2) (z.2.2.1 3) (z.1 12).toNatClampNeg (a2 (bRf (z.2.2.1 2) (z.2.2.1 3) (z.1 12).toNatClampNeg) (z.1 13).toInt) = 47 by omega) (show ¬ (_ ∨ _ ∨ _ ∨ _) by omega)]; omega, fun _ => ⟨by unfold a3; omega, by omega, by rw [ef_52, pk_us]; exact hbb.1, by rw [ef_53, pk_us]; omega, by rw [ef_54, pk_us]; omega, fun k hk => ⟨by rw [ef_52, pk_un hk], by rw [ef_53, pk_un hk], by rw [ef_54, pk_un hk]⟩⟩⟩)), ⟨by rw [ht]; exact hP, hDa _⟩⟩, hS.F ht⟩) hS.2.2 dX7_partRead_162
    · skip
      refine lv_aload_n hx hb dX7_partRead_62 rfl (lv_at hl 1 rfl) ?_
      refine va_get (D := (dC, dI)) (ci := 7) (v := .int ofa_13) (C := RX7) (T := TX7) (N := 42) hx hb htb inw7 hown hK.1 hP 0 rfl rfl 14 (by decide) (htb _ wmt3_181) (fun _ h9 => h9) rfl dX7_partRead_63 ?_
      refine lv_iconst (v := (-1)) hx hb dX7_partRead_66 (by decide) ?_
      refine lv_icmp_ne (tgt := 87) hx hb dX7_partRead_67 (by decide) (fun c_56 => ?_) (fun c_56 => ?_)
      · skip
        have hc_56 := zb_ne rfl (show ((-1) : Int32).toInt = (-1) by decide) c_56
        exact hj87 ofa_13 H locs ls ⟨(show (ofa_13.toInt = -1 ∧ ¬ nC (bRf (z.2.2.1 2) (z.2.2.1 3) (z.1 12).toNatClampNeg) ((z.1 13).toInt + 1) = 0 ∧ nV (bRf (z.2.2.1 2) (z.2.2.1 3) (z.1 12).toNatClampNeg) ((z.1 13).toInt + 1) ≤ 20 ∧ bRf (z.2.2.1 2) (z.2.2.1 3) (z.1 12).toNatClampNeg (a2 (bRf (z.2.2.1 2) (z.2.2.1 3) (z.1 12).toNatClampNeg) (z.1 13).toInt) = 47) ∨ (¬ ofa_13.toInt = -1 ∧ ofa_13.toInt = pX (bRf (z.2.2.1 2) (z.2.2.1 3) (z.1 12).toNatClampNeg) (z.1 13).toInt) from (Or.inr ⟨by omega, by rw [pX_2 hbb.2 (by omega)]; omega⟩)), (show ofa_13.toInt = -1 → ofa_13.toInt = -1 ∧ oat_12.toInt < (z.2.2.1 2 (z.1 12).toNatClampNeg).toInt from (fun q9 => by omega))⟩ hP hS (lv_sub hl [1, 2, 0] rfl)
      · skip
        have hc_56 := zb_eq rfl (show ((-1) : Int32).toInt = (-1) by decide) c_56
        refine lv_aload_n hx hb dX7_partRead_70 rfl (lv_at hl 1 rfl) ?_
        refine zcA_i (w := (zM k q (sI (sI z 13 oat_12) 14 ofa_13))) (va_runV (As := []) (rest := []) ⟨hx, hb, hml, hown, htb⟩ (c_X7_byteNow l dC dI k q (sI (sI z 13 oat_12) 14 ofa_13) _ (show 0 ≤ (z.1 12).toInt ∧ (z.1 12).toInt < 4 by omega) hm4 (show 0 ≤ oat_12.toInt ∧ oat_12.toInt ≤ 1000 by omega)) (cwV 0 htb (gzV wmt4_85 wmt4_87 wmp2_9 wmt1_8 wmt4_88) rfl rfl rfl (by decide +kernel) ⟨Nat.le_of_ble_eq_true rfl, Nat.le_of_ble_eq_true rfl⟩) (zpA_V (ci := 7) (q0 := 0) hK hP (hDa _) rfl rfl) rfl rfl hl.1 rfl (lv_room (Nat.le_of_ble_eq_true rfl)) dX7_partRead_71 ⟨Nat.le_of_ble_eq_true rfl, Nat.le_of_ble_eq_true rfl⟩) (hDa _) hS hA (fun r_57 u_58 H locs w_59 hP _ hS => ?_)
        obtain ⟨h_60, h_61⟩ := w_59
        replace h_60 : (oat_12).toInt < ((z.2.2.1 2) ((z.1 12)).toNatClampNeg).toInt ∨ r_57.toInt = -1 := h_60
        replace h_61 : r_57.toInt = bRf ((z.2.2.1 2)) ((z.2.2.1 3)) ((z.1 12)).toNatClampNeg (oat_12).toInt := h_61
        have hB2 : r_57.toInt = bRf (z.2.2.1 2) (z.2.2.1 3) (z.1 12).toNatClampNeg (a2 (bRf (z.2.2.1 2) (z.2.2.1 3) (z.1 12).toNatClampNeg) (z.1 13).toInt) := by have q := h_61; rw [show oat_12.toInt = a2 (bRf (z.2.2.1 2) (z.2.2.1 3) (z.1 12).toNatClampNeg) (z.1 13).toInt by unfold a2; omega] at q; exact q
        refine lv_bipush (v := 47) hx hb dX7_partRead_74 (by decide) ?_
        refine lv_icmp_eq (tgt := 87) hx hb dX7_partRead_76 (by decide) (fun c_63 => ?_) (fun c_63 => ?_)
        · skip
          have hc_63 := zb_eq rfl (show (47 : Int32).toInt = 47 by decide) c_63
          exact hj87 ofa_13 H locs ls ⟨(show (ofa_13.toInt = -1 ∧ ¬ nC (bRf (z.2.2.1 2) (z.2.2.1 3) (z.1 12).toNatClampNeg) ((z.1 13).toInt + 1) = 0 ∧ nV (bRf (z.2.2.1 2) (z.2.2.1 3) (z.1 12).toNatClampNeg) ((z.1 13).toInt + 1) ≤ 20 ∧ bRf (z.2.2.1 2) (z.2.2.1 3) (z.1 12).toNatClampNeg (a2 (bRf (z.2.2.1 2) (z.2.2.1 3) (z.1 12).toNatClampNeg) (z.1 13).toInt) = 47) ∨ (¬ ofa_13.toInt = -1 ∧ ofa_13.toInt = pX (bRf (z.2.2.1 2) (z.2.2.1 3) (z.1 12).toNatClampNeg) (z.1 13).toInt) from (Or.inl ⟨by omega, by omega, by omega, by omega⟩)), (show ofa_13.toInt = -1 → ofa_13.toInt = -1 ∧ oat_12.toInt < (z.2.2.1 2 (z.1 12).toNatClampNeg).toInt from (fun q9 => by omega))⟩ hP hS (lv_sub hl [1, 2, 0] rfl)
        · skip
          have hc_63 := zb_ne rfl (show (47 : Int32).toInt = 47 by decide) c_63
          refine lv_aload_n hx hb dX7_partRead_79 rfl (lv_at hl 1 rfl) ?_
          refine lv_aload_n hx hb dX7_partRead_80 rfl (lv_at hl 1 rfl) ?_
          refine va_get (D := (dC, dI)) (ci := 7) (v := .int oat_12) (C := RX7) (T := TX7) (N := 42) hx hb htb inw7 hown hK.1 hP 0 rfl rfl 13 (by decide) (htb _ wmt3_180) (fun _ h9 => h9) rfl dX7_partRead_81 ?_
          refine va_put (D := (dC, dI)) (ci := 7) (v := .int oat_12) (ty := .int) (C := RX7) (T := TX7) (N := 42) hx hb htb inw7 tyX7 tyX7_ok nmX7 hown hK.1 hP (hDa _) hS 0 rfl rfl 14 (by decide) (htb _ wmt3_181) (fun _ h9 => h9) rfl (by decide +kernel) rfl rfl (Nat.le_of_ble_eq_true rfl) dX7_partRead_84 (fun H locs hP _ hS => ?_)
          have hP : va_P (dC, dI) vwCl (zM k q (sI (sI z 13 oat_12) 14 oat_12)) H := hP
          exact hj87 oat_12 H locs ls ⟨(show (oat_12.toInt = -1 ∧ ¬ nC (bRf (z.2.2.1 2) (z.2.2.1 3) (z.1 12).toNatClampNeg) ((z.1 13).toInt + 1) = 0 ∧ nV (bRf (z.2.2.1 2) (z.2.2.1 3) (z.1 12).toNatClampNeg) ((z.1 13).toInt + 1) ≤ 20 ∧ bRf (z.2.2.1 2) (z.2.2.1 3) (z.1 12).toNatClampNeg (a2 (bRf (z.2.2.1 2) (z.2.2.1 3) (z.1 12).toNatClampNeg) (z.1 13).toInt) = 47) ∨ (¬ oat_12.toInt = -1 ∧ oat_12.toInt = pX (bRf (z.2.2.1 2) (z.2.2.1 3) (z.1 12).toNatClampNeg) (z.1 13).toInt) from (Or.inr ⟨by omega, by rw [pX_3 hbb.2 (show ¬ (nC (bRf (z.2.2.1 2) (z.2.2.1 3) (z.1 12).toNatClampNeg) ((z.1 13).toInt + 1) = 0 ∨ 20 < nV (bRf (z.2.2.1 2) (z.2.2.1 3) (z.1 12).toNatClampNeg) ((z.1 13).toInt + 1)) by omega) (by omega)]; unfold a2; omega⟩)), (show oat_12.toInt = -1 → ofa_13.toInt = -1 ∧ oat_12.toInt < (z.2.2.1 2 (z.1 12).toNatClampNeg).toInt from (fun q9 => by omega))⟩ hP hS (lv_sub hl [1, 2, 0] rfl)
  · skip
    refine lv_iload_n hx hb dX7_partRead_5 rfl (lv_at hl 0 rfl) ?_
    refine lv_bipush (v := 116) hx hb dX7_partRead_6 (by decide) ?_
    refine lv_icmp_eq (tgt := 44) hx hb dX7_partRead_8 (by decide) (fun c_64 => ?_) (fun c_64 => ?_)
    · skip
      have hc_64 := zb_eq rfl (show (116 : Int32).toInt = 116 by decide) c_64
      exact hj44 r_1 H locs ls (show r_1.toInt = bRf (z.2.2.1 2) (z.2.2.1 3) (z.1 12).toNatClampNeg (z.1 13).toInt ∧ ¬ lT (bRf (z.2.2.1 2) (z.2.2.1 3) (z.1 12).toNatClampNeg (z.1 13).toInt) = -1 from ⟨hB0, lT_y (by omega)⟩) hP hS (lv_sub hl [1, 0] rfl)
    · skip
      have hc_64 := zb_ne rfl (show (116 : Int32).toInt = 116 by decide) c_64
      refine lv_iload_n hx hb dX7_partRead_11 rfl (lv_at hl 0 rfl) ?_
      refine lv_bipush (v := 111) hx hb dX7_partRead_12 (by decide) ?_
      refine lv_icmp_eq (tgt := 44) hx hb dX7_partRead_14 (by decide) (fun c_65 => ?_) (fun c_65 => ?_)
      · skip
        have hc_65 := zb_eq rfl (show (111 : Int32).toInt = 111 by decide) c_65
        exact hj44 r_1 H locs ls (show r_1.toInt = bRf (z.2.2.1 2) (z.2.2.1 3) (z.1 12).toNatClampNeg (z.1 13).toInt ∧ ¬ lT (bRf (z.2.2.1 2) (z.2.2.1 3) (z.1 12).toNatClampNeg (z.1 13).toInt) = -1 from ⟨hB0, lT_y (by omega)⟩) hP hS (lv_sub hl [1, 0] rfl)
      · skip
        have hc_65 := zb_ne rfl (show (111 : Int32).toInt = 111 by decide) c_65
        refine lv_iload_n hx hb dX7_partRead_17 rfl (lv_at hl 0 rfl) ?_
        refine lv_bipush (v := 121) hx hb dX7_partRead_18 (by decide) ?_
        refine lv_icmp_eq (tgt := 44) hx hb dX7_partRead_20 (by decide) (fun c_66 => ?_) (fun c_66 => ?_)
        · skip
          have hc_66 := zb_eq rfl (show (121 : Int32).toInt = 121 by decide) c_66
          exact hj44 r_1 H locs ls (show r_1.toInt = bRf (z.2.2.1 2) (z.2.2.1 3) (z.1 12).toNatClampNeg (z.1 13).toInt ∧ ¬ lT (bRf (z.2.2.1 2) (z.2.2.1 3) (z.1 12).toNatClampNeg (z.1 13).toInt) = -1 from ⟨hB0, lT_y (by omega)⟩) hP hS (lv_sub hl [1, 0] rfl)
        · skip
          have hc_66 := zb_ne rfl (show (121 : Int32).toInt = 121 by decide) c_66
          refine lv_iload_n hx hb dX7_partRead_23 rfl (lv_at hl 0 rfl) ?_
          refine lv_bipush (v := 110) hx hb dX7_partRead_24 (by decide) ?_
          refine lv_icmp_eq (tgt := 44) hx hb dX7_partRead_26 (by decide) (fun c_67 => ?_) (fun c_67 => ?_)
          · skip
            have hc_67 := zb_eq rfl (show (110 : Int32).toInt = 110 by decide) c_67
            exact hj44 r_1 H locs ls (show r_1.toInt = bRf (z.2.2.1 2) (z.2.2.1 3) (z.1 12).toNatClampNeg (z.1 13).toInt ∧ ¬ lT (bRf (z.2.2.1 2) (z.2.2.1 3) (z.1 12).toNatClampNeg (z.1 13).toInt) = -1 from ⟨hB0, lT_y (by omega)⟩) hP hS (lv_sub hl [1, 0] rfl)
          · skip
            have hc_67 := zb_ne rfl (show (110 : Int32).toInt = 110 by decide) c_67
            refine lv_iload_n hx hb dX7_partRead_29 rfl (lv_at hl 0 rfl) ?_
            refine lv_bipush (v := 117) hx hb dX7_partRead_30 (by decide) ?_
            refine lv_icmp_eq (tgt := 44) hx hb dX7_partRead_32 (by decide) (fun c_68 => ?_) (fun c_68 => ?_)
            · skip
              have hc_68 := zb_eq rfl (show (117 : Int32).toInt = 117 by decide) c_68
              exact hj44 r_1 H locs ls (show r_1.toInt = bRf (z.2.2.1 2) (z.2.2.1 3) (z.1 12).toNatClampNeg (z.1 13).toInt ∧ ¬ lT (bRf (z.2.2.1 2) (z.2.2.1 3) (z.1 12).toNatClampNeg (z.1 13).toInt) = -1 from ⟨hB0, lT_y (by omega)⟩) hP hS (lv_sub hl [1, 0] rfl)
            · skip
              have hc_68 := zb_ne rfl (show (117 : Int32).toInt = 117 by decide) c_68
              refine lv_aload_n hx hb dX7_partRead_35 rfl (lv_at hl 1 rfl) ?_
              refine lv_aload_n hx hb dX7_partRead_36 rfl (lv_at hl 1 rfl) ?_
              refine va_get (D := (dC, dI)) (ci := 7) (v := .int (z.1 13)) (C := RX7) (T := TX7) (N := 42) hx hb htb inw7 hown hK.1 hP 0 rfl rfl 13 (by decide) (htb _ wmt3_180) (fun _ h9 => h9) rfl dX7_partRead_37 ?_
              refine lv_topi (fun x_69 ex_69 => ?_)
              have hx_69 : x_69.toInt = (z.1 13).toInt := by rw [ex_69]
              refine va_put (D := (dC, dI)) (ci := 7) (v := .int x_69) (ty := .int) (C := RX7) (T := TX7) (N := 42) hx hb htb inw7 tyX7 tyX7_ok nmX7 hown hK.1 hP (hDa _) hS 0 rfl rfl 14 (by decide) (htb _ wmt3_181) (fun _ h9 => h9) rfl (by decide +kernel) rfl rfl (Nat.le_of_ble_eq_true rfl) dX7_partRead_40 (fun H locs hP _ hS => ?_)
              have hP : va_P (dC, dI) vwCl (zM k q (sI z 14 x_69)) H := hP
              exact W.vret hx hb hr (fun t ht hW => ⟨⟨(z.1 13, x_69, z.1 15, z.2.2.1 16, z.2.2.1 17, z.2.2.1 18), rfl, (show (PT (z.1 15) (z.2.2.1 17) (z.2.2.1 18)) ∧ (4 * (z.1 15).toInt ≤ (z.1 13).toInt) ∧ ((z.1 13).toInt ≤ (z.1 13).toInt ∧ (z.1 13).toInt ≤ (z.1 13).toInt + 6) ∧ (x_69.toInt = -1 → (z.1 13).toInt < (z.1 13).toInt ∧ (z.1 13).toInt ≤ (z.2.2.1 2 (z.1 12).toNatClampNeg).toInt) ∧ (x_69.toInt = pX (bRf (z.2.2.1 2) (z.2.2.1 3) (z.1 12).toNatClampNeg) (z.1 13).toInt) ∧ (x_69.toInt = -1 → (z.1 13).toInt = a3 (bRf (z.2.2.1 2) (z.2.2.1 3) (z.1 12).toNatClampNeg) (z.1 13).toInt ∧ (z.1 15).toInt = (z.1 15).toInt + 1 ∧ ((z.2.2.1 16) (z.1 15).toNatClampNeg).toInt = bRf (z.2.2.1 2) (z.2.2.1 3) (z.1 12).toNatClampNeg (z.1 13).toInt ∧ ((z.2.2.1 17) (z.1 15).toNatClampNeg).toInt = nV (bRf (z.2.2.1 2) (z.2.2.1 3) (z.1 12).toNatClampNeg) ((z.1 13).toInt + 1) ∧ ((z.2.2.1 18) (z.1 15).toNatClampNeg).toInt = nV (bRf (z.2.2.1 2) (z.2.2.1 3) (z.1 12).toNatClampNeg) (a2 (bRf (z.2.2.1 2) (z.2.2.1 3) (z.1 12).toNatClampNeg) (z.1 13).toInt + 1) ∧ (∀ k : Nat, k ≠ (z.1 15).toNatClampNeg → (z.2.2.1 16) k = z.2.2.1 16 k ∧ (z.2.2.1 17) k = z.2.2.1 17 k ∧ (z.2.2.1 18) k = z.2.2.1 18 k)) from ⟨hpt, by omega, by omega, fun q9 => by omega, by rw [pX_1 (lT_n (by omega) (by omega) (by omega) (by omega) (by omega))]; omega, fun q9 => by omega⟩), ⟨by rw [ht]; exact hP, hDa _⟩⟩, hS.F ht⟩) hS.2.2 dX7_partRead_43
