set_option maxHeartbeats 4000000 in
set_option maxRecDepth 100000 in
theorem c_X7_shareOf (l : Launch) (dC : Nat → ClassId) (dI : Nat → Nat → Nat) (k : Nat → ClassId) (q : Nat → Nat) (z : ZS) (le : Int32) (wh : Int32) (sz : Nat) (hpt : PT (z.1 15) (z.2.2.1 17) (z.2.2.1 18)) (hw : 0 ≤ wh.toInt ∧ wh.toInt ≤ 24) : Met l yX7_shareOf (wz yX7_shareOf cX7_shareOf 5 (some .int)) ({ frames := 0, cells := 0, slots := 0, locals := 0 }) (va_Pc [.ref (q 0), .int le, .int wh] (zPre dC dI k (zTX k) (zM k q z) sz)) (va_Qi (fun (r : Int32) (u : Unit) => (0 ≤ r.toInt ∧ r.toInt ≤ 7200) ∧ (r.toInt = shM (z.2.2.1 16) (z.2.2.1 17) (z.2.2.1 18) wh.toInt le.toInt (z.1 15).toNatClampNeg)) (fun u t => zPost dC dI (va_A (zM k q z) sz) (zM k q z) t) (va_A (zM k q z) sz)) 0 0 (va_A (zM k q z) sz) := by
  refine Met.ofW (cc := cX7_shareOf) (maxL := 5) (ret := (some .int)) (by decide) rfl ?_
  intro p e s m args below meth c s₁ B hml hv
  obtain ⟨rfl, hsz, hP, hK, hD0⟩ := hv
  have hx := B.exec
  have hb := B.bytes
  have hr := B.returns
  have hts := atoms_spec (ws := wz yX7_shareOf cX7_shareOf 5 (some .int)) B.pre
  have htb : ∀ w ∈ zw, w.before _ s = true := fun w h => hts w (List.mem_cons_of_mem _ h)
  have hown : s.vm.findClass RX7 = some m.cls := findClass_of_methodNamed B.named
  have hlocks := B.notSynchronized
  clear hts
  subst hsz
  have hD := hD0.self (sz := s.heap.size)
  generalize hAe : va_A (zM k q z) s.heap.size = A at hD ⊢
  have hA : ∀ q : Nat, s.heap.size ≤ q → A q := fun q h => by rw [← hAe]; exact Or.inr h
  have hDa : ∀ z9 : ZS, va_D A (zM k q z9) := fun z9 => va_D_adr (w := zM k q z) rfl hD
  have hl := lv_entry ([.ref (q 0), .int le, .int wh]) (n := 5) (Nat.le_of_ble_eq_true rfl)
  rw [lg_entry_eq]
  generalize (lg_sl ([.ref (q 0), .int le, .int wh]) ++ List.replicate (5 - (lg_sl ([.ref (q 0), .int le, .int wh])).length) Slot.unset).toArray = ls at hl ⊢
  have hl : lv_has ls 5 [(0, .ref (q 0)), (1, .int le), (2, .int wh)] := hl
  refine z_start2 (A := A) (w := (zM k q z)) hP (fun H locs hP hS => ?_)
  clear hD0 hAe
  have hp0 := hpt.1
  have hp1 := hpt.2.1
  refine lv_iconst (v := 0) hx hb dX7_shareOf_0 (by decide) ?_
  refine lv_istore_n (lv' := [(3, .int 0), (0, .ref (q 0)), (1, .int le), (2, .int wh)]) hx hb dX7_shareOf_1 rfl hl (by decide) rfl (fun ls hl => ?_)
  refine lv_iconst (v := 0) hx hb dX7_shareOf_2 (by decide) ?_
  refine lv_istore (lv' := [(4, .int 0), (3, .int 0), (0, .ref (q 0)), (1, .int le), (2, .int wh)]) hx hb dX7_shareOf_3 hl (by decide) rfl (fun ls hl => ?_)
  obtain ⟨sm, esm⟩ : ∃ x : Int32, 0 = x := ⟨_, rfl⟩
  obtain ⟨i, ei⟩ : ∃ x : Int32, 0 = x := ⟨_, rfl⟩
  have hv5 : (0 ≤ i.toInt ∧ i.toInt ≤ (z.1 15).toInt) ∧ (0 ≤ sm.toInt ∧ sm.toInt ≤ 480 * i.toInt) ∧ (sm.toInt = shM (z.2.2.1 16) (z.2.2.1 17) (z.2.2.1 18) wh.toInt le.toInt i.toNatClampNeg) := by subst esm ei; exact ⟨⟨by decide, hpt.1⟩, (by decide), (by rw [show (0 : Int32).toNatClampNeg = 0 by decide, shM_0]; decide)⟩
  replace hl : lv_has ls 5 [(4, .int i), (3, .int sm), (0, .ref (q 0)), (1, .int le), (2, .int wh)] := by subst esm ei; exact hl
  clear esm ei
  obtain ⟨mm5, hm5⟩ : ∃ mm : Nat, mm = (15 - i.toInt).toNat := ⟨_, rfl⟩
  refine z_cut2 hP hS hl ?_
  clear hl hP
  intro H locs ls hP hS hl
  induction mm5 using Nat.strongRecOn generalizing sm i H locs ls with
  | _ mm5 ih5 =>
    obtain ⟨hi, hs, hsm⟩ := hv5
    refine lv_iload hx hb dX7_shareOf_5 (lv_at hl 0 rfl) ?_
    refine lv_aload_n hx hb dX7_shareOf_7 rfl (lv_at hl 2 rfl) ?_
    refine va_get (D := (dC, dI)) (ci := 7) (v := .int (z.1 15)) (C := RX7) (T := TX7) (N := 42) hx hb htb inw7 hown hK.1 hP 0 rfl rfl 15 (by decide) (htb _ wmt3_182) (fun _ h9 => h9) rfl dX7_shareOf_8 ?_
    refine lv_topi (fun x_1 ex_1 => ?_)
    have hx_1 : x_1.toInt = (z.1 15).toInt := by rw [ex_1]
    refine lv_icmp_ge (tgt := 55) hx hb dX7_shareOf_11 (by decide) (fun c_2 => ?_) (fun c_2 => ?_)
    · skip
      have hc_2 := zb_le rfl rfl c_2
      refine lv_iload_n hx hb dX7_shareOf_55 rfl (lv_at hl 1 rfl) ?_
      exact W.iret (v := sm) hx hb hr (fun t ht hW => ⟨⟨sm, (), rfl, ⟨by omega, by rw [hsm, show i.toNatClampNeg = (z.1 15).toNatClampNeg by have q1 := z_clamp hi.1; have q2 := z_clamp hpt.1; omega]⟩, ⟨by rw [ht]; exact hP, hDa _⟩⟩, hS.F ht⟩) hS.2.2 dX7_shareOf_56
    · skip
      have hc_2 := zb_nle rfl rfl c_2
      refine lv_iload_n hx hb dX7_shareOf_14 rfl (lv_at hl 1 rfl) ?_
      refine lv_aload_n hx hb dX7_shareOf_15 rfl (lv_at hl 2 rfl) ?_
      refine va_get (D := (dC, dI)) (ci := 7) (v := .ref (q 16)) (C := RX7) (T := TX7) (N := 42) hx hb htb inw7 hown hK.1 hP 0 rfl rfl 16 (by decide) (htb _ wmt3_183) (fun _ h9 => h9) rfl dX7_shareOf_16 ?_
      refine lv_iload hx hb dX7_shareOf_19 (lv_at hl 0 rfl) ?_
      refine va_iald (D := (dC, dI)) hx hb hK.1 hP 10 0 rfl rfl (z_in (by omega)) dX7_shareOf_21 ?_
      refine lv_topi (fun x_3 ex_3 => ?_)
      have hx_3 : x_3.toInt = ((z.2.2.1 16) i.toNatClampNeg).toInt := by rw [ex_3]
      refine lv_iload_n hx hb dX7_shareOf_22 rfl (lv_at hl 3 rfl) ?_
      refine lv_icmp_ne (tgt := 46) hx hb dX7_shareOf_23 (by decide) (fun c_4 => ?_) (fun c_4 => ?_)
      · skip
        have hc_4 := zb_ne rfl rfl c_4
        refine lv_iconst (v := 0) hx hb dX7_shareOf_46 (by decide) ?_
        refine lv_iadd hx hb dX7_shareOf_47 ?_
        refine lv_topi (fun x_5 ex_5 => ?_)
        have hx_5 := z_add ex_5 rfl (show (0 : Int32).toInt = 0 by decide) (by omega)
        refine lv_istore_n (lv' := [(3, .int x_5), (4, .int i), (0, .ref (q 0)), (1, .int le), (2, .int wh)]) hx hb dX7_shareOf_48 rfl hl (by decide) rfl (fun ls hl => ?_)
        obtain ⟨x_6, ex_6⟩ : ∃ y : Int32, y = i + 1 := ⟨_, rfl⟩
        have hx_6 : x_6.toInt = i.toInt + 1 := z_add ex_6 rfl (show (1 : Int32).toInt = 1 by decide) (by omega)
        refine lv_iinc (v := x_6) (lv' := [(4, .int x_6), (3, .int x_5), (0, .ref (q 0)), (1, .int le), (2, .int wh)]) hx hb dX7_shareOf_49 hl (k := 1) rfl (by rw [ex_6]; rfl) (by decide) rfl (fun ls hl => ?_)
        refine lv_goto (tgt := 5) hx hb dX7_shareOf_52 (by decide) ?_
        exact ih5 ((15 - x_6.toInt).toNat) (by omega) x_5 x_6 ⟨(show 0 ≤ x_6.toInt ∧ x_6.toInt ≤ (z.1 15).toInt by omega), (show 0 ≤ x_5.toInt ∧ x_5.toInt ≤ 480 * x_6.toInt by omega), (by rw [show x_6.toNatClampNeg = i.toNatClampNeg + 1 by have q1 := z_clamp (x := i) (by omega); have q2 := z_clamp (x := x_6) (by omega); omega, shM_s, if_neg (by omega), ← hsm, hx_5])⟩ rfl H locs ls hP hS (lv_sub hl [0, 1, 2, 3, 4] rfl)
      · skip
        have hc_4 := zb_eq rfl rfl c_4
        refine lv_aload_n hx hb dX7_shareOf_26 rfl (lv_at hl 2 rfl) ?_
        refine va_get (D := (dC, dI)) (ci := 7) (v := .ref (q 17)) (C := RX7) (T := TX7) (N := 42) hx hb htb inw7 hown hK.1 hP 0 rfl rfl 17 (by decide) (htb _ wmt3_184) (fun _ h9 => h9) rfl dX7_shareOf_27 ?_
        refine lv_iload hx hb dX7_shareOf_30 (lv_at hl 0 rfl) ?_
        refine va_iald (D := (dC, dI)) hx hb hK.1 hP 11 0 rfl rfl (z_in (by omega)) dX7_shareOf_32 ?_
        refine lv_topi (fun x_7 ex_7 => ?_)
        have hx_7 : x_7.toInt = ((z.2.2.1 17) i.toNatClampNeg).toInt := by rw [ex_7]
        have hptq := PT_at hpt (show 0 ≤ i.toInt by omega) (show i.toInt < (z.1 15).toInt by omega)
        refine lv_iload_n hx hb dX7_shareOf_33 rfl (lv_at hl 4 rfl) ?_
        refine lv_aload_n hx hb dX7_shareOf_34 rfl (lv_at hl 2 rfl) ?_
        refine va_get (D := (dC, dI)) (ci := 7) (v := .ref (q 18)) (C := RX7) (T := TX7) (N := 42) hx hb htb inw7 hown hK.1 hP 0 rfl rfl 18 (by decide) (htb _ wmt3_185) (fun _ h9 => h9) rfl dX7_shareOf_35 ?_
        refine lv_iload hx hb dX7_shareOf_38 (lv_at hl 0 rfl) ?_
        refine va_iald (D := (dC, dI)) hx hb hK.1 hP 12 0 rfl rfl (z_in (by omega)) dX7_shareOf_40 ?_
        refine lv_topi (fun x_8 ex_8 => ?_)
        have hx_8 : x_8.toInt = ((z.2.2.1 18) i.toNatClampNeg).toInt := by rw [ex_8]
        refine lv_idiv hx hb dX7_shareOf_41 (z_i0ne (by omega)) ?_
        refine lv_topi (fun x_9 ex_9 => ?_)
        have hx_9 := zi_div ex_9 rfl rfl (by omega) (by omega)
        refine lv_imul hx hb dX7_shareOf_42 ?_
        refine lv_topi (fun x_10 ex_10 => ?_)
        have qx_10 := z_mulb (a := x_7.toInt) (b := x_9.toInt) (A := 20) (B := 24) (by omega) (by omega)
        have hx_10 := z_mul ex_10 rfl rfl (by omega)
        refine lv_goto (tgt := 47) hx hb dX7_shareOf_43 (by decide) ?_
        refine lv_iadd hx hb dX7_shareOf_47 ?_
        refine lv_topi (fun x_11 ex_11 => ?_)
        have hx_11 := z_add ex_11 rfl rfl (by omega)
        refine lv_istore_n (lv' := [(3, .int x_11), (4, .int i), (0, .ref (q 0)), (1, .int le), (2, .int wh)]) hx hb dX7_shareOf_48 rfl hl (by decide) rfl (fun ls hl => ?_)
        obtain ⟨x_12, ex_12⟩ : ∃ y : Int32, y = i + 1 := ⟨_, rfl⟩
        have hx_12 : x_12.toInt = i.toInt + 1 := z_add ex_12 rfl (show (1 : Int32).toInt = 1 by decide) (by omega)
        refine lv_iinc (v := x_12) (lv' := [(4, .int x_12), (3, .int x_11), (0, .ref (q 0)), (1, .int le), (2, .int wh)]) hx hb dX7_shareOf_49 hl (k := 1) rfl (by rw [ex_12]; rfl) (by decide) rfl (fun ls hl => ?_)
        refine lv_goto (tgt := 5) hx hb dX7_shareOf_52 (by decide) ?_
        exact ih5 ((15 - x_12.toInt).toNat) (by omega) x_11 x_12 ⟨(show 0 ≤ x_12.toInt ∧ x_12.toInt ≤ (z.1 15).toInt by omega), (show 0 ≤ x_11.toInt ∧ x_11.toInt ≤ 480 * x_12.toInt by omega), (by rw [show x_12.toNatClampNeg = i.toNatClampNeg + 1 by have q1 := z_clamp (x := i) (by omega); have q2 := z_clamp (x := x_12) (by omega); omega, shM_s, if_pos (by omega), ← hsm, hx_11, hx_10, hx_7, hx_9.1, hx_8])⟩ rfl H locs ls hP hS (lv_sub hl [0, 1, 2, 3, 4] rfl)
set_option maxHeartbeats 4000000 in
set_option maxRecDepth 100000 in
theorem c_X7_wholeNow (l : Launch) (dC : Nat → ClassId) (dI : Nat → Nat → Nat) (k : Nat → ClassId) (q : Nat → Nat) (z : ZS) (sz : Nat) (hpt : PT (z.1 15) (z.2.2.1 17) (z.2.2.1 18)) : Met l yX7_wholeNow (wz yX7_wholeNow cX7_wholeNow 4 (some .int)) ({ frames := 1, cells := 0, slots := 0, locals := 29 }) (va_Pc [.ref (q 0)] (zPre dC dI k (zTX k) (zM k q z) sz)) (va_Qi (fun (r : Int32) (u : Unit) => (1 ≤ r.toInt ∧ r.toInt ≤ 480) ∧ (WI (z.2.2.1 16) (z.2.2.1 17) (z.2.2.1 18) (z.1 15).toNatClampNeg r.toInt)) (fun u t => zPost dC dI (va_A (zM k q z) sz) (zM k q z) t) (va_A (zM k q z) sz)) 0 0 (va_A (zM k q z) sz) := by
  refine Met.ofW (cc := cX7_wholeNow) (maxL := 4) (ret := (some .int)) (by decide) rfl ?_
  intro p e s m args below meth c s₁ B hml hv
  obtain ⟨rfl, hsz, hP, hK, hD0⟩ := hv
  have hx := B.exec
  have hb := B.bytes
  have hr := B.returns
  have hts := atoms_spec (ws := wz yX7_wholeNow cX7_wholeNow 4 (some .int)) B.pre
  have htb : ∀ w ∈ zw, w.before _ s = true := fun w h => hts w (List.mem_cons_of_mem _ h)
  have hown : s.vm.findClass RX7 = some m.cls := findClass_of_methodNamed B.named
  have hlocks := B.notSynchronized
  clear hts
  subst hsz
  have hD := hD0.self (sz := s.heap.size)
  generalize hAe : va_A (zM k q z) s.heap.size = A at hD ⊢
  have hA : ∀ q : Nat, s.heap.size ≤ q → A q := fun q h => by rw [← hAe]; exact Or.inr h
  have hDa : ∀ z9 : ZS, va_D A (zM k q z9) := fun z9 => va_D_adr (w := zM k q z) rfl hD
  have hl := lv_entry ([.ref (q 0)]) (n := 4) (Nat.le_of_ble_eq_true rfl)
  rw [lg_entry_eq]
  generalize (lg_sl ([.ref (q 0)]) ++ List.replicate (4 - (lg_sl ([.ref (q 0)])).length) Slot.unset).toArray = ls at hl ⊢
  have hl : lv_has ls 4 [(0, .ref (q 0))] := hl
  refine z_start2 (A := A) (w := (zM k q z)) hP (fun H locs hP hS => ?_)
  clear hD0 hAe
  have hp0 := hpt.1
  have hp1 := hpt.2.1
  refine lv_iconst (v := 1) hx hb dX7_wholeNow_0 (by decide) ?_
  refine lv_istore_n (lv' := [(1, .int 1), (0, .ref (q 0))]) hx hb dX7_wholeNow_1 rfl hl (by decide) rfl (fun ls hl => ?_)
  refine lv_iconst (v := 0) hx hb dX7_wholeNow_2 (by decide) ?_
  refine lv_istore_n (lv' := [(2, .int 0), (1, .int 1), (0, .ref (q 0))]) hx hb dX7_wholeNow_3 rfl hl (by decide) rfl (fun ls hl => ?_)
  obtain ⟨wh, ewh⟩ : ∃ x : Int32, 1 = x := ⟨_, rfl⟩
  obtain ⟨i, ei⟩ : ∃ x : Int32, 0 = x := ⟨_, rfl⟩
  have hv4 : (1 ≤ wh.toInt ∧ wh.toInt ≤ 480) ∧ (0 ≤ i.toInt ∧ i.toInt ≤ (z.1 15).toInt) ∧ (WI (z.2.2.1 16) (z.2.2.1 17) (z.2.2.1 18) i.toNatClampNeg wh.toInt) := by subst ewh ei; exact ⟨(by decide), ⟨by decide, hpt.1⟩, (by rw [show (0 : Int32).toNatClampNeg = 0 by decide]; exact WI_0 (by decide))⟩
  replace hl : lv_has ls 4 [(2, .int i), (1, .int wh), (0, .ref (q 0))] := by subst ewh ei; exact hl
  clear ewh ei
  obtain ⟨mm4, hm4⟩ : ∃ mm : Nat, mm = (15 - i.toInt).toNat := ⟨_, rfl⟩
  refine z_cut2 hP hS hl ?_
  clear hl hP
  intro H locs ls hP hS hl
  induction mm4 using Nat.strongRecOn generalizing wh i H locs ls with
  | _ mm4 ih4 =>
    obtain ⟨hw, hi, hWI⟩ := hv4
    refine lv_iload_n hx hb dX7_wholeNow_4 rfl (lv_at hl 0 rfl) ?_
    refine lv_aload_n hx hb dX7_wholeNow_5 rfl (lv_at hl 2 rfl) ?_
    refine va_get (D := (dC, dI)) (ci := 7) (v := .int (z.1 15)) (C := RX7) (T := TX7) (N := 42) hx hb htb inw7 hown hK.1 hP 0 rfl rfl 15 (by decide) (htb _ wmt3_182) (fun _ h9 => h9) rfl dX7_wholeNow_6 ?_
    refine lv_topi (fun x_1 ex_1 => ?_)
    have hx_1 : x_1.toInt = (z.1 15).toInt := by rw [ex_1]
    refine lv_icmp_ge (tgt := 63) hx hb dX7_wholeNow_9 (by decide) (fun c_2 => ?_) (fun c_2 => ?_)
    · skip
      have hc_2 := zb_le rfl rfl c_2
      refine lv_iload_n hx hb dX7_wholeNow_63 rfl (lv_at hl 1 rfl) ?_
      exact W.iret (v := wh) hx hb hr (fun t ht hW => ⟨⟨wh, (), rfl, ⟨by omega, WI_end hWI (by have q1 := z_clamp hi.1; have q2 := z_clamp hpt.1; omega) arF_pos (fun q => by have q1 := z_clamp hi.1; have q2 := z_clamp hpt.1; omega)⟩, ⟨by rw [ht]; exact hP, hDa _⟩⟩, hS.F ht⟩) hS.2.2 dX7_wholeNow_64
    · skip
      have hc_2 := zb_nle rfl rfl c_2
      refine lv_iload_n hx hb dX7_wholeNow_12 rfl (lv_at hl 1 rfl) ?_
      refine lv_bipush (v := 25) hx hb dX7_wholeNow_13 (by decide) ?_
      refine lv_icmp_ge (tgt := 63) hx hb dX7_wholeNow_15 (by decide) (fun c_3 => ?_) (fun c_3 => ?_)
      · skip
        have hc_3 := zb_le (show (25 : Int32).toInt = 25 by decide) rfl c_3
        refine lv_iload_n hx hb dX7_wholeNow_63 rfl (lv_at hl 1 rfl) ?_
        exact W.iret (v := wh) hx hb hr (fun t ht hW => ⟨⟨wh, (), rfl, ⟨by omega, WI_end hWI (by have q1 := z_clamp hi.1; have q2 := z_clamp hpt.1; omega) arF_pos (fun q => by have q1 := z_clamp hi.1; have q2 := z_clamp hpt.1; omega)⟩, ⟨by rw [ht]; exact hP, hDa _⟩⟩, hS.F ht⟩) hS.2.2 dX7_wholeNow_64
      · skip
        have hc_3 := zb_nle (show (25 : Int32).toInt = 25 by decide) rfl c_3
        refine lv_aload_n hx hb dX7_wholeNow_18 rfl (lv_at hl 2 rfl) ?_
        refine va_get (D := (dC, dI)) (ci := 7) (v := .ref (q 18)) (C := RX7) (T := TX7) (N := 42) hx hb htb inw7 hown hK.1 hP 0 rfl rfl 18 (by decide) (htb _ wmt3_185) (fun _ h9 => h9) rfl dX7_wholeNow_19 ?_
        refine lv_iload_n hx hb dX7_wholeNow_22 rfl (lv_at hl 0 rfl) ?_
        refine va_iald (D := (dC, dI)) hx hb hK.1 hP 12 0 rfl rfl (z_in (by omega)) dX7_wholeNow_23 ?_
        refine lv_topi (fun x_4 ex_4 => ?_)
        have hx_4 : x_4.toInt = ((z.2.2.1 18) i.toNatClampNeg).toInt := by rw [ex_4]
        have hptq := PT_at hpt (show 0 ≤ i.toInt by omega) (show i.toInt < (z.1 15).toInt by omega)
        refine lv_aload_n hx hb dX7_wholeNow_24 rfl (lv_at hl 2 rfl) ?_
        refine va_get (D := (dC, dI)) (ci := 7) (v := .ref (q 17)) (C := RX7) (T := TX7) (N := 42) hx hb htb inw7 hown hK.1 hP 0 rfl rfl 17 (by decide) (htb _ wmt3_184) (fun _ h9 => h9) rfl dX7_wholeNow_25 ?_
        refine lv_iload_n hx hb dX7_wholeNow_28 rfl (lv_at hl 0 rfl) ?_
        refine va_iald (D := (dC, dI)) hx hb hK.1 hP 11 0 rfl rfl (z_in (by omega)) dX7_wholeNow_29 ?_
        refine lv_topi (fun x_5 ex_5 => ?_)
        have hx_5 : x_5.toInt = ((z.2.2.1 17) i.toNatClampNeg).toInt := by rw [ex_5]
        refine lv_i2l (v := x_5.toInt64) hx hb dX7_wholeNow_30 rfl ?_
        refine lv_topl (fun x_6 ex_6 => ?_)
        have hx_6 : x_6.toInt = x_5.toInt := by rw [ex_6]; exact Jvm.Kit.i64_of_i32 _
        refine lv_aload_n hx hb dX7_wholeNow_31 rfl (lv_at hl 2 rfl) ?_
        refine va_get (D := (dC, dI)) (ci := 7) (v := .ref (q 18)) (C := RX7) (T := TX7) (N := 42) hx hb htb inw7 hown hK.1 hP 0 rfl rfl 18 (by decide) (htb _ wmt3_185) (fun _ h9 => h9) rfl dX7_wholeNow_32 ?_
        refine lv_iload_n hx hb dX7_wholeNow_35 rfl (lv_at hl 0 rfl) ?_
        refine va_iald (D := (dC, dI)) hx hb hK.1 hP 12 0 rfl rfl (z_in (by omega)) dX7_wholeNow_36 ?_
        refine lv_topi (fun x_7 ex_7 => ?_)
        have hx_7 : x_7.toInt = ((z.2.2.1 18) i.toNatClampNeg).toInt := by rw [ex_7]
        refine lv_i2l (v := x_7.toInt64) hx hb dX7_wholeNow_37 rfl ?_
        refine lv_topl (fun x_8 ex_8 => ?_)
        have hx_8 : x_8.toInt = x_7.toInt := by rw [ex_8]; exact Jvm.Kit.i64_of_i32 _
        refine zc0_l (w := (zM k q z)) (va_runS (As := [.long x_6, .long x_8]) (rest := [.int x_4]) ⟨hx, hb, hml, hown, htb⟩ (c_X7_divisor l dC dI k x_6 x_8 _ (by omega) (by omega)) (va_cwS 2 htb (gzS wmt4_97 wmt4_98 wmt1_8 wmt4_99) rfl rfl rfl (by decide +kernel) ⟨Nat.le_of_ble_eq_true rfl, Nat.le_of_ble_eq_true rfl⟩) (zp0_S hK) rfl rfl hl.1 rfl (lv_room (Nat.le_of_ble_eq_true rfl)) dX7_wholeNow_38 ⟨Nat.le_of_ble_eq_true rfl, Nat.le_of_ble_eq_true rfl⟩) hP hS hA (fun r_9 u_10 H locs w_11 hP hS => ?_)
        have h_12 := w_11
        replace h_12 : r_9.toInt = (Nat.gcd x_6.toInt.natAbs x_8.toInt.natAbs : Int) := h_12
        have hgp := zg_pos (x := x_6.toInt) (y := x_8.toInt) (by omega)
        have hgl := zg_le (x := x_6.toInt) (y := x_8.toInt) (by omega)
        have hgm := zg_le2 (x := x_6.toInt) (y := x_8.toInt)
        refine lv_l2i (v := r_9.toInt32) hx hb dX7_wholeNow_41 rfl ?_
        refine lv_topi (fun x_14 ex_14 => ?_)
        have hx_14 : x_14.toInt = r_9.toInt := by rw [ex_14]; exact Jvm.Kit.i32_of_i64 (by omega) (by omega)
        refine lv_idiv hx hb dX7_wholeNow_42 (z_i0ne (by omega)) ?_
        refine lv_topi (fun x_15 ex_15 => ?_)
        have hx_15 := zi_div ex_15 rfl rfl (by omega) (by omega)
        refine lv_istore_n (lv' := [(3, .int x_15), (2, .int i), (1, .int wh), (0, .ref (q 0))]) hx hb dX7_wholeNow_43 rfl hl (by decide) rfl (fun ls hl => ?_)
        refine lv_iload_n hx hb dX7_wholeNow_44 rfl (lv_at hl 2 rfl) ?_
        refine lv_iload_n hx hb dX7_wholeNow_45 rfl (lv_at hl 2 rfl) ?_
        refine lv_i2l (v := wh.toInt64) hx hb dX7_wholeNow_46 rfl ?_
        refine lv_topl (fun x_16 ex_16 => ?_)
        have hx_16 : x_16.toInt = wh.toInt := by rw [ex_16]; exact Jvm.Kit.i64_of_i32 _
        refine lv_iload_n hx hb dX7_wholeNow_47 rfl (lv_at hl 0 rfl) ?_
        refine lv_i2l (v := x_15.toInt64) hx hb dX7_wholeNow_48 rfl ?_
        refine lv_topl (fun x_17 ex_17 => ?_)
        have hx_17 : x_17.toInt = x_15.toInt := by rw [ex_17]; exact Jvm.Kit.i64_of_i32 _
        refine zc0_l (w := (zM k q z)) (va_runS (As := [.long x_16, .long x_17]) (rest := [.int wh]) ⟨hx, hb, hml, hown, htb⟩ (c_X7_divisor l dC dI k x_16 x_17 _ (by omega) (by omega)) (va_cwS 2 htb (gzS wmt4_97 wmt4_98 wmt1_8 wmt4_99) rfl rfl rfl (by decide +kernel) ⟨Nat.le_of_ble_eq_true rfl, Nat.le_of_ble_eq_true rfl⟩) (zp0_S hK) rfl rfl hl.1 rfl (lv_room (Nat.le_of_ble_eq_true rfl)) dX7_wholeNow_49 ⟨Nat.le_of_ble_eq_true rfl, Nat.le_of_ble_eq_true rfl⟩) hP hS hA (fun r_18 u_19 H locs w_20 hP hS => ?_)
        have h_21 := w_20
        replace h_21 : r_18.toInt = (Nat.gcd x_16.toInt.natAbs x_17.toInt.natAbs : Int) := h_21
        have hgp := zg_pos (x := x_16.toInt) (y := x_17.toInt) (by omega)
        have hgl := zg_le (x := x_16.toInt) (y := x_17.toInt) (by omega)
        have hgm := zg_le2 (x := x_16.toInt) (y := x_17.toInt)
        refine lv_l2i (v := r_18.toInt32) hx hb dX7_wholeNow_52 rfl ?_
        refine lv_topi (fun x_23 ex_23 => ?_)
        have hx_23 : x_23.toInt = r_18.toInt := by rw [ex_23]; exact Jvm.Kit.i32_of_i64 (by omega) (by omega)
        refine lv_idiv hx hb dX7_wholeNow_53 (z_i0ne (by omega)) ?_
        refine lv_topi (fun x_24 ex_24 => ?_)
        have hx_24 := zi_div ex_24 rfl rfl (by omega) (by omega)
        refine lv_iload_n hx hb dX7_wholeNow_54 rfl (lv_at hl 0 rfl) ?_
        refine lv_imul hx hb dX7_wholeNow_55 ?_
        refine lv_topi (fun x_25 ex_25 => ?_)
        have px_25 : 1 * 1 ≤ x_24.toInt * x_15.toInt := Int.mul_le_mul (by omega) (by omega) (by decide) (by omega)
        have qx_25 := z_mulb (a := x_24.toInt) (b := x_15.toInt) (A := 24) (B := 20) (by omega) (by omega)
        have hx_25 := z_mul ex_25 rfl rfl (by omega)
        refine lv_istore_n (lv' := [(1, .int x_25), (3, .int x_15), (2, .int i), (0, .ref (q 0))]) hx hb dX7_wholeNow_56 rfl hl (by decide) rfl (fun ls hl => ?_)
        obtain ⟨x_26, ex_26⟩ : ∃ y : Int32, y = i + 1 := ⟨_, rfl⟩
        have hx_26 : x_26.toInt = i.toInt + 1 := z_add ex_26 rfl (show (1 : Int32).toInt = 1 by decide) (by omega)
        refine lv_iinc (v := x_26) (lv' := [(2, .int x_26), (1, .int x_25), (3, .int x_15), (0, .ref (q 0))]) hx hb dX7_wholeNow_57 hl (k := 2) rfl (by rw [ex_26]; rfl) (by decide) rfl (fun ls hl => ?_)
        refine lv_goto (tgt := 4) hx hb dX7_wholeNow_60 (by decide) ?_
        exact ih4 ((15 - x_26.toInt).toNat) (by omega) x_25 x_26 ⟨(show 1 ≤ x_25.toInt ∧ x_25.toInt ≤ 480 by omega), (show 0 ≤ x_26.toInt ∧ x_26.toInt ≤ (z.1 15).toInt by omega), (by rw [show x_26.toNatClampNeg = i.toNatClampNeg + 1 by have q1 := z_clamp (x := i) (by omega); have q2 := z_clamp (x := x_26) (by omega); omega]; exact WI_step (g := x_14.toInt) (x := x_15.toInt) (g2 := x_23.toInt) (q := x_24.toInt) (w2 := x_25.toInt) hWI (fun k hk => (hpt.2.2 k (by have q1 := z_clamp hi.1; omega)).2.2.2) (by omega) hptq (by rw [hx_14, h_12, hx_6, hx_5, hx_8, hx_7]) (by rw [hx_15.1, hx_4]) (by rw [hx_23, h_21, hx_16, hx_17]) hx_24.1 hx_25)⟩ rfl H locs ls hP hS (lv_sub hl [0, 1, 3] rfl)
set_option maxHeartbeats 4000000 in
set_option maxRecDepth 100000 in
theorem c_X7_reads (l : Launch) (dC : Nat → ClassId) (dI : Nat → Nat → Nat) (k : Nat → ClassId) (q : Nat → Nat) (z : ZS) (d : Int32) (sz : Nat) (hI : MInv z) (hd : 0 ≤ d.toInt ∧ d.toInt < 4) : Met l yX7_reads (wz yX7_reads cX7_reads 5 none) ({ frames := 3, cells := 0, slots := 0, locals := 69 }) (va_Pc [.ref (q 0), .int d] (zPre dC dI k (zTX k) (zM k q z) sz)) (va_Qv (fun (u : (Nat → Int32) × (Nat → Int32) × (Nat → Int32) × (Nat → Int32) × (Nat → Int32) × (Nat → Int32) × (Nat → Int32) × Int32 × Int32 × Int32 × Int32 × (Nat → Int32) × (Nat → Int32) × (Nat → Int32)) => (MD (FR (z.2.2.1 2) (z.2.2.1 3)) u.1 u.2.1 u.2.2.1 u.2.2.2.1 u.2.2.2.2.1 u.2.2.2.2.2.1 u.2.2.2.2.2.2.1) ∧ (¬ u.1 d.toNatClampNeg = 0) ∧ (RK (z.2.2.1 4) (z.2.2.1 5) u.1 u.2.1) ∧ (R7 (z.2.2.1 4) (z.2.2.1 6) (z.2.2.1 7) (z.2.2.1 8) (z.2.2.1 9) (z.2.2.1 10) u.2.2.1 u.2.2.2.1 u.2.2.2.2.1 u.2.2.2.2.2.1 u.2.2.2.2.2.2.1)) (fun u t => zPost dC dI (va_A (zM k q z) sz) (zM k q (sA (sA (sA (sI (sI (sI (sI (sA (sA (sA (sA (sA (sA (sA z 4 u.1) 5 u.2.1) 6 u.2.2.1) 7 u.2.2.2.1) 8 u.2.2.2.2.1) 9 u.2.2.2.2.2.1) 10 u.2.2.2.2.2.2.1) 12 u.2.2.2.2.2.2.2.1) 13 u.2.2.2.2.2.2.2.2.1) 14 u.2.2.2.2.2.2.2.2.2.1) 15 u.2.2.2.2.2.2.2.2.2.2.1) 16 u.2.2.2.2.2.2.2.2.2.2.2.1) 17 u.2.2.2.2.2.2.2.2.2.2.2.2.1) 18 u.2.2.2.2.2.2.2.2.2.2.2.2.2)) t) (va_A (zM k q z) sz)) 0 0 (va_A (zM k q z) sz) := by
  refine Met.ofW (cc := cX7_reads) (maxL := 5) (ret := none) (by decide) rfl ?_
  intro p e s m args below meth c s₁ B hml hv
  obtain ⟨rfl, hsz, hP, hK, hD0⟩ := hv
  have hx := B.exec
  have hb := B.bytes
  have hr := B.returns
  have hts := atoms_spec (ws := wz yX7_reads cX7_reads 5 none) B.pre
  have htb : ∀ w ∈ zw, w.before _ s = true := fun w h => hts w (List.mem_cons_of_mem _ h)
  have hown : s.vm.findClass RX7 = some m.cls := findClass_of_methodNamed B.named
  have hlocks := B.notSynchronized
  clear hts
  subst hsz
  have hD := hD0.self (sz := s.heap.size)
  generalize hAe : va_A (zM k q z) s.heap.size = A at hD ⊢
  have hA : ∀ q : Nat, s.heap.size ≤ q → A q := fun q h => by rw [← hAe]; exact Or.inr h
  have hDa : ∀ z9 : ZS, va_D A (zM k q z9) := fun z9 => va_D_adr (w := zM k q z) rfl hD
  have hl := lv_entry ([.ref (q 0), .int d]) (n := 5) (Nat.le_of_ble_eq_true rfl)
  rw [lg_entry_eq]
  generalize (lg_sl ([.ref (q 0), .int d]) ++ List.replicate (5 - (lg_sl ([.ref (q 0), .int d])).length) Slot.unset).toArray = ls at hl ⊢
  have hl : lv_has ls 5 [(0, .ref (q 0)), (1, .int d)] := hl
  refine z_start2 (A := A) (w := (zM k q z)) hP (fun H locs hP hS => ?_)
  clear hD0 hAe
  have hmt := M4_at hI.2.2.2.1 hd
  have hz0 : (0 : Int32).toInt = 0 := by decide
  have hzm : (-1 : Int32).toInt = -1 := by decide
  refine lv_aload_n hx hb dX7_reads_0 rfl (lv_at hl 0 rfl) ?_
  refine va_get (D := (dC, dI)) (ci := 7) (v := .ref (q 4)) (C := RX7) (T := TX7) (N := 42) hx hb htb inw7 hown hK.1 hP 0 rfl rfl 4 (by decide) (htb _ wmt3_171) (fun _ h9 => h9) rfl dX7_reads_1 ?_
  refine lv_iload_n hx hb dX7_reads_4 rfl (lv_at hl 1 rfl) ?_
  refine va_zald (D := (dC, dI)) hx hb hK.1 hP 3 2 rfl rfl (z_in (by omega)) dX7_reads_5 ?_
  refine lv_topi (fun x_1 ex_1 => ?_)
  refine lv_if_eq (tgt := 10) hx hb dX7_reads_6 (by decide) (fun c_2 => ?_) (fun c_2 => ?_)
  · skip
    have hc_2 := zb_eq rfl (show (0 : Int32).toInt = 0 by decide) c_2
    have hrd0 := z_eq0 ex_1 hc_2
    refine lv_aload_n hx hb dX7_reads_10 rfl (lv_at hl 0 rfl) ?_
    refine va_get (D := (dC, dI)) (ci := 7) (v := .ref (q 4)) (C := RX7) (T := TX7) (N := 42) hx hb htb inw7 hown hK.1 hP 0 rfl rfl 4 (by decide) (htb _ wmt3_171) (fun _ h9 => h9) rfl dX7_reads_11 ?_
    refine lv_iload_n hx hb dX7_reads_14 rfl (lv_at hl 1 rfl) ?_
    refine lv_iconst (v := 1) hx hb dX7_reads_15 (by decide) ?_
    refine va_zast (D := (dC, dI)) hx hb hK.1 hP (hDa _) hS 3 2 rfl rfl (z_in (by omega)) dX7_reads_16 (fun H locs hP _ hS => ?_)
    obtain ⟨f_3, ef_3⟩ : ∃ x : Nat → Int32, x = upd (z.2.2.1 4) d.toNatClampNeg (vp_nar .boolean 1) := ⟨_, rfl⟩
    have hP : va_P (dC, dI) vwCl (zM k q (sA z 4 f_3)) H := by rw [ef_3]; exact hP
    have hrd4 : ¬ f_3 d.toNatClampNeg = 0 := by rw [ef_3, pk_us]; decide
    refine lv_aload_n hx hb dX7_reads_17 rfl (lv_at hl 0 rfl) ?_
    refine lv_iload_n hx hb dX7_reads_18 rfl (lv_at hl 1 rfl) ?_
    refine va_put (D := (dC, dI)) (ci := 7) (v := .int d) (ty := .int) (C := RX7) (T := TX7) (N := 42) hx hb htb inw7 tyX7 tyX7_ok nmX7 hown hK.1 hP (hDa _) hS 0 rfl rfl 12 (by decide) (htb _ wmt3_179) (fun _ h9 => h9) rfl (by decide +kernel) rfl rfl (Nat.le_of_ble_eq_true rfl) dX7_reads_19 (fun H locs hP _ hS => ?_)
    have hP : va_P (dC, dI) vwCl (zM k q (sI (sA z 4 f_3) 12 d)) H := hP
    refine lv_aload_n hx hb dX7_reads_22 rfl (lv_at hl 0 rfl) ?_
    refine lv_iconst (v := 0) hx hb dX7_reads_23 (by decide) ?_
    refine va_put (D := (dC, dI)) (ci := 7) (v := .int 0) (ty := .int) (C := RX7) (T := TX7) (N := 42) hx hb htb inw7 tyX7 tyX7_ok nmX7 hown hK.1 hP (hDa _) hS 0 rfl rfl 13 (by decide) (htb _ wmt3_180) (fun _ h9 => h9) rfl (by decide +kernel) rfl rfl (Nat.le_of_ble_eq_true rfl) dX7_reads_24 (fun H locs hP _ hS => ?_)
    have hP : va_P (dC, dI) vwCl (zM k q (sI (sI (sA z 4 f_3) 12 d) 13 0)) H := hP
    refine lv_aload_n hx hb dX7_reads_27 rfl (lv_at hl 0 rfl) ?_
    refine lv_iconst (v := (-1)) hx hb dX7_reads_28 (by decide) ?_
    refine va_put (D := (dC, dI)) (ci := 7) (v := .int (-1)) (ty := .int) (C := RX7) (T := TX7) (N := 42) hx hb htb inw7 tyX7 tyX7_ok nmX7 hown hK.1 hP (hDa _) hS 0 rfl rfl 14 (by decide) (htb _ wmt3_181) (fun _ h9 => h9) rfl (by decide +kernel) rfl rfl (Nat.le_of_ble_eq_true rfl) dX7_reads_29 (fun H locs hP _ hS => ?_)
    have hP : va_P (dC, dI) vwCl (zM k q (sI (sI (sI (sA z 4 f_3) 12 d) 13 0) 14 (-1))) H := hP
    refine lv_aload_n hx hb dX7_reads_32 rfl (lv_at hl 0 rfl) ?_
    refine lv_iconst (v := 0) hx hb dX7_reads_33 (by decide) ?_
    refine va_put (D := (dC, dI)) (ci := 7) (v := .int 0) (ty := .int) (C := RX7) (T := TX7) (N := 42) hx hb htb inw7 tyX7 tyX7_ok nmX7 hown hK.1 hP (hDa _) hS 0 rfl rfl 15 (by decide) (htb _ wmt3_182) (fun _ h9 => h9) rfl (by decide +kernel) rfl rfl (Nat.le_of_ble_eq_true rfl) dX7_reads_34 (fun H locs hP _ hS => ?_)
    have hP : va_P (dC, dI) vwCl (zM k q (sI (sI (sI (sI (sA z 4 f_3) 12 d) 13 0) 14 (-1)) 15 0)) H := hP
    refine z_join2 (dC := dC) (dI := dI) (A := A) (H0 := s.heap) (nL := 5) (α := Int32 × Int32 × Int32 × (Nat → Int32) × (Nat → Int32) × (Nat → Int32)) (Inv := fun x => (PT x.2.2.1 x.2.2.2.2.1 x.2.2.2.2.2) ∧ (x.2.1.toInt = -1 → ∀ k : Nat, k < x.2.2.1.toNatClampNeg → ¬ lT (x.2.2.2.1 k).toInt = -1) ∧ ((x.2.1.toInt = -1 ∧ pA (bRf (z.2.2.1 2) (z.2.2.1 3) d.toNatClampNeg) (z.2.2.1 2 d.toNatClampNeg).toInt = (acF (arF x.2.2.2.1 x.2.2.2.2.1 x.2.2.2.2.2 x.2.2.1.toNatClampNeg) (z.2.2.1 2 d.toNatClampNeg).toInt, arF x.2.2.2.1 x.2.2.2.2.1 x.2.2.2.2.2 x.2.2.1.toNatClampNeg)) ∨ (¬ x.2.1.toInt = -1 ∧ x.2.1.toInt = (pA (bRf (z.2.2.1 2) (z.2.2.1 3) d.toNatClampNeg) (z.2.2.1 2 d.toNatClampNeg).toInt).1))) (lv2 := fun x => [(0, .ref (q 0)), (1, .int d)]) (st2 := fun _ => []) (w2 := fun x => (zM k q (sA (sA (sA (sI (sI (sI (sI (sA z 4 f_3) 12 d) 13 x.1) 14 x.2.1) 15 x.2.2.1) 16 x.2.2.2.1) 17 x.2.2.2.2.1) 18 x.2.2.2.2.2))) 99 (fun x H locs ls hinv hP hS hl => ?_) (fun hj99 => ?_)
    · skip
      obtain ⟨at2, fa2, pa2, l2, t2, b2⟩ := x
      obtain ⟨hpt, hLV, hend⟩ := hinv
      replace hpt : PT pa2 t2 b2 := hpt
      replace hLV : fa2.toInt = -1 → ∀ k : Nat, k < pa2.toNatClampNeg → ¬ lT (l2 k).toInt = -1 := hLV
      replace hend : (fa2.toInt = -1 ∧ pA (bRf (z.2.2.1 2) (z.2.2.1 3) d.toNatClampNeg) (z.2.2.1 2 d.toNatClampNeg).toInt = (acF (arF l2 t2 b2 pa2.toNatClampNeg) (z.2.2.1 2 d.toNatClampNeg).toInt, arF l2 t2 b2 pa2.toNatClampNeg)) ∨ (¬ fa2.toInt = -1 ∧ fa2.toInt = (pA (bRf (z.2.2.1 2) (z.2.2.1 3) d.toNatClampNeg) (z.2.2.1 2 d.toNatClampNeg).toInt).1) := hend
      have hP : va_P (dC, dI) vwCl (zM k q (sA (sA (sA (sI (sI (sI (sI (sA z 4 f_3) 12 d) 13 at2) 14 fa2) 15 pa2) 16 l2) 17 t2) 18 b2)) H := hP
      have hl : lv_has ls 5 [(0, .ref (q 0)), (1, .int d)] := hl
      refine z_join2 (dC := dC) (dI := dI) (A := A) (H0 := s.heap) (nL := 5) (α := Int32) (Inv := fun x => (1 ≤ x.toInt ∧ x.toInt ≤ 480) ∧ (fa2.toInt = -1 → WI l2 t2 b2 pa2.toNatClampNeg x.toInt)) (lv2 := fun x => [(0, .ref (q 0)), (1, .int d), (2, .int x)]) (st2 := fun _ => []) (w2 := fun x => (zM k q (sA (sA (sA (sI (sI (sI (sI (sA z 4 f_3) 12 d) 13 at2) 14 fa2) 15 pa2) 16 l2) 17 t2) 18 b2))) 117 (fun x H locs ls hinv hP hS hl => ?_) (fun hj117 => ?_)
      · skip
        obtain ⟨wh, rfl⟩ : ∃ y, y = x := ⟨_, rfl⟩
        obtain ⟨hwh, hWI⟩ := hinv
        replace hwh : 1 ≤ wh.toInt ∧ wh.toInt ≤ 480 := hwh
        replace hWI : fa2.toInt = -1 → WI l2 t2 b2 pa2.toNatClampNeg wh.toInt := hWI
        have hP : va_P (dC, dI) vwCl (zM k q (sA (sA (sA (sI (sI (sI (sI (sA z 4 f_3) 12 d) 13 at2) 14 fa2) 15 pa2) 16 l2) 17 t2) 18 b2)) H := hP
        have hl : lv_has ls 5 [(0, .ref (q 0)), (1, .int d), (2, .int wh)] := hl
        refine z_join2 (dC := dC) (dI := dI) (A := A) (H0 := s.heap) (nL := 5) (α := (Nat → Int32) × (Nat → Int32) × (Nat → Int32) × (Nat → Int32) × Int32 × (Nat → Int32) × (Nat → Int32)) (Inv := fun x => (RD d.toNatClampNeg wh x.2.2.2.2.1 (z.2.2.1 7) (z.2.2.1 8) (z.2.2.1 9) (z.2.2.1 10) x.1 x.2.1 x.2.2.1 x.2.2.2.1) ∧ (x.2.2.2.2.1.toInt = (pA (bRf (z.2.2.1 2) (z.2.2.1 3) d.toNatClampNeg) (z.2.2.1 2 d.toNatClampNeg).toInt).1) ∧ (x.2.2.2.2.1.toInt = -1 → LK (pA (bRf (z.2.2.1 2) (z.2.2.1 3) d.toNatClampNeg) (z.2.2.1 2 d.toNatClampNeg).toInt).2 wh (x.1 d.toNatClampNeg) (x.2.1 d.toNatClampNeg) (x.2.2.1 d.toNatClampNeg) (x.2.2.2.1 d.toNatClampNeg))) (lv2 := fun x => [(0, .ref (q 0)), (1, .int d), (2, .int wh)]) (st2 := fun _ => []) (w2 := fun x => (zM k q (sA (sA (sI (sA (sA (sA (sA (sA (sI (sI (sI (sA z 4 f_3) 12 d) 13 at2) 15 pa2) 16 l2) 7 x.1) 8 x.2.1) 9 x.2.2.1) 10 x.2.2.2.1) 14 x.2.2.2.2.1) 17 x.2.2.2.2.2.1) 18 x.2.2.2.2.2.2))) 317 (fun x H locs ls hinv hP hS hl => ?_) (fun hj317 => ?_)
        · skip
          obtain ⟨p7, p8, p9, p10, fa3, t4, b4⟩ := x
          obtain ⟨hrd, hF, hLK⟩ := hinv
          replace hrd : RD d.toNatClampNeg wh fa3 (z.2.2.1 7) (z.2.2.1 8) (z.2.2.1 9) (z.2.2.1 10) p7 p8 p9 p10 := hrd
          replace hF : fa3.toInt = (pA (bRf (z.2.2.1 2) (z.2.2.1 3) d.toNatClampNeg) (z.2.2.1 2 d.toNatClampNeg).toInt).1 := hF
          replace hLK : fa3.toInt = -1 → LK (pA (bRf (z.2.2.1 2) (z.2.2.1 3) d.toNatClampNeg) (z.2.2.1 2 d.toNatClampNeg).toInt).2 wh (p7 d.toNatClampNeg) (p8 d.toNatClampNeg) (p9 d.toNatClampNeg) (p10 d.toNatClampNeg) := hLK
          have hP : va_P (dC, dI) vwCl (zM k q (sA (sA (sI (sA (sA (sA (sA (sA (sI (sI (sI (sA z 4 f_3) 12 d) 13 at2) 15 pa2) 16 l2) 7 p7) 8 p8) 9 p9) 10 p10) 14 fa3) 17 t4) 18 b4)) H := hP
          have hl : lv_has ls 5 [(0, .ref (q 0)), (1, .int d), (2, .int wh)] := hl
          refine lv_aload_n hx hb dX7_reads_317 rfl (lv_at hl 0 rfl) ?_
          refine va_get (D := (dC, dI)) (ci := 7) (v := .ref (q 6)) (C := RX7) (T := TX7) (N := 42) hx hb htb inw7 hown hK.1 hP 0 rfl rfl 6 (by decide) (htb _ wmt3_173) (fun _ h9 => h9) rfl dX7_reads_318 ?_
          refine lv_iload_n hx hb dX7_reads_321 rfl (lv_at hl 1 rfl) ?_
          refine lv_iload_n hx hb dX7_reads_322 rfl (lv_at hl 2 rfl) ?_
          refine va_iast (D := (dC, dI)) hx hb hK.1 hP (hDa _) hS 5 0 rfl rfl (z_in (by omega)) dX7_reads_323 (fun H locs hP _ hS => ?_)
          obtain ⟨f_4, ef_4⟩ : ∃ x : Nat → Int32, x = upd (z.2.2.1 6) d.toNatClampNeg wh := ⟨_, rfl⟩
          have hP : va_P (dC, dI) vwCl (zM k q (sA (sA (sA (sI (sA (sA (sA (sA (sA (sI (sI (sI (sA z 4 f_3) 12 d) 13 at2) 15 pa2) 16 l2) 7 p7) 8 p8) 9 p9) 10 p10) 14 fa3) 17 t4) 18 b4) 6 f_4)) H := by rw [ef_4]; exact hP
          refine lv_aload_n hx hb dX7_reads_324 rfl (lv_at hl 0 rfl) ?_
          refine va_get (D := (dC, dI)) (ci := 7) (v := .ref (q 5)) (C := RX7) (T := TX7) (N := 42) hx hb htb inw7 hown hK.1 hP 0 rfl rfl 5 (by decide) (htb _ wmt3_172) (fun _ h9 => h9) rfl dX7_reads_325 ?_
          refine lv_iload_n hx hb dX7_reads_328 rfl (lv_at hl 1 rfl) ?_
          refine lv_aload_n hx hb dX7_reads_329 rfl (lv_at hl 0 rfl) ?_
          refine va_get (D := (dC, dI)) (ci := 7) (v := .int fa3) (C := RX7) (T := TX7) (N := 42) hx hb htb inw7 hown hK.1 hP 0 rfl rfl 14 (by decide) (htb _ wmt3_181) (fun _ h9 => h9) rfl dX7_reads_330 ?_
          refine va_iast (D := (dC, dI)) hx hb hK.1 hP (hDa _) hS 4 0 rfl rfl (z_in (by omega)) dX7_reads_333 (fun H locs hP _ hS => ?_)
          obtain ⟨f_5, ef_5⟩ : ∃ x : Nat → Int32, x = upd (z.2.2.1 5) d.toNatClampNeg fa3 := ⟨_, rfl⟩
          have hP : va_P (dC, dI) vwCl (zM k q (sA (sA (sA (sA (sI (sA (sA (sA (sA (sA (sI (sI (sI (sA z 4 f_3) 12 d) 13 at2) 15 pa2) 16 l2) 7 p7) 8 p8) 9 p9) 10 p10) 14 fa3) 17 t4) 18 b4) 6 f_4) 5 f_5)) H := by rw [ef_5]; exact hP
          exact W.vret hx hb hr (fun t ht hW => ⟨⟨(f_3, f_5, f_4, p7, p8, p9, p10, d, at2, fa3, pa2, l2, t4, b4), rfl, (show (MD (FR (z.2.2.1 2) (z.2.2.1 3)) f_3 f_5 f_4 p7 p8 p9 p10) ∧ (¬ f_3 d.toNatClampNeg = 0) ∧ (RK (z.2.2.1 4) (z.2.2.1 5) f_3 f_5) ∧ (R7 (z.2.2.1 4) (z.2.2.1 6) (z.2.2.1 7) (z.2.2.1 8) (z.2.2.1 9) (z.2.2.1 10) f_4 p7 p8 p9 p10) from ⟨MD_read hI.2.2.2.2.2 ef_3 ef_5 ef_4 hrd hwh ⟨hF, hLK⟩, hrd4, RK_upd ef_3 ef_5 hrd0, R7_upd ef_4 hrd hrd0⟩), ⟨by rw [ht]; exact hP, hDa _⟩⟩, hS.F ht⟩) hS.2.2 dX7_reads_334
        · skip
          refine lv_aload_n hx hb dX7_reads_117 rfl (lv_at hl 0 rfl) ?_
          refine va_get (D := (dC, dI)) (ci := 7) (v := .int fa2) (C := RX7) (T := TX7) (N := 42) hx hb htb inw7 hown hK.1 hP 0 rfl rfl 14 (by decide) (htb _ wmt3_181) (fun _ h9 => h9) rfl dX7_reads_118 ?_
          refine lv_iconst (v := (-1)) hx hb dX7_reads_121 (by decide) ?_
          refine lv_icmp_ne (tgt := 299) hx hb dX7_reads_122 (by decide) (fun c_6 => ?_) (fun c_6 => ?_)
          · skip
            have hc_6 := zb_ne rfl (show ((-1) : Int32).toInt = (-1) by decide) c_6
            refine lv_aload_n hx hb dX7_reads_299 rfl (lv_at hl 0 rfl) ?_
            refine va_get (D := (dC, dI)) (ci := 7) (v := .int fa2) (C := RX7) (T := TX7) (N := 42) hx hb htb inw7 hown hK.1 hP 0 rfl rfl 14 (by decide) (htb _ wmt3_181) (fun _ h9 => h9) rfl dX7_reads_300 ?_
            refine lv_iconst (v := (-1)) hx hb dX7_reads_303 (by decide) ?_
            refine lv_icmp_ne (tgt := 317) hx hb dX7_reads_304 (by decide) (fun c_7 => ?_) (fun c_7 => ?_)
            · skip
              have hc_7 := zb_ne rfl (show ((-1) : Int32).toInt = (-1) by decide) c_7
              exact hj317 (z.2.2.1 7, z.2.2.1 8, z.2.2.1 9, z.2.2.1 10, fa2, t2, b2) H locs ls ⟨(show RD d.toNatClampNeg wh fa2 (z.2.2.1 7) (z.2.2.1 8) (z.2.2.1 9) (z.2.2.1 10) (z.2.2.1 7) (z.2.2.1 8) (z.2.2.1 9) (z.2.2.1 10) from (RD_same (f := fa2) (w := wh) hI.2.2.2.2.2 (z_cl4 hd) (by omega))), (show fa2.toInt = (pA (bRf (z.2.2.1 2) (z.2.2.1 3) d.toNatClampNeg) (z.2.2.1 2 d.toNatClampNeg).toInt).1 from (by rcases hend with q8 | q8; omega; exact q8.2)), (show fa2.toInt = -1 → LK (pA (bRf (z.2.2.1 2) (z.2.2.1 3) d.toNatClampNeg) (z.2.2.1 2 d.toNatClampNeg).toInt).2 wh ((z.2.2.1 7) d.toNatClampNeg) ((z.2.2.1 8) d.toNatClampNeg) ((z.2.2.1 9) d.toNatClampNeg) ((z.2.2.1 10) d.toNatClampNeg) from (fun q9 => absurd q9 (by omega)))⟩ hP hS (lv_sub hl [0, 1, 2] rfl)
            · skip
              have hc_7 := zb_eq rfl (show ((-1) : Int32).toInt = (-1) by decide) c_7
              refine lv_aload_n hx hb dX7_reads_307 rfl (lv_at hl 0 rfl) ?_
              refine lv_aload_n hx hb dX7_reads_308 rfl (lv_at hl 0 rfl) ?_
              refine va_get (D := (dC, dI)) (ci := 7) (v := .ref (q 2)) (C := RX7) (T := TX7) (N := 42) hx hb htb inw7 hown hK.1 hP 0 rfl rfl 2 (by decide) (htb _ wmt3_169) (fun _ h9 => h9) rfl dX7_reads_309 ?_
              refine lv_iload_n hx hb dX7_reads_312 rfl (lv_at hl 1 rfl) ?_
              refine va_iald (D := (dC, dI)) hx hb hK.1 hP 1 0 rfl rfl (z_in (by omega)) dX7_reads_313 ?_
              refine lv_topi (fun x_8 ex_8 => ?_)
              replace ex_8 : x_8 = (z.2.2.1 2) d.toNatClampNeg := ex_8
              have hx_8 : x_8.toInt = ((z.2.2.1 2) d.toNatClampNeg).toInt := by rw [ex_8]
              have hmx_8 := M4_at hI.2.2.2.1 hd
              refine va_put (D := (dC, dI)) (ci := 7) (v := .int x_8) (ty := .int) (C := RX7) (T := TX7) (N := 42) hx hb htb inw7 tyX7 tyX7_ok nmX7 hown hK.1 hP (hDa _) hS 0 rfl rfl 14 (by decide) (htb _ wmt3_181) (fun _ h9 => h9) rfl (by decide +kernel) rfl rfl (Nat.le_of_ble_eq_true rfl) dX7_reads_314 (fun H locs hP _ hS => ?_)
              have hP : va_P (dC, dI) vwCl (zM k q (sI (sA (sA (sA (sI (sI (sI (sA z 4 f_3) 12 d) 13 at2) 15 pa2) 16 l2) 17 t2) 18 b2) 14 x_8)) H := hP
              exact hj317 (z.2.2.1 7, z.2.2.1 8, z.2.2.1 9, z.2.2.1 10, x_8, t2, b2) H locs ls ⟨(show RD d.toNatClampNeg wh x_8 (z.2.2.1 7) (z.2.2.1 8) (z.2.2.1 9) (z.2.2.1 10) (z.2.2.1 7) (z.2.2.1 8) (z.2.2.1 9) (z.2.2.1 10) from (RD_same (f := x_8) (w := wh) hI.2.2.2.2.2 (z_cl4 hd) (by omega))), (show x_8.toInt = (pA (bRf (z.2.2.1 2) (z.2.2.1 3) d.toNatClampNeg) (z.2.2.1 2 d.toNatClampNeg).toInt).1 from (by exfalso; omega)), (show x_8.toInt = -1 → LK (pA (bRf (z.2.2.1 2) (z.2.2.1 3) d.toNatClampNeg) (z.2.2.1 2 d.toNatClampNeg).toInt).2 wh ((z.2.2.1 7) d.toNatClampNeg) ((z.2.2.1 8) d.toNatClampNeg) ((z.2.2.1 9) d.toNatClampNeg) ((z.2.2.1 10) d.toNatClampNeg) from (fun q9 => absurd q9 (by omega)))⟩ hP hS (lv_sub hl [0, 1, 2] rfl)
          · skip
            have hc_6 := zb_eq rfl (show ((-1) : Int32).toInt = (-1) by decide) c_6
            refine lv_iload_n hx hb dX7_reads_125 rfl (lv_at hl 2 rfl) ?_
            refine lv_bipush (v := 25) hx hb dX7_reads_126 (by decide) ?_
            refine lv_icmp_ge (tgt := 299) hx hb dX7_reads_128 (by decide) (fun c_9 => ?_) (fun c_9 => ?_)
            · skip
              have hc_9 := zb_le (show (25 : Int32).toInt = 25 by decide) rfl c_9
              refine lv_aload_n hx hb dX7_reads_299 rfl (lv_at hl 0 rfl) ?_
              refine va_get (D := (dC, dI)) (ci := 7) (v := .int fa2) (C := RX7) (T := TX7) (N := 42) hx hb htb inw7 hown hK.1 hP 0 rfl rfl 14 (by decide) (htb _ wmt3_181) (fun _ h9 => h9) rfl dX7_reads_300 ?_
              refine lv_iconst (v := (-1)) hx hb dX7_reads_303 (by decide) ?_
              refine lv_icmp_ne (tgt := 317) hx hb dX7_reads_304 (by decide) (fun c_10 => ?_) (fun c_10 => ?_)
              · skip
                have hc_10 := zb_ne rfl (show ((-1) : Int32).toInt = (-1) by decide) c_10
                exact hj317 (z.2.2.1 7, z.2.2.1 8, z.2.2.1 9, z.2.2.1 10, fa2, t2, b2) H locs ls ⟨(show RD d.toNatClampNeg wh fa2 (z.2.2.1 7) (z.2.2.1 8) (z.2.2.1 9) (z.2.2.1 10) (z.2.2.1 7) (z.2.2.1 8) (z.2.2.1 9) (z.2.2.1 10) from (RD_same (f := fa2) (w := wh) hI.2.2.2.2.2 (z_cl4 hd) (by omega))), (show fa2.toInt = (pA (bRf (z.2.2.1 2) (z.2.2.1 3) d.toNatClampNeg) (z.2.2.1 2 d.toNatClampNeg).toInt).1 from ((show fa2.toInt = (z.2.2.1 2 d.toNatClampNeg).toInt by omega).trans ((rd_end2 (hWI (by omega)) (by omega)).trans (show (pA (bRf (z.2.2.1 2) (z.2.2.1 3) d.toNatClampNeg) (z.2.2.1 2 d.toNatClampNeg).toInt).1 = acF (arF l2 t2 b2 pa2.toNatClampNeg) (z.2.2.1 2 d.toNatClampNeg).toInt by rcases hend with q8 | q8; exact congrArg Prod.fst q8.2; omega).symm))), (show fa2.toInt = -1 → LK (pA (bRf (z.2.2.1 2) (z.2.2.1 3) d.toNatClampNeg) (z.2.2.1 2 d.toNatClampNeg).toInt).2 wh ((z.2.2.1 7) d.toNatClampNeg) ((z.2.2.1 8) d.toNatClampNeg) ((z.2.2.1 9) d.toNatClampNeg) ((z.2.2.1 10) d.toNatClampNeg) from (fun q9 => absurd q9 (by omega)))⟩ hP hS (lv_sub hl [0, 1, 2] rfl)
              · skip
                have hc_10 := zb_eq rfl (show ((-1) : Int32).toInt = (-1) by decide) c_10
                refine lv_aload_n hx hb dX7_reads_307 rfl (lv_at hl 0 rfl) ?_
                refine lv_aload_n hx hb dX7_reads_308 rfl (lv_at hl 0 rfl) ?_
                refine va_get (D := (dC, dI)) (ci := 7) (v := .ref (q 2)) (C := RX7) (T := TX7) (N := 42) hx hb htb inw7 hown hK.1 hP 0 rfl rfl 2 (by decide) (htb _ wmt3_169) (fun _ h9 => h9) rfl dX7_reads_309 ?_
                refine lv_iload_n hx hb dX7_reads_312 rfl (lv_at hl 1 rfl) ?_
                refine va_iald (D := (dC, dI)) hx hb hK.1 hP 1 0 rfl rfl (z_in (by omega)) dX7_reads_313 ?_
                refine lv_topi (fun x_11 ex_11 => ?_)
                replace ex_11 : x_11 = (z.2.2.1 2) d.toNatClampNeg := ex_11
                have hx_11 : x_11.toInt = ((z.2.2.1 2) d.toNatClampNeg).toInt := by rw [ex_11]
                have hmx_11 := M4_at hI.2.2.2.1 hd
                refine va_put (D := (dC, dI)) (ci := 7) (v := .int x_11) (ty := .int) (C := RX7) (T := TX7) (N := 42) hx hb htb inw7 tyX7 tyX7_ok nmX7 hown hK.1 hP (hDa _) hS 0 rfl rfl 14 (by decide) (htb _ wmt3_181) (fun _ h9 => h9) rfl (by decide +kernel) rfl rfl (Nat.le_of_ble_eq_true rfl) dX7_reads_314 (fun H locs hP _ hS => ?_)
                have hP : va_P (dC, dI) vwCl (zM k q (sI (sA (sA (sA (sI (sI (sI (sA z 4 f_3) 12 d) 13 at2) 15 pa2) 16 l2) 17 t2) 18 b2) 14 x_11)) H := hP
                exact hj317 (z.2.2.1 7, z.2.2.1 8, z.2.2.1 9, z.2.2.1 10, x_11, t2, b2) H locs ls ⟨(show RD d.toNatClampNeg wh x_11 (z.2.2.1 7) (z.2.2.1 8) (z.2.2.1 9) (z.2.2.1 10) (z.2.2.1 7) (z.2.2.1 8) (z.2.2.1 9) (z.2.2.1 10) from (RD_same (f := x_11) (w := wh) hI.2.2.2.2.2 (z_cl4 hd) (by omega))), (show x_11.toInt = (pA (bRf (z.2.2.1 2) (z.2.2.1 3) d.toNatClampNeg) (z.2.2.1 2 d.toNatClampNeg).toInt).1 from ((show x_11.toInt = (z.2.2.1 2 d.toNatClampNeg).toInt by omega).trans ((rd_end2 (hWI (by omega)) (by omega)).trans (show (pA (bRf (z.2.2.1 2) (z.2.2.1 3) d.toNatClampNeg) (z.2.2.1 2 d.toNatClampNeg).toInt).1 = acF (arF l2 t2 b2 pa2.toNatClampNeg) (z.2.2.1 2 d.toNatClampNeg).toInt by rcases hend with q8 | q8; exact congrArg Prod.fst q8.2; omega).symm))), (show x_11.toInt = -1 → LK (pA (bRf (z.2.2.1 2) (z.2.2.1 3) d.toNatClampNeg) (z.2.2.1 2 d.toNatClampNeg).toInt).2 wh ((z.2.2.1 7) d.toNatClampNeg) ((z.2.2.1 8) d.toNatClampNeg) ((z.2.2.1 9) d.toNatClampNeg) ((z.2.2.1 10) d.toNatClampNeg) from (fun q9 => absurd q9 (by omega)))⟩ hP hS (lv_sub hl [0, 1, 2] rfl)
            · skip
              have hc_9 := zb_nle (show (25 : Int32).toInt = 25 by decide) rfl c_9
              refine lv_iconst (v := 0) hx hb dX7_reads_131 (by decide) ?_
              refine lv_istore_n (lv' := [(3, .int 0), (0, .ref (q 0)), (1, .int d), (2, .int wh)]) hx hb dX7_reads_132 rfl hl (by decide) rfl (fun ls hl => ?_)
              obtain ⟨kk, ekk⟩ : ∃ x : Int32, 0 = x := ⟨_, rfl⟩
              obtain ⟨t3, et3⟩ : ∃ x : Nat → Int32, t2 = x := ⟨_, rfl⟩
              obtain ⟨b3, eb3⟩ : ∃ x : Nat → Int32, b2 = x := ⟨_, rfl⟩
              have hv133 : (0 ≤ kk.toInt ∧ kk.toInt ≤ pa2.toInt) ∧ (PT pa2 t3 b3) ∧ (RDc pa2.toNatClampNeg t2 b2 t3 b3 kk.toInt) := by subst ekk et3 eb3; exact ⟨⟨by decide, hpt.1⟩, hpt, (RDc_0 (by decide))⟩
              replace hl : lv_has ls 5 [(3, .int kk), (0, .ref (q 0)), (1, .int d), (2, .int wh)] := by subst ekk et3 eb3; exact hl
              replace hP : va_P (dC, dI) vwCl (zM k q (sA (sA (sA (sI (sI (sI (sI (sA z 4 f_3) 12 d) 13 at2) 14 fa2) 15 pa2) 16 l2) 17 t3) 18 b3)) H := by subst et3 eb3; exact hP
              clear ekk et3 eb3
              obtain ⟨mm133, hm133⟩ : ∃ mm : Nat, mm = (15 - kk.toInt).toNat := ⟨_, rfl⟩
              refine z_cut2 hP hS hl ?_
              clear hl hP
              intro H locs ls hP hS hl
              induction mm133 using Nat.strongRecOn generalizing kk t3 b3 H locs ls with
              | _ mm133 ih133 =>
                obtain ⟨hk, hpt3, hrc⟩ := hv133
                have hp1 := hpt3.2.1
                refine lv_iload_n hx hb dX7_reads_133 rfl (lv_at hl 0 rfl) ?_
                refine lv_aload_n hx hb dX7_reads_134 rfl (lv_at hl 1 rfl) ?_
                refine va_get (D := (dC, dI)) (ci := 7) (v := .int pa2) (C := RX7) (T := TX7) (N := 42) hx hb htb inw7 hown hK.1 hP 0 rfl rfl 15 (by decide) (htb _ wmt3_182) (fun _ h9 => h9) rfl dX7_reads_135 ?_
                refine lv_icmp_ge (tgt := 189) hx hb dX7_reads_138 (by decide) (fun c_12 => ?_) (fun c_12 => ?_)
                · skip
                  have hc_12 := zb_le rfl rfl c_12
                  have hrcE : RDc pa2.toNatClampNeg t2 b2 t3 b3 (pa2.toNatClampNeg : Int) := by have q1 := z_clamp hpt.1; have e9 : kk.toInt = (pa2.toNatClampNeg : Int) := (by omega); rw [← e9]; exact hrc
                  have hptL : ∀ k : Nat, k < pa2.toNatClampNeg → (0 ≤ (t2 k).toInt ∧ (t2 k).toInt ≤ (b2 k).toInt ∧ 1 ≤ (b2 k).toInt ∧ (b2 k).toInt ≤ 20) ∧ ¬ lT (l2 k).toInt = -1 := fun k hk => ⟨hpt.2.2 k (by have q1 := z_clamp hpt.1; omega), hLV (by omega) k hk⟩
                  refine lv_aload_n hx hb dX7_reads_189 rfl (lv_at hl 1 rfl) ?_
                  refine va_get (D := (dC, dI)) (ci := 7) (v := .ref (q 7)) (C := RX7) (T := TX7) (N := 42) hx hb htb inw7 hown hK.1 hP 0 rfl rfl 7 (by decide) (htb _ wmt3_174) (fun _ h9 => h9) rfl dX7_reads_190 ?_
                  refine lv_iload_n hx hb dX7_reads_193 rfl (lv_at hl 2 rfl) ?_
                  refine lv_aload_n hx hb dX7_reads_194 rfl (lv_at hl 1 rfl) ?_
                  refine lv_bipush (v := 116) hx hb dX7_reads_195 (by decide) ?_
                  refine lv_iload_n hx hb dX7_reads_197 rfl (lv_at hl 3 rfl) ?_
                  refine zcA_i (w := (zM k q (sA (sA (sA (sI (sI (sI (sI (sA z 4 f_3) 12 d) 13 at2) 14 fa2) 15 pa2) 16 l2) 17 t3) 18 b3))) (va_runV (As := [.int 116, .int wh]) (rest := [.int d, .ref (q 7)]) ⟨hx, hb, hml, hown, htb⟩ (c_X7_shareOf l dC dI k q (sA (sA (sA (sI (sI (sI (sI (sA z 4 f_3) 12 d) 13 at2) 14 fa2) 15 pa2) 16 l2) 17 t3) 18 b3) 116 wh _ hpt3 (show 0 ≤ wh.toInt ∧ wh.toInt ≤ 24 by omega)) (cwV 2 htb (gzV wmt4_100 wmt4_102 wmp2_12 wmt1_8 wmt4_103) rfl rfl rfl (by decide +kernel) ⟨Nat.le_of_ble_eq_true rfl, Nat.le_of_ble_eq_true rfl⟩) (zpA_V (ci := 7) (q0 := 0) hK hP (hDa _) rfl rfl) rfl rfl hl.1 rfl (lv_room (Nat.le_of_ble_eq_true rfl)) dX7_reads_198 ⟨Nat.le_of_ble_eq_true rfl, Nat.le_of_ble_eq_true rfl⟩) (hDa _) hS hA (fun r_13 u_14 H locs w_15 hP _ hS => ?_)
                  obtain ⟨h_16, h_17⟩ := w_15
                  replace h_16 : 0 ≤ r_13.toInt ∧ r_13.toInt ≤ 7200 := h_16
                  replace h_17 : r_13.toInt = shM (l2) (t3) (b3) wh.toInt (116 : Int32).toInt (pa2).toNatClampNeg := h_17
                  rw [show (116 : Int32).toInt = 116 by decide] at h_17
                  have hsv0 := h_17
                  refine va_iast (D := (dC, dI)) hx hb hK.1 hP (hDa _) hS 6 0 rfl rfl (z_in (by omega)) dX7_reads_201 (fun H locs hP _ hS => ?_)
                  obtain ⟨f_19, ef_19⟩ : ∃ x : Nat → Int32, x = upd (z.2.2.1 7) d.toNatClampNeg r_13 := ⟨_, rfl⟩
                  have hP : va_P (dC, dI) vwCl (zM k q (sA (sA (sA (sA (sI (sI (sI (sI (sA z 4 f_3) 12 d) 13 at2) 14 fa2) 15 pa2) 16 l2) 17 t3) 18 b3) 7 f_19)) H := by rw [ef_19]; exact hP
                  refine lv_aload_n hx hb dX7_reads_202 rfl (lv_at hl 1 rfl) ?_
                  refine va_get (D := (dC, dI)) (ci := 7) (v := .ref (q 8)) (C := RX7) (T := TX7) (N := 42) hx hb htb inw7 hown hK.1 hP 0 rfl rfl 8 (by decide) (htb _ wmt3_175) (fun _ h9 => h9) rfl dX7_reads_203 ?_
                  refine lv_iload_n hx hb dX7_reads_206 rfl (lv_at hl 2 rfl) ?_
                  refine lv_aload_n hx hb dX7_reads_207 rfl (lv_at hl 1 rfl) ?_
                  refine lv_bipush (v := 111) hx hb dX7_reads_208 (by decide) ?_
                  refine lv_iload_n hx hb dX7_reads_210 rfl (lv_at hl 3 rfl) ?_
                  refine zcA_i (w := (zM k q (sA (sA (sA (sA (sI (sI (sI (sI (sA z 4 f_3) 12 d) 13 at2) 14 fa2) 15 pa2) 16 l2) 17 t3) 18 b3) 7 f_19))) (va_runV (As := [.int 111, .int wh]) (rest := [.int d, .ref (q 8)]) ⟨hx, hb, hml, hown, htb⟩ (c_X7_shareOf l dC dI k q (sA (sA (sA (sA (sI (sI (sI (sI (sA z 4 f_3) 12 d) 13 at2) 14 fa2) 15 pa2) 16 l2) 17 t3) 18 b3) 7 f_19) 111 wh _ hpt3 (show 0 ≤ wh.toInt ∧ wh.toInt ≤ 24 by omega)) (cwV 2 htb (gzV wmt4_100 wmt4_102 wmp2_12 wmt1_8 wmt4_103) rfl rfl rfl (by decide +kernel) ⟨Nat.le_of_ble_eq_true rfl, Nat.le_of_ble_eq_true rfl⟩) (zpA_V (ci := 7) (q0 := 0) hK hP (hDa _) rfl rfl) rfl rfl hl.1 rfl (lv_room (Nat.le_of_ble_eq_true rfl)) dX7_reads_211 ⟨Nat.le_of_ble_eq_true rfl, Nat.le_of_ble_eq_true rfl⟩) (hDa _) hS hA (fun r_20 u_21 H locs w_22 hP _ hS => ?_)
                  obtain ⟨h_23, h_24⟩ := w_22
                  replace h_23 : 0 ≤ r_20.toInt ∧ r_20.toInt ≤ 7200 := h_23
                  replace h_24 : r_20.toInt = shM (l2) (t3) (b3) wh.toInt (111 : Int32).toInt (pa2).toNatClampNeg := h_24
                  rw [show (111 : Int32).toInt = 111 by decide] at h_24
                  have hsv1 := h_24
                  refine va_iast (D := (dC, dI)) hx hb hK.1 hP (hDa _) hS 7 0 rfl rfl (z_in (by omega)) dX7_reads_214 (fun H locs hP _ hS => ?_)
                  obtain ⟨f_26, ef_26⟩ : ∃ x : Nat → Int32, x = upd (z.2.2.1 8) d.toNatClampNeg r_20 := ⟨_, rfl⟩
                  have hP : va_P (dC, dI) vwCl (zM k q (sA (sA (sA (sA (sA (sI (sI (sI (sI (sA z 4 f_3) 12 d) 13 at2) 14 fa2) 15 pa2) 16 l2) 17 t3) 18 b3) 7 f_19) 8 f_26)) H := by rw [ef_26]; exact hP
                  refine lv_aload_n hx hb dX7_reads_215 rfl (lv_at hl 1 rfl) ?_
                  refine va_get (D := (dC, dI)) (ci := 7) (v := .ref (q 9)) (C := RX7) (T := TX7) (N := 42) hx hb htb inw7 hown hK.1 hP 0 rfl rfl 9 (by decide) (htb _ wmt3_176) (fun _ h9 => h9) rfl dX7_reads_216 ?_
                  refine lv_iload_n hx hb dX7_reads_219 rfl (lv_at hl 2 rfl) ?_
                  refine lv_aload_n hx hb dX7_reads_220 rfl (lv_at hl 1 rfl) ?_
                  refine lv_bipush (v := 121) hx hb dX7_reads_221 (by decide) ?_
                  refine lv_iload_n hx hb dX7_reads_223 rfl (lv_at hl 3 rfl) ?_
                  refine zcA_i (w := (zM k q (sA (sA (sA (sA (sA (sI (sI (sI (sI (sA z 4 f_3) 12 d) 13 at2) 14 fa2) 15 pa2) 16 l2) 17 t3) 18 b3) 7 f_19) 8 f_26))) (va_runV (As := [.int 121, .int wh]) (rest := [.int d, .ref (q 9)]) ⟨hx, hb, hml, hown, htb⟩ (c_X7_shareOf l dC dI k q (sA (sA (sA (sA (sA (sI (sI (sI (sI (sA z 4 f_3) 12 d) 13 at2) 14 fa2) 15 pa2) 16 l2) 17 t3) 18 b3) 7 f_19) 8 f_26) 121 wh _ hpt3 (show 0 ≤ wh.toInt ∧ wh.toInt ≤ 24 by omega)) (cwV 2 htb (gzV wmt4_100 wmt4_102 wmp2_12 wmt1_8 wmt4_103) rfl rfl rfl (by decide +kernel) ⟨Nat.le_of_ble_eq_true rfl, Nat.le_of_ble_eq_true rfl⟩) (zpA_V (ci := 7) (q0 := 0) hK hP (hDa _) rfl rfl) rfl rfl hl.1 rfl (lv_room (Nat.le_of_ble_eq_true rfl)) dX7_reads_224 ⟨Nat.le_of_ble_eq_true rfl, Nat.le_of_ble_eq_true rfl⟩) (hDa _) hS hA (fun r_27 u_28 H locs w_29 hP _ hS => ?_)
                  obtain ⟨h_30, h_31⟩ := w_29
                  replace h_30 : 0 ≤ r_27.toInt ∧ r_27.toInt ≤ 7200 := h_30
                  replace h_31 : r_27.toInt = shM (l2) (t3) (b3) wh.toInt (121 : Int32).toInt (pa2).toNatClampNeg := h_31
                  rw [show (121 : Int32).toInt = 121 by decide] at h_31
                  have hsv2 := h_31
                  refine va_iast (D := (dC, dI)) hx hb hK.1 hP (hDa _) hS 8 0 rfl rfl (z_in (by omega)) dX7_reads_227 (fun H locs hP _ hS => ?_)
                  obtain ⟨f_33, ef_33⟩ : ∃ x : Nat → Int32, x = upd (z.2.2.1 9) d.toNatClampNeg r_27 := ⟨_, rfl⟩
                  have hP : va_P (dC, dI) vwCl (zM k q (sA (sA (sA (sA (sA (sA (sI (sI (sI (sI (sA z 4 f_3) 12 d) 13 at2) 14 fa2) 15 pa2) 16 l2) 17 t3) 18 b3) 7 f_19) 8 f_26) 9 f_33)) H := by rw [ef_33]; exact hP
                  refine lv_aload_n hx hb dX7_reads_228 rfl (lv_at hl 1 rfl) ?_
                  refine va_get (D := (dC, dI)) (ci := 7) (v := .ref (q 10)) (C := RX7) (T := TX7) (N := 42) hx hb htb inw7 hown hK.1 hP 0 rfl rfl 10 (by decide) (htb _ wmt3_177) (fun _ h9 => h9) rfl dX7_reads_229 ?_
                  refine lv_iload_n hx hb dX7_reads_232 rfl (lv_at hl 2 rfl) ?_
                  refine lv_aload_n hx hb dX7_reads_233 rfl (lv_at hl 1 rfl) ?_
                  refine lv_bipush (v := 117) hx hb dX7_reads_234 (by decide) ?_
                  refine lv_iload_n hx hb dX7_reads_236 rfl (lv_at hl 3 rfl) ?_
                  refine zcA_i (w := (zM k q (sA (sA (sA (sA (sA (sA (sI (sI (sI (sI (sA z 4 f_3) 12 d) 13 at2) 14 fa2) 15 pa2) 16 l2) 17 t3) 18 b3) 7 f_19) 8 f_26) 9 f_33))) (va_runV (As := [.int 117, .int wh]) (rest := [.int d, .ref (q 10)]) ⟨hx, hb, hml, hown, htb⟩ (c_X7_shareOf l dC dI k q (sA (sA (sA (sA (sA (sA (sI (sI (sI (sI (sA z 4 f_3) 12 d) 13 at2) 14 fa2) 15 pa2) 16 l2) 17 t3) 18 b3) 7 f_19) 8 f_26) 9 f_33) 117 wh _ hpt3 (show 0 ≤ wh.toInt ∧ wh.toInt ≤ 24 by omega)) (cwV 2 htb (gzV wmt4_100 wmt4_102 wmp2_12 wmt1_8 wmt4_103) rfl rfl rfl (by decide +kernel) ⟨Nat.le_of_ble_eq_true rfl, Nat.le_of_ble_eq_true rfl⟩) (zpA_V (ci := 7) (q0 := 0) hK hP (hDa _) rfl rfl) rfl rfl hl.1 rfl (lv_room (Nat.le_of_ble_eq_true rfl)) dX7_reads_237 ⟨Nat.le_of_ble_eq_true rfl, Nat.le_of_ble_eq_true rfl⟩) (hDa _) hS hA (fun r_34 u_35 H locs w_36 hP _ hS => ?_)
                  obtain ⟨h_37, h_38⟩ := w_36
                  replace h_37 : 0 ≤ r_34.toInt ∧ r_34.toInt ≤ 7200 := h_37
                  replace h_38 : r_34.toInt = shM (l2) (t3) (b3) wh.toInt (117 : Int32).toInt (pa2).toNatClampNeg := h_38
                  rw [show (117 : Int32).toInt = 117 by decide] at h_38
                  have hsv3 := h_38
                  refine va_iast (D := (dC, dI)) hx hb hK.1 hP (hDa _) hS 9 0 rfl rfl (z_in (by omega)) dX7_reads_240 (fun H locs hP _ hS => ?_)
                  obtain ⟨f_40, ef_40⟩ : ∃ x : Nat → Int32, x = upd (z.2.2.1 10) d.toNatClampNeg r_34 := ⟨_, rfl⟩
                  have hP : va_P (dC, dI) vwCl (zM k q (sA (sA (sA (sA (sA (sA (sA (sI (sI (sI (sI (sA z 4 f_3) 12 d) 13 at2) 14 fa2) 15 pa2) 16 l2) 17 t3) 18 b3) 7 f_19) 8 f_26) 9 f_33) 10 f_40)) H := by rw [ef_40]; exact hP
                  refine lv_aload_n hx hb dX7_reads_241 rfl (lv_at hl 1 rfl) ?_
                  refine va_get (D := (dC, dI)) (ci := 7) (v := .ref (q 7)) (C := RX7) (T := TX7) (N := 42) hx hb htb inw7 hown hK.1 hP 0 rfl rfl 7 (by decide) (htb _ wmt3_174) (fun _ h9 => h9) rfl dX7_reads_242 ?_
                  refine lv_iload_n hx hb dX7_reads_245 rfl (lv_at hl 2 rfl) ?_
                  refine va_iald (D := (dC, dI)) hx hb hK.1 hP 6 0 rfl rfl (z_in (by omega)) dX7_reads_246 ?_
                  refine lv_topi (fun x_41 ex_41 => ?_)
                  replace ex_41 : x_41 = f_19 d.toNatClampNeg := ex_41
                  have hx_41 : x_41.toInt = r_13.toInt := by rw [ex_41, ef_19, pk_us]
                  refine lv_aload_n hx hb dX7_reads_247 rfl (lv_at hl 1 rfl) ?_
                  refine va_get (D := (dC, dI)) (ci := 7) (v := .ref (q 8)) (C := RX7) (T := TX7) (N := 42) hx hb htb inw7 hown hK.1 hP 0 rfl rfl 8 (by decide) (htb _ wmt3_175) (fun _ h9 => h9) rfl dX7_reads_248 ?_
                  refine lv_iload_n hx hb dX7_reads_251 rfl (lv_at hl 2 rfl) ?_
                  refine va_iald (D := (dC, dI)) hx hb hK.1 hP 7 0 rfl rfl (z_in (by omega)) dX7_reads_252 ?_
                  refine lv_topi (fun x_42 ex_42 => ?_)
                  replace ex_42 : x_42 = f_26 d.toNatClampNeg := ex_42
                  have hx_42 : x_42.toInt = r_20.toInt := by rw [ex_42, ef_26, pk_us]
                  refine lv_iadd hx hb dX7_reads_253 ?_
                  refine lv_topi (fun x_43 ex_43 => ?_)
                  have hx_43 := z_add ex_43 rfl rfl (by omega)
                  refine lv_aload_n hx hb dX7_reads_254 rfl (lv_at hl 1 rfl) ?_
                  refine va_get (D := (dC, dI)) (ci := 7) (v := .ref (q 9)) (C := RX7) (T := TX7) (N := 42) hx hb htb inw7 hown hK.1 hP 0 rfl rfl 9 (by decide) (htb _ wmt3_176) (fun _ h9 => h9) rfl dX7_reads_255 ?_
                  refine lv_iload_n hx hb dX7_reads_258 rfl (lv_at hl 2 rfl) ?_
                  refine va_iald (D := (dC, dI)) hx hb hK.1 hP 8 0 rfl rfl (z_in (by omega)) dX7_reads_259 ?_
                  refine lv_topi (fun x_44 ex_44 => ?_)
                  replace ex_44 : x_44 = f_33 d.toNatClampNeg := ex_44
                  have hx_44 : x_44.toInt = r_27.toInt := by rw [ex_44, ef_33, pk_us]
                  refine lv_iadd hx hb dX7_reads_260 ?_
                  refine lv_topi (fun x_45 ex_45 => ?_)
                  have hx_45 := z_add ex_45 rfl rfl (by omega)
                  refine lv_aload_n hx hb dX7_reads_261 rfl (lv_at hl 1 rfl) ?_
                  refine va_get (D := (dC, dI)) (ci := 7) (v := .ref (q 10)) (C := RX7) (T := TX7) (N := 42) hx hb htb inw7 hown hK.1 hP 0 rfl rfl 10 (by decide) (htb _ wmt3_177) (fun _ h9 => h9) rfl dX7_reads_262 ?_
                  refine lv_iload_n hx hb dX7_reads_265 rfl (lv_at hl 2 rfl) ?_
                  refine va_iald (D := (dC, dI)) hx hb hK.1 hP 9 0 rfl rfl (z_in (by omega)) dX7_reads_266 ?_
                  refine lv_topi (fun x_46 ex_46 => ?_)
                  replace ex_46 : x_46 = f_40 d.toNatClampNeg := ex_46
                  have hx_46 : x_46.toInt = r_34.toInt := by rw [ex_46, ef_40, pk_us]
                  refine lv_iadd hx hb dX7_reads_267 ?_
                  refine lv_topi (fun x_47 ex_47 => ?_)
                  have hx_47 := z_add ex_47 rfl rfl (by omega)
                  refine lv_aload_n hx hb dX7_reads_268 rfl (lv_at hl 1 rfl) ?_
                  refine lv_bipush (v := 110) hx hb dX7_reads_269 (by decide) ?_
                  refine lv_iload_n hx hb dX7_reads_271 rfl (lv_at hl 3 rfl) ?_
                  refine zcA_i (w := (zM k q (sA (sA (sA (sA (sA (sA (sA (sI (sI (sI (sI (sA z 4 f_3) 12 d) 13 at2) 14 fa2) 15 pa2) 16 l2) 17 t3) 18 b3) 7 f_19) 8 f_26) 9 f_33) 10 f_40))) (va_runV (As := [.int 110, .int wh]) (rest := [.int x_47]) ⟨hx, hb, hml, hown, htb⟩ (c_X7_shareOf l dC dI k q (sA (sA (sA (sA (sA (sA (sA (sI (sI (sI (sI (sA z 4 f_3) 12 d) 13 at2) 14 fa2) 15 pa2) 16 l2) 17 t3) 18 b3) 7 f_19) 8 f_26) 9 f_33) 10 f_40) 110 wh _ hpt3 (show 0 ≤ wh.toInt ∧ wh.toInt ≤ 24 by omega)) (cwV 2 htb (gzV wmt4_100 wmt4_102 wmp2_12 wmt1_8 wmt4_103) rfl rfl rfl (by decide +kernel) ⟨Nat.le_of_ble_eq_true rfl, Nat.le_of_ble_eq_true rfl⟩) (zpA_V (ci := 7) (q0 := 0) hK hP (hDa _) rfl rfl) rfl rfl hl.1 rfl (lv_room (Nat.le_of_ble_eq_true rfl)) dX7_reads_272 ⟨Nat.le_of_ble_eq_true rfl, Nat.le_of_ble_eq_true rfl⟩) (hDa _) hS hA (fun r_48 u_49 H locs w_50 hP _ hS => ?_)
                  obtain ⟨h_51, h_52⟩ := w_50
                  replace h_51 : 0 ≤ r_48.toInt ∧ r_48.toInt ≤ 7200 := h_51
                  replace h_52 : r_48.toInt = shM (l2) (t3) (b3) wh.toInt (110 : Int32).toInt (pa2).toNatClampNeg := h_52
                  rw [show (110 : Int32).toInt = 110 by decide] at h_52
                  have hsv4 := h_52
                  refine lv_iadd hx hb dX7_reads_275 ?_
                  refine lv_topi (fun x_54 ex_54 => ?_)
                  have hx_54 := z_add ex_54 rfl rfl (by omega)
                  refine lv_istore_n (lv' := [(3, .int x_54), (0, .ref (q 0)), (1, .int d), (2, .int wh)]) hx hb dX7_reads_276 rfl hl (by decide) rfl (fun ls hl => ?_)
                  refine lv_aload_n hx hb dX7_reads_277 rfl (lv_at hl 1 rfl) ?_
                  refine lv_iload_n hx hb dX7_reads_278 rfl (lv_at hl 0 rfl) ?_
                  refine lv_iload_n hx hb dX7_reads_279 rfl (lv_at hl 3 rfl) ?_
                  refine lv_icmp_ne (tgt := 287) hx hb dX7_reads_280 (by decide) (fun c_55 => ?_) (fun c_55 => ?_)
                  · skip
                    have hc_55 := zb_ne rfl rfl c_55
                    refine lv_aload_n hx hb dX7_reads_287 rfl (lv_at hl 1 rfl) ?_
                    refine va_get (D := (dC, dI)) (ci := 7) (v := .ref (q 2)) (C := RX7) (T := TX7) (N := 42) hx hb htb inw7 hown hK.1 hP 0 rfl rfl 2 (by decide) (htb _ wmt3_169) (fun _ h9 => h9) rfl dX7_reads_288 ?_
                    refine lv_iload_n hx hb dX7_reads_291 rfl (lv_at hl 2 rfl) ?_
                    refine va_iald (D := (dC, dI)) hx hb hK.1 hP 1 0 rfl rfl (z_in (by omega)) dX7_reads_292 ?_
                    refine lv_topi (fun x_56 ex_56 => ?_)
                    replace ex_56 : x_56 = (z.2.2.1 2) d.toNatClampNeg := ex_56
                    have hx_56 : x_56.toInt = ((z.2.2.1 2) d.toNatClampNeg).toInt := by rw [ex_56]
                    have hmx_56 := M4_at hI.2.2.2.1 hd
                    refine va_put (D := (dC, dI)) (ci := 7) (v := .int x_56) (ty := .int) (C := RX7) (T := TX7) (N := 42) hx hb htb inw7 tyX7 tyX7_ok nmX7 hown hK.1 hP (hDa _) hS 0 rfl rfl 14 (by decide) (htb _ wmt3_181) (fun _ h9 => h9) rfl (by decide +kernel) rfl rfl (Nat.le_of_ble_eq_true rfl) dX7_reads_293 (fun H locs hP _ hS => ?_)
                    have hP : va_P (dC, dI) vwCl (zM k q (sI (sA (sA (sA (sA (sA (sA (sA (sI (sI (sI (sA z 4 f_3) 12 d) 13 at2) 15 pa2) 16 l2) 17 t3) 18 b3) 7 f_19) 8 f_26) 9 f_33) 10 f_40) 14 x_56)) H := hP
                    refine lv_goto (tgt := 317) hx hb dX7_reads_296 (by decide) ?_
                    exact hj317 (f_19, f_26, f_33, f_40, x_56, t3, b3) H locs ls ⟨(show RD d.toNatClampNeg wh x_56 (z.2.2.1 7) (z.2.2.1 8) (z.2.2.1 9) (z.2.2.1 10) f_19 f_26 f_33 f_40 from (RD_new (f := x_56) (w := wh) ef_19 ef_26 ef_33 ef_40 (by omega) (by omega) (by omega) (by omega) (fun q9 => by omega))), (show x_56.toInt = (pA (bRf (z.2.2.1 2) (z.2.2.1 3) d.toNatClampNeg) (z.2.2.1 2 d.toNatClampNeg).toInt).1 from ((rd_end (n := (z.2.2.1 2 d.toNatClampNeg).toInt) (hWI (by omega)) (by omega) hrcE hptL (all := x_54.toInt) (by rw [← hsv0, ← hsv1, ← hsv2, ← hsv3, ← hsv4]; omega) (by omega)).trans (show (pA (bRf (z.2.2.1 2) (z.2.2.1 3) d.toNatClampNeg) (z.2.2.1 2 d.toNatClampNeg).toInt).1 = acF (arF l2 t2 b2 pa2.toNatClampNeg) (z.2.2.1 2 d.toNatClampNeg).toInt by rcases hend with q8 | q8; exact congrArg Prod.fst q8.2; omega).symm)), (show x_56.toInt = -1 → LK (pA (bRf (z.2.2.1 2) (z.2.2.1 3) d.toNatClampNeg) (z.2.2.1 2 d.toNatClampNeg).toInt).2 wh (f_19 d.toNatClampNeg) (f_26 d.toNatClampNeg) (f_33 d.toNatClampNeg) (f_40 d.toNatClampNeg) from (fun q9 => by rw [ef_19, ef_26, ef_33, ef_40, pk_us, pk_us, pk_us, pk_us]; exact rd_lk (n := (z.2.2.1 2 d.toNatClampNeg).toInt) (hWI (by omega)) (by omega) hrcE hptL hsv0 hsv1 hsv2 hsv3 (show pA (bRf (z.2.2.1 2) (z.2.2.1 3) d.toNatClampNeg) (z.2.2.1 2 d.toNatClampNeg).toInt = (acF (arF l2 t2 b2 pa2.toNatClampNeg) (z.2.2.1 2 d.toNatClampNeg).toInt, arF l2 t2 b2 pa2.toNatClampNeg) by rcases hend with q8 | q8; exact q8.2; omega) (show x_56.toInt = (pA (bRf (z.2.2.1 2) (z.2.2.1 3) d.toNatClampNeg) (z.2.2.1 2 d.toNatClampNeg).toInt).1 from ((rd_end (n := (z.2.2.1 2 d.toNatClampNeg).toInt) (hWI (by omega)) (by omega) hrcE hptL (all := x_54.toInt) (by rw [← hsv0, ← hsv1, ← hsv2, ← hsv3, ← hsv4]; omega) (by omega)).trans (show (pA (bRf (z.2.2.1 2) (z.2.2.1 3) d.toNatClampNeg) (z.2.2.1 2 d.toNatClampNeg).toInt).1 = acF (arF l2 t2 b2 pa2.toNatClampNeg) (z.2.2.1 2 d.toNatClampNeg).toInt by rcases hend with q8 | q8; exact congrArg Prod.fst q8.2; omega).symm)) q9 (by omega)))⟩ hP hS (lv_sub hl [1, 2, 3] rfl)
                  · skip
                    have hc_55 := zb_eq rfl rfl c_55
                    refine lv_iconst (v := (-1)) hx hb dX7_reads_283 (by decide) ?_
                    refine lv_goto (tgt := 293) hx hb dX7_reads_284 (by decide) ?_
                    refine va_put (D := (dC, dI)) (ci := 7) (v := .int (-1)) (ty := .int) (C := RX7) (T := TX7) (N := 42) hx hb htb inw7 tyX7 tyX7_ok nmX7 hown hK.1 hP (hDa _) hS 0 rfl rfl 14 (by decide) (htb _ wmt3_181) (fun _ h9 => h9) rfl (by decide +kernel) rfl rfl (Nat.le_of_ble_eq_true rfl) dX7_reads_293 (fun H locs hP _ hS => ?_)
                    have hP : va_P (dC, dI) vwCl (zM k q (sI (sA (sA (sA (sA (sA (sA (sA (sI (sI (sI (sA z 4 f_3) 12 d) 13 at2) 15 pa2) 16 l2) 17 t3) 18 b3) 7 f_19) 8 f_26) 9 f_33) 10 f_40) 14 (-1))) H := hP
                    refine lv_goto (tgt := 317) hx hb dX7_reads_296 (by decide) ?_
                    exact hj317 (f_19, f_26, f_33, f_40, (-1), t3, b3) H locs ls ⟨(show RD d.toNatClampNeg wh ((-1) : Int32) (z.2.2.1 7) (z.2.2.1 8) (z.2.2.1 9) (z.2.2.1 10) f_19 f_26 f_33 f_40 from (RD_new (f := (-1 : Int32)) (w := wh) ef_19 ef_26 ef_33 ef_40 (by omega) (by omega) (by omega) (by omega) (fun q9 => by omega))), (show ((-1) : Int32).toInt = (pA (bRf (z.2.2.1 2) (z.2.2.1 3) d.toNatClampNeg) (z.2.2.1 2 d.toNatClampNeg).toInt).1 from ((rd_end (n := (z.2.2.1 2 d.toNatClampNeg).toInt) (hWI (by omega)) (by omega) hrcE hptL (all := x_54.toInt) (by rw [← hsv0, ← hsv1, ← hsv2, ← hsv3, ← hsv4]; omega) (by omega)).trans (show (pA (bRf (z.2.2.1 2) (z.2.2.1 3) d.toNatClampNeg) (z.2.2.1 2 d.toNatClampNeg).toInt).1 = acF (arF l2 t2 b2 pa2.toNatClampNeg) (z.2.2.1 2 d.toNatClampNeg).toInt by rcases hend with q8 | q8; exact congrArg Prod.fst q8.2; omega).symm)), (show ((-1) : Int32).toInt = -1 → LK (pA (bRf (z.2.2.1 2) (z.2.2.1 3) d.toNatClampNeg) (z.2.2.1 2 d.toNatClampNeg).toInt).2 wh (f_19 d.toNatClampNeg) (f_26 d.toNatClampNeg) (f_33 d.toNatClampNeg) (f_40 d.toNatClampNeg) from (fun q9 => by rw [ef_19, ef_26, ef_33, ef_40, pk_us, pk_us, pk_us, pk_us]; exact rd_lk (n := (z.2.2.1 2 d.toNatClampNeg).toInt) (hWI (by omega)) (by omega) hrcE hptL hsv0 hsv1 hsv2 hsv3 (show pA (bRf (z.2.2.1 2) (z.2.2.1 3) d.toNatClampNeg) (z.2.2.1 2 d.toNatClampNeg).toInt = (acF (arF l2 t2 b2 pa2.toNatClampNeg) (z.2.2.1 2 d.toNatClampNeg).toInt, arF l2 t2 b2 pa2.toNatClampNeg) by rcases hend with q8 | q8; exact q8.2; omega) (show (-1 : Int32).toInt = (pA (bRf (z.2.2.1 2) (z.2.2.1 3) d.toNatClampNeg) (z.2.2.1 2 d.toNatClampNeg).toInt).1 from ((rd_end (n := (z.2.2.1 2 d.toNatClampNeg).toInt) (hWI (by omega)) (by omega) hrcE hptL (all := x_54.toInt) (by rw [← hsv0, ← hsv1, ← hsv2, ← hsv3, ← hsv4]; omega) (by omega)).trans (show (pA (bRf (z.2.2.1 2) (z.2.2.1 3) d.toNatClampNeg) (z.2.2.1 2 d.toNatClampNeg).toInt).1 = acF (arF l2 t2 b2 pa2.toNatClampNeg) (z.2.2.1 2 d.toNatClampNeg).toInt by rcases hend with q8 | q8; exact congrArg Prod.fst q8.2; omega).symm)) q9 (by omega)))⟩ hP hS (lv_sub hl [1, 2, 3] rfl)
                · skip
                  have hc_12 := zb_nle rfl rfl c_12
                  refine lv_aload_n hx hb dX7_reads_141 rfl (lv_at hl 1 rfl) ?_
                  refine va_get (D := (dC, dI)) (ci := 7) (v := .ref (q 17)) (C := RX7) (T := TX7) (N := 42) hx hb htb inw7 hown hK.1 hP 0 rfl rfl 17 (by decide) (htb _ wmt3_184) (fun _ h9 => h9) rfl dX7_reads_142 ?_
                  refine lv_iload_n hx hb dX7_reads_145 rfl (lv_at hl 0 rfl) ?_
                  refine va_iald (D := (dC, dI)) hx hb hK.1 hP 11 0 rfl rfl (z_in (by omega)) dX7_reads_146 ?_
                  refine lv_topi (fun x_57 ex_57 => ?_)
                  replace ex_57 : x_57 = t3 kk.toNatClampNeg := ex_57
                  have hx_57 : x_57.toInt = (t3 kk.toNatClampNeg).toInt := by rw [ex_57]
                  have hptq := PT_at hpt3 hk.1 (show kk.toInt < pa2.toInt by omega)
                  have hpt9 := PT_at hpt hk.1 (show kk.toInt < pa2.toInt by omega)
                  refine lv_i2l (v := x_57.toInt64) hx hb dX7_reads_147 rfl ?_
                  refine lv_topl (fun x_58 ex_58 => ?_)
                  have hx_58 : x_58.toInt = x_57.toInt := by rw [ex_58]; exact Jvm.Kit.i64_of_i32 _
                  refine lv_aload_n hx hb dX7_reads_148 rfl (lv_at hl 1 rfl) ?_
                  refine va_get (D := (dC, dI)) (ci := 7) (v := .ref (q 18)) (C := RX7) (T := TX7) (N := 42) hx hb htb inw7 hown hK.1 hP 0 rfl rfl 18 (by decide) (htb _ wmt3_185) (fun _ h9 => h9) rfl dX7_reads_149 ?_
                  refine lv_iload_n hx hb dX7_reads_152 rfl (lv_at hl 0 rfl) ?_
                  refine va_iald (D := (dC, dI)) hx hb hK.1 hP 12 0 rfl rfl (z_in (by omega)) dX7_reads_153 ?_
                  refine lv_topi (fun x_59 ex_59 => ?_)
                  replace ex_59 : x_59 = b3 kk.toNatClampNeg := ex_59
                  have hx_59 : x_59.toInt = (b3 kk.toNatClampNeg).toInt := by rw [ex_59]
                  refine lv_i2l (v := x_59.toInt64) hx hb dX7_reads_154 rfl ?_
                  refine lv_topl (fun x_60 ex_60 => ?_)
                  have hx_60 : x_60.toInt = x_59.toInt := by rw [ex_60]; exact Jvm.Kit.i64_of_i32 _
                  refine zc0_l (w := (zM k q (sA (sA (sA (sI (sI (sI (sI (sA z 4 f_3) 12 d) 13 at2) 14 fa2) 15 pa2) 16 l2) 17 t3) 18 b3))) (va_runS (As := [.long x_58, .long x_60]) (rest := []) ⟨hx, hb, hml, hown, htb⟩ (c_X7_divisor l dC dI k x_58 x_60 _ (by omega) (by omega)) (va_cwS 2 htb (gzS wmt4_97 wmt4_98 wmt1_8 wmt4_99) rfl rfl rfl (by decide +kernel) ⟨Nat.le_of_ble_eq_true rfl, Nat.le_of_ble_eq_true rfl⟩) (zp0_S hK) rfl rfl hl.1 rfl (lv_room (Nat.le_of_ble_eq_true rfl)) dX7_reads_155 ⟨Nat.le_of_ble_eq_true rfl, Nat.le_of_ble_eq_true rfl⟩) hP hS hA (fun r_61 u_62 H locs w_63 hP hS => ?_)
                  have h_64 := w_63
                  replace h_64 : r_61.toInt = (Nat.gcd x_58.toInt.natAbs x_60.toInt.natAbs : Int) := h_64
                  have hgp := zg_pos (x := x_58.toInt) (y := x_60.toInt) (by omega)
                  have hgl := zg_le (x := x_58.toInt) (y := x_60.toInt) (by omega)
                  have hgm := zg_le2 (x := x_58.toInt) (y := x_60.toInt)
                  refine lv_l2i (v := r_61.toInt32) hx hb dX7_reads_158 rfl ?_
                  refine lv_topi (fun x_66 ex_66 => ?_)
                  have hx_66 : x_66.toInt = r_61.toInt := by rw [ex_66]; exact Jvm.Kit.i32_of_i64 (by omega) (by omega)
                  refine lv_istore (lv' := [(4, .int x_66), (3, .int kk), (0, .ref (q 0)), (1, .int d), (2, .int wh)]) hx hb dX7_reads_159 hl (by decide) rfl (fun ls hl => ?_)
                  refine lv_aload_n hx hb dX7_reads_161 rfl (lv_at hl 2 rfl) ?_
                  refine va_get (D := (dC, dI)) (ci := 7) (v := .ref (q 17)) (C := RX7) (T := TX7) (N := 42) hx hb htb inw7 hown hK.1 hP 0 rfl rfl 17 (by decide) (htb _ wmt3_184) (fun _ h9 => h9) rfl dX7_reads_162 ?_
                  refine lv_iload_n hx hb dX7_reads_165 rfl (lv_at hl 1 rfl) ?_
                  refine lv_dup2_11 hx hb dX7_reads_166 rfl rfl ?_
                  refine va_iald (D := (dC, dI)) hx hb hK.1 hP 11 0 rfl rfl (z_in (by omega)) dX7_reads_167 ?_
                  refine lv_topi (fun x_67 ex_67 => ?_)
                  replace ex_67 : x_67 = t3 kk.toNatClampNeg := ex_67
                  have hx_67 : x_67.toInt = (t3 kk.toNatClampNeg).toInt := by rw [ex_67]
                  refine lv_iload hx hb dX7_reads_168 (lv_at hl 0 rfl) ?_
                  refine lv_idiv hx hb dX7_reads_170 (z_i0ne (by omega)) ?_
                  refine lv_topi (fun x_68 ex_68 => ?_)
                  have hx_68 := zi_div ex_68 rfl rfl (by omega) (by omega)
                  refine va_iast (D := (dC, dI)) hx hb hK.1 hP (hDa _) hS 11 0 rfl rfl (z_in (by omega)) dX7_reads_171 (fun H locs hP _ hS => ?_)
                  obtain ⟨f_69, ef_69⟩ : ∃ x : Nat → Int32, x = upd t3 kk.toNatClampNeg x_68 := ⟨_, rfl⟩
                  have hP : va_P (dC, dI) vwCl (zM k q (sA (sA (sA (sI (sI (sI (sI (sA z 4 f_3) 12 d) 13 at2) 14 fa2) 15 pa2) 16 l2) 18 b3) 17 f_69)) H := by rw [ef_69]; exact hP
                  refine lv_aload_n hx hb dX7_reads_172 rfl (lv_at hl 2 rfl) ?_
                  refine va_get (D := (dC, dI)) (ci := 7) (v := .ref (q 18)) (C := RX7) (T := TX7) (N := 42) hx hb htb inw7 hown hK.1 hP 0 rfl rfl 18 (by decide) (htb _ wmt3_185) (fun _ h9 => h9) rfl dX7_reads_173 ?_
                  refine lv_iload_n hx hb dX7_reads_176 rfl (lv_at hl 1 rfl) ?_
                  refine lv_dup2_11 hx hb dX7_reads_177 rfl rfl ?_
                  refine va_iald (D := (dC, dI)) hx hb hK.1 hP 12 0 rfl rfl (z_in (by omega)) dX7_reads_178 ?_
                  refine lv_topi (fun x_70 ex_70 => ?_)
                  replace ex_70 : x_70 = b3 kk.toNatClampNeg := ex_70
                  have hx_70 : x_70.toInt = (b3 kk.toNatClampNeg).toInt := by rw [ex_70]
                  refine lv_iload hx hb dX7_reads_179 (lv_at hl 0 rfl) ?_
                  refine lv_idiv hx hb dX7_reads_181 (z_i0ne (by omega)) ?_
                  refine lv_topi (fun x_71 ex_71 => ?_)
                  have hx_71 := zi_div ex_71 rfl rfl (by omega) (by omega)
                  refine va_iast (D := (dC, dI)) hx hb hK.1 hP (hDa _) hS 12 0 rfl rfl (z_in (by omega)) dX7_reads_182 (fun H locs hP _ hS => ?_)
                  obtain ⟨f_72, ef_72⟩ : ∃ x : Nat → Int32, x = upd b3 kk.toNatClampNeg x_71 := ⟨_, rfl⟩
                  have hP : va_P (dC, dI) vwCl (zM k q (sA (sA (sA (sI (sI (sI (sI (sA z 4 f_3) 12 d) 13 at2) 14 fa2) 15 pa2) 16 l2) 17 f_69) 18 f_72)) H := by rw [ef_72]; exact hP
                  obtain ⟨x_73, ex_73⟩ : ∃ y : Int32, y = kk + 1 := ⟨_, rfl⟩
                  have hx_73 : x_73.toInt = kk.toInt + 1 := z_add ex_73 rfl (show (1 : Int32).toInt = 1 by decide) (by omega)
                  refine lv_iinc (v := x_73) (lv' := [(3, .int x_73), (4, .int x_66), (0, .ref (q 0)), (1, .int d), (2, .int wh)]) hx hb dX7_reads_183 hl (k := 1) rfl (by rw [ex_73]; rfl) (by decide) rfl (fun ls hl => ?_)
                  refine lv_goto (tgt := 133) hx hb dX7_reads_186 (by decide) ?_
                  exact ih133 ((15 - x_73.toInt).toNat) (by omega) x_73 f_69 f_72 ⟨(show 0 ≤ x_73.toInt ∧ x_73.toInt ≤ pa2.toInt by omega), (PT_div hpt3 hk.1 (by omega) ex_67 ex_70 ex_68 ex_71 (by omega) (by omega) ef_69 ef_72), (RDc_step hrc (by have q1 := z_clamp hpt.1; omega) (by omega) ex_67 ex_70 (by rw [hx_67, hx_70, hx_66, h_64, hx_58, hx_57, hx_60, hx_59]) hx_68.1 hx_71.1 ef_69 ef_72 hx_73)⟩ rfl H locs ls hP hS (lv_sub hl [0, 2, 3, 4] rfl)
      · skip
        refine lv_aload_n hx hb dX7_reads_99 rfl (lv_at hl 0 rfl) ?_
        refine va_get (D := (dC, dI)) (ci := 7) (v := .int fa2) (C := RX7) (T := TX7) (N := 42) hx hb htb inw7 hown hK.1 hP 0 rfl rfl 14 (by decide) (htb _ wmt3_181) (fun _ h9 => h9) rfl dX7_reads_100 ?_
        refine lv_iconst (v := (-1)) hx hb dX7_reads_103 (by decide) ?_
        refine lv_icmp_ne (tgt := 114) hx hb dX7_reads_104 (by decide) (fun c_74 => ?_) (fun c_74 => ?_)
        · skip
          have hc_74 := zb_ne rfl (show ((-1) : Int32).toInt = (-1) by decide) c_74
          refine lv_bipush (v := 25) hx hb dX7_reads_114 (by decide) ?_
          refine lv_istore_n (lv' := [(2, .int 25), (0, .ref (q 0)), (1, .int d)]) hx hb dX7_reads_116 rfl hl (by decide) rfl (fun ls hl => ?_)
          exact hj117 25 H locs ls ⟨(show 1 ≤ (25 : Int32).toInt ∧ (25 : Int32).toInt ≤ 480 from (by decide)), (show fa2.toInt = -1 → WI l2 t2 b2 pa2.toNatClampNeg (25 : Int32).toInt from (fun q9 => by omega))⟩ hP hS (lv_sub hl [1, 2, 0] rfl)
        · skip
          have hc_74 := zb_eq rfl (show ((-1) : Int32).toInt = (-1) by decide) c_74
          refine lv_aload_n hx hb dX7_reads_107 rfl (lv_at hl 0 rfl) ?_
          refine zcA_i (w := (zM k q (sA (sA (sA (sI (sI (sI (sI (sA z 4 f_3) 12 d) 13 at2) 14 fa2) 15 pa2) 16 l2) 17 t2) 18 b2))) (va_runV (As := []) (rest := []) ⟨hx, hb, hml, hown, htb⟩ (c_X7_wholeNow l dC dI k q (sA (sA (sA (sI (sI (sI (sI (sA z 4 f_3) 12 d) 13 at2) 14 fa2) 15 pa2) 16 l2) 17 t2) 18 b2) _ (show PT (pa2) (t2) (b2) by omega)) (cwV 0 htb (gzV wmt4_93 wmt4_95 wmp2_11 wmt1_8 wmt4_96) rfl rfl rfl (by decide +kernel) ⟨Nat.le_of_ble_eq_true rfl, Nat.le_of_ble_eq_true rfl⟩) (zpA_V (ci := 7) (q0 := 0) hK hP (hDa _) rfl rfl) rfl rfl hl.1 rfl (lv_room (Nat.le_of_ble_eq_true rfl)) dX7_reads_108 ⟨Nat.le_of_ble_eq_true rfl, Nat.le_of_ble_eq_true rfl⟩) (hDa _) hS hA (fun r_75 u_76 H locs w_77 hP _ hS => ?_)
          obtain ⟨h_78, h_79⟩ := w_77
          replace h_78 : 1 ≤ r_75.toInt ∧ r_75.toInt ≤ 480 := h_78
          replace h_79 : WI (l2) (t2) (b2) (pa2).toNatClampNeg r_75.toInt := h_79
          have hwi := h_79
          refine lv_goto (tgt := 116) hx hb dX7_reads_111 (by decide) ?_
          refine lv_istore_n (lv' := [(2, .int r_75), (0, .ref (q 0)), (1, .int d)]) hx hb dX7_reads_116 rfl hl (by decide) rfl (fun ls hl => ?_)
          exact hj117 r_75 H locs ls ⟨(show 1 ≤ r_75.toInt ∧ r_75.toInt ≤ 480 from (by omega)), (show fa2.toInt = -1 → WI l2 t2 b2 pa2.toNatClampNeg r_75.toInt from (fun _ => hwi))⟩ hP hS (lv_sub hl [1, 2, 0] rfl)
    · skip
      refine lv_aload_n hx hb dX7_reads_37 rfl (lv_at hl 0 rfl) ?_
      refine zcA_v (w := (zM k q (sI (sI (sI (sI (sA z 4 f_3) 12 d) 13 0) 14 (-1)) 15 0))) (va_runV (As := []) (rest := []) ⟨hx, hb, hml, hown, htb⟩ (c_X7_partRead l dC dI k q (sI (sI (sI (sI (sA z 4 f_3) 12 d) 13 0) 14 (-1)) 15 0) _ (show 0 ≤ d.toInt ∧ d.toInt < 4 from hd) hI.2.2.2.1 (show 0 ≤ (0 : Int32).toInt ∧ (0 : Int32).toInt ≤ 200 by decide) (show (-1 : Int32).toInt = -1 by decide) PT_0 (show 4 * (0 : Int32).toInt ≤ (0 : Int32).toInt by decide)) (cwV 0 htb (gzV wmt4_81 wmt4_83 wmp2_8 wmt1_8 wmt4_84) rfl rfl rfl (by decide +kernel) ⟨Nat.le_of_ble_eq_true rfl, Nat.le_of_ble_eq_true rfl⟩) (zpA_V (ci := 7) (q0 := 0) hK hP (hDa _) rfl rfl) rfl rfl hl.1 rfl (lv_room (Nat.le_of_ble_eq_true rfl)) dX7_reads_38 ⟨Nat.le_of_ble_eq_true rfl, Nat.le_of_ble_eq_true rfl⟩) (hDa _) hS hA (fun u_82 H locs w_83 hP _ hS => ?_)
      obtain ⟨oat_84, ofa_85, opa_86, ol_87, ot_88, ob_89⟩ := u_82
      have hP : va_P (dC, dI) vwCl (zM k q (sA (sA (sA (sI (sI (sI (sI (sA z 4 f_3) 12 d) 13 oat_84) 14 ofa_85) 15 opa_86) 16 ol_87) 17 ot_88) 18 ob_89)) H := hP
      obtain ⟨h_90, h_91, h_92, h_93, h_94, h_95⟩ := w_83
      replace h_90 : PT opa_86 ot_88 ob_89 := h_90
      replace h_91 : 4 * opa_86.toInt ≤ oat_84.toInt := h_91
      replace h_92 : ((0 : Int32)).toInt ≤ oat_84.toInt ∧ oat_84.toInt ≤ ((0 : Int32)).toInt + 6 := h_92
      replace h_93 : ofa_85.toInt = -1 → ((0 : Int32)).toInt < oat_84.toInt ∧ oat_84.toInt ≤ ((z.2.2.1 2) (d).toNatClampNeg).toInt := h_93
      replace h_94 : ofa_85.toInt = pX (bRf ((z.2.2.1 2)) ((z.2.2.1 3)) (d).toNatClampNeg) ((0 : Int32)).toInt := h_94
      replace h_95 : ofa_85.toInt = -1 → oat_84.toInt = a3 (bRf ((z.2.2.1 2)) ((z.2.2.1 3)) (d).toNatClampNeg) ((0 : Int32)).toInt ∧ opa_86.toInt = ((0 : Int32)).toInt + 1 ∧ (ol_87 ((0 : Int32)).toNatClampNeg).toInt = bRf ((z.2.2.1 2)) ((z.2.2.1 3)) (d).toNatClampNeg ((0 : Int32)).toInt ∧ (ot_88 ((0 : Int32)).toNatClampNeg).toInt = nV (bRf ((z.2.2.1 2)) ((z.2.2.1 3)) (d).toNatClampNeg) (((0 : Int32)).toInt + 1) ∧ (ob_89 ((0 : Int32)).toNatClampNeg).toInt = nV (bRf ((z.2.2.1 2)) ((z.2.2.1 3)) (d).toNatClampNeg) (a2 (bRf ((z.2.2.1 2)) ((z.2.2.1 3)) (d).toNatClampNeg) ((0 : Int32)).toInt + 1) ∧ (∀ k : Nat, k ≠ ((0 : Int32)).toNatClampNeg → ol_87 k = (z.2.2.1 16) k ∧ ot_88 k = (z.2.2.1 17) k ∧ ob_89 k = (z.2.2.1 18) k) := h_95
      have hprA := h_90
      have hprB := h_91
      have hprC := h_92
      have hprD := h_93
      have hprE := h_94
      have hprF := h_95
      rw [show (0 : Int32).toInt = 0 by decide, show (0 : Int32).toNatClampNeg = 0 by decide] at hprF
      rw [show (0 : Int32).toInt = 0 by decide] at hprE
      have hremn : ofa_85.toInt = -1 → pC (bRf (z.2.2.1 2) (z.2.2.1 3) d.toNatClampNeg) (z.2.2.1 2 d.toNatClampNeg).toInt (60 - opa_86.toInt).toNat oat_84.toInt (arF ol_87 ot_88 ob_89 opa_86.toNatClampNeg) = pA (bRf (z.2.2.1 2) (z.2.2.1 3) d.toNatClampNeg) (z.2.2.1 2 d.toNatClampNeg).toInt := fun q9 => by obtain ⟨w1, w2, w3, w4, w5, w6⟩ := hprF q9; rw [show (60 - opa_86.toInt).toNat = 59 by omega]; exact rd_next (p0 := 0) (show pL (bRf (z.2.2.1 2) (z.2.2.1 3) d.toNatClampNeg) (z.2.2.1 2 d.toNatClampNeg).toInt 60 0 (arF (z.2.2.1 16) (z.2.2.1 17) (z.2.2.1 18) 0) = pA (bRf (z.2.2.1 2) (z.2.2.1 3) d.toNatClampNeg) (z.2.2.1 2 d.toNatClampNeg).toInt by rw [arF_0]; rfl) (by omega) w1 (by have q1 := z_clamp (x := opa_86) hprA.1; omega) w3 w4 w5 w6
      have hfln : ¬ ofa_85.toInt = -1 → ofa_85.toInt = (pA (bRf (z.2.2.1 2) (z.2.2.1 3) d.toNatClampNeg) (z.2.2.1 2 d.toNatClampNeg).toInt).1 := fun q9 => by rw [pL_fail (f := 59 + 1) (by omega) (by omega) (show pL (bRf (z.2.2.1 2) (z.2.2.1 3) d.toNatClampNeg) (z.2.2.1 2 d.toNatClampNeg).toInt 60 0 (arF (z.2.2.1 16) (z.2.2.1 17) (z.2.2.1 18) 0) = pA (bRf (z.2.2.1 2) (z.2.2.1 3) d.toNatClampNeg) (z.2.2.1 2 d.toNatClampNeg).toInt by rw [arF_0]; rfl)]; exact hprE
      have hLVn : ofa_85.toInt = -1 → ∀ k : Nat, k < opa_86.toNatClampNeg → ¬ lT (ol_87 k).toInt = -1 := fun q9 => by obtain ⟨w1, w2, w3, w4, w5, w6⟩ := hprF q9; exact LV_next (fun k hk => absurd hk (by omega)) (by have q1 := z_clamp (x := opa_86) hprA.1; omega) w3 (pX_lt (hprE.symm.trans q9) (by omega)) w6
      obtain ⟨at1, eat1⟩ : ∃ x : Int32, oat_84 = x := ⟨_, rfl⟩
      obtain ⟨fa1, efa1⟩ : ∃ x : Int32, ofa_85 = x := ⟨_, rfl⟩
      obtain ⟨pa1, epa1⟩ : ∃ x : Int32, opa_86 = x := ⟨_, rfl⟩
      obtain ⟨l1, el1⟩ : ∃ x : Nat → Int32, ol_87 = x := ⟨_, rfl⟩
      obtain ⟨t1, et1⟩ : ∃ x : Nat → Int32, ot_88 = x := ⟨_, rfl⟩
      obtain ⟨b1, eb1⟩ : ∃ x : Nat → Int32, ob_89 = x := ⟨_, rfl⟩
      have hv41 : (0 ≤ at1.toInt ∧ at1.toInt ≤ 66) ∧ (PT pa1 t1 b1) ∧ (4 * pa1.toInt ≤ at1.toInt) ∧ (fa1.toInt = -1 → at1.toInt ≤ (z.2.2.1 2 d.toNatClampNeg).toInt) ∧ (fa1.toInt = -1 → ∀ k : Nat, k < pa1.toNatClampNeg → ¬ lT (l1 k).toInt = -1) ∧ (fa1.toInt = -1 → pC (bRf (z.2.2.1 2) (z.2.2.1 3) d.toNatClampNeg) (z.2.2.1 2 d.toNatClampNeg).toInt (60 - pa1.toInt).toNat at1.toInt (arF l1 t1 b1 pa1.toNatClampNeg) = pA (bRf (z.2.2.1 2) (z.2.2.1 3) d.toNatClampNeg) (z.2.2.1 2 d.toNatClampNeg).toInt) ∧ (¬ fa1.toInt = -1 → fa1.toInt = (pA (bRf (z.2.2.1 2) (z.2.2.1 3) d.toNatClampNeg) (z.2.2.1 2 d.toNatClampNeg).toInt).1) := by subst eat1 efa1 epa1 el1 et1 eb1; exact ⟨(by omega), hprA, hprB, (fun q9 => (hprD q9).2), hLVn, hremn, hfln⟩
      replace hl : lv_has ls 5 [(0, .ref (q 0)), (1, .int d)] := by subst eat1 efa1 epa1 el1 et1 eb1; exact hl
      replace hP : va_P (dC, dI) vwCl (zM k q (sA (sA (sA (sI (sI (sI (sI (sA z 4 f_3) 12 d) 13 at1) 14 fa1) 15 pa1) 16 l1) 17 t1) 18 b1)) H := by subst eat1 efa1 epa1 el1 et1 eb1; exact hP
      clear eat1 efa1 epa1 el1 et1 eb1
      obtain ⟨mm41, hm41⟩ : ∃ mm : Nat, mm = (100 - at1.toInt).toNat := ⟨_, rfl⟩
      refine z_cut2 hP hS hl ?_
      clear hl hP
      intro H locs ls hP hS hl
      induction mm41 using Nat.strongRecOn generalizing at1 fa1 pa1 l1 t1 b1 H locs ls with
      | _ mm41 ih41 =>
        obtain ⟨ha, hpt, h4, hf1, hLV, hrem, hfl⟩ := hv41
        have hp0 := hpt.1
        have hp1 := hpt.2.1
        refine lv_aload_n hx hb dX7_reads_41 rfl (lv_at hl 0 rfl) ?_
        refine va_get (D := (dC, dI)) (ci := 7) (v := .int fa1) (C := RX7) (T := TX7) (N := 42) hx hb htb inw7 hown hK.1 hP 0 rfl rfl 14 (by decide) (htb _ wmt3_181) (fun _ h9 => h9) rfl dX7_reads_42 ?_
        refine lv_iconst (v := (-1)) hx hb dX7_reads_45 (by decide) ?_
        refine lv_icmp_ne (tgt := 99) hx hb dX7_reads_46 (by decide) (fun c_97 => ?_) (fun c_97 => ?_)
        · skip
          have hc_97 := zb_ne rfl (show ((-1) : Int32).toInt = (-1) by decide) c_97
          exact hj99 (at1, fa1, pa1, l1, t1, b1) H locs ls ⟨(show PT pa1 t1 b1 from hpt), (show fa1.toInt = -1 → ∀ k : Nat, k < pa1.toNatClampNeg → ¬ lT (l1 k).toInt = -1 from hLV), (show (fa1.toInt = -1 ∧ pA (bRf (z.2.2.1 2) (z.2.2.1 3) d.toNatClampNeg) (z.2.2.1 2 d.toNatClampNeg).toInt = (acF (arF l1 t1 b1 pa1.toNatClampNeg) (z.2.2.1 2 d.toNatClampNeg).toInt, arF l1 t1 b1 pa1.toNatClampNeg)) ∨ (¬ fa1.toInt = -1 ∧ fa1.toInt = (pA (bRf (z.2.2.1 2) (z.2.2.1 3) d.toNatClampNeg) (z.2.2.1 2 d.toNatClampNeg).toInt).1) from (Or.inr ⟨by omega, hfl (by omega)⟩))⟩ hP hS (lv_sub hl [0, 1] rfl)
        · skip
          have hc_97 := zb_eq rfl (show ((-1) : Int32).toInt = (-1) by decide) c_97
          refine lv_aload_n hx hb dX7_reads_49 rfl (lv_at hl 0 rfl) ?_
          refine va_get (D := (dC, dI)) (ci := 7) (v := .int at1) (C := RX7) (T := TX7) (N := 42) hx hb htb inw7 hown hK.1 hP 0 rfl rfl 13 (by decide) (htb _ wmt3_180) (fun _ h9 => h9) rfl dX7_reads_50 ?_
          refine lv_aload_n hx hb dX7_reads_53 rfl (lv_at hl 0 rfl) ?_
          refine va_get (D := (dC, dI)) (ci := 7) (v := .ref (q 2)) (C := RX7) (T := TX7) (N := 42) hx hb htb inw7 hown hK.1 hP 0 rfl rfl 2 (by decide) (htb _ wmt3_169) (fun _ h9 => h9) rfl dX7_reads_54 ?_
          refine lv_iload_n hx hb dX7_reads_57 rfl (lv_at hl 1 rfl) ?_
          refine va_iald (D := (dC, dI)) hx hb hK.1 hP 1 0 rfl rfl (z_in (by omega)) dX7_reads_58 ?_
          refine lv_topi (fun x_98 ex_98 => ?_)
          replace ex_98 : x_98 = (z.2.2.1 2) d.toNatClampNeg := ex_98
          have hx_98 : x_98.toInt = ((z.2.2.1 2) d.toNatClampNeg).toInt := by rw [ex_98]
          refine lv_icmp_ge (tgt := 99) hx hb dX7_reads_59 (by decide) (fun c_99 => ?_) (fun c_99 => ?_)
          · skip
            have hc_99 := zb_le rfl rfl c_99
            exact hj99 (at1, fa1, pa1, l1, t1, b1) H locs ls ⟨(show PT pa1 t1 b1 from hpt), (show fa1.toInt = -1 → ∀ k : Nat, k < pa1.toNatClampNeg → ¬ lT (l1 k).toInt = -1 from hLV), (show (fa1.toInt = -1 ∧ pA (bRf (z.2.2.1 2) (z.2.2.1 3) d.toNatClampNeg) (z.2.2.1 2 d.toNatClampNeg).toInt = (acF (arF l1 t1 b1 pa1.toNatClampNeg) (z.2.2.1 2 d.toNatClampNeg).toInt, arF l1 t1 b1 pa1.toNatClampNeg)) ∨ (¬ fa1.toInt = -1 ∧ fa1.toInt = (pA (bRf (z.2.2.1 2) (z.2.2.1 3) d.toNatClampNeg) (z.2.2.1 2 d.toNatClampNeg).toInt).1) from (Or.inl ⟨by omega, by rw [← hrem (by omega), pC_e (by omega)]⟩))⟩ hP hS (lv_sub hl [0, 1] rfl)
          · skip
            have hc_99 := zb_nle rfl rfl c_99
            refine lv_aload_n hx hb dX7_reads_62 rfl (lv_at hl 0 rfl) ?_
            refine zcA_i (w := (zM k q (sA (sA (sA (sI (sI (sI (sI (sA z 4 f_3) 12 d) 13 at1) 14 fa1) 15 pa1) 16 l1) 17 t1) 18 b1))) (va_runV (As := []) (rest := []) ⟨hx, hb, hml, hown, htb⟩ (c_X7_byteNow l dC dI k q (sA (sA (sA (sI (sI (sI (sI (sA z 4 f_3) 12 d) 13 at1) 14 fa1) 15 pa1) 16 l1) 17 t1) 18 b1) _ (show 0 ≤ d.toInt ∧ d.toInt < 4 from hd) hI.2.2.2.1 (show 0 ≤ at1.toInt ∧ at1.toInt ≤ 1000 by omega)) (cwV 0 htb (gzV wmt4_85 wmt4_87 wmp2_9 wmt1_8 wmt4_88) rfl rfl rfl (by decide +kernel) ⟨Nat.le_of_ble_eq_true rfl, Nat.le_of_ble_eq_true rfl⟩) (zpA_V (ci := 7) (q0 := 0) hK hP (hDa _) rfl rfl) rfl rfl hl.1 rfl (lv_room (Nat.le_of_ble_eq_true rfl)) dX7_reads_63 ⟨Nat.le_of_ble_eq_true rfl, Nat.le_of_ble_eq_true rfl⟩) (hDa _) hS hA (fun r_100 u_101 H locs w_102 hP _ hS => ?_)
            obtain ⟨h_103, h_104⟩ := w_102
            replace h_103 : (at1).toInt < ((z.2.2.1 2) (d).toNatClampNeg).toInt ∨ r_100.toInt = -1 := h_103
            replace h_104 : r_100.toInt = bRf ((z.2.2.1 2)) ((z.2.2.1 3)) (d).toNatClampNeg (at1).toInt := h_104
            refine lv_bipush (v := 59) hx hb dX7_reads_66 (by decide) ?_
            refine lv_icmp_eq (tgt := 82) hx hb dX7_reads_68 (by decide) (fun c_106 => ?_) (fun c_106 => ?_)
            · skip
              have hc_106 := zb_eq rfl (show (59 : Int32).toInt = 59 by decide) c_106
              refine lv_aload_n hx hb dX7_reads_82 rfl (lv_at hl 0 rfl) ?_
              refine lv_dup hx hb dX7_reads_83 rfl ?_
              refine va_get (D := (dC, dI)) (ci := 7) (v := .int at1) (C := RX7) (T := TX7) (N := 42) hx hb htb inw7 hown hK.1 hP 0 rfl rfl 13 (by decide) (htb _ wmt3_180) (fun _ h9 => h9) rfl dX7_reads_84 ?_
              refine lv_iconst (v := 1) hx hb dX7_reads_87 (by decide) ?_
              refine lv_iadd hx hb dX7_reads_88 ?_
              refine lv_topi (fun x_107 ex_107 => ?_)
              have hx_107 := z_add ex_107 rfl (show (1 : Int32).toInt = 1 by decide) (by omega)
              refine va_put (D := (dC, dI)) (ci := 7) (v := .int x_107) (ty := .int) (C := RX7) (T := TX7) (N := 42) hx hb htb inw7 tyX7 tyX7_ok nmX7 hown hK.1 hP (hDa _) hS 0 rfl rfl 13 (by decide) (htb _ wmt3_180) (fun _ h9 => h9) rfl (by decide +kernel) rfl rfl (Nat.le_of_ble_eq_true rfl) dX7_reads_89 (fun H locs hP _ hS => ?_)
              have hP : va_P (dC, dI) vwCl (zM k q (sI (sA (sA (sA (sI (sI (sI (sA z 4 f_3) 12 d) 14 fa1) 15 pa1) 16 l1) 17 t1) 18 b1) 13 x_107)) H := hP
              refine lv_aload_n hx hb dX7_reads_92 rfl (lv_at hl 0 rfl) ?_
              refine zcA_v (w := (zM k q (sI (sA (sA (sA (sI (sI (sI (sA z 4 f_3) 12 d) 14 fa1) 15 pa1) 16 l1) 17 t1) 18 b1) 13 x_107))) (va_runV (As := []) (rest := []) ⟨hx, hb, hml, hown, htb⟩ (c_X7_partRead l dC dI k q (sI (sA (sA (sA (sI (sI (sI (sA z 4 f_3) 12 d) 14 fa1) 15 pa1) 16 l1) 17 t1) 18 b1) 13 x_107) _ (show 0 ≤ d.toInt ∧ d.toInt < 4 from hd) hI.2.2.2.1 (show 0 ≤ x_107.toInt ∧ x_107.toInt ≤ 200 by omega) (show fa1.toInt = -1 by omega) hpt (show 4 * pa1.toInt ≤ x_107.toInt by omega)) (cwV 0 htb (gzV wmt4_81 wmt4_83 wmp2_8 wmt1_8 wmt4_84) rfl rfl rfl (by decide +kernel) ⟨Nat.le_of_ble_eq_true rfl, Nat.le_of_ble_eq_true rfl⟩) (zpA_V (ci := 7) (q0 := 0) hK hP (hDa _) rfl rfl) rfl rfl hl.1 rfl (lv_room (Nat.le_of_ble_eq_true rfl)) dX7_reads_93 ⟨Nat.le_of_ble_eq_true rfl, Nat.le_of_ble_eq_true rfl⟩) (hDa _) hS hA (fun u_109 H locs w_110 hP _ hS => ?_)
              obtain ⟨oat_111, ofa_112, opa_113, ol_114, ot_115, ob_116⟩ := u_109
              have hP : va_P (dC, dI) vwCl (zM k q (sA (sA (sA (sI (sI (sI (sI (sA z 4 f_3) 12 d) 13 oat_111) 14 ofa_112) 15 opa_113) 16 ol_114) 17 ot_115) 18 ob_116)) H := hP
              obtain ⟨h_117, h_118, h_119, h_120, h_121, h_122⟩ := w_110
              replace h_117 : PT opa_113 ot_115 ob_116 := h_117
              replace h_118 : 4 * opa_113.toInt ≤ oat_111.toInt := h_118
              replace h_119 : (x_107).toInt ≤ oat_111.toInt ∧ oat_111.toInt ≤ (x_107).toInt + 6 := h_119
              replace h_120 : ofa_112.toInt = -1 → (x_107).toInt < oat_111.toInt ∧ oat_111.toInt ≤ ((z.2.2.1 2) (d).toNatClampNeg).toInt := h_120
              replace h_121 : ofa_112.toInt = pX (bRf ((z.2.2.1 2)) ((z.2.2.1 3)) (d).toNatClampNeg) (x_107).toInt := h_121
              replace h_122 : ofa_112.toInt = -1 → oat_111.toInt = a3 (bRf ((z.2.2.1 2)) ((z.2.2.1 3)) (d).toNatClampNeg) (x_107).toInt ∧ opa_113.toInt = (pa1).toInt + 1 ∧ (ol_114 (pa1).toNatClampNeg).toInt = bRf ((z.2.2.1 2)) ((z.2.2.1 3)) (d).toNatClampNeg (x_107).toInt ∧ (ot_115 (pa1).toNatClampNeg).toInt = nV (bRf ((z.2.2.1 2)) ((z.2.2.1 3)) (d).toNatClampNeg) ((x_107).toInt + 1) ∧ (ob_116 (pa1).toNatClampNeg).toInt = nV (bRf ((z.2.2.1 2)) ((z.2.2.1 3)) (d).toNatClampNeg) (a2 (bRf ((z.2.2.1 2)) ((z.2.2.1 3)) (d).toNatClampNeg) (x_107).toInt + 1) ∧ (∀ k : Nat, k ≠ (pa1).toNatClampNeg → ol_114 k = l1 k ∧ ot_115 k = t1 k ∧ ob_116 k = b1 k) := h_122
              have hprA := h_117
              have hprB := h_118
              have hprC := h_119
              have hprD := h_120
              have hprE := h_121
              have hprF := h_122
              have hB9 : (bRf (z.2.2.1 2) (z.2.2.1 3) d.toNatClampNeg) at1.toInt = 59 := by omega
              have hpl := (pC_n (f := (60 - pa1.toInt).toNat) (by omega) hB9).symm.trans (hrem (by omega))
              rw [show (60 - pa1.toInt).toNat = (59 - pa1.toInt).toNat + 1 by omega] at hpl
              rw [show x_107.toInt = at1.toInt + 1 by omega] at hprE hprF
              have hremn : ofa_112.toInt = -1 → pC (bRf (z.2.2.1 2) (z.2.2.1 3) d.toNatClampNeg) (z.2.2.1 2 d.toNatClampNeg).toInt (60 - opa_113.toInt).toNat oat_111.toInt (arF ol_114 ot_115 ob_116 opa_113.toNatClampNeg) = pA (bRf (z.2.2.1 2) (z.2.2.1 3) d.toNatClampNeg) (z.2.2.1 2 d.toNatClampNeg).toInt := fun q9 => by obtain ⟨w1, w2, w3, w4, w5, w6⟩ := hprF q9; rw [show (60 - opa_113.toInt).toNat = (59 - pa1.toInt).toNat by omega]; exact rd_next (p0 := pa1.toNatClampNeg) hpl (by omega) w1 (by have q1 := z_clamp (x := opa_113) hprA.1; have q2 := z_clamp (x := pa1) hpt.1; omega) w3 w4 w5 w6
              have hfln : ¬ ofa_112.toInt = -1 → ofa_112.toInt = (pA (bRf (z.2.2.1 2) (z.2.2.1 3) d.toNatClampNeg) (z.2.2.1 2 d.toNatClampNeg).toInt).1 := fun q9 => by rw [pL_fail (f := (59 - pa1.toInt).toNat + 1) (by omega) (by omega) hpl]; exact hprE
              have hLVn : ofa_112.toInt = -1 → ∀ k : Nat, k < opa_113.toNatClampNeg → ¬ lT (ol_114 k).toInt = -1 := fun q9 => by obtain ⟨w1, w2, w3, w4, w5, w6⟩ := hprF q9; exact LV_next (hLV (by omega)) (by have q1 := z_clamp (x := opa_113) hprA.1; have q2 := z_clamp (x := pa1) hpt.1; omega) w3 (pX_lt (hprE.symm.trans q9) (by omega)) w6
              refine lv_goto (tgt := 41) hx hb dX7_reads_96 (by decide) ?_
              exact ih41 ((100 - oat_111.toInt).toNat) (by omega)  oat_111 ofa_112 opa_113 ol_114 ot_115 ob_116 ⟨(by omega), hprA, hprB, (fun q9 => (hprD q9).2), hLVn, hremn, hfln⟩ rfl H locs ls hP hS (lv_sub hl [0, 1] rfl)
            · skip
              have hc_106 := zb_ne rfl (show (59 : Int32).toInt = 59 by decide) c_106
              refine lv_aload_n hx hb dX7_reads_71 rfl (lv_at hl 0 rfl) ?_
              refine lv_aload_n hx hb dX7_reads_72 rfl (lv_at hl 0 rfl) ?_
              refine va_get (D := (dC, dI)) (ci := 7) (v := .int at1) (C := RX7) (T := TX7) (N := 42) hx hb htb inw7 hown hK.1 hP 0 rfl rfl 13 (by decide) (htb _ wmt3_180) (fun _ h9 => h9) rfl dX7_reads_73 ?_
              refine va_put (D := (dC, dI)) (ci := 7) (v := .int at1) (ty := .int) (C := RX7) (T := TX7) (N := 42) hx hb htb inw7 tyX7 tyX7_ok nmX7 hown hK.1 hP (hDa _) hS 0 rfl rfl 14 (by decide) (htb _ wmt3_181) (fun _ h9 => h9) rfl (by decide +kernel) rfl rfl (Nat.le_of_ble_eq_true rfl) dX7_reads_76 (fun H locs hP _ hS => ?_)
              have hP : va_P (dC, dI) vwCl (zM k q (sI (sA (sA (sA (sI (sI (sI (sA z 4 f_3) 12 d) 13 at1) 15 pa1) 16 l1) 17 t1) 18 b1) 14 at1)) H := hP
              refine lv_goto (tgt := 41) hx hb dX7_reads_79 (by decide) ?_
              refine lv_aload_n hx hb dX7_reads_41 rfl (lv_at hl 0 rfl) ?_
              refine va_get (D := (dC, dI)) (ci := 7) (v := .int at1) (C := RX7) (T := TX7) (N := 42) hx hb htb inw7 hown hK.1 hP 0 rfl rfl 14 (by decide) (htb _ wmt3_181) (fun _ h9 => h9) rfl dX7_reads_42 ?_
              refine lv_iconst (v := (-1)) hx hb dX7_reads_45 (by decide) ?_
              refine lv_icmp_ne (tgt := 99) hx hb dX7_reads_46 (by decide) (fun c_124 => ?_) (fun c_124 => ?_)
              · skip
                have hc_124 := zb_ne rfl (show ((-1) : Int32).toInt = (-1) by decide) c_124
                exact hj99 (at1, at1, pa1, l1, t1, b1) H locs ls ⟨(show PT pa1 t1 b1 from hpt), (show at1.toInt = -1 → ∀ k : Nat, k < pa1.toNatClampNeg → ¬ lT (l1 k).toInt = -1 from (fun q9 => absurd q9 (by omega))), (show (at1.toInt = -1 ∧ pA (bRf (z.2.2.1 2) (z.2.2.1 3) d.toNatClampNeg) (z.2.2.1 2 d.toNatClampNeg).toInt = (acF (arF l1 t1 b1 pa1.toNatClampNeg) (z.2.2.1 2 d.toNatClampNeg).toInt, arF l1 t1 b1 pa1.toNatClampNeg)) ∨ (¬ at1.toInt = -1 ∧ at1.toInt = (pA (bRf (z.2.2.1 2) (z.2.2.1 3) d.toNatClampNeg) (z.2.2.1 2 d.toNatClampNeg).toInt).1) from (Or.inr ⟨by omega, by rw [← hrem (by omega), pC_s (by omega) (by omega)]⟩))⟩ hP hS (lv_sub hl [0, 1] rfl)
              · skip
                have hc_124 := zb_eq rfl (show ((-1) : Int32).toInt = (-1) by decide) c_124
                exfalso; omega
  · skip
    have hc_2 := zb_ne rfl (show (0 : Int32).toInt = 0 by decide) c_2
    have hrd0 := z_ne0 ex_1 hc_2
    exact W.vret hx hb hr (fun t ht hW => ⟨⟨(z.2.2.1 4, z.2.2.1 5, z.2.2.1 6, z.2.2.1 7, z.2.2.1 8, z.2.2.1 9, z.2.2.1 10, z.1 12, z.1 13, z.1 14, z.1 15, z.2.2.1 16, z.2.2.1 17, z.2.2.1 18), rfl, (show (MD (FR (z.2.2.1 2) (z.2.2.1 3)) (z.2.2.1 4) (z.2.2.1 5) (z.2.2.1 6) (z.2.2.1 7) (z.2.2.1 8) (z.2.2.1 9) (z.2.2.1 10)) ∧ (¬ (z.2.2.1 4) d.toNatClampNeg = 0) ∧ (RK (z.2.2.1 4) (z.2.2.1 5) (z.2.2.1 4) (z.2.2.1 5)) ∧ (R7 (z.2.2.1 4) (z.2.2.1 6) (z.2.2.1 7) (z.2.2.1 8) (z.2.2.1 9) (z.2.2.1 10) (z.2.2.1 6) (z.2.2.1 7) (z.2.2.1 8) (z.2.2.1 9) (z.2.2.1 10)) from ⟨hI.2.2.2.2.2, hrd0, RK_refl, R7_refl⟩), ⟨by rw [ht]; exact hP, hDa _⟩⟩, hS.F ht⟩) hS.2.2 dX7_reads_9
