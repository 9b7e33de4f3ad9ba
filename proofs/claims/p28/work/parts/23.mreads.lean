set_option maxHeartbeats 4000000 in
set_option maxRecDepth 100000 in
theorem c_X7_shareOf (l : Launch) (dC : Nat → ClassId) (dI : Nat → Nat → Nat) (k : Nat → ClassId) (q : Nat → Nat) (z : ZS) (le : Int32) (wh : Int32) (sz : Nat) (hpt : PT (z.1 15) (z.2.2.1 17) (z.2.2.1 18)) (hw : 0 ≤ wh.toInt ∧ wh.toInt ≤ 24) : Met l yX7_shareOf (wz yX7_shareOf cX7_shareOf 5 (some .int)) ({ frames := 0, cells := 0, slots := 0, locals := 0 }) (va_Pc [.ref (q 0), .int le, .int wh] (zPre dC dI k (zTX k) (zM k q z) sz)) (va_Qi (fun (r : Int32) (u : Unit) => (0 ≤ r.toInt ∧ r.toInt ≤ 7200)) (fun u t => zPost dC dI (va_A (zM k q z) sz) (zM k q z) t) (va_A (zM k q z) sz)) 0 0 (va_A (zM k q z) sz) := by
  refine Met.ofW (cc := cX7_shareOf) (maxL := 5) (ret := (some .int)) (by decide) rfl ?_
  intro p e s m args below meth c s₁ B hml hv
  obtain ⟨rfl, hsz, hP, hK, hD0⟩ := hv
  have hx := B.exec
  have hb := B.bytes
  have hr := B.returns
  have hts := atoms_spec (ws := wz yX7_shareOf cX7_shareOf 5 (some .int)) B.pre
  have htb : ∀ w ∈ zw, w.before _ s = true := fun w h => hts w (List.mem_cons_of_mem _ h)
  have hown : s.vm.findClass RX7 = some m.cls := findClass_of_methodNamed B.named
  have hlocks := B.notSynchronized
  clear hts
  subst hsz
  have hD := hD0.self (sz := s.heap.size)
  generalize hAe : va_A (zM k q z) s.heap.size = A at hD ⊢
  have hA : ∀ q : Nat, s.heap.size ≤ q → A q := fun q h => by rw [← hAe]; exact Or.inr h
  have hDa : ∀ z9 : ZS, va_D A (zM k q z9) := fun z9 => va_D_adr (w := zM k q z) rfl hD
  have hl := lv_entry ([.ref (q 0), .int le, .int wh]) (n := 5) (Nat.le_of_ble_eq_true rfl)
  rw [lg_entry_eq]
  generalize (lg_sl ([.ref (q 0), .int le, .int wh]) ++ List.replicate (5 - (lg_sl ([.ref (q 0), .int le, .int wh])).length) Slot.unset).toArray = ls at hl ⊢
  have hl : lv_has ls 5 [(0, .ref (q 0)), (1, .int le), (2, .int wh)] := hl
  refine z_start2 (A := A) (w := (zM k q z)) hP (fun H locs hP hS => ?_)
  clear hD0 hAe
  have hp0 := hpt.1
  have hp1 := hpt.2.1
  refine lv_iconst (v := 0) hx hb dX7_shareOf_0 (by decide) ?_
  refine lv_istore_n (lv' := [(3, .int 0), (0, .ref (q 0)), (1, .int le), (2, .int wh)]) hx hb dX7_shareOf_1 rfl hl (by decide) rfl (fun ls hl => ?_)
  refine lv_iconst (v := 0) hx hb dX7_shareOf_2 (by decide) ?_
  refine lv_istore (lv' := [(4, .int 0), (3, .int 0), (0, .ref (q 0)), (1, .int le), (2, .int wh)]) hx hb dX7_shareOf_3 hl (by decide) rfl (fun ls hl => ?_)
  obtain ⟨sm, esm⟩ : ∃ x : Int32, 0 = x := ⟨_, rfl⟩
  obtain ⟨i, ei⟩ : ∃ x : Int32, 0 = x := ⟨_, rfl⟩
  have hv5 : (0 ≤ i.toInt ∧ i.toInt ≤ (z.1 15).toInt) ∧ (0 ≤ sm.toInt ∧ sm.toInt ≤ 480 * i.toInt) := by subst esm ei; exact ⟨⟨by decide, hpt.1⟩, (by decide)⟩
  replace hl : lv_has ls 5 [(4, .int i), (3, .int sm), (0, .ref (q 0)), (1, .int le), (2, .int wh)] := by subst esm ei; exact hl
  clear esm ei
  obtain ⟨mm5, hm5⟩ : ∃ mm : Nat, mm = (15 - i.toInt).toNat := ⟨_, rfl⟩
  refine z_cut2 hP hS hl ?_
  clear hl hP
  intro H locs ls hP hS hl
  induction mm5 using Nat.strongRecOn generalizing sm i H locs ls with
  | _ mm5 ih5 =>
    obtain ⟨hi, hs⟩ := hv5
    refine lv_iload hx hb dX7_shareOf_5 (lv_at hl 0 rfl) ?_
    refine lv_aload_n hx hb dX7_shareOf_7 rfl (lv_at hl 2 rfl) ?_
    refine va_get (D := (dC, dI)) (ci := 7) (v := .int (z.1 15)) (C := RX7) (T := TX7) (N := 42) hx hb htb inw7 hown hK.1 hP 0 rfl rfl 15 (by decide) (htb _ wmt3_182) (fun _ h9 => h9) rfl dX7_shareOf_8 ?_
    refine lv_topi (fun x_1 ex_1 => ?_)
    have hx_1 : x_1.toInt = (z.1 15).toInt := by rw [ex_1]
    refine lv_icmp_ge (tgt := 55) hx hb dX7_shareOf_11 (by decide) (fun c_2 => ?_) (fun c_2 => ?_)
    · skip
      have hc_2 := zb_le rfl rfl c_2
      refine lv_iload_n hx hb dX7_shareOf_55 rfl (lv_at hl 1 rfl) ?_
      exact W.iret (v := sm) hx hb hr (fun t ht hW => ⟨⟨sm, (), rfl, (by omega), ⟨by rw [ht]; exact hP, hDa _⟩⟩, hS.F ht⟩) hS.2.2 dX7_shareOf_56
    · skip
      have hc_2 := zb_nle rfl rfl c_2
      refine lv_iload_n hx hb dX7_shareOf_14 rfl (lv_at hl 1 rfl) ?_
      refine lv_aload_n hx hb dX7_shareOf_15 rfl (lv_at hl 2 rfl) ?_
      refine va_get (D := (dC, dI)) (ci := 7) (v := .ref (q 16)) (C := RX7) (T := TX7) (N := 42) hx hb htb inw7 hown hK.1 hP 0 rfl rfl 16 (by decide) (htb _ wmt3_183) (fun _ h9 => h9) rfl dX7_shareOf_16 ?_
      refine lv_iload hx hb dX7_shareOf_19 (lv_at hl 0 rfl) ?_
      refine va_iald (D := (dC, dI)) hx hb hK.1 hP 10 0 rfl rfl (z_in (by omega)) dX7_shareOf_21 ?_
      refine lv_topi (fun x_3 ex_3 => ?_)
      refine lv_iload_n hx hb dX7_shareOf_22 rfl (lv_at hl 3 rfl) ?_
      refine lv_icmp_ne (tgt := 46) hx hb dX7_shareOf_23 (by decide) (fun c_4 => ?_) (fun c_4 => ?_)
      · skip
        have hc_4 := zb_ne rfl rfl c_4
        refine lv_iconst (v := 0) hx hb dX7_shareOf_46 (by decide) ?_
        refine lv_iadd hx hb dX7_shareOf_47 ?_
        refine lv_topi (fun x_5 ex_5 => ?_)
        have hx_5 := z_add ex_5 rfl (show (0 : Int32).toInt = 0 by decide) (by omega)
        refine lv_istore_n (lv' := [(3, .int x_5), (4, .int i), (0, .ref (q 0)), (1, .int le), (2, .int wh)]) hx hb dX7_shareOf_48 rfl hl (by decide) rfl (fun ls hl => ?_)
        obtain ⟨x_6, ex_6⟩ : ∃ y : Int32, y = i + 1 := ⟨_, rfl⟩
        have hx_6 : x_6.toInt = i.toInt + 1 := z_add ex_6 rfl (show (1 : Int32).toInt = 1 by decide) (by omega)
        refine lv_iinc (v := x_6) (lv' := [(4, .int x_6), (3, .int x_5), (0, .ref (q 0)), (1, .int le), (2, .int wh)]) hx hb dX7_shareOf_49 hl (k := 1) rfl (by rw [ex_6]; rfl) (by decide) rfl (fun ls hl => ?_)
        refine lv_goto (tgt := 5) hx hb dX7_shareOf_52 (by decide) ?_
        exact ih5 ((15 - x_6.toInt).toNat) (by omega) x_5 x_6 ⟨(show 0 ≤ x_6.toInt ∧ x_6.toInt ≤ (z.1 15).toInt by omega), (show 0 ≤ x_5.toInt ∧ x_5.toInt ≤ 480 * x_6.toInt by omega)⟩ rfl H locs ls hP hS (lv_sub hl [0, 1, 2, 3, 4] rfl)
      · skip
        have hc_4 := zb_eq rfl rfl c_4
        refine lv_aload_n hx hb dX7_shareOf_26 rfl (lv_at hl 2 rfl) ?_
        refine va_get (D := (dC, dI)) (ci := 7) (v := .ref (q 17)) (C := RX7) (T := TX7) (N := 42) hx hb htb inw7 hown hK.1 hP 0 rfl rfl 17 (by decide) (htb _ wmt3_184) (fun _ h9 => h9) rfl dX7_shareOf_27 ?_
        refine lv_iload hx hb dX7_shareOf_30 (lv_at hl 0 rfl) ?_
        refine va_iald (D := (dC, dI)) hx hb hK.1 hP 11 0 rfl rfl (z_in (by omega)) dX7_shareOf_32 ?_
        refine lv_topi (fun x_7 ex_7 => ?_)
        have hx_7 : x_7.toInt = ((z.2.2.1 17) i.toNatClampNeg).toInt := by rw [ex_7]
        have hptq := PT_at hpt (show 0 ≤ i.toInt by omega) (show i.toInt < (z.1 15).toInt by omega)
        refine lv_iload_n hx hb dX7_shareOf_33 rfl (lv_at hl 4 rfl) ?_
        refine lv_aload_n hx hb dX7_shareOf_34 rfl (lv_at hl 2 rfl) ?_
        refine va_get (D := (dC, dI)) (ci := 7) (v := .ref (q 18)) (C := RX7) (T := TX7) (N := 42) hx hb htb inw7 hown hK.1 hP 0 rfl rfl 18 (by decide) (htb _ wmt3_185) (fun _ h9 => h9) rfl dX7_shareOf_35 ?_
        refine lv_iload hx hb dX7_shareOf_38 (lv_at hl 0 rfl) ?_
        refine va_iald (D := (dC, dI)) hx hb hK.1 hP 12 0 rfl rfl (z_in (by omega)) dX7_shareOf_40 ?_
        refine lv_topi (fun x_8 ex_8 => ?_)
        have hx_8 : x_8.toInt = ((z.2.2.1 18) i.toNatClampNeg).toInt := by rw [ex_8]
        refine lv_idiv hx hb dX7_shareOf_41 (z_i0ne (by omega)) ?_
        refine lv_topi (fun x_9 ex_9 => ?_)
        have hx_9 := zi_div ex_9 rfl rfl (by omega) (by omega)
        refine lv_imul hx hb dX7_shareOf_42 ?_
        refine lv_topi (fun x_10 ex_10 => ?_)
        have qx_10 := z_mulb (a := x_7.toInt) (b := x_9.toInt) (A := 20) (B := 24) (by omega) (by omega)
        have hx_10 := z_mul ex_10 rfl rfl (by omega)
        refine lv_goto (tgt := 47) hx hb dX7_shareOf_43 (by decide) ?_
        refine lv_iadd hx hb dX7_shareOf_47 ?_
        refine lv_topi (fun x_11 ex_11 => ?_)
        have hx_11 := z_add ex_11 rfl rfl (by omega)
        refine lv_istore_n (lv' := [(3, .int x_11), (4, .int i), (0, .ref (q 0)), (1, .int le), (2, .int wh)]) hx hb dX7_shareOf_48 rfl hl (by decide) rfl (fun ls hl => ?_)
        obtain ⟨x_12, ex_12⟩ : ∃ y : Int32, y = i + 1 := ⟨_, rfl⟩
        have hx_12 : x_12.toInt = i.toInt + 1 := z_add ex_12 rfl (show (1 : Int32).toInt = 1 by decide) (by omega)
        refine lv_iinc (v := x_12) (lv' := [(4, .int x_12), (3, .int x_11), (0, .ref (q 0)), (1, .int le), (2, .int wh)]) hx hb dX7_shareOf_49 hl (k := 1) rfl (by rw [ex_12]; rfl) (by decide) rfl (fun ls hl => ?_)
        refine lv_goto (tgt := 5) hx hb dX7_shareOf_52 (by decide) ?_
        exact ih5 ((15 - x_12.toInt).toNat) (by omega) x_11 x_12 ⟨(show 0 ≤ x_12.toInt ∧ x_12.toInt ≤ (z.1 15).toInt by omega), (show 0 ≤ x_11.toInt ∧ x_11.toInt ≤ 480 * x_12.toInt by omega)⟩ rfl H locs ls hP hS (lv_sub hl [0, 1, 2, 3, 4] rfl)
set_option maxHeartbeats 4000000 in
set_option maxRecDepth 100000 in
theorem c_X7_wholeNow (l : Launch) (dC : Nat → ClassId) (dI : Nat → Nat → Nat) (k : Nat → ClassId) (q : Nat → Nat) (z : ZS) (sz : Nat) (hpt : PT (z.1 15) (z.2.2.1 17) (z.2.2.1 18)) : Met l yX7_wholeNow (wz yX7_wholeNow cX7_wholeNow 4 (some .int)) ({ frames := 1, cells := 0, slots := 0, locals := 29 }) (va_Pc [.ref (q 0)] (zPre dC dI k (zTX k) (zM k q z) sz)) (va_Qi (fun (r : Int32) (u : Unit) => (1 ≤ r.toInt ∧ r.toInt ≤ 480)) (fun u t => zPost dC dI (va_A (zM k q z) sz) (zM k q z) t) (va_A (zM k q z) sz)) 0 0 (va_A (zM k q z) sz) := by
  refine Met.ofW (cc := cX7_wholeNow) (maxL := 4) (ret := (some .int)) (by decide) rfl ?_
  intro p e s m args below meth c s₁ B hml hv
  obtain ⟨rfl, hsz, hP, hK, hD0⟩ := hv
  have hx := B.exec
  have hb := B.bytes
  have hr := B.returns
  have hts := atoms_spec (ws := wz yX7_wholeNow cX7_wholeNow 4 (some .int)) B.pre
  have htb : ∀ w ∈ zw, w.before _ s = true := fun w h => hts w (List.mem_cons_of_mem _ h)
  have hown : s.vm.findClass RX7 = some m.cls := findClass_of_methodNamed B.named
  have hlocks := B.notSynchronized
  clear hts
  subst hsz
  have hD := hD0.self (sz := s.heap.size)
  generalize hAe : va_A (zM k q z) s.heap.size = A at hD ⊢
  have hA : ∀ q : Nat, s.heap.size ≤ q → A q := fun q h => by rw [← hAe]; exact Or.inr h
  have hDa : ∀ z9 : ZS, va_D A (zM k q z9) := fun z9 => va_D_adr (w := zM k q z) rfl hD
  have hl := lv_entry ([.ref (q 0)]) (n := 4) (Nat.le_of_ble_eq_true rfl)
  rw [lg_entry_eq]
  generalize (lg_sl ([.ref (q 0)]) ++ List.replicate (4 - (lg_sl ([.ref (q 0)])).length) Slot.unset).toArray = ls at hl ⊢
  have hl : lv_has ls 4 [(0, .ref (q 0))] := hl
  refine z_start2 (A := A) (w := (zM k q z)) hP (fun H locs hP hS => ?_)
  clear hD0 hAe
  have hp0 := hpt.1
  have hp1 := hpt.2.1
  refine lv_iconst (v := 1) hx hb dX7_wholeNow_0 (by decide) ?_
  refine lv_istore_n (lv' := [(1, .int 1), (0, .ref (q 0))]) hx hb dX7_wholeNow_1 rfl hl (by decide) rfl (fun ls hl => ?_)
  refine lv_iconst (v := 0) hx hb dX7_wholeNow_2 (by decide) ?_
  refine lv_istore_n (lv' := [(2, .int 0), (1, .int 1), (0, .ref (q 0))]) hx hb dX7_wholeNow_3 rfl hl (by decide) rfl (fun ls hl => ?_)
  obtain ⟨wh, ewh⟩ : ∃ x : Int32, 1 = x := ⟨_, rfl⟩
  obtain ⟨i, ei⟩ : ∃ x : Int32, 0 = x := ⟨_, rfl⟩
  have hv4 : (1 ≤ wh.toInt ∧ wh.toInt ≤ 480) ∧ (0 ≤ i.toInt ∧ i.toInt ≤ (z.1 15).toInt) := by subst ewh ei; exact ⟨(by decide), ⟨by decide, hpt.1⟩⟩
  replace hl : lv_has ls 4 [(2, .int i), (1, .int wh), (0, .ref (q 0))] := by subst ewh ei; exact hl
  clear ewh ei
  obtain ⟨mm4, hm4⟩ : ∃ mm : Nat, mm = (15 - i.toInt).toNat := ⟨_, rfl⟩
  refine z_cut2 hP hS hl ?_
  clear hl hP
  intro H locs ls hP hS hl
  induction mm4 using Nat.strongRecOn generalizing wh i H locs ls with
  | _ mm4 ih4 =>
    obtain ⟨hw, hi⟩ := hv4
    refine lv_iload_n hx hb dX7_wholeNow_4 rfl (lv_at hl 0 rfl) ?_
    refine lv_aload_n hx hb dX7_wholeNow_5 rfl (lv_at hl 2 rfl) ?_
    refine va_get (D := (dC, dI)) (ci := 7) (v := .int (z.1 15)) (C := RX7) (T := TX7) (N := 42) hx hb htb inw7 hown hK.1 hP 0 rfl rfl 15 (by decide) (htb _ wmt3_182) (fun _ h9 => h9) rfl dX7_wholeNow_6 ?_
    refine lv_topi (fun x_1 ex_1 => ?_)
    have hx_1 : x_1.toInt = (z.1 15).toInt := by rw [ex_1]
    refine lv_icmp_ge (tgt := 63) hx hb dX7_wholeNow_9 (by decide) (fun c_2 => ?_) (fun c_2 => ?_)
    · skip
      have hc_2 := zb_le rfl rfl c_2
      refine lv_iload_n hx hb dX7_wholeNow_63 rfl (lv_at hl 1 rfl) ?_
      exact W.iret (v := wh) hx hb hr (fun t ht hW => ⟨⟨wh, (), rfl, (by omega), ⟨by rw [ht]; exact hP, hDa _⟩⟩, hS.F ht⟩) hS.2.2 dX7_wholeNow_64
    · skip
      have hc_2 := zb_nle rfl rfl c_2
      refine lv_iload_n hx hb dX7_wholeNow_12 rfl (lv_at hl 1 rfl) ?_
      refine lv_bipush (v := 25) hx hb dX7_wholeNow_13 (by decide) ?_
      refine lv_icmp_ge (tgt := 63) hx hb dX7_wholeNow_15 (by decide) (fun c_3 => ?_) (fun c_3 => ?_)
      · skip
        have hc_3 := zb_le (show (25 : Int32).toInt = 25 by decide) rfl c_3
        refine lv_iload_n hx hb dX7_wholeNow_63 rfl (lv_at hl 1 rfl) ?_
        exact W.iret (v := wh) hx hb hr (fun t ht hW => ⟨⟨wh, (), rfl, (by omega), ⟨by rw [ht]; exact hP, hDa _⟩⟩, hS.F ht⟩) hS.2.2 dX7_wholeNow_64
      · skip
        have hc_3 := zb_nle (show (25 : Int32).toInt = 25 by decide) rfl c_3
        refine lv_aload_n hx hb dX7_wholeNow_18 rfl (lv_at hl 2 rfl) ?_
        refine va_get (D := (dC, dI)) (ci := 7) (v := .ref (q 18)) (C := RX7) (T := TX7) (N := 42) hx hb htb inw7 hown hK.1 hP 0 rfl rfl 18 (by decide) (htb _ wmt3_185) (fun _ h9 => h9) rfl dX7_wholeNow_19 ?_
        refine lv_iload_n hx hb dX7_wholeNow_22 rfl (lv_at hl 0 rfl) ?_
        refine va_iald (D := (dC, dI)) hx hb hK.1 hP 12 0 rfl rfl (z_in (by omega)) dX7_wholeNow_23 ?_
        refine lv_topi (fun x_4 ex_4 => ?_)
        have hx_4 : x_4.toInt = ((z.2.2.1 18) i.toNatClampNeg).toInt := by rw [ex_4]
        have hptq := PT_at hpt (show 0 ≤ i.toInt by omega) (show i.toInt < (z.1 15).toInt by omega)
        refine lv_aload_n hx hb dX7_wholeNow_24 rfl (lv_at hl 2 rfl) ?_
        refine va_get (D := (dC, dI)) (ci := 7) (v := .ref (q 17)) (C := RX7) (T := TX7) (N := 42) hx hb htb inw7 hown hK.1 hP 0 rfl rfl 17 (by decide) (htb _ wmt3_184) (fun _ h9 => h9) rfl dX7_wholeNow_25 ?_
        refine lv_iload_n hx hb dX7_wholeNow_28 rfl (lv_at hl 0 rfl) ?_
        refine va_iald (D := (dC, dI)) hx hb hK.1 hP 11 0 rfl rfl (z_in (by omega)) dX7_wholeNow_29 ?_
        refine lv_topi (fun x_5 ex_5 => ?_)
        have hx_5 : x_5.toInt = ((z.2.2.1 17) i.toNatClampNeg).toInt := by rw [ex_5]
        refine lv_i2l (v := x_5.toInt64) hx hb dX7_wholeNow_30 rfl ?_
        refine lv_topl (fun x_6 ex_6 => ?_)
        have hx_6 : x_6.toInt = x_5.toInt := by rw [ex_6]; exact Jvm.Kit.i64_of_i32 _
        refine lv_aload_n hx hb dX7_wholeNow_31 rfl (lv_at hl 2 rfl) ?_
        refine va_get (D := (dC, dI)) (ci := 7) (v := .ref (q 18)) (C := RX7) (T := TX7) (N := 42) hx hb htb inw7 hown hK.1 hP 0 rfl rfl 18 (by decide) (htb _ wmt3_185) (fun _ h9 => h9) rfl dX7_wholeNow_32 ?_
        refine lv_iload_n hx hb dX7_wholeNow_35 rfl (lv_at hl 0 rfl) ?_
        refine va_iald (D := (dC, dI)) hx hb hK.1 hP 12 0 rfl rfl (z_in (by omega)) dX7_wholeNow_36 ?_
        refine lv_topi (fun x_7 ex_7 => ?_)
        have hx_7 : x_7.toInt = ((z.2.2.1 18) i.toNatClampNeg).toInt := by rw [ex_7]
        refine lv_i2l (v := x_7.toInt64) hx hb dX7_wholeNow_37 rfl ?_
        refine lv_topl (fun x_8 ex_8 => ?_)
        have hx_8 : x_8.toInt = x_7.toInt := by rw [ex_8]; exact Jvm.Kit.i64_of_i32 _
        refine zc0_l (w := (zM k q z)) (va_runS (As := [.long x_6, .long x_8]) (rest := [.int x_4]) ⟨hx, hb, hml, hown, htb⟩ (c_X7_divisor l dC dI k x_6 x_8 _ (by omega) (by omega)) (va_cwS 2 htb (gzS wmt4_97 wmt4_98 wmt1_8 wmt4_99) rfl rfl rfl (by decide +kernel) ⟨Nat.le_of_ble_eq_true rfl, Nat.le_of_ble_eq_true rfl⟩) (zp0_S hK) rfl rfl hl.1 rfl (lv_room (Nat.le_of_ble_eq_true rfl)) dX7_wholeNow_38 ⟨Nat.le_of_ble_eq_true rfl, Nat.le_of_ble_eq_true rfl⟩) hP hS hA (fun r_9 u_10 H locs w_11 hP hS => ?_)
        have h_12 := w_11
        replace h_12 : r_9.toInt = (Nat.gcd x_6.toInt.natAbs x_8.toInt.natAbs : Int) := h_12
        have hgp := zg_pos (x := x_6.toInt) (y := x_8.toInt) (by omega)
        have hgl := zg_le (x := x_6.toInt) (y := x_8.toInt) (by omega)
        have hgm := zg_le2 (x := x_6.toInt) (y := x_8.toInt)
        refine lv_l2i (v := r_9.toInt32) hx hb dX7_wholeNow_41 rfl ?_
        refine lv_topi (fun x_14 ex_14 => ?_)
        have hx_14 : x_14.toInt = r_9.toInt := by rw [ex_14]; exact Jvm.Kit.i32_of_i64 (by omega) (by omega)
        refine lv_idiv hx hb dX7_wholeNow_42 (z_i0ne (by omega)) ?_
        refine lv_topi (fun x_15 ex_15 => ?_)
        have hx_15 := zi_div ex_15 rfl rfl (by omega) (by omega)
        refine lv_istore_n (lv' := [(3, .int x_15), (2, .int i), (1, .int wh), (0, .ref (q 0))]) hx hb dX7_wholeNow_43 rfl hl (by decide) rfl (fun ls hl => ?_)
        refine lv_iload_n hx hb dX7_wholeNow_44 rfl (lv_at hl 2 rfl) ?_
        refine lv_iload_n hx hb dX7_wholeNow_45 rfl (lv_at hl 2 rfl) ?_
        refine lv_i2l (v := wh.toInt64) hx hb dX7_wholeNow_46 rfl ?_
        refine lv_topl (fun x_16 ex_16 => ?_)
        have hx_16 : x_16.toInt = wh.toInt := by rw [ex_16]; exact Jvm.Kit.i64_of_i32 _
        refine lv_iload_n hx hb dX7_wholeNow_47 rfl (lv_at hl 0 rfl) ?_
        refine lv_i2l (v := x_15.toInt64) hx hb dX7_wholeNow_48 rfl ?_
        refine lv_topl (fun x_17 ex_17 => ?_)
        have hx_17 : x_17.toInt = x_15.toInt := by rw [ex_17]; exact Jvm.Kit.i64_of_i32 _
        refine zc0_l (w := (zM k q z)) (va_runS (As := [.long x_16, .long x_17]) (rest := [.int wh]) ⟨hx, hb, hml, hown, htb⟩ (c_X7_divisor l dC dI k x_16 x_17 _ (by omega) (by omega)) (va_cwS 2 htb (gzS wmt4_97 wmt4_98 wmt1_8 wmt4_99) rfl rfl rfl (by decide +kernel) ⟨Nat.le_of_ble_eq_true rfl, Nat.le_of_ble_eq_true rfl⟩) (zp0_S hK) rfl rfl hl.1 rfl (lv_room (Nat.le_of_ble_eq_true rfl)) dX7_wholeNow_49 ⟨Nat.le_of_ble_eq_true rfl, Nat.le_of_ble_eq_true rfl⟩) hP hS hA (fun r_18 u_19 H locs w_20 hP hS => ?_)
        have h_21 := w_20
        replace h_21 : r_18.toInt = (Nat.gcd x_16.toInt.natAbs x_17.toInt.natAbs : Int) := h_21
        have hgp := zg_pos (x := x_16.toInt) (y := x_17.toInt) (by omega)
        have hgl := zg_le (x := x_16.toInt) (y := x_17.toInt) (by omega)
        have hgm := zg_le2 (x := x_16.toInt) (y := x_17.toInt)
        refine lv_l2i (v := r_18.toInt32) hx hb dX7_wholeNow_52 rfl ?_
        refine lv_topi (fun x_23 ex_23 => ?_)
        have hx_23 : x_23.toInt = r_18.toInt := by rw [ex_23]; exact Jvm.Kit.i32_of_i64 (by omega) (by omega)
        refine lv_idiv hx hb dX7_wholeNow_53 (z_i0ne (by omega)) ?_
        refine lv_topi (fun x_24 ex_24 => ?_)
        have hx_24 := zi_div ex_24 rfl rfl (by omega) (by omega)
        refine lv_iload_n hx hb dX7_wholeNow_54 rfl (lv_at hl 0 rfl) ?_
        refine lv_imul hx hb dX7_wholeNow_55 ?_
        refine lv_topi (fun x_25 ex_25 => ?_)
        have px_25 : 1 * 1 ≤ x_24.toInt * x_15.toInt := Int.mul_le_mul (by omega) (by omega) (by decide) (by omega)
        have qx_25 := z_mulb (a := x_24.toInt) (b := x_15.toInt) (A := 24) (B := 20) (by omega) (by omega)
        have hx_25 := z_mul ex_25 rfl rfl (by omega)
        refine lv_istore_n (lv' := [(1, .int x_25), (3, .int x_15), (2, .int i), (0, .ref (q 0))]) hx hb dX7_wholeNow_56 rfl hl (by decide) rfl (fun ls hl => ?_)
        obtain ⟨x_26, ex_26⟩ : ∃ y : Int32, y = i + 1 := ⟨_, rfl⟩
        have hx_26 : x_26.toInt = i.toInt + 1 := z_add ex_26 rfl (show (1 : Int32).toInt = 1 by decide) (by omega)
        refine lv_iinc (v := x_26) (lv' := [(2, .int x_26), (1, .int x_25), (3, .int x_15), (0, .ref (q 0))]) hx hb dX7_wholeNow_57 hl (k := 2) rfl (by rw [ex_26]; rfl) (by decide) rfl (fun ls hl => ?_)
        refine lv_goto (tgt := 4) hx hb dX7_wholeNow_60 (by decide) ?_
        exact ih4 ((15 - x_26.toInt).toNat) (by omega) x_25 x_26 ⟨(show 1 ≤ x_25.toInt ∧ x_25.toInt ≤ 480 by omega), (show 0 ≤ x_26.toInt ∧ x_26.toInt ≤ (z.1 15).toInt by omega)⟩ rfl H locs ls hP hS (lv_sub hl [0, 1, 3] rfl)
set_option maxHeartbeats 4000000 in
set_option maxRecDepth 100000 in
theorem c_X7_reads (l : Launch) (dC : Nat → ClassId) (dI : Nat → Nat → Nat) (k : Nat → ClassId) (q : Nat → Nat) (z : ZS) (d : Int32) (sz : Nat) (hI : MInv z) (hd : 0 ≤ d.toInt ∧ d.toInt < 4) : Met l yX7_reads (wz yX7_reads cX7_reads 5 none) ({ frames := 3, cells := 0, slots := 0, locals := 69 }) (va_Pc [.ref (q 0), .int d] (zPre dC dI k (zTX k) (zM k q z) sz)) (va_Qv (fun (u : (Nat → Int32) × (Nat → Int32) × (Nat → Int32) × (Nat → Int32) × (Nat → Int32) × (Nat → Int32) × (Nat → Int32) × Int32 × Int32 × Int32 × Int32 × (Nat → Int32) × (Nat → Int32) × (Nat → Int32)) => (MD u.1 u.2.1 u.2.2.1 u.2.2.2.1 u.2.2.2.2.1 u.2.2.2.2.2.1 u.2.2.2.2.2.2.1) ∧ (¬ u.1 d.toNatClampNeg = 0) ∧ (RK (z.2.2.1 4) (z.2.2.1 5) u.1 u.2.1) ∧ (R7 (z.2.2.1 4) (z.2.2.1 6) (z.2.2.1 7) (z.2.2.1 8) (z.2.2.1 9) (z.2.2.1 10) u.2.2.1 u.2.2.2.1 u.2.2.2.2.1 u.2.2.2.2.2.1 u.2.2.2.2.2.2.1)) (fun u t => zPost dC dI (va_A (zM k q z) sz) (zM k q (sA (sA (sA (sI (sI (sI (sI (sA (sA (sA (sA (sA (sA (sA z 4 u.1) 5 u.2.1) 6 u.2.2.1) 7 u.2.2.2.1) 8 u.2.2.2.2.1) 9 u.2.2.2.2.2.1) 10 u.2.2.2.2.2.2.1) 12 u.2.2.2.2.2.2.2.1) 13 u.2.2.2.2.2.2.2.2.1) 14 u.2.2.2.2.2.2.2.2.2.1) 15 u.2.2.2.2.2.2.2.2.2.2.1) 16 u.2.2.2.2.2.2.2.2.2.2.2.1) 17 u.2.2.2.2.2.2.2.2.2.2.2.2.1) 18 u.2.2.2.2.2.2.2.2.2.2.2.2.2)) t) (va_A (zM k q z) sz)) 0 0 (va_A (zM k q z) sz) := by
  refine Met.ofW (cc := cX7_reads) (maxL := 5) (ret := none) (by decide) rfl ?_
  intro p e s m args below meth c s₁ B hml hv
  obtain ⟨rfl, hsz, hP, hK, hD0⟩ := hv
  have hx := B.exec
  have hb := B.bytes
  have hr := B.returns
  have hts := atoms_spec (ws := wz yX7_reads cX7_reads 5 none) B.pre
  have htb : ∀ w ∈ zw, w.before _ s = true := fun w h => hts w (List.mem_cons_of_mem _ h)
  have hown : s.vm.findClass RX7 = some m.cls := findClass_of_methodNamed B.named
  have hlocks := B.notSynchronized
  clear hts
  subst hsz
  have hD := hD0.self (sz := s.heap.size)
  generalize hAe : va_A (zM k q z) s.heap.size = A at hD ⊢
  have hA : ∀ q : Nat, s.heap.size ≤ q → A q := fun q h => by rw [← hAe]; exact Or.inr h
  have hDa : ∀ z9 : ZS, va_D A (zM k q z9) := fun z9 => va_D_adr (w := zM k q z) rfl hD
  have hl := lv_entry ([.ref (q 0), .int d]) (n := 5) (Nat.le_of_ble_eq_true rfl)
  rw [lg_entry_eq]
  generalize (lg_sl ([.ref (q 0), .int d]) ++ List.replicate (5 - (lg_sl ([.ref (q 0), .int d])).length) Slot.unset).toArray = ls at hl ⊢
  have hl : lv_has ls 5 [(0, .ref (q 0)), (1, .int d)] := hl
  refine z_start2 (A := A) (w := (zM k q z)) hP (fun H locs hP hS => ?_)
  clear hD0 hAe
  have hmt := M4_at hI.2.2.2.1 hd
  have hz0 : (0 : Int32).toInt = 0 := by decide
  have hzm : (-1 : Int32).toInt = -1 := by decide
  refine lv_aload_n hx hb dX7_reads_0 rfl (lv_at hl 0 rfl) ?_
  refine va_get (D := (dC, dI)) (ci := 7) (v := .ref (q 4)) (C := RX7) (T := TX7) (N := 42) hx hb htb inw7 hown hK.1 hP 0 rfl rfl 4 (by decide) (htb _ wmt3_171) (fun _ h9 => h9) rfl dX7_reads_1 ?_
  refine lv_iload_n hx hb dX7_reads_4 rfl (lv_at hl 1 rfl) ?_
  refine va_zald (D := (dC, dI)) hx hb hK.1 hP 3 2 rfl rfl (z_in (by omega)) dX7_reads_5 ?_
  refine lv_topi (fun x_1 ex_1 => ?_)
  refine lv_if_eq (tgt := 10) hx hb dX7_reads_6 (by decide) (fun c_2 => ?_) (fun c_2 => ?_)
  · skip
    have hc_2 := zb_eq rfl (show (0 : Int32).toInt = 0 by decide) c_2
    have hrd0 := z_eq0 ex_1 hc_2
    refine lv_aload_n hx hb dX7_reads_10 rfl (lv_at hl 0 rfl) ?_
    refine va_get (D := (dC, dI)) (ci := 7) (v := .ref (q 4)) (C := RX7) (T := TX7) (N := 42) hx hb htb inw7 hown hK.1 hP 0 rfl rfl 4 (by decide) (htb _ wmt3_171) (fun _ h9 => h9) rfl dX7_reads_11 ?_
    refine lv_iload_n hx hb dX7_reads_14 rfl (lv_at hl 1 rfl) ?_
    refine lv_iconst (v := 1) hx hb dX7_reads_15 (by decide) ?_
    refine va_zast (D := (dC, dI)) hx hb hK.1 hP (hDa _) hS 3 2 rfl rfl (z_in (by omega)) dX7_reads_16 (fun H locs hP _ hS => ?_)
    obtain ⟨f_3, ef_3⟩ : ∃ x : Nat → Int32, x = upd (z.2.2.1 4) d.toNatClampNeg (vp_nar .boolean 1) := ⟨_, rfl⟩
    have hP : va_P (dC, dI) vwCl (zM k q (sA z 4 f_3)) H := by rw [ef_3]; exact hP
    have hrd4 : ¬ f_3 d.toNatClampNeg = 0 := by rw [ef_3, pk_us]; decide
    refine lv_aload_n hx hb dX7_reads_17 rfl (lv_at hl 0 rfl) ?_
    refine lv_iload_n hx hb dX7_reads_18 rfl (lv_at hl 1 rfl) ?_
    refine va_put (D := (dC, dI)) (ci := 7) (v := .int d) (ty := .int) (C := RX7) (T := TX7) (N := 42) hx hb htb inw7 tyX7 tyX7_ok nmX7 hown hK.1 hP (hDa _) hS 0 rfl rfl 12 (by decide) (htb _ wmt3_179) (fun _ h9 => h9) rfl (by decide +kernel) rfl rfl (Nat.le_of_ble_eq_true rfl) dX7_reads_19 (fun H locs hP _ hS => ?_)
    have hP : va_P (dC, dI) vwCl (zM k q (sI (sA z 4 f_3) 12 d)) H := hP
    refine lv_aload_n hx hb dX7_reads_22 rfl (lv_at hl 0 rfl) ?_
    refine lv_iconst (v := 0) hx hb dX7_reads_23 (by decide) ?_
    refine va_put (D := (dC, dI)) (ci := 7) (v := .int 0) (ty := .int) (C := RX7) (T := TX7) (N := 42) hx hb htb inw7 tyX7 tyX7_ok nmX7 hown hK.1 hP (hDa _) hS 0 rfl rfl 13 (by decide) (htb _ wmt3_180) (fun _ h9 => h9) rfl (by decide +kernel) rfl rfl (Nat.le_of_ble_eq_true rfl) dX7_reads_24 (fun H locs hP _ hS => ?_)
    have hP : va_P (dC, dI) vwCl (zM k q (sI (sI (sA z 4 f_3) 12 d) 13 0)) H := hP
    refine lv_aload_n hx hb dX7_reads_27 rfl (lv_at hl 0 rfl) ?_
    refine lv_iconst (v := (-1)) hx hb dX7_reads_28 (by decide) ?_
    refine va_put (D := (dC, dI)) (ci := 7) (v := .int (-1)) (ty := .int) (C := RX7) (T := TX7) (N := 42) hx hb htb inw7 tyX7 tyX7_ok nmX7 hown hK.1 hP (hDa _) hS 0 rfl rfl 14 (by decide) (htb _ wmt3_181) (fun _ h9 => h9) rfl (by decide +kernel) rfl rfl (Nat.le_of_ble_eq_true rfl) dX7_reads_29 (fun H locs hP _ hS => ?_)
    have hP : va_P (dC, dI) vwCl (zM k q (sI (sI (sI (sA z 4 f_3) 12 d) 13 0) 14 (-1))) H := hP
    refine lv_aload_n hx hb dX7_reads_32 rfl (lv_at hl 0 rfl) ?_
    refine lv_iconst (v := 0) hx hb dX7_reads_33 (by decide) ?_
    refine va_put (D := (dC, dI)) (ci := 7) (v := .int 0) (ty := .int) (C := RX7) (T := TX7) (N := 42) hx hb htb inw7 tyX7 tyX7_ok nmX7 hown hK.1 hP (hDa _) hS 0 rfl rfl 15 (by decide) (htb _ wmt3_182) (fun _ h9 => h9) rfl (by decide +kernel) rfl rfl (Nat.le_of_ble_eq_true rfl) dX7_reads_34 (fun H locs hP _ hS => ?_)
    have hP : va_P (dC, dI) vwCl (zM k q (sI (sI (sI (sI (sA z 4 f_3) 12 d) 13 0) 14 (-1)) 15 0)) H := hP
    refine z_join2 (dC := dC) (dI := dI) (A := A) (H0 := s.heap) (nL := 5) (α := Int32 × Int32 × Int32 × (Nat → Int32) × (Nat → Int32) × (Nat → Int32)) (Inv := fun x => (PT x.2.2.1 x.2.2.2.2.1 x.2.2.2.2.2)) (lv2 := fun x => [(0, .ref (q 0)), (1, .int d)]) (st2 := fun _ => []) (w2 := fun x => (zM k q (sA (sA (sA (sI (sI (sI (sI (sA z 4 f_3) 12 d) 13 x.1) 14 x.2.1) 15 x.2.2.1) 16 x.2.2.2.1) 17 x.2.2.2.2.1) 18 x.2.2.2.2.2))) 99 (fun x H locs ls hinv hP hS hl => ?_) (fun hj99 => ?_)
    · skip
      obtain ⟨at2, fa2, pa2, l2, t2, b2⟩ := x
      have hpt := hinv
      replace hpt : PT pa2 t2 b2 := hpt
      have hP : va_P (dC, dI) vwCl (zM k q (sA (sA (sA (sI (sI (sI (sI (sA z 4 f_3) 12 d) 13 at2) 14 fa2) 15 pa2) 16 l2) 17 t2) 18 b2)) H := hP
      have hl : lv_has ls 5 [(0, .ref (q 0)), (1, .int d)] := hl
      refine z_join2 (dC := dC) (dI := dI) (A := A) (H0 := s.heap) (nL := 5) (α := Int32) (Inv := fun x => (1 ≤ x.toInt ∧ x.toInt ≤ 480)) (lv2 := fun x => [(0, .ref (q 0)), (1, .int d), (2, .int x)]) (st2 := fun _ => []) (w2 := fun x => (zM k q (sA (sA (sA (sI (sI (sI (sI (sA z 4 f_3) 12 d) 13 at2) 14 fa2) 15 pa2) 16 l2) 17 t2) 18 b2))) 117 (fun x H locs ls hinv hP hS hl => ?_) (fun hj117 => ?_)
      · skip
        obtain ⟨wh, rfl⟩ : ∃ y, y = x := ⟨_, rfl⟩
        have hwh := hinv
        replace hwh : 1 ≤ wh.toInt ∧ wh.toInt ≤ 480 := hwh
        have hP : va_P (dC, dI) vwCl (zM k q (sA (sA (sA (sI (sI (sI (sI (sA z 4 f_3) 12 d) 13 at2) 14 fa2) 15 pa2) 16 l2) 17 t2) 18 b2)) H := hP
        have hl : lv_has ls 5 [(0, .ref (q 0)), (1, .int d), (2, .int wh)] := hl
        refine z_join2 (dC := dC) (dI := dI) (A := A) (H0 := s.heap) (nL := 5) (α := (Nat → Int32) × (Nat → Int32) × (Nat → Int32) × (Nat → Int32) × Int32 × (Nat → Int32) × (Nat → Int32)) (Inv := fun x => (RD d.toNatClampNeg wh x.2.2.2.2.1 (z.2.2.1 7) (z.2.2.1 8) (z.2.2.1 9) (z.2.2.1 10) x.1 x.2.1 x.2.2.1 x.2.2.2.1)) (lv2 := fun x => [(0, .ref (q 0)), (1, .int d), (2, .int wh)]) (st2 := fun _ => []) (w2 := fun x => (zM k q (sA (sA (sI (sA (sA (sA (sA (sA (sI (sI (sI (sA z 4 f_3) 12 d) 13 at2) 15 pa2) 16 l2) 7 x.1) 8 x.2.1) 9 x.2.2.1) 10 x.2.2.2.1) 14 x.2.2.2.2.1) 17 x.2.2.2.2.2.1) 18 x.2.2.2.2.2.2))) 317 (fun x H locs ls hinv hP hS hl => ?_) (fun hj317 => ?_)
        · skip
          obtain ⟨p7, p8, p9, p10, fa3, t4, b4⟩ := x
          have hrd := hinv
          replace hrd : RD d.toNatClampNeg wh fa3 (z.2.2.1 7) (z.2.2.1 8) (z.2.2.1 9) (z.2.2.1 10) p7 p8 p9 p10 := hrd
          have hP : va_P (dC, dI) vwCl (zM k q (sA (sA (sI (sA (sA (sA (sA (sA (sI (sI (sI (sA z 4 f_3) 12 d) 13 at2) 15 pa2) 16 l2) 7 p7) 8 p8) 9 p9) 10 p10) 14 fa3) 17 t4) 18 b4)) H := hP
          have hl : lv_has ls 5 [(0, .ref (q 0)), (1, .int d), (2, .int wh)] := hl
          refine lv_aload_n hx hb dX7_reads_317 rfl (lv_at hl 0 rfl) ?_
          refine va_get (D := (dC, dI)) (ci := 7) (v := .ref (q 6)) (C := RX7) (T := TX7) (N := 42) hx hb htb inw7 hown hK.1 hP 0 rfl rfl 6 (by decide) (htb _ wmt3_173) (fun _ h9 => h9) rfl dX7_reads_318 ?_
          refine lv_iload_n hx hb dX7_reads_321 rfl (lv_at hl 1 rfl) ?_
          refine lv_iload_n hx hb dX7_reads_322 rfl (lv_at hl 2 rfl) ?_
          refine va_iast (D := (dC, dI)) hx hb hK.1 hP (hDa _) hS 5 0 rfl rfl (z_in (by omega)) dX7_reads_323 (fun H locs hP _ hS => ?_)
          obtain ⟨f_4, ef_4⟩ : ∃ x : Nat → Int32, x = upd (z.2.2.1 6) d.toNatClampNeg wh := ⟨_, rfl⟩
          have hP : va_P (dC, dI) vwCl (zM k q (sA (sA (sA (sI (sA (sA (sA (sA (sA (sI (sI (sI (sA z 4 f_3) 12 d) 13 at2) 15 pa2) 16 l2) 7 p7) 8 p8) 9 p9) 10 p10) 14 fa3) 17 t4) 18 b4) 6 f_4)) H := by rw [ef_4]; exact hP
          refine lv_aload_n hx hb dX7_reads_324 rfl (lv_at hl 0 rfl) ?_
          refine va_get (D := (dC, dI)) (ci := 7) (v := .ref (q 5)) (C := RX7) (T := TX7) (N := 42) hx hb htb inw7 hown hK.1 hP 0 rfl rfl 5 (by decide) (htb _ wmt3_172) (fun _ h9 => h9) rfl dX7_reads_325 ?_
          refine lv_iload_n hx hb dX7_reads_328 rfl (lv_at hl 1 rfl) ?_
          refine lv_aload_n hx hb dX7_reads_329 rfl (lv_at hl 0 rfl) ?_
          refine va_get (D := (dC, dI)) (ci := 7) (v := .int fa3) (C := RX7) (T := TX7) (N := 42) hx hb htb inw7 hown hK.1 hP 0 rfl rfl 14 (by decide) (htb _ wmt3_181) (fun _ h9 => h9) rfl dX7_reads_330 ?_
          refine va_iast (D := (dC, dI)) hx hb hK.1 hP (hDa _) hS 4 0 rfl rfl (z_in (by omega)) dX7_reads_333 (fun H locs hP _ hS => ?_)
          obtain ⟨f_5, ef_5⟩ : ∃ x : Nat → Int32, x = upd (z.2.2.1 5) d.toNatClampNeg fa3 := ⟨_, rfl⟩
          have hP : va_P (dC, dI) vwCl (zM k q (sA (sA (sA (sA (sI (sA (sA (sA (sA (sA (sI (sI (sI (sA z 4 f_3) 12 d) 13 at2) 15 pa2) 16 l2) 7 p7) 8 p8) 9 p9) 10 p10) 14 fa3) 17 t4) 18 b4) 6 f_4) 5 f_5)) H := by rw [ef_5]; exact hP
          exact W.vret hx hb hr (fun t ht hW => ⟨⟨(f_3, f_5, f_4, p7, p8, p9, p10, d, at2, fa3, pa2, l2, t4, b4), rfl, (show (MD f_3 f_5 f_4 p7 p8 p9 p10) ∧ (¬ f_3 d.toNatClampNeg = 0) ∧ (RK (z.2.2.1 4) (z.2.2.1 5) f_3 f_5) ∧ (R7 (z.2.2.1 4) (z.2.2.1 6) (z.2.2.1 7) (z.2.2.1 8) (z.2.2.1 9) (z.2.2.1 10) f_4 p7 p8 p9 p10) from ⟨MD_read hI.2.2.2.2.2 ef_3 ef_5 ef_4 hrd hwh, hrd4, RK_upd ef_3 ef_5 hrd0, R7_upd ef_4 hrd hrd0⟩), ⟨by rw [ht]; exact hP, hDa _⟩⟩, hS.F ht⟩) hS.2.2 dX7_reads_334
        · skip
          refine lv_aload_n hx hb dX7_reads_117 rfl (lv_at hl 0 rfl) ?_
          refine va_get (D := (dC, dI)) (ci := 7) (v := .int fa2) (C := RX7) (T := TX7) (N := 42) hx hb htb inw7 hown hK.1 hP 0 rfl rfl 14 (by decide) (htb _ wmt3_181) (fun _ h9 => h9) rfl dX7_reads_118 ?_
          refine lv_iconst (v := (-1)) hx hb dX7_reads_121 (by decide) ?_
          refine lv_icmp_ne (tgt := 299) hx hb dX7_reads_122 (by decide) (fun c_6 => ?_) (fun c_6 => ?_)
          · skip
            have hc_6 := zb_ne rfl (show ((-1) : Int32).toInt = (-1) by decide) c_6
            refine lv_aload_n hx hb dX7_reads_299 rfl (lv_at hl 0 rfl) ?_
            refine va_get (D := (dC, dI)) (ci := 7) (v := .int fa2) (C := RX7) (T := TX7) (N := 42) hx hb htb inw7 hown hK.1 hP 0 rfl rfl 14 (by decide) (htb _ wmt3_181) (fun _ h9 => h9) rfl dX7_reads_300 ?_
            refine lv_iconst (v := (-1)) hx hb dX7_reads_303 (by decide) ?_
            refine lv_icmp_ne (tgt := 317) hx hb dX7_reads_304 (by decide) (fun c_7 => ?_) (fun c_7 => ?_)
            · skip
              have hc_7 := zb_ne rfl (show ((-1) : Int32).toInt = (-1) by decide) c_7
              exact hj317 (z.2.2.1 7, z.2.2.1 8, z.2.2.1 9, z.2.2.1 10, fa2, t2, b2) H locs ls (show RD d.toNatClampNeg wh fa2 (z.2.2.1 7) (z.2.2.1 8) (z.2.2.1 9) (z.2.2.1 10) (z.2.2.1 7) (z.2.2.1 8) (z.2.2.1 9) (z.2.2.1 10) from (RD_same (f := fa2) (w := wh) hI.2.2.2.2.2 (z_cl4 hd) (by omega))) hP hS (lv_sub hl [0, 1, 2] rfl)
            · skip
              have hc_7 := zb_eq rfl (show ((-1) : Int32).toInt = (-1) by decide) c_7
              refine lv_aload_n hx hb dX7_reads_307 rfl (lv_at hl 0 rfl) ?_
              refine lv_aload_n hx hb dX7_reads_308 rfl (lv_at hl 0 rfl) ?_
              refine va_get (D := (dC, dI)) (ci := 7) (v := .ref (q 2)) (C := RX7) (T := TX7) (N := 42) hx hb htb inw7 hown hK.1 hP 0 rfl rfl 2 (by decide) (htb _ wmt3_169) (fun _ h9 => h9) rfl dX7_reads_309 ?_
              refine lv_iload_n hx hb dX7_reads_312 rfl (lv_at hl 1 rfl) ?_
              refine va_iald (D := (dC, dI)) hx hb hK.1 hP 1 0 rfl rfl (z_in (by omega)) dX7_reads_313 ?_
              refine lv_topi (fun x_8 ex_8 => ?_)
              replace ex_8 : x_8 = (z.2.2.1 2) d.toNatClampNeg := ex_8
              have hx_8 : x_8.toInt = ((z.2.2.1 2) d.toNatClampNeg).toInt := by rw [ex_8]
              have hmx_8 := M4_at hI.2.2.2.1 hd
              refine va_put (D := (dC, dI)) (ci := 7) (v := .int x_8) (ty := .int) (C := RX7) (T := TX7) (N := 42) hx hb htb inw7 tyX7 tyX7_ok nmX7 hown hK.1 hP (hDa _) hS 0 rfl rfl 14 (by decide) (htb _ wmt3_181) (fun _ h9 => h9) rfl (by decide +kernel) rfl rfl (Nat.le_of_ble_eq_true rfl) dX7_reads_314 (fun H locs hP _ hS => ?_)
              have hP : va_P (dC, dI) vwCl (zM k q (sI (sA (sA (sA (sI (sI (sI (sA z 4 f_3) 12 d) 13 at2) 15 pa2) 16 l2) 17 t2) 18 b2) 14 x_8)) H := hP
              exact hj317 (z.2.2.1 7, z.2.2.1 8, z.2.2.1 9, z.2.2.1 10, x_8, t2, b2) H locs ls (show RD d.toNatClampNeg wh x_8 (z.2.2.1 7) (z.2.2.1 8) (z.2.2.1 9) (z.2.2.1 10) (z.2.2.1 7) (z.2.2.1 8) (z.2.2.1 9) (z.2.2.1 10) from (RD_same (f := x_8) (w := wh) hI.2.2.2.2.2 (z_cl4 hd) (by omega))) hP hS (lv_sub hl [0, 1, 2] rfl)
          · skip
            have hc_6 := zb_eq rfl (show ((-1) : Int32).toInt = (-1) by decide) c_6
            refine lv_iload_n hx hb dX7_reads_125 rfl (lv_at hl 2 rfl) ?_
            refine lv_bipush (v := 25) hx hb dX7_reads_126 (by decide) ?_
            refine lv_icmp_ge (tgt := 299) hx hb dX7_reads_128 (by decide) (fun c_9 => ?_) (fun c_9 => ?_)
            · skip
              have hc_9 := zb_le (show (25 : Int32).toInt = 25 by decide) rfl c_9
              refine lv_aload_n hx hb dX7_reads_299 rfl (lv_at hl 0 rfl) ?_
              refine va_get (D := (dC, dI)) (ci := 7) (v := .int fa2) (C := RX7) (T := TX7) (N := 42) hx hb htb inw7 hown hK.1 hP 0 rfl rfl 14 (by decide) (htb _ wmt3_181) (fun _ h9 => h9) rfl dX7_reads_300 ?_
              refine lv_iconst (v := (-1)) hx hb dX7_reads_303 (by decide) ?_
              refine lv_icmp_ne (tgt := 317) hx hb dX7_reads_304 (by decide) (fun c_10 => ?_) (fun c_10 => ?_)
              · skip
                have hc_10 := zb_ne rfl (show ((-1) : Int32).toInt = (-1) by decide) c_10
                exact hj317 (z.2.2.1 7, z.2.2.1 8, z.2.2.1 9, z.2.2.1 10, fa2, t2, b2) H locs ls (show RD d.toNatClampNeg wh fa2 (z.2.2.1 7) (z.2.2.1 8) (z.2.2.1 9) (z.2.2.1 10) (z.2.2.1 7) (z.2.2.1 8) (z.2.2.1 9) (z.2.2.1 10) from (RD_same (f := fa2) (w := wh) hI.2.2.2.2.2 (z_cl4 hd) (by omega))) hP hS (lv_sub hl [0, 1, 2] rfl)
              · skip
                have hc_10 := zb_eq rfl (show ((-1) : Int32).toInt = (-1) by decide) c_10
                refine lv_aload_n hx hb dX7_reads_307 rfl (lv_at hl 0 rfl) ?_
                refine lv_aload_n hx hb dX7_reads_308 rfl (lv_at hl 0 rfl) ?_
                refine va_get (D := (dC, dI)) (ci := 7) (v := .ref (q 2)) (C := RX7) (T := TX7) (N := 42) hx hb htb inw7 hown hK.1 hP 0 rfl rfl 2 (by decide) (htb _ wmt3_169) (fun _ h9 => h9) rfl dX7_reads_309 ?_
                refine lv_iload_n hx hb dX7_reads_312 rfl (lv_at hl 1 rfl) ?_
                refine va_iald (D := (dC, dI)) hx hb hK.1 hP 1 0 rfl rfl (z_in (by omega)) dX7_reads_313 ?_
                refine lv_topi (fun x_11 ex_11 => ?_)
                replace ex_11 : x_11 = (z.2.2.1 2) d.toNatClampNeg := ex_11
                have hx_11 : x_11.toInt = ((z.2.2.1 2) d.toNatClampNeg).toInt := by rw [ex_11]
                have hmx_11 := M4_at hI.2.2.2.1 hd
                refine va_put (D := (dC, dI)) (ci := 7) (v := .int x_11) (ty := .int) (C := RX7) (T := TX7) (N := 42) hx hb htb inw7 tyX7 tyX7_ok nmX7 hown hK.1 hP (hDa _) hS 0 rfl rfl 14 (by decide) (htb _ wmt3_181) (fun _ h9 => h9) rfl (by decide +kernel) rfl rfl (Nat.le_of_ble_eq_true rfl) dX7_reads_314 (fun H locs hP _ hS => ?_)
                have hP : va_P (dC, dI) vwCl (zM k q (sI (sA (sA (sA (sI (sI (sI (sA z 4 f_3) 12 d) 13 at2) 15 pa2) 16 l2) 17 t2) 18 b2) 14 x_11)) H := hP
                exact hj317 (z.2.2.1 7, z.2.2.1 8, z.2.2.1 9, z.2.2.1 10, x_11, t2, b2) H locs ls (show RD d.toNatClampNeg wh x_11 (z.2.2.1 7) (z.2.2.1 8) (z.2.2.1 9) (z.2.2.1 10) (z.2.2.1 7) (z.2.2.1 8) (z.2.2.1 9) (z.2.2.1 10) from (RD_same (f := x_11) (w := wh) hI.2.2.2.2.2 (z_cl4 hd) (by omega))) hP hS (lv_sub hl [0, 1, 2] rfl)
            · skip
              have hc_9 := zb_nle (show (25 : Int32).toInt = 25 by decide) rfl c_9
              refine lv_iconst (v := 0) hx hb dX7_reads_131 (by decide) ?_
              refine lv_istore_n (lv' := [(3, .int 0), (0, .ref (q 0)), (1, .int d), (2, .int wh)]) hx hb dX7_reads_132 rfl hl (by decide) rfl (fun ls hl => ?_)
              obtain ⟨kk, ekk⟩ : ∃ x : Int32, 0 = x := ⟨_, rfl⟩
              obtain ⟨t3, et3⟩ : ∃ x : Nat → Int32, t2 = x := ⟨_, rfl⟩
              obtain ⟨b3, eb3⟩ : ∃ x : Nat → Int32, b2 = x := ⟨_, rfl⟩
              have hv133 : (0 ≤ kk.toInt ∧ kk.toInt ≤ pa2.toInt) ∧ (PT pa2 t3 b3) := by subst ekk et3 eb3; exact ⟨⟨by decide, hpt.1⟩, hpt⟩
              replace hl : lv_has ls 5 [(3, .int kk), (0, .ref (q 0)), (1, .int d), (2, .int wh)] := by subst ekk et3 eb3; exact hl
              replace hP : va_P (dC, dI) vwCl (zM k q (sA (sA (sA (sI (sI (sI (sI (sA z 4 f_3) 12 d) 13 at2) 14 fa2) 15 pa2) 16 l2) 17 t3) 18 b3)) H := by subst et3 eb3; exact hP
              clear ekk et3 eb3
              obtain ⟨mm133, hm133⟩ : ∃ mm : Nat, mm = (15 - kk.toInt).toNat := ⟨_, rfl⟩
              refine z_cut2 hP hS hl ?_
              clear hl hP
              intro H locs ls hP hS hl
              induction mm133 using Nat.strongRecOn generalizing kk t3 b3 H locs ls with
              | _ mm133 ih133 =>
                obtain ⟨hk, hpt3⟩ := hv133
                have hp1 := hpt3.2.1
                refine lv_iload_n hx hb dX7_reads_133 rfl (lv_at hl 0 rfl) ?_
                refine lv_aload_n hx hb dX7_reads_134 rfl (lv_at hl 1 rfl) ?_
                refine va_get (D := (dC, dI)) (ci := 7) (v := .int pa2) (C := RX7) (T := TX7) (N := 42) hx hb htb inw7 hown hK.1 hP 0 rfl rfl 15 (by decide) (htb _ wmt3_182) (fun _ h9 => h9) rfl dX7_reads_135 ?_
                refine lv_icmp_ge (tgt := 189) hx hb dX7_reads_138 (by decide) (fun c_12 => ?_) (fun c_12 => ?_)
                · skip
                  have hc_12 := zb_le rfl rfl c_12
                  refine lv_aload_n hx hb dX7_reads_189 rfl (lv_at hl 1 rfl) ?_
                  refine va_get (D := (dC, dI)) (ci := 7) (v := .ref (q 7)) (C := RX7) (T := TX7) (N := 42) hx hb htb inw7 hown hK.1 hP 0 rfl rfl 7 (by decide) (htb _ wmt3_174) (fun _ h9 => h9) rfl dX7_reads_190 ?_
                  refine lv_iload_n hx hb dX7_reads_193 rfl (lv_at hl 2 rfl) ?_
                  refine lv_aload_n hx hb dX7_reads_194 rfl (lv_at hl 1 rfl) ?_
                  refine lv_bipush (v := 116) hx hb dX7_reads_195 (by decide) ?_
                  refine lv_iload_n hx hb dX7_reads_197 rfl (lv_at hl 3 rfl) ?_
                  refine zcA_i (w := (zM k q (sA (sA (sA (sI (sI (sI (sI (sA z 4 f_3) 12 d) 13 at2) 14 fa2) 15 pa2) 16 l2) 17 t3) 18 b3))) (va_runV (As := [.int 116, .int wh]) (rest := [.int d, .ref (q 7)]) ⟨hx, hb, hml, hown, htb⟩ (c_X7_shareOf l dC dI k q (sA (sA (sA (sI (sI (sI (sI (sA z 4 f_3) 12 d) 13 at2) 14 fa2) 15 pa2) 16 l2) 17 t3) 18 b3) 116 wh _ hpt3 (show 0 ≤ wh.toInt ∧ wh.toInt ≤ 24 by omega)) (cwV 2 htb (gzV wmt4_100 wmt4_102 wmp2_12 wmt1_8 wmt4_103) rfl rfl rfl (by decide +kernel) ⟨Nat.le_of_ble_eq_true rfl, Nat.le_of_ble_eq_true rfl⟩) (zpA_V (ci := 7) (q0 := 0) hK hP (hDa _) rfl rfl) rfl rfl hl.1 rfl (lv_room (Nat.le_of_ble_eq_true rfl)) dX7_reads_198 ⟨Nat.le_of_ble_eq_true rfl, Nat.le_of_ble_eq_true rfl⟩) (hDa _) hS hA (fun r_13 u_14 H locs w_15 hP _ hS => ?_)
                  have h_16 := w_15
                  replace h_16 : 0 ≤ r_13.toInt ∧ r_13.toInt ≤ 7200 := h_16
                  refine va_iast (D := (dC, dI)) hx hb hK.1 hP (hDa _) hS 6 0 rfl rfl (z_in (by omega)) dX7_reads_201 (fun H locs hP _ hS => ?_)
                  obtain ⟨f_18, ef_18⟩ : ∃ x : Nat → Int32, x = upd (z.2.2.1 7) d.toNatClampNeg r_13 := ⟨_, rfl⟩
                  have hP : va_P (dC, dI) vwCl (zM k q (sA (sA (sA (sA (sI (sI (sI (sI (sA z 4 f_3) 12 d) 13 at2) 14 fa2) 15 pa2) 16 l2) 17 t3) 18 b3) 7 f_18)) H := by rw [ef_18]; exact hP
                  refine lv_aload_n hx hb dX7_reads_202 rfl (lv_at hl 1 rfl) ?_
                  refine va_get (D := (dC, dI)) (ci := 7) (v := .ref (q 8)) (C := RX7) (T := TX7) (N := 42) hx hb htb inw7 hown hK.1 hP 0 rfl rfl 8 (by decide) (htb _ wmt3_175) (fun _ h9 => h9) rfl dX7_reads_203 ?_
                  refine lv_iload_n hx hb dX7_reads_206 rfl (lv_at hl 2 rfl) ?_
                  refine lv_aload_n hx hb dX7_reads_207 rfl (lv_at hl 1 rfl) ?_
                  refine lv_bipush (v := 111) hx hb dX7_reads_208 (by decide) ?_
                  refine lv_iload_n hx hb dX7_reads_210 rfl (lv_at hl 3 rfl) ?_
                  refine zcA_i (w := (zM k q (sA (sA (sA (sA (sI (sI (sI (sI (sA z 4 f_3) 12 d) 13 at2) 14 fa2) 15 pa2) 16 l2) 17 t3) 18 b3) 7 f_18))) (va_runV (As := [.int 111, .int wh]) (rest := [.int d, .ref (q 8)]) ⟨hx, hb, hml, hown, htb⟩ (c_X7_shareOf l dC dI k q (sA (sA (sA (sA (sI (sI (sI (sI (sA z 4 f_3) 12 d) 13 at2) 14 fa2) 15 pa2) 16 l2) 17 t3) 18 b3) 7 f_18) 111 wh _ hpt3 (show 0 ≤ wh.toInt ∧ wh.toInt ≤ 24 by omega)) (cwV 2 htb (gzV wmt4_100 wmt4_102 wmp2_12 wmt1_8 wmt4_103) rfl rfl rfl (by decide +kernel) ⟨Nat.le_of_ble_eq_true rfl, Nat.le_of_ble_eq_true rfl⟩) (zpA_V (ci := 7) (q0 := 0) hK hP (hDa _) rfl rfl) rfl rfl hl.1 rfl (lv_room (Nat.le_of_ble_eq_true rfl)) dX7_reads_211 ⟨Nat.le_of_ble_eq_true rfl, Nat.le_of_ble_eq_true rfl⟩) (hDa _) hS hA (fun r_19 u_20 H locs w_21 hP _ hS => ?_)
                  have h_22 := w_21
                  replace h_22 : 0 ≤ r_19.toInt ∧ r_19.toInt ≤ 7200 := h_22
                  refine va_iast (D := (dC, dI)) hx hb hK.1 hP (hDa _) hS 7 0 rfl rfl (z_in (by omega)) dX7_reads_214 (fun H locs hP _ hS => ?_)
                  obtain ⟨f_24, ef_24⟩ : ∃ x : Nat → Int32, x = upd (z.2.2.1 8) d.toNatClampNeg r_19 := ⟨_, rfl⟩
                  have hP : va_P (dC, dI) vwCl (zM k q (sA (sA (sA (sA (sA (sI (sI (sI (sI (sA z 4 f_3) 12 d) 13 at2) 14 fa2) 15 pa2) 16 l2) 17 t3) 18 b3) 7 f_18) 8 f_24)) H := by rw [ef_24]; exact hP
                  refine lv_aload_n hx hb dX7_reads_215 rfl (lv_at hl 1 rfl) ?_
                  refine va_get (D := (dC, dI)) (ci := 7) (v := .ref (q 9)) (C := RX7) (T := TX7) (N := 42) hx hb htb inw7 hown hK.1 hP 0 rfl rfl 9 (by decide) (htb _ wmt3_176) (fun _ h9 => h9) rfl dX7_reads_216 ?_
                  refine lv_iload_n hx hb dX7_reads_219 rfl (lv_at hl 2 rfl) ?_
                  refine lv_aload_n hx hb dX7_reads_220 rfl (lv_at hl 1 rfl) ?_
                  refine lv_bipush (v := 121) hx hb dX7_reads_221 (by decide) ?_
                  refine lv_iload_n hx hb dX7_reads_223 rfl (lv_at hl 3 rfl) ?_
                  refine zcA_i (w := (zM k q (sA (sA (sA (sA (sA (sI (sI (sI (sI (sA z 4 f_3) 12 d) 13 at2) 14 fa2) 15 pa2) 16 l2) 17 t3) 18 b3) 7 f_18) 8 f_24))) (va_runV (As := [.int 121, .int wh]) (rest := [.int d, .ref (q 9)]) ⟨hx, hb, hml, hown, htb⟩ (c_X7_shareOf l dC dI k q (sA (sA (sA (sA (sA (sI (sI (sI (sI (sA z 4 f_3) 12 d) 13 at2) 14 fa2) 15 pa2) 16 l2) 17 t3) 18 b3) 7 f_18) 8 f_24) 121 wh _ hpt3 (show 0 ≤ wh.toInt ∧ wh.toInt ≤ 24 by omega)) (cwV 2 htb (gzV wmt4_100 wmt4_102 wmp2_12 wmt1_8 wmt4_103) rfl rfl rfl (by decide +kernel) ⟨Nat.le_of_ble_eq_true rfl, Nat.le_of_ble_eq_true rfl⟩) (zpA_V (ci := 7) (q0 := 0) hK hP (hDa _) rfl rfl) rfl rfl hl.1 rfl (lv_room (Nat.le_of_ble_eq_true rfl)) dX7_reads_224 ⟨Nat.le_of_ble_eq_true rfl, Nat.le_of_ble_eq_true rfl⟩) (hDa _) hS hA (fun r_25 u_26 H locs w_27 hP _ hS => ?_)
                  have h_28 := w_27
                  replace h_28 : 0 ≤ r_25.toInt ∧ r_25.toInt ≤ 7200 := h_28
                  refine va_iast (D := (dC, dI)) hx hb hK.1 hP (hDa _) hS 8 0 rfl rfl (z_in (by omega)) dX7_reads_227 (fun H locs hP _ hS => ?_)
                  obtain ⟨f_30, ef_30⟩ : ∃ x : Nat → Int32, x = upd (z.2.2.1 9) d.toNatClampNeg r_25 := ⟨_, rfl⟩
                  have hP : va_P (dC, dI) vwCl (zM k q (sA (sA (sA (sA (sA (sA (sI (sI (sI (sI (sA z 4 f_3) 12 d) 13 at2) 14 fa2) 15 pa2) 16 l2) 17 t3) 18 b3) 7 f_18) 8 f_24) 9 f_30)) H := by rw [ef_30]; exact hP
                  refine lv_aload_n hx hb dX7_reads_228 rfl (lv_at hl 1 rfl) ?_
                  refine va_get (D := (dC, dI)) (ci := 7) (v := .ref (q 10)) (C := RX7) (T := TX7) (N := 42) hx hb htb inw7 hown hK.1 hP 0 rfl rfl 10 (by decide) (htb _ wmt3_177) (fun _ h9 => h9) rfl dX7_reads_229 ?_
                  refine lv_iload_n hx hb dX7_reads_232 rfl (lv_at hl 2 rfl) ?_
                  refine lv_aload_n hx hb dX7_reads_233 rfl (lv_at hl 1 rfl) ?_
                  refine lv_bipush (v := 117) hx hb dX7_reads_234 (by decide) ?_
                  refine lv_iload_n hx hb dX7_reads_236 rfl (lv_at hl 3 rfl) ?_
                  refine zcA_i (w := (zM k q (sA (sA (sA (sA (sA (sA (sI (sI (sI (sI (sA z 4 f_3) 12 d) 13 at2) 14 fa2) 15 pa2) 16 l2) 17 t3) 18 b3) 7 f_18) 8 f_24) 9 f_30))) (va_runV (As := [.int 117, .int wh]) (rest := [.int d, .ref (q 10)]) ⟨hx, hb, hml, hown, htb⟩ (c_X7_shareOf l dC dI k q (sA (sA (sA (sA (sA (sA (sI (sI (sI (sI (sA z 4 f_3) 12 d) 13 at2) 14 fa2) 15 pa2) 16 l2) 17 t3) 18 b3) 7 f_18) 8 f_24) 9 f_30) 117 wh _ hpt3 (show 0 ≤ wh.toInt ∧ wh.toInt ≤ 24 by omega)) (cwV 2 htb (gzV wmt4_100 wmt4_102 wmp2_12 wmt1_8 wmt4_103) rfl rfl rfl (by decide +kernel) ⟨Nat.le_of_ble_eq_true rfl, Nat.le_of_ble_eq_true rfl⟩) (zpA_V (ci := 7) (q0 := 0) hK hP (hDa _) rfl rfl) rfl rfl hl.1 rfl (lv_room (Nat.le_of_ble_eq_true rfl)) dX7_reads_237 ⟨Nat.le_of_ble_eq_true rfl, Nat.le_of_ble_eq_true rfl⟩) (hDa _) hS hA (fun r_31 u_32 H locs w_33 hP _ hS => ?_)
                  have h_34 := w_33
                  replace h_34 : 0 ≤ r_31.toInt ∧ r_31.toInt ≤ 7200 := h_34
                  refine va_iast (D := (dC, dI)) hx hb hK.1 hP (hDa _) hS 9 0 rfl rfl (z_in (by omega)) dX7_reads_240 (fun H locs hP _ hS => ?_)
                  obtain ⟨f_36, ef_36⟩ : ∃ x : Nat → Int32, x = upd (z.2.2.1 10) d.toNatClampNeg r_31 := ⟨_, rfl⟩
                  have hP : va_P (dC, dI) vwCl (zM k q (sA (sA (sA (sA (sA (sA (sA (sI (sI (sI (sI (sA z 4 f_3) 12 d) 13 at2) 14 fa2) 15 pa2) 16 l2) 17 t3) 18 b3) 7 f_18) 8 f_24) 9 f_30) 10 f_36)) H := by rw [ef_36]; exact hP
                  refine lv_aload_n hx hb dX7_reads_241 rfl (lv_at hl 1 rfl) ?_
                  refine va_get (D := (dC, dI)) (ci := 7) (v := .ref (q 7)) (C := RX7) (T := TX7) (N := 42) hx hb htb inw7 hown hK.1 hP 0 rfl rfl 7 (by decide) (htb _ wmt3_174) (fun _ h9 => h9) rfl dX7_reads_242 ?_
                  refine lv_iload_n hx hb dX7_reads_245 rfl (lv_at hl 2 rfl) ?_
                  refine va_iald (D := (dC, dI)) hx hb hK.1 hP 6 0 rfl rfl (z_in (by omega)) dX7_reads_246 ?_
                  refine lv_topi (fun x_37 ex_37 => ?_)
                  replace ex_37 : x_37 = f_18 d.toNatClampNeg := ex_37
                  have hx_37 : x_37.toInt = r_13.toInt := by rw [ex_37, ef_18, pk_us]
                  refine lv_aload_n hx hb dX7_reads_247 rfl (lv_at hl 1 rfl) ?_
                  refine va_get (D := (dC, dI)) (ci := 7) (v := .ref (q 8)) (C := RX7) (T := TX7) (N := 42) hx hb htb inw7 hown hK.1 hP 0 rfl rfl 8 (by decide) (htb _ wmt3_175) (fun _ h9 => h9) rfl dX7_reads_248 ?_
                  refine lv_iload_n hx hb dX7_reads_251 rfl (lv_at hl 2 rfl) ?_
                  refine va_iald (D := (dC, dI)) hx hb hK.1 hP 7 0 rfl rfl (z_in (by omega)) dX7_reads_252 ?_
                  refine lv_topi (fun x_38 ex_38 => ?_)
                  replace ex_38 : x_38 = f_24 d.toNatClampNeg := ex_38
                  have hx_38 : x_38.toInt = r_19.toInt := by rw [ex_38, ef_24, pk_us]
                  refine lv_iadd hx hb dX7_reads_253 ?_
                  refine lv_topi (fun x_39 ex_39 => ?_)
                  have hx_39 := z_add ex_39 rfl rfl (by omega)
                  refine lv_aload_n hx hb dX7_reads_254 rfl (lv_at hl 1 rfl) ?_
                  refine va_get (D := (dC, dI)) (ci := 7) (v := .ref (q 9)) (C := RX7) (T := TX7) (N := 42) hx hb htb inw7 hown hK.1 hP 0 rfl rfl 9 (by decide) (htb _ wmt3_176) (fun _ h9 => h9) rfl dX7_reads_255 ?_
                  refine lv_iload_n hx hb dX7_reads_258 rfl (lv_at hl 2 rfl) ?_
                  refine va_iald (D := (dC, dI)) hx hb hK.1 hP 8 0 rfl rfl (z_in (by omega)) dX7_reads_259 ?_
                  refine lv_topi (fun x_40 ex_40 => ?_)
                  replace ex_40 : x_40 = f_30 d.toNatClampNeg := ex_40
                  have hx_40 : x_40.toInt = r_25.toInt := by rw [ex_40, ef_30, pk_us]
                  refine lv_iadd hx hb dX7_reads_260 ?_
                  refine lv_topi (fun x_41 ex_41 => ?_)
                  have hx_41 := z_add ex_41 rfl rfl (by omega)
                  refine lv_aload_n hx hb dX7_reads_261 rfl (lv_at hl 1 rfl) ?_
                  refine va_get (D := (dC, dI)) (ci := 7) (v := .ref (q 10)) (C := RX7) (T := TX7) (N := 42) hx hb htb inw7 hown hK.1 hP 0 rfl rfl 10 (by decide) (htb _ wmt3_177) (fun _ h9 => h9) rfl dX7_reads_262 ?_
                  refine lv_iload_n hx hb dX7_reads_265 rfl (lv_at hl 2 rfl) ?_
                  refine va_iald (D := (dC, dI)) hx hb hK.1 hP 9 0 rfl rfl (z_in (by omega)) dX7_reads_266 ?_
                  refine lv_topi (fun x_42 ex_42 => ?_)
                  replace ex_42 : x_42 = f_36 d.toNatClampNeg := ex_42
                  have hx_42 : x_42.toInt = r_31.toInt := by rw [ex_42, ef_36, pk_us]
                  refine lv_iadd hx hb dX7_reads_267 ?_
                  refine lv_topi (fun x_43 ex_43 => ?_)
                  have hx_43 := z_add ex_43 rfl rfl (by omega)
                  refine lv_aload_n hx hb dX7_reads_268 rfl (lv_at hl 1 rfl) ?_
                  refine lv_bipush (v := 110) hx hb dX7_reads_269 (by decide) ?_
                  refine lv_iload_n hx hb dX7_reads_271 rfl (lv_at hl 3 rfl) ?_
                  refine zcA_i (w := (zM k q (sA (sA (sA (sA (sA (sA (sA (sI (sI (sI (sI (sA z 4 f_3) 12 d) 13 at2) 14 fa2) 15 pa2) 16 l2) 17 t3) 18 b3) 7 f_18) 8 f_24) 9 f_30) 10 f_36))) (va_runV (As := [.int 110, .int wh]) (rest := [.int x_43]) ⟨hx, hb, hml, hown, htb⟩ (c_X7_shareOf l dC dI k q (sA (sA (sA (sA (sA (sA (sA (sI (sI (sI (sI (sA z 4 f_3) 12 d) 13 at2) 14 fa2) 15 pa2) 16 l2) 17 t3) 18 b3) 7 f_18) 8 f_24) 9 f_30) 10 f_36) 110 wh _ hpt3 (show 0 ≤ wh.toInt ∧ wh.toInt ≤ 24 by omega)) (cwV 2 htb (gzV wmt4_100 wmt4_102 wmp2_12 wmt1_8 wmt4_103) rfl rfl rfl (by decide +kernel) ⟨Nat.le_of_ble_eq_true rfl, Nat.le_of_ble_eq_true rfl⟩) (zpA_V (ci := 7) (q0 := 0) hK hP (hDa _) rfl rfl) rfl rfl hl.1 rfl (lv_room (Nat.le_of_ble_eq_true rfl)) dX7_reads_272 ⟨Nat.le_of_ble_eq_true rfl, Nat.le_of_ble_eq_true rfl⟩) (hDa _) hS hA (fun r_44 u_45 H locs w_46 hP _ hS => ?_)
                  have h_47 := w_46
                  replace h_47 : 0 ≤ r_44.toInt ∧ r_44.toInt ≤ 7200 := h_47
                  refine lv_iadd hx hb dX7_reads_275 ?_
                  refine lv_topi (fun x_49 ex_49 => ?_)
                  have hx_49 := z_add ex_49 rfl rfl (by omega)
                  refine lv_istore_n (lv' := [(3, .int x_49), (0, .ref (q 0)), (1, .int d), (2, .int wh)]) hx hb dX7_reads_276 rfl hl (by decide) rfl (fun ls hl => ?_)
                  refine lv_aload_n hx hb dX7_reads_277 rfl (lv_at hl 1 rfl) ?_
                  refine lv_iload_n hx hb dX7_reads_278 rfl (lv_at hl 0 rfl) ?_
                  refine lv_iload_n hx hb dX7_reads_279 rfl (lv_at hl 3 rfl) ?_
                  refine lv_icmp_ne (tgt := 287) hx hb dX7_reads_280 (by decide) (fun c_50 => ?_) (fun c_50 => ?_)
                  · skip
                    have hc_50 := zb_ne rfl rfl c_50
                    refine lv_aload_n hx hb dX7_reads_287 rfl (lv_at hl 1 rfl) ?_
                    refine va_get (D := (dC, dI)) (ci := 7) (v := .ref (q 2)) (C := RX7) (T := TX7) (N := 42) hx hb htb inw7 hown hK.1 hP 0 rfl rfl 2 (by decide) (htb _ wmt3_169) (fun _ h9 => h9) rfl dX7_reads_288 ?_
                    refine lv_iload_n hx hb dX7_reads_291 rfl (lv_at hl 2 rfl) ?_
                    refine va_iald (D := (dC, dI)) hx hb hK.1 hP 1 0 rfl rfl (z_in (by omega)) dX7_reads_292 ?_
                    refine lv_topi (fun x_51 ex_51 => ?_)
                    replace ex_51 : x_51 = (z.2.2.1 2) d.toNatClampNeg := ex_51
                    have hx_51 : x_51.toInt = ((z.2.2.1 2) d.toNatClampNeg).toInt := by rw [ex_51]
                    have hmx_51 := M4_at hI.2.2.2.1 hd
                    refine va_put (D := (dC, dI)) (ci := 7) (v := .int x_51) (ty := .int) (C := RX7) (T := TX7) (N := 42) hx hb htb inw7 tyX7 tyX7_ok nmX7 hown hK.1 hP (hDa _) hS 0 rfl rfl 14 (by decide) (htb _ wmt3_181) (fun _ h9 => h9) rfl (by decide +kernel) rfl rfl (Nat.le_of_ble_eq_true rfl) dX7_reads_293 (fun H locs hP _ hS => ?_)
                    have hP : va_P (dC, dI) vwCl (zM k q (sI (sA (sA (sA (sA (sA (sA (sA (sI (sI (sI (sA z 4 f_3) 12 d) 13 at2) 15 pa2) 16 l2) 17 t3) 18 b3) 7 f_18) 8 f_24) 9 f_30) 10 f_36) 14 x_51)) H := hP
                    refine lv_goto (tgt := 317) hx hb dX7_reads_296 (by decide) ?_
                    exact hj317 (f_18, f_24, f_30, f_36, x_51, t3, b3) H locs ls (show RD d.toNatClampNeg wh x_51 (z.2.2.1 7) (z.2.2.1 8) (z.2.2.1 9) (z.2.2.1 10) f_18 f_24 f_30 f_36 from (RD_new (f := x_51) (w := wh) ef_18 ef_24 ef_30 ef_36 (by omega) (by omega) (by omega) (by omega) (fun q9 => by omega))) hP hS (lv_sub hl [1, 2, 3] rfl)
                  · skip
                    have hc_50 := zb_eq rfl rfl c_50
                    refine lv_iconst (v := (-1)) hx hb dX7_reads_283 (by decide) ?_
                    refine lv_goto (tgt := 293) hx hb dX7_reads_284 (by decide) ?_
                    refine va_put (D := (dC, dI)) (ci := 7) (v := .int (-1)) (ty := .int) (C := RX7) (T := TX7) (N := 42) hx hb htb inw7 tyX7 tyX7_ok nmX7 hown hK.1 hP (hDa _) hS 0 rfl rfl 14 (by decide) (htb _ wmt3_181) (fun _ h9 => h9) rfl (by decide +kernel) rfl rfl (Nat.le_of_ble_eq_true rfl) dX7_reads_293 (fun H locs hP _ hS => ?_)
                    have hP : va_P (dC, dI) vwCl (zM k q (sI (sA (sA (sA (sA (sA (sA (sA (sI (sI (sI (sA z 4 f_3) 12 d) 13 at2) 15 pa2) 16 l2) 17 t3) 18 b3) 7 f_18) 8 f_24) 9 f_30) 10 f_36) 14 (-1))) H := hP
                    refine lv_goto (tgt := 317) hx hb dX7_reads_296 (by decide) ?_
                    exact hj317 (f_18, f_24, f_30, f_36, (-1), t3, b3) H locs ls (show RD d.toNatClampNeg wh ((-1) : Int32) (z.2.2.1 7) (z.2.2.1 8) (z.2.2.1 9) (z.2.2.1 10) f_18 f_24 f_30 f_36 from (RD_new (f := (-1 : Int32)) (w := wh) ef_18 ef_24 ef_30 ef_36 (by omega) (by omega) (by omega) (by omega) (fun q9 => by omega))) hP hS (lv_sub hl [1, 2, 3] rfl)
                · skip
                  have hc_12 := zb_nle rfl rfl c_12
                  refine lv_aload_n hx hb dX7_reads_141 rfl (lv_at hl 1 rfl) ?_
                  refine va_get (D := (dC, dI)) (ci := 7) (v := .ref (q 17)) (C := RX7) (T := TX7) (N := 42) hx hb htb inw7 hown hK.1 hP 0 rfl rfl 17 (by decide) (htb _ wmt3_184) (fun _ h9 => h9) rfl dX7_reads_142 ?_
                  refine lv_iload_n hx hb dX7_reads_145 rfl (lv_at hl 0 rfl) ?_
                  refine va_iald (D := (dC, dI)) hx hb hK.1 hP 11 0 rfl rfl (z_in (by omega)) dX7_reads_146 ?_
                  refine lv_topi (fun x_52 ex_52 => ?_)
                  replace ex_52 : x_52 = t3 kk.toNatClampNeg := ex_52
                  have hx_52 : x_52.toInt = (t3 kk.toNatClampNeg).toInt := by rw [ex_52]
                  have hptq := PT_at hpt3 hk.1 (show kk.toInt < pa2.toInt by omega)
                  refine lv_i2l (v := x_52.toInt64) hx hb dX7_reads_147 rfl ?_
                  refine lv_topl (fun x_53 ex_53 => ?_)
                  have hx_53 : x_53.toInt = x_52.toInt := by rw [ex_53]; exact Jvm.Kit.i64_of_i32 _
                  refine lv_aload_n hx hb dX7_reads_148 rfl (lv_at hl 1 rfl) ?_
                  refine va_get (D := (dC, dI)) (ci := 7) (v := .ref (q 18)) (C := RX7) (T := TX7) (N := 42) hx hb htb inw7 hown hK.1 hP 0 rfl rfl 18 (by decide) (htb _ wmt3_185) (fun _ h9 => h9) rfl dX7_reads_149 ?_
                  refine lv_iload_n hx hb dX7_reads_152 rfl (lv_at hl 0 rfl) ?_
                  refine va_iald (D := (dC, dI)) hx hb hK.1 hP 12 0 rfl rfl (z_in (by omega)) dX7_reads_153 ?_
                  refine lv_topi (fun x_54 ex_54 => ?_)
                  replace ex_54 : x_54 = b3 kk.toNatClampNeg := ex_54
                  have hx_54 : x_54.toInt = (b3 kk.toNatClampNeg).toInt := by rw [ex_54]
                  refine lv_i2l (v := x_54.toInt64) hx hb dX7_reads_154 rfl ?_
                  refine lv_topl (fun x_55 ex_55 => ?_)
                  have hx_55 : x_55.toInt = x_54.toInt := by rw [ex_55]; exact Jvm.Kit.i64_of_i32 _
                  refine zc0_l (w := (zM k q (sA (sA (sA (sI (sI (sI (sI (sA z 4 f_3) 12 d) 13 at2) 14 fa2) 15 pa2) 16 l2) 17 t3) 18 b3))) (va_runS (As := [.long x_53, .long x_55]) (rest := []) ⟨hx, hb, hml, hown, htb⟩ (c_X7_divisor l dC dI k x_53 x_55 _ (by omega) (by omega)) (va_cwS 2 htb (gzS wmt4_97 wmt4_98 wmt1_8 wmt4_99) rfl rfl rfl (by decide +kernel) ⟨Nat.le_of_ble_eq_true rfl, Nat.le_of_ble_eq_true rfl⟩) (zp0_S hK) rfl rfl hl.1 rfl (lv_room (Nat.le_of_ble_eq_true rfl)) dX7_reads_155 ⟨Nat.le_of_ble_eq_true rfl, Nat.le_of_ble_eq_true rfl⟩) hP hS hA (fun r_56 u_57 H locs w_58 hP hS => ?_)
                  have h_59 := w_58
                  replace h_59 : r_56.toInt = (Nat.gcd x_53.toInt.natAbs x_55.toInt.natAbs : Int) := h_59
                  have hgp := zg_pos (x := x_53.toInt) (y := x_55.toInt) (by omega)
                  have hgl := zg_le (x := x_53.toInt) (y := x_55.toInt) (by omega)
                  have hgm := zg_le2 (x := x_53.toInt) (y := x_55.toInt)
                  refine lv_l2i (v := r_56.toInt32) hx hb dX7_reads_158 rfl ?_
                  refine lv_topi (fun x_61 ex_61 => ?_)
                  have hx_61 : x_61.toInt = r_56.toInt := by rw [ex_61]; exact Jvm.Kit.i32_of_i64 (by omega) (by omega)
                  refine lv_istore (lv' := [(4, .int x_61), (3, .int kk), (0, .ref (q 0)), (1, .int d), (2, .int wh)]) hx hb dX7_reads_159 hl (by decide) rfl (fun ls hl => ?_)
                  refine lv_aload_n hx hb dX7_reads_161 rfl (lv_at hl 2 rfl) ?_
                  refine va_get (D := (dC, dI)) (ci := 7) (v := .ref (q 17)) (C := RX7) (T := TX7) (N := 42) hx hb htb inw7 hown hK.1 hP 0 rfl rfl 17 (by decide) (htb _ wmt3_184) (fun _ h9 => h9) rfl dX7_reads_162 ?_
                  refine lv_iload_n hx hb dX7_reads_165 rfl (lv_at hl 1 rfl) ?_
                  refine lv_dup2_11 hx hb dX7_reads_166 rfl rfl ?_
                  refine va_iald (D := (dC, dI)) hx hb hK.1 hP 11 0 rfl rfl (z_in (by omega)) dX7_reads_167 ?_
                  refine lv_topi (fun x_62 ex_62 => ?_)
                  replace ex_62 : x_62 = t3 kk.toNatClampNeg := ex_62
                  have hx_62 : x_62.toInt = (t3 kk.toNatClampNeg).toInt := by rw [ex_62]
                  refine lv_iload hx hb dX7_reads_168 (lv_at hl 0 rfl) ?_
                  refine lv_idiv hx hb dX7_reads_170 (z_i0ne (by omega)) ?_
                  refine lv_topi (fun x_63 ex_63 => ?_)
                  refine va_iast (D := (dC, dI)) hx hb hK.1 hP (hDa _) hS 11 0 rfl rfl (z_in (by omega)) dX7_reads_171 (fun H locs hP _ hS => ?_)
                  obtain ⟨f_64, ef_64⟩ : ∃ x : Nat → Int32, x = upd t3 kk.toNatClampNeg x_63 := ⟨_, rfl⟩
                  have hP : va_P (dC, dI) vwCl (zM k q (sA (sA (sA (sI (sI (sI (sI (sA z 4 f_3) 12 d) 13 at2) 14 fa2) 15 pa2) 16 l2) 18 b3) 17 f_64)) H := by rw [ef_64]; exact hP
                  refine lv_aload_n hx hb dX7_reads_172 rfl (lv_at hl 2 rfl) ?_
                  refine va_get (D := (dC, dI)) (ci := 7) (v := .ref (q 18)) (C := RX7) (T := TX7) (N := 42) hx hb htb inw7 hown hK.1 hP 0 rfl rfl 18 (by decide) (htb _ wmt3_185) (fun _ h9 => h9) rfl dX7_reads_173 ?_
                  refine lv_iload_n hx hb dX7_reads_176 rfl (lv_at hl 1 rfl) ?_
                  refine lv_dup2_11 hx hb dX7_reads_177 rfl rfl ?_
                  refine va_iald (D := (dC, dI)) hx hb hK.1 hP 12 0 rfl rfl (z_in (by omega)) dX7_reads_178 ?_
                  refine lv_topi (fun x_65 ex_65 => ?_)
                  replace ex_65 : x_65 = b3 kk.toNatClampNeg := ex_65
                  have hx_65 : x_65.toInt = (b3 kk.toNatClampNeg).toInt := by rw [ex_65]
                  refine lv_iload hx hb dX7_reads_179 (lv_at hl 0 rfl) ?_
                  refine lv_idiv hx hb dX7_reads_181 (z_i0ne (by omega)) ?_
                  refine lv_topi (fun x_66 ex_66 => ?_)
                  refine va_iast (D := (dC, dI)) hx hb hK.1 hP (hDa _) hS 12 0 rfl rfl (z_in (by omega)) dX7_reads_182 (fun H locs hP _ hS => ?_)
                  obtain ⟨f_67, ef_67⟩ : ∃ x : Nat → Int32, x = upd b3 kk.toNatClampNeg x_66 := ⟨_, rfl⟩
                  have hP : va_P (dC, dI) vwCl (zM k q (sA (sA (sA (sI (sI (sI (sI (sA z 4 f_3) 12 d) 13 at2) 14 fa2) 15 pa2) 16 l2) 17 f_64) 18 f_67)) H := by rw [ef_67]; exact hP
                  obtain ⟨x_68, ex_68⟩ : ∃ y : Int32, y = kk + 1 := ⟨_, rfl⟩
                  have hx_68 : x_68.toInt = kk.toInt + 1 := z_add ex_68 rfl (show (1 : Int32).toInt = 1 by decide) (by omega)
                  refine lv_iinc (v := x_68) (lv' := [(3, .int x_68), (4, .int x_61), (0, .ref (q 0)), (1, .int d), (2, .int wh)]) hx hb dX7_reads_183 hl (k := 1) rfl (by rw [ex_68]; rfl) (by decide) rfl (fun ls hl => ?_)
                  refine lv_goto (tgt := 133) hx hb dX7_reads_186 (by decide) ?_
                  exact ih133 ((15 - x_68.toInt).toNat) (by omega) x_68 f_64 f_67 ⟨(show 0 ≤ x_68.toInt ∧ x_68.toInt ≤ pa2.toInt by omega), (PT_div hpt3 hk.1 (by omega) ex_62 ex_65 ex_63 ex_66 (by omega) (by omega) ef_64 ef_67)⟩ rfl H locs ls hP hS (lv_sub hl [0, 2, 3, 4] rfl)
      · skip
        refine lv_aload_n hx hb dX7_reads_99 rfl (lv_at hl 0 rfl) ?_
        refine va_get (D := (dC, dI)) (ci := 7) (v := .int fa2) (C := RX7) (T := TX7) (N := 42) hx hb htb inw7 hown hK.1 hP 0 rfl rfl 14 (by decide) (htb _ wmt3_181) (fun _ h9 => h9) rfl dX7_reads_100 ?_
        refine lv_iconst (v := (-1)) hx hb dX7_reads_103 (by decide) ?_
        refine lv_icmp_ne (tgt := 114) hx hb dX7_reads_104 (by decide) (fun c_69 => ?_) (fun c_69 => ?_)
        · skip
          have hc_69 := zb_ne rfl (show ((-1) : Int32).toInt = (-1) by decide) c_69
          refine lv_bipush (v := 25) hx hb dX7_reads_114 (by decide) ?_
          refine lv_istore_n (lv' := [(2, .int 25), (0, .ref (q 0)), (1, .int d)]) hx hb dX7_reads_116 rfl hl (by decide) rfl (fun ls hl => ?_)
          exact hj117 25 H locs ls (show 1 ≤ (25 : Int32).toInt ∧ (25 : Int32).toInt ≤ 480 from (by decide)) hP hS (lv_sub hl [1, 2, 0] rfl)
        · skip
          have hc_69 := zb_eq rfl (show ((-1) : Int32).toInt = (-1) by decide) c_69
          refine lv_aload_n hx hb dX7_reads_107 rfl (lv_at hl 0 rfl) ?_
          refine zcA_i (w := (zM k q (sA (sA (sA (sI (sI (sI (sI (sA z 4 f_3) 12 d) 13 at2) 14 fa2) 15 pa2) 16 l2) 17 t2) 18 b2))) (va_runV (As := []) (rest := []) ⟨hx, hb, hml, hown, htb⟩ (c_X7_wholeNow l dC dI k q (sA (sA (sA (sI (sI (sI (sI (sA z 4 f_3) 12 d) 13 at2) 14 fa2) 15 pa2) 16 l2) 17 t2) 18 b2) _ (show PT (pa2) (t2) (b2) by omega)) (cwV 0 htb (gzV wmt4_93 wmt4_95 wmp2_11 wmt1_8 wmt4_96) rfl rfl rfl (by decide +kernel) ⟨Nat.le_of_ble_eq_true rfl, Nat.le_of_ble_eq_true rfl⟩) (zpA_V (ci := 7) (q0 := 0) hK hP (hDa _) rfl rfl) rfl rfl hl.1 rfl (lv_room (Nat.le_of_ble_eq_true rfl)) dX7_reads_108 ⟨Nat.le_of_ble_eq_true rfl, Nat.le_of_ble_eq_true rfl⟩) (hDa _) hS hA (fun r_70 u_71 H locs w_72 hP _ hS => ?_)
          have h_73 := w_72
          replace h_73 : 1 ≤ r_70.toInt ∧ r_70.toInt ≤ 480 := h_73
          refine lv_goto (tgt := 116) hx hb dX7_reads_111 (by decide) ?_
          refine lv_istore_n (lv' := [(2, .int r_70), (0, .ref (q 0)), (1, .int d)]) hx hb dX7_reads_116 rfl hl (by decide) rfl (fun ls hl => ?_)
          exact hj117 r_70 H locs ls (show 1 ≤ r_70.toInt ∧ r_70.toInt ≤ 480 from (by omega)) hP hS (lv_sub hl [1, 2, 0] rfl)
    · skip
      refine lv_aload_n hx hb dX7_reads_37 rfl (lv_at hl 0 rfl) ?_
      refine zcA_v (w := (zM k q (sI (sI (sI (sI (sA z 4 f_3) 12 d) 13 0) 14 (-1)) 15 0))) (va_runV (As := []) (rest := []) ⟨hx, hb, hml, hown, htb⟩ (c_X7_partRead l dC dI k q (sI (sI (sI (sI (sA z 4 f_3) 12 d) 13 0) 14 (-1)) 15 0) _ (show 0 ≤ d.toInt ∧ d.toInt < 4 from hd) hI.2.2.2.1 (show 0 ≤ (0 : Int32).toInt ∧ (0 : Int32).toInt ≤ 200 by decide) (show (-1 : Int32).toInt = -1 by decide) PT_0 (show 4 * (0 : Int32).toInt ≤ (0 : Int32).toInt by decide)) (cwV 0 htb (gzV wmt4_81 wmt4_83 wmp2_8 wmt1_8 wmt4_84) rfl rfl rfl (by decide +kernel) ⟨Nat.le_of_ble_eq_true rfl, Nat.le_of_ble_eq_true rfl⟩) (zpA_V (ci := 7) (q0 := 0) hK hP (hDa _) rfl rfl) rfl rfl hl.1 rfl (lv_room (Nat.le_of_ble_eq_true rfl)) dX7_reads_38 ⟨Nat.le_of_ble_eq_true rfl, Nat.le_of_ble_eq_true rfl⟩) (hDa _) hS hA (fun u_76 H locs w_77 hP _ hS => ?_)
      obtain ⟨oat_78, ofa_79, opa_80, ol_81, ot_82, ob_83⟩ := u_76
      have hP : va_P (dC, dI) vwCl (zM k q (sA (sA (sA (sI (sI (sI (sI (sA z 4 f_3) 12 d) 13 oat_78) 14 ofa_79) 15 opa_80) 16 ol_81) 17 ot_82) 18 ob_83)) H := hP
      obtain ⟨h_84, h_85, h_86, h_87⟩ := w_77
      replace h_84 : PT opa_80 ot_82 ob_83 := h_84
      replace h_85 : 4 * opa_80.toInt ≤ oat_78.toInt := h_85
      replace h_86 : ((0 : Int32)).toInt ≤ oat_78.toInt ∧ oat_78.toInt ≤ ((0 : Int32)).toInt + 6 := h_86
      replace h_87 : ofa_79.toInt = -1 → ((0 : Int32)).toInt < oat_78.toInt ∧ oat_78.toInt ≤ ((z.2.2.1 2) (d).toNatClampNeg).toInt := h_87
      have hprA := h_84
      have hprB := h_85
      have hprC := h_86
      have hprD := h_87
      obtain ⟨at1, eat1⟩ : ∃ x : Int32, oat_78 = x := ⟨_, rfl⟩
      obtain ⟨fa1, efa1⟩ : ∃ x : Int32, ofa_79 = x := ⟨_, rfl⟩
      obtain ⟨pa1, epa1⟩ : ∃ x : Int32, opa_80 = x := ⟨_, rfl⟩
      obtain ⟨l1, el1⟩ : ∃ x : Nat → Int32, ol_81 = x := ⟨_, rfl⟩
      obtain ⟨t1, et1⟩ : ∃ x : Nat → Int32, ot_82 = x := ⟨_, rfl⟩
      obtain ⟨b1, eb1⟩ : ∃ x : Nat → Int32, ob_83 = x := ⟨_, rfl⟩
      have hv41 : (0 ≤ at1.toInt ∧ at1.toInt ≤ 66) ∧ (PT pa1 t1 b1) ∧ (4 * pa1.toInt ≤ at1.toInt) ∧ (fa1.toInt = -1 → at1.toInt ≤ (z.2.2.1 2 d.toNatClampNeg).toInt) := by subst eat1 efa1 epa1 el1 et1 eb1; exact ⟨(by omega), hprA, hprB, (fun q9 => (hprD q9).2)⟩
      replace hl : lv_has ls 5 [(0, .ref (q 0)), (1, .int d)] := by subst eat1 efa1 epa1 el1 et1 eb1; exact hl
      replace hP : va_P (dC, dI) vwCl (zM k q (sA (sA (sA (sI (sI (sI (sI (sA z 4 f_3) 12 d) 13 at1) 14 fa1) 15 pa1) 16 l1) 17 t1) 18 b1)) H := by subst eat1 efa1 epa1 el1 et1 eb1; exact hP
      clear eat1 efa1 epa1 el1 et1 eb1
      obtain ⟨mm41, hm41⟩ : ∃ mm : Nat, mm = (100 - at1.toInt).toNat := ⟨_, rfl⟩
      refine z_cut2 hP hS hl ?_
      clear hl hP
      intro H locs ls hP hS hl
      induction mm41 using Nat.strongRecOn generalizing at1 fa1 pa1 l1 t1 b1 H locs ls with
      | _ mm41 ih41 =>
        obtain ⟨ha, hpt, h4, hf1⟩ := hv41
        refine lv_aload_n hx hb dX7_reads_41 rfl (lv_at hl 0 rfl) ?_
        refine va_get (D := (dC, dI)) (ci := 7) (v := .int fa1) (C := RX7) (T := TX7) (N := 42) hx hb htb inw7 hown hK.1 hP 0 rfl rfl 14 (by decide) (htb _ wmt3_181) (fun _ h9 => h9) rfl dX7_reads_42 ?_
        refine lv_iconst (v := (-1)) hx hb dX7_reads_45 (by decide) ?_
        refine lv_icmp_ne (tgt := 99) hx hb dX7_reads_46 (by decide) (fun c_89 => ?_) (fun c_89 => ?_)
        · skip
          have hc_89 := zb_ne rfl (show ((-1) : Int32).toInt = (-1) by decide) c_89
          exact hj99 (at1, fa1, pa1, l1, t1, b1) H locs ls (show PT pa1 t1 b1 from hpt) hP hS (lv_sub hl [0, 1] rfl)
        · skip
          have hc_89 := zb_eq rfl (show ((-1) : Int32).toInt = (-1) by decide) c_89
          refine lv_aload_n hx hb dX7_reads_49 rfl (lv_at hl 0 rfl) ?_
          refine va_get (D := (dC, dI)) (ci := 7) (v := .int at1) (C := RX7) (T := TX7) (N := 42) hx hb htb inw7 hown hK.1 hP 0 rfl rfl 13 (by decide) (htb _ wmt3_180) (fun _ h9 => h9) rfl dX7_reads_50 ?_
          refine lv_aload_n hx hb dX7_reads_53 rfl (lv_at hl 0 rfl) ?_
          refine va_get (D := (dC, dI)) (ci := 7) (v := .ref (q 2)) (C := RX7) (T := TX7) (N := 42) hx hb htb inw7 hown hK.1 hP 0 rfl rfl 2 (by decide) (htb _ wmt3_169) (fun _ h9 => h9) rfl dX7_reads_54 ?_
          refine lv_iload_n hx hb dX7_reads_57 rfl (lv_at hl 1 rfl) ?_
          refine va_iald (D := (dC, dI)) hx hb hK.1 hP 1 0 rfl rfl (z_in (by omega)) dX7_reads_58 ?_
          refine lv_topi (fun x_90 ex_90 => ?_)
          replace ex_90 : x_90 = (z.2.2.1 2) d.toNatClampNeg := ex_90
          have hx_90 : x_90.toInt = ((z.2.2.1 2) d.toNatClampNeg).toInt := by rw [ex_90]
          refine lv_icmp_ge (tgt := 99) hx hb dX7_reads_59 (by decide) (fun c_91 => ?_) (fun c_91 => ?_)
          · skip
            have hc_91 := zb_le rfl rfl c_91
            exact hj99 (at1, fa1, pa1, l1, t1, b1) H locs ls (show PT pa1 t1 b1 from hpt) hP hS (lv_sub hl [0, 1] rfl)
          · skip
            have hc_91 := zb_nle rfl rfl c_91
            refine lv_aload_n hx hb dX7_reads_62 rfl (lv_at hl 0 rfl) ?_
            refine zcA_i (w := (zM k q (sA (sA (sA (sI (sI (sI (sI (sA z 4 f_3) 12 d) 13 at1) 14 fa1) 15 pa1) 16 l1) 17 t1) 18 b1))) (va_runV (As := []) (rest := []) ⟨hx, hb, hml, hown, htb⟩ (c_X7_byteNow l dC dI k q (sA (sA (sA (sI (sI (sI (sI (sA z 4 f_3) 12 d) 13 at1) 14 fa1) 15 pa1) 16 l1) 17 t1) 18 b1) _ (show 0 ≤ d.toInt ∧ d.toInt < 4 from hd) hI.2.2.2.1 (show 0 ≤ at1.toInt ∧ at1.toInt ≤ 1000 by omega)) (cwV 0 htb (gzV wmt4_85 wmt4_87 wmp2_9 wmt1_8 wmt4_88) rfl rfl rfl (by decide +kernel) ⟨Nat.le_of_ble_eq_true rfl, Nat.le_of_ble_eq_true rfl⟩) (zpA_V (ci := 7) (q0 := 0) hK hP (hDa _) rfl rfl) rfl rfl hl.1 rfl (lv_room (Nat.le_of_ble_eq_true rfl)) dX7_reads_63 ⟨Nat.le_of_ble_eq_true rfl, Nat.le_of_ble_eq_true rfl⟩) (hDa _) hS hA (fun r_92 u_93 H locs w_94 hP _ hS => ?_)
            obtain ⟨h_95, h_96⟩ := w_94
            replace h_95 : (at1).toInt < ((z.2.2.1 2) (d).toNatClampNeg).toInt ∨ r_92.toInt = -1 := h_95
            replace h_96 : r_92.toInt = bN (at1) (d) ((z.2.2.1 2)) ((z.2.2.1 3)) := h_96
            refine lv_bipush (v := 59) hx hb dX7_reads_66 (by decide) ?_
            refine lv_icmp_eq (tgt := 82) hx hb dX7_reads_68 (by decide) (fun c_98 => ?_) (fun c_98 => ?_)
            · skip
              have hc_98 := zb_eq rfl (show (59 : Int32).toInt = 59 by decide) c_98
              refine lv_aload_n hx hb dX7_reads_82 rfl (lv_at hl 0 rfl) ?_
              refine lv_dup hx hb dX7_reads_83 rfl ?_
              refine va_get (D := (dC, dI)) (ci := 7) (v := .int at1) (C := RX7) (T := TX7) (N := 42) hx hb htb inw7 hown hK.1 hP 0 rfl rfl 13 (by decide) (htb _ wmt3_180) (fun _ h9 => h9) rfl dX7_reads_84 ?_
              refine lv_iconst (v := 1) hx hb dX7_reads_87 (by decide) ?_
              refine lv_iadd hx hb dX7_reads_88 ?_
              refine lv_topi (fun x_99 ex_99 => ?_)
              have hx_99 := z_add ex_99 rfl (show (1 : Int32).toInt = 1 by decide) (by omega)
              refine va_put (D := (dC, dI)) (ci := 7) (v := .int x_99) (ty := .int) (C := RX7) (T := TX7) (N := 42) hx hb htb inw7 tyX7 tyX7_ok nmX7 hown hK.1 hP (hDa _) hS 0 rfl rfl 13 (by decide) (htb _ wmt3_180) (fun _ h9 => h9) rfl (by decide +kernel) rfl rfl (Nat.le_of_ble_eq_true rfl) dX7_reads_89 (fun H locs hP _ hS => ?_)
              have hP : va_P (dC, dI) vwCl (zM k q (sI (sA (sA (sA (sI (sI (sI (sA z 4 f_3) 12 d) 14 fa1) 15 pa1) 16 l1) 17 t1) 18 b1) 13 x_99)) H := hP
              refine lv_aload_n hx hb dX7_reads_92 rfl (lv_at hl 0 rfl) ?_
              refine zcA_v (w := (zM k q (sI (sA (sA (sA (sI (sI (sI (sA z 4 f_3) 12 d) 14 fa1) 15 pa1) 16 l1) 17 t1) 18 b1) 13 x_99))) (va_runV (As := []) (rest := []) ⟨hx, hb, hml, hown, htb⟩ (c_X7_partRead l dC dI k q (sI (sA (sA (sA (sI (sI (sI (sA z 4 f_3) 12 d) 14 fa1) 15 pa1) 16 l1) 17 t1) 18 b1) 13 x_99) _ (show 0 ≤ d.toInt ∧ d.toInt < 4 from hd) hI.2.2.2.1 (show 0 ≤ x_99.toInt ∧ x_99.toInt ≤ 200 by omega) (show fa1.toInt = -1 by omega) hpt (show 4 * pa1.toInt ≤ x_99.toInt by omega)) (cwV 0 htb (gzV wmt4_81 wmt4_83 wmp2_8 wmt1_8 wmt4_84) rfl rfl rfl (by decide +kernel) ⟨Nat.le_of_ble_eq_true rfl, Nat.le_of_ble_eq_true rfl⟩) (zpA_V (ci := 7) (q0 := 0) hK hP (hDa _) rfl rfl) rfl rfl hl.1 rfl (lv_room (Nat.le_of_ble_eq_true rfl)) dX7_reads_93 ⟨Nat.le_of_ble_eq_true rfl, Nat.le_of_ble_eq_true rfl⟩) (hDa _) hS hA (fun u_101 H locs w_102 hP _ hS => ?_)
              obtain ⟨oat_103, ofa_104, opa_105, ol_106, ot_107, ob_108⟩ := u_101
              have hP : va_P (dC, dI) vwCl (zM k q (sA (sA (sA (sI (sI (sI (sI (sA z 4 f_3) 12 d) 13 oat_103) 14 ofa_104) 15 opa_105) 16 ol_106) 17 ot_107) 18 ob_108)) H := hP
              obtain ⟨h_109, h_110, h_111, h_112⟩ := w_102
              replace h_109 : PT opa_105 ot_107 ob_108 := h_109
              replace h_110 : 4 * opa_105.toInt ≤ oat_103.toInt := h_110
              replace h_111 : (x_99).toInt ≤ oat_103.toInt ∧ oat_103.toInt ≤ (x_99).toInt + 6 := h_111
              replace h_112 : ofa_104.toInt = -1 → (x_99).toInt < oat_103.toInt ∧ oat_103.toInt ≤ ((z.2.2.1 2) (d).toNatClampNeg).toInt := h_112
              have hprA := h_109
              have hprB := h_110
              have hprC := h_111
              have hprD := h_112
              refine lv_goto (tgt := 41) hx hb dX7_reads_96 (by decide) ?_
              exact ih41 ((100 - oat_103.toInt).toNat) (by omega)  oat_103 ofa_104 opa_105 ol_106 ot_107 ob_108 ⟨(by omega), hprA, hprB, (fun q9 => (hprD q9).2)⟩ rfl H locs ls hP hS (lv_sub hl [0, 1] rfl)
            · skip
              have hc_98 := zb_ne rfl (show (59 : Int32).toInt = 59 by decide) c_98
              refine lv_aload_n hx hb dX7_reads_71 rfl (lv_at hl 0 rfl) ?_
              refine lv_aload_n hx hb dX7_reads_72 rfl (lv_at hl 0 rfl) ?_
              refine va_get (D := (dC, dI)) (ci := 7) (v := .int at1) (C := RX7) (T := TX7) (N := 42) hx hb htb inw7 hown hK.1 hP 0 rfl rfl 13 (by decide) (htb _ wmt3_180) (fun _ h9 => h9) rfl dX7_reads_73 ?_
              refine va_put (D := (dC, dI)) (ci := 7) (v := .int at1) (ty := .int) (C := RX7) (T := TX7) (N := 42) hx hb htb inw7 tyX7 tyX7_ok nmX7 hown hK.1 hP (hDa _) hS 0 rfl rfl 14 (by decide) (htb _ wmt3_181) (fun _ h9 => h9) rfl (by decide +kernel) rfl rfl (Nat.le_of_ble_eq_true rfl) dX7_reads_76 (fun H locs hP _ hS => ?_)
              have hP : va_P (dC, dI) vwCl (zM k q (sI (sA (sA (sA (sI (sI (sI (sA z 4 f_3) 12 d) 13 at1) 15 pa1) 16 l1) 17 t1) 18 b1) 14 at1)) H := hP
              refine lv_goto (tgt := 41) hx hb dX7_reads_79 (by decide) ?_
              refine lv_aload_n hx hb dX7_reads_41 rfl (lv_at hl 0 rfl) ?_
              refine va_get (D := (dC, dI)) (ci := 7) (v := .int at1) (C := RX7) (T := TX7) (N := 42) hx hb htb inw7 hown hK.1 hP 0 rfl rfl 14 (by decide) (htb _ wmt3_181) (fun _ h9 => h9) rfl dX7_reads_42 ?_
              refine lv_iconst (v := (-1)) hx hb dX7_reads_45 (by decide) ?_
              refine lv_icmp_ne (tgt := 99) hx hb dX7_reads_46 (by decide) (fun c_114 => ?_) (fun c_114 => ?_)
              · skip
                have hc_114 := zb_ne rfl (show ((-1) : Int32).toInt = (-1) by decide) c_114
                exact hj99 (at1, at1, pa1, l1, t1, b1) H locs ls (show PT pa1 t1 b1 from hpt) hP hS (lv_sub hl [0, 1] rfl)
              · skip
                have hc_114 := zb_eq rfl (show ((-1) : Int32).toInt = (-1) by decide) c_114
                exfalso; omega
  · skip
    have hc_2 := zb_ne rfl (show (0 : Int32).toInt = 0 by decide) c_2
    have hrd0 := z_ne0 ex_1 hc_2
    exact W.vret hx hb hr (fun t ht hW => ⟨⟨(z.2.2.1 4, z.2.2.1 5, z.2.2.1 6, z.2.2.1 7, z.2.2.1 8, z.2.2.1 9, z.2.2.1 10, z.1 12, z.1 13, z.1 14, z.1 15, z.2.2.1 16, z.2.2.1 17, z.2.2.1 18), rfl, (show (MD (z.2.2.1 4) (z.2.2.1 5) (z.2.2.1 6) (z.2.2.1 7) (z.2.2.1 8) (z.2.2.1 9) (z.2.2.1 10)) ∧ (¬ (z.2.2.1 4) d.toNatClampNeg = 0) ∧ (RK (z.2.2.1 4) (z.2.2.1 5) (z.2.2.1 4) (z.2.2.1 5)) ∧ (R7 (z.2.2.1 4) (z.2.2.1 6) (z.2.2.1 7) (z.2.2.1 8) (z.2.2.1 9) (z.2.2.1 10) (z.2.2.1 6) (z.2.2.1 7) (z.2.2.1 8) (z.2.2.1 9) (z.2.2.1 10)) from ⟨hI.2.2.2.2.2, hrd0, RK_refl, R7_refl⟩), ⟨by rw [ht]; exact hP, hDa _⟩⟩, hS.F ht⟩) hS.2.2 dX7_reads_9
