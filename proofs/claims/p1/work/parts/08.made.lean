set_option maxHeartbeats 4000000 in
set_option maxRecDepth 100000 in
theorem c_X0_init (l : Launch) (dC : Nat → ClassId) (dI : Nat → Nat → Nat) (k : Nat → ClassId) (T : List (ClassId × FieldType)) (h0 : Nat) (sz : Nat)  : Met l yX0_init (wz yX0_init cX0_init 1 none) ({ frames := 1, cells := 7, slots := 612, locals := 12 }) (va_Pc [.ref h0] (zPre dC dI k T [(h0, .inr (0, [.null, .null, .null, .null, .null, .null, .null, .int 0, .int 0]))] sz)) (va_Qv (fun (u : Nat × Nat × Nat × Nat × Nat × Nat × Nat) => True) (fun u t => zPost dC dI (va_A [(h0, .inr (0, [.null, .null, .null, .null, .null, .null, .null, .int 0, .int 0]))] sz) [(h0, .inr (0, [.ref u.1, .ref u.2.1, .ref u.2.2.1, .ref u.2.2.2.1, .ref u.2.2.2.2.1, .ref u.2.2.2.2.2.1, .ref u.2.2.2.2.2.2, .int 0, .int 0])), (u.1, .inl (k 0, 120, .inl (fun _ => 0))), (u.2.1, .inl (k 0, 120, .inl (fun _ => 0))), (u.2.2.1, .inl (k 0, 120, .inl (fun _ => 0))), (u.2.2.2.1, .inl (k 0, 120, .inl (fun _ => 0))), (u.2.2.2.2.1, .inl (k 0, 120, .inl (fun _ => 0))), (u.2.2.2.2.2.1, .inl (k 0, 4, .inl (fun _ => 0))), (u.2.2.2.2.2.2, .inl (k 0, 8, .inl (fun _ => 0)))] t) (va_A [(h0, .inr (0, [.null, .null, .null, .null, .null, .null, .null, .int 0, .int 0]))] sz)) 7 612 (va_A [(h0, .inr (0, [.null, .null, .null, .null, .null, .null, .null, .int 0, .int 0]))] sz) := by
  refine Met.ofW (cc := cX0_init) (maxL := 1) (ret := none) (by decide) rfl ?_
  intro p e s m args below meth c s₁ B hml hv
  obtain ⟨rfl, hsz, hP, hK, hD0⟩ := hv
  have hx := B.exec
  have hb := B.bytes
  have hr := B.returns
  have hts : ∀ w ∈ zw, w.before _ s = true := fun w h => atoms_spec (ws := (wz yX0_init cX0_init 1 none)) B.pre w (List.mem_cons_of_mem _ h)
  have hown : s.vm.findClass RX0 = some m.cls := findClass_of_methodNamed B.named
  have hlocks := B.notSynchronized
  have hin : meth.name = "<init>" := (name_of_methodNamed B.named B.method).1
  subst hsz
  have hi0 := inw0
  have hD := hD0.self (sz := s.heap.size)
  generalize hAe : va_A [(h0, .inr (0, [.null, .null, .null, .null, .null, .null, .null, .int 0, .int 0]))] s.heap.size = A at hD ⊢
  have hA : ∀ q : Nat, s.heap.size ≤ q → A q := fun q h => by rw [← hAe]; exact Or.inr h
  have hl := lv_entry ([.ref h0]) (n := 1) (Nat.le_of_ble_eq_true rfl)
  rw [lg_entry_eq]
  generalize (lg_sl ([.ref h0]) ++ List.replicate (1 - (lg_sl ([.ref h0])).length) Slot.unset).toArray = ls at hl ⊢
  have hl : lv_has ls 1 [(0, .ref h0)] := hl
  refine z_start (w := [(h0, .inr (0, [.null, .null, .null, .null, .null, .null, .null, .int 0, .int 0]))]) hP hD (fun H locs hP hD hS => ?_)
  refine lv_aload_n hx hb dX0_init_0 rfl (lv_at hl 0 rfl) ?_
  refine W.objInit hx hb hown (hts _ wmt1_29) (hts _ wmt1_18) (hts _ wmt1_19) rfl (by rw [hml]; exact hl.1) rfl dX0_init_1 (Nat.le_of_ble_eq_true rfl) (Nat.le_of_ble_eq_true rfl) ?_
  refine W.eq (g2 := F0 m 4 ls []) rfl ?_
  refine lv_aload_n hx hb dX0_init_4 rfl (lv_at hl 0 rfl) ?_
  refine lv_bipush (v := 120) hx hb dX0_init_5 (by decide) ?_
  refine va_newa (D := (dC, dI)) (atype := .int) (ty := .int) (N' := 120) (a0 := (120, .inl (fun _ => 0))) hx hb (hts _ wmt1_67) rfl hK.1 hP hD hS hA (z_newI 120) (by decide) (by decide) (by decide) (Nat.le_of_ble_eq_true rfl) (Nat.le_of_ble_eq_true rfl) dX0_init_7 (fun q_1 cA_2 H hK9 hP hD hS => ?_)
  obtain rfl : cA_2 = k 0 := z_cls z_raI hK9 0 rfl
  clear hK9
  have hP : va_P (dC, dI) vwCl [(h0, .inr (0, [.null, .null, .null, .null, .null, .null, .null, .int 0, .int 0])), (q_1, .inl (k 0, 120, .inl (fun _ => 0)))] H := hP
  have hD : va_D A [(h0, .inr (0, [.null, .null, .null, .null, .null, .null, .null, .int 0, .int 0])), (q_1, .inl (k 0, 120, .inl (fun _ => 0)))] := hD
  refine W.widen (k := 1) (n := 120) (by decide) (by decide) ?_
  refine va_putF (D := (dC, dI)) (ci := 0) (v := .ref q_1) (ty := .array .int) (C := RX0) (T := TX0) (N := 9) hx hb hts hi0 tyX0 tyX0_ok nmX0 hown hK.1 hP hD hS 0 rfl rfl 0 (by decide) (hts _ wmt1_30) (fun _ h9 => h9) rfl hin rfl (by decide +kernel) rfl rfl (Nat.le_of_ble_eq_true rfl) dX0_init_9 (fun H locs hP hD hS => ?_)
  have hP : va_P (dC, dI) vwCl [(h0, .inr (0, [.ref q_1, .null, .null, .null, .null, .null, .null, .int 0, .int 0])), (q_1, .inl (k 0, 120, .inl (fun _ => 0)))] H := hP
  have hD : va_D A [(h0, .inr (0, [.ref q_1, .null, .null, .null, .null, .null, .null, .int 0, .int 0])), (q_1, .inl (k 0, 120, .inl (fun _ => 0)))] := hD
  refine lv_aload_n hx hb dX0_init_12 rfl (lv_at hl 0 rfl) ?_
  refine lv_bipush (v := 120) hx hb dX0_init_13 (by decide) ?_
  refine va_newa (D := (dC, dI)) (atype := .int) (ty := .int) (N' := 120) (a0 := (120, .inl (fun _ => 0))) hx hb (hts _ wmt1_67) rfl hK.1 hP hD hS hA (z_newI 120) (by decide) (by decide) (by decide) (Nat.le_of_ble_eq_true rfl) (Nat.le_of_ble_eq_true rfl) dX0_init_15 (fun q_3 cA_4 H hK9 hP hD hS => ?_)
  obtain rfl : cA_4 = k 0 := z_cls z_raI hK9 0 rfl
  clear hK9
  have hP : va_P (dC, dI) vwCl [(h0, .inr (0, [.ref q_1, .null, .null, .null, .null, .null, .null, .int 0, .int 0])), (q_1, .inl (k 0, 120, .inl (fun _ => 0))), (q_3, .inl (k 0, 120, .inl (fun _ => 0)))] H := hP
  have hD : va_D A [(h0, .inr (0, [.ref q_1, .null, .null, .null, .null, .null, .null, .int 0, .int 0])), (q_1, .inl (k 0, 120, .inl (fun _ => 0))), (q_3, .inl (k 0, 120, .inl (fun _ => 0)))] := hD
  refine W.widen (k := 2) (n := 240) (by decide) (by decide) ?_
  refine va_putF (D := (dC, dI)) (ci := 0) (v := .ref q_3) (ty := .array .int) (C := RX0) (T := TX0) (N := 9) hx hb hts hi0 tyX0 tyX0_ok nmX0 hown hK.1 hP hD hS 0 rfl rfl 1 (by decide) (hts _ wmt1_32) (fun _ h9 => h9) rfl hin rfl (by decide +kernel) rfl rfl (Nat.le_of_ble_eq_true rfl) dX0_init_17 (fun H locs hP hD hS => ?_)
  have hP : va_P (dC, dI) vwCl [(h0, .inr (0, [.ref q_1, .ref q_3, .null, .null, .null, .null, .null, .int 0, .int 0])), (q_1, .inl (k 0, 120, .inl (fun _ => 0))), (q_3, .inl (k 0, 120, .inl (fun _ => 0)))] H := hP
  have hD : va_D A [(h0, .inr (0, [.ref q_1, .ref q_3, .null, .null, .null, .null, .null, .int 0, .int 0])), (q_1, .inl (k 0, 120, .inl (fun _ => 0))), (q_3, .inl (k 0, 120, .inl (fun _ => 0)))] := hD
  refine lv_aload_n hx hb dX0_init_20 rfl (lv_at hl 0 rfl) ?_
  refine lv_bipush (v := 120) hx hb dX0_init_21 (by decide) ?_
  refine va_newa (D := (dC, dI)) (atype := .int) (ty := .int) (N' := 120) (a0 := (120, .inl (fun _ => 0))) hx hb (hts _ wmt1_67) rfl hK.1 hP hD hS hA (z_newI 120) (by decide) (by decide) (by decide) (Nat.le_of_ble_eq_true rfl) (Nat.le_of_ble_eq_true rfl) dX0_init_23 (fun q_5 cA_6 H hK9 hP hD hS => ?_)
  obtain rfl : cA_6 = k 0 := z_cls z_raI hK9 0 rfl
  clear hK9
  have hP : va_P (dC, dI) vwCl [(h0, .inr (0, [.ref q_1, .ref q_3, .null, .null, .null, .null, .null, .int 0, .int 0])), (q_1, .inl (k 0, 120, .inl (fun _ => 0))), (q_3, .inl (k 0, 120, .inl (fun _ => 0))), (q_5, .inl (k 0, 120, .inl (fun _ => 0)))] H := hP
  have hD : va_D A [(h0, .inr (0, [.ref q_1, .ref q_3, .null, .null, .null, .null, .null, .int 0, .int 0])), (q_1, .inl (k 0, 120, .inl (fun _ => 0))), (q_3, .inl (k 0, 120, .inl (fun _ => 0))), (q_5, .inl (k 0, 120, .inl (fun _ => 0)))] := hD
  refine W.widen (k := 3) (n := 360) (by decide) (by decide) ?_
  refine va_putF (D := (dC, dI)) (ci := 0) (v := .ref q_5) (ty := .array .int) (C := RX0) (T := TX0) (N := 9) hx hb hts hi0 tyX0 tyX0_ok nmX0 hown hK.1 hP hD hS 0 rfl rfl 2 (by decide) (hts _ wmt1_34) (fun _ h9 => h9) rfl hin rfl (by decide +kernel) rfl rfl (Nat.le_of_ble_eq_true rfl) dX0_init_25 (fun H locs hP hD hS => ?_)
  have hP : va_P (dC, dI) vwCl [(h0, .inr (0, [.ref q_1, .ref q_3, .ref q_5, .null, .null, .null, .null, .int 0, .int 0])), (q_1, .inl (k 0, 120, .inl (fun _ => 0))), (q_3, .inl (k 0, 120, .inl (fun _ => 0))), (q_5, .inl (k 0, 120, .inl (fun _ => 0)))] H := hP
  have hD : va_D A [(h0, .inr (0, [.ref q_1, .ref q_3, .ref q_5, .null, .null, .null, .null, .int 0, .int 0])), (q_1, .inl (k 0, 120, .inl (fun _ => 0))), (q_3, .inl (k 0, 120, .inl (fun _ => 0))), (q_5, .inl (k 0, 120, .inl (fun _ => 0)))] := hD
  refine lv_aload_n hx hb dX0_init_28 rfl (lv_at hl 0 rfl) ?_
  refine lv_bipush (v := 120) hx hb dX0_init_29 (by decide) ?_
  refine va_newa (D := (dC, dI)) (atype := .int) (ty := .int) (N' := 120) (a0 := (120, .inl (fun _ => 0))) hx hb (hts _ wmt1_67) rfl hK.1 hP hD hS hA (z_newI 120) (by decide) (by decide) (by decide) (Nat.le_of_ble_eq_true rfl) (Nat.le_of_ble_eq_true rfl) dX0_init_31 (fun q_7 cA_8 H hK9 hP hD hS => ?_)
  obtain rfl : cA_8 = k 0 := z_cls z_raI hK9 0 rfl
  clear hK9
  have hP : va_P (dC, dI) vwCl [(h0, .inr (0, [.ref q_1, .ref q_3, .ref q_5, .null, .null, .null, .null, .int 0, .int 0])), (q_1, .inl (k 0, 120, .inl (fun _ => 0))), (q_3, .inl (k 0, 120, .inl (fun _ => 0))), (q_5, .inl (k 0, 120, .inl (fun _ => 0))), (q_7, .inl (k 0, 120, .inl (fun _ => 0)))] H := hP
  have hD : va_D A [(h0, .inr (0, [.ref q_1, .ref q_3, .ref q_5, .null, .null, .null, .null, .int 0, .int 0])), (q_1, .inl (k 0, 120, .inl (fun _ => 0))), (q_3, .inl (k 0, 120, .inl (fun _ => 0))), (q_5, .inl (k 0, 120, .inl (fun _ => 0))), (q_7, .inl (k 0, 120, .inl (fun _ => 0)))] := hD
  refine W.widen (k := 4) (n := 480) (by decide) (by decide) ?_
  refine va_putF (D := (dC, dI)) (ci := 0) (v := .ref q_7) (ty := .array .int) (C := RX0) (T := TX0) (N := 9) hx hb hts hi0 tyX0 tyX0_ok nmX0 hown hK.1 hP hD hS 0 rfl rfl 3 (by decide) (hts _ wmt1_36) (fun _ h9 => h9) rfl hin rfl (by decide +kernel) rfl rfl (Nat.le_of_ble_eq_true rfl) dX0_init_33 (fun H locs hP hD hS => ?_)
  have hP : va_P (dC, dI) vwCl [(h0, .inr (0, [.ref q_1, .ref q_3, .ref q_5, .ref q_7, .null, .null, .null, .int 0, .int 0])), (q_1, .inl (k 0, 120, .inl (fun _ => 0))), (q_3, .inl (k 0, 120, .inl (fun _ => 0))), (q_5, .inl (k 0, 120, .inl (fun _ => 0))), (q_7, .inl (k 0, 120, .inl (fun _ => 0)))] H := hP
  have hD : va_D A [(h0, .inr (0, [.ref q_1, .ref q_3, .ref q_5, .ref q_7, .null, .null, .null, .int 0, .int 0])), (q_1, .inl (k 0, 120, .inl (fun _ => 0))), (q_3, .inl (k 0, 120, .inl (fun _ => 0))), (q_5, .inl (k 0, 120, .inl (fun _ => 0))), (q_7, .inl (k 0, 120, .inl (fun _ => 0)))] := hD
  refine lv_aload_n hx hb dX0_init_36 rfl (lv_at hl 0 rfl) ?_
  refine lv_bipush (v := 120) hx hb dX0_init_37 (by decide) ?_
  refine va_newa (D := (dC, dI)) (atype := .int) (ty := .int) (N' := 120) (a0 := (120, .inl (fun _ => 0))) hx hb (hts _ wmt1_67) rfl hK.1 hP hD hS hA (z_newI 120) (by decide) (by decide) (by decide) (Nat.le_of_ble_eq_true rfl) (Nat.le_of_ble_eq_true rfl) dX0_init_39 (fun q_9 cA_10 H hK9 hP hD hS => ?_)
  obtain rfl : cA_10 = k 0 := z_cls z_raI hK9 0 rfl
  clear hK9
  have hP : va_P (dC, dI) vwCl [(h0, .inr (0, [.ref q_1, .ref q_3, .ref q_5, .ref q_7, .null, .null, .null, .int 0, .int 0])), (q_1, .inl (k 0, 120, .inl (fun _ => 0))), (q_3, .inl (k 0, 120, .inl (fun _ => 0))), (q_5, .inl (k 0, 120, .inl (fun _ => 0))), (q_7, .inl (k 0, 120, .inl (fun _ => 0))), (q_9, .inl (k 0, 120, .inl (fun _ => 0)))] H := hP
  have hD : va_D A [(h0, .inr (0, [.ref q_1, .ref q_3, .ref q_5, .ref q_7, .null, .null, .null, .int 0, .int 0])), (q_1, .inl (k 0, 120, .inl (fun _ => 0))), (q_3, .inl (k 0, 120, .inl (fun _ => 0))), (q_5, .inl (k 0, 120, .inl (fun _ => 0))), (q_7, .inl (k 0, 120, .inl (fun _ => 0))), (q_9, .inl (k 0, 120, .inl (fun _ => 0)))] := hD
  refine W.widen (k := 5) (n := 600) (by decide) (by decide) ?_
  refine va_putF (D := (dC, dI)) (ci := 0) (v := .ref q_9) (ty := .array .int) (C := RX0) (T := TX0) (N := 9) hx hb hts hi0 tyX0 tyX0_ok nmX0 hown hK.1 hP hD hS 0 rfl rfl 4 (by decide) (hts _ wmt1_38) (fun _ h9 => h9) rfl hin rfl (by decide +kernel) rfl rfl (Nat.le_of_ble_eq_true rfl) dX0_init_41 (fun H locs hP hD hS => ?_)
  have hP : va_P (dC, dI) vwCl [(h0, .inr (0, [.ref q_1, .ref q_3, .ref q_5, .ref q_7, .ref q_9, .null, .null, .int 0, .int 0])), (q_1, .inl (k 0, 120, .inl (fun _ => 0))), (q_3, .inl (k 0, 120, .inl (fun _ => 0))), (q_5, .inl (k 0, 120, .inl (fun _ => 0))), (q_7, .inl (k 0, 120, .inl (fun _ => 0))), (q_9, .inl (k 0, 120, .inl (fun _ => 0)))] H := hP
  have hD : va_D A [(h0, .inr (0, [.ref q_1, .ref q_3, .ref q_5, .ref q_7, .ref q_9, .null, .null, .int 0, .int 0])), (q_1, .inl (k 0, 120, .inl (fun _ => 0))), (q_3, .inl (k 0, 120, .inl (fun _ => 0))), (q_5, .inl (k 0, 120, .inl (fun _ => 0))), (q_7, .inl (k 0, 120, .inl (fun _ => 0))), (q_9, .inl (k 0, 120, .inl (fun _ => 0)))] := hD
  refine lv_aload_n hx hb dX0_init_44 rfl (lv_at hl 0 rfl) ?_
  refine lv_iconst (v := 4) hx hb dX0_init_45 (by decide) ?_
  refine va_newa (D := (dC, dI)) (atype := .int) (ty := .int) (N' := 4) (a0 := (4, .inl (fun _ => 0))) hx hb (hts _ wmt1_67) rfl hK.1 hP hD hS hA (z_newI 4) (by decide) (by decide) (by decide) (Nat.le_of_ble_eq_true rfl) (Nat.le_of_ble_eq_true rfl) dX0_init_46 (fun q_11 cA_12 H hK9 hP hD hS => ?_)
  obtain rfl : cA_12 = k 0 := z_cls z_raI hK9 0 rfl
  clear hK9
  have hP : va_P (dC, dI) vwCl [(h0, .inr (0, [.ref q_1, .ref q_3, .ref q_5, .ref q_7, .ref q_9, .null, .null, .int 0, .int 0])), (q_1, .inl (k 0, 120, .inl (fun _ => 0))), (q_3, .inl (k 0, 120, .inl (fun _ => 0))), (q_5, .inl (k 0, 120, .inl (fun _ => 0))), (q_7, .inl (k 0, 120, .inl (fun _ => 0))), (q_9, .inl (k 0, 120, .inl (fun _ => 0))), (q_11, .inl (k 0, 4, .inl (fun _ => 0)))] H := hP
  have hD : va_D A [(h0, .inr (0, [.ref q_1, .ref q_3, .ref q_5, .ref q_7, .ref q_9, .null, .null, .int 0, .int 0])), (q_1, .inl (k 0, 120, .inl (fun _ => 0))), (q_3, .inl (k 0, 120, .inl (fun _ => 0))), (q_5, .inl (k 0, 120, .inl (fun _ => 0))), (q_7, .inl (k 0, 120, .inl (fun _ => 0))), (q_9, .inl (k 0, 120, .inl (fun _ => 0))), (q_11, .inl (k 0, 4, .inl (fun _ => 0)))] := hD
  refine W.widen (k := 6) (n := 604) (by decide) (by decide) ?_
  refine va_putF (D := (dC, dI)) (ci := 0) (v := .ref q_11) (ty := .array .int) (C := RX0) (T := TX0) (N := 9) hx hb hts hi0 tyX0 tyX0_ok nmX0 hown hK.1 hP hD hS 0 rfl rfl 5 (by decide) (hts _ wmt1_40) (fun _ h9 => h9) rfl hin rfl (by decide +kernel) rfl rfl (Nat.le_of_ble_eq_true rfl) dX0_init_48 (fun H locs hP hD hS => ?_)
  have hP : va_P (dC, dI) vwCl [(h0, .inr (0, [.ref q_1, .ref q_3, .ref q_5, .ref q_7, .ref q_9, .ref q_11, .null, .int 0, .int 0])), (q_1, .inl (k 0, 120, .inl (fun _ => 0))), (q_3, .inl (k 0, 120, .inl (fun _ => 0))), (q_5, .inl (k 0, 120, .inl (fun _ => 0))), (q_7, .inl (k 0, 120, .inl (fun _ => 0))), (q_9, .inl (k 0, 120, .inl (fun _ => 0))), (q_11, .inl (k 0, 4, .inl (fun _ => 0)))] H := hP
  have hD : va_D A [(h0, .inr (0, [.ref q_1, .ref q_3, .ref q_5, .ref q_7, .ref q_9, .ref q_11, .null, .int 0, .int 0])), (q_1, .inl (k 0, 120, .inl (fun _ => 0))), (q_3, .inl (k 0, 120, .inl (fun _ => 0))), (q_5, .inl (k 0, 120, .inl (fun _ => 0))), (q_7, .inl (k 0, 120, .inl (fun _ => 0))), (q_9, .inl (k 0, 120, .inl (fun _ => 0))), (q_11, .inl (k 0, 4, .inl (fun _ => 0)))] := hD
  refine lv_aload_n hx hb dX0_init_51 rfl (lv_at hl 0 rfl) ?_
  refine lv_bipush (v := 8) hx hb dX0_init_52 (by decide) ?_
  refine va_newa (D := (dC, dI)) (atype := .int) (ty := .int) (N' := 8) (a0 := (8, .inl (fun _ => 0))) hx hb (hts _ wmt1_67) rfl hK.1 hP hD hS hA (z_newI 8) (by decide) (by decide) (by decide) (Nat.le_of_ble_eq_true rfl) (Nat.le_of_ble_eq_true rfl) dX0_init_54 (fun q_13 cA_14 H hK9 hP hD hS => ?_)
  obtain rfl : cA_14 = k 0 := z_cls z_raI hK9 0 rfl
  clear hK9
  have hP : va_P (dC, dI) vwCl [(h0, .inr (0, [.ref q_1, .ref q_3, .ref q_5, .ref q_7, .ref q_9, .ref q_11, .null, .int 0, .int 0])), (q_1, .inl (k 0, 120, .inl (fun _ => 0))), (q_3, .inl (k 0, 120, .inl (fun _ => 0))), (q_5, .inl (k 0, 120, .inl (fun _ => 0))), (q_7, .inl (k 0, 120, .inl (fun _ => 0))), (q_9, .inl (k 0, 120, .inl (fun _ => 0))), (q_11, .inl (k 0, 4, .inl (fun _ => 0))), (q_13, .inl (k 0, 8, .inl (fun _ => 0)))] H := hP
  have hD : va_D A [(h0, .inr (0, [.ref q_1, .ref q_3, .ref q_5, .ref q_7, .ref q_9, .ref q_11, .null, .int 0, .int 0])), (q_1, .inl (k 0, 120, .inl (fun _ => 0))), (q_3, .inl (k 0, 120, .inl (fun _ => 0))), (q_5, .inl (k 0, 120, .inl (fun _ => 0))), (q_7, .inl (k 0, 120, .inl (fun _ => 0))), (q_9, .inl (k 0, 120, .inl (fun _ => 0))), (q_11, .inl (k 0, 4, .inl (fun _ => 0))), (q_13, .inl (k 0, 8, .inl (fun _ => 0)))] := hD
  refine W.widen (k := 7) (n := 612) (by decide) (by decide) ?_
  refine va_putF (D := (dC, dI)) (ci := 0) (v := .ref q_13) (ty := .array .int) (C := RX0) (T := TX0) (N := 9) hx hb hts hi0 tyX0 tyX0_ok nmX0 hown hK.1 hP hD hS 0 rfl rfl 6 (by decide) (hts _ wmt1_42) (fun _ h9 => h9) rfl hin rfl (by decide +kernel) rfl rfl (Nat.le_of_ble_eq_true rfl) dX0_init_56 (fun H locs hP hD hS => ?_)
  have hP : va_P (dC, dI) vwCl [(h0, .inr (0, [.ref q_1, .ref q_3, .ref q_5, .ref q_7, .ref q_9, .ref q_11, .ref q_13, .int 0, .int 0])), (q_1, .inl (k 0, 120, .inl (fun _ => 0))), (q_3, .inl (k 0, 120, .inl (fun _ => 0))), (q_5, .inl (k 0, 120, .inl (fun _ => 0))), (q_7, .inl (k 0, 120, .inl (fun _ => 0))), (q_9, .inl (k 0, 120, .inl (fun _ => 0))), (q_11, .inl (k 0, 4, .inl (fun _ => 0))), (q_13, .inl (k 0, 8, .inl (fun _ => 0)))] H := hP
  have hD : va_D A [(h0, .inr (0, [.ref q_1, .ref q_3, .ref q_5, .ref q_7, .ref q_9, .ref q_11, .ref q_13, .int 0, .int 0])), (q_1, .inl (k 0, 120, .inl (fun _ => 0))), (q_3, .inl (k 0, 120, .inl (fun _ => 0))), (q_5, .inl (k 0, 120, .inl (fun _ => 0))), (q_7, .inl (k 0, 120, .inl (fun _ => 0))), (q_9, .inl (k 0, 120, .inl (fun _ => 0))), (q_11, .inl (k 0, 4, .inl (fun _ => 0))), (q_13, .inl (k 0, 8, .inl (fun _ => 0)))] := hD
  refine lv_aload_n hx hb dX0_init_59 rfl (lv_at hl 0 rfl) ?_
  refine lv_iconst (v := 0) hx hb dX0_init_60 (by decide) ?_
  refine va_put (D := (dC, dI)) (ci := 0) (v := .int 0) (ty := .int) (C := RX0) (T := TX0) (N := 9) hx hb hts hi0 tyX0 tyX0_ok nmX0 hown hK.1 hP hD hS 0 rfl rfl 7 (by decide) (hts _ wmt1_44) (fun _ h9 => h9) rfl (by decide +kernel) rfl rfl (Nat.le_of_ble_eq_true rfl) dX0_init_61 (fun H locs hP hD hS => ?_)
  have hP : va_P (dC, dI) vwCl [(h0, .inr (0, [.ref q_1, .ref q_3, .ref q_5, .ref q_7, .ref q_9, .ref q_11, .ref q_13, .int 0, .int 0])), (q_1, .inl (k 0, 120, .inl (fun _ => 0))), (q_3, .inl (k 0, 120, .inl (fun _ => 0))), (q_5, .inl (k 0, 120, .inl (fun _ => 0))), (q_7, .inl (k 0, 120, .inl (fun _ => 0))), (q_9, .inl (k 0, 120, .inl (fun _ => 0))), (q_11, .inl (k 0, 4, .inl (fun _ => 0))), (q_13, .inl (k 0, 8, .inl (fun _ => 0)))] H := hP
  have hD : va_D A [(h0, .inr (0, [.ref q_1, .ref q_3, .ref q_5, .ref q_7, .ref q_9, .ref q_11, .ref q_13, .int 0, .int 0])), (q_1, .inl (k 0, 120, .inl (fun _ => 0))), (q_3, .inl (k 0, 120, .inl (fun _ => 0))), (q_5, .inl (k 0, 120, .inl (fun _ => 0))), (q_7, .inl (k 0, 120, .inl (fun _ => 0))), (q_9, .inl (k 0, 120, .inl (fun _ => 0))), (q_11, .inl (k 0, 4, .inl (fun _ => 0))), (q_13, .inl (k 0, 8, .inl (fun _ => 0)))] := hD
  refine lv_aload_n hx hb dX0_init_64 rfl (lv_at hl 0 rfl) ?_
  refine lv_iconst (v := 0) hx hb dX0_init_65 (by decide) ?_
  refine va_put (D := (dC, dI)) (ci := 0) (v := .int 0) (ty := .int) (C := RX0) (T := TX0) (N := 9) hx hb hts hi0 tyX0 tyX0_ok nmX0 hown hK.1 hP hD hS 0 rfl rfl 8 (by decide) (hts _ wmt1_46) (fun _ h9 => h9) rfl (by decide +kernel) rfl rfl (Nat.le_of_ble_eq_true rfl) dX0_init_66 (fun H locs hP hD hS => ?_)
  have hP : va_P (dC, dI) vwCl [(h0, .inr (0, [.ref q_1, .ref q_3, .ref q_5, .ref q_7, .ref q_9, .ref q_11, .ref q_13, .int 0, .int 0])), (q_1, .inl (k 0, 120, .inl (fun _ => 0))), (q_3, .inl (k 0, 120, .inl (fun _ => 0))), (q_5, .inl (k 0, 120, .inl (fun _ => 0))), (q_7, .inl (k 0, 120, .inl (fun _ => 0))), (q_9, .inl (k 0, 120, .inl (fun _ => 0))), (q_11, .inl (k 0, 4, .inl (fun _ => 0))), (q_13, .inl (k 0, 8, .inl (fun _ => 0)))] H := hP
  have hD : va_D A [(h0, .inr (0, [.ref q_1, .ref q_3, .ref q_5, .ref q_7, .ref q_9, .ref q_11, .ref q_13, .int 0, .int 0])), (q_1, .inl (k 0, 120, .inl (fun _ => 0))), (q_3, .inl (k 0, 120, .inl (fun _ => 0))), (q_5, .inl (k 0, 120, .inl (fun _ => 0))), (q_7, .inl (k 0, 120, .inl (fun _ => 0))), (q_9, .inl (k 0, 120, .inl (fun _ => 0))), (q_11, .inl (k 0, 4, .inl (fun _ => 0))), (q_13, .inl (k 0, 8, .inl (fun _ => 0)))] := hD
  exact W.vret hx hb hr (fun t ht hW => ⟨⟨(q_1, q_3, q_5, q_7, q_9, q_11, q_13), rfl, trivial, ⟨by rw [ht]; exact hP, hD⟩⟩, hS.F ht⟩) hS.2.2 dX0_init_69
set_option maxHeartbeats 4000000 in
set_option maxRecDepth 100000 in
theorem c_X1_init (l : Launch) (dC : Nat → ClassId) (dI : Nat → Nat → Nat) (k : Nat → ClassId) (T : List (ClassId × FieldType)) (h0 : Nat) (sz : Nat)  : Met l yX1_init (wz yX1_init cX1_init 1 none) ({ frames := 1, cells := 2, slots := 65, locals := 12 }) (va_Pc [.ref h0] (zPre dC dI k T [(h0, .inr (1, [.null, .null, .long 0, .int 0, .int 0, .int 0, .int 0, .int 0, .int 0]))] sz)) (va_Qv (fun (u : Nat × Nat) => True) (fun u t => zPost dC dI (va_A [(h0, .inr (1, [.null, .null, .long 0, .int 0, .int 0, .int 0, .int 0, .int 0, .int 0]))] sz) [(h0, .inr (1, [.ref u.1, .ref u.2, .long 232792560, .int 0, .int 0, .int 0, .int 0, .int 0, .int 1])), (u.1, .inl (k 0, 60, .inl (fun _ => 0))), (u.2, .inl (k 1, 5, .inr (.inl (fun _ => 0))))] t) (va_A [(h0, .inr (1, [.null, .null, .long 0, .int 0, .int 0, .int 0, .int 0, .int 0, .int 0]))] sz)) 2 65 (va_A [(h0, .inr (1, [.null, .null, .long 0, .int 0, .int 0, .int 0, .int 0, .int 0, .int 0]))] sz) := by
  refine Met.ofW (cc := cX1_init) (maxL := 1) (ret := none) (by decide) rfl ?_
  intro p e s m args below meth c s₁ B hml hv
  obtain ⟨rfl, hsz, hP, hK, hD0⟩ := hv
  have hx := B.exec
  have hb := B.bytes
  have hr := B.returns
  have hts : ∀ w ∈ zw, w.before _ s = true := fun w h => atoms_spec (ws := (wz yX1_init cX1_init 1 none)) B.pre w (List.mem_cons_of_mem _ h)
  have hown : s.vm.findClass RX1 = some m.cls := findClass_of_methodNamed B.named
  have hlocks := B.notSynchronized
  have hin : meth.name = "<init>" := (name_of_methodNamed B.named B.method).1
  subst hsz
  have hi1 := inw1
  have hD := hD0.self (sz := s.heap.size)
  generalize hAe : va_A [(h0, .inr (1, [.null, .null, .long 0, .int 0, .int 0, .int 0, .int 0, .int 0, .int 0]))] s.heap.size = A at hD ⊢
  have hA : ∀ q : Nat, s.heap.size ≤ q → A q := fun q h => by rw [← hAe]; exact Or.inr h
  have hl := lv_entry ([.ref h0]) (n := 1) (Nat.le_of_ble_eq_true rfl)
  rw [lg_entry_eq]
  generalize (lg_sl ([.ref h0]) ++ List.replicate (1 - (lg_sl ([.ref h0])).length) Slot.unset).toArray = ls at hl ⊢
  have hl : lv_has ls 1 [(0, .ref h0)] := hl
  refine z_start (w := [(h0, .inr (1, [.null, .null, .long 0, .int 0, .int 0, .int 0, .int 0, .int 0, .int 0]))]) hP hD (fun H locs hP hD hS => ?_)
  refine lv_aload_n hx hb dX1_init_0 rfl (lv_at hl 0 rfl) ?_
  refine W.objInit hx hb hown (hts _ wmt1_116) (hts _ wmt1_18) (hts _ wmt1_19) rfl (by rw [hml]; exact hl.1) rfl dX1_init_1 (Nat.le_of_ble_eq_true rfl) (Nat.le_of_ble_eq_true rfl) ?_
  refine W.eq (g2 := F0 m 4 ls []) rfl ?_
  refine lv_aload_n hx hb dX1_init_4 rfl (lv_at hl 0 rfl) ?_
  refine lv_bipush (v := 60) hx hb dX1_init_5 (by decide) ?_
  refine va_newa (D := (dC, dI)) (atype := .int) (ty := .int) (N' := 60) (a0 := (60, .inl (fun _ => 0))) hx hb (hts _ wmt1_67) rfl hK.1 hP hD hS hA (z_newI 60) (by decide) (by decide) (by decide) (Nat.le_of_ble_eq_true rfl) (Nat.le_of_ble_eq_true rfl) dX1_init_7 (fun q_1 cA_2 H hK9 hP hD hS => ?_)
  obtain rfl : cA_2 = k 0 := z_cls z_raI hK9 0 rfl
  clear hK9
  have hP : va_P (dC, dI) vwCl [(h0, .inr (1, [.null, .null, .long 0, .int 0, .int 0, .int 0, .int 0, .int 0, .int 0])), (q_1, .inl (k 0, 60, .inl (fun _ => 0)))] H := hP
  have hD : va_D A [(h0, .inr (1, [.null, .null, .long 0, .int 0, .int 0, .int 0, .int 0, .int 0, .int 0])), (q_1, .inl (k 0, 60, .inl (fun _ => 0)))] := hD
  refine W.widen (k := 1) (n := 60) (by decide) (by decide) ?_
  refine va_putF (D := (dC, dI)) (ci := 1) (v := .ref q_1) (ty := .array .int) (C := RX1) (T := TX1) (N := 9) hx hb hts hi1 tyX1 tyX1_ok nmX1 hown hK.1 hP hD hS 0 rfl rfl 0 (by decide) (hts _ wmt1_118) (fun _ h9 => h9) rfl hin rfl (by decide +kernel) rfl rfl (Nat.le_of_ble_eq_true rfl) dX1_init_9 (fun H locs hP hD hS => ?_)
  have hP : va_P (dC, dI) vwCl [(h0, .inr (1, [.ref q_1, .null, .long 0, .int 0, .int 0, .int 0, .int 0, .int 0, .int 0])), (q_1, .inl (k 0, 60, .inl (fun _ => 0)))] H := hP
  have hD : va_D A [(h0, .inr (1, [.ref q_1, .null, .long 0, .int 0, .int 0, .int 0, .int 0, .int 0, .int 0])), (q_1, .inl (k 0, 60, .inl (fun _ => 0)))] := hD
  refine lv_aload_n hx hb dX1_init_12 rfl (lv_at hl 0 rfl) ?_
  refine lv_iconst (v := 5) hx hb dX1_init_13 (by decide) ?_
  refine va_newa (D := (dC, dI)) (atype := .long) (ty := .long) (N' := 5) (a0 := (5, .inr (.inl (fun _ => 0)))) hx hb (hts _ wmt1_96) rfl hK.1 hP hD hS hA (z_newJ 5) (by decide) (by decide) (by decide) (Nat.le_of_ble_eq_true rfl) (Nat.le_of_ble_eq_true rfl) dX1_init_14 (fun q_3 cA_4 H hK9 hP hD hS => ?_)
  obtain rfl : cA_4 = k 1 := z_cls z_raJ hK9 1 rfl
  clear hK9
  have hP : va_P (dC, dI) vwCl [(h0, .inr (1, [.ref q_1, .null, .long 0, .int 0, .int 0, .int 0, .int 0, .int 0, .int 0])), (q_1, .inl (k 0, 60, .inl (fun _ => 0))), (q_3, .inl (k 1, 5, .inr (.inl (fun _ => 0))))] H := hP
  have hD : va_D A [(h0, .inr (1, [.ref q_1, .null, .long 0, .int 0, .int 0, .int 0, .int 0, .int 0, .int 0])), (q_1, .inl (k 0, 60, .inl (fun _ => 0))), (q_3, .inl (k 1, 5, .inr (.inl (fun _ => 0))))] := hD
  refine W.widen (k := 2) (n := 65) (by decide) (by decide) ?_
  refine va_putF (D := (dC, dI)) (ci := 1) (v := .ref q_3) (ty := .array .long) (C := RX1) (T := TX1) (N := 9) hx hb hts hi1 tyX1 tyX1_ok nmX1 hown hK.1 hP hD hS 0 rfl rfl 1 (by decide) (hts _ wmt1_119) (fun _ h9 => h9) rfl hin rfl (by decide +kernel) rfl rfl (Nat.le_of_ble_eq_true rfl) dX1_init_16 (fun H locs hP hD hS => ?_)
  have hP : va_P (dC, dI) vwCl [(h0, .inr (1, [.ref q_1, .ref q_3, .long 0, .int 0, .int 0, .int 0, .int 0, .int 0, .int 0])), (q_1, .inl (k 0, 60, .inl (fun _ => 0))), (q_3, .inl (k 1, 5, .inr (.inl (fun _ => 0))))] H := hP
  have hD : va_D A [(h0, .inr (1, [.ref q_1, .ref q_3, .long 0, .int 0, .int 0, .int 0, .int 0, .int 0, .int 0])), (q_1, .inl (k 0, 60, .inl (fun _ => 0))), (q_3, .inl (k 1, 5, .inr (.inl (fun _ => 0))))] := hD
  refine lv_aload_n hx hb dX1_init_19 rfl (lv_at hl 0 rfl) ?_
  refine lv_ldc2 (v := 232792560) hx hb hown (hts _ wmt1_117) dX1_init_20 ?_
  refine va_put (D := (dC, dI)) (ci := 1) (v := .long 232792560) (ty := .long) (C := RX1) (T := TX1) (N := 9) hx hb hts hi1 tyX1 tyX1_ok nmX1 hown hK.1 hP hD hS 0 rfl rfl 2 (by decide) (hts _ wmt1_120) (fun _ h9 => h9) rfl (by decide +kernel) rfl rfl (Nat.le_of_ble_eq_true rfl) dX1_init_23 (fun H locs hP hD hS => ?_)
  have hP : va_P (dC, dI) vwCl [(h0, .inr (1, [.ref q_1, .ref q_3, .long 232792560, .int 0, .int 0, .int 0, .int 0, .int 0, .int 0])), (q_1, .inl (k 0, 60, .inl (fun _ => 0))), (q_3, .inl (k 1, 5, .inr (.inl (fun _ => 0))))] H := hP
  have hD : va_D A [(h0, .inr (1, [.ref q_1, .ref q_3, .long 232792560, .int 0, .int 0, .int 0, .int 0, .int 0, .int 0])), (q_1, .inl (k 0, 60, .inl (fun _ => 0))), (q_3, .inl (k 1, 5, .inr (.inl (fun _ => 0))))] := hD
  refine lv_aload_n hx hb dX1_init_26 rfl (lv_at hl 0 rfl) ?_
  refine lv_iconst (v := 0) hx hb dX1_init_27 (by decide) ?_
  refine va_put (D := (dC, dI)) (ci := 1) (v := .int 0) (ty := .int) (C := RX1) (T := TX1) (N := 9) hx hb hts hi1 tyX1 tyX1_ok nmX1 hown hK.1 hP hD hS 0 rfl rfl 3 (by decide) (hts _ wmt1_121) (fun _ h9 => h9) rfl (by decide +kernel) rfl rfl (Nat.le_of_ble_eq_true rfl) dX1_init_28 (fun H locs hP hD hS => ?_)
  have hP : va_P (dC, dI) vwCl [(h0, .inr (1, [.ref q_1, .ref q_3, .long 232792560, .int 0, .int 0, .int 0, .int 0, .int 0, .int 0])), (q_1, .inl (k 0, 60, .inl (fun _ => 0))), (q_3, .inl (k 1, 5, .inr (.inl (fun _ => 0))))] H := hP
  have hD : va_D A [(h0, .inr (1, [.ref q_1, .ref q_3, .long 232792560, .int 0, .int 0, .int 0, .int 0, .int 0, .int 0])), (q_1, .inl (k 0, 60, .inl (fun _ => 0))), (q_3, .inl (k 1, 5, .inr (.inl (fun _ => 0))))] := hD
  refine lv_aload_n hx hb dX1_init_31 rfl (lv_at hl 0 rfl) ?_
  refine lv_iconst (v := 0) hx hb dX1_init_32 (by decide) ?_
  refine va_put (D := (dC, dI)) (ci := 1) (v := .int 0) (ty := .int) (C := RX1) (T := TX1) (N := 9) hx hb hts hi1 tyX1 tyX1_ok nmX1 hown hK.1 hP hD hS 0 rfl rfl 4 (by decide) (hts _ wmt1_122) (fun _ h9 => h9) rfl (by decide +kernel) rfl rfl (Nat.le_of_ble_eq_true rfl) dX1_init_33 (fun H locs hP hD hS => ?_)
  have hP : va_P (dC, dI) vwCl [(h0, .inr (1, [.ref q_1, .ref q_3, .long 232792560, .int 0, .int 0, .int 0, .int 0, .int 0, .int 0])), (q_1, .inl (k 0, 60, .inl (fun _ => 0))), (q_3, .inl (k 1, 5, .inr (.inl (fun _ => 0))))] H := hP
  have hD : va_D A [(h0, .inr (1, [.ref q_1, .ref q_3, .long 232792560, .int 0, .int 0, .int 0, .int 0, .int 0, .int 0])), (q_1, .inl (k 0, 60, .inl (fun _ => 0))), (q_3, .inl (k 1, 5, .inr (.inl (fun _ => 0))))] := hD
  refine lv_aload_n hx hb dX1_init_36 rfl (lv_at hl 0 rfl) ?_
  refine lv_iconst (v := 0) hx hb dX1_init_37 (by decide) ?_
  refine va_put (D := (dC, dI)) (ci := 1) (v := .int 0) (ty := .int) (C := RX1) (T := TX1) (N := 9) hx hb hts hi1 tyX1 tyX1_ok nmX1 hown hK.1 hP hD hS 0 rfl rfl 5 (by decide) (hts _ wmt1_124) (fun _ h9 => h9) rfl (by decide +kernel) rfl rfl (Nat.le_of_ble_eq_true rfl) dX1_init_38 (fun H locs hP hD hS => ?_)
  have hP : va_P (dC, dI) vwCl [(h0, .inr (1, [.ref q_1, .ref q_3, .long 232792560, .int 0, .int 0, .int 0, .int 0, .int 0, .int 0])), (q_1, .inl (k 0, 60, .inl (fun _ => 0))), (q_3, .inl (k 1, 5, .inr (.inl (fun _ => 0))))] H := hP
  have hD : va_D A [(h0, .inr (1, [.ref q_1, .ref q_3, .long 232792560, .int 0, .int 0, .int 0, .int 0, .int 0, .int 0])), (q_1, .inl (k 0, 60, .inl (fun _ => 0))), (q_3, .inl (k 1, 5, .inr (.inl (fun _ => 0))))] := hD
  refine lv_aload_n hx hb dX1_init_41 rfl (lv_at hl 0 rfl) ?_
  refine lv_iconst (v := 0) hx hb dX1_init_42 (by decide) ?_
  refine va_put (D := (dC, dI)) (ci := 1) (v := .int 0) (ty := .int) (C := RX1) (T := TX1) (N := 9) hx hb hts hi1 tyX1 tyX1_ok nmX1 hown hK.1 hP hD hS 0 rfl rfl 6 (by decide) (hts _ wmt1_126) (fun _ h9 => h9) rfl (by decide +kernel) rfl rfl (Nat.le_of_ble_eq_true rfl) dX1_init_43 (fun H locs hP hD hS => ?_)
  have hP : va_P (dC, dI) vwCl [(h0, .inr (1, [.ref q_1, .ref q_3, .long 232792560, .int 0, .int 0, .int 0, .int 0, .int 0, .int 0])), (q_1, .inl (k 0, 60, .inl (fun _ => 0))), (q_3, .inl (k 1, 5, .inr (.inl (fun _ => 0))))] H := hP
  have hD : va_D A [(h0, .inr (1, [.ref q_1, .ref q_3, .long 232792560, .int 0, .int 0, .int 0, .int 0, .int 0, .int 0])), (q_1, .inl (k 0, 60, .inl (fun _ => 0))), (q_3, .inl (k 1, 5, .inr (.inl (fun _ => 0))))] := hD
  refine lv_aload_n hx hb dX1_init_46 rfl (lv_at hl 0 rfl) ?_
  refine lv_iconst (v := 0) hx hb dX1_init_47 (by decide) ?_
  refine va_put (D := (dC, dI)) (ci := 1) (v := .int 0) (ty := .int) (C := RX1) (T := TX1) (N := 9) hx hb hts hi1 tyX1 tyX1_ok nmX1 hown hK.1 hP hD hS 0 rfl rfl 7 (by decide) (hts _ wmt1_128) (fun _ h9 => h9) rfl (by decide +kernel) rfl rfl (Nat.le_of_ble_eq_true rfl) dX1_init_48 (fun H locs hP hD hS => ?_)
  have hP : va_P (dC, dI) vwCl [(h0, .inr (1, [.ref q_1, .ref q_3, .long 232792560, .int 0, .int 0, .int 0, .int 0, .int 0, .int 0])), (q_1, .inl (k 0, 60, .inl (fun _ => 0))), (q_3, .inl (k 1, 5, .inr (.inl (fun _ => 0))))] H := hP
  have hD : va_D A [(h0, .inr (1, [.ref q_1, .ref q_3, .long 232792560, .int 0, .int 0, .int 0, .int 0, .int 0, .int 0])), (q_1, .inl (k 0, 60, .inl (fun _ => 0))), (q_3, .inl (k 1, 5, .inr (.inl (fun _ => 0))))] := hD
  refine lv_aload_n hx hb dX1_init_51 rfl (lv_at hl 0 rfl) ?_
  refine lv_iconst (v := 1) hx hb dX1_init_52 (by decide) ?_
  refine va_put (D := (dC, dI)) (ci := 1) (v := .int 1) (ty := .int) (C := RX1) (T := TX1) (N := 9) hx hb hts hi1 tyX1 tyX1_ok nmX1 hown hK.1 hP hD hS 0 rfl rfl 8 (by decide) (hts _ wmt1_130) (fun _ h9 => h9) rfl (by decide +kernel) rfl rfl (Nat.le_of_ble_eq_true rfl) dX1_init_53 (fun H locs hP hD hS => ?_)
  have hP : va_P (dC, dI) vwCl [(h0, .inr (1, [.ref q_1, .ref q_3, .long 232792560, .int 0, .int 0, .int 0, .int 0, .int 0, .int 1])), (q_1, .inl (k 0, 60, .inl (fun _ => 0))), (q_3, .inl (k 1, 5, .inr (.inl (fun _ => 0))))] H := hP
  have hD : va_D A [(h0, .inr (1, [.ref q_1, .ref q_3, .long 232792560, .int 0, .int 0, .int 0, .int 0, .int 0, .int 1])), (q_1, .inl (k 0, 60, .inl (fun _ => 0))), (q_3, .inl (k 1, 5, .inr (.inl (fun _ => 0))))] := hD
  exact W.vret hx hb hr (fun t ht hW => ⟨⟨(q_1, q_3), rfl, trivial, ⟨by rw [ht]; exact hP, hD⟩⟩, hS.F ht⟩) hS.2.2 dX1_init_56
set_option maxHeartbeats 4000000 in
set_option maxRecDepth 100000 in
theorem c_X2_init (l : Launch) (dC : Nat → ClassId) (dI : Nat → Nat → Nat) (k : Nat → ClassId) (T : List (ClassId × FieldType)) (h0 : Nat) (sz : Nat)  : Met l yX2_init (wz yX2_init cX2_init 1 none) ({ frames := 1, cells := 0, slots := 0, locals := 12 }) (va_Pc [.ref h0] (zPre dC dI k T [(h0, .inr (2, [.long 0, .long 0]))] sz)) (va_Qv (fun (u : Unit) => True) (fun u t => zPost dC dI (va_A [(h0, .inr (2, [.long 0, .long 0]))] sz) [(h0, .inr (2, [.long 0, .long 1]))] t) (va_A [(h0, .inr (2, [.long 0, .long 0]))] sz)) 0 0 (va_A [(h0, .inr (2, [.long 0, .long 0]))] sz) := by
  refine Met.ofW (cc := cX2_init) (maxL := 1) (ret := none) (by decide) rfl ?_
  intro p e s m args below meth c s₁ B hml hv
  obtain ⟨rfl, hsz, hP, hK, hD0⟩ := hv
  have hx := B.exec
  have hb := B.bytes
  have hr := B.returns
  have hts : ∀ w ∈ zw, w.before _ s = true := fun w h => atoms_spec (ws := (wz yX2_init cX2_init 1 none)) B.pre w (List.mem_cons_of_mem _ h)
  have hown : s.vm.findClass RX2 = some m.cls := findClass_of_methodNamed B.named
  have hlocks := B.notSynchronized
  have hin : meth.name = "<init>" := (name_of_methodNamed B.named B.method).1
  subst hsz
  have hi2 := inw2
  have hD := hD0.self (sz := s.heap.size)
  generalize hAe : va_A [(h0, .inr (2, [.long 0, .long 0]))] s.heap.size = A at hD ⊢
  have hA : ∀ q : Nat, s.heap.size ≤ q → A q := fun q h => by rw [← hAe]; exact Or.inr h
  have hl := lv_entry ([.ref h0]) (n := 1) (Nat.le_of_ble_eq_true rfl)
  rw [lg_entry_eq]
  generalize (lg_sl ([.ref h0]) ++ List.replicate (1 - (lg_sl ([.ref h0])).length) Slot.unset).toArray = ls at hl ⊢
  have hl : lv_has ls 1 [(0, .ref h0)] := hl
  refine z_start (w := [(h0, .inr (2, [.long 0, .long 0]))]) hP hD (fun H locs hP hD hS => ?_)
  refine lv_aload_n hx hb dX2_init_0 rfl (lv_at hl 0 rfl) ?_
  refine W.objInit hx hb hown (hts _ wmt1_102) (hts _ wmt1_18) (hts _ wmt1_19) rfl (by rw [hml]; exact hl.1) rfl dX2_init_1 (Nat.le_of_ble_eq_true rfl) (Nat.le_of_ble_eq_true rfl) ?_
  refine W.eq (g2 := F0 m 4 ls []) rfl ?_
  refine lv_aload_n hx hb dX2_init_4 rfl (lv_at hl 0 rfl) ?_
  refine lv_lconst (v := 0) hx hb dX2_init_5 (by decide) ?_
  refine va_put (D := (dC, dI)) (ci := 2) (v := .long 0) (ty := .long) (C := RX2) (T := TX2) (N := 2) hx hb hts hi2 tyX2 tyX2_ok nmX2 hown hK.1 hP hD hS 0 rfl rfl 0 (by decide) (hts _ wmt1_103) (fun _ h9 => h9) rfl (by decide +kernel) rfl rfl (Nat.le_of_ble_eq_true rfl) dX2_init_6 (fun H locs hP hD hS => ?_)
  have hP : va_P (dC, dI) vwCl [(h0, .inr (2, [.long 0, .long 0]))] H := hP
  have hD : va_D A [(h0, .inr (2, [.long 0, .long 0]))] := hD
  refine lv_aload_n hx hb dX2_init_9 rfl (lv_at hl 0 rfl) ?_
  refine lv_lconst (v := 1) hx hb dX2_init_10 (by decide) ?_
  refine va_put (D := (dC, dI)) (ci := 2) (v := .long 1) (ty := .long) (C := RX2) (T := TX2) (N := 2) hx hb hts hi2 tyX2 tyX2_ok nmX2 hown hK.1 hP hD hS 0 rfl rfl 1 (by decide) (hts _ wmt1_105) (fun _ h9 => h9) rfl (by decide +kernel) rfl rfl (Nat.le_of_ble_eq_true rfl) dX2_init_11 (fun H locs hP hD hS => ?_)
  have hP : va_P (dC, dI) vwCl [(h0, .inr (2, [.long 0, .long 1]))] H := hP
  have hD : va_D A [(h0, .inr (2, [.long 0, .long 1]))] := hD
  exact W.vret hx hb hr (fun t ht hW => ⟨⟨(), rfl, trivial, ⟨by rw [ht]; exact hP, hD⟩⟩, hS.F ht⟩) hS.2.2 dX2_init_14
set_option maxHeartbeats 4000000 in
set_option maxRecDepth 100000 in
theorem c_X3_init (l : Launch) (dC : Nat → ClassId) (dI : Nat → Nat → Nat) (k : Nat → ClassId) (T : List (ClassId × FieldType)) (h0 : Nat) (sz : Nat)  : Met l yX3_init (wz yX3_init cX3_init 1 none) ({ frames := 1, cells := 1, slots := 13, locals := 12 }) (va_Pc [.ref h0] (zPre dC dI k T [(h0, .inr (3, [.null]))] sz)) (va_Qv (fun (u : Nat) => True) (fun u t => zPost dC dI (va_A [(h0, .inr (3, [.null]))] sz) [(h0, .inr (3, [.ref u])), (u, .inl (k 1, 13, .inr (.inl (fun _ => 0))))] t) (va_A [(h0, .inr (3, [.null]))] sz)) 1 13 (va_A [(h0, .inr (3, [.null]))] sz) := by
  refine Met.ofW (cc := cX3_init) (maxL := 1) (ret := none) (by decide) rfl ?_
  intro p e s m args below meth c s₁ B hml hv
  obtain ⟨rfl, hsz, hP, hK, hD0⟩ := hv
  have hx := B.exec
  have hb := B.bytes
  have hr := B.returns
  have hts : ∀ w ∈ zw, w.before _ s = true := fun w h => atoms_spec (ws := (wz yX3_init cX3_init 1 none)) B.pre w (List.mem_cons_of_mem _ h)
  have hown : s.vm.findClass RX3 = some m.cls := findClass_of_methodNamed B.named
  have hlocks := B.notSynchronized
  have hin : meth.name = "<init>" := (name_of_methodNamed B.named B.method).1
  subst hsz
  have hi3 := inw3
  have hD := hD0.self (sz := s.heap.size)
  generalize hAe : va_A [(h0, .inr (3, [.null]))] s.heap.size = A at hD ⊢
  have hA : ∀ q : Nat, s.heap.size ≤ q → A q := fun q h => by rw [← hAe]; exact Or.inr h
  have hl := lv_entry ([.ref h0]) (n := 1) (Nat.le_of_ble_eq_true rfl)
  rw [lg_entry_eq]
  generalize (lg_sl ([.ref h0]) ++ List.replicate (1 - (lg_sl ([.ref h0])).length) Slot.unset).toArray = ls at hl ⊢
  have hl : lv_has ls 1 [(0, .ref h0)] := hl
  refine z_start (w := [(h0, .inr (3, [.null]))]) hP hD (fun H locs hP hD hS => ?_)
  refine lv_aload_n hx hb dX3_init_0 rfl (lv_at hl 0 rfl) ?_
  refine W.objInit hx hb hown (hts _ wmt1_91) (hts _ wmt1_18) (hts _ wmt1_19) rfl (by rw [hml]; exact hl.1) rfl dX3_init_1 (Nat.le_of_ble_eq_true rfl) (Nat.le_of_ble_eq_true rfl) ?_
  refine W.eq (g2 := F0 m 4 ls []) rfl ?_
  refine lv_aload_n hx hb dX3_init_4 rfl (lv_at hl 0 rfl) ?_
  refine lv_bipush (v := 13) hx hb dX3_init_5 (by decide) ?_
  refine va_newa (D := (dC, dI)) (atype := .long) (ty := .long) (N' := 13) (a0 := (13, .inr (.inl (fun _ => 0)))) hx hb (hts _ wmt1_96) rfl hK.1 hP hD hS hA (z_newJ 13) (by decide) (by decide) (by decide) (Nat.le_of_ble_eq_true rfl) (Nat.le_of_ble_eq_true rfl) dX3_init_7 (fun q_1 cA_2 H hK9 hP hD hS => ?_)
  obtain rfl : cA_2 = k 1 := z_cls z_raJ hK9 1 rfl
  clear hK9
  have hP : va_P (dC, dI) vwCl [(h0, .inr (3, [.null])), (q_1, .inl (k 1, 13, .inr (.inl (fun _ => 0))))] H := hP
  have hD : va_D A [(h0, .inr (3, [.null])), (q_1, .inl (k 1, 13, .inr (.inl (fun _ => 0))))] := hD
  refine W.widen (k := 1) (n := 13) (by decide) (by decide) ?_
  refine va_putF (D := (dC, dI)) (ci := 3) (v := .ref q_1) (ty := .array .long) (C := RX3) (T := TX3) (N := 1) hx hb hts hi3 tyX3 tyX3_ok nmX3 hown hK.1 hP hD hS 0 rfl rfl 0 (by decide) (hts _ wmt1_92) (fun _ h9 => h9) rfl hin rfl (by decide +kernel) rfl rfl (Nat.le_of_ble_eq_true rfl) dX3_init_9 (fun H locs hP hD hS => ?_)
  have hP : va_P (dC, dI) vwCl [(h0, .inr (3, [.ref q_1])), (q_1, .inl (k 1, 13, .inr (.inl (fun _ => 0))))] H := hP
  have hD : va_D A [(h0, .inr (3, [.ref q_1])), (q_1, .inl (k 1, 13, .inr (.inl (fun _ => 0))))] := hD
  exact W.vret hx hb hr (fun t ht hW => ⟨⟨(q_1), rfl, trivial, ⟨by rw [ht]; exact hP, hD⟩⟩, hS.F ht⟩) hS.2.2 dX3_init_12
set_option maxHeartbeats 4000000 in
set_option maxRecDepth 100000 in
theorem c_X4_init (l : Launch) (dC : Nat → ClassId) (dI : Nat → Nat → Nat) (k : Nat → ClassId) (T : List (ClassId × FieldType)) (h0 : Nat) (sz : Nat)  : Met l yX4_init (wz yX4_init cX4_init 1 none) ({ frames := 1, cells := 0, slots := 0, locals := 12 }) (va_Pc [.ref h0] (zPre dC dI k T [(h0, .inr (4, [.int 0, .int 0, .int 0]))] sz)) (va_Qv (fun (u : Unit) => True) (fun u t => zPost dC dI (va_A [(h0, .inr (4, [.int 0, .int 0, .int 0]))] sz) [(h0, .inr (4, [.int 0, .int 0, .int 0]))] t) (va_A [(h0, .inr (4, [.int 0, .int 0, .int 0]))] sz)) 0 0 (va_A [(h0, .inr (4, [.int 0, .int 0, .int 0]))] sz) := by
  refine Met.ofW (cc := cX4_init) (maxL := 1) (ret := none) (by decide) rfl ?_
  intro p e s m args below meth c s₁ B hml hv
  obtain ⟨rfl, hsz, hP, hK, hD0⟩ := hv
  have hx := B.exec
  have hb := B.bytes
  have hr := B.returns
  have hts : ∀ w ∈ zw, w.before _ s = true := fun w h => atoms_spec (ws := (wz yX4_init cX4_init 1 none)) B.pre w (List.mem_cons_of_mem _ h)
  have hown : s.vm.findClass RX4 = some m.cls := findClass_of_methodNamed B.named
  have hlocks := B.notSynchronized
  have hin : meth.name = "<init>" := (name_of_methodNamed B.named B.method).1
  subst hsz
  have hi4 := inw4
  have hD := hD0.self (sz := s.heap.size)
  generalize hAe : va_A [(h0, .inr (4, [.int 0, .int 0, .int 0]))] s.heap.size = A at hD ⊢
  have hA : ∀ q : Nat, s.heap.size ≤ q → A q := fun q h => by rw [← hAe]; exact Or.inr h
  have hl := lv_entry ([.ref h0]) (n := 1) (Nat.le_of_ble_eq_true rfl)
  rw [lg_entry_eq]
  generalize (lg_sl ([.ref h0]) ++ List.replicate (1 - (lg_sl ([.ref h0])).length) Slot.unset).toArray = ls at hl ⊢
  have hl : lv_has ls 1 [(0, .ref h0)] := hl
  refine z_start (w := [(h0, .inr (4, [.int 0, .int 0, .int 0]))]) hP hD (fun H locs hP hD hS => ?_)
  refine lv_aload_n hx hb dX4_init_0 rfl (lv_at hl 0 rfl) ?_
  refine W.objInit hx hb hown (hts _ wmt1_73) (hts _ wmt1_18) (hts _ wmt1_19) rfl (by rw [hml]; exact hl.1) rfl dX4_init_1 (Nat.le_of_ble_eq_true rfl) (Nat.le_of_ble_eq_true rfl) ?_
  refine W.eq (g2 := F0 m 4 ls []) rfl ?_
  refine lv_aload_n hx hb dX4_init_4 rfl (lv_at hl 0 rfl) ?_
  refine lv_iconst (v := 0) hx hb dX4_init_5 (by decide) ?_
  refine va_put (D := (dC, dI)) (ci := 4) (v := .int 0) (ty := .int) (C := RX4) (T := TX4) (N := 3) hx hb hts hi4 tyX4 tyX4_ok nmX4 hown hK.1 hP hD hS 0 rfl rfl 0 (by decide) (hts _ wmt1_74) (fun _ h9 => h9) rfl (by decide +kernel) rfl rfl (Nat.le_of_ble_eq_true rfl) dX4_init_6 (fun H locs hP hD hS => ?_)
  have hP : va_P (dC, dI) vwCl [(h0, .inr (4, [.int 0, .int 0, .int 0]))] H := hP
  have hD : va_D A [(h0, .inr (4, [.int 0, .int 0, .int 0]))] := hD
  refine lv_aload_n hx hb dX4_init_9 rfl (lv_at hl 0 rfl) ?_
  refine lv_iconst (v := 0) hx hb dX4_init_10 (by decide) ?_
  refine va_put (D := (dC, dI)) (ci := 4) (v := .int 0) (ty := .int) (C := RX4) (T := TX4) (N := 3) hx hb hts hi4 tyX4 tyX4_ok nmX4 hown hK.1 hP hD hS 0 rfl rfl 1 (by decide) (hts _ wmt1_75) (fun _ h9 => h9) rfl (by decide +kernel) rfl rfl (Nat.le_of_ble_eq_true rfl) dX4_init_11 (fun H locs hP hD hS => ?_)
  have hP : va_P (dC, dI) vwCl [(h0, .inr (4, [.int 0, .int 0, .int 0]))] H := hP
  have hD : va_D A [(h0, .inr (4, [.int 0, .int 0, .int 0]))] := hD
  refine lv_aload_n hx hb dX4_init_14 rfl (lv_at hl 0 rfl) ?_
  refine lv_iconst (v := 0) hx hb dX4_init_15 (by decide) ?_
  refine va_put (D := (dC, dI)) (ci := 4) (v := .int 0) (ty := .int) (C := RX4) (T := TX4) (N := 3) hx hb hts hi4 tyX4 tyX4_ok nmX4 hown hK.1 hP hD hS 0 rfl rfl 2 (by decide) (hts _ wmt1_77) (fun _ h9 => h9) rfl (by decide +kernel) rfl rfl (Nat.le_of_ble_eq_true rfl) dX4_init_16 (fun H locs hP hD hS => ?_)
  have hP : va_P (dC, dI) vwCl [(h0, .inr (4, [.int 0, .int 0, .int 0]))] H := hP
  have hD : va_D A [(h0, .inr (4, [.int 0, .int 0, .int 0]))] := hD
  exact W.vret hx hb hr (fun t ht hW => ⟨⟨(), rfl, trivial, ⟨by rw [ht]; exact hP, hD⟩⟩, hS.F ht⟩) hS.2.2 dX4_init_19
set_option maxHeartbeats 4000000 in
set_option maxRecDepth 100000 in
theorem c_X5_init (l : Launch) (dC : Nat → ClassId) (dI : Nat → Nat → Nat) (k : Nat → ClassId) (T : List (ClassId × FieldType)) (h0 : Nat) (sz : Nat)  : Met l yX5_init (wz yX5_init cX5_init 1 none) ({ frames := 1, cells := 1, slots := 60, locals := 12 }) (va_Pc [.ref h0] (zPre dC dI k T [(h0, .inr (5, [.null, .int 0, .int 0]))] sz)) (va_Qv (fun (u : Nat) => True) (fun u t => zPost dC dI (va_A [(h0, .inr (5, [.null, .int 0, .int 0]))] sz) [(h0, .inr (5, [.ref u, .int (-1), .int 0])), (u, .inl (k 0, 60, .inl (fun _ => 0)))] t) (va_A [(h0, .inr (5, [.null, .int 0, .int 0]))] sz)) 1 60 (va_A [(h0, .inr (5, [.null, .int 0, .int 0]))] sz) := by
  refine Met.ofW (cc := cX5_init) (maxL := 1) (ret := none) (by decide) rfl ?_
  intro p e s m args below meth c s₁ B hml hv
  obtain ⟨rfl, hsz, hP, hK, hD0⟩ := hv
  have hx := B.exec
  have hb := B.bytes
  have hr := B.returns
  have hts : ∀ w ∈ zw, w.before _ s = true := fun w h => atoms_spec (ws := (wz yX5_init cX5_init 1 none)) B.pre w (List.mem_cons_of_mem _ h)
  have hown : s.vm.findClass RX5 = some m.cls := findClass_of_methodNamed B.named
  have hlocks := B.notSynchronized
  have hin : meth.name = "<init>" := (name_of_methodNamed B.named B.method).1
  subst hsz
  have hi5 := inw5
  have hD := hD0.self (sz := s.heap.size)
  generalize hAe : va_A [(h0, .inr (5, [.null, .int 0, .int 0]))] s.heap.size = A at hD ⊢
  have hA : ∀ q : Nat, s.heap.size ≤ q → A q := fun q h => by rw [← hAe]; exact Or.inr h
  have hl := lv_entry ([.ref h0]) (n := 1) (Nat.le_of_ble_eq_true rfl)
  rw [lg_entry_eq]
  generalize (lg_sl ([.ref h0]) ++ List.replicate (1 - (lg_sl ([.ref h0])).length) Slot.unset).toArray = ls at hl ⊢
  have hl : lv_has ls 1 [(0, .ref h0)] := hl
  refine z_start (w := [(h0, .inr (5, [.null, .int 0, .int 0]))]) hP hD (fun H locs hP hD hS => ?_)
  refine lv_aload_n hx hb dX5_init_0 rfl (lv_at hl 0 rfl) ?_
  refine W.objInit hx hb hown (hts _ wmt1_156) (hts _ wmt1_18) (hts _ wmt1_19) rfl (by rw [hml]; exact hl.1) rfl dX5_init_1 (Nat.le_of_ble_eq_true rfl) (Nat.le_of_ble_eq_true rfl) ?_
  refine W.eq (g2 := F0 m 4 ls []) rfl ?_
  refine lv_aload_n hx hb dX5_init_4 rfl (lv_at hl 0 rfl) ?_
  refine lv_bipush (v := 60) hx hb dX5_init_5 (by decide) ?_
  refine va_newa (D := (dC, dI)) (atype := .int) (ty := .int) (N' := 60) (a0 := (60, .inl (fun _ => 0))) hx hb (hts _ wmt1_67) rfl hK.1 hP hD hS hA (z_newI 60) (by decide) (by decide) (by decide) (Nat.le_of_ble_eq_true rfl) (Nat.le_of_ble_eq_true rfl) dX5_init_7 (fun q_1 cA_2 H hK9 hP hD hS => ?_)
  obtain rfl : cA_2 = k 0 := z_cls z_raI hK9 0 rfl
  clear hK9
  have hP : va_P (dC, dI) vwCl [(h0, .inr (5, [.null, .int 0, .int 0])), (q_1, .inl (k 0, 60, .inl (fun _ => 0)))] H := hP
  have hD : va_D A [(h0, .inr (5, [.null, .int 0, .int 0])), (q_1, .inl (k 0, 60, .inl (fun _ => 0)))] := hD
  refine W.widen (k := 1) (n := 60) (by decide) (by decide) ?_
  refine va_putF (D := (dC, dI)) (ci := 5) (v := .ref q_1) (ty := .array .int) (C := RX5) (T := TX5) (N := 3) hx hb hts hi5 tyX5 tyX5_ok nmX5 hown hK.1 hP hD hS 0 rfl rfl 0 (by decide) (hts _ wmt1_157) (fun _ h9 => h9) rfl hin rfl (by decide +kernel) rfl rfl (Nat.le_of_ble_eq_true rfl) dX5_init_9 (fun H locs hP hD hS => ?_)
  have hP : va_P (dC, dI) vwCl [(h0, .inr (5, [.ref q_1, .int 0, .int 0])), (q_1, .inl (k 0, 60, .inl (fun _ => 0)))] H := hP
  have hD : va_D A [(h0, .inr (5, [.ref q_1, .int 0, .int 0])), (q_1, .inl (k 0, 60, .inl (fun _ => 0)))] := hD
  refine lv_aload_n hx hb dX5_init_12 rfl (lv_at hl 0 rfl) ?_
  refine lv_iconst (v := (-1)) hx hb dX5_init_13 (by decide) ?_
  refine va_put (D := (dC, dI)) (ci := 5) (v := .int (-1)) (ty := .int) (C := RX5) (T := TX5) (N := 3) hx hb hts hi5 tyX5 tyX5_ok nmX5 hown hK.1 hP hD hS 0 rfl rfl 1 (by decide) (hts _ wmt1_159) (fun _ h9 => h9) rfl (by decide +kernel) rfl rfl (Nat.le_of_ble_eq_true rfl) dX5_init_14 (fun H locs hP hD hS => ?_)
  have hP : va_P (dC, dI) vwCl [(h0, .inr (5, [.ref q_1, .int (-1), .int 0])), (q_1, .inl (k 0, 60, .inl (fun _ => 0)))] H := hP
  have hD : va_D A [(h0, .inr (5, [.ref q_1, .int (-1), .int 0])), (q_1, .inl (k 0, 60, .inl (fun _ => 0)))] := hD
  refine lv_aload_n hx hb dX5_init_17 rfl (lv_at hl 0 rfl) ?_
  refine lv_iconst (v := 0) hx hb dX5_init_18 (by decide) ?_
  refine va_put (D := (dC, dI)) (ci := 5) (v := .int 0) (ty := .int) (C := RX5) (T := TX5) (N := 3) hx hb hts hi5 tyX5 tyX5_ok nmX5 hown hK.1 hP hD hS 0 rfl rfl 2 (by decide) (hts _ wmt1_161) (fun _ h9 => h9) rfl (by decide +kernel) rfl rfl (Nat.le_of_ble_eq_true rfl) dX5_init_19 (fun H locs hP hD hS => ?_)
  have hP : va_P (dC, dI) vwCl [(h0, .inr (5, [.ref q_1, .int (-1), .int 0])), (q_1, .inl (k 0, 60, .inl (fun _ => 0)))] H := hP
  have hD : va_D A [(h0, .inr (5, [.ref q_1, .int (-1), .int 0])), (q_1, .inl (k 0, 60, .inl (fun _ => 0)))] := hD
  exact W.vret hx hb hr (fun t ht hW => ⟨⟨(q_1), rfl, trivial, ⟨by rw [ht]; exact hP, hD⟩⟩, hS.F ht⟩) hS.2.2 dX5_init_22
