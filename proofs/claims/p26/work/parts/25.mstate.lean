set_option maxHeartbeats 4000000 in
set_option maxRecDepth 100000 in
theorem c_X7_type (l : Launch) (dC : Nat → ClassId) (dI : Nat → Nat → Nat) (k : Nat → ClassId) (q : Nat → Nat) (z : ZS) (d : Int32) (bb : Int32) (sz : Nat) (hI : MInv z) : Met l yX7_type (wz yX7_type cX7_type 3 (some .int)) ({ frames := 2, cells := 0, slots := 0, locals := 42 }) (va_Pc [.ref (q 0), .int d, .int bb] (zPre dC dI k (zTX k) (zM k q z) sz)) (va_Qi (fun (r : Int32) (u : (Nat → Int32) × (Nat → Int32) × (Nat → Int32)) => (MInv (sA (sA (sA z 2 u.1) 3 u.2.1) 4 u.2.2)) ∧ ((r, trM (sA (sA (sA z 2 u.1) 3 u.2.1) 4 u.2.2)) = tType (trM z) d bb)) (fun u t => zPost dC dI (va_A (zM k q z) sz) (zM k q (sA (sA (sA z 2 u.1) 3 u.2.1) 4 u.2.2)) t) (va_A (zM k q z) sz)) 0 0 (va_A (zM k q z) sz) := by
  refine Met.ofW (cc := cX7_type) (maxL := 3) (ret := (some .int)) (by decide) rfl ?_
  intro p e s m args below meth c s₁ B hml hv
  obtain ⟨rfl, hsz, hP, hK, hD0⟩ := hv
  have hx := B.exec
  have hb := B.bytes
  have hr := B.returns
  have hts := atoms_spec (ws := wz yX7_type cX7_type 3 (some .int)) B.pre
  have htb : ∀ w ∈ zw, w.before _ s = true := fun w h => hts w (List.mem_cons_of_mem _ h)
  have hown : s.vm.findClass RX7 = some m.cls := findClass_of_methodNamed B.named
  have hlocks := B.notSynchronized
  clear hts
  subst hsz
  have hD := hD0.self (sz := s.heap.size)
  generalize hAe : va_A (zM k q z) s.heap.size = A at hD ⊢
  have hA : ∀ q : Nat, s.heap.size ≤ q → A q := fun q h => by rw [← hAe]; exact Or.inr h
  have hDa : ∀ z9 : ZS, va_D A (zM k q z9) := fun z9 => va_D_adr (w := zM k q z) rfl hD
  have hl := lv_entry ([.ref (q 0), .int d, .int bb]) (n := 3) (Nat.le_of_ble_eq_true rfl)
  rw [lg_entry_eq]
  generalize (lg_sl ([.ref (q 0), .int d, .int bb]) ++ List.replicate (3 - (lg_sl ([.ref (q 0), .int d, .int bb])).length) Slot.unset).toArray = ls at hl ⊢
  have hl : lv_has ls 3 [(0, .ref (q 0)), (1, .int d), (2, .int bb)] := hl
  refine z_start2 (A := A) (w := (zM k q z)) hP (fun H locs hP hS => ?_)
  clear hD0 hAe
  refine lv_iload_n hx hb dX7_type_0 rfl (lv_at hl 1 rfl) ?_
  refine zc0_i (w := (zM k q z)) (va_runS (As := [.int d]) (rest := []) ⟨hx, hb, hml, hown, htb⟩ (c_X7_isDesign l dC dI k d _ ) (va_cwS 1 htb (gzS wmt4_59 wmt4_60 wmt1_8 wmt4_61) rfl rfl rfl (by decide +kernel) ⟨Nat.le_of_ble_eq_true rfl, Nat.le_of_ble_eq_true rfl⟩) (zp0_S hK) rfl rfl hl.1 rfl (lv_room (Nat.le_of_ble_eq_true rfl)) dX7_type_1 ⟨Nat.le_of_ble_eq_true rfl, Nat.le_of_ble_eq_true rfl⟩) hP hS hA (fun r_1 u_2 H locs w_3 hP hS => ?_)
  rcases w_3 with ⟨e_5, h_4⟩ | ⟨e_7, h_6⟩
  · skip
    replace e_5 : r_1 = 1 := e_5
    subst e_5
    replace h_4 : 0 ≤ d.toInt ∧ d.toInt < 4 := h_4
    refine lv_if_eq (tgt := 18) hx hb dX7_type_4 (by decide) (fun c_8 => ?_) (fun c_8 => ?_)
    · skip
      exact absurd c_8 (by decide)
    · skip
      refine lv_iload_n hx hb dX7_type_7 rfl (lv_at hl 2 rfl) ?_
      refine lv_iconst (v := 0) hx hb dX7_type_8 (by decide) ?_
      refine lv_sipush (v := 255) hx hb dX7_type_9 (by decide) ?_
      refine zc0_i (w := (zM k q z)) (va_runS (As := [.int bb, .int 0, .int 255]) (rest := []) ⟨hx, hb, hml, hown, htb⟩ (c_X7_in l dC dI k bb 0 255 _ ) (va_cwS 3 htb (gzS wmt4_62 wmt4_63 wmt1_8 wmt4_64) rfl rfl rfl (by decide +kernel) ⟨Nat.le_of_ble_eq_true rfl, Nat.le_of_ble_eq_true rfl⟩) (zp0_S hK) rfl rfl hl.1 rfl (lv_room (Nat.le_of_ble_eq_true rfl)) dX7_type_12 ⟨Nat.le_of_ble_eq_true rfl, Nat.le_of_ble_eq_true rfl⟩) hP hS hA (fun r_9 u_10 H locs w_11 hP hS => ?_)
      rcases w_11 with ⟨e_13, h_12⟩ | ⟨e_15, h_14⟩
      · skip
        replace e_13 : r_9 = 1 := e_13
        subst e_13
        replace h_12 : (0 : Int32).toInt ≤ bb.toInt ∧ bb.toInt ≤ (255 : Int32).toInt := h_12
        rw [show (0 : Int32).toInt = 0 by decide, show (255 : Int32).toInt = 255 by decide] at h_12
        refine lv_if_ne (tgt := 21) hx hb dX7_type_15 (by decide) (fun c_16 => ?_) (fun c_16 => ?_)
        · skip
          refine lv_aload_n hx hb dX7_type_21 rfl (lv_at hl 0 rfl) ?_
          refine va_get (D := (dC, dI)) (ci := 7) (v := .ref (q 2)) (C := RX7) (T := TX7) (N := 42) hx hb htb inw7 hown hK.1 hP 0 rfl rfl 2 (by decide) (htb _ wmt3_169) (fun _ h9 => h9) rfl dX7_type_22 ?_
          refine lv_iload_n hx hb dX7_type_25 rfl (lv_at hl 1 rfl) ?_
          refine va_iald (D := (dC, dI)) hx hb hK.1 hP 1 0 rfl rfl (z_in (by omega)) dX7_type_26 ?_
          refine lv_topi (fun x_17 ex_17 => ?_)
          have hx_17 : x_17.toInt = ((z.2.2.1 2) d.toNatClampNeg).toInt := by rw [ex_17]
          have hmx_17 := M4_at hI.2.2.2.1 (show 0 ≤ d.toInt ∧ d.toInt < 4 by omega)
          refine lv_bipush (v := 60) hx hb dX7_type_27 (by decide) ?_
          refine lv_icmp_ne (tgt := 35) hx hb dX7_type_29 (by decide) (fun c_18 => ?_) (fun c_18 => ?_)
          · skip
            have hc_18 := zb_ne rfl (show (60 : Int32).toInt = 60 by decide) c_18
            refine lv_aload_n hx hb dX7_type_35 rfl (lv_at hl 0 rfl) ?_
            refine va_get (D := (dC, dI)) (ci := 7) (v := .ref (q 3)) (C := RX7) (T := TX7) (N := 42) hx hb htb inw7 hown hK.1 hP 0 rfl rfl 3 (by decide) (htb _ wmt3_170) (fun _ h9 => h9) rfl dX7_type_36 ?_
            refine lv_bipush (v := 60) hx hb dX7_type_39 (by decide) ?_
            refine lv_iload_n hx hb dX7_type_41 rfl (lv_at hl 1 rfl) ?_
            refine lv_imul hx hb dX7_type_42 ?_
            refine lv_topi (fun x_19 ex_19 => ?_)
            have hx_19 := z_mul ex_19 (show (60 : Int32).toInt = 60 by decide) rfl (by omega)
            refine lv_aload_n hx hb dX7_type_43 rfl (lv_at hl 0 rfl) ?_
            refine va_get (D := (dC, dI)) (ci := 7) (v := .ref (q 2)) (C := RX7) (T := TX7) (N := 42) hx hb htb inw7 hown hK.1 hP 0 rfl rfl 2 (by decide) (htb _ wmt3_169) (fun _ h9 => h9) rfl dX7_type_44 ?_
            refine lv_iload_n hx hb dX7_type_47 rfl (lv_at hl 1 rfl) ?_
            refine va_iald (D := (dC, dI)) hx hb hK.1 hP 1 0 rfl rfl (z_in (by omega)) dX7_type_48 ?_
            refine lv_topi (fun x_20 ex_20 => ?_)
            have hx_20 : x_20.toInt = ((z.2.2.1 2) d.toNatClampNeg).toInt := by rw [ex_20]
            refine lv_iadd hx hb dX7_type_49 ?_
            refine lv_topi (fun x_21 ex_21 => ?_)
            have hx_21 := z_add ex_21 rfl rfl (by omega)
            refine lv_iload_n hx hb dX7_type_50 rfl (lv_at hl 2 rfl) ?_
            refine va_iast (D := (dC, dI)) hx hb hK.1 hP (hDa _) hS 2 0 rfl rfl (z_in (by omega)) dX7_type_51 (fun H locs hP _ hS => ?_)
            obtain ⟨f_22, ef_22⟩ : ∃ x : Nat → Int32, x = upd (z.2.2.1 3) x_21.toNatClampNeg bb := ⟨_, rfl⟩
            have hP : va_P (dC, dI) vwCl (zM k q (sA z 3 f_22)) H := by rw [ef_22]; exact hP
            have hcl3 := z_clamp (x := z.2.2.1 2 d.toNatClampNeg) (by omega)
            have hx60 : (z.2.2.1 2 d.toNatClampNeg).toNatClampNeg < 60 := by omega
            have hj : x_21.toNatClampNeg = 60 * d.toNatClampNeg + (z.2.2.1 2 d.toNatClampNeg).toNatClampNeg := by have q1 := z_clamp (x := x_21) (by omega); have q2 := z_clamp (x := d) (by omega); omega
            refine lv_aload_n hx hb dX7_type_52 rfl (lv_at hl 0 rfl) ?_
            refine va_get (D := (dC, dI)) (ci := 7) (v := .ref (q 2)) (C := RX7) (T := TX7) (N := 42) hx hb htb inw7 hown hK.1 hP 0 rfl rfl 2 (by decide) (htb _ wmt3_169) (fun _ h9 => h9) rfl dX7_type_53 ?_
            refine lv_iload_n hx hb dX7_type_56 rfl (lv_at hl 1 rfl) ?_
            refine lv_dup2_11 hx hb dX7_type_57 rfl rfl ?_
            refine va_iald (D := (dC, dI)) hx hb hK.1 hP 1 0 rfl rfl (z_in (by omega)) dX7_type_58 ?_
            refine lv_topi (fun x_23 ex_23 => ?_)
            replace ex_23 : x_23 = (z.2.2.1 2) d.toNatClampNeg := ex_23
            have hx_23 : x_23.toInt = ((z.2.2.1 2) d.toNatClampNeg).toInt := by rw [ex_23]
            refine lv_iconst (v := 1) hx hb dX7_type_59 (by decide) ?_
            refine lv_iadd hx hb dX7_type_60 ?_
            refine lv_topi (fun x_24 ex_24 => ?_)
            have hx_24 := z_add ex_24 rfl (show (1 : Int32).toInt = 1 by decide) (by omega)
            refine va_iast (D := (dC, dI)) hx hb hK.1 hP (hDa _) hS 1 0 rfl rfl (z_in (by omega)) dX7_type_61 (fun H locs hP _ hS => ?_)
            obtain ⟨f_25, ef_25⟩ : ∃ x : Nat → Int32, x = upd (z.2.2.1 2) d.toNatClampNeg x_24 := ⟨_, rfl⟩
            have hP : va_P (dC, dI) vwCl (zM k q (sA (sA z 3 f_22) 2 f_25)) H := by rw [ef_25]; exact hP
            refine lv_aload_n hx hb dX7_type_62 rfl (lv_at hl 0 rfl) ?_
            refine va_get (D := (dC, dI)) (ci := 7) (v := .ref (q 4)) (C := RX7) (T := TX7) (N := 42) hx hb htb inw7 hown hK.1 hP 0 rfl rfl 4 (by decide) (htb _ wmt3_171) (fun _ h9 => h9) rfl dX7_type_63 ?_
            refine lv_iload_n hx hb dX7_type_66 rfl (lv_at hl 1 rfl) ?_
            refine lv_iconst (v := 0) hx hb dX7_type_67 (by decide) ?_
            refine va_zast (D := (dC, dI)) hx hb hK.1 hP (hDa _) hS 3 2 rfl rfl (z_in (by omega)) dX7_type_68 (fun H locs hP _ hS => ?_)
            obtain ⟨f_26, ef_26⟩ : ∃ x : Nat → Int32, x = upd (z.2.2.1 4) d.toNatClampNeg (vp_nar .boolean 0) := ⟨_, rfl⟩
            have hP : va_P (dC, dI) vwCl (zM k q (sA (sA (sA z 3 f_22) 2 f_25) 4 f_26)) H := by rw [ef_26]; exact hP
            refine lv_aload_n hx hb dX7_type_69 rfl (lv_at hl 0 rfl) ?_
            refine va_get (D := (dC, dI)) (ci := 7) (v := .ref (q 2)) (C := RX7) (T := TX7) (N := 42) hx hb htb inw7 hown hK.1 hP 0 rfl rfl 2 (by decide) (htb _ wmt3_169) (fun _ h9 => h9) rfl dX7_type_70 ?_
            refine lv_iload_n hx hb dX7_type_73 rfl (lv_at hl 1 rfl) ?_
            refine va_iald (D := (dC, dI)) hx hb hK.1 hP 1 0 rfl rfl (z_in (by omega)) dX7_type_74 ?_
            refine lv_topi (fun x_27 ex_27 => ?_)
            replace ex_27 : x_27 = f_25 d.toNatClampNeg := ex_27
            exact W.iret (v := x_27) hx hb hr (fun t ht hW => ⟨⟨x_27, (f_25, f_22, f_26), rfl, (show (MInv (sA (sA (sA z 2 f_25) 3 f_22) 4 f_26)) ∧ ((x_27, trM (sA (sA (sA z 2 f_25) 3 f_22) 4 f_26)) = tType (trM z) d bb) from ⟨⟨hI.1, hI.2.1, hI.2.2.1, (M4_upd hI.2.2.2.1 ef_25 (by omega)), hI.2.2.2.2.1, (MD_off hI.2.2.2.2.2 ef_26 (by decide) (fun k hk => by rw [ef_25, ef_22, hj]; exact FR_same hk hx60))⟩, tType_ok (n := d.toNatClampNeg) (by omega) rfl (trM_Dg (z_cl4 (show 0 ≤ d.toInt ∧ d.toInt < 4 by omega))) (by omega) (by rw [ex_27, ef_25, pk_us, ex_24, ex_23]) (by rw [ef_25, ex_24, ex_23, ef_22]; exact trM_ty hx60 (z_cl4 (show 0 ≤ d.toInt ∧ d.toInt < 4 by omega)) hj)⟩), ⟨by rw [ht]; exact hP, hDa _⟩⟩, hS.F ht⟩) hS.2.2 dX7_type_75
          · skip
            have hc_18 := zb_eq rfl (show (60 : Int32).toInt = 60 by decide) c_18
            refine lv_bipush (v := (-4)) hx hb dX7_type_32 (by decide) ?_
            exact W.iret (v := (-4)) hx hb hr (fun t ht hW => ⟨⟨(-4), (z.2.2.1 2, z.2.2.1 3, z.2.2.1 4), rfl, (show (MInv (sA (sA (sA z 2 (z.2.2.1 2)) 3 (z.2.2.1 3)) 4 (z.2.2.1 4))) ∧ ((((-4) : Int32), trM (sA (sA (sA z 2 (z.2.2.1 2)) 3 (z.2.2.1 3)) 4 (z.2.2.1 4))) = tType (trM z) d bb) from ⟨hI, tType_full (n := d.toNatClampNeg) (by omega) rfl (trM_Dg (z_cl4 (show 0 ≤ d.toInt ∧ d.toInt < 4 by omega))) (by omega) rfl⟩), ⟨by rw [ht]; exact hP, hDa _⟩⟩, hS.F ht⟩) hS.2.2 dX7_type_34
        · skip
          exact absurd c_16 (by decide)
      · skip
        replace e_15 : r_9 = 0 := e_15
        subst e_15
        replace h_14 : ¬ ((0 : Int32).toInt ≤ bb.toInt ∧ bb.toInt ≤ (255 : Int32).toInt) := h_14
        rw [show (0 : Int32).toInt = 0 by decide, show (255 : Int32).toInt = 255 by decide] at h_14
        refine lv_if_ne (tgt := 21) hx hb dX7_type_15 (by decide) (fun c_28 => ?_) (fun c_28 => ?_)
        · skip
          exact absurd c_28 (by decide)
        · skip
          refine lv_bipush (v := (-2)) hx hb dX7_type_18 (by decide) ?_
          exact W.iret (v := (-2)) hx hb hr (fun t ht hW => ⟨⟨(-2), (z.2.2.1 2, z.2.2.1 3, z.2.2.1 4), rfl, (show (MInv (sA (sA (sA z 2 (z.2.2.1 2)) 3 (z.2.2.1 3)) 4 (z.2.2.1 4))) ∧ ((((-2) : Int32), trM (sA (sA (sA z 2 (z.2.2.1 2)) 3 (z.2.2.1 3)) 4 (z.2.2.1 4))) = tType (trM z) d bb) from ⟨hI, tType_bad (by omega)⟩), ⟨by rw [ht]; exact hP, hDa _⟩⟩, hS.F ht⟩) hS.2.2 dX7_type_20
  · skip
    replace e_7 : r_1 = 0 := e_7
    subst e_7
    replace h_6 : ¬ (0 ≤ d.toInt ∧ d.toInt < 4) := h_6
    refine lv_if_eq (tgt := 18) hx hb dX7_type_4 (by decide) (fun c_29 => ?_) (fun c_29 => ?_)
    · skip
      refine lv_bipush (v := (-2)) hx hb dX7_type_18 (by decide) ?_
      exact W.iret (v := (-2)) hx hb hr (fun t ht hW => ⟨⟨(-2), (z.2.2.1 2, z.2.2.1 3, z.2.2.1 4), rfl, (show (MInv (sA (sA (sA z 2 (z.2.2.1 2)) 3 (z.2.2.1 3)) 4 (z.2.2.1 4))) ∧ ((((-2) : Int32), trM (sA (sA (sA z 2 (z.2.2.1 2)) 3 (z.2.2.1 3)) 4 (z.2.2.1 4))) = tType (trM z) d bb) from ⟨hI, tType_bad (by omega)⟩), ⟨by rw [ht]; exact hP, hDa _⟩⟩, hS.F ht⟩) hS.2.2 dX7_type_20
    · skip
      exact absurd (by decide) c_29
set_option maxHeartbeats 4000000 in
set_option maxRecDepth 100000 in
theorem c_X7_wipe (l : Launch) (dC : Nat → ClassId) (dI : Nat → Nat → Nat) (k : Nat → ClassId) (q : Nat → Nat) (z : ZS) (d : Int32) (sz : Nat) (hI : MInv z) : Met l yX7_wipe (wz yX7_wipe cX7_wipe 3 (some .int)) ({ frames := 2, cells := 0, slots := 0, locals := 42 }) (va_Pc [.ref (q 0), .int d] (zPre dC dI k (zTX k) (zM k q z) sz)) (va_Qi (fun (r : Int32) (u : (Nat → Int32) × (Nat → Int32)) => (MInv (sA (sA z 2 u.1) 4 u.2)) ∧ ((r, trM (sA (sA z 2 u.1) 4 u.2)) = tWipe (trM z) d)) (fun u t => zPost dC dI (va_A (zM k q z) sz) (zM k q (sA (sA z 2 u.1) 4 u.2)) t) (va_A (zM k q z) sz)) 0 0 (va_A (zM k q z) sz) := by
  refine Met.ofW (cc := cX7_wipe) (maxL := 3) (ret := (some .int)) (by decide) rfl ?_
  intro p e s m args below meth c s₁ B hml hv
  obtain ⟨rfl, hsz, hP, hK, hD0⟩ := hv
  have hx := B.exec
  have hb := B.bytes
  have hr := B.returns
  have hts := atoms_spec (ws := wz yX7_wipe cX7_wipe 3 (some .int)) B.pre
  have htb : ∀ w ∈ zw, w.before _ s = true := fun w h => hts w (List.mem_cons_of_mem _ h)
  have hown : s.vm.findClass RX7 = some m.cls := findClass_of_methodNamed B.named
  have hlocks := B.notSynchronized
  clear hts
  subst hsz
  have hD := hD0.self (sz := s.heap.size)
  generalize hAe : va_A (zM k q z) s.heap.size = A at hD ⊢
  have hA : ∀ q : Nat, s.heap.size ≤ q → A q := fun q h => by rw [← hAe]; exact Or.inr h
  have hDa : ∀ z9 : ZS, va_D A (zM k q z9) := fun z9 => va_D_adr (w := zM k q z) rfl hD
  have hl := lv_entry ([.ref (q 0), .int d]) (n := 3) (Nat.le_of_ble_eq_true rfl)
  rw [lg_entry_eq]
  generalize (lg_sl ([.ref (q 0), .int d]) ++ List.replicate (3 - (lg_sl ([.ref (q 0), .int d])).length) Slot.unset).toArray = ls at hl ⊢
  have hl : lv_has ls 3 [(0, .ref (q 0)), (1, .int d)] := hl
  refine z_start2 (A := A) (w := (zM k q z)) hP (fun H locs hP hS => ?_)
  clear hD0 hAe
  refine lv_iload_n hx hb dX7_wipe_0 rfl (lv_at hl 1 rfl) ?_
  refine zc0_i (w := (zM k q z)) (va_runS (As := [.int d]) (rest := []) ⟨hx, hb, hml, hown, htb⟩ (c_X7_isDesign l dC dI k d _ ) (va_cwS 1 htb (gzS wmt4_59 wmt4_60 wmt1_8 wmt4_61) rfl rfl rfl (by decide +kernel) ⟨Nat.le_of_ble_eq_true rfl, Nat.le_of_ble_eq_true rfl⟩) (zp0_S hK) rfl rfl hl.1 rfl (lv_room (Nat.le_of_ble_eq_true rfl)) dX7_wipe_1 ⟨Nat.le_of_ble_eq_true rfl, Nat.le_of_ble_eq_true rfl⟩) hP hS hA (fun r_1 u_2 H locs w_3 hP hS => ?_)
  rcases w_3 with ⟨e_5, h_4⟩ | ⟨e_7, h_6⟩
  · skip
    replace e_5 : r_1 = 1 := e_5
    subst e_5
    replace h_4 : 0 ≤ d.toInt ∧ d.toInt < 4 := h_4
    refine lv_if_ne (tgt := 10) hx hb dX7_wipe_4 (by decide) (fun c_8 => ?_) (fun c_8 => ?_)
    · skip
      refine lv_aload_n hx hb dX7_wipe_10 rfl (lv_at hl 0 rfl) ?_
      refine va_get (D := (dC, dI)) (ci := 7) (v := .ref (q 2)) (C := RX7) (T := TX7) (N := 42) hx hb htb inw7 hown hK.1 hP 0 rfl rfl 2 (by decide) (htb _ wmt3_169) (fun _ h9 => h9) rfl dX7_wipe_11 ?_
      refine lv_iload_n hx hb dX7_wipe_14 rfl (lv_at hl 1 rfl) ?_
      refine va_iald (D := (dC, dI)) hx hb hK.1 hP 1 0 rfl rfl (z_in (by omega)) dX7_wipe_15 ?_
      refine lv_topi (fun x_9 ex_9 => ?_)
      refine lv_istore_n (lv' := [(2, .int x_9), (0, .ref (q 0)), (1, .int d)]) hx hb dX7_wipe_16 rfl hl (by decide) rfl (fun ls hl => ?_)
      refine lv_aload_n hx hb dX7_wipe_17 rfl (lv_at hl 1 rfl) ?_
      refine va_get (D := (dC, dI)) (ci := 7) (v := .ref (q 2)) (C := RX7) (T := TX7) (N := 42) hx hb htb inw7 hown hK.1 hP 0 rfl rfl 2 (by decide) (htb _ wmt3_169) (fun _ h9 => h9) rfl dX7_wipe_18 ?_
      refine lv_iload_n hx hb dX7_wipe_21 rfl (lv_at hl 2 rfl) ?_
      refine lv_iconst (v := 0) hx hb dX7_wipe_22 (by decide) ?_
      refine va_iast (D := (dC, dI)) hx hb hK.1 hP (hDa _) hS 1 0 rfl rfl (z_in (by omega)) dX7_wipe_23 (fun H locs hP _ hS => ?_)
      obtain ⟨f_10, ef_10⟩ : ∃ x : Nat → Int32, x = upd (z.2.2.1 2) d.toNatClampNeg 0 := ⟨_, rfl⟩
      have hP : va_P (dC, dI) vwCl (zM k q (sA z 2 f_10)) H := by rw [ef_10]; exact hP
      refine lv_aload_n hx hb dX7_wipe_24 rfl (lv_at hl 1 rfl) ?_
      refine va_get (D := (dC, dI)) (ci := 7) (v := .ref (q 4)) (C := RX7) (T := TX7) (N := 42) hx hb htb inw7 hown hK.1 hP 0 rfl rfl 4 (by decide) (htb _ wmt3_171) (fun _ h9 => h9) rfl dX7_wipe_25 ?_
      refine lv_iload_n hx hb dX7_wipe_28 rfl (lv_at hl 2 rfl) ?_
      refine lv_iconst (v := 0) hx hb dX7_wipe_29 (by decide) ?_
      refine va_zast (D := (dC, dI)) hx hb hK.1 hP (hDa _) hS 3 2 rfl rfl (z_in (by omega)) dX7_wipe_30 (fun H locs hP _ hS => ?_)
      obtain ⟨f_11, ef_11⟩ : ∃ x : Nat → Int32, x = upd (z.2.2.1 4) d.toNatClampNeg (vp_nar .boolean 0) := ⟨_, rfl⟩
      have hP : va_P (dC, dI) vwCl (zM k q (sA (sA z 2 f_10) 4 f_11)) H := by rw [ef_11]; exact hP
      refine lv_iload_n hx hb dX7_wipe_31 rfl (lv_at hl 0 rfl) ?_
      exact W.iret (v := x_9) hx hb hr (fun t ht hW => ⟨⟨x_9, (f_10, f_11), rfl, (show (MInv (sA (sA z 2 f_10) 4 f_11)) ∧ ((x_9, trM (sA (sA z 2 f_10) 4 f_11)) = tWipe (trM z) d) from ⟨⟨hI.1, hI.2.1, hI.2.2.1, (M4_upd hI.2.2.2.1 ef_10 (by decide)), hI.2.2.2.2.1, (MD_off hI.2.2.2.2.2 ef_11 (by decide) (fun k hk => by rw [ef_10]; exact FR_same2 hk))⟩, tWipe_ok (n := d.toNatClampNeg) (by omega) rfl ((trM_Dg (z_cl4 (show 0 ≤ d.toInt ∧ d.toInt < 4 by omega))).trans ex_9.symm) (by rw [ef_10]; exact trM_wi (z_cl4 (show 0 ≤ d.toInt ∧ d.toInt < 4 by omega)))⟩), ⟨by rw [ht]; exact hP, hDa _⟩⟩, hS.F ht⟩) hS.2.2 dX7_wipe_32
    · skip
      exact absurd c_8 (by decide)
  · skip
    replace e_7 : r_1 = 0 := e_7
    subst e_7
    replace h_6 : ¬ (0 ≤ d.toInt ∧ d.toInt < 4) := h_6
    refine lv_if_ne (tgt := 10) hx hb dX7_wipe_4 (by decide) (fun c_12 => ?_) (fun c_12 => ?_)
    · skip
      exact absurd c_12 (by decide)
    · skip
      refine lv_bipush (v := (-2)) hx hb dX7_wipe_7 (by decide) ?_
      exact W.iret (v := (-2)) hx hb hr (fun t ht hW => ⟨⟨(-2), (z.2.2.1 2, z.2.2.1 4), rfl, (show (MInv (sA (sA z 2 (z.2.2.1 2)) 4 (z.2.2.1 4))) ∧ ((((-2) : Int32), trM (sA (sA z 2 (z.2.2.1 2)) 4 (z.2.2.1 4))) = tWipe (trM z) d) from ⟨hI, tWipe_bad (by omega)⟩), ⟨by rw [ht]; exact hP, hDa _⟩⟩, hS.F ht⟩) hS.2.2 dX7_wipe_9
set_option maxHeartbeats 4000000 in
set_option maxRecDepth 100000 in
theorem c_X7_other (l : Launch) (dC : Nat → ClassId) (dI : Nat → Nat → Nat) (k : Nat → ClassId) (q : Nat → Nat) (z : ZS) (v : Int32) (sz : Nat) (hI : MInv z) : Met l yX7_other (wz yX7_other cX7_other 3 (some .int)) ({ frames := 1, cells := 0, slots := 0, locals := 22 }) (va_Pc [.ref (q 0), .int v] (zPre dC dI k (zTX k) (zM k q z) sz)) (va_Qi (fun (r : Int32) (u : Int32) => (MInv (sI z 11 u)) ∧ ((r, trM (sI z 11 u)) = tOther (trM z) v)) (fun u t => zPost dC dI (va_A (zM k q z) sz) (zM k q (sI z 11 u)) t) (va_A (zM k q z) sz)) 0 0 (va_A (zM k q z) sz) := by
  refine Met.ofW (cc := cX7_other) (maxL := 3) (ret := (some .int)) (by decide) rfl ?_
  intro p e s m args below meth c s₁ B hml hv
  obtain ⟨rfl, hsz, hP, hK, hD0⟩ := hv
  have hx := B.exec
  have hb := B.bytes
  have hr := B.returns
  have hts := atoms_spec (ws := wz yX7_other cX7_other 3 (some .int)) B.pre
  have htb : ∀ w ∈ zw, w.before _ s = true := fun w h => hts w (List.mem_cons_of_mem _ h)
  have hown : s.vm.findClass RX7 = some m.cls := findClass_of_methodNamed B.named
  have hlocks := B.notSynchronized
  clear hts
  subst hsz
  have hD := hD0.self (sz := s.heap.size)
  generalize hAe : va_A (zM k q z) s.heap.size = A at hD ⊢
  have hA : ∀ q : Nat, s.heap.size ≤ q → A q := fun q h => by rw [← hAe]; exact Or.inr h
  have hDa : ∀ z9 : ZS, va_D A (zM k q z9) := fun z9 => va_D_adr (w := zM k q z) rfl hD
  have hl := lv_entry ([.ref (q 0), .int v]) (n := 3) (Nat.le_of_ble_eq_true rfl)
  rw [lg_entry_eq]
  generalize (lg_sl ([.ref (q 0), .int v]) ++ List.replicate (3 - (lg_sl ([.ref (q 0), .int v])).length) Slot.unset).toArray = ls at hl ⊢
  have hl : lv_has ls 3 [(0, .ref (q 0)), (1, .int v)] := hl
  refine z_start2 (A := A) (w := (zM k q z)) hP (fun H locs hP hS => ?_)
  clear hD0 hAe
  refine lv_iload_n hx hb dX7_other_0 rfl (lv_at hl 1 rfl) ?_
  refine lv_iconst (v := 0) hx hb dX7_other_1 (by decide) ?_
  refine lv_bipush (v := 24) hx hb dX7_other_2 (by decide) ?_
  refine zc0_i (w := (zM k q z)) (va_runS (As := [.int v, .int 0, .int 24]) (rest := []) ⟨hx, hb, hml, hown, htb⟩ (c_X7_in l dC dI k v 0 24 _ ) (va_cwS 3 htb (gzS wmt4_62 wmt4_63 wmt1_8 wmt4_64) rfl rfl rfl (by decide +kernel) ⟨Nat.le_of_ble_eq_true rfl, Nat.le_of_ble_eq_true rfl⟩) (zp0_S hK) rfl rfl hl.1 rfl (lv_room (Nat.le_of_ble_eq_true rfl)) dX7_other_4 ⟨Nat.le_of_ble_eq_true rfl, Nat.le_of_ble_eq_true rfl⟩) hP hS hA (fun r_1 u_2 H locs w_3 hP hS => ?_)
  rcases w_3 with ⟨e_5, h_4⟩ | ⟨e_7, h_6⟩
  · skip
    replace e_5 : r_1 = 1 := e_5
    subst e_5
    replace h_4 : (0 : Int32).toInt ≤ v.toInt ∧ v.toInt ≤ (24 : Int32).toInt := h_4
    rw [show (0 : Int32).toInt = 0 by decide, show (24 : Int32).toInt = 24 by decide] at h_4
    refine lv_if_ne (tgt := 13) hx hb dX7_other_7 (by decide) (fun c_8 => ?_) (fun c_8 => ?_)
    · skip
      refine lv_aload_n hx hb dX7_other_13 rfl (lv_at hl 0 rfl) ?_
      refine va_get (D := (dC, dI)) (ci := 7) (v := .int (z.1 11)) (C := RX7) (T := TX7) (N := 42) hx hb htb inw7 hown hK.1 hP 0 rfl rfl 11 (by decide) (htb _ wmt3_178) (fun _ h9 => h9) rfl dX7_other_14 ?_
      refine lv_topi (fun x_9 ex_9 => ?_)
      have hx_9 : x_9.toInt = (z.1 11).toInt := by rw [ex_9]
      refine lv_istore_n (lv' := [(2, .int x_9), (0, .ref (q 0)), (1, .int v)]) hx hb dX7_other_17 rfl hl (by decide) rfl (fun ls hl => ?_)
      refine lv_aload_n hx hb dX7_other_18 rfl (lv_at hl 1 rfl) ?_
      refine lv_iload_n hx hb dX7_other_19 rfl (lv_at hl 2 rfl) ?_
      refine va_put (D := (dC, dI)) (ci := 7) (v := .int v) (ty := .int) (C := RX7) (T := TX7) (N := 42) hx hb htb inw7 tyX7 tyX7_ok nmX7 hown hK.1 hP (hDa _) hS 0 rfl rfl 11 (by decide) (htb _ wmt3_178) (fun _ h9 => h9) rfl (by decide +kernel) rfl rfl (Nat.le_of_ble_eq_true rfl) dX7_other_20 (fun H locs hP _ hS => ?_)
      have hP : va_P (dC, dI) vwCl (zM k q (sI z 11 v)) H := hP
      refine lv_iload_n hx hb dX7_other_23 rfl (lv_at hl 0 rfl) ?_
      exact W.iret (v := x_9) hx hb hr (fun t ht hW => ⟨⟨x_9, v, rfl, (show (MInv (sI z 11 v)) ∧ ((x_9, trM (sI z 11 v)) = tOther (trM z) v) from ⟨⟨hI.1, hI.2.1, (show 0 ≤ v.toInt ∧ v.toInt ≤ 24 by omega), hI.2.2.2.1, hI.2.2.2.2.1, hI.2.2.2.2.2⟩, tOther_ok (by omega) ex_9 trM_ot⟩), ⟨by rw [ht]; exact hP, hDa _⟩⟩, hS.F ht⟩) hS.2.2 dX7_other_24
    · skip
      exact absurd c_8 (by decide)
  · skip
    replace e_7 : r_1 = 0 := e_7
    subst e_7
    replace h_6 : ¬ ((0 : Int32).toInt ≤ v.toInt ∧ v.toInt ≤ (24 : Int32).toInt) := h_6
    rw [show (0 : Int32).toInt = 0 by decide, show (24 : Int32).toInt = 24 by decide] at h_6
    refine lv_if_ne (tgt := 13) hx hb dX7_other_7 (by decide) (fun c_10 => ?_) (fun c_10 => ?_)
    · skip
      exact absurd c_10 (by decide)
    · skip
      refine lv_bipush (v := (-2)) hx hb dX7_other_10 (by decide) ?_
      exact W.iret (v := (-2)) hx hb hr (fun t ht hW => ⟨⟨(-2), (z.1 11), rfl, (show (MInv (sI z 11 (z.1 11))) ∧ ((((-2) : Int32), trM (sI z 11 (z.1 11))) = tOther (trM z) v) from ⟨hI, tOther_bad (by omega)⟩), ⟨by rw [ht]; exact hP, hDa _⟩⟩, hS.F ht⟩) hS.2.2 dX7_other_12
set_option maxHeartbeats 4000000 in
set_option maxRecDepth 100000 in
theorem c_X7_pass (l : Launch) (dC : Nat → ClassId) (dI : Nat → Nat → Nat) (k : Nat → ClassId) (q : Nat → Nat) (z : ZS) (n : Int32) (sz : Nat) (hI : MInv z) : Met l yX7_pass (wz yX7_pass cX7_pass 2 (some .int)) ({ frames := 1, cells := 0, slots := 0, locals := 22 }) (va_Pc [.ref (q 0), .int n] (zPre dC dI k (zTX k) (zM k q z) sz)) (va_Qi (fun (r : Int32) (u : Int32) => (MInv (sI z 19 u)) ∧ ((r, trM (sI z 19 u)) = tPass (trM z) n)) (fun u t => zPost dC dI (va_A (zM k q z) sz) (zM k q (sI z 19 u)) t) (va_A (zM k q z) sz)) 0 0 (va_A (zM k q z) sz) := by
  refine Met.ofW (cc := cX7_pass) (maxL := 2) (ret := (some .int)) (by decide) rfl ?_
  intro p e s m args below meth c s₁ B hml hv
  obtain ⟨rfl, hsz, hP, hK, hD0⟩ := hv
  have hx := B.exec
  have hb := B.bytes
  have hr := B.returns
  have hts := atoms_spec (ws := wz yX7_pass cX7_pass 2 (some .int)) B.pre
  have htb : ∀ w ∈ zw, w.before _ s = true := fun w h => hts w (List.mem_cons_of_mem _ h)
  have hown : s.vm.findClass RX7 = some m.cls := findClass_of_methodNamed B.named
  have hlocks := B.notSynchronized
  clear hts
  subst hsz
  have hD := hD0.self (sz := s.heap.size)
  generalize hAe : va_A (zM k q z) s.heap.size = A at hD ⊢
  have hA : ∀ q : Nat, s.heap.size ≤ q → A q := fun q h => by rw [← hAe]; exact Or.inr h
  have hDa : ∀ z9 : ZS, va_D A (zM k q z9) := fun z9 => va_D_adr (w := zM k q z) rfl hD
  have hl := lv_entry ([.ref (q 0), .int n]) (n := 2) (Nat.le_of_ble_eq_true rfl)
  rw [lg_entry_eq]
  generalize (lg_sl ([.ref (q 0), .int n]) ++ List.replicate (2 - (lg_sl ([.ref (q 0), .int n])).length) Slot.unset).toArray = ls at hl ⊢
  have hl : lv_has ls 2 [(0, .ref (q 0)), (1, .int n)] := hl
  refine z_start2 (A := A) (w := (zM k q z)) hP (fun H locs hP hS => ?_)
  clear hD0 hAe
  have hdy := hI.2.1
  refine lv_iload_n hx hb dX7_pass_0 rfl (lv_at hl 1 rfl) ?_
  refine lv_iconst (v := 1) hx hb dX7_pass_1 (by decide) ?_
  refine lv_bipush (v := 100) hx hb dX7_pass_2 (by decide) ?_
  refine zc0_i (w := (zM k q z)) (va_runS (As := [.int n, .int 1, .int 100]) (rest := []) ⟨hx, hb, hml, hown, htb⟩ (c_X7_in l dC dI k n 1 100 _ ) (va_cwS 3 htb (gzS wmt4_62 wmt4_63 wmt1_8 wmt4_64) rfl rfl rfl (by decide +kernel) ⟨Nat.le_of_ble_eq_true rfl, Nat.le_of_ble_eq_true rfl⟩) (zp0_S hK) rfl rfl hl.1 rfl (lv_room (Nat.le_of_ble_eq_true rfl)) dX7_pass_4 ⟨Nat.le_of_ble_eq_true rfl, Nat.le_of_ble_eq_true rfl⟩) hP hS hA (fun r_1 u_2 H locs w_3 hP hS => ?_)
  rcases w_3 with ⟨e_5, h_4⟩ | ⟨e_7, h_6⟩
  · skip
    replace e_5 : r_1 = 1 := e_5
    subst e_5
    replace h_4 : (1 : Int32).toInt ≤ n.toInt ∧ n.toInt ≤ (100 : Int32).toInt := h_4
    rw [show (1 : Int32).toInt = 1 by decide, show (100 : Int32).toInt = 100 by decide] at h_4
    refine lv_if_eq (tgt := 22) hx hb dX7_pass_7 (by decide) (fun c_8 => ?_) (fun c_8 => ?_)
    · skip
      exact absurd c_8 (by decide)
    · skip
      refine lv_aload_n hx hb dX7_pass_10 rfl (lv_at hl 0 rfl) ?_
      refine va_get (D := (dC, dI)) (ci := 7) (v := .int (z.1 19)) (C := RX7) (T := TX7) (N := 42) hx hb htb inw7 hown hK.1 hP 0 rfl rfl 19 (by decide) (htb _ wmt3_186) (fun _ h9 => h9) rfl dX7_pass_11 ?_
      refine lv_topi (fun x_9 ex_9 => ?_)
      have hx_9 : x_9.toInt = (z.1 19).toInt := by rw [ex_9]
      refine lv_iload_n hx hb dX7_pass_14 rfl (lv_at hl 1 rfl) ?_
      refine lv_iadd hx hb dX7_pass_15 ?_
      refine lv_topi (fun x_10 ex_10 => ?_)
      have hx_10 := z_add ex_10 rfl rfl (by omega)
      refine lv_sipush (v := 399) hx hb dX7_pass_16 (by decide) ?_
      refine lv_icmp_le (tgt := 25) hx hb dX7_pass_19 (by decide) (fun c_11 => ?_) (fun c_11 => ?_)
      · skip
        have hc_11 := zb_le rfl (show (399 : Int32).toInt = 399 by decide) c_11
        refine lv_aload_n hx hb dX7_pass_25 rfl (lv_at hl 0 rfl) ?_
        refine lv_dup hx hb dX7_pass_26 rfl ?_
        refine va_get (D := (dC, dI)) (ci := 7) (v := .int (z.1 19)) (C := RX7) (T := TX7) (N := 42) hx hb htb inw7 hown hK.1 hP 0 rfl rfl 19 (by decide) (htb _ wmt3_186) (fun _ h9 => h9) rfl dX7_pass_27 ?_
        refine z_top (v2 := .int x_9) (congrArg Value.int ex_9.symm) ?_
        refine lv_iload_n hx hb dX7_pass_30 rfl (lv_at hl 1 rfl) ?_
        refine lv_iadd hx hb dX7_pass_31 ?_
        refine lv_topi (fun x_12 ex_12 => ?_)
        have hx_12 := z_add ex_12 rfl rfl (by omega)
        refine va_put (D := (dC, dI)) (ci := 7) (v := .int x_12) (ty := .int) (C := RX7) (T := TX7) (N := 42) hx hb htb inw7 tyX7 tyX7_ok nmX7 hown hK.1 hP (hDa _) hS 0 rfl rfl 19 (by decide) (htb _ wmt3_186) (fun _ h9 => h9) rfl (by decide +kernel) rfl rfl (Nat.le_of_ble_eq_true rfl) dX7_pass_32 (fun H locs hP _ hS => ?_)
        have hP : va_P (dC, dI) vwCl (zM k q (sI z 19 x_12)) H := hP
        refine lv_aload_n hx hb dX7_pass_35 rfl (lv_at hl 0 rfl) ?_
        refine va_get (D := (dC, dI)) (ci := 7) (v := .int x_12) (C := RX7) (T := TX7) (N := 42) hx hb htb inw7 hown hK.1 hP 0 rfl rfl 19 (by decide) (htb _ wmt3_186) (fun _ h9 => h9) rfl dX7_pass_36 ?_
        exact W.iret (v := x_12) hx hb hr (fun t ht hW => ⟨⟨x_12, x_12, rfl, (show (MInv (sI z 19 x_12)) ∧ ((x_12, trM (sI z 19 x_12)) = tPass (trM z) n) from ⟨⟨hI.1, (show 0 ≤ x_12.toInt ∧ x_12.toInt ≤ 399 by omega), hI.2.2.1, hI.2.2.2.1, hI.2.2.2.2.1, hI.2.2.2.2.2⟩, tPass_ok (x := z.1 19) rfl (by omega) (by rw [ex_12, ex_9]) rfl⟩), ⟨by rw [ht]; exact hP, hDa _⟩⟩, hS.F ht⟩) hS.2.2 dX7_pass_39
      · skip
        have hc_11 := zb_nle rfl (show (399 : Int32).toInt = 399 by decide) c_11
        refine lv_bipush (v := (-2)) hx hb dX7_pass_22 (by decide) ?_
        exact W.iret (v := (-2)) hx hb hr (fun t ht hW => ⟨⟨(-2), (z.1 19), rfl, (show (MInv (sI z 19 (z.1 19))) ∧ ((((-2) : Int32), trM (sI z 19 (z.1 19))) = tPass (trM z) n) from ⟨hI, tPass_bad (x := z.1 19) rfl (by omega)⟩), ⟨by rw [ht]; exact hP, hDa _⟩⟩, hS.F ht⟩) hS.2.2 dX7_pass_24
  · skip
    replace e_7 : r_1 = 0 := e_7
    subst e_7
    replace h_6 : ¬ ((1 : Int32).toInt ≤ n.toInt ∧ n.toInt ≤ (100 : Int32).toInt) := h_6
    rw [show (1 : Int32).toInt = 1 by decide, show (100 : Int32).toInt = 100 by decide] at h_6
    refine lv_if_eq (tgt := 22) hx hb dX7_pass_7 (by decide) (fun c_13 => ?_) (fun c_13 => ?_)
    · skip
      refine lv_bipush (v := (-2)) hx hb dX7_pass_22 (by decide) ?_
      exact W.iret (v := (-2)) hx hb hr (fun t ht hW => ⟨⟨(-2), (z.1 19), rfl, (show (MInv (sI z 19 (z.1 19))) ∧ ((((-2) : Int32), trM (sI z 19 (z.1 19))) = tPass (trM z) n) from ⟨hI, tPass_bad (x := z.1 19) rfl (by omega)⟩), ⟨by rw [ht]; exact hP, hDa _⟩⟩, hS.F ht⟩) hS.2.2 dX7_pass_24
    · skip
      exact absurd (by decide) c_13
set_option maxHeartbeats 4000000 in
set_option maxRecDepth 100000 in
theorem c_X7_group (l : Launch) (dC : Nat → ClassId) (dI : Nat → Nat → Nat) (k : Nat → ClassId) (q : Nat → Nat) (z : ZS) (pe : Int32) (g : Int32) (sz : Nat) (hI : MInv z) : Met l yX7_group (wz yX7_group cX7_group 4 (some .int)) ({ frames := 2, cells := 0, slots := 0, locals := 42 }) (va_Pc [.ref (q 0), .int pe, .int g] (zPre dC dI k (zTX k) (zM k q z) sz)) (va_Qi (fun (r : Int32) (u : (Nat → Int32)) => (MInv (sA z 21 u)) ∧ ((r, trM (sA z 21 u)) = tGroup (trM z) pe g)) (fun u t => zPost dC dI (va_A (zM k q z) sz) (zM k q (sA z 21 u)) t) (va_A (zM k q z) sz)) 0 0 (va_A (zM k q z) sz) := by
  refine Met.ofW (cc := cX7_group) (maxL := 4) (ret := (some .int)) (by decide) rfl ?_
  intro p e s m args below meth c s₁ B hml hv
  obtain ⟨rfl, hsz, hP, hK, hD0⟩ := hv
  have hx := B.exec
  have hb := B.bytes
  have hr := B.returns
  have hts := atoms_spec (ws := wz yX7_group cX7_group 4 (some .int)) B.pre
  have htb : ∀ w ∈ zw, w.before _ s = true := fun w h => hts w (List.mem_cons_of_mem _ h)
  have hown : s.vm.findClass RX7 = some m.cls := findClass_of_methodNamed B.named
  have hlocks := B.notSynchronized
  clear hts
  subst hsz
  have hD := hD0.self (sz := s.heap.size)
  generalize hAe : va_A (zM k q z) s.heap.size = A at hD ⊢
  have hA : ∀ q : Nat, s.heap.size ≤ q → A q := fun q h => by rw [← hAe]; exact Or.inr h
  have hDa : ∀ z9 : ZS, va_D A (zM k q z9) := fun z9 => va_D_adr (w := zM k q z) rfl hD
  have hl := lv_entry ([.ref (q 0), .int pe, .int g]) (n := 4) (Nat.le_of_ble_eq_true rfl)
  rw [lg_entry_eq]
  generalize (lg_sl ([.ref (q 0), .int pe, .int g]) ++ List.replicate (4 - (lg_sl ([.ref (q 0), .int pe, .int g])).length) Slot.unset).toArray = ls at hl ⊢
  have hl : lv_has ls 4 [(0, .ref (q 0)), (1, .int pe), (2, .int g)] := hl
  refine z_start2 (A := A) (w := (zM k q z)) hP (fun H locs hP hS => ?_)
  clear hD0 hAe
  refine lv_iload_n hx hb dX7_group_0 rfl (lv_at hl 1 rfl) ?_
  refine zc0_i (w := (zM k q z)) (va_runS (As := [.int pe]) (rest := []) ⟨hx, hb, hml, hown, htb⟩ (c_X7_isPerson l dC dI k pe _ ) (va_cwS 1 htb (gzS wmt4_153 wmt4_154 wmt1_8 wmt4_155) rfl rfl rfl (by decide +kernel) ⟨Nat.le_of_ble_eq_true rfl, Nat.le_of_ble_eq_true rfl⟩) (zp0_S hK) rfl rfl hl.1 rfl (lv_room (Nat.le_of_ble_eq_true rfl)) dX7_group_1 ⟨Nat.le_of_ble_eq_true rfl, Nat.le_of_ble_eq_true rfl⟩) hP hS hA (fun r_1 u_2 H locs w_3 hP hS => ?_)
  rcases w_3 with ⟨e_5, h_4⟩ | ⟨e_7, h_6⟩
  · skip
    replace e_5 : r_1 = 1 := e_5
    subst e_5
    replace h_4 : 0 ≤ pe.toInt ∧ pe.toInt < 24 := h_4
    refine lv_if_eq (tgt := 14) hx hb dX7_group_4 (by decide) (fun c_8 => ?_) (fun c_8 => ?_)
    · skip
      exact absurd c_8 (by decide)
    · skip
      refine lv_iload_n hx hb dX7_group_7 rfl (lv_at hl 2 rfl) ?_
      refine zc0_i (w := (zM k q z)) (va_runS (As := [.int g]) (rest := []) ⟨hx, hb, hml, hown, htb⟩ (c_X7_isGroup l dC dI k g _ ) (va_cwS 1 htb (gzS wmt4_156 wmt4_157 wmt1_8 wmt4_158) rfl rfl rfl (by decide +kernel) ⟨Nat.le_of_ble_eq_true rfl, Nat.le_of_ble_eq_true rfl⟩) (zp0_S hK) rfl rfl hl.1 rfl (lv_room (Nat.le_of_ble_eq_true rfl)) dX7_group_8 ⟨Nat.le_of_ble_eq_true rfl, Nat.le_of_ble_eq_true rfl⟩) hP hS hA (fun r_9 u_10 H locs w_11 hP hS => ?_)
      rcases w_11 with ⟨e_13, h_12⟩ | ⟨e_15, h_14⟩
      · skip
        replace e_13 : r_9 = 1 := e_13
        subst e_13
        replace h_12 : 0 ≤ g.toInt ∧ g.toInt < 4 := h_12
        refine lv_if_ne (tgt := 17) hx hb dX7_group_11 (by decide) (fun c_16 => ?_) (fun c_16 => ?_)
        · skip
          refine lv_aload_n hx hb dX7_group_17 rfl (lv_at hl 0 rfl) ?_
          refine va_get (D := (dC, dI)) (ci := 7) (v := .ref (q 21)) (C := RX7) (T := TX7) (N := 42) hx hb htb inw7 hown hK.1 hP 0 rfl rfl 21 (by decide) (htb _ wmt3_188) (fun _ h9 => h9) rfl dX7_group_18 ?_
          refine lv_iload_n hx hb dX7_group_21 rfl (lv_at hl 1 rfl) ?_
          refine va_iald (D := (dC, dI)) hx hb hK.1 hP 13 0 rfl rfl (z_in (by omega)) dX7_group_22 ?_
          refine lv_topi (fun x_17 ex_17 => ?_)
          refine lv_istore_n (lv' := [(3, .int x_17), (0, .ref (q 0)), (1, .int pe), (2, .int g)]) hx hb dX7_group_23 rfl hl (by decide) rfl (fun ls hl => ?_)
          refine lv_aload_n hx hb dX7_group_24 rfl (lv_at hl 1 rfl) ?_
          refine va_get (D := (dC, dI)) (ci := 7) (v := .ref (q 21)) (C := RX7) (T := TX7) (N := 42) hx hb htb inw7 hown hK.1 hP 0 rfl rfl 21 (by decide) (htb _ wmt3_188) (fun _ h9 => h9) rfl dX7_group_25 ?_
          refine lv_iload_n hx hb dX7_group_28 rfl (lv_at hl 2 rfl) ?_
          refine lv_iload_n hx hb dX7_group_29 rfl (lv_at hl 3 rfl) ?_
          refine va_iast (D := (dC, dI)) hx hb hK.1 hP (hDa _) hS 13 0 rfl rfl (z_in (by omega)) dX7_group_30 (fun H locs hP _ hS => ?_)
          obtain ⟨f_18, ef_18⟩ : ∃ x : Nat → Int32, x = upd (z.2.2.1 21) pe.toNatClampNeg g := ⟨_, rfl⟩
          have hP : va_P (dC, dI) vwCl (zM k q (sA z 21 f_18)) H := by rw [ef_18]; exact hP
          refine lv_iload_n hx hb dX7_group_31 rfl (lv_at hl 0 rfl) ?_
          exact W.iret (v := x_17) hx hb hr (fun t ht hW => ⟨⟨x_17, f_18, rfl, (show (MInv (sA z 21 f_18)) ∧ ((x_17, trM (sA z 21 f_18)) = tGroup (trM z) pe g) from ⟨hI, tGroup_ok (by omega) ex_17 ef_18 rfl⟩), ⟨by rw [ht]; exact hP, hDa _⟩⟩, hS.F ht⟩) hS.2.2 dX7_group_32
        · skip
          exact absurd c_16 (by decide)
      · skip
        replace e_15 : r_9 = 0 := e_15
        subst e_15
        replace h_14 : ¬ (0 ≤ g.toInt ∧ g.toInt < 4) := h_14
        refine lv_if_ne (tgt := 17) hx hb dX7_group_11 (by decide) (fun c_19 => ?_) (fun c_19 => ?_)
        · skip
          exact absurd c_19 (by decide)
        · skip
          refine lv_bipush (v := (-2)) hx hb dX7_group_14 (by decide) ?_
          exact W.iret (v := (-2)) hx hb hr (fun t ht hW => ⟨⟨(-2), (z.2.2.1 21), rfl, (show (MInv (sA z 21 (z.2.2.1 21))) ∧ ((((-2) : Int32), trM (sA z 21 (z.2.2.1 21))) = tGroup (trM z) pe g) from ⟨hI, tGroup_bad (by omega)⟩), ⟨by rw [ht]; exact hP, hDa _⟩⟩, hS.F ht⟩) hS.2.2 dX7_group_16
  · skip
    replace e_7 : r_1 = 0 := e_7
    subst e_7
    replace h_6 : ¬ (0 ≤ pe.toInt ∧ pe.toInt < 24) := h_6
    refine lv_if_eq (tgt := 14) hx hb dX7_group_4 (by decide) (fun c_20 => ?_) (fun c_20 => ?_)
    · skip
      refine lv_bipush (v := (-2)) hx hb dX7_group_14 (by decide) ?_
      exact W.iret (v := (-2)) hx hb hr (fun t ht hW => ⟨⟨(-2), (z.2.2.1 21), rfl, (show (MInv (sA z 21 (z.2.2.1 21))) ∧ ((((-2) : Int32), trM (sA z 21 (z.2.2.1 21))) = tGroup (trM z) pe g) from ⟨hI, tGroup_bad (by omega)⟩), ⟨by rw [ht]; exact hP, hDa _⟩⟩, hS.F ht⟩) hS.2.2 dX7_group_16
    · skip
      exact absurd (by decide) c_20
set_option maxHeartbeats 4000000 in
set_option maxRecDepth 100000 in
theorem c_X7_asOf (l : Launch) (dC : Nat → ClassId) (dI : Nat → Nat → Nat) (k : Nat → ClassId) (q : Nat → Nat) (z : ZS) (v : Int32) (sz : Nat) (hI : MInv z) : Met l yX7_asOf (wz yX7_asOf cX7_asOf 3 (some .int)) ({ frames := 1, cells := 0, slots := 0, locals := 22 }) (va_Pc [.ref (q 0), .int v] (zPre dC dI k (zTX k) (zM k q z) sz)) (va_Qi (fun (r : Int32) (u : Int32) => (MInv (sI z 20 u)) ∧ ((r, trM (sI z 20 u)) = tAsOf (trM z) v)) (fun u t => zPost dC dI (va_A (zM k q z) sz) (zM k q (sI z 20 u)) t) (va_A (zM k q z) sz)) 0 0 (va_A (zM k q z) sz) := by
  refine Met.ofW (cc := cX7_asOf) (maxL := 3) (ret := (some .int)) (by decide) rfl ?_
  intro p e s m args below meth c s₁ B hml hv
  obtain ⟨rfl, hsz, hP, hK, hD0⟩ := hv
  have hx := B.exec
  have hb := B.bytes
  have hr := B.returns
  have hts := atoms_spec (ws := wz yX7_asOf cX7_asOf 3 (some .int)) B.pre
  have htb : ∀ w ∈ zw, w.before _ s = true := fun w h => hts w (List.mem_cons_of_mem _ h)
  have hown : s.vm.findClass RX7 = some m.cls := findClass_of_methodNamed B.named
  have hlocks := B.notSynchronized
  clear hts
  subst hsz
  have hD := hD0.self (sz := s.heap.size)
  generalize hAe : va_A (zM k q z) s.heap.size = A at hD ⊢
  have hA : ∀ q : Nat, s.heap.size ≤ q → A q := fun q h => by rw [← hAe]; exact Or.inr h
  have hDa : ∀ z9 : ZS, va_D A (zM k q z9) := fun z9 => va_D_adr (w := zM k q z) rfl hD
  have hl := lv_entry ([.ref (q 0), .int v]) (n := 3) (Nat.le_of_ble_eq_true rfl)
  rw [lg_entry_eq]
  generalize (lg_sl ([.ref (q 0), .int v]) ++ List.replicate (3 - (lg_sl ([.ref (q 0), .int v])).length) Slot.unset).toArray = ls at hl ⊢
  have hl : lv_has ls 3 [(0, .ref (q 0)), (1, .int v)] := hl
  refine z_start2 (A := A) (w := (zM k q z)) hP (fun H locs hP hS => ?_)
  clear hD0 hAe
  have hdy := hI.2.1
  refine lv_iload_n hx hb dX7_asOf_0 rfl (lv_at hl 1 rfl) ?_
  refine lv_iconst (v := (-1)) hx hb dX7_asOf_1 (by decide) ?_
  refine lv_aload_n hx hb dX7_asOf_2 rfl (lv_at hl 0 rfl) ?_
  refine va_get (D := (dC, dI)) (ci := 7) (v := .int (z.1 19)) (C := RX7) (T := TX7) (N := 42) hx hb htb inw7 hown hK.1 hP 0 rfl rfl 19 (by decide) (htb _ wmt3_186) (fun _ h9 => h9) rfl dX7_asOf_3 ?_
  refine lv_topi (fun x_1 ex_1 => ?_)
  have hx_1 : x_1.toInt = (z.1 19).toInt := by rw [ex_1]
  refine zc0_i (w := (zM k q z)) (va_runS (As := [.int v, .int (-1), .int x_1]) (rest := []) ⟨hx, hb, hml, hown, htb⟩ (c_X7_in l dC dI k v (-1) x_1 _ ) (va_cwS 3 htb (gzS wmt4_62 wmt4_63 wmt1_8 wmt4_64) rfl rfl rfl (by decide +kernel) ⟨Nat.le_of_ble_eq_true rfl, Nat.le_of_ble_eq_true rfl⟩) (zp0_S hK) rfl rfl hl.1 rfl (lv_room (Nat.le_of_ble_eq_true rfl)) dX7_asOf_6 ⟨Nat.le_of_ble_eq_true rfl, Nat.le_of_ble_eq_true rfl⟩) hP hS hA (fun r_2 u_3 H locs w_4 hP hS => ?_)
  rcases w_4 with ⟨e_6, h_5⟩ | ⟨e_8, h_7⟩
  · skip
    replace e_6 : r_2 = 1 := e_6
    subst e_6
    replace h_5 : ((-1) : Int32).toInt ≤ v.toInt ∧ v.toInt ≤ x_1.toInt := h_5
    rw [show ((-1) : Int32).toInt = (-1) by decide] at h_5
    refine lv_if_ne (tgt := 15) hx hb dX7_asOf_9 (by decide) (fun c_9 => ?_) (fun c_9 => ?_)
    · skip
      refine lv_aload_n hx hb dX7_asOf_15 rfl (lv_at hl 0 rfl) ?_
      refine va_get (D := (dC, dI)) (ci := 7) (v := .int (z.1 20)) (C := RX7) (T := TX7) (N := 42) hx hb htb inw7 hown hK.1 hP 0 rfl rfl 20 (by decide) (htb _ wmt3_187) (fun _ h9 => h9) rfl dX7_asOf_16 ?_
      refine lv_topi (fun x_10 ex_10 => ?_)
      have hx_10 : x_10.toInt = (z.1 20).toInt := by rw [ex_10]
      refine lv_istore_n (lv' := [(2, .int x_10), (0, .ref (q 0)), (1, .int v)]) hx hb dX7_asOf_19 rfl hl (by decide) rfl (fun ls hl => ?_)
      refine lv_aload_n hx hb dX7_asOf_20 rfl (lv_at hl 1 rfl) ?_
      refine lv_iload_n hx hb dX7_asOf_21 rfl (lv_at hl 2 rfl) ?_
      refine va_put (D := (dC, dI)) (ci := 7) (v := .int v) (ty := .int) (C := RX7) (T := TX7) (N := 42) hx hb htb inw7 tyX7 tyX7_ok nmX7 hown hK.1 hP (hDa _) hS 0 rfl rfl 20 (by decide) (htb _ wmt3_187) (fun _ h9 => h9) rfl (by decide +kernel) rfl rfl (Nat.le_of_ble_eq_true rfl) dX7_asOf_22 (fun H locs hP _ hS => ?_)
      have hP : va_P (dC, dI) vwCl (zM k q (sI z 20 v)) H := hP
      refine lv_iload_n hx hb dX7_asOf_25 rfl (lv_at hl 0 rfl) ?_
      exact W.iret (v := x_10) hx hb hr (fun t ht hW => ⟨⟨x_10, v, rfl, (show (MInv (sI z 20 v)) ∧ ((x_10, trM (sI z 20 v)) = tAsOf (trM z) v) from ⟨hI, tAsOf_ok (x := z.1 19) rfl (by omega) ex_10 rfl⟩), ⟨by rw [ht]; exact hP, hDa _⟩⟩, hS.F ht⟩) hS.2.2 dX7_asOf_26
    · skip
      exact absurd c_9 (by decide)
  · skip
    replace e_8 : r_2 = 0 := e_8
    subst e_8
    replace h_7 : ¬ (((-1) : Int32).toInt ≤ v.toInt ∧ v.toInt ≤ x_1.toInt) := h_7
    rw [show ((-1) : Int32).toInt = (-1) by decide] at h_7
    refine lv_if_ne (tgt := 15) hx hb dX7_asOf_9 (by decide) (fun c_11 => ?_) (fun c_11 => ?_)
    · skip
      exact absurd c_11 (by decide)
    · skip
      refine lv_bipush (v := (-2)) hx hb dX7_asOf_12 (by decide) ?_
      exact W.iret (v := (-2)) hx hb hr (fun t ht hW => ⟨⟨(-2), (z.1 20), rfl, (show (MInv (sI z 20 (z.1 20))) ∧ ((((-2) : Int32), trM (sI z 20 (z.1 20))) = tAsOf (trM z) v) from ⟨hI, tAsOf_bad (x := z.1 19) rfl (by omega)⟩), ⟨by rw [ht]; exact hP, hDa _⟩⟩, hS.F ht⟩) hS.2.2 dX7_asOf_14
set_option maxHeartbeats 4000000 in
set_option maxRecDepth 100000 in
theorem c_X7_limit (l : Launch) (dC : Nat → ClassId) (dI : Nat → Nat → Nat) (k : Nat → ClassId) (q : Nat → Nat) (z : ZS) (v : Int32) (sz : Nat) (hI : MInv z) : Met l yX7_limit (wz yX7_limit cX7_limit 3 (some .int)) ({ frames := 1, cells := 0, slots := 0, locals := 22 }) (va_Pc [.ref (q 0), .int v] (zPre dC dI k (zTX k) (zM k q z) sz)) (va_Qi (fun (r : Int32) (u : Int32) => (MInv (sI z 35 u)) ∧ ((r, trM (sI z 35 u)) = tLimit (trM z) v)) (fun u t => zPost dC dI (va_A (zM k q z) sz) (zM k q (sI z 35 u)) t) (va_A (zM k q z) sz)) 0 0 (va_A (zM k q z) sz) := by
  refine Met.ofW (cc := cX7_limit) (maxL := 3) (ret := (some .int)) (by decide) rfl ?_
  intro p e s m args below meth c s₁ B hml hv
  obtain ⟨rfl, hsz, hP, hK, hD0⟩ := hv
  have hx := B.exec
  have hb := B.bytes
  have hr := B.returns
  have hts := atoms_spec (ws := wz yX7_limit cX7_limit 3 (some .int)) B.pre
  have htb : ∀ w ∈ zw, w.before _ s = true := fun w h => hts w (List.mem_cons_of_mem _ h)
  have hown : s.vm.findClass RX7 = some m.cls := findClass_of_methodNamed B.named
  have hlocks := B.notSynchronized
  clear hts
  subst hsz
  have hD := hD0.self (sz := s.heap.size)
  generalize hAe : va_A (zM k q z) s.heap.size = A at hD ⊢
  have hA : ∀ q : Nat, s.heap.size ≤ q → A q := fun q h => by rw [← hAe]; exact Or.inr h
  have hDa : ∀ z9 : ZS, va_D A (zM k q z9) := fun z9 => va_D_adr (w := zM k q z) rfl hD
  have hl := lv_entry ([.ref (q 0), .int v]) (n := 3) (Nat.le_of_ble_eq_true rfl)
  rw [lg_entry_eq]
  generalize (lg_sl ([.ref (q 0), .int v]) ++ List.replicate (3 - (lg_sl ([.ref (q 0), .int v])).length) Slot.unset).toArray = ls at hl ⊢
  have hl : lv_has ls 3 [(0, .ref (q 0)), (1, .int v)] := hl
  refine z_start2 (A := A) (w := (zM k q z)) hP (fun H locs hP hS => ?_)
  clear hD0 hAe
  refine lv_iload_n hx hb dX7_limit_0 rfl (lv_at hl 1 rfl) ?_
  refine lv_iconst (v := 1) hx hb dX7_limit_1 (by decide) ?_
  refine lv_sipush (v := 1000) hx hb dX7_limit_2 (by decide) ?_
  refine zc0_i (w := (zM k q z)) (va_runS (As := [.int v, .int 1, .int 1000]) (rest := []) ⟨hx, hb, hml, hown, htb⟩ (c_X7_in l dC dI k v 1 1000 _ ) (va_cwS 3 htb (gzS wmt4_62 wmt4_63 wmt1_8 wmt4_64) rfl rfl rfl (by decide +kernel) ⟨Nat.le_of_ble_eq_true rfl, Nat.le_of_ble_eq_true rfl⟩) (zp0_S hK) rfl rfl hl.1 rfl (lv_room (Nat.le_of_ble_eq_true rfl)) dX7_limit_5 ⟨Nat.le_of_ble_eq_true rfl, Nat.le_of_ble_eq_true rfl⟩) hP hS hA (fun r_1 u_2 H locs w_3 hP hS => ?_)
  rcases w_3 with ⟨e_5, h_4⟩ | ⟨e_7, h_6⟩
  · skip
    replace e_5 : r_1 = 1 := e_5
    subst e_5
    replace h_4 : (1 : Int32).toInt ≤ v.toInt ∧ v.toInt ≤ (1000 : Int32).toInt := h_4
    rw [show (1 : Int32).toInt = 1 by decide, show (1000 : Int32).toInt = 1000 by decide] at h_4
    refine lv_if_ne (tgt := 14) hx hb dX7_limit_8 (by decide) (fun c_8 => ?_) (fun c_8 => ?_)
    · skip
      refine lv_aload_n hx hb dX7_limit_14 rfl (lv_at hl 0 rfl) ?_
      refine va_get (D := (dC, dI)) (ci := 7) (v := .int (z.1 35)) (C := RX7) (T := TX7) (N := 42) hx hb htb inw7 hown hK.1 hP 0 rfl rfl 35 (by decide) (htb _ wmt3_202) (fun _ h9 => h9) rfl dX7_limit_15 ?_
      refine lv_topi (fun x_9 ex_9 => ?_)
      have hx_9 : x_9.toInt = (z.1 35).toInt := by rw [ex_9]
      refine lv_istore_n (lv' := [(2, .int x_9), (0, .ref (q 0)), (1, .int v)]) hx hb dX7_limit_18 rfl hl (by decide) rfl (fun ls hl => ?_)
      refine lv_aload_n hx hb dX7_limit_19 rfl (lv_at hl 1 rfl) ?_
      refine lv_iload_n hx hb dX7_limit_20 rfl (lv_at hl 2 rfl) ?_
      refine va_put (D := (dC, dI)) (ci := 7) (v := .int v) (ty := .int) (C := RX7) (T := TX7) (N := 42) hx hb htb inw7 tyX7 tyX7_ok nmX7 hown hK.1 hP (hDa _) hS 0 rfl rfl 35 (by decide) (htb _ wmt3_202) (fun _ h9 => h9) rfl (by decide +kernel) rfl rfl (Nat.le_of_ble_eq_true rfl) dX7_limit_21 (fun H locs hP _ hS => ?_)
      have hP : va_P (dC, dI) vwCl (zM k q (sI z 35 v)) H := hP
      refine lv_iload_n hx hb dX7_limit_24 rfl (lv_at hl 0 rfl) ?_
      exact W.iret (v := x_9) hx hb hr (fun t ht hW => ⟨⟨x_9, v, rfl, (show (MInv (sI z 35 v)) ∧ ((x_9, trM (sI z 35 v)) = tLimit (trM z) v) from ⟨hI, tLimit_ok (by omega) ex_9 rfl⟩), ⟨by rw [ht]; exact hP, hDa _⟩⟩, hS.F ht⟩) hS.2.2 dX7_limit_25
    · skip
      exact absurd c_8 (by decide)
  · skip
    replace e_7 : r_1 = 0 := e_7
    subst e_7
    replace h_6 : ¬ ((1 : Int32).toInt ≤ v.toInt ∧ v.toInt ≤ (1000 : Int32).toInt) := h_6
    rw [show (1 : Int32).toInt = 1 by decide, show (1000 : Int32).toInt = 1000 by decide] at h_6
    refine lv_if_ne (tgt := 14) hx hb dX7_limit_8 (by decide) (fun c_10 => ?_) (fun c_10 => ?_)
    · skip
      exact absurd c_10 (by decide)
    · skip
      refine lv_bipush (v := (-2)) hx hb dX7_limit_11 (by decide) ?_
      exact W.iret (v := (-2)) hx hb hr (fun t ht hW => ⟨⟨(-2), (z.1 35), rfl, (show (MInv (sI z 35 (z.1 35))) ∧ ((((-2) : Int32), trM (sI z 35 (z.1 35))) = tLimit (trM z) v) from ⟨hI, tLimit_bad (by omega)⟩), ⟨by rw [ht]; exact hP, hDa _⟩⟩, hS.F ht⟩) hS.2.2 dX7_limit_13
set_option maxHeartbeats 4000000 in
set_option maxRecDepth 100000 in
theorem c_X7_answersBy (l : Launch) (dC : Nat → ClassId) (dI : Nat → Nat → Nat) (k : Nat → ClassId) (q : Nat → Nat) (z : ZS) (pe : Int32) (d : Int32) (y : Int32) (sz : Nat) (hI : MInv z) : Met l yX7_answersBy (wz yX7_answersBy cX7_answersBy 4 (some .int)) ({ frames := 5, cells := 0, slots := 0, locals := 114 }) (va_Pc [.ref (q 0), .int pe, .int d, .int y] (zPre dC dI k (zTX k) (zM k q z) sz)) (va_Qi (fun (r : Int32) (u : (Nat → Int32) × (Nat → Int32) × (Nat → Int32) × (Nat → Int32) × (Nat → Int32) × (Nat → Int32) × (Nat → Int32) × Int32 × Int32 × Int32 × Int32 × (Nat → Int32) × (Nat → Int32) × (Nat → Int32) × Int32 × (Nat → Int32) × (Nat → Int32) × (Nat → Int32) × (Nat → Int32) × (Nat → Int32)) => (MInv (sA (sA (sA (sA (sA (sI (sA (sA (sA (sI (sI (sI (sI (sA (sA (sA (sA (sA (sA (sA z 4 u.1) 5 u.2.1) 6 u.2.2.1) 7 u.2.2.2.1) 8 u.2.2.2.2.1) 9 u.2.2.2.2.2.1) 10 u.2.2.2.2.2.2.1) 12 u.2.2.2.2.2.2.2.1) 13 u.2.2.2.2.2.2.2.2.1) 14 u.2.2.2.2.2.2.2.2.2.1) 15 u.2.2.2.2.2.2.2.2.2.2.1) 16 u.2.2.2.2.2.2.2.2.2.2.2.1) 17 u.2.2.2.2.2.2.2.2.2.2.2.2.1) 18 u.2.2.2.2.2.2.2.2.2.2.2.2.2.1) 22 u.2.2.2.2.2.2.2.2.2.2.2.2.2.2.1) 23 u.2.2.2.2.2.2.2.2.2.2.2.2.2.2.2.1) 24 u.2.2.2.2.2.2.2.2.2.2.2.2.2.2.2.2.1) 25 u.2.2.2.2.2.2.2.2.2.2.2.2.2.2.2.2.2.1) 26 u.2.2.2.2.2.2.2.2.2.2.2.2.2.2.2.2.2.2.1) 27 u.2.2.2.2.2.2.2.2.2.2.2.2.2.2.2.2.2.2.2)) ∧ ((r, trM (sA (sA (sA (sA (sA (sI (sA (sA (sA (sI (sI (sI (sI (sA (sA (sA (sA (sA (sA (sA z 4 u.1) 5 u.2.1) 6 u.2.2.1) 7 u.2.2.2.1) 8 u.2.2.2.2.1) 9 u.2.2.2.2.2.1) 10 u.2.2.2.2.2.2.1) 12 u.2.2.2.2.2.2.2.1) 13 u.2.2.2.2.2.2.2.2.1) 14 u.2.2.2.2.2.2.2.2.2.1) 15 u.2.2.2.2.2.2.2.2.2.2.1) 16 u.2.2.2.2.2.2.2.2.2.2.2.1) 17 u.2.2.2.2.2.2.2.2.2.2.2.2.1) 18 u.2.2.2.2.2.2.2.2.2.2.2.2.2.1) 22 u.2.2.2.2.2.2.2.2.2.2.2.2.2.2.1) 23 u.2.2.2.2.2.2.2.2.2.2.2.2.2.2.2.1) 24 u.2.2.2.2.2.2.2.2.2.2.2.2.2.2.2.2.1) 25 u.2.2.2.2.2.2.2.2.2.2.2.2.2.2.2.2.2.1) 26 u.2.2.2.2.2.2.2.2.2.2.2.2.2.2.2.2.2.2.1) 27 u.2.2.2.2.2.2.2.2.2.2.2.2.2.2.2.2.2.2.2)) = tAns (trM z) pe d y)) (fun u t => zPost dC dI (va_A (zM k q z) sz) (zM k q (sA (sA (sA (sA (sA (sI (sA (sA (sA (sI (sI (sI (sI (sA (sA (sA (sA (sA (sA (sA z 4 u.1) 5 u.2.1) 6 u.2.2.1) 7 u.2.2.2.1) 8 u.2.2.2.2.1) 9 u.2.2.2.2.2.1) 10 u.2.2.2.2.2.2.1) 12 u.2.2.2.2.2.2.2.1) 13 u.2.2.2.2.2.2.2.2.1) 14 u.2.2.2.2.2.2.2.2.2.1) 15 u.2.2.2.2.2.2.2.2.2.2.1) 16 u.2.2.2.2.2.2.2.2.2.2.2.1) 17 u.2.2.2.2.2.2.2.2.2.2.2.2.1) 18 u.2.2.2.2.2.2.2.2.2.2.2.2.2.1) 22 u.2.2.2.2.2.2.2.2.2.2.2.2.2.2.1) 23 u.2.2.2.2.2.2.2.2.2.2.2.2.2.2.2.1) 24 u.2.2.2.2.2.2.2.2.2.2.2.2.2.2.2.2.1) 25 u.2.2.2.2.2.2.2.2.2.2.2.2.2.2.2.2.2.1) 26 u.2.2.2.2.2.2.2.2.2.2.2.2.2.2.2.2.2.2.1) 27 u.2.2.2.2.2.2.2.2.2.2.2.2.2.2.2.2.2.2.2)) t) (va_A (zM k q z) sz)) 0 0 (va_A (zM k q z) sz) := by
  refine Met.ofW (cc := cX7_answersBy) (maxL := 4) (ret := (some .int)) (by decide) rfl ?_
  intro p e s m args below meth c s₁ B hml hv
  obtain ⟨rfl, hsz, hP, hK, hD0⟩ := hv
  have hx := B.exec
  have hb := B.bytes
  have hr := B.returns
  have hts := atoms_spec (ws := wz yX7_answersBy cX7_answersBy 4 (some .int)) B.pre
  have htb : ∀ w ∈ zw, w.before _ s = true := fun w h => hts w (List.mem_cons_of_mem _ h)
  have hown : s.vm.findClass RX7 = some m.cls := findClass_of_methodNamed B.named
  have hlocks := B.notSynchronized
  clear hts
  subst hsz
  have hD := hD0.self (sz := s.heap.size)
  generalize hAe : va_A (zM k q z) s.heap.size = A at hD ⊢
  have hA : ∀ q : Nat, s.heap.size ≤ q → A q := fun q h => by rw [← hAe]; exact Or.inr h
  have hDa : ∀ z9 : ZS, va_D A (zM k q z9) := fun z9 => va_D_adr (w := zM k q z) rfl hD
  have hl := lv_entry ([.ref (q 0), .int pe, .int d, .int y]) (n := 4) (Nat.le_of_ble_eq_true rfl)
  rw [lg_entry_eq]
  generalize (lg_sl ([.ref (q 0), .int pe, .int d, .int y]) ++ List.replicate (4 - (lg_sl ([.ref (q 0), .int pe, .int d, .int y])).length) Slot.unset).toArray = ls at hl ⊢
  have hl : lv_has ls 4 [(0, .ref (q 0)), (1, .int pe), (2, .int d), (3, .int y)] := hl
  refine z_start2 (A := A) (w := (zM k q z)) hP (fun H locs hP hS => ?_)
  clear hD0 hAe
  have ha0 := hI.1.1.1
  have ha1 := hI.1.1.2.1
  refine lv_iload_n hx hb dX7_answersBy_0 rfl (lv_at hl 1 rfl) ?_
  refine zc0_i (w := (zM k q z)) (va_runS (As := [.int pe]) (rest := []) ⟨hx, hb, hml, hown, htb⟩ (c_X7_isPerson l dC dI k pe _ ) (va_cwS 1 htb (gzS wmt4_153 wmt4_154 wmt1_8 wmt4_155) rfl rfl rfl (by decide +kernel) ⟨Nat.le_of_ble_eq_true rfl, Nat.le_of_ble_eq_true rfl⟩) (zp0_S hK) rfl rfl hl.1 rfl (lv_room (Nat.le_of_ble_eq_true rfl)) dX7_answersBy_1 ⟨Nat.le_of_ble_eq_true rfl, Nat.le_of_ble_eq_true rfl⟩) hP hS hA (fun r_1 u_2 H locs w_3 hP hS => ?_)
  rcases w_3 with ⟨e_5, h_4⟩ | ⟨e_7, h_6⟩
  · skip
    replace e_5 : r_1 = 1 := e_5
    subst e_5
    replace h_4 : 0 ≤ pe.toInt ∧ pe.toInt < 24 := h_4
    refine lv_if_eq (tgt := 23) hx hb dX7_answersBy_4 (by decide) (fun c_8 => ?_) (fun c_8 => ?_)
    · skip
      exact absurd c_8 (by decide)
    · skip
      refine lv_iload_n hx hb dX7_answersBy_7 rfl (lv_at hl 2 rfl) ?_
      refine zc0_i (w := (zM k q z)) (va_runS (As := [.int d]) (rest := []) ⟨hx, hb, hml, hown, htb⟩ (c_X7_isDesign l dC dI k d _ ) (va_cwS 1 htb (gzS wmt4_59 wmt4_60 wmt1_8 wmt4_61) rfl rfl rfl (by decide +kernel) ⟨Nat.le_of_ble_eq_true rfl, Nat.le_of_ble_eq_true rfl⟩) (zp0_S hK) rfl rfl hl.1 rfl (lv_room (Nat.le_of_ble_eq_true rfl)) dX7_answersBy_8 ⟨Nat.le_of_ble_eq_true rfl, Nat.le_of_ble_eq_true rfl⟩) hP hS hA (fun r_9 u_10 H locs w_11 hP hS => ?_)
      rcases w_11 with ⟨e_13, h_12⟩ | ⟨e_15, h_14⟩
      · skip
        replace e_13 : r_9 = 1 := e_13
        subst e_13
        replace h_12 : 0 ≤ d.toInt ∧ d.toInt < 4 := h_12
        refine lv_if_eq (tgt := 23) hx hb dX7_answersBy_11 (by decide) (fun c_16 => ?_) (fun c_16 => ?_)
        · skip
          exact absurd c_16 (by decide)
        · skip
          refine lv_iload_n hx hb dX7_answersBy_14 rfl (lv_at hl 3 rfl) ?_
          refine lv_iconst (v := 0) hx hb dX7_answersBy_15 (by decide) ?_
          refine lv_iconst (v := 1) hx hb dX7_answersBy_16 (by decide) ?_
          refine zc0_i (w := (zM k q z)) (va_runS (As := [.int y, .int 0, .int 1]) (rest := []) ⟨hx, hb, hml, hown, htb⟩ (c_X7_in l dC dI k y 0 1 _ ) (va_cwS 3 htb (gzS wmt4_62 wmt4_63 wmt1_8 wmt4_64) rfl rfl rfl (by decide +kernel) ⟨Nat.le_of_ble_eq_true rfl, Nat.le_of_ble_eq_true rfl⟩) (zp0_S hK) rfl rfl hl.1 rfl (lv_room (Nat.le_of_ble_eq_true rfl)) dX7_answersBy_17 ⟨Nat.le_of_ble_eq_true rfl, Nat.le_of_ble_eq_true rfl⟩) hP hS hA (fun r_17 u_18 H locs w_19 hP hS => ?_)
          rcases w_19 with ⟨e_21, h_20⟩ | ⟨e_23, h_22⟩
          · skip
            replace e_21 : r_17 = 1 := e_21
            subst e_21
            replace h_20 : (0 : Int32).toInt ≤ y.toInt ∧ y.toInt ≤ (1 : Int32).toInt := h_20
            rw [show (0 : Int32).toInt = 0 by decide, show (1 : Int32).toInt = 1 by decide] at h_20
            refine lv_if_ne (tgt := 26) hx hb dX7_answersBy_20 (by decide) (fun c_24 => ?_) (fun c_24 => ?_)
            · skip
              refine lv_aload_n hx hb dX7_answersBy_26 rfl (lv_at hl 0 rfl) ?_
              refine lv_iload_n hx hb dX7_answersBy_27 rfl (lv_at hl 2 rfl) ?_
              refine zcA_i (w := (zM k q z)) (va_runV (As := [.int d]) (rest := []) ⟨hx, hb, hml, hown, htb⟩ (c_X7_faultOf l dC dI k q z d _ hI (show 0 ≤ d.toInt ∧ d.toInt < 4 by omega)) (cwV 1 htb (gzV wmt4_73 wmt4_75 wmp2_6 wmt1_8 wmt4_76) rfl rfl rfl (by decide +kernel) ⟨Nat.le_of_ble_eq_true rfl, Nat.le_of_ble_eq_true rfl⟩) (zpA_V (ci := 7) (q0 := 0) hK hP (hDa _) rfl rfl) rfl rfl hl.1 rfl (lv_room (Nat.le_of_ble_eq_true rfl)) dX7_answersBy_28 ⟨Nat.le_of_ble_eq_true rfl, Nat.le_of_ble_eq_true rfl⟩) (hDa _) hS hA (fun r_25 u_26 H locs w_27 hP _ hS => ?_)
              obtain ⟨o4_28, o5_29, o6_30, o7_31, o8_32, o9_33, o10_34, o12_35, o13_36, o14_37, o15_38, o16_39, o17_40, o18_41⟩ := u_26
              have hP : va_P (dC, dI) vwCl (zM k q (sA (sA (sA (sI (sI (sI (sI (sA (sA (sA (sA (sA (sA (sA z 4 o4_28) 5 o5_29) 6 o6_30) 7 o7_31) 8 o8_32) 9 o9_33) 10 o10_34) 12 o12_35) 13 o13_36) 14 o14_37) 15 o15_38) 16 o16_39) 17 o17_40) 18 o18_41)) H := hP
              obtain ⟨h_42, h_43, h_44, h_45, h_46⟩ := w_27
              replace h_42 : MD (FR ((z.2.2.1 2)) ((z.2.2.1 3))) o4_28 o5_29 o6_30 o7_31 o8_32 o9_33 o10_34 := h_42
              replace h_43 : ¬ o4_28 d.toNatClampNeg = 0 := h_43
              replace h_44 : RK ((z.2.2.1 4)) ((z.2.2.1 5)) o4_28 o5_29 := h_44
              replace h_45 : R7 ((z.2.2.1 4)) ((z.2.2.1 6)) ((z.2.2.1 7)) ((z.2.2.1 8)) ((z.2.2.1 9)) ((z.2.2.1 10)) o6_30 o7_31 o8_32 o9_33 o10_34 := h_45
              replace h_46 : r_25 = o5_29 d.toNatClampNeg := h_46
              have hI : MInv (sA (sA (sA (sI (sI (sI (sI (sA (sA (sA (sA (sA (sA (sA z 4 o4_28) 5 o5_29) 6 o6_30) 7 o7_31) 8 o8_32) 9 o9_33) 10 o10_34) 12 o12_35) 13 o13_36) 14 o14_37) 15 o15_38) 16 o16_39) 17 o17_40) 18 o18_41) := ⟨hI.1, hI.2.1, hI.2.2.1, hI.2.2.2.1, hI.2.2.2.2.1, h_42⟩
              have hms := MD_at h_42 (show 0 ≤ d.toInt ∧ d.toInt < 4 by omega)
              have hrd := h_43
              have hrk := h_44
              obtain ⟨hw, hff, hfF, hlk⟩ := hms.2.2.2.2.2 h_43
              have hwb := hms.1
              have hr5 : r_25.toInt = (o5_29 d.toNatClampNeg).toInt := by rw [h_46]
              have htF : tF (trM z) d.toNatClampNeg = o5_29 d.toNatClampNeg := (trM_Fg (z_cl4 (show 0 ≤ d.toInt ∧ d.toInt < 4 by omega))).trans (by unfold eF; rw [← hfF, Int32.ofInt_toInt])
              have ho24 := hI.2.2.1
              refine lv_iconst (v := (-1)) hx hb dX7_answersBy_31 (by decide) ?_
              refine lv_icmp_eq (tgt := 38) hx hb dX7_answersBy_32 (by decide) (fun c_48 => ?_) (fun c_48 => ?_)
              · skip
                have hc_48 := zb_eq rfl (show ((-1) : Int32).toInt = (-1) by decide) c_48
                refine lv_aload_n hx hb dX7_answersBy_38 rfl (lv_at hl 0 rfl) ?_
                refine va_get (D := (dC, dI)) (ci := 7) (v := .int (z.1 22)) (C := RX7) (T := TX7) (N := 42) hx hb htb inw7 hown hK.1 hP 0 rfl rfl 22 (by decide) (htb _ wmt3_189) (fun _ h9 => h9) rfl dX7_answersBy_39 ?_
                refine lv_topi (fun x_49 ex_49 => ?_)
                have hx_49 : x_49.toInt = (z.1 22).toInt := by rw [ex_49]
                refine lv_bipush (v := 120) hx hb dX7_answersBy_42 (by decide) ?_
                refine lv_icmp_ne (tgt := 50) hx hb dX7_answersBy_44 (by decide) (fun c_50 => ?_) (fun c_50 => ?_)
                · skip
                  have hc_50 := zb_ne rfl (show (120 : Int32).toInt = 120 by decide) c_50
                  refine lv_aload_n hx hb dX7_answersBy_50 rfl (lv_at hl 0 rfl) ?_
                  refine va_get (D := (dC, dI)) (ci := 7) (v := .ref (q 23)) (C := RX7) (T := TX7) (N := 42) hx hb htb inw7 hown hK.1 hP 0 rfl rfl 23 (by decide) (htb _ wmt3_190) (fun _ h9 => h9) rfl dX7_answersBy_51 ?_
                  refine lv_aload_n hx hb dX7_answersBy_54 rfl (lv_at hl 0 rfl) ?_
                  refine va_get (D := (dC, dI)) (ci := 7) (v := .int (z.1 22)) (C := RX7) (T := TX7) (N := 42) hx hb htb inw7 hown hK.1 hP 0 rfl rfl 22 (by decide) (htb _ wmt3_189) (fun _ h9 => h9) rfl dX7_answersBy_55 ?_
                  refine z_top (v2 := .int x_49) (congrArg Value.int ex_49.symm) ?_
                  refine lv_iload_n hx hb dX7_answersBy_58 rfl (lv_at hl 1 rfl) ?_
                  refine va_iast (D := (dC, dI)) hx hb hK.1 hP (hDa _) hS 14 0 rfl rfl (z_in (by omega)) dX7_answersBy_59 (fun H locs hP _ hS => ?_)
                  obtain ⟨f_51, ef_51⟩ : ∃ x : Nat → Int32, x = upd (z.2.2.1 23) x_49.toNatClampNeg pe := ⟨_, rfl⟩
                  have hP : va_P (dC, dI) vwCl (zM k q (sA (sA (sA (sA (sI (sI (sI (sI (sA (sA (sA (sA (sA (sA (sA z 4 o4_28) 5 o5_29) 6 o6_30) 7 o7_31) 8 o8_32) 9 o9_33) 10 o10_34) 12 o12_35) 13 o13_36) 14 o14_37) 15 o15_38) 16 o16_39) 17 o17_40) 18 o18_41) 23 f_51)) H := by rw [ef_51]; exact hP
                  refine lv_aload_n hx hb dX7_answersBy_60 rfl (lv_at hl 0 rfl) ?_
                  refine va_get (D := (dC, dI)) (ci := 7) (v := .ref (q 24)) (C := RX7) (T := TX7) (N := 42) hx hb htb inw7 hown hK.1 hP 0 rfl rfl 24 (by decide) (htb _ wmt3_191) (fun _ h9 => h9) rfl dX7_answersBy_61 ?_
                  refine lv_aload_n hx hb dX7_answersBy_64 rfl (lv_at hl 0 rfl) ?_
                  refine va_get (D := (dC, dI)) (ci := 7) (v := .int (z.1 22)) (C := RX7) (T := TX7) (N := 42) hx hb htb inw7 hown hK.1 hP 0 rfl rfl 22 (by decide) (htb _ wmt3_189) (fun _ h9 => h9) rfl dX7_answersBy_65 ?_
                  refine z_top (v2 := .int x_49) (congrArg Value.int ex_49.symm) ?_
                  refine lv_iload_n hx hb dX7_answersBy_68 rfl (lv_at hl 2 rfl) ?_
                  refine va_iast (D := (dC, dI)) hx hb hK.1 hP (hDa _) hS 15 0 rfl rfl (z_in (by omega)) dX7_answersBy_69 (fun H locs hP _ hS => ?_)
                  obtain ⟨f_52, ef_52⟩ : ∃ x : Nat → Int32, x = upd (z.2.2.1 24) x_49.toNatClampNeg d := ⟨_, rfl⟩
                  have hP : va_P (dC, dI) vwCl (zM k q (sA (sA (sA (sA (sA (sI (sI (sI (sI (sA (sA (sA (sA (sA (sA (sA z 4 o4_28) 5 o5_29) 6 o6_30) 7 o7_31) 8 o8_32) 9 o9_33) 10 o10_34) 12 o12_35) 13 o13_36) 14 o14_37) 15 o15_38) 16 o16_39) 17 o17_40) 18 o18_41) 23 f_51) 24 f_52)) H := by rw [ef_52]; exact hP
                  refine lv_aload_n hx hb dX7_answersBy_70 rfl (lv_at hl 0 rfl) ?_
                  refine va_get (D := (dC, dI)) (ci := 7) (v := .ref (q 25)) (C := RX7) (T := TX7) (N := 42) hx hb htb inw7 hown hK.1 hP 0 rfl rfl 25 (by decide) (htb _ wmt3_192) (fun _ h9 => h9) rfl dX7_answersBy_71 ?_
                  refine lv_aload_n hx hb dX7_answersBy_74 rfl (lv_at hl 0 rfl) ?_
                  refine va_get (D := (dC, dI)) (ci := 7) (v := .int (z.1 22)) (C := RX7) (T := TX7) (N := 42) hx hb htb inw7 hown hK.1 hP 0 rfl rfl 22 (by decide) (htb _ wmt3_189) (fun _ h9 => h9) rfl dX7_answersBy_75 ?_
                  refine z_top (v2 := .int x_49) (congrArg Value.int ex_49.symm) ?_
                  refine lv_iload_n hx hb dX7_answersBy_78 rfl (lv_at hl 3 rfl) ?_
                  refine va_iast (D := (dC, dI)) hx hb hK.1 hP (hDa _) hS 16 0 rfl rfl (z_in (by omega)) dX7_answersBy_79 (fun H locs hP _ hS => ?_)
                  obtain ⟨f_53, ef_53⟩ : ∃ x : Nat → Int32, x = upd (z.2.2.1 25) x_49.toNatClampNeg y := ⟨_, rfl⟩
                  have hP : va_P (dC, dI) vwCl (zM k q (sA (sA (sA (sA (sA (sA (sI (sI (sI (sI (sA (sA (sA (sA (sA (sA (sA z 4 o4_28) 5 o5_29) 6 o6_30) 7 o7_31) 8 o8_32) 9 o9_33) 10 o10_34) 12 o12_35) 13 o13_36) 14 o14_37) 15 o15_38) 16 o16_39) 17 o17_40) 18 o18_41) 23 f_51) 24 f_52) 25 f_53)) H := by rw [ef_53]; exact hP
                  refine lv_aload_n hx hb dX7_answersBy_80 rfl (lv_at hl 0 rfl) ?_
                  refine va_get (D := (dC, dI)) (ci := 7) (v := .ref (q 26)) (C := RX7) (T := TX7) (N := 42) hx hb htb inw7 hown hK.1 hP 0 rfl rfl 26 (by decide) (htb _ wmt3_193) (fun _ h9 => h9) rfl dX7_answersBy_81 ?_
                  refine lv_aload_n hx hb dX7_answersBy_84 rfl (lv_at hl 0 rfl) ?_
                  refine va_get (D := (dC, dI)) (ci := 7) (v := .int (z.1 22)) (C := RX7) (T := TX7) (N := 42) hx hb htb inw7 hown hK.1 hP 0 rfl rfl 22 (by decide) (htb _ wmt3_189) (fun _ h9 => h9) rfl dX7_answersBy_85 ?_
                  refine z_top (v2 := .int x_49) (congrArg Value.int ex_49.symm) ?_
                  refine lv_aload_n hx hb dX7_answersBy_88 rfl (lv_at hl 0 rfl) ?_
                  refine va_get (D := (dC, dI)) (ci := 7) (v := .int (z.1 19)) (C := RX7) (T := TX7) (N := 42) hx hb htb inw7 hown hK.1 hP 0 rfl rfl 19 (by decide) (htb _ wmt3_186) (fun _ h9 => h9) rfl dX7_answersBy_89 ?_
                  refine lv_topi (fun x_54 ex_54 => ?_)
                  have hx_54 : x_54.toInt = (z.1 19).toInt := by rw [ex_54]
                  refine va_iast (D := (dC, dI)) hx hb hK.1 hP (hDa _) hS 17 0 rfl rfl (z_in (by omega)) dX7_answersBy_92 (fun H locs hP _ hS => ?_)
                  obtain ⟨f_55, ef_55⟩ : ∃ x : Nat → Int32, x = upd (z.2.2.1 26) x_49.toNatClampNeg x_54 := ⟨_, rfl⟩
                  have hP : va_P (dC, dI) vwCl (zM k q (sA (sA (sA (sA (sA (sA (sA (sI (sI (sI (sI (sA (sA (sA (sA (sA (sA (sA z 4 o4_28) 5 o5_29) 6 o6_30) 7 o7_31) 8 o8_32) 9 o9_33) 10 o10_34) 12 o12_35) 13 o13_36) 14 o14_37) 15 o15_38) 16 o16_39) 17 o17_40) 18 o18_41) 23 f_51) 24 f_52) 25 f_53) 26 f_55)) H := by rw [ef_55]; exact hP
                  refine lv_aload_n hx hb dX7_answersBy_93 rfl (lv_at hl 0 rfl) ?_
                  refine va_get (D := (dC, dI)) (ci := 7) (v := .ref (q 27)) (C := RX7) (T := TX7) (N := 42) hx hb htb inw7 hown hK.1 hP 0 rfl rfl 27 (by decide) (htb _ wmt3_194) (fun _ h9 => h9) rfl dX7_answersBy_94 ?_
                  refine lv_aload_n hx hb dX7_answersBy_97 rfl (lv_at hl 0 rfl) ?_
                  refine va_get (D := (dC, dI)) (ci := 7) (v := .int (z.1 22)) (C := RX7) (T := TX7) (N := 42) hx hb htb inw7 hown hK.1 hP 0 rfl rfl 22 (by decide) (htb _ wmt3_189) (fun _ h9 => h9) rfl dX7_answersBy_98 ?_
                  refine z_top (v2 := .int x_49) (congrArg Value.int ex_49.symm) ?_
                  refine lv_iconst (v := (-1)) hx hb dX7_answersBy_101 (by decide) ?_
                  refine va_iast (D := (dC, dI)) hx hb hK.1 hP (hDa _) hS 18 0 rfl rfl (z_in (by omega)) dX7_answersBy_102 (fun H locs hP _ hS => ?_)
                  obtain ⟨f_56, ef_56⟩ : ∃ x : Nat → Int32, x = upd (z.2.2.1 27) x_49.toNatClampNeg (-1) := ⟨_, rfl⟩
                  have hP : va_P (dC, dI) vwCl (zM k q (sA (sA (sA (sA (sA (sA (sA (sA (sI (sI (sI (sI (sA (sA (sA (sA (sA (sA (sA z 4 o4_28) 5 o5_29) 6 o6_30) 7 o7_31) 8 o8_32) 9 o9_33) 10 o10_34) 12 o12_35) 13 o13_36) 14 o14_37) 15 o15_38) 16 o16_39) 17 o17_40) 18 o18_41) 23 f_51) 24 f_52) 25 f_53) 26 f_55) 27 f_56)) H := by rw [ef_56]; exact hP
                  refine lv_aload_n hx hb dX7_answersBy_103 rfl (lv_at hl 0 rfl) ?_
                  refine lv_dup hx hb dX7_answersBy_104 rfl ?_
                  refine va_get (D := (dC, dI)) (ci := 7) (v := .int (z.1 22)) (C := RX7) (T := TX7) (N := 42) hx hb htb inw7 hown hK.1 hP 0 rfl rfl 22 (by decide) (htb _ wmt3_189) (fun _ h9 => h9) rfl dX7_answersBy_105 ?_
                  refine z_top (v2 := .int x_49) (congrArg Value.int ex_49.symm) ?_
                  refine lv_iconst (v := 1) hx hb dX7_answersBy_108 (by decide) ?_
                  refine lv_iadd hx hb dX7_answersBy_109 ?_
                  refine lv_topi (fun x_57 ex_57 => ?_)
                  have hx_57 := z_add ex_57 rfl (show (1 : Int32).toInt = 1 by decide) (by omega)
                  refine va_put (D := (dC, dI)) (ci := 7) (v := .int x_57) (ty := .int) (C := RX7) (T := TX7) (N := 42) hx hb htb inw7 tyX7 tyX7_ok nmX7 hown hK.1 hP (hDa _) hS 0 rfl rfl 22 (by decide) (htb _ wmt3_189) (fun _ h9 => h9) rfl (by decide +kernel) rfl rfl (Nat.le_of_ble_eq_true rfl) dX7_answersBy_110 (fun H locs hP _ hS => ?_)
                  have hP : va_P (dC, dI) vwCl (zM k q (sI (sA (sA (sA (sA (sA (sA (sA (sA (sI (sI (sI (sI (sA (sA (sA (sA (sA (sA (sA z 4 o4_28) 5 o5_29) 6 o6_30) 7 o7_31) 8 o8_32) 9 o9_33) 10 o10_34) 12 o12_35) 13 o13_36) 14 o14_37) 15 o15_38) 16 o16_39) 17 o17_40) 18 o18_41) 23 f_51) 24 f_52) 25 f_53) 26 f_55) 27 f_56) 22 x_57)) H := hP
                  refine lv_aload_n hx hb dX7_answersBy_113 rfl (lv_at hl 0 rfl) ?_
                  refine va_get (D := (dC, dI)) (ci := 7) (v := .int x_57) (C := RX7) (T := TX7) (N := 42) hx hb htb inw7 hown hK.1 hP 0 rfl rfl 22 (by decide) (htb _ wmt3_189) (fun _ h9 => h9) rfl dX7_answersBy_114 ?_
                  refine lv_iconst (v := 1) hx hb dX7_answersBy_117 (by decide) ?_
                  refine lv_isub hx hb dX7_answersBy_118 ?_
                  refine lv_topi (fun x_58 ex_58 => ?_)
                  have hx_58 := z_sub ex_58 rfl (show (1 : Int32).toInt = 1 by decide) (by omega)
                  exact W.iret (v := x_58) hx hb hr (fun t ht hW => ⟨⟨x_58, (o4_28, o5_29, o6_30, o7_31, o8_32, o9_33, o10_34, o12_35, o13_36, o14_37, o15_38, o16_39, o17_40, o18_41, x_57, f_51, f_52, f_53, f_55, f_56), rfl, (show (MInv (sA (sA (sA (sA (sA (sI (sA (sA (sA (sI (sI (sI (sI (sA (sA (sA (sA (sA (sA (sA z 4 o4_28) 5 o5_29) 6 o6_30) 7 o7_31) 8 o8_32) 9 o9_33) 10 o10_34) 12 o12_35) 13 o13_36) 14 o14_37) 15 o15_38) 16 o16_39) 17 o17_40) 18 o18_41) 22 x_57) 23 f_51) 24 f_52) 25 f_53) 26 f_55) 27 f_56)) ∧ ((x_58, trM (sA (sA (sA (sA (sA (sI (sA (sA (sA (sI (sI (sI (sI (sA (sA (sA (sA (sA (sA (sA z 4 o4_28) 5 o5_29) 6 o6_30) 7 o7_31) 8 o8_32) 9 o9_33) 10 o10_34) 12 o12_35) 13 o13_36) 14 o14_37) 15 o15_38) 16 o16_39) 17 o17_40) 18 o18_41) 22 x_57) 23 f_51) 24 f_52) 25 f_53) 26 f_55) 27 f_56)) = tAns (trM z) pe d y) from ⟨⟨MP_tell hI.1 ex_49 (by omega) ex_57 ef_51 ef_52 ef_53 (by omega) (by omega) (by omega), hI.2.1, hI.2.2.1, hI.2.2.2.1, hI.2.2.2.2.1, hI.2.2.2.2.2⟩, tAns_ok (by omega) rfl htF (by omega) (tTell_ok (n := z.1 22) rfl (by omega) (Int32.toInt_inj.mp (by omega)) (by rw [ex_57, ef_56, ex_49]; rfl))⟩), ⟨by rw [ht]; exact hP, hDa _⟩⟩, hS.F ht⟩) hS.2.2 dX7_answersBy_119
                · skip
                  have hc_50 := zb_eq rfl (show (120 : Int32).toInt = 120 by decide) c_50
                  refine lv_bipush (v := (-4)) hx hb dX7_answersBy_47 (by decide) ?_
                  exact W.iret (v := (-4)) hx hb hr (fun t ht hW => ⟨⟨(-4), (o4_28, o5_29, o6_30, o7_31, o8_32, o9_33, o10_34, o12_35, o13_36, o14_37, o15_38, o16_39, o17_40, o18_41, z.1 22, z.2.2.1 23, z.2.2.1 24, z.2.2.1 25, z.2.2.1 26, z.2.2.1 27), rfl, (show (MInv (sA (sA (sA (sA (sA (sI (sA (sA (sA (sI (sI (sI (sI (sA (sA (sA (sA (sA (sA (sA z 4 o4_28) 5 o5_29) 6 o6_30) 7 o7_31) 8 o8_32) 9 o9_33) 10 o10_34) 12 o12_35) 13 o13_36) 14 o14_37) 15 o15_38) 16 o16_39) 17 o17_40) 18 o18_41) 22 (z.1 22)) 23 (z.2.2.1 23)) 24 (z.2.2.1 24)) 25 (z.2.2.1 25)) 26 (z.2.2.1 26)) 27 (z.2.2.1 27))) ∧ ((((-4) : Int32), trM (sA (sA (sA (sA (sA (sI (sA (sA (sA (sI (sI (sI (sI (sA (sA (sA (sA (sA (sA (sA z 4 o4_28) 5 o5_29) 6 o6_30) 7 o7_31) 8 o8_32) 9 o9_33) 10 o10_34) 12 o12_35) 13 o13_36) 14 o14_37) 15 o15_38) 16 o16_39) 17 o17_40) 18 o18_41) 22 (z.1 22)) 23 (z.2.2.1 23)) 24 (z.2.2.1 24)) 25 (z.2.2.1 25)) 26 (z.2.2.1 26)) 27 (z.2.2.1 27))) = tAns (trM z) pe d y) from ⟨hI, tAns_ok (by omega) rfl htF (by omega) (tTell_full (n := z.1 22) rfl (by omega) rfl)⟩), ⟨by rw [ht]; exact hP, hDa _⟩⟩, hS.F ht⟩) hS.2.2 dX7_answersBy_49
              · skip
                have hc_48 := zb_ne rfl (show ((-1) : Int32).toInt = (-1) by decide) c_48
                refine lv_bipush (v := (-3)) hx hb dX7_answersBy_35 (by decide) ?_
                exact W.iret (v := (-3)) hx hb hr (fun t ht hW => ⟨⟨(-3), (o4_28, o5_29, o6_30, o7_31, o8_32, o9_33, o10_34, o12_35, o13_36, o14_37, o15_38, o16_39, o17_40, o18_41, z.1 22, z.2.2.1 23, z.2.2.1 24, z.2.2.1 25, z.2.2.1 26, z.2.2.1 27), rfl, (show (MInv (sA (sA (sA (sA (sA (sI (sA (sA (sA (sI (sI (sI (sI (sA (sA (sA (sA (sA (sA (sA z 4 o4_28) 5 o5_29) 6 o6_30) 7 o7_31) 8 o8_32) 9 o9_33) 10 o10_34) 12 o12_35) 13 o13_36) 14 o14_37) 15 o15_38) 16 o16_39) 17 o17_40) 18 o18_41) 22 (z.1 22)) 23 (z.2.2.1 23)) 24 (z.2.2.1 24)) 25 (z.2.2.1 25)) 26 (z.2.2.1 26)) 27 (z.2.2.1 27))) ∧ ((((-3) : Int32), trM (sA (sA (sA (sA (sA (sI (sA (sA (sA (sI (sI (sI (sI (sA (sA (sA (sA (sA (sA (sA z 4 o4_28) 5 o5_29) 6 o6_30) 7 o7_31) 8 o8_32) 9 o9_33) 10 o10_34) 12 o12_35) 13 o13_36) 14 o14_37) 15 o15_38) 16 o16_39) 17 o17_40) 18 o18_41) 22 (z.1 22)) 23 (z.2.2.1 23)) 24 (z.2.2.1 24)) 25 (z.2.2.1 25)) 26 (z.2.2.1 26)) 27 (z.2.2.1 27))) = tAns (trM z) pe d y) from ⟨hI, tAns_f (by omega) rfl htF (by omega) rfl⟩), ⟨by rw [ht]; exact hP, hDa _⟩⟩, hS.F ht⟩) hS.2.2 dX7_answersBy_37
            · skip
              exact absurd c_24 (by decide)
          · skip
            replace e_23 : r_17 = 0 := e_23
            subst e_23
            replace h_22 : ¬ ((0 : Int32).toInt ≤ y.toInt ∧ y.toInt ≤ (1 : Int32).toInt) := h_22
            rw [show (0 : Int32).toInt = 0 by decide, show (1 : Int32).toInt = 1 by decide] at h_22
            refine lv_if_ne (tgt := 26) hx hb dX7_answersBy_20 (by decide) (fun c_59 => ?_) (fun c_59 => ?_)
            · skip
              exact absurd c_59 (by decide)
            · skip
              refine lv_bipush (v := (-2)) hx hb dX7_answersBy_23 (by decide) ?_
              exact W.iret (v := (-2)) hx hb hr (fun t ht hW => ⟨⟨(-2), (z.2.2.1 4, z.2.2.1 5, z.2.2.1 6, z.2.2.1 7, z.2.2.1 8, z.2.2.1 9, z.2.2.1 10, z.1 12, z.1 13, z.1 14, z.1 15, z.2.2.1 16, z.2.2.1 17, z.2.2.1 18, z.1 22, z.2.2.1 23, z.2.2.1 24, z.2.2.1 25, z.2.2.1 26, z.2.2.1 27), rfl, (show (MInv (sA (sA (sA (sA (sA (sI (sA (sA (sA (sI (sI (sI (sI (sA (sA (sA (sA (sA (sA (sA z 4 (z.2.2.1 4)) 5 (z.2.2.1 5)) 6 (z.2.2.1 6)) 7 (z.2.2.1 7)) 8 (z.2.2.1 8)) 9 (z.2.2.1 9)) 10 (z.2.2.1 10)) 12 (z.1 12)) 13 (z.1 13)) 14 (z.1 14)) 15 (z.1 15)) 16 (z.2.2.1 16)) 17 (z.2.2.1 17)) 18 (z.2.2.1 18)) 22 (z.1 22)) 23 (z.2.2.1 23)) 24 (z.2.2.1 24)) 25 (z.2.2.1 25)) 26 (z.2.2.1 26)) 27 (z.2.2.1 27))) ∧ ((((-2) : Int32), trM (sA (sA (sA (sA (sA (sI (sA (sA (sA (sI (sI (sI (sI (sA (sA (sA (sA (sA (sA (sA z 4 (z.2.2.1 4)) 5 (z.2.2.1 5)) 6 (z.2.2.1 6)) 7 (z.2.2.1 7)) 8 (z.2.2.1 8)) 9 (z.2.2.1 9)) 10 (z.2.2.1 10)) 12 (z.1 12)) 13 (z.1 13)) 14 (z.1 14)) 15 (z.1 15)) 16 (z.2.2.1 16)) 17 (z.2.2.1 17)) 18 (z.2.2.1 18)) 22 (z.1 22)) 23 (z.2.2.1 23)) 24 (z.2.2.1 24)) 25 (z.2.2.1 25)) 26 (z.2.2.1 26)) 27 (z.2.2.1 27))) = tAns (trM z) pe d y) from ⟨hI, tAns_bad (by omega) rfl⟩), ⟨by rw [ht]; exact hP, hDa _⟩⟩, hS.F ht⟩) hS.2.2 dX7_answersBy_25
      · skip
        replace e_15 : r_9 = 0 := e_15
        subst e_15
        replace h_14 : ¬ (0 ≤ d.toInt ∧ d.toInt < 4) := h_14
        refine lv_if_eq (tgt := 23) hx hb dX7_answersBy_11 (by decide) (fun c_60 => ?_) (fun c_60 => ?_)
        · skip
          refine lv_bipush (v := (-2)) hx hb dX7_answersBy_23 (by decide) ?_
          exact W.iret (v := (-2)) hx hb hr (fun t ht hW => ⟨⟨(-2), (z.2.2.1 4, z.2.2.1 5, z.2.2.1 6, z.2.2.1 7, z.2.2.1 8, z.2.2.1 9, z.2.2.1 10, z.1 12, z.1 13, z.1 14, z.1 15, z.2.2.1 16, z.2.2.1 17, z.2.2.1 18, z.1 22, z.2.2.1 23, z.2.2.1 24, z.2.2.1 25, z.2.2.1 26, z.2.2.1 27), rfl, (show (MInv (sA (sA (sA (sA (sA (sI (sA (sA (sA (sI (sI (sI (sI (sA (sA (sA (sA (sA (sA (sA z 4 (z.2.2.1 4)) 5 (z.2.2.1 5)) 6 (z.2.2.1 6)) 7 (z.2.2.1 7)) 8 (z.2.2.1 8)) 9 (z.2.2.1 9)) 10 (z.2.2.1 10)) 12 (z.1 12)) 13 (z.1 13)) 14 (z.1 14)) 15 (z.1 15)) 16 (z.2.2.1 16)) 17 (z.2.2.1 17)) 18 (z.2.2.1 18)) 22 (z.1 22)) 23 (z.2.2.1 23)) 24 (z.2.2.1 24)) 25 (z.2.2.1 25)) 26 (z.2.2.1 26)) 27 (z.2.2.1 27))) ∧ ((((-2) : Int32), trM (sA (sA (sA (sA (sA (sI (sA (sA (sA (sI (sI (sI (sI (sA (sA (sA (sA (sA (sA (sA z 4 (z.2.2.1 4)) 5 (z.2.2.1 5)) 6 (z.2.2.1 6)) 7 (z.2.2.1 7)) 8 (z.2.2.1 8)) 9 (z.2.2.1 9)) 10 (z.2.2.1 10)) 12 (z.1 12)) 13 (z.1 13)) 14 (z.1 14)) 15 (z.1 15)) 16 (z.2.2.1 16)) 17 (z.2.2.1 17)) 18 (z.2.2.1 18)) 22 (z.1 22)) 23 (z.2.2.1 23)) 24 (z.2.2.1 24)) 25 (z.2.2.1 25)) 26 (z.2.2.1 26)) 27 (z.2.2.1 27))) = tAns (trM z) pe d y) from ⟨hI, tAns_bad (by omega) rfl⟩), ⟨by rw [ht]; exact hP, hDa _⟩⟩, hS.F ht⟩) hS.2.2 dX7_answersBy_25
        · skip
          exact absurd (by decide) c_60
  · skip
    replace e_7 : r_1 = 0 := e_7
    subst e_7
    replace h_6 : ¬ (0 ≤ pe.toInt ∧ pe.toInt < 24) := h_6
    refine lv_if_eq (tgt := 23) hx hb dX7_answersBy_4 (by decide) (fun c_61 => ?_) (fun c_61 => ?_)
    · skip
      refine lv_bipush (v := (-2)) hx hb dX7_answersBy_23 (by decide) ?_
      exact W.iret (v := (-2)) hx hb hr (fun t ht hW => ⟨⟨(-2), (z.2.2.1 4, z.2.2.1 5, z.2.2.1 6, z.2.2.1 7, z.2.2.1 8, z.2.2.1 9, z.2.2.1 10, z.1 12, z.1 13, z.1 14, z.1 15, z.2.2.1 16, z.2.2.1 17, z.2.2.1 18, z.1 22, z.2.2.1 23, z.2.2.1 24, z.2.2.1 25, z.2.2.1 26, z.2.2.1 27), rfl, (show (MInv (sA (sA (sA (sA (sA (sI (sA (sA (sA (sI (sI (sI (sI (sA (sA (sA (sA (sA (sA (sA z 4 (z.2.2.1 4)) 5 (z.2.2.1 5)) 6 (z.2.2.1 6)) 7 (z.2.2.1 7)) 8 (z.2.2.1 8)) 9 (z.2.2.1 9)) 10 (z.2.2.1 10)) 12 (z.1 12)) 13 (z.1 13)) 14 (z.1 14)) 15 (z.1 15)) 16 (z.2.2.1 16)) 17 (z.2.2.1 17)) 18 (z.2.2.1 18)) 22 (z.1 22)) 23 (z.2.2.1 23)) 24 (z.2.2.1 24)) 25 (z.2.2.1 25)) 26 (z.2.2.1 26)) 27 (z.2.2.1 27))) ∧ ((((-2) : Int32), trM (sA (sA (sA (sA (sA (sI (sA (sA (sA (sI (sI (sI (sI (sA (sA (sA (sA (sA (sA (sA z 4 (z.2.2.1 4)) 5 (z.2.2.1 5)) 6 (z.2.2.1 6)) 7 (z.2.2.1 7)) 8 (z.2.2.1 8)) 9 (z.2.2.1 9)) 10 (z.2.2.1 10)) 12 (z.1 12)) 13 (z.1 13)) 14 (z.1 14)) 15 (z.1 15)) 16 (z.2.2.1 16)) 17 (z.2.2.1 17)) 18 (z.2.2.1 18)) 22 (z.1 22)) 23 (z.2.2.1 23)) 24 (z.2.2.1 24)) 25 (z.2.2.1 25)) 26 (z.2.2.1 26)) 27 (z.2.2.1 27))) = tAns (trM z) pe d y) from ⟨hI, tAns_bad (by omega) rfl⟩), ⟨by rw [ht]; exact hP, hDa _⟩⟩, hS.F ht⟩) hS.2.2 dX7_answersBy_25
    · skip
      exact absurd (by decide) c_61
set_option maxHeartbeats 4000000 in
set_option maxRecDepth 100000 in
theorem c_X7_answer (l : Launch) (dC : Nat → ClassId) (dI : Nat → Nat → Nat) (k : Nat → ClassId) (q : Nat → Nat) (z : ZS) (pe : Int32) (d : Int32) (y : Int32) (sz : Nat) (hI : MInv z) : Met l yX7_answer (wz yX7_answer cX7_answer 4 (some .int)) ({ frames := 6, cells := 0, slots := 0, locals := 137 }) (va_Pc [.ref (q 0), .int pe, .int d, .int y] (zPre dC dI k (zTX k) (zM k q z) sz)) (va_Qi (fun (r : Int32) (u : (Nat → Int32) × (Nat → Int32) × (Nat → Int32) × (Nat → Int32) × (Nat → Int32) × (Nat → Int32) × (Nat → Int32) × Int32 × Int32 × Int32 × Int32 × (Nat → Int32) × (Nat → Int32) × (Nat → Int32) × Int32 × (Nat → Int32) × (Nat → Int32) × (Nat → Int32) × (Nat → Int32) × (Nat → Int32)) => (MInv (sA (sA (sA (sA (sA (sI (sA (sA (sA (sI (sI (sI (sI (sA (sA (sA (sA (sA (sA (sA z 4 u.1) 5 u.2.1) 6 u.2.2.1) 7 u.2.2.2.1) 8 u.2.2.2.2.1) 9 u.2.2.2.2.2.1) 10 u.2.2.2.2.2.2.1) 12 u.2.2.2.2.2.2.2.1) 13 u.2.2.2.2.2.2.2.2.1) 14 u.2.2.2.2.2.2.2.2.2.1) 15 u.2.2.2.2.2.2.2.2.2.2.1) 16 u.2.2.2.2.2.2.2.2.2.2.2.1) 17 u.2.2.2.2.2.2.2.2.2.2.2.2.1) 18 u.2.2.2.2.2.2.2.2.2.2.2.2.2.1) 22 u.2.2.2.2.2.2.2.2.2.2.2.2.2.2.1) 23 u.2.2.2.2.2.2.2.2.2.2.2.2.2.2.2.1) 24 u.2.2.2.2.2.2.2.2.2.2.2.2.2.2.2.2.1) 25 u.2.2.2.2.2.2.2.2.2.2.2.2.2.2.2.2.2.1) 26 u.2.2.2.2.2.2.2.2.2.2.2.2.2.2.2.2.2.2.1) 27 u.2.2.2.2.2.2.2.2.2.2.2.2.2.2.2.2.2.2.2)) ∧ ((r, trM (sA (sA (sA (sA (sA (sI (sA (sA (sA (sI (sI (sI (sI (sA (sA (sA (sA (sA (sA (sA z 4 u.1) 5 u.2.1) 6 u.2.2.1) 7 u.2.2.2.1) 8 u.2.2.2.2.1) 9 u.2.2.2.2.2.1) 10 u.2.2.2.2.2.2.1) 12 u.2.2.2.2.2.2.2.1) 13 u.2.2.2.2.2.2.2.2.1) 14 u.2.2.2.2.2.2.2.2.2.1) 15 u.2.2.2.2.2.2.2.2.2.2.1) 16 u.2.2.2.2.2.2.2.2.2.2.2.1) 17 u.2.2.2.2.2.2.2.2.2.2.2.2.1) 18 u.2.2.2.2.2.2.2.2.2.2.2.2.2.1) 22 u.2.2.2.2.2.2.2.2.2.2.2.2.2.2.1) 23 u.2.2.2.2.2.2.2.2.2.2.2.2.2.2.2.1) 24 u.2.2.2.2.2.2.2.2.2.2.2.2.2.2.2.2.1) 25 u.2.2.2.2.2.2.2.2.2.2.2.2.2.2.2.2.2.1) 26 u.2.2.2.2.2.2.2.2.2.2.2.2.2.2.2.2.2.2.1) 27 u.2.2.2.2.2.2.2.2.2.2.2.2.2.2.2.2.2.2.2)) = tAns (trM z) pe d y)) (fun u t => zPost dC dI (va_A (zM k q z) sz) (zM k q (sA (sA (sA (sA (sA (sI (sA (sA (sA (sI (sI (sI (sI (sA (sA (sA (sA (sA (sA (sA z 4 u.1) 5 u.2.1) 6 u.2.2.1) 7 u.2.2.2.1) 8 u.2.2.2.2.1) 9 u.2.2.2.2.2.1) 10 u.2.2.2.2.2.2.1) 12 u.2.2.2.2.2.2.2.1) 13 u.2.2.2.2.2.2.2.2.1) 14 u.2.2.2.2.2.2.2.2.2.1) 15 u.2.2.2.2.2.2.2.2.2.2.1) 16 u.2.2.2.2.2.2.2.2.2.2.2.1) 17 u.2.2.2.2.2.2.2.2.2.2.2.2.1) 18 u.2.2.2.2.2.2.2.2.2.2.2.2.2.1) 22 u.2.2.2.2.2.2.2.2.2.2.2.2.2.2.1) 23 u.2.2.2.2.2.2.2.2.2.2.2.2.2.2.2.1) 24 u.2.2.2.2.2.2.2.2.2.2.2.2.2.2.2.2.1) 25 u.2.2.2.2.2.2.2.2.2.2.2.2.2.2.2.2.2.1) 26 u.2.2.2.2.2.2.2.2.2.2.2.2.2.2.2.2.2.2.1) 27 u.2.2.2.2.2.2.2.2.2.2.2.2.2.2.2.2.2.2.2)) t) (va_A (zM k q z) sz)) 0 0 (va_A (zM k q z) sz) := by
  refine Met.ofW (cc := cX7_answer) (maxL := 4) (ret := (some .int)) (by decide) rfl ?_
  intro p e s m args below meth c s₁ B hml hv
  obtain ⟨rfl, hsz, hP, hK, hD0⟩ := hv
  have hx := B.exec
  have hb := B.bytes
  have hr := B.returns
  have hts := atoms_spec (ws := wz yX7_answer cX7_answer 4 (some .int)) B.pre
  have htb : ∀ w ∈ zw, w.before _ s = true := fun w h => hts w (List.mem_cons_of_mem _ h)
  have hown : s.vm.findClass RX7 = some m.cls := findClass_of_methodNamed B.named
  have hlocks := B.notSynchronized
  clear hts
  subst hsz
  have hD := hD0.self (sz := s.heap.size)
  generalize hAe : va_A (zM k q z) s.heap.size = A at hD ⊢
  have hA : ∀ q : Nat, s.heap.size ≤ q → A q := fun q h => by rw [← hAe]; exact Or.inr h
  have hDa : ∀ z9 : ZS, va_D A (zM k q z9) := fun z9 => va_D_adr (w := zM k q z) rfl hD
  have hl := lv_entry ([.ref (q 0), .int pe, .int d, .int y]) (n := 4) (Nat.le_of_ble_eq_true rfl)
  rw [lg_entry_eq]
  generalize (lg_sl ([.ref (q 0), .int pe, .int d, .int y]) ++ List.replicate (4 - (lg_sl ([.ref (q 0), .int pe, .int d, .int y])).length) Slot.unset).toArray = ls at hl ⊢
  have hl : lv_has ls 4 [(0, .ref (q 0)), (1, .int pe), (2, .int d), (3, .int y)] := hl
  refine z_start2 (A := A) (w := (zM k q z)) hP (fun H locs hP hS => ?_)
  clear hD0 hAe
  refine lv_aload_n hx hb dX7_answer_0 rfl (lv_at hl 0 rfl) ?_
  refine lv_iload_n hx hb dX7_answer_1 rfl (lv_at hl 1 rfl) ?_
  refine lv_iload_n hx hb dX7_answer_2 rfl (lv_at hl 2 rfl) ?_
  refine lv_iload_n hx hb dX7_answer_3 rfl (lv_at hl 3 rfl) ?_
  refine zcA_i (w := (zM k q z)) (va_runV (As := [.int pe, .int d, .int y]) (rest := []) ⟨hx, hb, hml, hown, htb⟩ (c_X7_answersBy l dC dI k q z pe d y _ hI) (cwV 3 htb (gzV wmt4_163 wmt4_165 wmp3_3 wmt1_8 wmt4_166) rfl rfl rfl (by decide +kernel) ⟨Nat.le_of_ble_eq_true rfl, Nat.le_of_ble_eq_true rfl⟩) (zpA_V (ci := 7) (q0 := 0) hK hP (hDa _) rfl rfl) rfl rfl hl.1 rfl (lv_room (Nat.le_of_ble_eq_true rfl)) dX7_answer_4 ⟨Nat.le_of_ble_eq_true rfl, Nat.le_of_ble_eq_true rfl⟩) (hDa _) hS hA (fun r_1 u_2 H locs w_3 hP _ hS => ?_)
  obtain ⟨o4_4, o5_5, o6_6, o7_7, o8_8, o9_9, o10_10, o12_11, o13_12, o14_13, o15_14, o16_15, o17_16, o18_17, o22_18, o23_19, o24_20, o25_21, o26_22, o27_23⟩ := u_2
  have hP : va_P (dC, dI) vwCl (zM k q (sA (sA (sA (sA (sA (sI (sA (sA (sA (sI (sI (sI (sI (sA (sA (sA (sA (sA (sA (sA z 4 o4_4) 5 o5_5) 6 o6_6) 7 o7_7) 8 o8_8) 9 o9_9) 10 o10_10) 12 o12_11) 13 o13_12) 14 o14_13) 15 o15_14) 16 o16_15) 17 o17_16) 18 o18_17) 22 o22_18) 23 o23_19) 24 o24_20) 25 o25_21) 26 o26_22) 27 o27_23)) H := hP
  obtain ⟨h_24, h_25⟩ := w_3
  replace h_24 : MInv (sA (sA (sA (sA (sA (sI (sA (sA (sA (sI (sI (sI (sI (sA (sA (sA (sA (sA (sA (sA z 4 o4_4) 5 o5_5) 6 o6_6) 7 o7_7) 8 o8_8) 9 o9_9) 10 o10_10) 12 o12_11) 13 o13_12) 14 o14_13) 15 o15_14) 16 o16_15) 17 o17_16) 18 o18_17) 22 o22_18) 23 o23_19) 24 o24_20) 25 o25_21) 26 o26_22) 27 o27_23) := h_24
  replace h_25 : (r_1, trM (sA (sA (sA (sA (sA (sI (sA (sA (sA (sI (sI (sI (sI (sA (sA (sA (sA (sA (sA (sA z 4 o4_4) 5 o5_5) 6 o6_6) 7 o7_7) 8 o8_8) 9 o9_9) 10 o10_10) 12 o12_11) 13 o13_12) 14 o14_13) 15 o15_14) 16 o16_15) 17 o17_16) 18 o18_17) 22 o22_18) 23 o23_19) 24 o24_20) 25 o25_21) 26 o26_22) 27 o27_23)) = tAns (trM z) pe d y := h_25
  have hI := h_24
  have hab := h_25
  exact W.iret (v := r_1) hx hb hr (fun t ht hW => ⟨⟨r_1, (o4_4, o5_5, o6_6, o7_7, o8_8, o9_9, o10_10, o12_11, o13_12, o14_13, o15_14, o16_15, o17_16, o18_17, o22_18, o23_19, o24_20, o25_21, o26_22, o27_23), rfl, (show (MInv (sA (sA (sA (sA (sA (sI (sA (sA (sA (sI (sI (sI (sI (sA (sA (sA (sA (sA (sA (sA z 4 o4_4) 5 o5_5) 6 o6_6) 7 o7_7) 8 o8_8) 9 o9_9) 10 o10_10) 12 o12_11) 13 o13_12) 14 o14_13) 15 o15_14) 16 o16_15) 17 o17_16) 18 o18_17) 22 o22_18) 23 o23_19) 24 o24_20) 25 o25_21) 26 o26_22) 27 o27_23)) ∧ ((r_1, trM (sA (sA (sA (sA (sA (sI (sA (sA (sA (sI (sI (sI (sI (sA (sA (sA (sA (sA (sA (sA z 4 o4_4) 5 o5_5) 6 o6_6) 7 o7_7) 8 o8_8) 9 o9_9) 10 o10_10) 12 o12_11) 13 o13_12) 14 o14_13) 15 o15_14) 16 o16_15) 17 o17_16) 18 o18_17) 22 o22_18) 23 o23_19) 24 o24_20) 25 o25_21) 26 o26_22) 27 o27_23)) = tAns (trM z) pe d y) from ⟨hI, hab⟩), ⟨by rw [ht]; exact hP, hDa _⟩⟩, hS.F ht⟩) hS.2.2 dX7_answer_7
set_option maxHeartbeats 4000000 in
set_option maxRecDepth 100000 in
theorem c_X7_meets (l : Launch) (dC : Nat → ClassId) (dI : Nat → Nat → Nat) (k : Nat → ClassId) (q : Nat → Nat) (z : ZS) (n : Int32) (sz : Nat) (hI : MInv z) : Met l yX7_meets (wz yX7_meets cX7_meets 2 (some .int)) ({ frames := 0, cells := 0, slots := 0, locals := 0 }) (va_Pc [.ref (q 0), .int n] (zPre dC dI k (zTX k) (zM k q z) sz)) (va_Qi (fun (r : Int32) (u : Int32) => (MInv (sI z 41 u)) ∧ (r = (-10) - n)) (fun u t => zPost dC dI (va_A (zM k q z) sz) (zM k q (sI z 41 u)) t) (va_A (zM k q z) sz)) 0 0 (va_A (zM k q z) sz) := by
  refine Met.ofW (cc := cX7_meets) (maxL := 2) (ret := (some .int)) (by decide) rfl ?_
  intro p e s m args below meth c s₁ B hml hv
  obtain ⟨rfl, hsz, hP, hK, hD0⟩ := hv
  have hx := B.exec
  have hb := B.bytes
  have hr := B.returns
  have hts := atoms_spec (ws := wz yX7_meets cX7_meets 2 (some .int)) B.pre
  have htb : ∀ w ∈ zw, w.before _ s = true := fun w h => hts w (List.mem_cons_of_mem _ h)
  have hown : s.vm.findClass RX7 = some m.cls := findClass_of_methodNamed B.named
  have hlocks := B.notSynchronized
  clear hts
  subst hsz
  have hD := hD0.self (sz := s.heap.size)
  generalize hAe : va_A (zM k q z) s.heap.size = A at hD ⊢
  have hA : ∀ q : Nat, s.heap.size ≤ q → A q := fun q h => by rw [← hAe]; exact Or.inr h
  have hDa : ∀ z9 : ZS, va_D A (zM k q z9) := fun z9 => va_D_adr (w := zM k q z) rfl hD
  have hl := lv_entry ([.ref (q 0), .int n]) (n := 2) (Nat.le_of_ble_eq_true rfl)
  rw [lg_entry_eq]
  generalize (lg_sl ([.ref (q 0), .int n]) ++ List.replicate (2 - (lg_sl ([.ref (q 0), .int n])).length) Slot.unset).toArray = ls at hl ⊢
  have hl : lv_has ls 2 [(0, .ref (q 0)), (1, .int n)] := hl
  refine z_start2 (A := A) (w := (zM k q z)) hP (fun H locs hP hS => ?_)
  clear hD0 hAe
  refine lv_aload_n hx hb dX7_meets_0 rfl (lv_at hl 0 rfl) ?_
  refine lv_iload_n hx hb dX7_meets_1 rfl (lv_at hl 1 rfl) ?_
  refine va_put (D := (dC, dI)) (ci := 7) (v := .int n) (ty := .int) (C := RX7) (T := TX7) (N := 42) hx hb htb inw7 tyX7 tyX7_ok nmX7 hown hK.1 hP (hDa _) hS 0 rfl rfl 41 (by decide) (htb _ wmt3_208) (fun _ h9 => h9) rfl (by decide +kernel) rfl rfl (Nat.le_of_ble_eq_true rfl) dX7_meets_2 (fun H locs hP _ hS => ?_)
  have hP : va_P (dC, dI) vwCl (zM k q (sI z 41 n)) H := hP
  refine lv_bipush (v := (-10)) hx hb dX7_meets_5 (by decide) ?_
  refine lv_iload_n hx hb dX7_meets_7 rfl (lv_at hl 1 rfl) ?_
  refine lv_isub hx hb dX7_meets_8 ?_
  refine lv_topi (fun x_1 ex_1 => ?_)
  exact W.iret (v := x_1) hx hb hr (fun t ht hW => ⟨⟨x_1, n, rfl, (show (MInv (sI z 41 n)) ∧ (x_1 = (-10) - n) from ⟨hI, ex_1⟩), ⟨by rw [ht]; exact hP, hDa _⟩⟩, hS.F ht⟩) hS.2.2 dX7_meets_9
set_option maxHeartbeats 4000000 in
set_option maxRecDepth 100000 in
theorem c_X7_read (l : Launch) (dC : Nat → ClassId) (dI : Nat → Nat → Nat) (k : Nat → ClassId) (q : Nat → Nat) (z : ZS) (z0 : Int32) (d : Int32) (sz : Nat) (hI : MInv z) (hT3 : T3 (z.2.2.1 37)) : Met l yX7_read (wz yX7_read cX7_read 4 (some .int)) ({ frames := 6, cells := 0, slots := 0, locals := 137 }) (va_Pc [.ref (q 0), .int z0, .int d] (zPre dC dI k (zTX k) (zM k q z) sz)) (va_Qi (fun (r : Int32) (u : (Nat → Int32) × (Nat → Int32) × (Nat → Int32) × (Nat → Int32) × (Nat → Int32) × (Nat → Int32) × (Nat → Int32) × Int32 × Int32 × Int32 × Int32 × (Nat → Int32) × (Nat → Int32) × (Nat → Int32) × Int32 × (Nat → Int32) × (Nat → Int32) × (Nat → Int32) × (Nat → Int32) × (Nat → Int32) × Int32) => (MInv (sI (sA (sA (sA (sA (sA (sI (sA (sA (sA (sI (sI (sI (sI (sA (sA (sA (sA (sA (sA (sA z 4 u.1) 5 u.2.1) 6 u.2.2.1) 7 u.2.2.2.1) 8 u.2.2.2.2.1) 9 u.2.2.2.2.2.1) 10 u.2.2.2.2.2.2.1) 12 u.2.2.2.2.2.2.2.1) 13 u.2.2.2.2.2.2.2.2.1) 14 u.2.2.2.2.2.2.2.2.2.1) 15 u.2.2.2.2.2.2.2.2.2.2.1) 16 u.2.2.2.2.2.2.2.2.2.2.2.1) 17 u.2.2.2.2.2.2.2.2.2.2.2.2.1) 18 u.2.2.2.2.2.2.2.2.2.2.2.2.2.1) 22 u.2.2.2.2.2.2.2.2.2.2.2.2.2.2.1) 23 u.2.2.2.2.2.2.2.2.2.2.2.2.2.2.2.1) 24 u.2.2.2.2.2.2.2.2.2.2.2.2.2.2.2.2.1) 25 u.2.2.2.2.2.2.2.2.2.2.2.2.2.2.2.2.2.1) 26 u.2.2.2.2.2.2.2.2.2.2.2.2.2.2.2.2.2.2.1) 27 u.2.2.2.2.2.2.2.2.2.2.2.2.2.2.2.2.2.2.2.1) 41 u.2.2.2.2.2.2.2.2.2.2.2.2.2.2.2.2.2.2.2.2)) ∧ ((r, trM (sI (sA (sA (sA (sA (sA (sI (sA (sA (sA (sI (sI (sI (sI (sA (sA (sA (sA (sA (sA (sA z 4 u.1) 5 u.2.1) 6 u.2.2.1) 7 u.2.2.2.1) 8 u.2.2.2.2.1) 9 u.2.2.2.2.2.1) 10 u.2.2.2.2.2.2.1) 12 u.2.2.2.2.2.2.2.1) 13 u.2.2.2.2.2.2.2.2.1) 14 u.2.2.2.2.2.2.2.2.2.1) 15 u.2.2.2.2.2.2.2.2.2.2.1) 16 u.2.2.2.2.2.2.2.2.2.2.2.1) 17 u.2.2.2.2.2.2.2.2.2.2.2.2.1) 18 u.2.2.2.2.2.2.2.2.2.2.2.2.2.1) 22 u.2.2.2.2.2.2.2.2.2.2.2.2.2.2.1) 23 u.2.2.2.2.2.2.2.2.2.2.2.2.2.2.2.1) 24 u.2.2.2.2.2.2.2.2.2.2.2.2.2.2.2.2.1) 25 u.2.2.2.2.2.2.2.2.2.2.2.2.2.2.2.2.2.1) 26 u.2.2.2.2.2.2.2.2.2.2.2.2.2.2.2.2.2.2.1) 27 u.2.2.2.2.2.2.2.2.2.2.2.2.2.2.2.2.2.2.2.1) 41 u.2.2.2.2.2.2.2.2.2.2.2.2.2.2.2.2.2.2.2.2)) = tRead (trM z) z0 d)) (fun u t => zPost dC dI (va_A (zM k q z) sz) (zM k q (sI (sA (sA (sA (sA (sA (sI (sA (sA (sA (sI (sI (sI (sI (sA (sA (sA (sA (sA (sA (sA z 4 u.1) 5 u.2.1) 6 u.2.2.1) 7 u.2.2.2.1) 8 u.2.2.2.2.1) 9 u.2.2.2.2.2.1) 10 u.2.2.2.2.2.2.1) 12 u.2.2.2.2.2.2.2.1) 13 u.2.2.2.2.2.2.2.2.1) 14 u.2.2.2.2.2.2.2.2.2.1) 15 u.2.2.2.2.2.2.2.2.2.2.1) 16 u.2.2.2.2.2.2.2.2.2.2.2.1) 17 u.2.2.2.2.2.2.2.2.2.2.2.2.1) 18 u.2.2.2.2.2.2.2.2.2.2.2.2.2.1) 22 u.2.2.2.2.2.2.2.2.2.2.2.2.2.2.1) 23 u.2.2.2.2.2.2.2.2.2.2.2.2.2.2.2.1) 24 u.2.2.2.2.2.2.2.2.2.2.2.2.2.2.2.2.1) 25 u.2.2.2.2.2.2.2.2.2.2.2.2.2.2.2.2.2.1) 26 u.2.2.2.2.2.2.2.2.2.2.2.2.2.2.2.2.2.2.1) 27 u.2.2.2.2.2.2.2.2.2.2.2.2.2.2.2.2.2.2.2.1) 41 u.2.2.2.2.2.2.2.2.2.2.2.2.2.2.2.2.2.2.2.2)) t) (va_A (zM k q z) sz)) 0 0 (va_A (zM k q z) sz) := by
  refine Met.ofW (cc := cX7_read) (maxL := 4) (ret := (some .int)) (by decide) rfl ?_
  intro p e s m args below meth c s₁ B hml hv
  obtain ⟨rfl, hsz, hP, hK, hD0⟩ := hv
  have hx := B.exec
  have hb := B.bytes
  have hr := B.returns
  have hts := atoms_spec (ws := wz yX7_read cX7_read 4 (some .int)) B.pre
  have htb : ∀ w ∈ zw, w.before _ s = true := fun w h => hts w (List.mem_cons_of_mem _ h)
  have hown : s.vm.findClass RX7 = some m.cls := findClass_of_methodNamed B.named
  have hlocks := B.notSynchronized
  clear hts
  subst hsz
  have hD := hD0.self (sz := s.heap.size)
  generalize hAe : va_A (zM k q z) s.heap.size = A at hD ⊢
  have hA : ∀ q : Nat, s.heap.size ≤ q → A q := fun q h => by rw [← hAe]; exact Or.inr h
  have hDa : ∀ z9 : ZS, va_D A (zM k q z9) := fun z9 => va_D_adr (w := zM k q z) rfl hD
  have hl := lv_entry ([.ref (q 0), .int z0, .int d]) (n := 4) (Nat.le_of_ble_eq_true rfl)
  rw [lg_entry_eq]
  generalize (lg_sl ([.ref (q 0), .int z0, .int d]) ++ List.replicate (4 - (lg_sl ([.ref (q 0), .int z0, .int d])).length) Slot.unset).toArray = ls at hl ⊢
  have hl : lv_has ls 4 [(0, .ref (q 0)), (1, .int z0), (2, .int d)] := hl
  refine z_start2 (A := A) (w := (zM k q z)) hP (fun H locs hP hS => ?_)
  clear hD0 hAe
  have hz0 : (0 : Int32).toInt = 0 := by decide
  refine lv_iload_n hx hb dX7_read_0 rfl (lv_at hl 1 rfl) ?_
  refine zc0_i (w := (zM k q z)) (va_runS (As := [.int z0]) (rest := []) ⟨hx, hb, hml, hown, htb⟩ (c_X7_isSheet l dC dI k z0 _ ) (va_cwS 1 htb (gzS wmt4_171 wmt4_172 wmt1_8 wmt4_173) rfl rfl rfl (by decide +kernel) ⟨Nat.le_of_ble_eq_true rfl, Nat.le_of_ble_eq_true rfl⟩) (zp0_S hK) rfl rfl hl.1 rfl (lv_room (Nat.le_of_ble_eq_true rfl)) dX7_read_1 ⟨Nat.le_of_ble_eq_true rfl, Nat.le_of_ble_eq_true rfl⟩) hP hS hA (fun r_1 u_2 H locs w_3 hP hS => ?_)
  rcases w_3 with ⟨e_5, h_4⟩ | ⟨e_7, h_6⟩
  · skip
    replace e_5 : r_1 = 1 := e_5
    subst e_5
    replace h_4 : 0 ≤ z0.toInt ∧ z0.toInt < 4 := h_4
    refine lv_if_eq (tgt := 14) hx hb dX7_read_4 (by decide) (fun c_8 => ?_) (fun c_8 => ?_)
    · skip
      exact absurd c_8 (by decide)
    · skip
      refine lv_iload_n hx hb dX7_read_7 rfl (lv_at hl 2 rfl) ?_
      refine zc0_i (w := (zM k q z)) (va_runS (As := [.int d]) (rest := []) ⟨hx, hb, hml, hown, htb⟩ (c_X7_isDesign l dC dI k d _ ) (va_cwS 1 htb (gzS wmt4_59 wmt4_60 wmt1_8 wmt4_61) rfl rfl rfl (by decide +kernel) ⟨Nat.le_of_ble_eq_true rfl, Nat.le_of_ble_eq_true rfl⟩) (zp0_S hK) rfl rfl hl.1 rfl (lv_room (Nat.le_of_ble_eq_true rfl)) dX7_read_8 ⟨Nat.le_of_ble_eq_true rfl, Nat.le_of_ble_eq_true rfl⟩) hP hS hA (fun r_9 u_10 H locs w_11 hP hS => ?_)
      rcases w_11 with ⟨e_13, h_12⟩ | ⟨e_15, h_14⟩
      · skip
        replace e_13 : r_9 = 1 := e_13
        subst e_13
        replace h_12 : 0 ≤ d.toInt ∧ d.toInt < 4 := h_12
        refine lv_if_ne (tgt := 17) hx hb dX7_read_11 (by decide) (fun c_16 => ?_) (fun c_16 => ?_)
        · skip
          refine lv_aload_n hx hb dX7_read_17 rfl (lv_at hl 0 rfl) ?_
          refine va_get (D := (dC, dI)) (ci := 7) (v := .ref (q 36)) (C := RX7) (T := TX7) (N := 42) hx hb htb inw7 hown hK.1 hP 0 rfl rfl 36 (by decide) (htb _ wmt3_203) (fun _ h9 => h9) rfl dX7_read_18 ?_
          refine lv_iload_n hx hb dX7_read_21 rfl (lv_at hl 1 rfl) ?_
          refine va_zald (D := (dC, dI)) hx hb hK.1 hP 20 2 rfl rfl (z_in (by omega)) dX7_read_22 ?_
          refine lv_topi (fun x_17 ex_17 => ?_)
          have hx_17 : x_17.toInt = ((z.2.2.1 36) z0.toNatClampNeg).toInt := by rw [ex_17]
          refine lv_if_ne (tgt := 32) hx hb dX7_read_23 (by decide) (fun c_18 => ?_) (fun c_18 => ?_)
          · skip
            have hc_18 := zb_ne rfl (show (0 : Int32).toInt = 0 by decide) c_18
            refine lv_aload_n hx hb dX7_read_32 rfl (lv_at hl 0 rfl) ?_
            refine lv_iload_n hx hb dX7_read_33 rfl (lv_at hl 2 rfl) ?_
            refine zcA_i (w := (zM k q z)) (va_runV (As := [.int d]) (rest := []) ⟨hx, hb, hml, hown, htb⟩ (c_X7_faultOf l dC dI k q z d _ hI (show 0 ≤ d.toInt ∧ d.toInt < 4 by omega)) (cwV 1 htb (gzV wmt4_73 wmt4_75 wmp2_6 wmt1_8 wmt4_76) rfl rfl rfl (by decide +kernel) ⟨Nat.le_of_ble_eq_true rfl, Nat.le_of_ble_eq_true rfl⟩) (zpA_V (ci := 7) (q0 := 0) hK hP (hDa _) rfl rfl) rfl rfl hl.1 rfl (lv_room (Nat.le_of_ble_eq_true rfl)) dX7_read_34 ⟨Nat.le_of_ble_eq_true rfl, Nat.le_of_ble_eq_true rfl⟩) (hDa _) hS hA (fun r_19 u_20 H locs w_21 hP _ hS => ?_)
            obtain ⟨o4_22, o5_23, o6_24, o7_25, o8_26, o9_27, o10_28, o12_29, o13_30, o14_31, o15_32, o16_33, o17_34, o18_35⟩ := u_20
            have hP : va_P (dC, dI) vwCl (zM k q (sA (sA (sA (sI (sI (sI (sI (sA (sA (sA (sA (sA (sA (sA z 4 o4_22) 5 o5_23) 6 o6_24) 7 o7_25) 8 o8_26) 9 o9_27) 10 o10_28) 12 o12_29) 13 o13_30) 14 o14_31) 15 o15_32) 16 o16_33) 17 o17_34) 18 o18_35)) H := hP
            obtain ⟨h_36, h_37, h_38, h_39, h_40⟩ := w_21
            replace h_36 : MD (FR ((z.2.2.1 2)) ((z.2.2.1 3))) o4_22 o5_23 o6_24 o7_25 o8_26 o9_27 o10_28 := h_36
            replace h_37 : ¬ o4_22 d.toNatClampNeg = 0 := h_37
            replace h_38 : RK ((z.2.2.1 4)) ((z.2.2.1 5)) o4_22 o5_23 := h_38
            replace h_39 : R7 ((z.2.2.1 4)) ((z.2.2.1 6)) ((z.2.2.1 7)) ((z.2.2.1 8)) ((z.2.2.1 9)) ((z.2.2.1 10)) o6_24 o7_25 o8_26 o9_27 o10_28 := h_39
            replace h_40 : r_19 = o5_23 d.toNatClampNeg := h_40
            have hI : MInv (sA (sA (sA (sI (sI (sI (sI (sA (sA (sA (sA (sA (sA (sA z 4 o4_22) 5 o5_23) 6 o6_24) 7 o7_25) 8 o8_26) 9 o9_27) 10 o10_28) 12 o12_29) 13 o13_30) 14 o14_31) 15 o15_32) 16 o16_33) 17 o17_34) 18 o18_35) := ⟨hI.1, hI.2.1, hI.2.2.1, hI.2.2.2.1, hI.2.2.2.2.1, h_36⟩
            have hms := MD_at h_36 (show 0 ≤ d.toInt ∧ d.toInt < 4 by omega)
            have hrd := h_37
            have hrk := h_38
            obtain ⟨hw, hff, hfF, hlk⟩ := hms.2.2.2.2.2 h_37
            have hwb := hms.1
            have hr5 : r_19.toInt = (o5_23 d.toNatClampNeg).toInt := by rw [h_40]
            have htF : tF (trM z) d.toNatClampNeg = o5_23 d.toNatClampNeg := (trM_Fg (z_cl4 (show 0 ≤ d.toInt ∧ d.toInt < 4 by omega))).trans (by unfold eF; rw [← hfF, Int32.ofInt_toInt])
            have ho24 := hI.2.2.1
            have hFd : (eF (FR (z.2.2.1 2) (z.2.2.1 3) d.toNatClampNeg)).toInt = (o5_23 d.toNatClampNeg).toInt := congrArg Int32.toInt ((trM_Fg (z := z) (z_cl4 (show 0 ≤ d.toInt ∧ d.toInt < 4 by omega))).symm.trans htF)
            refine lv_iconst (v := (-1)) hx hb dX7_read_37 (by decide) ?_
            refine lv_icmp_eq (tgt := 44) hx hb dX7_read_38 (by decide) (fun c_42 => ?_) (fun c_42 => ?_)
            · skip
              have hc_42 := zb_eq rfl (show ((-1) : Int32).toInt = (-1) by decide) c_42
              refine lv_iconst (v := 0) hx hb dX7_read_44 (by decide) ?_
              refine lv_istore_n (lv' := [(3, .int 0), (0, .ref (q 0)), (1, .int z0), (2, .int d)]) hx hb dX7_read_45 rfl hl (by decide) rfl (fun ls hl => ?_)
              obtain ⟨i, ei⟩ : ∃ x : Int32, 0 = x := ⟨_, rfl⟩
              obtain ⟨co4, eco4⟩ : ∃ x : Nat → Int32, o4_22 = x := ⟨_, rfl⟩
              obtain ⟨co5, eco5⟩ : ∃ x : Nat → Int32, o5_23 = x := ⟨_, rfl⟩
              obtain ⟨co6, eco6⟩ : ∃ x : Nat → Int32, o6_24 = x := ⟨_, rfl⟩
              obtain ⟨co7, eco7⟩ : ∃ x : Nat → Int32, o7_25 = x := ⟨_, rfl⟩
              obtain ⟨co8, eco8⟩ : ∃ x : Nat → Int32, o8_26 = x := ⟨_, rfl⟩
              obtain ⟨co9, eco9⟩ : ∃ x : Nat → Int32, o9_27 = x := ⟨_, rfl⟩
              obtain ⟨co10, eco10⟩ : ∃ x : Nat → Int32, o10_28 = x := ⟨_, rfl⟩
              obtain ⟨co12, eco12⟩ : ∃ x : Int32, o12_29 = x := ⟨_, rfl⟩
              obtain ⟨co13, eco13⟩ : ∃ x : Int32, o13_30 = x := ⟨_, rfl⟩
              obtain ⟨co14, eco14⟩ : ∃ x : Int32, o14_31 = x := ⟨_, rfl⟩
              obtain ⟨co15, eco15⟩ : ∃ x : Int32, o15_32 = x := ⟨_, rfl⟩
              obtain ⟨co16, eco16⟩ : ∃ x : Nat → Int32, o16_33 = x := ⟨_, rfl⟩
              obtain ⟨co17, eco17⟩ : ∃ x : Nat → Int32, o17_34 = x := ⟨_, rfl⟩
              obtain ⟨co18, eco18⟩ : ∃ x : Nat → Int32, o18_35 = x := ⟨_, rfl⟩
              obtain ⟨co22, eco22⟩ : ∃ x : Int32, z.1 22 = x := ⟨_, rfl⟩
              obtain ⟨co23, eco23⟩ : ∃ x : Nat → Int32, z.2.2.1 23 = x := ⟨_, rfl⟩
              obtain ⟨co24, eco24⟩ : ∃ x : Nat → Int32, z.2.2.1 24 = x := ⟨_, rfl⟩
              obtain ⟨co25, eco25⟩ : ∃ x : Nat → Int32, z.2.2.1 25 = x := ⟨_, rfl⟩
              obtain ⟨co26, eco26⟩ : ∃ x : Nat → Int32, z.2.2.1 26 = x := ⟨_, rfl⟩
              obtain ⟨co27, eco27⟩ : ∃ x : Nat → Int32, z.2.2.1 27 = x := ⟨_, rfl⟩
              have hv46 : (0 ≤ i.toInt ∧ i.toInt ≤ 30) ∧ (i.toInt ≤ (z.2.2.1 38 z0.toNatClampNeg).toInt / 2) ∧ (MInv (sA (sA (sA (sA (sA (sI (sA (sA (sA (sI (sI (sI (sI (sA (sA (sA (sA (sA (sA (sA z 4 co4) 5 co5) 6 co6) 7 co7) 8 co8) 9 co9) 10 co10) 12 co12) 13 co13) 14 co14) 15 co15) 16 co16) 17 co17) 18 co18) 22 co22) 23 co23) 24 co24) 25 co25) 26 co26) 27 co27)) ∧ (rdL z0.toNatClampNeg ((z.2.2.1 38 z0.toNatClampNeg).toInt / 2 - i.toInt).toNat i.toNatClampNeg (trM (sA (sA (sA (sA (sA (sI (sA (sA (sA (sI (sI (sI (sI (sA (sA (sA (sA (sA (sA (sA z 4 co4) 5 co5) 6 co6) 7 co7) 8 co8) 9 co9) 10 co10) 12 co12) 13 co13) 14 co14) 15 co15) 16 co16) 17 co17) 18 co18) 22 co22) 23 co23) 24 co24) 25 co25) 26 co26) 27 co27)) = rdL z0.toNatClampNeg ((z.2.2.1 38 z0.toNatClampNeg).toInt / 2).toNat 0 (trM z)) := by subst ei eco4 eco5 eco6 eco7 eco8 eco9 eco10 eco12 eco13 eco14 eco15 eco16 eco17 eco18 eco22 eco23 eco24 eco25 eco26 eco27; exact ⟨(by decide), (by have q := M4_at (show M4 (z.2.2.1 38) from hI.2.2.2.2.1) (show 0 ≤ z0.toInt ∧ z0.toInt < 4 by omega); omega), hI, (by rw [show (0 : Int32).toInt = 0 by decide, show (0 : Int32).toNatClampNeg = 0 by decide, Int.sub_zero]; rfl)⟩
              replace hl : lv_has ls 4 [(3, .int i), (0, .ref (q 0)), (1, .int z0), (2, .int d)] := by subst ei eco4 eco5 eco6 eco7 eco8 eco9 eco10 eco12 eco13 eco14 eco15 eco16 eco17 eco18 eco22 eco23 eco24 eco25 eco26 eco27; exact hl
              replace hP : va_P (dC, dI) vwCl (zM k q (sA (sA (sA (sA (sA (sI (sA (sA (sA (sI (sI (sI (sI (sA (sA (sA (sA (sA (sA (sA z 4 co4) 5 co5) 6 co6) 7 co7) 8 co8) 9 co9) 10 co10) 12 co12) 13 co13) 14 co14) 15 co15) 16 co16) 17 co17) 18 co18) 22 co22) 23 co23) 24 co24) 25 co25) 26 co26) 27 co27)) H := by subst eco4 eco5 eco6 eco7 eco8 eco9 eco10 eco12 eco13 eco14 eco15 eco16 eco17 eco18 eco22 eco23 eco24 eco25 eco26 eco27; exact hP
              clear ei eco4 eco5 eco6 eco7 eco8 eco9 eco10 eco12 eco13 eco14 eco15 eco16 eco17 eco18 eco22 eco23 eco24 eco25 eco26 eco27
              obtain ⟨mm46, hm46⟩ : ∃ mm : Nat, mm = (30 - i.toInt).toNat := ⟨_, rfl⟩
              refine z_cut2 hP hS hl ?_
              clear hl hP
              intro H locs ls hP hS hl
              induction mm46 using Nat.strongRecOn generalizing i co4 co5 co6 co7 co8 co9 co10 co12 co13 co14 co15 co16 co17 co18 co22 co23 co24 co25 co26 co27 H locs ls with
              | _ mm46 ih46 =>
                obtain ⟨hi, hi2, hI1, hR⟩ := hv46
                have hI := hI1
                refine lv_iconst (v := 2) hx hb dX7_read_46 (by decide) ?_
                refine lv_iload_n hx hb dX7_read_47 rfl (lv_at hl 0 rfl) ?_
                refine lv_imul hx hb dX7_read_48 ?_
                refine lv_topi (fun x_43 ex_43 => ?_)
                have hx_43 := z_mul ex_43 (show (2 : Int32).toInt = 2 by decide) rfl (by omega)
                refine lv_iconst (v := 1) hx hb dX7_read_49 (by decide) ?_
                refine lv_iadd hx hb dX7_read_50 ?_
                refine lv_topi (fun x_44 ex_44 => ?_)
                have hx_44 := z_add ex_44 rfl (show (1 : Int32).toInt = 1 by decide) (by omega)
                refine lv_aload_n hx hb dX7_read_51 rfl (lv_at hl 1 rfl) ?_
                refine va_get (D := (dC, dI)) (ci := 7) (v := .ref (q 38)) (C := RX7) (T := TX7) (N := 42) hx hb htb inw7 hown hK.1 hP 0 rfl rfl 38 (by decide) (htb _ wmt3_205) (fun _ h9 => h9) rfl dX7_read_52 ?_
                refine lv_iload_n hx hb dX7_read_55 rfl (lv_at hl 2 rfl) ?_
                refine va_iald (D := (dC, dI)) hx hb hK.1 hP 22 0 rfl rfl (z_in (by omega)) dX7_read_56 ?_
                refine lv_topi (fun x_45 ex_45 => ?_)
                replace ex_45 : x_45 = (z.2.2.1 38) z0.toNatClampNeg := ex_45
                have hx_45 : x_45.toInt = ((z.2.2.1 38) z0.toNatClampNeg).toInt := by rw [ex_45]
                have hmx_45 := M4_at (show M4 (z.2.2.1 38) from hI.2.2.2.2.1) (show 0 ≤ z0.toInt ∧ z0.toInt < 4 by omega)
                refine lv_icmp_ge (tgt := 102) hx hb dX7_read_57 (by decide) (fun c_46 => ?_) (fun c_46 => ?_)
                · skip
                  have hc_46 := zb_le rfl rfl c_46
                  refine lv_iload_n hx hb dX7_read_102 rfl (lv_at hl 0 rfl) ?_
                  exact W.iret (v := i) hx hb hr (fun t ht hW => ⟨⟨i, (co4, co5, co6, co7, co8, co9, co10, co12, co13, co14, co15, co16, co17, co18, co22, co23, co24, co25, co26, co27, z.1 41), rfl, (show (MInv (sI (sA (sA (sA (sA (sA (sI (sA (sA (sA (sI (sI (sI (sI (sA (sA (sA (sA (sA (sA (sA z 4 co4) 5 co5) 6 co6) 7 co7) 8 co8) 9 co9) 10 co10) 12 co12) 13 co13) 14 co14) 15 co15) 16 co16) 17 co17) 18 co18) 22 co22) 23 co23) 24 co24) 25 co25) 26 co26) 27 co27) 41 (z.1 41))) ∧ ((i, trM (sI (sA (sA (sA (sA (sA (sI (sA (sA (sA (sI (sI (sI (sI (sA (sA (sA (sA (sA (sA (sA z 4 co4) 5 co5) 6 co6) 7 co7) 8 co8) 9 co9) 10 co10) 12 co12) 13 co13) 14 co14) 15 co15) 16 co16) 17 co17) 18 co18) 22 co22) 23 co23) 24 co24) 25 co25) 26 co26) 27 co27) 41 (z.1 41))) = tRead (trM z) z0 d) from ⟨hI, tRead_0 (m := z0.toNatClampNeg) (n := d.toNatClampNeg) (by omega) rfl rfl ((trM_Kg (z_cl4 (show 0 ≤ z0.toInt ∧ z0.toInt < 4 by omega))).1.trans (kM_in (by omega)).1) (by have q := hT3 _ (z_cl4 (show 0 ≤ z0.toInt ∧ z0.toInt < 4 by omega)); omega) htF (by omega) (show ((z.2.2.1 38 z0.toNatClampNeg).toInt / 2).toNat = ((tN (trM z) z0.toNatClampNeg).toInt / 2).toNat by rw [show tN (trM z) z0.toNatClampNeg = z.2.2.1 38 z0.toNatClampNeg from (trM_Kg (z_cl4 (show 0 ≤ z0.toInt ∧ z0.toInt < 4 by omega))).2.trans (kM_in (by omega)).2]) rfl (hR.symm.trans (by rw [show ((z.2.2.1 38 z0.toNatClampNeg).toInt / 2 - i.toInt).toNat = 0 by omega, rdL_0]; rfl)) (by omega)⟩), ⟨by rw [ht]; exact hP, hDa _⟩⟩, hS.F ht⟩) hS.2.2 dX7_read_103
                · skip
                  have hc_46 := zb_nle rfl rfl c_46
                  refine lv_aload_n hx hb dX7_read_60 rfl (lv_at hl 1 rfl) ?_
                  refine lv_aload_n hx hb dX7_read_61 rfl (lv_at hl 1 rfl) ?_
                  refine va_get (D := (dC, dI)) (ci := 7) (v := .ref (q 39)) (C := RX7) (T := TX7) (N := 42) hx hb htb inw7 hown hK.1 hP 0 rfl rfl 39 (by decide) (htb _ wmt3_206) (fun _ h9 => h9) rfl dX7_read_62 ?_
                  refine lv_bipush (v := 60) hx hb dX7_read_65 (by decide) ?_
                  refine lv_iload_n hx hb dX7_read_67 rfl (lv_at hl 2 rfl) ?_
                  refine lv_imul hx hb dX7_read_68 ?_
                  refine lv_topi (fun x_47 ex_47 => ?_)
                  have hx_47 := z_mul ex_47 (show (60 : Int32).toInt = 60 by decide) rfl (by omega)
                  refine lv_iconst (v := 2) hx hb dX7_read_69 (by decide) ?_
                  refine lv_iload_n hx hb dX7_read_70 rfl (lv_at hl 0 rfl) ?_
                  refine lv_imul hx hb dX7_read_71 ?_
                  refine lv_topi (fun x_48 ex_48 => ?_)
                  have hx_48 := z_mul ex_48 (show (2 : Int32).toInt = 2 by decide) rfl (by omega)
                  refine lv_iadd hx hb dX7_read_72 ?_
                  refine lv_topi (fun x_49 ex_49 => ?_)
                  have hx_49 := z_add ex_49 rfl rfl (by omega)
                  refine va_iald (D := (dC, dI)) hx hb hK.1 hP 23 0 rfl rfl (z_in (by omega)) dX7_read_73 ?_
                  refine lv_topi (fun x_50 ex_50 => ?_)
                  replace ex_50 : x_50 = (z.2.2.1 39) x_49.toNatClampNeg := ex_50
                  have hit0 : ITr (z.2.2.1 39) z0.toNatClampNeg (2 * i.toNatClampNeg) = cI x_50 := by rw [ITr_at (by have q1 := z_clamp (x := i) (by omega); omega), ex_50, show x_49.toNatClampNeg = 60 * z0.toNatClampNeg + (2 * i.toNatClampNeg) by have q1 := z_clamp (x := i) (by omega); have q2 := z_clamp (x := x_49) (by omega); have q3 := z_clamp (x := z0) (by omega); omega]
                  refine lv_iload_n hx hb dX7_read_74 rfl (lv_at hl 3 rfl) ?_
                  refine lv_aload_n hx hb dX7_read_75 rfl (lv_at hl 1 rfl) ?_
                  refine va_get (D := (dC, dI)) (ci := 7) (v := .ref (q 39)) (C := RX7) (T := TX7) (N := 42) hx hb htb inw7 hown hK.1 hP 0 rfl rfl 39 (by decide) (htb _ wmt3_206) (fun _ h9 => h9) rfl dX7_read_76 ?_
                  refine lv_bipush (v := 60) hx hb dX7_read_79 (by decide) ?_
                  refine lv_iload_n hx hb dX7_read_81 rfl (lv_at hl 2 rfl) ?_
                  refine lv_imul hx hb dX7_read_82 ?_
                  refine lv_topi (fun x_51 ex_51 => ?_)
                  have hx_51 := z_mul ex_51 (show (60 : Int32).toInt = 60 by decide) rfl (by omega)
                  refine lv_iconst (v := 2) hx hb dX7_read_83 (by decide) ?_
                  refine lv_iload_n hx hb dX7_read_84 rfl (lv_at hl 0 rfl) ?_
                  refine lv_imul hx hb dX7_read_85 ?_
                  refine lv_topi (fun x_52 ex_52 => ?_)
                  have hx_52 := z_mul ex_52 (show (2 : Int32).toInt = 2 by decide) rfl (by omega)
                  refine lv_iadd hx hb dX7_read_86 ?_
                  refine lv_topi (fun x_53 ex_53 => ?_)
                  have hx_53 := z_add ex_53 rfl rfl (by omega)
                  refine lv_iconst (v := 1) hx hb dX7_read_87 (by decide) ?_
                  refine lv_iadd hx hb dX7_read_88 ?_
                  refine lv_topi (fun x_54 ex_54 => ?_)
                  have hx_54 := z_add ex_54 rfl (show (1 : Int32).toInt = 1 by decide) (by omega)
                  refine va_iald (D := (dC, dI)) hx hb hK.1 hP 23 0 rfl rfl (z_in (by omega)) dX7_read_89 ?_
                  refine lv_topi (fun x_55 ex_55 => ?_)
                  replace ex_55 : x_55 = (z.2.2.1 39) x_54.toNatClampNeg := ex_55
                  have hit1 : ITr (z.2.2.1 39) z0.toNatClampNeg (2 * i.toNatClampNeg + 1) = cI x_55 := by rw [ITr_at (by have q1 := z_clamp (x := i) (by omega); omega), ex_55, show x_54.toNatClampNeg = 60 * z0.toNatClampNeg + (2 * i.toNatClampNeg + 1) by have q1 := z_clamp (x := i) (by omega); have q2 := z_clamp (x := x_54) (by omega); have q3 := z_clamp (x := z0) (by omega); omega]
                  refine zcA_i (w := (zM k q (sA (sA (sA (sA (sA (sI (sA (sA (sA (sI (sI (sI (sI (sA (sA (sA (sA (sA (sA (sA z 4 co4) 5 co5) 6 co6) 7 co7) 8 co8) 9 co9) 10 co10) 12 co12) 13 co13) 14 co14) 15 co15) 16 co16) 17 co17) 18 co18) 22 co22) 23 co23) 24 co24) 25 co25) 26 co26) 27 co27))) (va_runV (As := [.int x_50, .int d, .int x_55]) (rest := []) ⟨hx, hb, hml, hown, htb⟩ (c_X7_answersBy l dC dI k q (sA (sA (sA (sA (sA (sI (sA (sA (sA (sI (sI (sI (sI (sA (sA (sA (sA (sA (sA (sA z 4 co4) 5 co5) 6 co6) 7 co7) 8 co8) 9 co9) 10 co10) 12 co12) 13 co13) 14 co14) 15 co15) 16 co16) 17 co17) 18 co18) 22 co22) 23 co23) 24 co24) 25 co25) 26 co26) 27 co27) x_50 d x_55 _ hI) (cwV 3 htb (gzV wmt4_163 wmt4_165 wmp3_3 wmt1_8 wmt4_166) rfl rfl rfl (by decide +kernel) ⟨Nat.le_of_ble_eq_true rfl, Nat.le_of_ble_eq_true rfl⟩) (zpA_V (ci := 7) (q0 := 0) hK hP (hDa _) rfl rfl) rfl rfl hl.1 rfl (lv_room (Nat.le_of_ble_eq_true rfl)) dX7_read_90 ⟨Nat.le_of_ble_eq_true rfl, Nat.le_of_ble_eq_true rfl⟩) (hDa _) hS hA (fun r_56 u_57 H locs w_58 hP _ hS => ?_)
                  obtain ⟨o4_59, o5_60, o6_61, o7_62, o8_63, o9_64, o10_65, o12_66, o13_67, o14_68, o15_69, o16_70, o17_71, o18_72, o22_73, o23_74, o24_75, o25_76, o26_77, o27_78⟩ := u_57
                  have hP : va_P (dC, dI) vwCl (zM k q (sA (sA (sA (sA (sA (sI (sA (sA (sA (sI (sI (sI (sI (sA (sA (sA (sA (sA (sA (sA z 4 o4_59) 5 o5_60) 6 o6_61) 7 o7_62) 8 o8_63) 9 o9_64) 10 o10_65) 12 o12_66) 13 o13_67) 14 o14_68) 15 o15_69) 16 o16_70) 17 o17_71) 18 o18_72) 22 o22_73) 23 o23_74) 24 o24_75) 25 o25_76) 26 o26_77) 27 o27_78)) H := hP
                  obtain ⟨h_79, h_80⟩ := w_58
                  replace h_79 : MInv (sA (sA (sA (sA (sA (sI (sA (sA (sA (sI (sI (sI (sI (sA (sA (sA (sA (sA (sA (sA (sA (sA (sA (sA (sA (sI (sA (sA (sA (sI (sI (sI (sI (sA (sA (sA (sA (sA (sA (sA z 4 co4) 5 co5) 6 co6) 7 co7) 8 co8) 9 co9) 10 co10) 12 co12) 13 co13) 14 co14) 15 co15) 16 co16) 17 co17) 18 co18) 22 co22) 23 co23) 24 co24) 25 co25) 26 co26) 27 co27) 4 o4_59) 5 o5_60) 6 o6_61) 7 o7_62) 8 o8_63) 9 o9_64) 10 o10_65) 12 o12_66) 13 o13_67) 14 o14_68) 15 o15_69) 16 o16_70) 17 o17_71) 18 o18_72) 22 o22_73) 23 o23_74) 24 o24_75) 25 o25_76) 26 o26_77) 27 o27_78) := h_79
                  replace h_80 : (r_56, trM (sA (sA (sA (sA (sA (sI (sA (sA (sA (sI (sI (sI (sI (sA (sA (sA (sA (sA (sA (sA (sA (sA (sA (sA (sA (sI (sA (sA (sA (sI (sI (sI (sI (sA (sA (sA (sA (sA (sA (sA z 4 co4) 5 co5) 6 co6) 7 co7) 8 co8) 9 co9) 10 co10) 12 co12) 13 co13) 14 co14) 15 co15) 16 co16) 17 co17) 18 co18) 22 co22) 23 co23) 24 co24) 25 co25) 26 co26) 27 co27) 4 o4_59) 5 o5_60) 6 o6_61) 7 o7_62) 8 o8_63) 9 o9_64) 10 o10_65) 12 o12_66) 13 o13_67) 14 o14_68) 15 o15_69) 16 o16_70) 17 o17_71) 18 o18_72) 22 o22_73) 23 o23_74) 24 o24_75) 25 o25_76) 26 o26_77) 27 o27_78)) = tAns (trM (sA (sA (sA (sA (sA (sI (sA (sA (sA (sI (sI (sI (sI (sA (sA (sA (sA (sA (sA (sA z 4 co4) 5 co5) 6 co6) 7 co7) 8 co8) 9 co9) 10 co10) 12 co12) 13 co13) 14 co14) 15 co15) 16 co16) 17 co17) 18 co18) 22 co22) 23 co23) 24 co24) 25 co25) 26 co26) 27 co27)) x_50 d x_55 := h_80
                  have hIo := hI
                  have hI := h_79
                  have hab := h_80
                  refine lv_if_lt (tgt := 102) hx hb dX7_read_93 (by decide) (fun c_82 => ?_) (fun c_82 => ?_)
                  · skip
                    have hc_82 := zb_lt rfl (show (0 : Int32).toInt = 0 by decide) c_82
                    refine lv_iload_n hx hb dX7_read_102 rfl (lv_at hl 0 rfl) ?_
                    exact W.iret (v := i) hx hb hr (fun t ht hW => ⟨⟨i, (o4_59, o5_60, o6_61, o7_62, o8_63, o9_64, o10_65, o12_66, o13_67, o14_68, o15_69, o16_70, o17_71, o18_72, o22_73, o23_74, o24_75, o25_76, o26_77, o27_78, z.1 41), rfl, (show (MInv (sI (sA (sA (sA (sA (sA (sI (sA (sA (sA (sI (sI (sI (sI (sA (sA (sA (sA (sA (sA (sA z 4 o4_59) 5 o5_60) 6 o6_61) 7 o7_62) 8 o8_63) 9 o9_64) 10 o10_65) 12 o12_66) 13 o13_67) 14 o14_68) 15 o15_69) 16 o16_70) 17 o17_71) 18 o18_72) 22 o22_73) 23 o23_74) 24 o24_75) 25 o25_76) 26 o26_77) 27 o27_78) 41 (z.1 41))) ∧ ((i, trM (sI (sA (sA (sA (sA (sA (sI (sA (sA (sA (sI (sI (sI (sI (sA (sA (sA (sA (sA (sA (sA z 4 o4_59) 5 o5_60) 6 o6_61) 7 o7_62) 8 o8_63) 9 o9_64) 10 o10_65) 12 o12_66) 13 o13_67) 14 o14_68) 15 o15_69) 16 o16_70) 17 o17_71) 18 o18_72) 22 o22_73) 23 o23_74) 24 o24_75) 25 o25_76) 26 o26_77) 27 o27_78) 41 (z.1 41))) = tRead (trM z) z0 d) from ⟨hI, tRead_0 (m := z0.toNatClampNeg) (n := d.toNatClampNeg) (by omega) rfl rfl ((trM_Kg (z_cl4 (show 0 ≤ z0.toInt ∧ z0.toInt < 4 by omega))).1.trans (kM_in (by omega)).1) (by have q := hT3 _ (z_cl4 (show 0 ≤ z0.toInt ∧ z0.toInt < 4 by omega)); omega) htF (by omega) (show ((z.2.2.1 38 z0.toNatClampNeg).toInt / 2).toNat = ((tN (trM z) z0.toNatClampNeg).toInt / 2).toNat by rw [show tN (trM z) z0.toNatClampNeg = z.2.2.1 38 z0.toNatClampNeg from (trM_Kg (z_cl4 (show 0 ≤ z0.toInt ∧ z0.toInt < 4 by omega))).2.trans (kM_in (by omega)).2]) rfl (hR.symm.trans ((rd_no rfl (rdA_no (s := z0.toNatClampNeg) (i := i.toNatClampNeg) hab (show 0 ≤ d.toInt ∧ d.toInt < 4 by omega) rfl ((congrArg Int32.toInt (trM_Fg (z := (sA (sA (sA (sA (sA (sI (sA (sA (sA (sI (sI (sI (sI (sA (sA (sA (sA (sA (sA (sA z 4 co4) 5 co5) 6 co6) 7 co7) 8 co8) 9 co9) 10 co10) 12 co12) 13 co13) 14 co14) 15 co15) 16 co16) 17 co17) 18 co18) 22 co22) 23 co23) 24 co24) 25 co25) 26 co26) 27 co27)) (z_cl4 (show 0 ≤ d.toInt ∧ d.toInt < 4 by omega)))).trans (hFd.trans (by omega))) (by omega) (show 0 ≤ (tNA (trM (sA (sA (sA (sA (sA (sI (sA (sA (sA (sI (sI (sI (sI (sA (sA (sA (sA (sA (sA (sA z 4 co4) 5 co5) 6 co6) 7 co7) 8 co8) 9 co9) 10 co10) 12 co12) 13 co13) 14 co14) 15 co15) 16 co16) 17 co17) 18 co18) 22 co22) 23 co23) 24 co24) 25 co25) 26 co26) 27 co27))).toInt from hIo.1.1.1) ((congrFun (trM_Ig (z := (sA (sA (sA (sA (sA (sI (sA (sA (sA (sI (sI (sI (sI (sA (sA (sA (sA (sA (sA (sA z 4 co4) 5 co5) 6 co6) 7 co7) 8 co8) 9 co9) 10 co10) 12 co12) 13 co13) 14 co14) 15 co15) 16 co16) 17 co17) 18 co18) 22 co22) 23 co23) 24 co24) 25 co25) 26 co26) 27 co27)) (z_cl4 (show 0 ≤ z0.toInt ∧ z0.toInt < 4 by omega))) _).trans hit0) ((congrFun (trM_Ig (z := (sA (sA (sA (sA (sA (sI (sA (sA (sA (sI (sI (sI (sI (sA (sA (sA (sA (sA (sA (sA z 4 co4) 5 co5) 6 co6) 7 co7) 8 co8) 9 co9) 10 co10) 12 co12) 13 co13) 14 co14) 15 co15) 16 co16) 17 co17) 18 co18) 22 co22) 23 co23) 24 co24) 25 co25) 26 co26) 27 co27)) (z_cl4 (show 0 ≤ z0.toInt ∧ z0.toInt < 4 by omega))) _).trans hit1)).2).trans (congrArg (Prod.mk _) (rdA_no (s := z0.toNatClampNeg) (i := i.toNatClampNeg) hab (show 0 ≤ d.toInt ∧ d.toInt < 4 by omega) rfl ((congrArg Int32.toInt (trM_Fg (z := (sA (sA (sA (sA (sA (sI (sA (sA (sA (sI (sI (sI (sI (sA (sA (sA (sA (sA (sA (sA z 4 co4) 5 co5) 6 co6) 7 co7) 8 co8) 9 co9) 10 co10) 12 co12) 13 co13) 14 co14) 15 co15) 16 co16) 17 co17) 18 co18) 22 co22) 23 co23) 24 co24) 25 co25) 26 co26) 27 co27)) (z_cl4 (show 0 ≤ d.toInt ∧ d.toInt < 4 by omega)))).trans (hFd.trans (by omega))) (by omega) (show 0 ≤ (tNA (trM (sA (sA (sA (sA (sA (sI (sA (sA (sA (sI (sI (sI (sI (sA (sA (sA (sA (sA (sA (sA z 4 co4) 5 co5) 6 co6) 7 co7) 8 co8) 9 co9) 10 co10) 12 co12) 13 co13) 14 co14) 15 co15) 16 co16) 17 co17) 18 co18) 22 co22) 23 co23) 24 co24) 25 co25) 26 co26) 27 co27))).toInt from hIo.1.1.1) ((congrFun (trM_Ig (z := (sA (sA (sA (sA (sA (sI (sA (sA (sA (sI (sI (sI (sI (sA (sA (sA (sA (sA (sA (sA z 4 co4) 5 co5) 6 co6) 7 co7) 8 co8) 9 co9) 10 co10) 12 co12) 13 co13) 14 co14) 15 co15) 16 co16) 17 co17) 18 co18) 22 co22) 23 co23) 24 co24) 25 co25) 26 co26) 27 co27)) (z_cl4 (show 0 ≤ z0.toInt ∧ z0.toInt < 4 by omega))) _).trans hit0) ((congrFun (trM_Ig (z := (sA (sA (sA (sA (sA (sI (sA (sA (sA (sI (sI (sI (sI (sA (sA (sA (sA (sA (sA (sA z 4 co4) 5 co5) 6 co6) 7 co7) 8 co8) 9 co9) 10 co10) 12 co12) 13 co13) 14 co14) 15 co15) 16 co16) 17 co17) 18 co18) 22 co22) 23 co23) 24 co24) 25 co25) 26 co26) 27 co27)) (z_cl4 (show 0 ≤ z0.toInt ∧ z0.toInt < 4 by omega))) _).trans hit1)).1.symm))) (by omega)⟩), ⟨by rw [ht]; exact hP, hDa _⟩⟩, hS.F ht⟩) hS.2.2 dX7_read_103
                  · skip
                    have hc_82 := zb_nlt rfl (show (0 : Int32).toInt = 0 by decide) c_82
                    obtain ⟨x_83, ex_83⟩ : ∃ y : Int32, y = i + 1 := ⟨_, rfl⟩
                    have hx_83 : x_83.toInt = i.toInt + 1 := z_add ex_83 rfl (show (1 : Int32).toInt = 1 by decide) (by omega)
                    refine lv_iinc (v := x_83) (lv' := [(3, .int x_83), (0, .ref (q 0)), (1, .int z0), (2, .int d)]) hx hb dX7_read_96 hl (k := 0) rfl (by rw [ex_83]; rfl) (by decide) rfl (fun ls hl => ?_)
                    refine lv_goto (tgt := 46) hx hb dX7_read_99 (by decide) ?_
                    exact ih46 ((30 - x_83.toInt).toNat) (by omega) x_83 o4_59 o5_60 o6_61 o7_62 o8_63 o9_64 o10_65 o12_66 o13_67 o14_68 o15_69 o16_70 o17_71 o18_72 o22_73 o23_74 o24_75 o25_76 o26_77 o27_78 ⟨(show 0 ≤ x_83.toInt ∧ x_83.toInt ≤ 30 by omega), (show x_83.toInt ≤ (z.2.2.1 38 z0.toNatClampNeg).toInt / 2 by omega), hI, (rd_go (f := ((z.2.2.1 38 z0.toNatClampNeg).toInt / 2 - i.toInt).toNat) (by omega) hR (rdA_go (s := z0.toNatClampNeg) (i := i.toNatClampNeg) hab (show 0 ≤ d.toInt ∧ d.toInt < 4 by omega) rfl ((congrArg Int32.toInt (trM_Fg (z := (sA (sA (sA (sA (sA (sI (sA (sA (sA (sI (sI (sI (sI (sA (sA (sA (sA (sA (sA (sA z 4 co4) 5 co5) 6 co6) 7 co7) 8 co8) 9 co9) 10 co10) 12 co12) 13 co13) 14 co14) 15 co15) 16 co16) 17 co17) 18 co18) 22 co22) 23 co23) 24 co24) 25 co25) 26 co26) 27 co27)) (z_cl4 (show 0 ≤ d.toInt ∧ d.toInt < 4 by omega)))).trans (hFd.trans (by omega))) (by omega) ((congrFun (trM_Ig (z := (sA (sA (sA (sA (sA (sI (sA (sA (sA (sI (sI (sI (sI (sA (sA (sA (sA (sA (sA (sA z 4 co4) 5 co5) 6 co6) 7 co7) 8 co8) 9 co9) 10 co10) 12 co12) 13 co13) 14 co14) 15 co15) 16 co16) 17 co17) 18 co18) 22 co22) 23 co23) 24 co24) 25 co25) 26 co26) 27 co27)) (z_cl4 (show 0 ≤ z0.toInt ∧ z0.toInt < 4 by omega))) _).trans hit0) ((congrFun (trM_Ig (z := (sA (sA (sA (sA (sA (sI (sA (sA (sA (sI (sI (sI (sI (sA (sA (sA (sA (sA (sA (sA z 4 co4) 5 co5) 6 co6) 7 co7) 8 co8) 9 co9) 10 co10) 12 co12) 13 co13) 14 co14) 15 co15) 16 co16) 17 co17) 18 co18) 22 co22) 23 co23) 24 co24) 25 co25) 26 co26) 27 co27)) (z_cl4 (show 0 ≤ z0.toInt ∧ z0.toInt < 4 by omega))) _).trans hit1)).1 (rdA_go (s := z0.toNatClampNeg) (i := i.toNatClampNeg) hab (show 0 ≤ d.toInt ∧ d.toInt < 4 by omega) rfl ((congrArg Int32.toInt (trM_Fg (z := (sA (sA (sA (sA (sA (sI (sA (sA (sA (sI (sI (sI (sI (sA (sA (sA (sA (sA (sA (sA z 4 co4) 5 co5) 6 co6) 7 co7) 8 co8) 9 co9) 10 co10) 12 co12) 13 co13) 14 co14) 15 co15) 16 co16) 17 co17) 18 co18) 22 co22) 23 co23) 24 co24) 25 co25) 26 co26) 27 co27)) (z_cl4 (show 0 ≤ d.toInt ∧ d.toInt < 4 by omega)))).trans (hFd.trans (by omega))) (by omega) ((congrFun (trM_Ig (z := (sA (sA (sA (sA (sA (sI (sA (sA (sA (sI (sI (sI (sI (sA (sA (sA (sA (sA (sA (sA z 4 co4) 5 co5) 6 co6) 7 co7) 8 co8) 9 co9) 10 co10) 12 co12) 13 co13) 14 co14) 15 co15) 16 co16) 17 co17) 18 co18) 22 co22) 23 co23) 24 co24) 25 co25) 26 co26) 27 co27)) (z_cl4 (show 0 ≤ z0.toInt ∧ z0.toInt < 4 by omega))) _).trans hit0) ((congrFun (trM_Ig (z := (sA (sA (sA (sA (sA (sI (sA (sA (sA (sI (sI (sI (sI (sA (sA (sA (sA (sA (sA (sA z 4 co4) 5 co5) 6 co6) 7 co7) 8 co8) 9 co9) 10 co10) 12 co12) 13 co13) 14 co14) 15 co15) 16 co16) 17 co17) 18 co18) 22 co22) 23 co23) 24 co24) 25 co25) 26 co26) 27 co27)) (z_cl4 (show 0 ≤ z0.toInt ∧ z0.toInt < 4 by omega))) _).trans hit1)).2.1 (by have q1 := z_clamp (x := i) (by omega); have q2 := z_clamp (x := x_83) (by omega); omega) (rdA_go (s := z0.toNatClampNeg) (i := i.toNatClampNeg) hab (show 0 ≤ d.toInt ∧ d.toInt < 4 by omega) rfl ((congrArg Int32.toInt (trM_Fg (z := (sA (sA (sA (sA (sA (sI (sA (sA (sA (sI (sI (sI (sI (sA (sA (sA (sA (sA (sA (sA z 4 co4) 5 co5) 6 co6) 7 co7) 8 co8) 9 co9) 10 co10) 12 co12) 13 co13) 14 co14) 15 co15) 16 co16) 17 co17) 18 co18) 22 co22) 23 co23) 24 co24) 25 co25) 26 co26) 27 co27)) (z_cl4 (show 0 ≤ d.toInt ∧ d.toInt < 4 by omega)))).trans (hFd.trans (by omega))) (by omega) ((congrFun (trM_Ig (z := (sA (sA (sA (sA (sA (sI (sA (sA (sA (sI (sI (sI (sI (sA (sA (sA (sA (sA (sA (sA z 4 co4) 5 co5) 6 co6) 7 co7) 8 co8) 9 co9) 10 co10) 12 co12) 13 co13) 14 co14) 15 co15) 16 co16) 17 co17) 18 co18) 22 co22) 23 co23) 24 co24) 25 co25) 26 co26) 27 co27)) (z_cl4 (show 0 ≤ z0.toInt ∧ z0.toInt < 4 by omega))) _).trans hit0) ((congrFun (trM_Ig (z := (sA (sA (sA (sA (sA (sI (sA (sA (sA (sI (sI (sI (sI (sA (sA (sA (sA (sA (sA (sA z 4 co4) 5 co5) 6 co6) 7 co7) 8 co8) 9 co9) 10 co10) 12 co12) 13 co13) 14 co14) 15 co15) 16 co16) 17 co17) 18 co18) 22 co22) 23 co23) 24 co24) 25 co25) 26 co26) 27 co27)) (z_cl4 (show 0 ≤ z0.toInt ∧ z0.toInt < 4 by omega))) _).trans hit1)).2.2)⟩ rfl H locs ls hP hS (lv_sub hl [0, 1, 2, 3] rfl)
            · skip
              have hc_42 := zb_ne rfl (show ((-1) : Int32).toInt = (-1) by decide) c_42
              refine lv_bipush (v := (-3)) hx hb dX7_read_41 (by decide) ?_
              exact W.iret (v := (-3)) hx hb hr (fun t ht hW => ⟨⟨(-3), (o4_22, o5_23, o6_24, o7_25, o8_26, o9_27, o10_28, o12_29, o13_30, o14_31, o15_32, o16_33, o17_34, o18_35, z.1 22, z.2.2.1 23, z.2.2.1 24, z.2.2.1 25, z.2.2.1 26, z.2.2.1 27, z.1 41), rfl, (show (MInv (sI (sA (sA (sA (sA (sA (sI (sA (sA (sA (sI (sI (sI (sI (sA (sA (sA (sA (sA (sA (sA z 4 o4_22) 5 o5_23) 6 o6_24) 7 o7_25) 8 o8_26) 9 o9_27) 10 o10_28) 12 o12_29) 13 o13_30) 14 o14_31) 15 o15_32) 16 o16_33) 17 o17_34) 18 o18_35) 22 (z.1 22)) 23 (z.2.2.1 23)) 24 (z.2.2.1 24)) 25 (z.2.2.1 25)) 26 (z.2.2.1 26)) 27 (z.2.2.1 27)) 41 (z.1 41))) ∧ ((((-3) : Int32), trM (sI (sA (sA (sA (sA (sA (sI (sA (sA (sA (sI (sI (sI (sI (sA (sA (sA (sA (sA (sA (sA z 4 o4_22) 5 o5_23) 6 o6_24) 7 o7_25) 8 o8_26) 9 o9_27) 10 o10_28) 12 o12_29) 13 o13_30) 14 o14_31) 15 o15_32) 16 o16_33) 17 o17_34) 18 o18_35) 22 (z.1 22)) 23 (z.2.2.1 23)) 24 (z.2.2.1 24)) 25 (z.2.2.1 25)) 26 (z.2.2.1 26)) 27 (z.2.2.1 27)) 41 (z.1 41))) = tRead (trM z) z0 d) from ⟨hI, tRead_3 (m := z0.toNatClampNeg) (n := d.toNatClampNeg) (by omega) rfl rfl ((trM_Kg (z_cl4 (show 0 ≤ z0.toInt ∧ z0.toInt < 4 by omega))).1.trans (kM_in (by omega)).1) (by have q := hT3 _ (z_cl4 (show 0 ≤ z0.toInt ∧ z0.toInt < 4 by omega)); omega) htF (by omega) rfl⟩), ⟨by rw [ht]; exact hP, hDa _⟩⟩, hS.F ht⟩) hS.2.2 dX7_read_43
          · skip
            have hc_18 := zb_eq rfl (show (0 : Int32).toInt = 0 by decide) c_18
            refine lv_aload_n hx hb dX7_read_26 rfl (lv_at hl 0 rfl) ?_
            refine lv_iconst (v := 1) hx hb dX7_read_27 (by decide) ?_
            refine zcA_i (w := (zM k q z)) (va_runV (As := [.int 1]) (rest := []) ⟨hx, hb, hml, hown, htb⟩ (c_X7_meets l dC dI k q z 1 _ hI) (cwV 1 htb (gzV wmt4_174 wmt4_176 wmp3_4 wmt1_8 wmt4_177) rfl rfl rfl (by decide +kernel) ⟨Nat.le_of_ble_eq_true rfl, Nat.le_of_ble_eq_true rfl⟩) (zpA_V (ci := 7) (q0 := 0) hK hP (hDa _) rfl rfl) rfl rfl hl.1 rfl (lv_room (Nat.le_of_ble_eq_true rfl)) dX7_read_28 ⟨Nat.le_of_ble_eq_true rfl, Nat.le_of_ble_eq_true rfl⟩) (hDa _) hS hA (fun r_84 u_85 H locs w_86 hP _ hS => ?_)
            obtain ⟨o41_87, rfl⟩ : ∃ y, y = u_85 := ⟨_, rfl⟩
            have hP : va_P (dC, dI) vwCl (zM k q (sI z 41 o41_87)) H := hP
            obtain ⟨h_88, h_89⟩ := w_86
            replace h_88 : MInv (sI z 41 o41_87) := h_88
            replace h_89 : r_84 = (-10) - (1 : Int32) := h_89
            have hI := h_88
            have hfd : r_84 = -11 := h_89.trans (by decide)
            exact W.iret (v := r_84) hx hb hr (fun t ht hW => ⟨⟨r_84, (z.2.2.1 4, z.2.2.1 5, z.2.2.1 6, z.2.2.1 7, z.2.2.1 8, z.2.2.1 9, z.2.2.1 10, z.1 12, z.1 13, z.1 14, z.1 15, z.2.2.1 16, z.2.2.1 17, z.2.2.1 18, z.1 22, z.2.2.1 23, z.2.2.1 24, z.2.2.1 25, z.2.2.1 26, z.2.2.1 27, o41_87), rfl, (show (MInv (sI (sA (sA (sA (sA (sA (sI (sA (sA (sA (sI (sI (sI (sI (sA (sA (sA (sA (sA (sA (sA z 4 (z.2.2.1 4)) 5 (z.2.2.1 5)) 6 (z.2.2.1 6)) 7 (z.2.2.1 7)) 8 (z.2.2.1 8)) 9 (z.2.2.1 9)) 10 (z.2.2.1 10)) 12 (z.1 12)) 13 (z.1 13)) 14 (z.1 14)) 15 (z.1 15)) 16 (z.2.2.1 16)) 17 (z.2.2.1 17)) 18 (z.2.2.1 18)) 22 (z.1 22)) 23 (z.2.2.1 23)) 24 (z.2.2.1 24)) 25 (z.2.2.1 25)) 26 (z.2.2.1 26)) 27 (z.2.2.1 27)) 41 o41_87)) ∧ ((r_84, trM (sI (sA (sA (sA (sA (sA (sI (sA (sA (sA (sI (sI (sI (sI (sA (sA (sA (sA (sA (sA (sA z 4 (z.2.2.1 4)) 5 (z.2.2.1 5)) 6 (z.2.2.1 6)) 7 (z.2.2.1 7)) 8 (z.2.2.1 8)) 9 (z.2.2.1 9)) 10 (z.2.2.1 10)) 12 (z.1 12)) 13 (z.1 13)) 14 (z.1 14)) 15 (z.1 15)) 16 (z.2.2.1 16)) 17 (z.2.2.1 17)) 18 (z.2.2.1 18)) 22 (z.1 22)) 23 (z.2.2.1 23)) 24 (z.2.2.1 24)) 25 (z.2.2.1 25)) 26 (z.2.2.1 26)) 27 (z.2.2.1 27)) 41 o41_87)) = tRead (trM z) z0 d) from ⟨hI, tRead_1 (m := z0.toNatClampNeg) (by omega) rfl ((trM_Kg (z_cl4 (show 0 ≤ z0.toInt ∧ z0.toInt < 4 by omega))).1.trans (kM_out (by omega)).1) (by decide) hfd rfl⟩), ⟨by rw [ht]; exact hP, hDa _⟩⟩, hS.F ht⟩) hS.2.2 dX7_read_31
        · skip
          exact absurd c_16 (by decide)
      · skip
        replace e_15 : r_9 = 0 := e_15
        subst e_15
        replace h_14 : ¬ (0 ≤ d.toInt ∧ d.toInt < 4) := h_14
        refine lv_if_ne (tgt := 17) hx hb dX7_read_11 (by decide) (fun c_91 => ?_) (fun c_91 => ?_)
        · skip
          exact absurd c_91 (by decide)
        · skip
          refine lv_bipush (v := (-2)) hx hb dX7_read_14 (by decide) ?_
          exact W.iret (v := (-2)) hx hb hr (fun t ht hW => ⟨⟨(-2), (z.2.2.1 4, z.2.2.1 5, z.2.2.1 6, z.2.2.1 7, z.2.2.1 8, z.2.2.1 9, z.2.2.1 10, z.1 12, z.1 13, z.1 14, z.1 15, z.2.2.1 16, z.2.2.1 17, z.2.2.1 18, z.1 22, z.2.2.1 23, z.2.2.1 24, z.2.2.1 25, z.2.2.1 26, z.2.2.1 27, z.1 41), rfl, (show (MInv (sI (sA (sA (sA (sA (sA (sI (sA (sA (sA (sI (sI (sI (sI (sA (sA (sA (sA (sA (sA (sA z 4 (z.2.2.1 4)) 5 (z.2.2.1 5)) 6 (z.2.2.1 6)) 7 (z.2.2.1 7)) 8 (z.2.2.1 8)) 9 (z.2.2.1 9)) 10 (z.2.2.1 10)) 12 (z.1 12)) 13 (z.1 13)) 14 (z.1 14)) 15 (z.1 15)) 16 (z.2.2.1 16)) 17 (z.2.2.1 17)) 18 (z.2.2.1 18)) 22 (z.1 22)) 23 (z.2.2.1 23)) 24 (z.2.2.1 24)) 25 (z.2.2.1 25)) 26 (z.2.2.1 26)) 27 (z.2.2.1 27)) 41 (z.1 41))) ∧ ((((-2) : Int32), trM (sI (sA (sA (sA (sA (sA (sI (sA (sA (sA (sI (sI (sI (sI (sA (sA (sA (sA (sA (sA (sA z 4 (z.2.2.1 4)) 5 (z.2.2.1 5)) 6 (z.2.2.1 6)) 7 (z.2.2.1 7)) 8 (z.2.2.1 8)) 9 (z.2.2.1 9)) 10 (z.2.2.1 10)) 12 (z.1 12)) 13 (z.1 13)) 14 (z.1 14)) 15 (z.1 15)) 16 (z.2.2.1 16)) 17 (z.2.2.1 17)) 18 (z.2.2.1 18)) 22 (z.1 22)) 23 (z.2.2.1 23)) 24 (z.2.2.1 24)) 25 (z.2.2.1 25)) 26 (z.2.2.1 26)) 27 (z.2.2.1 27)) 41 (z.1 41))) = tRead (trM z) z0 d) from ⟨hI, tRead_bad (by omega) rfl⟩), ⟨by rw [ht]; exact hP, hDa _⟩⟩, hS.F ht⟩) hS.2.2 dX7_read_16
  · skip
    replace e_7 : r_1 = 0 := e_7
    subst e_7
    replace h_6 : ¬ (0 ≤ z0.toInt ∧ z0.toInt < 4) := h_6
    refine lv_if_eq (tgt := 14) hx hb dX7_read_4 (by decide) (fun c_92 => ?_) (fun c_92 => ?_)
    · skip
      refine lv_bipush (v := (-2)) hx hb dX7_read_14 (by decide) ?_
      exact W.iret (v := (-2)) hx hb hr (fun t ht hW => ⟨⟨(-2), (z.2.2.1 4, z.2.2.1 5, z.2.2.1 6, z.2.2.1 7, z.2.2.1 8, z.2.2.1 9, z.2.2.1 10, z.1 12, z.1 13, z.1 14, z.1 15, z.2.2.1 16, z.2.2.1 17, z.2.2.1 18, z.1 22, z.2.2.1 23, z.2.2.1 24, z.2.2.1 25, z.2.2.1 26, z.2.2.1 27, z.1 41), rfl, (show (MInv (sI (sA (sA (sA (sA (sA (sI (sA (sA (sA (sI (sI (sI (sI (sA (sA (sA (sA (sA (sA (sA z 4 (z.2.2.1 4)) 5 (z.2.2.1 5)) 6 (z.2.2.1 6)) 7 (z.2.2.1 7)) 8 (z.2.2.1 8)) 9 (z.2.2.1 9)) 10 (z.2.2.1 10)) 12 (z.1 12)) 13 (z.1 13)) 14 (z.1 14)) 15 (z.1 15)) 16 (z.2.2.1 16)) 17 (z.2.2.1 17)) 18 (z.2.2.1 18)) 22 (z.1 22)) 23 (z.2.2.1 23)) 24 (z.2.2.1 24)) 25 (z.2.2.1 25)) 26 (z.2.2.1 26)) 27 (z.2.2.1 27)) 41 (z.1 41))) ∧ ((((-2) : Int32), trM (sI (sA (sA (sA (sA (sA (sI (sA (sA (sA (sI (sI (sI (sI (sA (sA (sA (sA (sA (sA (sA z 4 (z.2.2.1 4)) 5 (z.2.2.1 5)) 6 (z.2.2.1 6)) 7 (z.2.2.1 7)) 8 (z.2.2.1 8)) 9 (z.2.2.1 9)) 10 (z.2.2.1 10)) 12 (z.1 12)) 13 (z.1 13)) 14 (z.1 14)) 15 (z.1 15)) 16 (z.2.2.1 16)) 17 (z.2.2.1 17)) 18 (z.2.2.1 18)) 22 (z.1 22)) 23 (z.2.2.1 23)) 24 (z.2.2.1 24)) 25 (z.2.2.1 25)) 26 (z.2.2.1 26)) 27 (z.2.2.1 27)) 41 (z.1 41))) = tRead (trM z) z0 d) from ⟨hI, tRead_bad (by omega) rfl⟩), ⟨by rw [ht]; exact hP, hDa _⟩⟩, hS.F ht⟩) hS.2.2 dX7_read_16
    · skip
      exact absurd (by decide) c_92
set_option maxHeartbeats 4000000 in
set_option maxRecDepth 100000 in
theorem c_X7_isAnswer (l : Launch) (dC : Nat → ClassId) (dI : Nat → Nat → Nat) (k : Nat → ClassId) (q : Nat → Nat) (z : ZS) (n : Int32) (sz : Nat) (hI : MInv z) : Met l yX7_isAnswer (wz yX7_isAnswer cX7_isAnswer 2 (some .boolean)) ({ frames := 1, cells := 0, slots := 0, locals := 22 }) (va_Pc [.ref (q 0), .int n] (zPre dC dI k (zTX k) (zM k q z) sz)) (va_Qi (fun (r : Int32) (u : Unit) => (r = 1 ∧ (0 ≤ n.toInt ∧ n.toInt < (z.1 22).toInt)) ∨ (r = 0 ∧ (¬ (0 ≤ n.toInt ∧ n.toInt < (z.1 22).toInt)))) (fun u t => zPost dC dI (va_A (zM k q z) sz) (zM k q z) t) (va_A (zM k q z) sz)) 0 0 (va_A (zM k q z) sz) := by
  refine Met.ofW (cc := cX7_isAnswer) (maxL := 2) (ret := (some .boolean)) (by decide) rfl ?_
  intro p e s m args below meth c s₁ B hml hv
  obtain ⟨rfl, hsz, hP, hK, hD0⟩ := hv
  have hx := B.exec
  have hb := B.bytes
  have hr := B.returns
  have hts := atoms_spec (ws := wz yX7_isAnswer cX7_isAnswer 2 (some .boolean)) B.pre
  have htb : ∀ w ∈ zw, w.before _ s = true := fun w h => hts w (List.mem_cons_of_mem _ h)
  have hown : s.vm.findClass RX7 = some m.cls := findClass_of_methodNamed B.named
  have hlocks := B.notSynchronized
  clear hts
  subst hsz
  have hD := hD0.self (sz := s.heap.size)
  generalize hAe : va_A (zM k q z) s.heap.size = A at hD ⊢
  have hA : ∀ q : Nat, s.heap.size ≤ q → A q := fun q h => by rw [← hAe]; exact Or.inr h
  have hDa : ∀ z9 : ZS, va_D A (zM k q z9) := fun z9 => va_D_adr (w := zM k q z) rfl hD
  have hl := lv_entry ([.ref (q 0), .int n]) (n := 2) (Nat.le_of_ble_eq_true rfl)
  rw [lg_entry_eq]
  generalize (lg_sl ([.ref (q 0), .int n]) ++ List.replicate (2 - (lg_sl ([.ref (q 0), .int n])).length) Slot.unset).toArray = ls at hl ⊢
  have hl : lv_has ls 2 [(0, .ref (q 0)), (1, .int n)] := hl
  refine z_start2 (A := A) (w := (zM k q z)) hP (fun H locs hP hS => ?_)
  clear hD0 hAe
  have ha0 := hI.1.1.1
  have ha1 := hI.1.1.2.1
  refine lv_iload_n hx hb dX7_isAnswer_0 rfl (lv_at hl 1 rfl) ?_
  refine lv_iconst (v := 0) hx hb dX7_isAnswer_1 (by decide) ?_
  refine lv_aload_n hx hb dX7_isAnswer_2 rfl (lv_at hl 0 rfl) ?_
  refine va_get (D := (dC, dI)) (ci := 7) (v := .int (z.1 22)) (C := RX7) (T := TX7) (N := 42) hx hb htb inw7 hown hK.1 hP 0 rfl rfl 22 (by decide) (htb _ wmt3_189) (fun _ h9 => h9) rfl dX7_isAnswer_3 ?_
  refine lv_topi (fun x_1 ex_1 => ?_)
  have hx_1 : x_1.toInt = (z.1 22).toInt := by rw [ex_1]
  refine lv_iconst (v := 1) hx hb dX7_isAnswer_6 (by decide) ?_
  refine lv_isub hx hb dX7_isAnswer_7 ?_
  refine lv_topi (fun x_2 ex_2 => ?_)
  have hx_2 := z_sub ex_2 rfl (show (1 : Int32).toInt = 1 by decide) (by omega)
  refine zc0_i (w := (zM k q z)) (va_runS (As := [.int n, .int 0, .int x_2]) (rest := []) ⟨hx, hb, hml, hown, htb⟩ (c_X7_in l dC dI k n 0 x_2 _ ) (va_cwS 3 htb (gzS wmt4_62 wmt4_63 wmt1_8 wmt4_64) rfl rfl rfl (by decide +kernel) ⟨Nat.le_of_ble_eq_true rfl, Nat.le_of_ble_eq_true rfl⟩) (zp0_S hK) rfl rfl hl.1 rfl (lv_room (Nat.le_of_ble_eq_true rfl)) dX7_isAnswer_8 ⟨Nat.le_of_ble_eq_true rfl, Nat.le_of_ble_eq_true rfl⟩) hP hS hA (fun r_3 u_4 H locs w_5 hP hS => ?_)
  rcases w_5 with ⟨e_7, h_6⟩ | ⟨e_9, h_8⟩
  · skip
    replace e_7 : r_3 = 1 := e_7
    subst e_7
    replace h_6 : (0 : Int32).toInt ≤ n.toInt ∧ n.toInt ≤ x_2.toInt := h_6
    rw [show (0 : Int32).toInt = 0 by decide] at h_6
    exact W.zret (v := 1) (ty := .boolean) hx hb hr rfl (fun t ht hW => ⟨⟨1, (), rfl, (Or.inl ⟨rfl, by omega⟩), ⟨by rw [ht]; exact hP, hDa _⟩⟩, hS.F ht⟩) hS.2.2 dX7_isAnswer_11
  · skip
    replace e_9 : r_3 = 0 := e_9
    subst e_9
    replace h_8 : ¬ ((0 : Int32).toInt ≤ n.toInt ∧ n.toInt ≤ x_2.toInt) := h_8
    rw [show (0 : Int32).toInt = 0 by decide] at h_8
    exact W.zret (v := 0) (ty := .boolean) hx hb hr rfl (fun t ht hW => ⟨⟨0, (), rfl, (Or.inr ⟨rfl, by omega⟩), ⟨by rw [ht]; exact hP, hDa _⟩⟩, hS.F ht⟩) hS.2.2 dX7_isAnswer_11
set_option maxHeartbeats 4000000 in
set_option maxRecDepth 100000 in
theorem c_X7_isKnown (l : Launch) (dC : Nat → ClassId) (dI : Nat → Nat → Nat) (k : Nat → ClassId) (q : Nat → Nat) (z : ZS) (n : Int32) (sz : Nat) (hn : 0 ≤ n.toInt ∧ n.toInt < 120) : Met l yX7_isKnown (wz yX7_isKnown cX7_isKnown 3 (some .boolean)) ({ frames := 0, cells := 0, slots := 0, locals := 0 }) (va_Pc [.ref (q 0), .int n] (zPre dC dI k (zTX k) (zM k q z) sz)) (va_Qi (fun (r : Int32) (u : Unit) => (r = 1 ∧ (kn z n.toNatClampNeg)) ∨ (r = 0 ∧ (¬ kn z n.toNatClampNeg))) (fun u t => zPost dC dI (va_A (zM k q z) sz) (zM k q z) t) (va_A (zM k q z) sz)) 0 0 (va_A (zM k q z) sz) := by
  refine Met.ofW (cc := cX7_isKnown) (maxL := 3) (ret := (some .boolean)) (by decide) rfl ?_
  intro p e s m args below meth c s₁ B hml hv
  obtain ⟨rfl, hsz, hP, hK, hD0⟩ := hv
  have hx := B.exec
  have hb := B.bytes
  have hr := B.returns
  have hts := atoms_spec (ws := wz yX7_isKnown cX7_isKnown 3 (some .boolean)) B.pre
  have htb : ∀ w ∈ zw, w.before _ s = true := fun w h => hts w (List.mem_cons_of_mem _ h)
  have hown : s.vm.findClass RX7 = some m.cls := findClass_of_methodNamed B.named
  have hlocks := B.notSynchronized
  clear hts
  subst hsz
  have hD := hD0.self (sz := s.heap.size)
  generalize hAe : va_A (zM k q z) s.heap.size = A at hD ⊢
  have hA : ∀ q : Nat, s.heap.size ≤ q → A q := fun q h => by rw [← hAe]; exact Or.inr h
  have hDa : ∀ z9 : ZS, va_D A (zM k q z9) := fun z9 => va_D_adr (w := zM k q z) rfl hD
  have hl := lv_entry ([.ref (q 0), .int n]) (n := 3) (Nat.le_of_ble_eq_true rfl)
  rw [lg_entry_eq]
  generalize (lg_sl ([.ref (q 0), .int n]) ++ List.replicate (3 - (lg_sl ([.ref (q 0), .int n])).length) Slot.unset).toArray = ls at hl ⊢
  have hl : lv_has ls 3 [(0, .ref (q 0)), (1, .int n)] := hl
  refine z_start2 (A := A) (w := (zM k q z)) hP (fun H locs hP hS => ?_)
  clear hD0 hAe
  refine lv_aload_n hx hb dX7_isKnown_0 rfl (lv_at hl 0 rfl) ?_
  refine va_get (D := (dC, dI)) (ci := 7) (v := .int (z.1 20)) (C := RX7) (T := TX7) (N := 42) hx hb htb inw7 hown hK.1 hP 0 rfl rfl 20 (by decide) (htb _ wmt3_187) (fun _ h9 => h9) rfl dX7_isKnown_1 ?_
  refine lv_topi (fun x_1 ex_1 => ?_)
  have hx_1 : x_1.toInt = (z.1 20).toInt := by rw [ex_1]
  refine lv_iconst (v := (-1)) hx hb dX7_isKnown_4 (by decide) ?_
  refine lv_icmp_ne (tgt := 15) hx hb dX7_isKnown_5 (by decide) (fun c_2 => ?_) (fun c_2 => ?_)
  · skip
    have hc_2 := zb_ne rfl (show ((-1) : Int32).toInt = (-1) by decide) c_2
    refine lv_aload_n hx hb dX7_isKnown_15 rfl (lv_at hl 0 rfl) ?_
    refine va_get (D := (dC, dI)) (ci := 7) (v := .int (z.1 20)) (C := RX7) (T := TX7) (N := 42) hx hb htb inw7 hown hK.1 hP 0 rfl rfl 20 (by decide) (htb _ wmt3_187) (fun _ h9 => h9) rfl dX7_isKnown_16 ?_
    refine z_top (v2 := .int x_1) (congrArg Value.int ex_1.symm) ?_
    refine lv_istore_n (lv' := [(2, .int x_1), (0, .ref (q 0)), (1, .int n)]) hx hb dX7_isKnown_19 rfl hl (by decide) rfl (fun ls hl => ?_)
    refine lv_aload_n hx hb dX7_isKnown_20 rfl (lv_at hl 1 rfl) ?_
    refine va_get (D := (dC, dI)) (ci := 7) (v := .ref (q 26)) (C := RX7) (T := TX7) (N := 42) hx hb htb inw7 hown hK.1 hP 0 rfl rfl 26 (by decide) (htb _ wmt3_193) (fun _ h9 => h9) rfl dX7_isKnown_21 ?_
    refine lv_iload_n hx hb dX7_isKnown_24 rfl (lv_at hl 2 rfl) ?_
    refine va_iald (D := (dC, dI)) hx hb hK.1 hP 17 0 rfl rfl (z_in (by omega)) dX7_isKnown_25 ?_
    refine lv_topi (fun x_3 ex_3 => ?_)
    have hx_3 : x_3.toInt = ((z.2.2.1 26) n.toNatClampNeg).toInt := by rw [ex_3]
    refine lv_iload_n hx hb dX7_isKnown_26 rfl (lv_at hl 0 rfl) ?_
    refine lv_icmp_gt (tgt := 54) hx hb dX7_isKnown_27 (by decide) (fun c_4 => ?_) (fun c_4 => ?_)
    · skip
      have hc_4 := zb_lt rfl rfl c_4
      refine lv_iconst (v := 0) hx hb dX7_isKnown_54 (by decide) ?_
      exact W.zret (v := 0) (ty := .boolean) hx hb hr rfl (fun t ht hW => ⟨⟨0, (), rfl, (Or.inr ⟨rfl, by unfold kn knT; split <;> omega⟩), ⟨by rw [ht]; exact hP, hDa _⟩⟩, hS.F ht⟩) hS.2.2 dX7_isKnown_55
    · skip
      have hc_4 := zb_nlt rfl rfl c_4
      refine lv_aload_n hx hb dX7_isKnown_30 rfl (lv_at hl 1 rfl) ?_
      refine va_get (D := (dC, dI)) (ci := 7) (v := .ref (q 27)) (C := RX7) (T := TX7) (N := 42) hx hb htb inw7 hown hK.1 hP 0 rfl rfl 27 (by decide) (htb _ wmt3_194) (fun _ h9 => h9) rfl dX7_isKnown_31 ?_
      refine lv_iload_n hx hb dX7_isKnown_34 rfl (lv_at hl 2 rfl) ?_
      refine va_iald (D := (dC, dI)) hx hb hK.1 hP 18 0 rfl rfl (z_in (by omega)) dX7_isKnown_35 ?_
      refine lv_topi (fun x_5 ex_5 => ?_)
      have hx_5 : x_5.toInt = ((z.2.2.1 27) n.toNatClampNeg).toInt := by rw [ex_5]
      refine lv_iconst (v := (-1)) hx hb dX7_isKnown_36 (by decide) ?_
      refine lv_icmp_eq (tgt := 50) hx hb dX7_isKnown_37 (by decide) (fun c_6 => ?_) (fun c_6 => ?_)
      · skip
        have hc_6 := zb_eq rfl (show ((-1) : Int32).toInt = (-1) by decide) c_6
        refine lv_iconst (v := 1) hx hb dX7_isKnown_50 (by decide) ?_
        refine lv_goto (tgt := 55) hx hb dX7_isKnown_51 (by decide) ?_
        exact W.zret (v := 1) (ty := .boolean) hx hb hr rfl (fun t ht hW => ⟨⟨1, (), rfl, (Or.inl ⟨rfl, by unfold kn knT; split <;> omega⟩), ⟨by rw [ht]; exact hP, hDa _⟩⟩, hS.F ht⟩) hS.2.2 dX7_isKnown_55
      · skip
        have hc_6 := zb_ne rfl (show ((-1) : Int32).toInt = (-1) by decide) c_6
        refine lv_aload_n hx hb dX7_isKnown_40 rfl (lv_at hl 1 rfl) ?_
        refine va_get (D := (dC, dI)) (ci := 7) (v := .ref (q 27)) (C := RX7) (T := TX7) (N := 42) hx hb htb inw7 hown hK.1 hP 0 rfl rfl 27 (by decide) (htb _ wmt3_194) (fun _ h9 => h9) rfl dX7_isKnown_41 ?_
        refine lv_iload_n hx hb dX7_isKnown_44 rfl (lv_at hl 2 rfl) ?_
        refine va_iald (D := (dC, dI)) hx hb hK.1 hP 18 0 rfl rfl (z_in (by omega)) dX7_isKnown_45 ?_
        refine lv_topi (fun x_7 ex_7 => ?_)
        have hx_7 : x_7.toInt = ((z.2.2.1 27) n.toNatClampNeg).toInt := by rw [ex_7]
        refine lv_iload_n hx hb dX7_isKnown_46 rfl (lv_at hl 0 rfl) ?_
        refine lv_icmp_le (tgt := 54) hx hb dX7_isKnown_47 (by decide) (fun c_8 => ?_) (fun c_8 => ?_)
        · skip
          have hc_8 := zb_le rfl rfl c_8
          refine lv_iconst (v := 0) hx hb dX7_isKnown_54 (by decide) ?_
          exact W.zret (v := 0) (ty := .boolean) hx hb hr rfl (fun t ht hW => ⟨⟨0, (), rfl, (Or.inr ⟨rfl, by unfold kn knT; split <;> omega⟩), ⟨by rw [ht]; exact hP, hDa _⟩⟩, hS.F ht⟩) hS.2.2 dX7_isKnown_55
        · skip
          have hc_8 := zb_nle rfl rfl c_8
          refine lv_iconst (v := 1) hx hb dX7_isKnown_50 (by decide) ?_
          refine lv_goto (tgt := 55) hx hb dX7_isKnown_51 (by decide) ?_
          exact W.zret (v := 1) (ty := .boolean) hx hb hr rfl (fun t ht hW => ⟨⟨1, (), rfl, (Or.inl ⟨rfl, by unfold kn knT; split <;> omega⟩), ⟨by rw [ht]; exact hP, hDa _⟩⟩, hS.F ht⟩) hS.2.2 dX7_isKnown_55
  · skip
    have hc_2 := zb_eq rfl (show ((-1) : Int32).toInt = (-1) by decide) c_2
    refine lv_aload_n hx hb dX7_isKnown_8 rfl (lv_at hl 0 rfl) ?_
    refine va_get (D := (dC, dI)) (ci := 7) (v := .int (z.1 19)) (C := RX7) (T := TX7) (N := 42) hx hb htb inw7 hown hK.1 hP 0 rfl rfl 19 (by decide) (htb _ wmt3_186) (fun _ h9 => h9) rfl dX7_isKnown_9 ?_
    refine lv_topi (fun x_9 ex_9 => ?_)
    have hx_9 : x_9.toInt = (z.1 19).toInt := by rw [ex_9]
    refine lv_goto (tgt := 19) hx hb dX7_isKnown_12 (by decide) ?_
    refine lv_istore_n (lv' := [(2, .int x_9), (0, .ref (q 0)), (1, .int n)]) hx hb dX7_isKnown_19 rfl hl (by decide) rfl (fun ls hl => ?_)
    refine lv_aload_n hx hb dX7_isKnown_20 rfl (lv_at hl 1 rfl) ?_
    refine va_get (D := (dC, dI)) (ci := 7) (v := .ref (q 26)) (C := RX7) (T := TX7) (N := 42) hx hb htb inw7 hown hK.1 hP 0 rfl rfl 26 (by decide) (htb _ wmt3_193) (fun _ h9 => h9) rfl dX7_isKnown_21 ?_
    refine lv_iload_n hx hb dX7_isKnown_24 rfl (lv_at hl 2 rfl) ?_
    refine va_iald (D := (dC, dI)) hx hb hK.1 hP 17 0 rfl rfl (z_in (by omega)) dX7_isKnown_25 ?_
    refine lv_topi (fun x_10 ex_10 => ?_)
    have hx_10 : x_10.toInt = ((z.2.2.1 26) n.toNatClampNeg).toInt := by rw [ex_10]
    refine lv_iload_n hx hb dX7_isKnown_26 rfl (lv_at hl 0 rfl) ?_
    refine lv_icmp_gt (tgt := 54) hx hb dX7_isKnown_27 (by decide) (fun c_11 => ?_) (fun c_11 => ?_)
    · skip
      have hc_11 := zb_lt rfl rfl c_11
      refine lv_iconst (v := 0) hx hb dX7_isKnown_54 (by decide) ?_
      exact W.zret (v := 0) (ty := .boolean) hx hb hr rfl (fun t ht hW => ⟨⟨0, (), rfl, (Or.inr ⟨rfl, by unfold kn knT; split <;> omega⟩), ⟨by rw [ht]; exact hP, hDa _⟩⟩, hS.F ht⟩) hS.2.2 dX7_isKnown_55
    · skip
      have hc_11 := zb_nlt rfl rfl c_11
      refine lv_aload_n hx hb dX7_isKnown_30 rfl (lv_at hl 1 rfl) ?_
      refine va_get (D := (dC, dI)) (ci := 7) (v := .ref (q 27)) (C := RX7) (T := TX7) (N := 42) hx hb htb inw7 hown hK.1 hP 0 rfl rfl 27 (by decide) (htb _ wmt3_194) (fun _ h9 => h9) rfl dX7_isKnown_31 ?_
      refine lv_iload_n hx hb dX7_isKnown_34 rfl (lv_at hl 2 rfl) ?_
      refine va_iald (D := (dC, dI)) hx hb hK.1 hP 18 0 rfl rfl (z_in (by omega)) dX7_isKnown_35 ?_
      refine lv_topi (fun x_12 ex_12 => ?_)
      have hx_12 : x_12.toInt = ((z.2.2.1 27) n.toNatClampNeg).toInt := by rw [ex_12]
      refine lv_iconst (v := (-1)) hx hb dX7_isKnown_36 (by decide) ?_
      refine lv_icmp_eq (tgt := 50) hx hb dX7_isKnown_37 (by decide) (fun c_13 => ?_) (fun c_13 => ?_)
      · skip
        have hc_13 := zb_eq rfl (show ((-1) : Int32).toInt = (-1) by decide) c_13
        refine lv_iconst (v := 1) hx hb dX7_isKnown_50 (by decide) ?_
        refine lv_goto (tgt := 55) hx hb dX7_isKnown_51 (by decide) ?_
        exact W.zret (v := 1) (ty := .boolean) hx hb hr rfl (fun t ht hW => ⟨⟨1, (), rfl, (Or.inl ⟨rfl, by unfold kn knT; split <;> omega⟩), ⟨by rw [ht]; exact hP, hDa _⟩⟩, hS.F ht⟩) hS.2.2 dX7_isKnown_55
      · skip
        have hc_13 := zb_ne rfl (show ((-1) : Int32).toInt = (-1) by decide) c_13
        refine lv_aload_n hx hb dX7_isKnown_40 rfl (lv_at hl 1 rfl) ?_
        refine va_get (D := (dC, dI)) (ci := 7) (v := .ref (q 27)) (C := RX7) (T := TX7) (N := 42) hx hb htb inw7 hown hK.1 hP 0 rfl rfl 27 (by decide) (htb _ wmt3_194) (fun _ h9 => h9) rfl dX7_isKnown_41 ?_
        refine lv_iload_n hx hb dX7_isKnown_44 rfl (lv_at hl 2 rfl) ?_
        refine va_iald (D := (dC, dI)) hx hb hK.1 hP 18 0 rfl rfl (z_in (by omega)) dX7_isKnown_45 ?_
        refine lv_topi (fun x_14 ex_14 => ?_)
        have hx_14 : x_14.toInt = ((z.2.2.1 27) n.toNatClampNeg).toInt := by rw [ex_14]
        refine lv_iload_n hx hb dX7_isKnown_46 rfl (lv_at hl 0 rfl) ?_
        refine lv_icmp_le (tgt := 54) hx hb dX7_isKnown_47 (by decide) (fun c_15 => ?_) (fun c_15 => ?_)
        · skip
          have hc_15 := zb_le rfl rfl c_15
          refine lv_iconst (v := 0) hx hb dX7_isKnown_54 (by decide) ?_
          exact W.zret (v := 0) (ty := .boolean) hx hb hr rfl (fun t ht hW => ⟨⟨0, (), rfl, (Or.inr ⟨rfl, by unfold kn knT; split <;> omega⟩), ⟨by rw [ht]; exact hP, hDa _⟩⟩, hS.F ht⟩) hS.2.2 dX7_isKnown_55
        · skip
          have hc_15 := zb_nle rfl rfl c_15
          refine lv_iconst (v := 1) hx hb dX7_isKnown_50 (by decide) ?_
          refine lv_goto (tgt := 55) hx hb dX7_isKnown_51 (by decide) ?_
          exact W.zret (v := 1) (ty := .boolean) hx hb hr rfl (fun t ht hW => ⟨⟨1, (), rfl, (Or.inl ⟨rfl, by unfold kn knT; split <;> omega⟩), ⟨by rw [ht]; exact hP, hDa _⟩⟩, hS.F ht⟩) hS.2.2 dX7_isKnown_55
set_option maxHeartbeats 4000000 in
set_option maxRecDepth 100000 in
theorem c_X7_takeBack (l : Launch) (dC : Nat → ClassId) (dI : Nat → Nat → Nat) (k : Nat → ClassId) (q : Nat → Nat) (z : ZS) (n : Int32) (sz : Nat) (hI : MInv z) : Met l yX7_takeBack (wz yX7_takeBack cX7_takeBack 2 (some .int)) ({ frames := 2, cells := 0, slots := 0, locals := 43 }) (va_Pc [.ref (q 0), .int n] (zPre dC dI k (zTX k) (zM k q z) sz)) (va_Qi (fun (r : Int32) (u : (Nat → Int32)) => (MInv (sA z 27 u)) ∧ ((r, trM (sA z 27 u)) = tBack (trM z) n)) (fun u t => zPost dC dI (va_A (zM k q z) sz) (zM k q (sA z 27 u)) t) (va_A (zM k q z) sz)) 0 0 (va_A (zM k q z) sz) := by
  refine Met.ofW (cc := cX7_takeBack) (maxL := 2) (ret := (some .int)) (by decide) rfl ?_
  intro p e s m args below meth c s₁ B hml hv
  obtain ⟨rfl, hsz, hP, hK, hD0⟩ := hv
  have hx := B.exec
  have hb := B.bytes
  have hr := B.returns
  have hts := atoms_spec (ws := wz yX7_takeBack cX7_takeBack 2 (some .int)) B.pre
  have htb : ∀ w ∈ zw, w.before _ s = true := fun w h => hts w (List.mem_cons_of_mem _ h)
  have hown : s.vm.findClass RX7 = some m.cls := findClass_of_methodNamed B.named
  have hlocks := B.notSynchronized
  clear hts
  subst hsz
  have hD := hD0.self (sz := s.heap.size)
  generalize hAe : va_A (zM k q z) s.heap.size = A at hD ⊢
  have hA : ∀ q : Nat, s.heap.size ≤ q → A q := fun q h => by rw [← hAe]; exact Or.inr h
  have hDa : ∀ z9 : ZS, va_D A (zM k q z9) := fun z9 => va_D_adr (w := zM k q z) rfl hD
  have hl := lv_entry ([.ref (q 0), .int n]) (n := 2) (Nat.le_of_ble_eq_true rfl)
  rw [lg_entry_eq]
  generalize (lg_sl ([.ref (q 0), .int n]) ++ List.replicate (2 - (lg_sl ([.ref (q 0), .int n])).length) Slot.unset).toArray = ls at hl ⊢
  have hl : lv_has ls 2 [(0, .ref (q 0)), (1, .int n)] := hl
  refine z_start2 (A := A) (w := (zM k q z)) hP (fun H locs hP hS => ?_)
  clear hD0 hAe
  have ha0 := hI.1.1.1
  have ha1 := hI.1.1.2.1
  refine lv_aload_n hx hb dX7_takeBack_0 rfl (lv_at hl 0 rfl) ?_
  refine lv_iload_n hx hb dX7_takeBack_1 rfl (lv_at hl 1 rfl) ?_
  refine zcA_i (w := (zM k q z)) (va_runV (As := [.int n]) (rest := []) ⟨hx, hb, hml, hown, htb⟩ (c_X7_isAnswer l dC dI k q z n _ hI) (cwV 1 htb (gzV wmt4_182 wmt4_184 wmp3_5 wmt1_8 wmt4_185) rfl rfl rfl (by decide +kernel) ⟨Nat.le_of_ble_eq_true rfl, Nat.le_of_ble_eq_true rfl⟩) (zpA_V (ci := 7) (q0 := 0) hK hP (hDa _) rfl rfl) rfl rfl hl.1 rfl (lv_room (Nat.le_of_ble_eq_true rfl)) dX7_takeBack_2 ⟨Nat.le_of_ble_eq_true rfl, Nat.le_of_ble_eq_true rfl⟩) (hDa _) hS hA (fun r_1 u_2 H locs w_3 hP _ hS => ?_)
  rcases w_3 with ⟨e_5, h_4⟩ | ⟨e_7, h_6⟩
  · skip
    replace e_5 : r_1 = 1 := e_5
    subst e_5
    replace h_4 : 0 ≤ n.toInt ∧ n.toInt < ((z.1 22)).toInt := h_4
    refine lv_if_ne (tgt := 11) hx hb dX7_takeBack_5 (by decide) (fun c_8 => ?_) (fun c_8 => ?_)
    · skip
      refine lv_aload_n hx hb dX7_takeBack_11 rfl (lv_at hl 0 rfl) ?_
      refine va_get (D := (dC, dI)) (ci := 7) (v := .ref (q 27)) (C := RX7) (T := TX7) (N := 42) hx hb htb inw7 hown hK.1 hP 0 rfl rfl 27 (by decide) (htb _ wmt3_194) (fun _ h9 => h9) rfl dX7_takeBack_12 ?_
      refine lv_iload_n hx hb dX7_takeBack_15 rfl (lv_at hl 1 rfl) ?_
      refine va_iald (D := (dC, dI)) hx hb hK.1 hP 18 0 rfl rfl (z_in (by omega)) dX7_takeBack_16 ?_
      refine lv_topi (fun x_9 ex_9 => ?_)
      refine lv_iconst (v := (-1)) hx hb dX7_takeBack_17 (by decide) ?_
      refine lv_icmp_eq (tgt := 24) hx hb dX7_takeBack_18 (by decide) (fun c_10 => ?_) (fun c_10 => ?_)
      · skip
        have hc_10 := zb_eq rfl (show ((-1) : Int32).toInt = (-1) by decide) c_10
        refine lv_aload_n hx hb dX7_takeBack_24 rfl (lv_at hl 0 rfl) ?_
        refine va_get (D := (dC, dI)) (ci := 7) (v := .ref (q 27)) (C := RX7) (T := TX7) (N := 42) hx hb htb inw7 hown hK.1 hP 0 rfl rfl 27 (by decide) (htb _ wmt3_194) (fun _ h9 => h9) rfl dX7_takeBack_25 ?_
        refine lv_iload_n hx hb dX7_takeBack_28 rfl (lv_at hl 1 rfl) ?_
        refine lv_aload_n hx hb dX7_takeBack_29 rfl (lv_at hl 0 rfl) ?_
        refine va_get (D := (dC, dI)) (ci := 7) (v := .int (z.1 19)) (C := RX7) (T := TX7) (N := 42) hx hb htb inw7 hown hK.1 hP 0 rfl rfl 19 (by decide) (htb _ wmt3_186) (fun _ h9 => h9) rfl dX7_takeBack_30 ?_
        refine lv_topi (fun x_11 ex_11 => ?_)
        have hx_11 : x_11.toInt = (z.1 19).toInt := by rw [ex_11]
        refine va_iast (D := (dC, dI)) hx hb hK.1 hP (hDa _) hS 18 0 rfl rfl (z_in (by omega)) dX7_takeBack_33 (fun H locs hP _ hS => ?_)
        obtain ⟨f_12, ef_12⟩ : ∃ x : Nat → Int32, x = upd (z.2.2.1 27) n.toNatClampNeg x_11 := ⟨_, rfl⟩
        have hP : va_P (dC, dI) vwCl (zM k q (sA z 27 f_12)) H := by rw [ef_12]; exact hP
        refine lv_iconst (v := 1) hx hb dX7_takeBack_34 (by decide) ?_
        exact W.iret (v := 1) hx hb hr (fun t ht hW => ⟨⟨1, f_12, rfl, (show (MInv (sA z 27 f_12)) ∧ (((1 : Int32), trM (sA z 27 f_12)) = tBack (trM z) n) from ⟨hI, tBack_ok (x := z.1 22) rfl (by omega) ex_9 (by omega) (by rw [ef_12, ex_11]; rfl)⟩), ⟨by rw [ht]; exact hP, hDa _⟩⟩, hS.F ht⟩) hS.2.2 dX7_takeBack_35
      · skip
        have hc_10 := zb_ne rfl (show ((-1) : Int32).toInt = (-1) by decide) c_10
        refine lv_bipush (v := (-3)) hx hb dX7_takeBack_21 (by decide) ?_
        exact W.iret (v := (-3)) hx hb hr (fun t ht hW => ⟨⟨(-3), (z.2.2.1 27), rfl, (show (MInv (sA z 27 (z.2.2.1 27))) ∧ ((((-3) : Int32), trM (sA z 27 (z.2.2.1 27))) = tBack (trM z) n) from ⟨hI, tBack_no (x := z.1 22) rfl (by omega) ex_9 (by omega) rfl⟩), ⟨by rw [ht]; exact hP, hDa _⟩⟩, hS.F ht⟩) hS.2.2 dX7_takeBack_23
    · skip
      exact absurd c_8 (by decide)
  · skip
    replace e_7 : r_1 = 0 := e_7
    subst e_7
    replace h_6 : ¬ (0 ≤ n.toInt ∧ n.toInt < ((z.1 22)).toInt) := h_6
    refine lv_if_ne (tgt := 11) hx hb dX7_takeBack_5 (by decide) (fun c_13 => ?_) (fun c_13 => ?_)
    · skip
      exact absurd c_13 (by decide)
    · skip
      refine lv_bipush (v := (-2)) hx hb dX7_takeBack_8 (by decide) ?_
      exact W.iret (v := (-2)) hx hb hr (fun t ht hW => ⟨⟨(-2), (z.2.2.1 27), rfl, (show (MInv (sA z 27 (z.2.2.1 27))) ∧ ((((-2) : Int32), trM (sA z 27 (z.2.2.1 27))) = tBack (trM z) n) from ⟨hI, tBack_bad (x := z.1 22) rfl (by omega) rfl⟩), ⟨by rw [ht]; exact hP, hDa _⟩⟩, hS.F ht⟩) hS.2.2 dX7_takeBack_10
set_option maxHeartbeats 4000000 in
set_option maxRecDepth 100000 in
theorem c_X7_about (l : Launch) (dC : Nat → ClassId) (dI : Nat → Nat → Nat) (k : Nat → ClassId) (q : Nat → Nat) (z : ZS) (n : Int32) (w : Int32) (sz : Nat) (hI : MInv z) : Met l yX7_about (wz yX7_about cX7_about 3 (some .int)) ({ frames := 2, cells := 0, slots := 0, locals := 43 }) (va_Pc [.ref (q 0), .int n, .int w] (zPre dC dI k (zTX k) (zM k q z) sz)) (va_Qi (fun (r : Int32) (u : Unit) => True) (fun u t => zPost dC dI (va_A (zM k q z) sz) (zM k q z) t) (va_A (zM k q z) sz)) 0 0 (va_A (zM k q z) sz) := by
  refine Met.ofW (cc := cX7_about) (maxL := 3) (ret := (some .int)) (by decide) rfl ?_
  intro p e s m args below meth c s₁ B hml hv
  obtain ⟨rfl, hsz, hP, hK, hD0⟩ := hv
  have hx := B.exec
  have hb := B.bytes
  have hr := B.returns
  have hts := atoms_spec (ws := wz yX7_about cX7_about 3 (some .int)) B.pre
  have htb : ∀ w ∈ zw, w.before _ s = true := fun w h => hts w (List.mem_cons_of_mem _ h)
  have hown : s.vm.findClass RX7 = some m.cls := findClass_of_methodNamed B.named
  have hlocks := B.notSynchronized
  clear hts
  subst hsz
  have hD := hD0.self (sz := s.heap.size)
  generalize hAe : va_A (zM k q z) s.heap.size = A at hD ⊢
  have hA : ∀ q : Nat, s.heap.size ≤ q → A q := fun q h => by rw [← hAe]; exact Or.inr h
  have hDa : ∀ z9 : ZS, va_D A (zM k q z9) := fun z9 => va_D_adr (w := zM k q z) rfl hD
  have hl := lv_entry ([.ref (q 0), .int n, .int w]) (n := 3) (Nat.le_of_ble_eq_true rfl)
  rw [lg_entry_eq]
  generalize (lg_sl ([.ref (q 0), .int n, .int w]) ++ List.replicate (3 - (lg_sl ([.ref (q 0), .int n, .int w])).length) Slot.unset).toArray = ls at hl ⊢
  have hl : lv_has ls 3 [(0, .ref (q 0)), (1, .int n), (2, .int w)] := hl
  refine z_start2 (A := A) (w := (zM k q z)) hP (fun H locs hP hS => ?_)
  clear hD0 hAe
  have ha0 := hI.1.1.1
  have ha1 := hI.1.1.2.1
  refine lv_aload_n hx hb dX7_about_0 rfl (lv_at hl 0 rfl) ?_
  refine lv_iload_n hx hb dX7_about_1 rfl (lv_at hl 1 rfl) ?_
  refine zcA_i (w := (zM k q z)) (va_runV (As := [.int n]) (rest := []) ⟨hx, hb, hml, hown, htb⟩ (c_X7_isAnswer l dC dI k q z n _ hI) (cwV 1 htb (gzV wmt4_182 wmt4_184 wmp3_5 wmt1_8 wmt4_185) rfl rfl rfl (by decide +kernel) ⟨Nat.le_of_ble_eq_true rfl, Nat.le_of_ble_eq_true rfl⟩) (zpA_V (ci := 7) (q0 := 0) hK hP (hDa _) rfl rfl) rfl rfl hl.1 rfl (lv_room (Nat.le_of_ble_eq_true rfl)) dX7_about_2 ⟨Nat.le_of_ble_eq_true rfl, Nat.le_of_ble_eq_true rfl⟩) (hDa _) hS hA (fun r_1 u_2 H locs w_3 hP _ hS => ?_)
  rcases w_3 with ⟨e_5, h_4⟩ | ⟨e_7, h_6⟩
  · skip
    replace e_5 : r_1 = 1 := e_5
    subst e_5
    replace h_4 : 0 ≤ n.toInt ∧ n.toInt < ((z.1 22)).toInt := h_4
    refine lv_if_ne (tgt := 11) hx hb dX7_about_5 (by decide) (fun c_8 => ?_) (fun c_8 => ?_)
    · skip
      refine lv_iload_n hx hb dX7_about_11 rfl (lv_at hl 2 rfl) ?_
      rcases Decidable.em (w.toInt < 0 ∨ 5 < w.toInt) with sw_9 | sw_9
      · skip
        refine lv_tableOut (tgt := 101) hx hb dX7_about_12 sw_9 (by decide) ?_
        refine lv_bipush (v := (-2)) hx hb dX7_about_101 (by decide) ?_
        exact W.iret (v := (-2)) hx hb hr (fun t ht hW => ⟨⟨(-2), (), rfl, trivial, ⟨by rw [ht]; exact hP, hDa _⟩⟩, hS.F ht⟩) hS.2.2 dX7_about_103
      · skip
        have sw_10 : w = 0 ∨ w = 1 ∨ w = 2 ∨ w = 3 ∨ w = 4 ∨ w = 5 := by simp only [zi_eq, (by decide : (0 : Int32).toInt = 0), (by decide : (1 : Int32).toInt = 1), (by decide : (2 : Int32).toInt = 2), (by decide : (3 : Int32).toInt = 3), (by decide : (4 : Int32).toInt = 4), (by decide : (5 : Int32).toInt = 5)]; omega
        clear sw_9
        rcases sw_10 with rfl | rfl | rfl | rfl | rfl | rfl
        · skip
          refine lv_tableIn (off := 40) (tgt := 52) hx hb dX7_about_12 (by decide) (by decide) (by decide) (by decide) ?_
          refine lv_aload_n hx hb dX7_about_52 rfl (lv_at hl 0 rfl) ?_
          refine va_get (D := (dC, dI)) (ci := 7) (v := .ref (q 23)) (C := RX7) (T := TX7) (N := 42) hx hb htb inw7 hown hK.1 hP 0 rfl rfl 23 (by decide) (htb _ wmt3_190) (fun _ h9 => h9) rfl dX7_about_53 ?_
          refine lv_iload_n hx hb dX7_about_56 rfl (lv_at hl 1 rfl) ?_
          refine va_iald (D := (dC, dI)) hx hb hK.1 hP 14 0 rfl rfl (z_in (by omega)) dX7_about_57 ?_
          refine lv_topi (fun x_11 ex_11 => ?_)
          exact W.iret (v := x_11) hx hb hr (fun t ht hW => ⟨⟨x_11, (), rfl, trivial, ⟨by rw [ht]; exact hP, hDa _⟩⟩, hS.F ht⟩) hS.2.2 dX7_about_58
        · skip
          refine lv_tableIn (off := 47) (tgt := 59) hx hb dX7_about_12 (by decide) (by decide) (by decide) (by decide) ?_
          refine lv_aload_n hx hb dX7_about_59 rfl (lv_at hl 0 rfl) ?_
          refine va_get (D := (dC, dI)) (ci := 7) (v := .ref (q 24)) (C := RX7) (T := TX7) (N := 42) hx hb htb inw7 hown hK.1 hP 0 rfl rfl 24 (by decide) (htb _ wmt3_191) (fun _ h9 => h9) rfl dX7_about_60 ?_
          refine lv_iload_n hx hb dX7_about_63 rfl (lv_at hl 1 rfl) ?_
          refine va_iald (D := (dC, dI)) hx hb hK.1 hP 15 0 rfl rfl (z_in (by omega)) dX7_about_64 ?_
          refine lv_topi (fun x_12 ex_12 => ?_)
          exact W.iret (v := x_12) hx hb hr (fun t ht hW => ⟨⟨x_12, (), rfl, trivial, ⟨by rw [ht]; exact hP, hDa _⟩⟩, hS.F ht⟩) hS.2.2 dX7_about_65
        · skip
          refine lv_tableIn (off := 54) (tgt := 66) hx hb dX7_about_12 (by decide) (by decide) (by decide) (by decide) ?_
          refine lv_aload_n hx hb dX7_about_66 rfl (lv_at hl 0 rfl) ?_
          refine va_get (D := (dC, dI)) (ci := 7) (v := .ref (q 25)) (C := RX7) (T := TX7) (N := 42) hx hb htb inw7 hown hK.1 hP 0 rfl rfl 25 (by decide) (htb _ wmt3_192) (fun _ h9 => h9) rfl dX7_about_67 ?_
          refine lv_iload_n hx hb dX7_about_70 rfl (lv_at hl 1 rfl) ?_
          refine va_iald (D := (dC, dI)) hx hb hK.1 hP 16 0 rfl rfl (z_in (by omega)) dX7_about_71 ?_
          refine lv_topi (fun x_13 ex_13 => ?_)
          exact W.iret (v := x_13) hx hb hr (fun t ht hW => ⟨⟨x_13, (), rfl, trivial, ⟨by rw [ht]; exact hP, hDa _⟩⟩, hS.F ht⟩) hS.2.2 dX7_about_72
        · skip
          refine lv_tableIn (off := 61) (tgt := 73) hx hb dX7_about_12 (by decide) (by decide) (by decide) (by decide) ?_
          refine lv_aload_n hx hb dX7_about_73 rfl (lv_at hl 0 rfl) ?_
          refine va_get (D := (dC, dI)) (ci := 7) (v := .ref (q 26)) (C := RX7) (T := TX7) (N := 42) hx hb htb inw7 hown hK.1 hP 0 rfl rfl 26 (by decide) (htb _ wmt3_193) (fun _ h9 => h9) rfl dX7_about_74 ?_
          refine lv_iload_n hx hb dX7_about_77 rfl (lv_at hl 1 rfl) ?_
          refine va_iald (D := (dC, dI)) hx hb hK.1 hP 17 0 rfl rfl (z_in (by omega)) dX7_about_78 ?_
          refine lv_topi (fun x_14 ex_14 => ?_)
          exact W.iret (v := x_14) hx hb hr (fun t ht hW => ⟨⟨x_14, (), rfl, trivial, ⟨by rw [ht]; exact hP, hDa _⟩⟩, hS.F ht⟩) hS.2.2 dX7_about_79
        · skip
          refine lv_tableIn (off := 68) (tgt := 80) hx hb dX7_about_12 (by decide) (by decide) (by decide) (by decide) ?_
          refine lv_aload_n hx hb dX7_about_80 rfl (lv_at hl 0 rfl) ?_
          refine va_get (D := (dC, dI)) (ci := 7) (v := .ref (q 27)) (C := RX7) (T := TX7) (N := 42) hx hb htb inw7 hown hK.1 hP 0 rfl rfl 27 (by decide) (htb _ wmt3_194) (fun _ h9 => h9) rfl dX7_about_81 ?_
          refine lv_iload_n hx hb dX7_about_84 rfl (lv_at hl 1 rfl) ?_
          refine va_iald (D := (dC, dI)) hx hb hK.1 hP 18 0 rfl rfl (z_in (by omega)) dX7_about_85 ?_
          refine lv_topi (fun x_15 ex_15 => ?_)
          exact W.iret (v := x_15) hx hb hr (fun t ht hW => ⟨⟨x_15, (), rfl, trivial, ⟨by rw [ht]; exact hP, hDa _⟩⟩, hS.F ht⟩) hS.2.2 dX7_about_86
        · skip
          refine lv_tableIn (off := 75) (tgt := 87) hx hb dX7_about_12 (by decide) (by decide) (by decide) (by decide) ?_
          refine lv_aload_n hx hb dX7_about_87 rfl (lv_at hl 0 rfl) ?_
          refine lv_iload_n hx hb dX7_about_88 rfl (lv_at hl 1 rfl) ?_
          refine zcA_i (w := (zM k q z)) (va_runV (As := [.int n]) (rest := []) ⟨hx, hb, hml, hown, htb⟩ (c_X7_isKnown l dC dI k q z n _ (show 0 ≤ n.toInt ∧ n.toInt < 120 by omega)) (cwV 1 htb (gzV wmt4_190 wmt4_192 wmp3_6 wmt1_8 wmt4_193) rfl rfl rfl (by decide +kernel) ⟨Nat.le_of_ble_eq_true rfl, Nat.le_of_ble_eq_true rfl⟩) (zpA_V (ci := 7) (q0 := 0) hK hP (hDa _) rfl rfl) rfl rfl hl.1 rfl (lv_room (Nat.le_of_ble_eq_true rfl)) dX7_about_89 ⟨Nat.le_of_ble_eq_true rfl, Nat.le_of_ble_eq_true rfl⟩) (hDa _) hS hA (fun r_16 u_17 H locs w_18 hP _ hS => ?_)
          rcases w_18 with ⟨e_20, h_19⟩ | ⟨e_22, h_21⟩
          · skip
            replace e_20 : r_16 = 1 := e_20
            subst e_20
            replace h_19 : kn z n.toNatClampNeg := h_19
            refine lv_if_eq (tgt := 99) hx hb dX7_about_92 (by decide) (fun c_23 => ?_) (fun c_23 => ?_)
            · skip
              exact absurd c_23 (by decide)
            · skip
              refine lv_iconst (v := 1) hx hb dX7_about_95 (by decide) ?_
              refine lv_goto (tgt := 100) hx hb dX7_about_96 (by decide) ?_
              exact W.iret (v := 1) hx hb hr (fun t ht hW => ⟨⟨1, (), rfl, trivial, ⟨by rw [ht]; exact hP, hDa _⟩⟩, hS.F ht⟩) hS.2.2 dX7_about_100
          · skip
            replace e_22 : r_16 = 0 := e_22
            subst e_22
            replace h_21 : ¬ kn z n.toNatClampNeg := h_21
            refine lv_if_eq (tgt := 99) hx hb dX7_about_92 (by decide) (fun c_24 => ?_) (fun c_24 => ?_)
            · skip
              refine lv_iconst (v := 0) hx hb dX7_about_99 (by decide) ?_
              exact W.iret (v := 0) hx hb hr (fun t ht hW => ⟨⟨0, (), rfl, trivial, ⟨by rw [ht]; exact hP, hDa _⟩⟩, hS.F ht⟩) hS.2.2 dX7_about_100
            · skip
              exact absurd (by decide) c_24
    · skip
      exact absurd c_8 (by decide)
  · skip
    replace e_7 : r_1 = 0 := e_7
    subst e_7
    replace h_6 : ¬ (0 ≤ n.toInt ∧ n.toInt < ((z.1 22)).toInt) := h_6
    refine lv_if_ne (tgt := 11) hx hb dX7_about_5 (by decide) (fun c_25 => ?_) (fun c_25 => ?_)
    · skip
      exact absurd c_25 (by decide)
    · skip
      refine lv_bipush (v := (-2)) hx hb dX7_about_8 (by decide) ?_
      exact W.iret (v := (-2)) hx hb hr (fun t ht hW => ⟨⟨(-2), (), rfl, trivial, ⟨by rw [ht]; exact hP, hDa _⟩⟩, hS.F ht⟩) hS.2.2 dX7_about_10
set_option maxHeartbeats 4000000 in
set_option maxRecDepth 100000 in
theorem c_X7_knownMany (l : Launch) (dC : Nat → ClassId) (dI : Nat → Nat → Nat) (k : Nat → ClassId) (q : Nat → Nat) (z : ZS) (w : Int32) (sz : Nat) (hI : MInv z) : Met l yX7_knownMany (wz yX7_knownMany cX7_knownMany 4 (some .int)) ({ frames := 1, cells := 0, slots := 0, locals := 22 }) (va_Pc [.ref (q 0), .int w] (zPre dC dI k (zTX k) (zM k q z) sz)) (va_Qi (fun (r : Int32) (u : Unit) => True) (fun u t => zPost dC dI (va_A (zM k q z) sz) (zM k q z) t) (va_A (zM k q z) sz)) 0 0 (va_A (zM k q z) sz) := by
  refine Met.ofW (cc := cX7_knownMany) (maxL := 4) (ret := (some .int)) (by decide) rfl ?_
  intro p e s m args below meth c s₁ B hml hv
  obtain ⟨rfl, hsz, hP, hK, hD0⟩ := hv
  have hx := B.exec
  have hb := B.bytes
  have hr := B.returns
  have hts := atoms_spec (ws := wz yX7_knownMany cX7_knownMany 4 (some .int)) B.pre
  have htb : ∀ w ∈ zw, w.before _ s = true := fun w h => hts w (List.mem_cons_of_mem _ h)
  have hown : s.vm.findClass RX7 = some m.cls := findClass_of_methodNamed B.named
  have hlocks := B.notSynchronized
  clear hts
  subst hsz
  have hD := hD0.self (sz := s.heap.size)
  generalize hAe : va_A (zM k q z) s.heap.size = A at hD ⊢
  have hA : ∀ q : Nat, s.heap.size ≤ q → A q := fun q h => by rw [← hAe]; exact Or.inr h
  have hDa : ∀ z9 : ZS, va_D A (zM k q z9) := fun z9 => va_D_adr (w := zM k q z) rfl hD
  have hl := lv_entry ([.ref (q 0), .int w]) (n := 4) (Nat.le_of_ble_eq_true rfl)
  rw [lg_entry_eq]
  generalize (lg_sl ([.ref (q 0), .int w]) ++ List.replicate (4 - (lg_sl ([.ref (q 0), .int w])).length) Slot.unset).toArray = ls at hl ⊢
  have hl : lv_has ls 4 [(0, .ref (q 0)), (1, .int w)] := hl
  refine z_start2 (A := A) (w := (zM k q z)) hP (fun H locs hP hS => ?_)
  clear hD0 hAe
  have ha0 := hI.1.1.1
  have ha1 := hI.1.1.2.1
  refine lv_iconst (v := 0) hx hb dX7_knownMany_0 (by decide) ?_
  refine lv_istore_n (lv' := [(2, .int 0), (0, .ref (q 0)), (1, .int w)]) hx hb dX7_knownMany_1 rfl hl (by decide) rfl (fun ls hl => ?_)
  refine lv_iconst (v := 0) hx hb dX7_knownMany_2 (by decide) ?_
  refine lv_istore_n (lv' := [(3, .int 0), (2, .int 0), (0, .ref (q 0)), (1, .int w)]) hx hb dX7_knownMany_3 rfl hl (by decide) rfl (fun ls hl => ?_)
  obtain ⟨kc, ekc⟩ : ∃ x : Int32, 0 = x := ⟨_, rfl⟩
  obtain ⟨i, ei⟩ : ∃ x : Int32, 0 = x := ⟨_, rfl⟩
  have hv4 : (0 ≤ i.toInt ∧ i.toInt ≤ 120) := by subst ekc ei; exact (by decide)
  replace hl : lv_has ls 4 [(3, .int i), (2, .int kc), (0, .ref (q 0)), (1, .int w)] := by subst ekc ei; exact hl
  clear ekc ei
  obtain ⟨mm4, hm4⟩ : ∃ mm : Nat, mm = (120 - i.toInt).toNat := ⟨_, rfl⟩
  refine z_cut2 hP hS hl ?_
  clear hl hP
  intro H locs ls hP hS hl
  induction mm4 using Nat.strongRecOn generalizing kc i H locs ls with
  | _ mm4 ih4 =>
    have hi := hv4
    refine lv_iload_n hx hb dX7_knownMany_4 rfl (lv_at hl 0 rfl) ?_
    refine lv_aload_n hx hb dX7_knownMany_5 rfl (lv_at hl 2 rfl) ?_
    refine va_get (D := (dC, dI)) (ci := 7) (v := .int (z.1 22)) (C := RX7) (T := TX7) (N := 42) hx hb htb inw7 hown hK.1 hP 0 rfl rfl 22 (by decide) (htb _ wmt3_189) (fun _ h9 => h9) rfl dX7_knownMany_6 ?_
    refine lv_topi (fun x_1 ex_1 => ?_)
    have hx_1 : x_1.toInt = (z.1 22).toInt := by rw [ex_1]
    refine lv_icmp_ge (tgt := 48) hx hb dX7_knownMany_9 (by decide) (fun c_2 => ?_) (fun c_2 => ?_)
    · skip
      have hc_2 := zb_le rfl rfl c_2
      refine lv_iload_n hx hb dX7_knownMany_48 rfl (lv_at hl 1 rfl) ?_
      exact W.iret (v := kc) hx hb hr (fun t ht hW => ⟨⟨kc, (), rfl, trivial, ⟨by rw [ht]; exact hP, hDa _⟩⟩, hS.F ht⟩) hS.2.2 dX7_knownMany_49
    · skip
      have hc_2 := zb_nle rfl rfl c_2
      refine lv_iload_n hx hb dX7_knownMany_12 rfl (lv_at hl 1 rfl) ?_
      refine lv_aload_n hx hb dX7_knownMany_13 rfl (lv_at hl 2 rfl) ?_
      refine lv_iload_n hx hb dX7_knownMany_14 rfl (lv_at hl 0 rfl) ?_
      refine zcA_i (w := (zM k q z)) (va_runV (As := [.int i]) (rest := [.int kc]) ⟨hx, hb, hml, hown, htb⟩ (c_X7_isKnown l dC dI k q z i _ (show 0 ≤ i.toInt ∧ i.toInt < 120 by omega)) (cwV 1 htb (gzV wmt4_190 wmt4_192 wmp3_6 wmt1_8 wmt4_193) rfl rfl rfl (by decide +kernel) ⟨Nat.le_of_ble_eq_true rfl, Nat.le_of_ble_eq_true rfl⟩) (zpA_V (ci := 7) (q0 := 0) hK hP (hDa _) rfl rfl) rfl rfl hl.1 rfl (lv_room (Nat.le_of_ble_eq_true rfl)) dX7_knownMany_15 ⟨Nat.le_of_ble_eq_true rfl, Nat.le_of_ble_eq_true rfl⟩) (hDa _) hS hA (fun r_3 u_4 H locs w_5 hP _ hS => ?_)
      rcases w_5 with ⟨e_7, h_6⟩ | ⟨e_9, h_8⟩
      · skip
        replace e_7 : r_3 = 1 := e_7
        subst e_7
        replace h_6 : kn z i.toNatClampNeg := h_6
        refine lv_if_eq (tgt := 39) hx hb dX7_knownMany_18 (by decide) (fun c_10 => ?_) (fun c_10 => ?_)
        · skip
          exact absurd c_10 (by decide)
        · skip
          refine lv_iload_n hx hb dX7_knownMany_21 rfl (lv_at hl 3 rfl) ?_
          refine lv_if_eq (tgt := 35) hx hb dX7_knownMany_22 (by decide) (fun c_11 => ?_) (fun c_11 => ?_)
          · skip
            have hc_11 := zb_eq rfl (show (0 : Int32).toInt = 0 by decide) c_11
            refine lv_iconst (v := 1) hx hb dX7_knownMany_35 (by decide) ?_
            refine lv_goto (tgt := 40) hx hb dX7_knownMany_36 (by decide) ?_
            refine lv_iadd hx hb dX7_knownMany_40 ?_
            refine lv_topi (fun x_12 ex_12 => ?_)
            refine lv_istore_n (lv' := [(2, .int x_12), (3, .int i), (0, .ref (q 0)), (1, .int w)]) hx hb dX7_knownMany_41 rfl hl (by decide) rfl (fun ls hl => ?_)
            obtain ⟨x_13, ex_13⟩ : ∃ y : Int32, y = i + 1 := ⟨_, rfl⟩
            have hx_13 : x_13.toInt = i.toInt + 1 := z_add ex_13 rfl (show (1 : Int32).toInt = 1 by decide) (by omega)
            refine lv_iinc (v := x_13) (lv' := [(3, .int x_13), (2, .int x_12), (0, .ref (q 0)), (1, .int w)]) hx hb dX7_knownMany_42 hl (k := 1) rfl (by rw [ex_13]; rfl) (by decide) rfl (fun ls hl => ?_)
            refine lv_goto (tgt := 4) hx hb dX7_knownMany_45 (by decide) ?_
            exact ih4 ((120 - x_13.toInt).toNat) (by omega) x_12 x_13 (show 0 ≤ x_13.toInt ∧ x_13.toInt ≤ 120 by omega) rfl H locs ls hP hS (lv_sub hl [0, 1, 2, 3] rfl)
          · skip
            have hc_11 := zb_ne rfl (show (0 : Int32).toInt = 0 by decide) c_11
            refine lv_aload_n hx hb dX7_knownMany_25 rfl (lv_at hl 2 rfl) ?_
            refine va_get (D := (dC, dI)) (ci := 7) (v := .ref (q 25)) (C := RX7) (T := TX7) (N := 42) hx hb htb inw7 hown hK.1 hP 0 rfl rfl 25 (by decide) (htb _ wmt3_192) (fun _ h9 => h9) rfl dX7_knownMany_26 ?_
            refine lv_iload_n hx hb dX7_knownMany_29 rfl (lv_at hl 0 rfl) ?_
            refine va_iald (D := (dC, dI)) hx hb hK.1 hP 16 0 rfl rfl (z_in (by omega)) dX7_knownMany_30 ?_
            refine lv_topi (fun x_14 ex_14 => ?_)
            refine lv_iconst (v := 1) hx hb dX7_knownMany_31 (by decide) ?_
            refine lv_icmp_ne (tgt := 39) hx hb dX7_knownMany_32 (by decide) (fun c_15 => ?_) (fun c_15 => ?_)
            · skip
              have hc_15 := zb_ne rfl (show (1 : Int32).toInt = 1 by decide) c_15
              refine lv_iconst (v := 0) hx hb dX7_knownMany_39 (by decide) ?_
              refine lv_iadd hx hb dX7_knownMany_40 ?_
              refine lv_topi (fun x_16 ex_16 => ?_)
              refine lv_istore_n (lv' := [(2, .int x_16), (3, .int i), (0, .ref (q 0)), (1, .int w)]) hx hb dX7_knownMany_41 rfl hl (by decide) rfl (fun ls hl => ?_)
              obtain ⟨x_17, ex_17⟩ : ∃ y : Int32, y = i + 1 := ⟨_, rfl⟩
              have hx_17 : x_17.toInt = i.toInt + 1 := z_add ex_17 rfl (show (1 : Int32).toInt = 1 by decide) (by omega)
              refine lv_iinc (v := x_17) (lv' := [(3, .int x_17), (2, .int x_16), (0, .ref (q 0)), (1, .int w)]) hx hb dX7_knownMany_42 hl (k := 1) rfl (by rw [ex_17]; rfl) (by decide) rfl (fun ls hl => ?_)
              refine lv_goto (tgt := 4) hx hb dX7_knownMany_45 (by decide) ?_
              exact ih4 ((120 - x_17.toInt).toNat) (by omega) x_16 x_17 (show 0 ≤ x_17.toInt ∧ x_17.toInt ≤ 120 by omega) rfl H locs ls hP hS (lv_sub hl [0, 1, 2, 3] rfl)
            · skip
              have hc_15 := zb_eq rfl (show (1 : Int32).toInt = 1 by decide) c_15
              refine lv_iconst (v := 1) hx hb dX7_knownMany_35 (by decide) ?_
              refine lv_goto (tgt := 40) hx hb dX7_knownMany_36 (by decide) ?_
              refine lv_iadd hx hb dX7_knownMany_40 ?_
              refine lv_topi (fun x_18 ex_18 => ?_)
              refine lv_istore_n (lv' := [(2, .int x_18), (3, .int i), (0, .ref (q 0)), (1, .int w)]) hx hb dX7_knownMany_41 rfl hl (by decide) rfl (fun ls hl => ?_)
              obtain ⟨x_19, ex_19⟩ : ∃ y : Int32, y = i + 1 := ⟨_, rfl⟩
              have hx_19 : x_19.toInt = i.toInt + 1 := z_add ex_19 rfl (show (1 : Int32).toInt = 1 by decide) (by omega)
              refine lv_iinc (v := x_19) (lv' := [(3, .int x_19), (2, .int x_18), (0, .ref (q 0)), (1, .int w)]) hx hb dX7_knownMany_42 hl (k := 1) rfl (by rw [ex_19]; rfl) (by decide) rfl (fun ls hl => ?_)
              refine lv_goto (tgt := 4) hx hb dX7_knownMany_45 (by decide) ?_
              exact ih4 ((120 - x_19.toInt).toNat) (by omega) x_18 x_19 (show 0 ≤ x_19.toInt ∧ x_19.toInt ≤ 120 by omega) rfl H locs ls hP hS (lv_sub hl [0, 1, 2, 3] rfl)
      · skip
        replace e_9 : r_3 = 0 := e_9
        subst e_9
        replace h_8 : ¬ kn z i.toNatClampNeg := h_8
        refine lv_if_eq (tgt := 39) hx hb dX7_knownMany_18 (by decide) (fun c_20 => ?_) (fun c_20 => ?_)
        · skip
          refine lv_iconst (v := 0) hx hb dX7_knownMany_39 (by decide) ?_
          refine lv_iadd hx hb dX7_knownMany_40 ?_
          refine lv_topi (fun x_21 ex_21 => ?_)
          refine lv_istore_n (lv' := [(2, .int x_21), (3, .int i), (0, .ref (q 0)), (1, .int w)]) hx hb dX7_knownMany_41 rfl hl (by decide) rfl (fun ls hl => ?_)
          obtain ⟨x_22, ex_22⟩ : ∃ y : Int32, y = i + 1 := ⟨_, rfl⟩
          have hx_22 : x_22.toInt = i.toInt + 1 := z_add ex_22 rfl (show (1 : Int32).toInt = 1 by decide) (by omega)
          refine lv_iinc (v := x_22) (lv' := [(3, .int x_22), (2, .int x_21), (0, .ref (q 0)), (1, .int w)]) hx hb dX7_knownMany_42 hl (k := 1) rfl (by rw [ex_22]; rfl) (by decide) rfl (fun ls hl => ?_)
          refine lv_goto (tgt := 4) hx hb dX7_knownMany_45 (by decide) ?_
          exact ih4 ((120 - x_22.toInt).toNat) (by omega) x_21 x_22 (show 0 ≤ x_22.toInt ∧ x_22.toInt ≤ 120 by omega) rfl H locs ls hP hS (lv_sub hl [0, 1, 2, 3] rfl)
        · skip
          exact absurd (by decide) c_20
set_option maxHeartbeats 4000000 in
set_option maxRecDepth 100000 in
theorem c_X7_count (l : Launch) (dC : Nat → ClassId) (dI : Nat → Nat → Nat) (k : Nat → ClassId) (q : Nat → Nat) (z : ZS) (w : Int32) (sz : Nat) (hI : MInv z) : Met l yX7_count (wz yX7_count cX7_count 2 (some .int)) ({ frames := 2, cells := 0, slots := 0, locals := 45 }) (va_Pc [.ref (q 0), .int w] (zPre dC dI k (zTX k) (zM k q z) sz)) (va_Qi (fun (r : Int32) (u : Unit) => True) (fun u t => zPost dC dI (va_A (zM k q z) sz) (zM k q z) t) (va_A (zM k q z) sz)) 0 0 (va_A (zM k q z) sz) := by
  refine Met.ofW (cc := cX7_count) (maxL := 2) (ret := (some .int)) (by decide) rfl ?_
  intro p e s m args below meth c s₁ B hml hv
  obtain ⟨rfl, hsz, hP, hK, hD0⟩ := hv
  have hx := B.exec
  have hb := B.bytes
  have hr := B.returns
  have hts := atoms_spec (ws := wz yX7_count cX7_count 2 (some .int)) B.pre
  have htb : ∀ w ∈ zw, w.before _ s = true := fun w h => hts w (List.mem_cons_of_mem _ h)
  have hown : s.vm.findClass RX7 = some m.cls := findClass_of_methodNamed B.named
  have hlocks := B.notSynchronized
  clear hts
  subst hsz
  have hD := hD0.self (sz := s.heap.size)
  generalize hAe : va_A (zM k q z) s.heap.size = A at hD ⊢
  have hA : ∀ q : Nat, s.heap.size ≤ q → A q := fun q h => by rw [← hAe]; exact Or.inr h
  have hDa : ∀ z9 : ZS, va_D A (zM k q z9) := fun z9 => va_D_adr (w := zM k q z) rfl hD
  have hl := lv_entry ([.ref (q 0), .int w]) (n := 2) (Nat.le_of_ble_eq_true rfl)
  rw [lg_entry_eq]
  generalize (lg_sl ([.ref (q 0), .int w]) ++ List.replicate (2 - (lg_sl ([.ref (q 0), .int w])).length) Slot.unset).toArray = ls at hl ⊢
  have hl : lv_has ls 2 [(0, .ref (q 0)), (1, .int w)] := hl
  refine z_start2 (A := A) (w := (zM k q z)) hP (fun H locs hP hS => ?_)
  clear hD0 hAe
  refine lv_iload_n hx hb dX7_count_0 rfl (lv_at hl 1 rfl) ?_
  rcases Decidable.em (w.toInt < 0 ∨ 8 < w.toInt) with sw_1 | sw_1
  · skip
    refine lv_tableOut (tgt := 122) hx hb dX7_count_1 sw_1 (by decide) ?_
    refine lv_bipush (v := (-2)) hx hb dX7_count_122 (by decide) ?_
    exact W.iret (v := (-2)) hx hb hr (fun t ht hW => ⟨⟨(-2), (), rfl, trivial, ⟨by rw [ht]; exact hP, hDa _⟩⟩, hS.F ht⟩) hS.2.2 dX7_count_124
  · skip
    have sw_2 : w = 0 ∨ w = 1 ∨ w = 2 ∨ w = 3 ∨ w = 4 ∨ w = 5 ∨ w = 6 ∨ w = 7 ∨ w = 8 := by simp only [zi_eq, (by decide : (0 : Int32).toInt = 0), (by decide : (1 : Int32).toInt = 1), (by decide : (2 : Int32).toInt = 2), (by decide : (3 : Int32).toInt = 3), (by decide : (4 : Int32).toInt = 4), (by decide : (5 : Int32).toInt = 5), (by decide : (6 : Int32).toInt = 6), (by decide : (7 : Int32).toInt = 7), (by decide : (8 : Int32).toInt = 8)]; omega
    clear sw_1
    rcases sw_2 with rfl | rfl | rfl | rfl | rfl | rfl | rfl | rfl | rfl
    · skip
      refine lv_tableIn (off := 51) (tgt := 52) hx hb dX7_count_1 (by decide) (by decide) (by decide) (by decide) ?_
      refine lv_aload_n hx hb dX7_count_52 rfl (lv_at hl 0 rfl) ?_
      refine va_get (D := (dC, dI)) (ci := 7) (v := .int (z.1 19)) (C := RX7) (T := TX7) (N := 42) hx hb htb inw7 hown hK.1 hP 0 rfl rfl 19 (by decide) (htb _ wmt3_186) (fun _ h9 => h9) rfl dX7_count_53 ?_
      refine lv_topi (fun x_3 ex_3 => ?_)
      have hx_3 : x_3.toInt = (z.1 19).toInt := by rw [ex_3]
      exact W.iret (v := x_3) hx hb hr (fun t ht hW => ⟨⟨x_3, (), rfl, trivial, ⟨by rw [ht]; exact hP, hDa _⟩⟩, hS.F ht⟩) hS.2.2 dX7_count_56
    · skip
      refine lv_tableIn (off := 56) (tgt := 57) hx hb dX7_count_1 (by decide) (by decide) (by decide) (by decide) ?_
      refine lv_aload_n hx hb dX7_count_57 rfl (lv_at hl 0 rfl) ?_
      refine va_get (D := (dC, dI)) (ci := 7) (v := .int (z.1 22)) (C := RX7) (T := TX7) (N := 42) hx hb htb inw7 hown hK.1 hP 0 rfl rfl 22 (by decide) (htb _ wmt3_189) (fun _ h9 => h9) rfl dX7_count_58 ?_
      refine lv_topi (fun x_4 ex_4 => ?_)
      have hx_4 : x_4.toInt = (z.1 22).toInt := by rw [ex_4]
      exact W.iret (v := x_4) hx hb hr (fun t ht hW => ⟨⟨x_4, (), rfl, trivial, ⟨by rw [ht]; exact hP, hDa _⟩⟩, hS.F ht⟩) hS.2.2 dX7_count_61
    · skip
      refine lv_tableIn (off := 61) (tgt := 62) hx hb dX7_count_1 (by decide) (by decide) (by decide) (by decide) ?_
      refine lv_aload_n hx hb dX7_count_62 rfl (lv_at hl 0 rfl) ?_
      refine lv_iconst (v := 0) hx hb dX7_count_63 (by decide) ?_
      refine zcA_i (w := (zM k q z)) (va_runV (As := [.int 0]) (rest := []) ⟨hx, hb, hml, hown, htb⟩ (c_X7_knownMany l dC dI k q z 0 _ hI) (cwV 1 htb (gzV wmt5_131 wmt5_133 wmp4_7 wmt1_8 wmt5_134) rfl rfl rfl (by decide +kernel) ⟨Nat.le_of_ble_eq_true rfl, Nat.le_of_ble_eq_true rfl⟩) (zpA_V (ci := 7) (q0 := 0) hK hP (hDa _) rfl rfl) rfl rfl hl.1 rfl (lv_room (Nat.le_of_ble_eq_true rfl)) dX7_count_64 ⟨Nat.le_of_ble_eq_true rfl, Nat.le_of_ble_eq_true rfl⟩) (hDa _) hS hA (fun r_5 u_6 H locs w_7 hP _ hS => ?_)
      exact W.iret (v := r_5) hx hb hr (fun t ht hW => ⟨⟨r_5, (), rfl, trivial, ⟨by rw [ht]; exact hP, hDa _⟩⟩, hS.F ht⟩) hS.2.2 dX7_count_67
    · skip
      refine lv_tableIn (off := 67) (tgt := 68) hx hb dX7_count_1 (by decide) (by decide) (by decide) (by decide) ?_
      refine lv_aload_n hx hb dX7_count_68 rfl (lv_at hl 0 rfl) ?_
      refine lv_iconst (v := 1) hx hb dX7_count_69 (by decide) ?_
      refine zcA_i (w := (zM k q z)) (va_runV (As := [.int 1]) (rest := []) ⟨hx, hb, hml, hown, htb⟩ (c_X7_knownMany l dC dI k q z 1 _ hI) (cwV 1 htb (gzV wmt5_131 wmt5_133 wmp4_7 wmt1_8 wmt5_134) rfl rfl rfl (by decide +kernel) ⟨Nat.le_of_ble_eq_true rfl, Nat.le_of_ble_eq_true rfl⟩) (zpA_V (ci := 7) (q0 := 0) hK hP (hDa _) rfl rfl) rfl rfl hl.1 rfl (lv_room (Nat.le_of_ble_eq_true rfl)) dX7_count_70 ⟨Nat.le_of_ble_eq_true rfl, Nat.le_of_ble_eq_true rfl⟩) (hDa _) hS hA (fun r_8 u_9 H locs w_10 hP _ hS => ?_)
      exact W.iret (v := r_8) hx hb hr (fun t ht hW => ⟨⟨r_8, (), rfl, trivial, ⟨by rw [ht]; exact hP, hDa _⟩⟩, hS.F ht⟩) hS.2.2 dX7_count_73
    · skip
      refine lv_tableIn (off := 73) (tgt := 74) hx hb dX7_count_1 (by decide) (by decide) (by decide) (by decide) ?_
      refine lv_aload_n hx hb dX7_count_74 rfl (lv_at hl 0 rfl) ?_
      refine va_get (D := (dC, dI)) (ci := 7) (v := .ref (q 2)) (C := RX7) (T := TX7) (N := 42) hx hb htb inw7 hown hK.1 hP 0 rfl rfl 2 (by decide) (htb _ wmt3_169) (fun _ h9 => h9) rfl dX7_count_75 ?_
      refine lv_iconst (v := 0) hx hb dX7_count_78 (by decide) ?_
      refine va_iald (D := (dC, dI)) hx hb hK.1 hP 1 0 rfl rfl (show ¬ _ by decide) dX7_count_79 ?_
      refine lv_topi (fun x_11 ex_11 => ?_)
      refine lv_aload_n hx hb dX7_count_80 rfl (lv_at hl 0 rfl) ?_
      refine va_get (D := (dC, dI)) (ci := 7) (v := .ref (q 2)) (C := RX7) (T := TX7) (N := 42) hx hb htb inw7 hown hK.1 hP 0 rfl rfl 2 (by decide) (htb _ wmt3_169) (fun _ h9 => h9) rfl dX7_count_81 ?_
      refine lv_iconst (v := 1) hx hb dX7_count_84 (by decide) ?_
      refine va_iald (D := (dC, dI)) hx hb hK.1 hP 1 0 rfl rfl (show ¬ _ by decide) dX7_count_85 ?_
      refine lv_topi (fun x_12 ex_12 => ?_)
      refine lv_iadd hx hb dX7_count_86 ?_
      refine lv_topi (fun x_13 ex_13 => ?_)
      refine lv_aload_n hx hb dX7_count_87 rfl (lv_at hl 0 rfl) ?_
      refine va_get (D := (dC, dI)) (ci := 7) (v := .ref (q 2)) (C := RX7) (T := TX7) (N := 42) hx hb htb inw7 hown hK.1 hP 0 rfl rfl 2 (by decide) (htb _ wmt3_169) (fun _ h9 => h9) rfl dX7_count_88 ?_
      refine lv_iconst (v := 2) hx hb dX7_count_91 (by decide) ?_
      refine va_iald (D := (dC, dI)) hx hb hK.1 hP 1 0 rfl rfl (show ¬ _ by decide) dX7_count_92 ?_
      refine lv_topi (fun x_14 ex_14 => ?_)
      refine lv_iadd hx hb dX7_count_93 ?_
      refine lv_topi (fun x_15 ex_15 => ?_)
      refine lv_aload_n hx hb dX7_count_94 rfl (lv_at hl 0 rfl) ?_
      refine va_get (D := (dC, dI)) (ci := 7) (v := .ref (q 2)) (C := RX7) (T := TX7) (N := 42) hx hb htb inw7 hown hK.1 hP 0 rfl rfl 2 (by decide) (htb _ wmt3_169) (fun _ h9 => h9) rfl dX7_count_95 ?_
      refine lv_iconst (v := 3) hx hb dX7_count_98 (by decide) ?_
      refine va_iald (D := (dC, dI)) hx hb hK.1 hP 1 0 rfl rfl (show ¬ _ by decide) dX7_count_99 ?_
      refine lv_topi (fun x_16 ex_16 => ?_)
      refine lv_iadd hx hb dX7_count_100 ?_
      refine lv_topi (fun x_17 ex_17 => ?_)
      exact W.iret (v := x_17) hx hb hr (fun t ht hW => ⟨⟨x_17, (), rfl, trivial, ⟨by rw [ht]; exact hP, hDa _⟩⟩, hS.F ht⟩) hS.2.2 dX7_count_101
    · skip
      refine lv_tableIn (off := 101) (tgt := 102) hx hb dX7_count_1 (by decide) (by decide) (by decide) (by decide) ?_
      refine lv_aload_n hx hb dX7_count_102 rfl (lv_at hl 0 rfl) ?_
      refine va_get (D := (dC, dI)) (ci := 7) (v := .int (z.1 11)) (C := RX7) (T := TX7) (N := 42) hx hb htb inw7 hown hK.1 hP 0 rfl rfl 11 (by decide) (htb _ wmt3_178) (fun _ h9 => h9) rfl dX7_count_103 ?_
      refine lv_topi (fun x_18 ex_18 => ?_)
      have hx_18 : x_18.toInt = (z.1 11).toInt := by rw [ex_18]
      exact W.iret (v := x_18) hx hb hr (fun t ht hW => ⟨⟨x_18, (), rfl, trivial, ⟨by rw [ht]; exact hP, hDa _⟩⟩, hS.F ht⟩) hS.2.2 dX7_count_106
    · skip
      refine lv_tableIn (off := 106) (tgt := 107) hx hb dX7_count_1 (by decide) (by decide) (by decide) (by decide) ?_
      refine lv_aload_n hx hb dX7_count_107 rfl (lv_at hl 0 rfl) ?_
      refine va_get (D := (dC, dI)) (ci := 7) (v := .int (z.1 35)) (C := RX7) (T := TX7) (N := 42) hx hb htb inw7 hown hK.1 hP 0 rfl rfl 35 (by decide) (htb _ wmt3_202) (fun _ h9 => h9) rfl dX7_count_108 ?_
      refine lv_topi (fun x_19 ex_19 => ?_)
      have hx_19 : x_19.toInt = (z.1 35).toInt := by rw [ex_19]
      exact W.iret (v := x_19) hx hb hr (fun t ht hW => ⟨⟨x_19, (), rfl, trivial, ⟨by rw [ht]; exact hP, hDa _⟩⟩, hS.F ht⟩) hS.2.2 dX7_count_111
    · skip
      refine lv_tableIn (off := 111) (tgt := 112) hx hb dX7_count_1 (by decide) (by decide) (by decide) (by decide) ?_
      refine lv_aload_n hx hb dX7_count_112 rfl (lv_at hl 0 rfl) ?_
      refine va_get (D := (dC, dI)) (ci := 7) (v := .int (z.1 20)) (C := RX7) (T := TX7) (N := 42) hx hb htb inw7 hown hK.1 hP 0 rfl rfl 20 (by decide) (htb _ wmt3_187) (fun _ h9 => h9) rfl dX7_count_113 ?_
      refine lv_topi (fun x_20 ex_20 => ?_)
      have hx_20 : x_20.toInt = (z.1 20).toInt := by rw [ex_20]
      exact W.iret (v := x_20) hx hb hr (fun t ht hW => ⟨⟨x_20, (), rfl, trivial, ⟨by rw [ht]; exact hP, hDa _⟩⟩, hS.F ht⟩) hS.2.2 dX7_count_116
    · skip
      refine lv_tableIn (off := 116) (tgt := 117) hx hb dX7_count_1 (by decide) (by decide) (by decide) (by decide) ?_
      refine lv_aload_n hx hb dX7_count_117 rfl (lv_at hl 0 rfl) ?_
      refine va_get (D := (dC, dI)) (ci := 7) (v := .int (z.1 41)) (C := RX7) (T := TX7) (N := 42) hx hb htb inw7 hown hK.1 hP 0 rfl rfl 41 (by decide) (htb _ wmt3_208) (fun _ h9 => h9) rfl dX7_count_118 ?_
      refine lv_topi (fun x_21 ex_21 => ?_)
      have hx_21 : x_21.toInt = (z.1 41).toInt := by rw [ex_21]
      exact W.iret (v := x_21) hx hb hr (fun t ht hW => ⟨⟨x_21, (), rfl, trivial, ⟨by rw [ht]; exact hP, hDa _⟩⟩, hS.F ht⟩) hS.2.2 dX7_count_121
set_option maxHeartbeats 4000000 in
set_option maxRecDepth 100000 in
theorem c_X7_polls (l : Launch) (dC : Nat → ClassId) (dI : Nat → Nat → Nat) (k : Nat → ClassId) (q : Nat → Nat) (z : ZS) (g : Int32) (d : Int32) (sz : Nat) (hI : MInv z) : Met l yX7_polls (wz yX7_polls cX7_polls 6 none) ({ frames := 1, cells := 0, slots := 0, locals := 22 }) (va_Pc [.ref (q 0), .int g, .int d] (zPre dC dI k (zTX k) (zM k q z) sz)) (va_Qv (fun (u : Int32 × Int32) => (0 ≤ u.2.toInt ∧ u.2.toInt ≤ u.1.toInt ∧ u.1.toInt ≤ 120)) (fun u t => zPost dC dI (va_A (zM k q z) sz) (zM k q (sI (sI z 28 u.1) 29 u.2)) t) (va_A (zM k q z) sz)) 0 0 (va_A (zM k q z) sz) := by
  refine Met.ofW (cc := cX7_polls) (maxL := 6) (ret := none) (by decide) rfl ?_
  intro p e s m args below meth c s₁ B hml hv
  obtain ⟨rfl, hsz, hP, hK, hD0⟩ := hv
  have hx := B.exec
  have hb := B.bytes
  have hr := B.returns
  have hts := atoms_spec (ws := wz yX7_polls cX7_polls 6 none) B.pre
  have htb : ∀ w ∈ zw, w.before _ s = true := fun w h => hts w (List.mem_cons_of_mem _ h)
  have hown : s.vm.findClass RX7 = some m.cls := findClass_of_methodNamed B.named
  have hlocks := B.notSynchronized
  clear hts
  subst hsz
  have hD := hD0.self (sz := s.heap.size)
  generalize hAe : va_A (zM k q z) s.heap.size = A at hD ⊢
  have hA : ∀ q : Nat, s.heap.size ≤ q → A q := fun q h => by rw [← hAe]; exact Or.inr h
  have hDa : ∀ z9 : ZS, va_D A (zM k q z9) := fun z9 => va_D_adr (w := zM k q z) rfl hD
  have hl := lv_entry ([.ref (q 0), .int g, .int d]) (n := 6) (Nat.le_of_ble_eq_true rfl)
  rw [lg_entry_eq]
  generalize (lg_sl ([.ref (q 0), .int g, .int d]) ++ List.replicate (6 - (lg_sl ([.ref (q 0), .int g, .int d])).length) Slot.unset).toArray = ls at hl ⊢
  have hl : lv_has ls 6 [(0, .ref (q 0)), (1, .int g), (2, .int d)] := hl
  refine z_start2 (A := A) (w := (zM k q z)) hP (fun H locs hP hS => ?_)
  clear hD0 hAe
  have ha0 := hI.1.1.1
  have ha1 := hI.1.1.2.1
  refine lv_iconst (v := 0) hx hb dX7_polls_0 (by decide) ?_
  refine lv_istore_n (lv' := [(3, .int 0), (0, .ref (q 0)), (1, .int g), (2, .int d)]) hx hb dX7_polls_1 rfl hl (by decide) rfl (fun ls hl => ?_)
  refine lv_aload_n hx hb dX7_polls_2 rfl (lv_at hl 1 rfl) ?_
  refine lv_iconst (v := 0) hx hb dX7_polls_3 (by decide) ?_
  refine va_put (D := (dC, dI)) (ci := 7) (v := .int 0) (ty := .int) (C := RX7) (T := TX7) (N := 42) hx hb htb inw7 tyX7 tyX7_ok nmX7 hown hK.1 hP (hDa _) hS 0 rfl rfl 28 (by decide) (htb _ wmt3_195) (fun _ h9 => h9) rfl (by decide +kernel) rfl rfl (Nat.le_of_ble_eq_true rfl) dX7_polls_4 (fun H locs hP _ hS => ?_)
  have hP : va_P (dC, dI) vwCl (zM k q (sI z 28 0)) H := hP
  refine lv_aload_n hx hb dX7_polls_7 rfl (lv_at hl 1 rfl) ?_
  refine lv_iconst (v := 0) hx hb dX7_polls_8 (by decide) ?_
  refine va_put (D := (dC, dI)) (ci := 7) (v := .int 0) (ty := .int) (C := RX7) (T := TX7) (N := 42) hx hb htb inw7 tyX7 tyX7_ok nmX7 hown hK.1 hP (hDa _) hS 0 rfl rfl 29 (by decide) (htb _ wmt3_196) (fun _ h9 => h9) rfl (by decide +kernel) rfl rfl (Nat.le_of_ble_eq_true rfl) dX7_polls_9 (fun H locs hP _ hS => ?_)
  have hP : va_P (dC, dI) vwCl (zM k q (sI (sI z 28 0) 29 0)) H := hP
  refine lv_iconst (v := 0) hx hb dX7_polls_12 (by decide) ?_
  refine lv_istore (lv' := [(4, .int 0), (3, .int 0), (0, .ref (q 0)), (1, .int g), (2, .int d)]) hx hb dX7_polls_13 hl (by decide) rfl (fun ls hl => ?_)
  obtain ⟨sn, esn⟩ : ∃ x : Int32, 0 = x := ⟨_, rfl⟩
  obtain ⟨i, ei⟩ : ∃ x : Int32, 0 = x := ⟨_, rfl⟩
  obtain ⟨p1, ep1⟩ : ∃ x : Int32, 0 = x := ⟨_, rfl⟩
  obtain ⟨y1, ey1⟩ : ∃ x : Int32, 0 = x := ⟨_, rfl⟩
  have hv15 : (0 ≤ i.toInt ∧ i.toInt ≤ (z.1 22).toInt) ∧ (0 ≤ y1.toInt ∧ y1.toInt ≤ p1.toInt ∧ p1.toInt ≤ i.toInt) := by subst esn ei ep1 ey1; exact ⟨⟨by decide, hI.1.1.1⟩, (by decide)⟩
  replace hl : lv_has ls 6 [(4, .int i), (3, .int sn), (0, .ref (q 0)), (1, .int g), (2, .int d)] := by subst esn ei ep1 ey1; exact hl
  replace hP : va_P (dC, dI) vwCl (zM k q (sI (sI z 28 p1) 29 y1)) H := by subst ep1 ey1; exact hP
  clear esn ei ep1 ey1
  obtain ⟨mm15, hm15⟩ : ∃ mm : Nat, mm = (120 - i.toInt).toNat := ⟨_, rfl⟩
  refine z_cut2 hP hS hl ?_
  clear hl hP
  intro H locs ls hP hS hl
  induction mm15 using Nat.strongRecOn generalizing sn i p1 y1 H locs ls with
  | _ mm15 ih15 =>
    obtain ⟨hi, hp⟩ := hv15
    refine lv_iload hx hb dX7_polls_15 (lv_at hl 0 rfl) ?_
    refine lv_aload_n hx hb dX7_polls_17 rfl (lv_at hl 2 rfl) ?_
    refine va_get (D := (dC, dI)) (ci := 7) (v := .int (z.1 22)) (C := RX7) (T := TX7) (N := 42) hx hb htb inw7 hown hK.1 hP 0 rfl rfl 22 (by decide) (htb _ wmt3_189) (fun _ h9 => h9) rfl dX7_polls_18 ?_
    refine lv_topi (fun x_1 ex_1 => ?_)
    have hx_1 : x_1.toInt = (z.1 22).toInt := by rw [ex_1]
    refine lv_icmp_ge (tgt := 112) hx hb dX7_polls_21 (by decide) (fun c_2 => ?_) (fun c_2 => ?_)
    · skip
      have hc_2 := zb_le rfl rfl c_2
      exact W.vret hx hb hr (fun t ht hW => ⟨⟨(p1, y1), rfl, (show (0 ≤ y1.toInt ∧ y1.toInt ≤ p1.toInt ∧ p1.toInt ≤ 120) from (by omega)), ⟨by rw [ht]; exact hP, hDa _⟩⟩, hS.F ht⟩) hS.2.2 dX7_polls_112
    · skip
      have hc_2 := zb_nle rfl rfl c_2
      refine lv_aload_n hx hb dX7_polls_24 rfl (lv_at hl 2 rfl) ?_
      refine va_get (D := (dC, dI)) (ci := 7) (v := .ref (q 23)) (C := RX7) (T := TX7) (N := 42) hx hb htb inw7 hown hK.1 hP 0 rfl rfl 23 (by decide) (htb _ wmt3_190) (fun _ h9 => h9) rfl dX7_polls_25 ?_
      refine lv_iload hx hb dX7_polls_28 (lv_at hl 0 rfl) ?_
      refine va_iald (D := (dC, dI)) hx hb hK.1 hP 14 0 rfl rfl (z_in (by omega)) dX7_polls_30 ?_
      refine lv_topi (fun x_3 ex_3 => ?_)
      replace ex_3 : x_3 = (z.2.2.1 23) i.toNatClampNeg := ex_3
      have hpe : 0 ≤ x_3.toInt ∧ x_3.toInt < 24 := by have q := hI.1.1.2.2 i.toNatClampNeg (by rw [z_clamp hi.1]; omega); rw [ex_3]; omega
      refine lv_istore (lv' := [(5, .int x_3), (4, .int i), (3, .int sn), (0, .ref (q 0)), (1, .int g), (2, .int d)]) hx hb dX7_polls_31 hl (by decide) rfl (fun ls hl => ?_)
      refine lv_aload_n hx hb dX7_polls_33 rfl (lv_at hl 3 rfl) ?_
      refine va_get (D := (dC, dI)) (ci := 7) (v := .ref (q 24)) (C := RX7) (T := TX7) (N := 42) hx hb htb inw7 hown hK.1 hP 0 rfl rfl 24 (by decide) (htb _ wmt3_191) (fun _ h9 => h9) rfl dX7_polls_34 ?_
      refine lv_iload hx hb dX7_polls_37 (lv_at hl 1 rfl) ?_
      refine va_iald (D := (dC, dI)) hx hb hK.1 hP 15 0 rfl rfl (z_in (by omega)) dX7_polls_39 ?_
      refine lv_topi (fun x_4 ex_4 => ?_)
      replace ex_4 : x_4 = (z.2.2.1 24) i.toNatClampNeg := ex_4
      refine lv_iload_n hx hb dX7_polls_40 rfl (lv_at hl 5 rfl) ?_
      refine lv_icmp_ne (tgt := 106) hx hb dX7_polls_41 (by decide) (fun c_5 => ?_) (fun c_5 => ?_)
      · skip
        have hc_5 := zb_ne rfl rfl c_5
        obtain ⟨x_6, ex_6⟩ : ∃ y : Int32, y = i + 1 := ⟨_, rfl⟩
        have hx_6 : x_6.toInt = i.toInt + 1 := z_add ex_6 rfl (show (1 : Int32).toInt = 1 by decide) (by omega)
        refine lv_iinc (v := x_6) (lv' := [(4, .int x_6), (5, .int x_3), (3, .int sn), (0, .ref (q 0)), (1, .int g), (2, .int d)]) hx hb dX7_polls_106 hl (k := 1) rfl (by rw [ex_6]; rfl) (by decide) rfl (fun ls hl => ?_)
        refine lv_goto (tgt := 15) hx hb dX7_polls_109 (by decide) ?_
        exact ih15 ((120 - x_6.toInt).toNat) (by omega) sn x_6 p1 y1 ⟨(show 0 ≤ x_6.toInt ∧ x_6.toInt ≤ (z.1 22).toInt by omega), (show 0 ≤ y1.toInt ∧ y1.toInt ≤ p1.toInt ∧ p1.toInt ≤ x_6.toInt by omega)⟩ rfl H locs ls hP hS (lv_sub hl [0, 2, 3, 4, 5] rfl)
      · skip
        have hc_5 := zb_eq rfl rfl c_5
        refine lv_aload_n hx hb dX7_polls_44 rfl (lv_at hl 3 rfl) ?_
        refine va_get (D := (dC, dI)) (ci := 7) (v := .ref (q 21)) (C := RX7) (T := TX7) (N := 42) hx hb htb inw7 hown hK.1 hP 0 rfl rfl 21 (by decide) (htb _ wmt3_188) (fun _ h9 => h9) rfl dX7_polls_45 ?_
        refine lv_iload hx hb dX7_polls_48 (lv_at hl 0 rfl) ?_
        refine va_iald (D := (dC, dI)) hx hb hK.1 hP 13 0 rfl rfl (z_in (by omega)) dX7_polls_50 ?_
        refine lv_topi (fun x_7 ex_7 => ?_)
        replace ex_7 : x_7 = (z.2.2.1 21) x_3.toNatClampNeg := ex_7
        refine lv_iload_n hx hb dX7_polls_51 rfl (lv_at hl 4 rfl) ?_
        refine lv_icmp_ne (tgt := 106) hx hb dX7_polls_52 (by decide) (fun c_8 => ?_) (fun c_8 => ?_)
        · skip
          have hc_8 := zb_ne rfl rfl c_8
          obtain ⟨x_9, ex_9⟩ : ∃ y : Int32, y = i + 1 := ⟨_, rfl⟩
          have hx_9 : x_9.toInt = i.toInt + 1 := z_add ex_9 rfl (show (1 : Int32).toInt = 1 by decide) (by omega)
          refine lv_iinc (v := x_9) (lv' := [(4, .int x_9), (5, .int x_3), (3, .int sn), (0, .ref (q 0)), (1, .int g), (2, .int d)]) hx hb dX7_polls_106 hl (k := 1) rfl (by rw [ex_9]; rfl) (by decide) rfl (fun ls hl => ?_)
          refine lv_goto (tgt := 15) hx hb dX7_polls_109 (by decide) ?_
          exact ih15 ((120 - x_9.toInt).toNat) (by omega) sn x_9 p1 y1 ⟨(show 0 ≤ x_9.toInt ∧ x_9.toInt ≤ (z.1 22).toInt by omega), (show 0 ≤ y1.toInt ∧ y1.toInt ≤ p1.toInt ∧ p1.toInt ≤ x_9.toInt by omega)⟩ rfl H locs ls hP hS (lv_sub hl [0, 2, 3, 4, 5] rfl)
        · skip
          have hc_8 := zb_eq rfl rfl c_8
          refine lv_aload_n hx hb dX7_polls_55 rfl (lv_at hl 3 rfl) ?_
          refine lv_iload hx hb dX7_polls_56 (lv_at hl 1 rfl) ?_
          refine zcA_i (w := (zM k q (sI (sI z 28 p1) 29 y1))) (va_runV (As := [.int i]) (rest := []) ⟨hx, hb, hml, hown, htb⟩ (c_X7_isKnown l dC dI k q (sI (sI z 28 p1) 29 y1) i _ (show 0 ≤ i.toInt ∧ i.toInt < 120 by omega)) (cwV 1 htb (gzV wmt4_190 wmt4_192 wmp3_6 wmt1_8 wmt4_193) rfl rfl rfl (by decide +kernel) ⟨Nat.le_of_ble_eq_true rfl, Nat.le_of_ble_eq_true rfl⟩) (zpA_V (ci := 7) (q0 := 0) hK hP (hDa _) rfl rfl) rfl rfl hl.1 rfl (lv_room (Nat.le_of_ble_eq_true rfl)) dX7_polls_58 ⟨Nat.le_of_ble_eq_true rfl, Nat.le_of_ble_eq_true rfl⟩) (hDa _) hS hA (fun r_10 u_11 H locs w_12 hP _ hS => ?_)
          rcases w_12 with ⟨e_14, h_13⟩ | ⟨e_16, h_15⟩
          · skip
            replace e_14 : r_10 = 1 := e_14
            subst e_14
            replace h_13 : kn (sI (sI z 28 p1) 29 y1) i.toNatClampNeg := h_13
            refine lv_if_eq (tgt := 106) hx hb dX7_polls_61 (by decide) (fun c_17 => ?_) (fun c_17 => ?_)
            · skip
              exact absurd c_17 (by decide)
            · skip
              refine lv_iload_n hx hb dX7_polls_64 rfl (lv_at hl 2 rfl) ?_
              refine lv_iload hx hb dX7_polls_65 (lv_at hl 0 rfl) ?_
              refine lv_ishr hx hb dX7_polls_67 ?_
              refine lv_topi (fun x_18 ex_18 => ?_)
              refine lv_iconst (v := 1) hx hb dX7_polls_68 (by decide) ?_
              refine lv_iand hx hb dX7_polls_69 ?_
              refine lv_topi (fun x_19 ex_19 => ?_)
              refine lv_if_ne (tgt := 106) hx hb dX7_polls_70 (by decide) (fun c_20 => ?_) (fun c_20 => ?_)
              · skip
                have hc_20 := zb_ne rfl (show (0 : Int32).toInt = 0 by decide) c_20
                obtain ⟨x_21, ex_21⟩ : ∃ y : Int32, y = i + 1 := ⟨_, rfl⟩
                have hx_21 : x_21.toInt = i.toInt + 1 := z_add ex_21 rfl (show (1 : Int32).toInt = 1 by decide) (by omega)
                refine lv_iinc (v := x_21) (lv' := [(4, .int x_21), (5, .int x_3), (3, .int sn), (0, .ref (q 0)), (1, .int g), (2, .int d)]) hx hb dX7_polls_106 hl (k := 1) rfl (by rw [ex_21]; rfl) (by decide) rfl (fun ls hl => ?_)
                refine lv_goto (tgt := 15) hx hb dX7_polls_109 (by decide) ?_
                exact ih15 ((120 - x_21.toInt).toNat) (by omega) sn x_21 p1 y1 ⟨(show 0 ≤ x_21.toInt ∧ x_21.toInt ≤ (z.1 22).toInt by omega), (show 0 ≤ y1.toInt ∧ y1.toInt ≤ p1.toInt ∧ p1.toInt ≤ x_21.toInt by omega)⟩ rfl H locs ls hP hS (lv_sub hl [0, 2, 3, 4, 5] rfl)
              · skip
                have hc_20 := zb_eq rfl (show (0 : Int32).toInt = 0 by decide) c_20
                refine lv_iload_n hx hb dX7_polls_73 rfl (lv_at hl 2 rfl) ?_
                refine lv_iconst (v := 1) hx hb dX7_polls_74 (by decide) ?_
                refine lv_iload hx hb dX7_polls_75 (lv_at hl 0 rfl) ?_
                refine lv_ishl hx hb dX7_polls_77 ?_
                refine lv_topi (fun x_22 ex_22 => ?_)
                refine lv_ior hx hb dX7_polls_78 ?_
                refine lv_topi (fun x_23 ex_23 => ?_)
                refine lv_istore_n (lv' := [(3, .int x_23), (5, .int x_3), (4, .int i), (0, .ref (q 0)), (1, .int g), (2, .int d)]) hx hb dX7_polls_79 rfl hl (by decide) rfl (fun ls hl => ?_)
                refine lv_aload_n hx hb dX7_polls_80 rfl (lv_at hl 3 rfl) ?_
                refine lv_dup hx hb dX7_polls_81 rfl ?_
                refine va_get (D := (dC, dI)) (ci := 7) (v := .int p1) (C := RX7) (T := TX7) (N := 42) hx hb htb inw7 hown hK.1 hP 0 rfl rfl 28 (by decide) (htb _ wmt3_195) (fun _ h9 => h9) rfl dX7_polls_82 ?_
                refine lv_iconst (v := 1) hx hb dX7_polls_85 (by decide) ?_
                refine lv_iadd hx hb dX7_polls_86 ?_
                refine lv_topi (fun x_24 ex_24 => ?_)
                have hx_24 := z_add ex_24 rfl (show (1 : Int32).toInt = 1 by decide) (by omega)
                refine va_put (D := (dC, dI)) (ci := 7) (v := .int x_24) (ty := .int) (C := RX7) (T := TX7) (N := 42) hx hb htb inw7 tyX7 tyX7_ok nmX7 hown hK.1 hP (hDa _) hS 0 rfl rfl 28 (by decide) (htb _ wmt3_195) (fun _ h9 => h9) rfl (by decide +kernel) rfl rfl (Nat.le_of_ble_eq_true rfl) dX7_polls_87 (fun H locs hP _ hS => ?_)
                have hP : va_P (dC, dI) vwCl (zM k q (sI (sI z 29 y1) 28 x_24)) H := hP
                refine lv_aload_n hx hb dX7_polls_90 rfl (lv_at hl 3 rfl) ?_
                refine lv_dup hx hb dX7_polls_91 rfl ?_
                refine va_get (D := (dC, dI)) (ci := 7) (v := .int y1) (C := RX7) (T := TX7) (N := 42) hx hb htb inw7 hown hK.1 hP 0 rfl rfl 29 (by decide) (htb _ wmt3_196) (fun _ h9 => h9) rfl dX7_polls_92 ?_
                refine lv_aload_n hx hb dX7_polls_95 rfl (lv_at hl 3 rfl) ?_
                refine va_get (D := (dC, dI)) (ci := 7) (v := .ref (q 25)) (C := RX7) (T := TX7) (N := 42) hx hb htb inw7 hown hK.1 hP 0 rfl rfl 25 (by decide) (htb _ wmt3_192) (fun _ h9 => h9) rfl dX7_polls_96 ?_
                refine lv_iload hx hb dX7_polls_99 (lv_at hl 2 rfl) ?_
                refine va_iald (D := (dC, dI)) hx hb hK.1 hP 16 0 rfl rfl (z_in (by omega)) dX7_polls_101 ?_
                refine lv_topi (fun x_25 ex_25 => ?_)
                replace ex_25 : x_25 = (z.2.2.1 25) i.toNatClampNeg := ex_25
                have hye : 0 ≤ x_25.toInt ∧ x_25.toInt ≤ 1 := by have q := hI.1.2 i.toNatClampNeg (by rw [z_clamp hi.1]; omega); rw [ex_25]; omega
                refine lv_iadd hx hb dX7_polls_102 ?_
                refine lv_topi (fun x_26 ex_26 => ?_)
                have hx_26 := z_add ex_26 rfl rfl (by omega)
                refine va_put (D := (dC, dI)) (ci := 7) (v := .int x_26) (ty := .int) (C := RX7) (T := TX7) (N := 42) hx hb htb inw7 tyX7 tyX7_ok nmX7 hown hK.1 hP (hDa _) hS 0 rfl rfl 29 (by decide) (htb _ wmt3_196) (fun _ h9 => h9) rfl (by decide +kernel) rfl rfl (Nat.le_of_ble_eq_true rfl) dX7_polls_103 (fun H locs hP _ hS => ?_)
                have hP : va_P (dC, dI) vwCl (zM k q (sI (sI z 28 x_24) 29 x_26)) H := hP
                obtain ⟨x_27, ex_27⟩ : ∃ y : Int32, y = i + 1 := ⟨_, rfl⟩
                have hx_27 : x_27.toInt = i.toInt + 1 := z_add ex_27 rfl (show (1 : Int32).toInt = 1 by decide) (by omega)
                refine lv_iinc (v := x_27) (lv' := [(4, .int x_27), (3, .int x_23), (5, .int x_3), (0, .ref (q 0)), (1, .int g), (2, .int d)]) hx hb dX7_polls_106 hl (k := 2) rfl (by rw [ex_27]; rfl) (by decide) rfl (fun ls hl => ?_)
                refine lv_goto (tgt := 15) hx hb dX7_polls_109 (by decide) ?_
                exact ih15 ((120 - x_27.toInt).toNat) (by omega) x_23 x_27 x_24 x_26 ⟨(show 0 ≤ x_27.toInt ∧ x_27.toInt ≤ (z.1 22).toInt by omega), (show 0 ≤ x_26.toInt ∧ x_26.toInt ≤ x_24.toInt ∧ x_24.toInt ≤ x_27.toInt by omega)⟩ rfl H locs ls hP hS (lv_sub hl [0, 1, 3, 4, 5] rfl)
          · skip
            replace e_16 : r_10 = 0 := e_16
            subst e_16
            replace h_15 : ¬ kn (sI (sI z 28 p1) 29 y1) i.toNatClampNeg := h_15
            refine lv_if_eq (tgt := 106) hx hb dX7_polls_61 (by decide) (fun c_28 => ?_) (fun c_28 => ?_)
            · skip
              obtain ⟨x_29, ex_29⟩ : ∃ y : Int32, y = i + 1 := ⟨_, rfl⟩
              have hx_29 : x_29.toInt = i.toInt + 1 := z_add ex_29 rfl (show (1 : Int32).toInt = 1 by decide) (by omega)
              refine lv_iinc (v := x_29) (lv' := [(4, .int x_29), (5, .int x_3), (3, .int sn), (0, .ref (q 0)), (1, .int g), (2, .int d)]) hx hb dX7_polls_106 hl (k := 1) rfl (by rw [ex_29]; rfl) (by decide) rfl (fun ls hl => ?_)
              refine lv_goto (tgt := 15) hx hb dX7_polls_109 (by decide) ?_
              exact ih15 ((120 - x_29.toInt).toNat) (by omega) sn x_29 p1 y1 ⟨(show 0 ≤ x_29.toInt ∧ x_29.toInt ≤ (z.1 22).toInt by omega), (show 0 ≤ y1.toInt ∧ y1.toInt ≤ p1.toInt ∧ p1.toInt ≤ x_29.toInt by omega)⟩ rfl H locs ls hP hS (lv_sub hl [0, 2, 3, 4, 5] rfl)
            · skip
              exact absurd (by decide) c_28
set_option maxHeartbeats 4000000 in
set_option maxRecDepth 100000 in
theorem c_X7_poll (l : Launch) (dC : Nat → ClassId) (dI : Nat → Nat → Nat) (k : Nat → ClassId) (q : Nat → Nat) (z : ZS) (g : Int32) (d : Int32) (w : Int32) (sz : Nat) (hI : MInv z) : Met l yX7_poll (wz yX7_poll cX7_poll 4 (some .int)) ({ frames := 3, cells := 0, slots := 0, locals := 63 }) (va_Pc [.ref (q 0), .int g, .int d, .int w] (zPre dC dI k (zTX k) (zM k q z) sz)) (va_Qi (fun (r : Int32) (u : Int32 × Int32) => True) (fun u t => zPost dC dI (va_A (zM k q z) sz) (zM k q (sI (sI z 28 u.1) 29 u.2)) t) (va_A (zM k q z) sz)) 0 0 (va_A (zM k q z) sz) := by
  refine Met.ofW (cc := cX7_poll) (maxL := 4) (ret := (some .int)) (by decide) rfl ?_
  intro p e s m args below meth c s₁ B hml hv
  obtain ⟨rfl, hsz, hP, hK, hD0⟩ := hv
  have hx := B.exec
  have hb := B.bytes
  have hr := B.returns
  have hts := atoms_spec (ws := wz yX7_poll cX7_poll 4 (some .int)) B.pre
  have htb : ∀ w ∈ zw, w.before _ s = true := fun w h => hts w (List.mem_cons_of_mem _ h)
  have hown : s.vm.findClass RX7 = some m.cls := findClass_of_methodNamed B.named
  have hlocks := B.notSynchronized
  clear hts
  subst hsz
  have hD := hD0.self (sz := s.heap.size)
  generalize hAe : va_A (zM k q z) s.heap.size = A at hD ⊢
  have hA : ∀ q : Nat, s.heap.size ≤ q → A q := fun q h => by rw [← hAe]; exact Or.inr h
  have hDa : ∀ z9 : ZS, va_D A (zM k q z9) := fun z9 => va_D_adr (w := zM k q z) rfl hD
  have hl := lv_entry ([.ref (q 0), .int g, .int d, .int w]) (n := 4) (Nat.le_of_ble_eq_true rfl)
  rw [lg_entry_eq]
  generalize (lg_sl ([.ref (q 0), .int g, .int d, .int w]) ++ List.replicate (4 - (lg_sl ([.ref (q 0), .int g, .int d, .int w])).length) Slot.unset).toArray = ls at hl ⊢
  have hl : lv_has ls 4 [(0, .ref (q 0)), (1, .int g), (2, .int d), (3, .int w)] := hl
  refine z_start2 (A := A) (w := (zM k q z)) hP (fun H locs hP hS => ?_)
  clear hD0 hAe
  refine lv_iload_n hx hb dX7_poll_0 rfl (lv_at hl 1 rfl) ?_
  refine lv_iload_n hx hb dX7_poll_1 rfl (lv_at hl 2 rfl) ?_
  refine zc0_i (w := (zM k q z)) (va_runS (As := [.int g, .int d]) (rest := []) ⟨hx, hb, hml, hown, htb⟩ (c_X7_isPoll l dC dI k g d _ ) (va_cwS 2 htb (gzS wmt4_202 wmt4_203 wmt1_8 wmt4_204) rfl rfl rfl (by decide +kernel) ⟨Nat.le_of_ble_eq_true rfl, Nat.le_of_ble_eq_true rfl⟩) (zp0_S hK) rfl rfl hl.1 rfl (lv_room (Nat.le_of_ble_eq_true rfl)) dX7_poll_2 ⟨Nat.le_of_ble_eq_true rfl, Nat.le_of_ble_eq_true rfl⟩) hP hS hA (fun r_1 u_2 H locs w_3 hP hS => ?_)
  rcases w_3 with ⟨e_5, h_4⟩ | ⟨e_7, h_6⟩
  · skip
    replace e_5 : r_1 = 1 := e_5
    subst e_5
    replace h_4 : (0 ≤ g.toInt ∧ g.toInt < 4) ∧ (0 ≤ d.toInt ∧ d.toInt < 4) := h_4
    refine lv_if_eq (tgt := 17) hx hb dX7_poll_5 (by decide) (fun c_8 => ?_) (fun c_8 => ?_)
    · skip
      exact absurd c_8 (by decide)
    · skip
      refine lv_iload_n hx hb dX7_poll_8 rfl (lv_at hl 3 rfl) ?_
      refine lv_iconst (v := 0) hx hb dX7_poll_9 (by decide) ?_
      refine lv_iconst (v := 1) hx hb dX7_poll_10 (by decide) ?_
      refine zc0_i (w := (zM k q z)) (va_runS (As := [.int w, .int 0, .int 1]) (rest := []) ⟨hx, hb, hml, hown, htb⟩ (c_X7_in l dC dI k w 0 1 _ ) (va_cwS 3 htb (gzS wmt4_62 wmt4_63 wmt1_8 wmt4_64) rfl rfl rfl (by decide +kernel) ⟨Nat.le_of_ble_eq_true rfl, Nat.le_of_ble_eq_true rfl⟩) (zp0_S hK) rfl rfl hl.1 rfl (lv_room (Nat.le_of_ble_eq_true rfl)) dX7_poll_11 ⟨Nat.le_of_ble_eq_true rfl, Nat.le_of_ble_eq_true rfl⟩) hP hS hA (fun r_9 u_10 H locs w_11 hP hS => ?_)
      rcases w_11 with ⟨e_13, h_12⟩ | ⟨e_15, h_14⟩
      · skip
        replace e_13 : r_9 = 1 := e_13
        subst e_13
        replace h_12 : (0 : Int32).toInt ≤ w.toInt ∧ w.toInt ≤ (1 : Int32).toInt := h_12
        rw [show (0 : Int32).toInt = 0 by decide, show (1 : Int32).toInt = 1 by decide] at h_12
        refine lv_if_ne (tgt := 20) hx hb dX7_poll_14 (by decide) (fun c_16 => ?_) (fun c_16 => ?_)
        · skip
          refine lv_aload_n hx hb dX7_poll_20 rfl (lv_at hl 0 rfl) ?_
          refine lv_iload_n hx hb dX7_poll_21 rfl (lv_at hl 1 rfl) ?_
          refine lv_iload_n hx hb dX7_poll_22 rfl (lv_at hl 2 rfl) ?_
          refine zcA_v (w := (zM k q z)) (va_runV (As := [.int g, .int d]) (rest := []) ⟨hx, hb, hml, hown, htb⟩ (c_X7_polls l dC dI k q z g d _ hI) (cwV 2 htb (gzV wmt4_205 wmt4_207 wmp3_7 wmt1_8 wmt4_208) rfl rfl rfl (by decide +kernel) ⟨Nat.le_of_ble_eq_true rfl, Nat.le_of_ble_eq_true rfl⟩) (zpA_V (ci := 7) (q0 := 0) hK hP (hDa _) rfl rfl) rfl rfl hl.1 rfl (lv_room (Nat.le_of_ble_eq_true rfl)) dX7_poll_23 ⟨Nat.le_of_ble_eq_true rfl, Nat.le_of_ble_eq_true rfl⟩) (hDa _) hS hA (fun u_18 H locs w_19 hP _ hS => ?_)
          obtain ⟨op_20, oy_21⟩ := u_18
          have hP : va_P (dC, dI) vwCl (zM k q (sI (sI z 28 op_20) 29 oy_21)) H := hP
          have h_22 := w_19
          replace h_22 : 0 ≤ oy_21.toInt ∧ oy_21.toInt ≤ op_20.toInt ∧ op_20.toInt ≤ 120 := h_22
          refine lv_iload_n hx hb dX7_poll_26 rfl (lv_at hl 3 rfl) ?_
          refine lv_if_ne (tgt := 37) hx hb dX7_poll_27 (by decide) (fun c_24 => ?_) (fun c_24 => ?_)
          · skip
            have hc_24 := zb_ne rfl (show (0 : Int32).toInt = 0 by decide) c_24
            refine lv_aload_n hx hb dX7_poll_37 rfl (lv_at hl 0 rfl) ?_
            refine va_get (D := (dC, dI)) (ci := 7) (v := .int oy_21) (C := RX7) (T := TX7) (N := 42) hx hb htb inw7 hown hK.1 hP 0 rfl rfl 29 (by decide) (htb _ wmt3_196) (fun _ h9 => h9) rfl dX7_poll_38 ?_
            exact W.iret (v := oy_21) hx hb hr (fun t ht hW => ⟨⟨oy_21, (op_20, oy_21), rfl, trivial, ⟨by rw [ht]; exact hP, hDa _⟩⟩, hS.F ht⟩) hS.2.2 dX7_poll_41
          · skip
            have hc_24 := zb_eq rfl (show (0 : Int32).toInt = 0 by decide) c_24
            refine lv_aload_n hx hb dX7_poll_30 rfl (lv_at hl 0 rfl) ?_
            refine va_get (D := (dC, dI)) (ci := 7) (v := .int op_20) (C := RX7) (T := TX7) (N := 42) hx hb htb inw7 hown hK.1 hP 0 rfl rfl 28 (by decide) (htb _ wmt3_195) (fun _ h9 => h9) rfl dX7_poll_31 ?_
            refine lv_goto (tgt := 41) hx hb dX7_poll_34 (by decide) ?_
            exact W.iret (v := op_20) hx hb hr (fun t ht hW => ⟨⟨op_20, (op_20, oy_21), rfl, trivial, ⟨by rw [ht]; exact hP, hDa _⟩⟩, hS.F ht⟩) hS.2.2 dX7_poll_41
        · skip
          exact absurd c_16 (by decide)
      · skip
        replace e_15 : r_9 = 0 := e_15
        subst e_15
        replace h_14 : ¬ ((0 : Int32).toInt ≤ w.toInt ∧ w.toInt ≤ (1 : Int32).toInt) := h_14
        rw [show (0 : Int32).toInt = 0 by decide, show (1 : Int32).toInt = 1 by decide] at h_14
        refine lv_if_ne (tgt := 20) hx hb dX7_poll_14 (by decide) (fun c_25 => ?_) (fun c_25 => ?_)
        · skip
          exact absurd c_25 (by decide)
        · skip
          refine lv_bipush (v := (-2)) hx hb dX7_poll_17 (by decide) ?_
          exact W.iret (v := (-2)) hx hb hr (fun t ht hW => ⟨⟨(-2), (z.1 28, z.1 29), rfl, trivial, ⟨by rw [ht]; exact hP, hDa _⟩⟩, hS.F ht⟩) hS.2.2 dX7_poll_19
  · skip
    replace e_7 : r_1 = 0 := e_7
    subst e_7
    replace h_6 : ¬ ((0 ≤ g.toInt ∧ g.toInt < 4) ∧ (0 ≤ d.toInt ∧ d.toInt < 4)) := h_6
    refine lv_if_eq (tgt := 17) hx hb dX7_poll_5 (by decide) (fun c_26 => ?_) (fun c_26 => ?_)
    · skip
      refine lv_bipush (v := (-2)) hx hb dX7_poll_17 (by decide) ?_
      exact W.iret (v := (-2)) hx hb hr (fun t ht hW => ⟨⟨(-2), (z.1 28, z.1 29), rfl, trivial, ⟨by rw [ht]; exact hP, hDa _⟩⟩, hS.F ht⟩) hS.2.2 dX7_poll_19
    · skip
      exact absurd (by decide) c_26
