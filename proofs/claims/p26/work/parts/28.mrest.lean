set_option maxHeartbeats 4000000 in
set_option maxRecDepth 100000 in
theorem c_X7_isWithin (l : Launch) (dC : Nat → ClassId) (dI : Nat → Nat → Nat) (k : Nat → ClassId) (q : Nat → Nat) (z : ZS) (x0 : Int64) (y0 : Int64) (sz : Nat)  : Met l yX7_isWithin (wz yX7_isWithin cX7_isWithin 5 (some .boolean)) ({ frames := 0, cells := 0, slots := 0, locals := 0 }) (va_Pc [.ref (q 0), .long x0, .long y0] (zPre dC dI k (zTX k) (zM k q z) sz)) (va_Qi (fun (r : Int32) (u : Unit) => True) (fun u t => zPost dC dI (va_A (zM k q z) sz) (zM k q z) t) (va_A (zM k q z) sz)) 0 0 (va_A (zM k q z) sz) := by
  refine Met.ofW (cc := cX7_isWithin) (maxL := 5) (ret := (some .boolean)) (by decide) rfl ?_
  intro p e s m args below meth c s₁ B hml hv
  obtain ⟨rfl, hsz, hP, hK, hD0⟩ := hv
  have hx := B.exec
  have hb := B.bytes
  have hr := B.returns
  have hts := atoms_spec (ws := wz yX7_isWithin cX7_isWithin 5 (some .boolean)) B.pre
  have htb : ∀ w ∈ zw, w.before _ s = true := fun w h => hts w (List.mem_cons_of_mem _ h)
  have hown : s.vm.findClass RX7 = some m.cls := findClass_of_methodNamed B.named
  have hlocks := B.notSynchronized
  clear hts
  subst hsz
  have hD := hD0.self (sz := s.heap.size)
  generalize hAe : va_A (zM k q z) s.heap.size = A at hD ⊢
  have hA : ∀ q : Nat, s.heap.size ≤ q → A q := fun q h => by rw [← hAe]; exact Or.inr h
  have hDa : ∀ z9 : ZS, va_D A (zM k q z9) := fun z9 => va_D_adr (w := zM k q z) rfl hD
  have hl := lv_entry ([.ref (q 0), .long x0, .long y0]) (n := 5) (Nat.le_of_ble_eq_true rfl)
  rw [lg_entry_eq]
  generalize (lg_sl ([.ref (q 0), .long x0, .long y0]) ++ List.replicate (5 - (lg_sl ([.ref (q 0), .long x0, .long y0])).length) Slot.unset).toArray = ls at hl ⊢
  have hl : lv_has ls 5 [(0, .ref (q 0)), (1, .long x0), (3, .long y0)] := hl
  refine z_start2 (A := A) (w := (zM k q z)) hP (fun H locs hP hS => ?_)
  clear hD0 hAe
  refine lv_lload_n hx hb dX7_isWithin_0 rfl (lv_at hl 1 rfl) ?_
  refine lv_aload_n hx hb dX7_isWithin_1 rfl (lv_at hl 0 rfl) ?_
  refine va_get (D := (dC, dI)) (ci := 7) (v := .int (z.1 35)) (C := RX7) (T := TX7) (N := 42) hx hb htb inw7 hown hK.1 hP 0 rfl rfl 35 (by decide) (htb _ wmt3_202) (fun _ h9 => h9) rfl dX7_isWithin_2 ?_
  refine lv_topi (fun x_1 ex_1 => ?_)
  have hx_1 : x_1.toInt = (z.1 35).toInt := by rw [ex_1]
  refine lv_i2l (v := x_1.toInt64) hx hb dX7_isWithin_5 rfl ?_
  refine lv_topl (fun x_2 ex_2 => ?_)
  have hx_2 : x_2.toInt = x_1.toInt := by rw [ex_2]; exact Jvm.Kit.i64_of_i32 _
  refine lv_lload_n hx hb dX7_isWithin_6 rfl (lv_at hl 2 rfl) ?_
  refine lv_lmul hx hb dX7_isWithin_7 ?_
  refine lv_topl (fun x_3 ex_3 => ?_)
  refine z_lcmp hx hb dX7_isWithin_8 ?_
  refine lv_if_gt (tgt := 28) hx hb dX7_isWithin_9 (by decide) (fun c_4 => ?_) (fun c_4 => ?_)
  · skip
    have hc_4 := zl_gt rfl rfl c_4
    refine lv_iconst (v := 0) hx hb dX7_isWithin_28 (by decide) ?_
    exact W.zret (v := 0) (ty := .boolean) hx hb hr rfl (fun t ht hW => ⟨⟨0, (), rfl, trivial, ⟨by rw [ht]; exact hP, hDa _⟩⟩, hS.F ht⟩) hS.2.2 dX7_isWithin_29
  · skip
    have hc_4 := zl_ngt rfl rfl c_4
    refine lv_lload_n hx hb dX7_isWithin_12 rfl (lv_at hl 2 rfl) ?_
    refine lv_aload_n hx hb dX7_isWithin_13 rfl (lv_at hl 0 rfl) ?_
    refine va_get (D := (dC, dI)) (ci := 7) (v := .int (z.1 35)) (C := RX7) (T := TX7) (N := 42) hx hb htb inw7 hown hK.1 hP 0 rfl rfl 35 (by decide) (htb _ wmt3_202) (fun _ h9 => h9) rfl dX7_isWithin_14 ?_
    refine z_top (v2 := .int x_1) (congrArg Value.int ex_1.symm) ?_
    refine lv_i2l (v := x_1.toInt64) hx hb dX7_isWithin_17 rfl ?_
    refine lv_topl (fun x_5 ex_5 => ?_)
    have hx_5 : x_5.toInt = x_1.toInt := by rw [ex_5]; exact Jvm.Kit.i64_of_i32 _
    refine lv_lload_n hx hb dX7_isWithin_18 rfl (lv_at hl 1 rfl) ?_
    refine lv_lmul hx hb dX7_isWithin_19 ?_
    refine lv_topl (fun x_6 ex_6 => ?_)
    refine z_lcmp hx hb dX7_isWithin_20 ?_
    refine lv_if_gt (tgt := 28) hx hb dX7_isWithin_21 (by decide) (fun c_7 => ?_) (fun c_7 => ?_)
    · skip
      have hc_7 := zl_gt rfl rfl c_7
      refine lv_iconst (v := 0) hx hb dX7_isWithin_28 (by decide) ?_
      exact W.zret (v := 0) (ty := .boolean) hx hb hr rfl (fun t ht hW => ⟨⟨0, (), rfl, trivial, ⟨by rw [ht]; exact hP, hDa _⟩⟩, hS.F ht⟩) hS.2.2 dX7_isWithin_29
    · skip
      have hc_7 := zl_ngt rfl rfl c_7
      refine lv_iconst (v := 1) hx hb dX7_isWithin_24 (by decide) ?_
      refine lv_goto (tgt := 29) hx hb dX7_isWithin_25 (by decide) ?_
      exact W.zret (v := 1) (ty := .boolean) hx hb hr rfl (fun t ht hW => ⟨⟨1, (), rfl, trivial, ⟨by rw [ht]; exact hP, hDa _⟩⟩, hS.F ht⟩) hS.2.2 dX7_isWithin_29
set_option maxHeartbeats 4000000 in
set_option maxRecDepth 100000 in
theorem c_X7_share (l : Launch) (dC : Nat → ClassId) (dI : Nat → Nat → Nat) (k : Nat → ClassId) (q : Nat → Nat) (z : ZS) (g : Int32) (d : Int32) (w : Int32) (sz : Nat) (hI : MInv z) : Met l yX7_share (wz yX7_share cX7_share 4 (some .long)) ({ frames := 5, cells := 0, slots := 0, locals := 114 }) (va_Pc [.ref (q 0), .int g, .int d, .int w] (zPre dC dI k (zTX k) (zM k q z) sz)) (va_Ql (fun (r : Int64) (u : (Nat → Int32) × (Nat → Int32) × (Nat → Int32) × (Nat → Int32) × (Nat → Int32) × (Nat → Int32) × (Nat → Int32) × Int32 × Int32 × Int32 × Int32 × (Nat → Int32) × (Nat → Int32) × (Nat → Int32) × Int32 × Int32 × Int64 × Int64) => (MD (FR (z.2.2.1 2) (z.2.2.1 3)) u.1 u.2.1 u.2.2.1 u.2.2.2.1 u.2.2.2.2.1 u.2.2.2.2.2.1 u.2.2.2.2.2.2.1)) (fun u t => zPost dC dI (va_A (zM k q z) sz) (zM k q (sJ (sJ (sI (sI (sA (sA (sA (sI (sI (sI (sI (sA (sA (sA (sA (sA (sA (sA z 4 u.1) 5 u.2.1) 6 u.2.2.1) 7 u.2.2.2.1) 8 u.2.2.2.2.1) 9 u.2.2.2.2.2.1) 10 u.2.2.2.2.2.2.1) 12 u.2.2.2.2.2.2.2.1) 13 u.2.2.2.2.2.2.2.2.1) 14 u.2.2.2.2.2.2.2.2.2.1) 15 u.2.2.2.2.2.2.2.2.2.2.1) 16 u.2.2.2.2.2.2.2.2.2.2.2.1) 17 u.2.2.2.2.2.2.2.2.2.2.2.2.1) 18 u.2.2.2.2.2.2.2.2.2.2.2.2.2.1) 28 u.2.2.2.2.2.2.2.2.2.2.2.2.2.2.1) 29 u.2.2.2.2.2.2.2.2.2.2.2.2.2.2.2.1) 0 u.2.2.2.2.2.2.2.2.2.2.2.2.2.2.2.2.1) 1 u.2.2.2.2.2.2.2.2.2.2.2.2.2.2.2.2.2)) t) (va_A (zM k q z) sz)) 0 0 (va_A (zM k q z) sz) := by
  refine Met.ofW (cc := cX7_share) (maxL := 4) (ret := (some .long)) (by decide) rfl ?_
  intro p e s m args below meth c s₁ B hml hv
  obtain ⟨rfl, hsz, hP, hK, hD0⟩ := hv
  have hx := B.exec
  have hb := B.bytes
  have hr := B.returns
  have hts := atoms_spec (ws := wz yX7_share cX7_share 4 (some .long)) B.pre
  have htb : ∀ w ∈ zw, w.before _ s = true := fun w h => hts w (List.mem_cons_of_mem _ h)
  have hown : s.vm.findClass RX7 = some m.cls := findClass_of_methodNamed B.named
  have hlocks := B.notSynchronized
  clear hts
  subst hsz
  have hD := hD0.self (sz := s.heap.size)
  generalize hAe : va_A (zM k q z) s.heap.size = A at hD ⊢
  have hA : ∀ q : Nat, s.heap.size ≤ q → A q := fun q h => by rw [← hAe]; exact Or.inr h
  have hDa : ∀ z9 : ZS, va_D A (zM k q z9) := fun z9 => va_D_adr (w := zM k q z) rfl hD
  have hl := lv_entry ([.ref (q 0), .int g, .int d, .int w]) (n := 4) (Nat.le_of_ble_eq_true rfl)
  rw [lg_entry_eq]
  generalize (lg_sl ([.ref (q 0), .int g, .int d, .int w]) ++ List.replicate (4 - (lg_sl ([.ref (q 0), .int g, .int d, .int w])).length) Slot.unset).toArray = ls at hl ⊢
  have hl : lv_has ls 4 [(0, .ref (q 0)), (1, .int g), (2, .int d), (3, .int w)] := hl
  refine z_start2 (A := A) (w := (zM k q z)) hP (fun H locs hP hS => ?_)
  clear hD0 hAe
  refine lv_iload_n hx hb dX7_share_0 rfl (lv_at hl 1 rfl) ?_
  refine lv_iload_n hx hb dX7_share_1 rfl (lv_at hl 2 rfl) ?_
  refine zc0_i (w := (zM k q z)) (va_runS (As := [.int g, .int d]) (rest := []) ⟨hx, hb, hml, hown, htb⟩ (c_X7_isPoll l dC dI k g d _ ) (va_cwS 2 htb (gzS wmt4_202 wmt4_203 wmt1_8 wmt4_204) rfl rfl rfl (by decide +kernel) ⟨Nat.le_of_ble_eq_true rfl, Nat.le_of_ble_eq_true rfl⟩) (zp0_S hK) rfl rfl hl.1 rfl (lv_room (Nat.le_of_ble_eq_true rfl)) dX7_share_2 ⟨Nat.le_of_ble_eq_true rfl, Nat.le_of_ble_eq_true rfl⟩) hP hS hA (fun r_1 u_2 H locs w_3 hP hS => ?_)
  rcases w_3 with ⟨e_5, h_4⟩ | ⟨e_7, h_6⟩
  · skip
    replace e_5 : r_1 = 1 := e_5
    subst e_5
    replace h_4 : (0 ≤ g.toInt ∧ g.toInt < 4) ∧ (0 ≤ d.toInt ∧ d.toInt < 4) := h_4
    refine lv_if_eq (tgt := 17) hx hb dX7_share_5 (by decide) (fun c_8 => ?_) (fun c_8 => ?_)
    · skip
      exact absurd c_8 (by decide)
    · skip
      refine lv_iload_n hx hb dX7_share_8 rfl (lv_at hl 3 rfl) ?_
      refine lv_iconst (v := 0) hx hb dX7_share_9 (by decide) ?_
      refine lv_iconst (v := 1) hx hb dX7_share_10 (by decide) ?_
      refine zc0_i (w := (zM k q z)) (va_runS (As := [.int w, .int 0, .int 1]) (rest := []) ⟨hx, hb, hml, hown, htb⟩ (c_X7_in l dC dI k w 0 1 _ ) (va_cwS 3 htb (gzS wmt4_62 wmt4_63 wmt1_8 wmt4_64) rfl rfl rfl (by decide +kernel) ⟨Nat.le_of_ble_eq_true rfl, Nat.le_of_ble_eq_true rfl⟩) (zp0_S hK) rfl rfl hl.1 rfl (lv_room (Nat.le_of_ble_eq_true rfl)) dX7_share_11 ⟨Nat.le_of_ble_eq_true rfl, Nat.le_of_ble_eq_true rfl⟩) hP hS hA (fun r_9 u_10 H locs w_11 hP hS => ?_)
      rcases w_11 with ⟨e_13, h_12⟩ | ⟨e_15, h_14⟩
      · skip
        replace e_13 : r_9 = 1 := e_13
        subst e_13
        replace h_12 : (0 : Int32).toInt ≤ w.toInt ∧ w.toInt ≤ (1 : Int32).toInt := h_12
        rw [show (0 : Int32).toInt = 0 by decide, show (1 : Int32).toInt = 1 by decide] at h_12
        refine lv_if_ne (tgt := 23) hx hb dX7_share_14 (by decide) (fun c_16 => ?_) (fun c_16 => ?_)
        · skip
          refine lv_aload_n hx hb dX7_share_23 rfl (lv_at hl 0 rfl) ?_
          refine lv_iload_n hx hb dX7_share_24 rfl (lv_at hl 1 rfl) ?_
          refine lv_iload_n hx hb dX7_share_25 rfl (lv_at hl 2 rfl) ?_
          refine zcA_v (w := (zM k q z)) (va_runV (As := [.int g, .int d]) (rest := []) ⟨hx, hb, hml, hown, htb⟩ (c_X7_polls l dC dI k q z g d _ hI) (cwV 2 htb (gzV wmt4_205 wmt4_207 wmp3_7 wmt1_8 wmt4_208) rfl rfl rfl (by decide +kernel) ⟨Nat.le_of_ble_eq_true rfl, Nat.le_of_ble_eq_true rfl⟩) (zpA_V (ci := 7) (q0 := 0) hK hP (hDa _) rfl rfl) rfl rfl hl.1 rfl (lv_room (Nat.le_of_ble_eq_true rfl)) dX7_share_26 ⟨Nat.le_of_ble_eq_true rfl, Nat.le_of_ble_eq_true rfl⟩) (hDa _) hS hA (fun u_18 H locs w_19 hP _ hS => ?_)
          obtain ⟨op_20, oy_21⟩ := u_18
          have hP : va_P (dC, dI) vwCl (zM k q (sI (sI z 28 op_20) 29 oy_21)) H := hP
          have h_22 := w_19
          replace h_22 : 0 ≤ oy_21.toInt ∧ oy_21.toInt ≤ op_20.toInt ∧ op_20.toInt ≤ 120 := h_22
          have hpo := h_22
          refine lv_aload_n hx hb dX7_share_29 rfl (lv_at hl 0 rfl) ?_
          refine lv_iload_n hx hb dX7_share_30 rfl (lv_at hl 2 rfl) ?_
          refine zcA_i (w := (zM k q (sI (sI z 28 op_20) 29 oy_21))) (va_runV (As := [.int d]) (rest := []) ⟨hx, hb, hml, hown, htb⟩ (c_X7_faultOf l dC dI k q (sI (sI z 28 op_20) 29 oy_21) d _ hI (show 0 ≤ d.toInt ∧ d.toInt < 4 by omega)) (cwV 1 htb (gzV wmt4_73 wmt4_75 wmp2_6 wmt1_8 wmt4_76) rfl rfl rfl (by decide +kernel) ⟨Nat.le_of_ble_eq_true rfl, Nat.le_of_ble_eq_true rfl⟩) (zpA_V (ci := 7) (q0 := 0) hK hP (hDa _) rfl rfl) rfl rfl hl.1 rfl (lv_room (Nat.le_of_ble_eq_true rfl)) dX7_share_31 ⟨Nat.le_of_ble_eq_true rfl, Nat.le_of_ble_eq_true rfl⟩) (hDa _) hS hA (fun r_24 u_25 H locs w_26 hP _ hS => ?_)
          obtain ⟨o4_27, o5_28, o6_29, o7_30, o8_31, o9_32, o10_33, o12_34, o13_35, o14_36, o15_37, o16_38, o17_39, o18_40⟩ := u_25
          have hP : va_P (dC, dI) vwCl (zM k q (sA (sA (sA (sI (sI (sI (sI (sA (sA (sA (sA (sA (sA (sA (sI (sI z 28 op_20) 29 oy_21) 4 o4_27) 5 o5_28) 6 o6_29) 7 o7_30) 8 o8_31) 9 o9_32) 10 o10_33) 12 o12_34) 13 o13_35) 14 o14_36) 15 o15_37) 16 o16_38) 17 o17_39) 18 o18_40)) H := hP
          obtain ⟨h_41, h_42, h_43, h_44, h_45⟩ := w_26
          replace h_41 : MD (FR ((z.2.2.1 2)) ((z.2.2.1 3))) o4_27 o5_28 o6_29 o7_30 o8_31 o9_32 o10_33 := h_41
          replace h_42 : ¬ o4_27 d.toNatClampNeg = 0 := h_42
          replace h_43 : RK ((z.2.2.1 4)) ((z.2.2.1 5)) o4_27 o5_28 := h_43
          replace h_44 : R7 ((z.2.2.1 4)) ((z.2.2.1 6)) ((z.2.2.1 7)) ((z.2.2.1 8)) ((z.2.2.1 9)) ((z.2.2.1 10)) o6_29 o7_30 o8_31 o9_32 o10_33 := h_44
          replace h_45 : r_24 = o5_28 d.toNatClampNeg := h_45
          have hI : MInv (sA (sA (sA (sI (sI (sI (sI (sA (sA (sA (sA (sA (sA (sA (sI (sI z 28 op_20) 29 oy_21) 4 o4_27) 5 o5_28) 6 o6_29) 7 o7_30) 8 o8_31) 9 o9_32) 10 o10_33) 12 o12_34) 13 o13_35) 14 o14_36) 15 o15_37) 16 o16_38) 17 o17_39) 18 o18_40) := ⟨hI.1, hI.2.1, hI.2.2.1, hI.2.2.2.1, hI.2.2.2.2.1, h_41⟩
          have hms := MD_at h_41 (show 0 ≤ d.toInt ∧ d.toInt < 4 by omega)
          have hrd := h_42
          have hrk := h_43
          obtain ⟨hw, hff, hfF, hlk⟩ := hms.2.2.2.2.2 h_42
          have hwb := hms.1
          have hr5 : r_24.toInt = (o5_28 d.toNatClampNeg).toInt := by rw [h_45]
          refine lv_iconst (v := (-1)) hx hb dX7_share_34 (by decide) ?_
          refine lv_icmp_ne (tgt := 55) hx hb dX7_share_35 (by decide) (fun c_47 => ?_) (fun c_47 => ?_)
          · skip
            have hc_47 := zb_ne rfl (show ((-1) : Int32).toInt = (-1) by decide) c_47
            refine lv_bipush (v := (-3)) hx hb dX7_share_55 (by decide) ?_
            refine zc0_l (w := (zM k q (sA (sA (sA (sI (sI (sI (sI (sA (sA (sA (sA (sA (sA (sA (sI (sI z 28 op_20) 29 oy_21) 4 o4_27) 5 o5_28) 6 o6_29) 7 o7_30) 8 o8_31) 9 o9_32) 10 o10_33) 12 o12_34) 13 o13_35) 14 o14_36) 15 o15_37) 16 o16_38) 17 o17_39) 18 o18_40))) (va_runS (As := [.int (-3)]) (rest := []) ⟨hx, hb, hml, hown, htb⟩ (c_X7_told l dC dI k (-3) _ ) (va_cwS 1 htb (gzS wmt4_116 wmt4_117 wmt1_8 wmt4_118) rfl rfl rfl (by decide +kernel) ⟨Nat.le_of_ble_eq_true rfl, Nat.le_of_ble_eq_true rfl⟩) (zp0_S hK) rfl rfl hl.1 rfl (lv_room (Nat.le_of_ble_eq_true rfl)) dX7_share_57 ⟨Nat.le_of_ble_eq_true rfl, Nat.le_of_ble_eq_true rfl⟩) hP hS hA (fun r_48 u_49 H locs w_50 hP hS => ?_)
            have h_51 := w_50
            replace h_51 : r_48.toInt = tl ((-3) : Int32) := h_51
            exact W.lret (v := r_48) hx hb hr (fun t ht hW => ⟨⟨r_48, (o4_27, o5_28, o6_29, o7_30, o8_31, o9_32, o10_33, o12_34, o13_35, o14_36, o15_37, o16_38, o17_39, o18_40, op_20, oy_21, z.2.1 0, z.2.1 1), rfl, (show (MD (FR (z.2.2.1 2) (z.2.2.1 3)) o4_27 o5_28 o6_29 o7_30 o8_31 o9_32 o10_33) from hI.2.2.2.2.2), ⟨by rw [ht]; exact hP, hDa _⟩⟩, hS.F ht⟩) hS.2.2 dX7_share_60
          · skip
            have hc_47 := zb_eq rfl (show ((-1) : Int32).toInt = (-1) by decide) c_47
            refine lv_aload_n hx hb dX7_share_38 rfl (lv_at hl 0 rfl) ?_
            refine lv_iload_n hx hb dX7_share_39 rfl (lv_at hl 2 rfl) ?_
            refine zcA_l (w := (zM k q (sA (sA (sA (sI (sI (sI (sI (sA (sA (sA (sA (sA (sA (sA (sI (sI z 28 op_20) 29 oy_21) 4 o4_27) 5 o5_28) 6 o6_29) 7 o7_30) 8 o8_31) 9 o9_32) 10 o10_33) 12 o12_34) 13 o13_35) 14 o14_36) 15 o15_37) 16 o16_38) 17 o17_39) 18 o18_40))) (va_runV (As := [.int d]) (rest := []) ⟨hx, hb, hml, hown, htb⟩ (c_X7_more l dC dI k q (sA (sA (sA (sI (sI (sI (sI (sA (sA (sA (sA (sA (sA (sA (sI (sI z 28 op_20) 29 oy_21) 4 o4_27) 5 o5_28) 6 o6_29) 7 o7_30) 8 o8_31) 9 o9_32) 10 o10_33) 12 o12_34) 13 o13_35) 14 o14_36) 15 o15_37) 16 o16_38) 17 o17_39) 18 o18_40) d _ hI (by omega) hms) (cwV 1 htb (gzV wmt4_213 wmt4_215 wmp3_8 wmt1_8 wmt4_216) rfl rfl rfl (by decide +kernel) ⟨Nat.le_of_ble_eq_true rfl, Nat.le_of_ble_eq_true rfl⟩) (zpA_V (ci := 7) (q0 := 0) hK hP (hDa _) rfl rfl) rfl rfl hl.1 rfl (lv_room (Nat.le_of_ble_eq_true rfl)) dX7_share_40 ⟨Nat.le_of_ble_eq_true rfl, Nat.le_of_ble_eq_true rfl⟩) (hDa _) hS hA (fun r_53 u_54 H locs w_55 hP _ hS => ?_)
            obtain ⟨h_56, h_57⟩ := w_55
            replace h_56 : -720000 ≤ r_53.toInt ∧ r_53.toInt ≤ 720000 := h_56
            replace h_57 : r_53.toInt = yI (o7_30 d.toNatClampNeg) (o8_31 d.toNatClampNeg) (o9_32 d.toNatClampNeg) (o10_33 d.toNatClampNeg) ((z.1 11)) 1 - yI (o7_30 d.toNatClampNeg) (o8_31 d.toNatClampNeg) (o9_32 d.toNatClampNeg) (o10_33 d.toNatClampNeg) ((z.1 11)) 0 := h_57
            refine lv_lconst (v := 0) hx hb dX7_share_43 (by decide) ?_
            refine z_lcmp hx hb dX7_share_44 ?_
            refine lv_if_eq (tgt := 55) hx hb dX7_share_45 (by decide) (fun c_59 => ?_) (fun c_59 => ?_)
            · skip
              have hc_59 := zl_eq rfl (show (0 : Int64).toInt = 0 by decide) c_59
              refine lv_bipush (v := (-3)) hx hb dX7_share_55 (by decide) ?_
              refine zc0_l (w := (zM k q (sA (sA (sA (sI (sI (sI (sI (sA (sA (sA (sA (sA (sA (sA (sI (sI z 28 op_20) 29 oy_21) 4 o4_27) 5 o5_28) 6 o6_29) 7 o7_30) 8 o8_31) 9 o9_32) 10 o10_33) 12 o12_34) 13 o13_35) 14 o14_36) 15 o15_37) 16 o16_38) 17 o17_39) 18 o18_40))) (va_runS (As := [.int (-3)]) (rest := []) ⟨hx, hb, hml, hown, htb⟩ (c_X7_told l dC dI k (-3) _ ) (va_cwS 1 htb (gzS wmt4_116 wmt4_117 wmt1_8 wmt4_118) rfl rfl rfl (by decide +kernel) ⟨Nat.le_of_ble_eq_true rfl, Nat.le_of_ble_eq_true rfl⟩) (zp0_S hK) rfl rfl hl.1 rfl (lv_room (Nat.le_of_ble_eq_true rfl)) dX7_share_57 ⟨Nat.le_of_ble_eq_true rfl, Nat.le_of_ble_eq_true rfl⟩) hP hS hA (fun r_60 u_61 H locs w_62 hP hS => ?_)
              have h_63 := w_62
              replace h_63 : r_60.toInt = tl ((-3) : Int32) := h_63
              exact W.lret (v := r_60) hx hb hr (fun t ht hW => ⟨⟨r_60, (o4_27, o5_28, o6_29, o7_30, o8_31, o9_32, o10_33, o12_34, o13_35, o14_36, o15_37, o16_38, o17_39, o18_40, op_20, oy_21, z.2.1 0, z.2.1 1), rfl, (show (MD (FR (z.2.2.1 2) (z.2.2.1 3)) o4_27 o5_28 o6_29 o7_30 o8_31 o9_32 o10_33) from hI.2.2.2.2.2), ⟨by rw [ht]; exact hP, hDa _⟩⟩, hS.F ht⟩) hS.2.2 dX7_share_60
            · skip
              have hc_59 := zl_ne rfl (show (0 : Int64).toInt = 0 by decide) c_59
              refine lv_aload_n hx hb dX7_share_48 rfl (lv_at hl 0 rfl) ?_
              refine va_get (D := (dC, dI)) (ci := 7) (v := .int op_20) (C := RX7) (T := TX7) (N := 42) hx hb htb inw7 hown hK.1 hP 0 rfl rfl 28 (by decide) (htb _ wmt3_195) (fun _ h9 => h9) rfl dX7_share_49 ?_
              refine lv_if_ne (tgt := 61) hx hb dX7_share_52 (by decide) (fun c_65 => ?_) (fun c_65 => ?_)
              · skip
                have hc_65 := zb_ne rfl (show (0 : Int32).toInt = 0 by decide) c_65
                refine lv_aload_n hx hb dX7_share_61 rfl (lv_at hl 0 rfl) ?_
                refine lv_aload_n hx hb dX7_share_62 rfl (lv_at hl 0 rfl) ?_
                refine va_get (D := (dC, dI)) (ci := 7) (v := .int oy_21) (C := RX7) (T := TX7) (N := 42) hx hb htb inw7 hown hK.1 hP 0 rfl rfl 29 (by decide) (htb _ wmt3_196) (fun _ h9 => h9) rfl dX7_share_63 ?_
                refine lv_i2l (v := oy_21.toInt64) hx hb dX7_share_66 rfl ?_
                refine lv_topl (fun x_66 ex_66 => ?_)
                have hx_66 : x_66.toInt = oy_21.toInt := by rw [ex_66]; exact Jvm.Kit.i64_of_i32 _
                refine lv_aload_n hx hb dX7_share_67 rfl (lv_at hl 0 rfl) ?_
                refine lv_iload_n hx hb dX7_share_68 rfl (lv_at hl 2 rfl) ?_
                refine zcA_l (w := (zM k q (sA (sA (sA (sI (sI (sI (sI (sA (sA (sA (sA (sA (sA (sA (sI (sI z 28 op_20) 29 oy_21) 4 o4_27) 5 o5_28) 6 o6_29) 7 o7_30) 8 o8_31) 9 o9_32) 10 o10_33) 12 o12_34) 13 o13_35) 14 o14_36) 15 o15_37) 16 o16_38) 17 o17_39) 18 o18_40))) (va_runV (As := [.int d]) (rest := [.long x_66, .ref (q 0)]) ⟨hx, hb, hml, hown, htb⟩ (c_X7_base l dC dI k q (sA (sA (sA (sI (sI (sI (sI (sA (sA (sA (sA (sA (sA (sA (sI (sI z 28 op_20) 29 oy_21) 4 o4_27) 5 o5_28) 6 o6_29) 7 o7_30) 8 o8_31) 9 o9_32) 10 o10_33) 12 o12_34) 13 o13_35) 14 o14_36) 15 o15_37) 16 o16_38) 17 o17_39) 18 o18_40) d _ (by omega) hms) (cwV 1 htb (gzV wmt4_125 wmt4_127 wmp2_15 wmt1_8 wmt4_128) rfl rfl rfl (by decide +kernel) ⟨Nat.le_of_ble_eq_true rfl, Nat.le_of_ble_eq_true rfl⟩) (zpA_V (ci := 7) (q0 := 0) hK hP (hDa _) rfl rfl) rfl rfl hl.1 rfl (lv_room (Nat.le_of_ble_eq_true rfl)) dX7_share_69 ⟨Nat.le_of_ble_eq_true rfl, Nat.le_of_ble_eq_true rfl⟩) (hDa _) hS hA (fun r_67 u_68 H locs w_69 hP _ hS => ?_)
                have h_70 := w_69
                replace h_70 : r_67.toInt = 24 * (o6_29 d.toNatClampNeg).toInt := h_70
                refine lv_lmul hx hb dX7_share_72 ?_
                refine lv_topl (fun x_72 ex_72 => ?_)
                have qx_72 := z_mulb (a := x_66.toInt) (b := r_67.toInt) (A := 120) (B := 11520) (by omega) (by omega)
                have hx_72 := zl_mul ex_72 rfl rfl (by omega)
                refine lv_aload_n hx hb dX7_share_73 rfl (lv_at hl 0 rfl) ?_
                refine va_get (D := (dC, dI)) (ci := 7) (v := .int op_20) (C := RX7) (T := TX7) (N := 42) hx hb htb inw7 hown hK.1 hP 0 rfl rfl 28 (by decide) (htb _ wmt3_195) (fun _ h9 => h9) rfl dX7_share_74 ?_
                refine lv_i2l (v := op_20.toInt64) hx hb dX7_share_77 rfl ?_
                refine lv_topl (fun x_73 ex_73 => ?_)
                have hx_73 : x_73.toInt = op_20.toInt := by rw [ex_73]; exact Jvm.Kit.i64_of_i32 _
                refine lv_aload_n hx hb dX7_share_78 rfl (lv_at hl 0 rfl) ?_
                refine lv_iload_n hx hb dX7_share_79 rfl (lv_at hl 2 rfl) ?_
                refine lv_iconst (v := 0) hx hb dX7_share_80 (by decide) ?_
                refine zcA_l (w := (zM k q (sA (sA (sA (sI (sI (sI (sI (sA (sA (sA (sA (sA (sA (sA (sI (sI z 28 op_20) 29 oy_21) 4 o4_27) 5 o5_28) 6 o6_29) 7 o7_30) 8 o8_31) 9 o9_32) 10 o10_33) 12 o12_34) 13 o13_35) 14 o14_36) 15 o15_37) 16 o16_38) 17 o17_39) 18 o18_40))) (va_runV (As := [.int d, .int 0]) (rest := [.long x_73, .long x_72, .ref (q 0)]) ⟨hx, hb, hml, hown, htb⟩ (c_X7_yesIf l dC dI k q (sA (sA (sA (sI (sI (sI (sI (sA (sA (sA (sA (sA (sA (sA (sI (sI z 28 op_20) 29 oy_21) 4 o4_27) 5 o5_28) 6 o6_29) 7 o7_30) 8 o8_31) 9 o9_32) 10 o10_33) 12 o12_34) 13 o13_35) 14 o14_36) 15 o15_37) 16 o16_38) 17 o17_39) 18 o18_40) d 0 _ hI (by omega) hms) (cwV 2 htb (gzV wmt4_120 wmt4_122 wmp2_14 wmt1_8 wmt4_123) rfl rfl rfl (by decide +kernel) ⟨Nat.le_of_ble_eq_true rfl, Nat.le_of_ble_eq_true rfl⟩) (zpA_V (ci := 7) (q0 := 0) hK hP (hDa _) rfl rfl) rfl rfl hl.1 rfl (lv_room (Nat.le_of_ble_eq_true rfl)) dX7_share_81 ⟨Nat.le_of_ble_eq_true rfl, Nat.le_of_ble_eq_true rfl⟩) (hDa _) hS hA (fun r_74 u_75 H locs w_76 hP _ hS => ?_)
                obtain ⟨h_77, h_78, h_79⟩ := w_76
                replace h_77 : 0 ≤ r_74.toInt ∧ r_74.toInt ≤ 720000 := h_77
                replace h_78 : ((o7_30 d.toNatClampNeg).toInt + (o8_31 d.toNatClampNeg).toInt + (o9_32 d.toNatClampNeg).toInt + (o10_33 d.toNatClampNeg).toInt ≤ (o6_29 d.toNatClampNeg).toInt → r_74.toInt ≤ 24 * (o6_29 d.toNatClampNeg).toInt) := h_78
                replace h_79 : r_74.toInt = yI (o7_30 d.toNatClampNeg) (o8_31 d.toNatClampNeg) (o9_32 d.toNatClampNeg) (o10_33 d.toNatClampNeg) ((z.1 11)) (0 : Int32) := h_79
                refine lv_lmul hx hb dX7_share_84 ?_
                refine lv_topl (fun x_81 ex_81 => ?_)
                have qx_81 := z_mulb (a := x_73.toInt) (b := r_74.toInt) (A := 120) (B := 720000) (by omega) (by omega)
                have hx_81 := zl_mul ex_81 rfl rfl (by omega)
                refine lv_lsub hx hb dX7_share_85 ?_
                refine lv_topl (fun x_82 ex_82 => ?_)
                have hx_82 := zl_sub ex_82 rfl rfl (by omega)
                refine lv_aload_n hx hb dX7_share_86 rfl (lv_at hl 0 rfl) ?_
                refine va_get (D := (dC, dI)) (ci := 7) (v := .int op_20) (C := RX7) (T := TX7) (N := 42) hx hb htb inw7 hown hK.1 hP 0 rfl rfl 28 (by decide) (htb _ wmt3_195) (fun _ h9 => h9) rfl dX7_share_87 ?_
                refine lv_i2l (v := op_20.toInt64) hx hb dX7_share_90 rfl ?_
                refine lv_topl (fun x_83 ex_83 => ?_)
                have hx_83 : x_83.toInt = op_20.toInt := by rw [ex_83]; exact Jvm.Kit.i64_of_i32 _
                refine lv_aload_n hx hb dX7_share_91 rfl (lv_at hl 0 rfl) ?_
                refine lv_iload_n hx hb dX7_share_92 rfl (lv_at hl 2 rfl) ?_
                refine zcA_l (w := (zM k q (sA (sA (sA (sI (sI (sI (sI (sA (sA (sA (sA (sA (sA (sA (sI (sI z 28 op_20) 29 oy_21) 4 o4_27) 5 o5_28) 6 o6_29) 7 o7_30) 8 o8_31) 9 o9_32) 10 o10_33) 12 o12_34) 13 o13_35) 14 o14_36) 15 o15_37) 16 o16_38) 17 o17_39) 18 o18_40))) (va_runV (As := [.int d]) (rest := [.long x_83, .long x_82, .ref (q 0)]) ⟨hx, hb, hml, hown, htb⟩ (c_X7_more l dC dI k q (sA (sA (sA (sI (sI (sI (sI (sA (sA (sA (sA (sA (sA (sA (sI (sI z 28 op_20) 29 oy_21) 4 o4_27) 5 o5_28) 6 o6_29) 7 o7_30) 8 o8_31) 9 o9_32) 10 o10_33) 12 o12_34) 13 o13_35) 14 o14_36) 15 o15_37) 16 o16_38) 17 o17_39) 18 o18_40) d _ hI (by omega) hms) (cwV 1 htb (gzV wmt4_213 wmt4_215 wmp3_8 wmt1_8 wmt4_216) rfl rfl rfl (by decide +kernel) ⟨Nat.le_of_ble_eq_true rfl, Nat.le_of_ble_eq_true rfl⟩) (zpA_V (ci := 7) (q0 := 0) hK hP (hDa _) rfl rfl) rfl rfl hl.1 rfl (lv_room (Nat.le_of_ble_eq_true rfl)) dX7_share_93 ⟨Nat.le_of_ble_eq_true rfl, Nat.le_of_ble_eq_true rfl⟩) (hDa _) hS hA (fun r_84 u_85 H locs w_86 hP _ hS => ?_)
                obtain ⟨h_87, h_88⟩ := w_86
                replace h_87 : -720000 ≤ r_84.toInt ∧ r_84.toInt ≤ 720000 := h_87
                replace h_88 : r_84.toInt = yI (o7_30 d.toNatClampNeg) (o8_31 d.toNatClampNeg) (o9_32 d.toNatClampNeg) (o10_33 d.toNatClampNeg) ((z.1 11)) 1 - yI (o7_30 d.toNatClampNeg) (o8_31 d.toNatClampNeg) (o9_32 d.toNatClampNeg) (o10_33 d.toNatClampNeg) ((z.1 11)) 0 := h_88
                refine lv_lmul hx hb dX7_share_96 ?_
                refine lv_topl (fun x_90 ex_90 => ?_)
                have qx_90 := z_mulab (a := x_83.toInt) (b := r_84.toInt) (A := 120) (B := 720000) (by omega) (by omega) (by decide) (by decide)
                have px_90 : x_83.toInt * r_84.toInt ≠ 0 := Int.mul_ne_zero (by omega) (by omega)
                have hx_90 := zl_mul ex_90 rfl rfl (by omega)
                refine zcA_v (w := (zM k q (sA (sA (sA (sI (sI (sI (sI (sA (sA (sA (sA (sA (sA (sA (sI (sI z 28 op_20) 29 oy_21) 4 o4_27) 5 o5_28) 6 o6_29) 7 o7_30) 8 o8_31) 9 o9_32) 10 o10_33) 12 o12_34) 13 o13_35) 14 o14_36) 15 o15_37) 16 o16_38) 17 o17_39) 18 o18_40))) (va_runV (As := [.long x_82, .long x_90]) (rest := []) ⟨hx, hb, hml, hown, htb⟩ (c_X7_is l dC dI k q (sA (sA (sA (sI (sI (sI (sI (sA (sA (sA (sA (sA (sA (sA (sI (sI z 28 op_20) 29 oy_21) 4 o4_27) 5 o5_28) 6 o6_29) 7 o7_30) 8 o8_31) 9 o9_32) 10 o10_33) 12 o12_34) 13 o13_35) 14 o14_36) 15 o15_37) 16 o16_38) 17 o17_39) 18 o18_40) x_82 x_90 _ (show (-4611686018427387904 < x_82.toInt ∧ x_82.toInt < 4611686018427387904) by omega) (show (-4611686018427387904 < x_90.toInt ∧ x_90.toInt < 4611686018427387904) by omega) (show x_90.toInt ≠ 0 by omega)) (cwV 2 htb (gzV wmt4_129 wmt4_131 wmp3_0 wmt1_8 wmt4_132) rfl rfl rfl (by decide +kernel) ⟨Nat.le_of_ble_eq_true rfl, Nat.le_of_ble_eq_true rfl⟩) (zpA_V (ci := 7) (q0 := 0) hK hP (hDa _) rfl rfl) rfl rfl hl.1 rfl (lv_room (Nat.le_of_ble_eq_true rfl)) dX7_share_97 ⟨Nat.le_of_ble_eq_true rfl, Nat.le_of_ble_eq_true rfl⟩) (hDa _) hS hA (fun u_92 H locs w_93 hP _ hS => ?_)
                obtain ⟨oa_94, ob_95⟩ := u_92
                have hP : va_P (dC, dI) vwCl (zM k q (sJ (sJ (sA (sA (sA (sI (sI (sI (sI (sA (sA (sA (sA (sA (sA (sA (sI (sI z 28 op_20) 29 oy_21) 4 o4_27) 5 o5_28) 6 o6_29) 7 o7_30) 8 o8_31) 9 o9_32) 10 o10_33) 12 o12_34) 13 o13_35) 14 o14_36) 15 o15_37) 16 o16_38) 17 o17_39) 18 o18_40) 0 oa_94) 1 ob_95)) H := hP
                obtain ⟨h_96, h_97, h_98, h_99, h_100, h_101⟩ := w_93
                replace h_96 : 1 ≤ ob_95.toInt ∧ ob_95.toInt ≤ (x_90.toInt.natAbs : Int) := h_96
                replace h_97 : (oa_94.toInt.natAbs : Int) ≤ (x_82.toInt.natAbs : Int) := h_97
                replace h_98 : (0 ≤ x_82.toInt → 0 < x_90.toInt → 0 ≤ oa_94.toInt) ∧ (0 < x_82.toInt → 0 < x_90.toInt → 1 ≤ oa_94.toInt) := h_98
                replace h_99 : ob_95.toInt = ((x_90.toInt.natAbs / Nat.gcd x_82.toInt.natAbs x_90.toInt.natAbs : Nat) : Int) := h_99
                replace h_100 : oa_94.toInt = x_82.toInt.tdiv (if x_90.toInt < 0 then -(Nat.gcd x_82.toInt.natAbs x_90.toInt.natAbs : Int) else (Nat.gcd x_82.toInt.natAbs x_90.toInt.natAbs : Int)) := h_100
                replace h_101 : Hd (0 ≤ x_82.toInt → 0 < x_90.toInt → oa_94.toInt = frT x_82.toInt x_90.toInt 0 ∧ ob_95.toInt = frT x_82.toInt x_90.toInt 1) := h_101
                refine lv_aload_n hx hb dX7_share_100 rfl (lv_at hl 0 rfl) ?_
                refine lv_iload_n hx hb dX7_share_101 rfl (lv_at hl 3 rfl) ?_
                refine zcA_l (w := (zM k q (sJ (sJ (sA (sA (sA (sI (sI (sI (sI (sA (sA (sA (sA (sA (sA (sA (sI (sI z 28 op_20) 29 oy_21) 4 o4_27) 5 o5_28) 6 o6_29) 7 o7_30) 8 o8_31) 9 o9_32) 10 o10_33) 12 o12_34) 13 o13_35) 14 o14_36) 15 o15_37) 16 o16_38) 17 o17_39) 18 o18_40) 0 oa_94) 1 ob_95))) (va_runV (As := [.int w]) (rest := []) ⟨hx, hb, hml, hown, htb⟩ (c_X7_part l dC dI k q (sJ (sJ (sA (sA (sA (sI (sI (sI (sI (sA (sA (sA (sA (sA (sA (sA (sI (sI z 28 op_20) 29 oy_21) 4 o4_27) 5 o5_28) 6 o6_29) 7 o7_30) 8 o8_31) 9 o9_32) 10 o10_33) 12 o12_34) 13 o13_35) 14 o14_36) 15 o15_37) 16 o16_38) 17 o17_39) 18 o18_40) 0 oa_94) 1 ob_95) w _ ) (cwV 1 htb (gzV wmt4_133 wmt4_135 wmp3_1 wmt1_8 wmt4_136) rfl rfl rfl (by decide +kernel) ⟨Nat.le_of_ble_eq_true rfl, Nat.le_of_ble_eq_true rfl⟩) (zpA_V (ci := 7) (q0 := 0) hK hP (hDa _) rfl rfl) rfl rfl hl.1 rfl (lv_room (Nat.le_of_ble_eq_true rfl)) dX7_share_102 ⟨Nat.le_of_ble_eq_true rfl, Nat.le_of_ble_eq_true rfl⟩) (hDa _) hS hA (fun r_103 u_104 H locs w_105 hP _ hS => ?_)
                have h_106 := w_105
                replace h_106 : (w.toInt = 0 → r_103 = oa_94) ∧ (¬ w.toInt = 0 → r_103 = ob_95) := h_106
                exact W.lret (v := r_103) hx hb hr (fun t ht hW => ⟨⟨r_103, (o4_27, o5_28, o6_29, o7_30, o8_31, o9_32, o10_33, o12_34, o13_35, o14_36, o15_37, o16_38, o17_39, o18_40, op_20, oy_21, oa_94, ob_95), rfl, (show (MD (FR (z.2.2.1 2) (z.2.2.1 3)) o4_27 o5_28 o6_29 o7_30 o8_31 o9_32 o10_33) from hI.2.2.2.2.2), ⟨by rw [ht]; exact hP, hDa _⟩⟩, hS.F ht⟩) hS.2.2 dX7_share_105
              · skip
                have hc_65 := zb_eq rfl (show (0 : Int32).toInt = 0 by decide) c_65
                refine lv_bipush (v := (-3)) hx hb dX7_share_55 (by decide) ?_
                refine zc0_l (w := (zM k q (sA (sA (sA (sI (sI (sI (sI (sA (sA (sA (sA (sA (sA (sA (sI (sI z 28 op_20) 29 oy_21) 4 o4_27) 5 o5_28) 6 o6_29) 7 o7_30) 8 o8_31) 9 o9_32) 10 o10_33) 12 o12_34) 13 o13_35) 14 o14_36) 15 o15_37) 16 o16_38) 17 o17_39) 18 o18_40))) (va_runS (As := [.int (-3)]) (rest := []) ⟨hx, hb, hml, hown, htb⟩ (c_X7_told l dC dI k (-3) _ ) (va_cwS 1 htb (gzS wmt4_116 wmt4_117 wmt1_8 wmt4_118) rfl rfl rfl (by decide +kernel) ⟨Nat.le_of_ble_eq_true rfl, Nat.le_of_ble_eq_true rfl⟩) (zp0_S hK) rfl rfl hl.1 rfl (lv_room (Nat.le_of_ble_eq_true rfl)) dX7_share_57 ⟨Nat.le_of_ble_eq_true rfl, Nat.le_of_ble_eq_true rfl⟩) hP hS hA (fun r_108 u_109 H locs w_110 hP hS => ?_)
                have h_111 := w_110
                replace h_111 : r_108.toInt = tl ((-3) : Int32) := h_111
                exact W.lret (v := r_108) hx hb hr (fun t ht hW => ⟨⟨r_108, (o4_27, o5_28, o6_29, o7_30, o8_31, o9_32, o10_33, o12_34, o13_35, o14_36, o15_37, o16_38, o17_39, o18_40, op_20, oy_21, z.2.1 0, z.2.1 1), rfl, (show (MD (FR (z.2.2.1 2) (z.2.2.1 3)) o4_27 o5_28 o6_29 o7_30 o8_31 o9_32 o10_33) from hI.2.2.2.2.2), ⟨by rw [ht]; exact hP, hDa _⟩⟩, hS.F ht⟩) hS.2.2 dX7_share_60
        · skip
          exact absurd c_16 (by decide)
      · skip
        replace e_15 : r_9 = 0 := e_15
        subst e_15
        replace h_14 : ¬ ((0 : Int32).toInt ≤ w.toInt ∧ w.toInt ≤ (1 : Int32).toInt) := h_14
        rw [show (0 : Int32).toInt = 0 by decide, show (1 : Int32).toInt = 1 by decide] at h_14
        refine lv_if_ne (tgt := 23) hx hb dX7_share_14 (by decide) (fun c_113 => ?_) (fun c_113 => ?_)
        · skip
          exact absurd c_113 (by decide)
        · skip
          refine lv_bipush (v := (-2)) hx hb dX7_share_17 (by decide) ?_
          refine zc0_l (w := (zM k q z)) (va_runS (As := [.int (-2)]) (rest := []) ⟨hx, hb, hml, hown, htb⟩ (c_X7_told l dC dI k (-2) _ ) (va_cwS 1 htb (gzS wmt4_116 wmt4_117 wmt1_8 wmt4_118) rfl rfl rfl (by decide +kernel) ⟨Nat.le_of_ble_eq_true rfl, Nat.le_of_ble_eq_true rfl⟩) (zp0_S hK) rfl rfl hl.1 rfl (lv_room (Nat.le_of_ble_eq_true rfl)) dX7_share_19 ⟨Nat.le_of_ble_eq_true rfl, Nat.le_of_ble_eq_true rfl⟩) hP hS hA (fun r_114 u_115 H locs w_116 hP hS => ?_)
          have h_117 := w_116
          replace h_117 : r_114.toInt = tl ((-2) : Int32) := h_117
          exact W.lret (v := r_114) hx hb hr (fun t ht hW => ⟨⟨r_114, (z.2.2.1 4, z.2.2.1 5, z.2.2.1 6, z.2.2.1 7, z.2.2.1 8, z.2.2.1 9, z.2.2.1 10, z.1 12, z.1 13, z.1 14, z.1 15, z.2.2.1 16, z.2.2.1 17, z.2.2.1 18, z.1 28, z.1 29, z.2.1 0, z.2.1 1), rfl, (show (MD (FR (z.2.2.1 2) (z.2.2.1 3)) (z.2.2.1 4) (z.2.2.1 5) (z.2.2.1 6) (z.2.2.1 7) (z.2.2.1 8) (z.2.2.1 9) (z.2.2.1 10)) from hI.2.2.2.2.2), ⟨by rw [ht]; exact hP, hDa _⟩⟩, hS.F ht⟩) hS.2.2 dX7_share_22
  · skip
    replace e_7 : r_1 = 0 := e_7
    subst e_7
    replace h_6 : ¬ ((0 ≤ g.toInt ∧ g.toInt < 4) ∧ (0 ≤ d.toInt ∧ d.toInt < 4)) := h_6
    refine lv_if_eq (tgt := 17) hx hb dX7_share_5 (by decide) (fun c_119 => ?_) (fun c_119 => ?_)
    · skip
      refine lv_bipush (v := (-2)) hx hb dX7_share_17 (by decide) ?_
      refine zc0_l (w := (zM k q z)) (va_runS (As := [.int (-2)]) (rest := []) ⟨hx, hb, hml, hown, htb⟩ (c_X7_told l dC dI k (-2) _ ) (va_cwS 1 htb (gzS wmt4_116 wmt4_117 wmt1_8 wmt4_118) rfl rfl rfl (by decide +kernel) ⟨Nat.le_of_ble_eq_true rfl, Nat.le_of_ble_eq_true rfl⟩) (zp0_S hK) rfl rfl hl.1 rfl (lv_room (Nat.le_of_ble_eq_true rfl)) dX7_share_19 ⟨Nat.le_of_ble_eq_true rfl, Nat.le_of_ble_eq_true rfl⟩) hP hS hA (fun r_120 u_121 H locs w_122 hP hS => ?_)
      have h_123 := w_122
      replace h_123 : r_120.toInt = tl ((-2) : Int32) := h_123
      exact W.lret (v := r_120) hx hb hr (fun t ht hW => ⟨⟨r_120, (z.2.2.1 4, z.2.2.1 5, z.2.2.1 6, z.2.2.1 7, z.2.2.1 8, z.2.2.1 9, z.2.2.1 10, z.1 12, z.1 13, z.1 14, z.1 15, z.2.2.1 16, z.2.2.1 17, z.2.2.1 18, z.1 28, z.1 29, z.2.1 0, z.2.1 1), rfl, (show (MD (FR (z.2.2.1 2) (z.2.2.1 3)) (z.2.2.1 4) (z.2.2.1 5) (z.2.2.1 6) (z.2.2.1 7) (z.2.2.1 8) (z.2.2.1 9) (z.2.2.1 10)) from hI.2.2.2.2.2), ⟨by rw [ht]; exact hP, hDa _⟩⟩, hS.F ht⟩) hS.2.2 dX7_share_22
    · skip
      exact absurd (by decide) c_119
set_option maxHeartbeats 4000000 in
set_option maxRecDepth 100000 in
theorem c_X7_scatter (l : Launch) (dC : Nat → ClassId) (dI : Nat → Nat → Nat) (k : Nat → ClassId) (q : Nat → Nat) (z : ZS) (g : Int32) (d : Int32) (w : Int32) (sz : Nat) (hI : MInv z) : Met l yX7_scatter (wz yX7_scatter cX7_scatter 8 (some .long)) ({ frames := 5, cells := 0, slots := 0, locals := 114 }) (va_Pc [.ref (q 0), .int g, .int d, .int w] (zPre dC dI k (zTX k) (zM k q z) sz)) (va_Ql (fun (r : Int64) (u : (Nat → Int32) × (Nat → Int32) × (Nat → Int32) × (Nat → Int32) × (Nat → Int32) × (Nat → Int32) × (Nat → Int32) × Int32 × Int32 × Int32 × Int32 × (Nat → Int32) × (Nat → Int32) × (Nat → Int32) × Int32 × Int32 × Int64 × Int64) => (MD (FR (z.2.2.1 2) (z.2.2.1 3)) u.1 u.2.1 u.2.2.1 u.2.2.2.1 u.2.2.2.2.1 u.2.2.2.2.2.1 u.2.2.2.2.2.2.1)) (fun u t => zPost dC dI (va_A (zM k q z) sz) (zM k q (sJ (sJ (sI (sI (sA (sA (sA (sI (sI (sI (sI (sA (sA (sA (sA (sA (sA (sA z 4 u.1) 5 u.2.1) 6 u.2.2.1) 7 u.2.2.2.1) 8 u.2.2.2.2.1) 9 u.2.2.2.2.2.1) 10 u.2.2.2.2.2.2.1) 12 u.2.2.2.2.2.2.2.1) 13 u.2.2.2.2.2.2.2.2.1) 14 u.2.2.2.2.2.2.2.2.2.1) 15 u.2.2.2.2.2.2.2.2.2.2.1) 16 u.2.2.2.2.2.2.2.2.2.2.2.1) 17 u.2.2.2.2.2.2.2.2.2.2.2.2.1) 18 u.2.2.2.2.2.2.2.2.2.2.2.2.2.1) 28 u.2.2.2.2.2.2.2.2.2.2.2.2.2.2.1) 29 u.2.2.2.2.2.2.2.2.2.2.2.2.2.2.2.1) 0 u.2.2.2.2.2.2.2.2.2.2.2.2.2.2.2.2.1) 1 u.2.2.2.2.2.2.2.2.2.2.2.2.2.2.2.2.2)) t) (va_A (zM k q z) sz)) 0 0 (va_A (zM k q z) sz) := by
  refine Met.ofW (cc := cX7_scatter) (maxL := 8) (ret := (some .long)) (by decide) rfl ?_
  intro p e s m args below meth c s₁ B hml hv
  obtain ⟨rfl, hsz, hP, hK, hD0⟩ := hv
  have hx := B.exec
  have hb := B.bytes
  have hr := B.returns
  have hts := atoms_spec (ws := wz yX7_scatter cX7_scatter 8 (some .long)) B.pre
  have htb : ∀ w ∈ zw, w.before _ s = true := fun w h => hts w (List.mem_cons_of_mem _ h)
  have hown : s.vm.findClass RX7 = some m.cls := findClass_of_methodNamed B.named
  have hlocks := B.notSynchronized
  clear hts
  subst hsz
  have hD := hD0.self (sz := s.heap.size)
  generalize hAe : va_A (zM k q z) s.heap.size = A at hD ⊢
  have hA : ∀ q : Nat, s.heap.size ≤ q → A q := fun q h => by rw [← hAe]; exact Or.inr h
  have hDa : ∀ z9 : ZS, va_D A (zM k q z9) := fun z9 => va_D_adr (w := zM k q z) rfl hD
  have hl := lv_entry ([.ref (q 0), .int g, .int d, .int w]) (n := 8) (Nat.le_of_ble_eq_true rfl)
  rw [lg_entry_eq]
  generalize (lg_sl ([.ref (q 0), .int g, .int d, .int w]) ++ List.replicate (8 - (lg_sl ([.ref (q 0), .int g, .int d, .int w])).length) Slot.unset).toArray = ls at hl ⊢
  have hl : lv_has ls 8 [(0, .ref (q 0)), (1, .int g), (2, .int d), (3, .int w)] := hl
  refine z_start2 (A := A) (w := (zM k q z)) hP (fun H locs hP hS => ?_)
  clear hD0 hAe
  refine lv_iload_n hx hb dX7_scatter_0 rfl (lv_at hl 1 rfl) ?_
  refine lv_iload_n hx hb dX7_scatter_1 rfl (lv_at hl 2 rfl) ?_
  refine zc0_i (w := (zM k q z)) (va_runS (As := [.int g, .int d]) (rest := []) ⟨hx, hb, hml, hown, htb⟩ (c_X7_isPoll l dC dI k g d _ ) (va_cwS 2 htb (gzS wmt4_202 wmt4_203 wmt1_8 wmt4_204) rfl rfl rfl (by decide +kernel) ⟨Nat.le_of_ble_eq_true rfl, Nat.le_of_ble_eq_true rfl⟩) (zp0_S hK) rfl rfl hl.1 rfl (lv_room (Nat.le_of_ble_eq_true rfl)) dX7_scatter_2 ⟨Nat.le_of_ble_eq_true rfl, Nat.le_of_ble_eq_true rfl⟩) hP hS hA (fun r_1 u_2 H locs w_3 hP hS => ?_)
  rcases w_3 with ⟨e_5, h_4⟩ | ⟨e_7, h_6⟩
  · skip
    replace e_5 : r_1 = 1 := e_5
    subst e_5
    replace h_4 : (0 ≤ g.toInt ∧ g.toInt < 4) ∧ (0 ≤ d.toInt ∧ d.toInt < 4) := h_4
    refine lv_if_eq (tgt := 17) hx hb dX7_scatter_5 (by decide) (fun c_8 => ?_) (fun c_8 => ?_)
    · skip
      exact absurd c_8 (by decide)
    · skip
      refine lv_iload_n hx hb dX7_scatter_8 rfl (lv_at hl 3 rfl) ?_
      refine lv_iconst (v := 0) hx hb dX7_scatter_9 (by decide) ?_
      refine lv_iconst (v := 1) hx hb dX7_scatter_10 (by decide) ?_
      refine zc0_i (w := (zM k q z)) (va_runS (As := [.int w, .int 0, .int 1]) (rest := []) ⟨hx, hb, hml, hown, htb⟩ (c_X7_in l dC dI k w 0 1 _ ) (va_cwS 3 htb (gzS wmt4_62 wmt4_63 wmt1_8 wmt4_64) rfl rfl rfl (by decide +kernel) ⟨Nat.le_of_ble_eq_true rfl, Nat.le_of_ble_eq_true rfl⟩) (zp0_S hK) rfl rfl hl.1 rfl (lv_room (Nat.le_of_ble_eq_true rfl)) dX7_scatter_11 ⟨Nat.le_of_ble_eq_true rfl, Nat.le_of_ble_eq_true rfl⟩) hP hS hA (fun r_9 u_10 H locs w_11 hP hS => ?_)
      rcases w_11 with ⟨e_13, h_12⟩ | ⟨e_15, h_14⟩
      · skip
        replace e_13 : r_9 = 1 := e_13
        subst e_13
        replace h_12 : (0 : Int32).toInt ≤ w.toInt ∧ w.toInt ≤ (1 : Int32).toInt := h_12
        rw [show (0 : Int32).toInt = 0 by decide, show (1 : Int32).toInt = 1 by decide] at h_12
        refine lv_if_ne (tgt := 23) hx hb dX7_scatter_14 (by decide) (fun c_16 => ?_) (fun c_16 => ?_)
        · skip
          refine lv_aload_n hx hb dX7_scatter_23 rfl (lv_at hl 0 rfl) ?_
          refine lv_iload_n hx hb dX7_scatter_24 rfl (lv_at hl 1 rfl) ?_
          refine lv_iload_n hx hb dX7_scatter_25 rfl (lv_at hl 2 rfl) ?_
          refine zcA_v (w := (zM k q z)) (va_runV (As := [.int g, .int d]) (rest := []) ⟨hx, hb, hml, hown, htb⟩ (c_X7_polls l dC dI k q z g d _ hI) (cwV 2 htb (gzV wmt4_205 wmt4_207 wmp3_7 wmt1_8 wmt4_208) rfl rfl rfl (by decide +kernel) ⟨Nat.le_of_ble_eq_true rfl, Nat.le_of_ble_eq_true rfl⟩) (zpA_V (ci := 7) (q0 := 0) hK hP (hDa _) rfl rfl) rfl rfl hl.1 rfl (lv_room (Nat.le_of_ble_eq_true rfl)) dX7_scatter_26 ⟨Nat.le_of_ble_eq_true rfl, Nat.le_of_ble_eq_true rfl⟩) (hDa _) hS hA (fun u_18 H locs w_19 hP _ hS => ?_)
          obtain ⟨op_20, oy_21⟩ := u_18
          have hP : va_P (dC, dI) vwCl (zM k q (sI (sI z 28 op_20) 29 oy_21)) H := hP
          have h_22 := w_19
          replace h_22 : 0 ≤ oy_21.toInt ∧ oy_21.toInt ≤ op_20.toInt ∧ op_20.toInt ≤ 120 := h_22
          have hpo := h_22
          refine lv_aload_n hx hb dX7_scatter_29 rfl (lv_at hl 0 rfl) ?_
          refine lv_iload_n hx hb dX7_scatter_30 rfl (lv_at hl 2 rfl) ?_
          refine zcA_i (w := (zM k q (sI (sI z 28 op_20) 29 oy_21))) (va_runV (As := [.int d]) (rest := []) ⟨hx, hb, hml, hown, htb⟩ (c_X7_faultOf l dC dI k q (sI (sI z 28 op_20) 29 oy_21) d _ hI (show 0 ≤ d.toInt ∧ d.toInt < 4 by omega)) (cwV 1 htb (gzV wmt4_73 wmt4_75 wmp2_6 wmt1_8 wmt4_76) rfl rfl rfl (by decide +kernel) ⟨Nat.le_of_ble_eq_true rfl, Nat.le_of_ble_eq_true rfl⟩) (zpA_V (ci := 7) (q0 := 0) hK hP (hDa _) rfl rfl) rfl rfl hl.1 rfl (lv_room (Nat.le_of_ble_eq_true rfl)) dX7_scatter_31 ⟨Nat.le_of_ble_eq_true rfl, Nat.le_of_ble_eq_true rfl⟩) (hDa _) hS hA (fun r_24 u_25 H locs w_26 hP _ hS => ?_)
          obtain ⟨o4_27, o5_28, o6_29, o7_30, o8_31, o9_32, o10_33, o12_34, o13_35, o14_36, o15_37, o16_38, o17_39, o18_40⟩ := u_25
          have hP : va_P (dC, dI) vwCl (zM k q (sA (sA (sA (sI (sI (sI (sI (sA (sA (sA (sA (sA (sA (sA (sI (sI z 28 op_20) 29 oy_21) 4 o4_27) 5 o5_28) 6 o6_29) 7 o7_30) 8 o8_31) 9 o9_32) 10 o10_33) 12 o12_34) 13 o13_35) 14 o14_36) 15 o15_37) 16 o16_38) 17 o17_39) 18 o18_40)) H := hP
          obtain ⟨h_41, h_42, h_43, h_44, h_45⟩ := w_26
          replace h_41 : MD (FR ((z.2.2.1 2)) ((z.2.2.1 3))) o4_27 o5_28 o6_29 o7_30 o8_31 o9_32 o10_33 := h_41
          replace h_42 : ¬ o4_27 d.toNatClampNeg = 0 := h_42
          replace h_43 : RK ((z.2.2.1 4)) ((z.2.2.1 5)) o4_27 o5_28 := h_43
          replace h_44 : R7 ((z.2.2.1 4)) ((z.2.2.1 6)) ((z.2.2.1 7)) ((z.2.2.1 8)) ((z.2.2.1 9)) ((z.2.2.1 10)) o6_29 o7_30 o8_31 o9_32 o10_33 := h_44
          replace h_45 : r_24 = o5_28 d.toNatClampNeg := h_45
          have hI : MInv (sA (sA (sA (sI (sI (sI (sI (sA (sA (sA (sA (sA (sA (sA (sI (sI z 28 op_20) 29 oy_21) 4 o4_27) 5 o5_28) 6 o6_29) 7 o7_30) 8 o8_31) 9 o9_32) 10 o10_33) 12 o12_34) 13 o13_35) 14 o14_36) 15 o15_37) 16 o16_38) 17 o17_39) 18 o18_40) := ⟨hI.1, hI.2.1, hI.2.2.1, hI.2.2.2.1, hI.2.2.2.2.1, h_41⟩
          have hms := MD_at h_41 (show 0 ≤ d.toInt ∧ d.toInt < 4 by omega)
          have hrd := h_42
          have hrk := h_43
          obtain ⟨hw, hff, hfF, hlk⟩ := hms.2.2.2.2.2 h_42
          have hwb := hms.1
          have hr5 : r_24.toInt = (o5_28 d.toNatClampNeg).toInt := by rw [h_45]
          refine lv_iconst (v := (-1)) hx hb dX7_scatter_34 (by decide) ?_
          refine lv_icmp_ne (tgt := 56) hx hb dX7_scatter_35 (by decide) (fun c_47 => ?_) (fun c_47 => ?_)
          · skip
            have hc_47 := zb_ne rfl (show ((-1) : Int32).toInt = (-1) by decide) c_47
            refine lv_bipush (v := (-3)) hx hb dX7_scatter_56 (by decide) ?_
            refine zc0_l (w := (zM k q (sA (sA (sA (sI (sI (sI (sI (sA (sA (sA (sA (sA (sA (sA (sI (sI z 28 op_20) 29 oy_21) 4 o4_27) 5 o5_28) 6 o6_29) 7 o7_30) 8 o8_31) 9 o9_32) 10 o10_33) 12 o12_34) 13 o13_35) 14 o14_36) 15 o15_37) 16 o16_38) 17 o17_39) 18 o18_40))) (va_runS (As := [.int (-3)]) (rest := []) ⟨hx, hb, hml, hown, htb⟩ (c_X7_told l dC dI k (-3) _ ) (va_cwS 1 htb (gzS wmt4_116 wmt4_117 wmt1_8 wmt4_118) rfl rfl rfl (by decide +kernel) ⟨Nat.le_of_ble_eq_true rfl, Nat.le_of_ble_eq_true rfl⟩) (zp0_S hK) rfl rfl hl.1 rfl (lv_room (Nat.le_of_ble_eq_true rfl)) dX7_scatter_58 ⟨Nat.le_of_ble_eq_true rfl, Nat.le_of_ble_eq_true rfl⟩) hP hS hA (fun r_48 u_49 H locs w_50 hP hS => ?_)
            have h_51 := w_50
            replace h_51 : r_48.toInt = tl ((-3) : Int32) := h_51
            exact W.lret (v := r_48) hx hb hr (fun t ht hW => ⟨⟨r_48, (o4_27, o5_28, o6_29, o7_30, o8_31, o9_32, o10_33, o12_34, o13_35, o14_36, o15_37, o16_38, o17_39, o18_40, op_20, oy_21, z.2.1 0, z.2.1 1), rfl, (show (MD (FR (z.2.2.1 2) (z.2.2.1 3)) o4_27 o5_28 o6_29 o7_30 o8_31 o9_32 o10_33) from hI.2.2.2.2.2), ⟨by rw [ht]; exact hP, hDa _⟩⟩, hS.F ht⟩) hS.2.2 dX7_scatter_61
          · skip
            have hc_47 := zb_eq rfl (show ((-1) : Int32).toInt = (-1) by decide) c_47
            refine lv_aload_n hx hb dX7_scatter_38 rfl (lv_at hl 0 rfl) ?_
            refine lv_iload_n hx hb dX7_scatter_39 rfl (lv_at hl 2 rfl) ?_
            refine zcA_l (w := (zM k q (sA (sA (sA (sI (sI (sI (sI (sA (sA (sA (sA (sA (sA (sA (sI (sI z 28 op_20) 29 oy_21) 4 o4_27) 5 o5_28) 6 o6_29) 7 o7_30) 8 o8_31) 9 o9_32) 10 o10_33) 12 o12_34) 13 o13_35) 14 o14_36) 15 o15_37) 16 o16_38) 17 o17_39) 18 o18_40))) (va_runV (As := [.int d]) (rest := []) ⟨hx, hb, hml, hown, htb⟩ (c_X7_more l dC dI k q (sA (sA (sA (sI (sI (sI (sI (sA (sA (sA (sA (sA (sA (sA (sI (sI z 28 op_20) 29 oy_21) 4 o4_27) 5 o5_28) 6 o6_29) 7 o7_30) 8 o8_31) 9 o9_32) 10 o10_33) 12 o12_34) 13 o13_35) 14 o14_36) 15 o15_37) 16 o16_38) 17 o17_39) 18 o18_40) d _ hI (by omega) hms) (cwV 1 htb (gzV wmt4_213 wmt4_215 wmp3_8 wmt1_8 wmt4_216) rfl rfl rfl (by decide +kernel) ⟨Nat.le_of_ble_eq_true rfl, Nat.le_of_ble_eq_true rfl⟩) (zpA_V (ci := 7) (q0 := 0) hK hP (hDa _) rfl rfl) rfl rfl hl.1 rfl (lv_room (Nat.le_of_ble_eq_true rfl)) dX7_scatter_40 ⟨Nat.le_of_ble_eq_true rfl, Nat.le_of_ble_eq_true rfl⟩) (hDa _) hS hA (fun r_53 u_54 H locs w_55 hP _ hS => ?_)
            obtain ⟨h_56, h_57⟩ := w_55
            replace h_56 : -720000 ≤ r_53.toInt ∧ r_53.toInt ≤ 720000 := h_56
            replace h_57 : r_53.toInt = yI (o7_30 d.toNatClampNeg) (o8_31 d.toNatClampNeg) (o9_32 d.toNatClampNeg) (o10_33 d.toNatClampNeg) ((z.1 11)) 1 - yI (o7_30 d.toNatClampNeg) (o8_31 d.toNatClampNeg) (o9_32 d.toNatClampNeg) (o10_33 d.toNatClampNeg) ((z.1 11)) 0 := h_57
            refine lv_lconst (v := 0) hx hb dX7_scatter_43 (by decide) ?_
            refine z_lcmp hx hb dX7_scatter_44 ?_
            refine lv_if_eq (tgt := 56) hx hb dX7_scatter_45 (by decide) (fun c_59 => ?_) (fun c_59 => ?_)
            · skip
              have hc_59 := zl_eq rfl (show (0 : Int64).toInt = 0 by decide) c_59
              refine lv_bipush (v := (-3)) hx hb dX7_scatter_56 (by decide) ?_
              refine zc0_l (w := (zM k q (sA (sA (sA (sI (sI (sI (sI (sA (sA (sA (sA (sA (sA (sA (sI (sI z 28 op_20) 29 oy_21) 4 o4_27) 5 o5_28) 6 o6_29) 7 o7_30) 8 o8_31) 9 o9_32) 10 o10_33) 12 o12_34) 13 o13_35) 14 o14_36) 15 o15_37) 16 o16_38) 17 o17_39) 18 o18_40))) (va_runS (As := [.int (-3)]) (rest := []) ⟨hx, hb, hml, hown, htb⟩ (c_X7_told l dC dI k (-3) _ ) (va_cwS 1 htb (gzS wmt4_116 wmt4_117 wmt1_8 wmt4_118) rfl rfl rfl (by decide +kernel) ⟨Nat.le_of_ble_eq_true rfl, Nat.le_of_ble_eq_true rfl⟩) (zp0_S hK) rfl rfl hl.1 rfl (lv_room (Nat.le_of_ble_eq_true rfl)) dX7_scatter_58 ⟨Nat.le_of_ble_eq_true rfl, Nat.le_of_ble_eq_true rfl⟩) hP hS hA (fun r_60 u_61 H locs w_62 hP hS => ?_)
              have h_63 := w_62
              replace h_63 : r_60.toInt = tl ((-3) : Int32) := h_63
              exact W.lret (v := r_60) hx hb hr (fun t ht hW => ⟨⟨r_60, (o4_27, o5_28, o6_29, o7_30, o8_31, o9_32, o10_33, o12_34, o13_35, o14_36, o15_37, o16_38, o17_39, o18_40, op_20, oy_21, z.2.1 0, z.2.1 1), rfl, (show (MD (FR (z.2.2.1 2) (z.2.2.1 3)) o4_27 o5_28 o6_29 o7_30 o8_31 o9_32 o10_33) from hI.2.2.2.2.2), ⟨by rw [ht]; exact hP, hDa _⟩⟩, hS.F ht⟩) hS.2.2 dX7_scatter_61
            · skip
              have hc_59 := zl_ne rfl (show (0 : Int64).toInt = 0 by decide) c_59
              refine lv_aload_n hx hb dX7_scatter_48 rfl (lv_at hl 0 rfl) ?_
              refine va_get (D := (dC, dI)) (ci := 7) (v := .int op_20) (C := RX7) (T := TX7) (N := 42) hx hb htb inw7 hown hK.1 hP 0 rfl rfl 28 (by decide) (htb _ wmt3_195) (fun _ h9 => h9) rfl dX7_scatter_49 ?_
              refine lv_iconst (v := 2) hx hb dX7_scatter_52 (by decide) ?_
              refine lv_icmp_ge (tgt := 62) hx hb dX7_scatter_53 (by decide) (fun c_65 => ?_) (fun c_65 => ?_)
              · skip
                have hc_65 := zb_le (show (2 : Int32).toInt = 2 by decide) rfl c_65
                refine lv_aload_n hx hb dX7_scatter_62 rfl (lv_at hl 0 rfl) ?_
                refine va_get (D := (dC, dI)) (ci := 7) (v := .int op_20) (C := RX7) (T := TX7) (N := 42) hx hb htb inw7 hown hK.1 hP 0 rfl rfl 28 (by decide) (htb _ wmt3_195) (fun _ h9 => h9) rfl dX7_scatter_63 ?_
                refine lv_i2l (v := op_20.toInt64) hx hb dX7_scatter_66 rfl ?_
                refine lv_topl (fun x_66 ex_66 => ?_)
                have hx_66 : x_66.toInt = op_20.toInt := by rw [ex_66]; exact Jvm.Kit.i64_of_i32 _
                refine lv_lstore (lv' := [(4, .long x_66), (0, .ref (q 0)), (1, .int g), (2, .int d), (3, .int w)]) hx hb dX7_scatter_67 hl (by decide) rfl (fun ls hl => ?_)
                refine lv_aload_n hx hb dX7_scatter_69 rfl (lv_at hl 1 rfl) ?_
                refine va_get (D := (dC, dI)) (ci := 7) (v := .int oy_21) (C := RX7) (T := TX7) (N := 42) hx hb htb inw7 hown hK.1 hP 0 rfl rfl 29 (by decide) (htb _ wmt3_196) (fun _ h9 => h9) rfl dX7_scatter_70 ?_
                refine lv_i2l (v := oy_21.toInt64) hx hb dX7_scatter_73 rfl ?_
                refine lv_topl (fun x_67 ex_67 => ?_)
                have hx_67 : x_67.toInt = oy_21.toInt := by rw [ex_67]; exact Jvm.Kit.i64_of_i32 _
                refine lv_lload hx hb dX7_scatter_74 (lv_at hl 0 rfl) ?_
                refine lv_aload_n hx hb dX7_scatter_76 rfl (lv_at hl 1 rfl) ?_
                refine va_get (D := (dC, dI)) (ci := 7) (v := .int oy_21) (C := RX7) (T := TX7) (N := 42) hx hb htb inw7 hown hK.1 hP 0 rfl rfl 29 (by decide) (htb _ wmt3_196) (fun _ h9 => h9) rfl dX7_scatter_77 ?_
                refine lv_i2l (v := oy_21.toInt64) hx hb dX7_scatter_80 rfl ?_
                refine lv_topl (fun x_68 ex_68 => ?_)
                have hx_68 : x_68.toInt = oy_21.toInt := by rw [ex_68]; exact Jvm.Kit.i64_of_i32 _
                refine lv_lsub hx hb dX7_scatter_81 ?_
                refine lv_topl (fun x_69 ex_69 => ?_)
                have hx_69 := zl_sub ex_69 rfl rfl (by omega)
                refine lv_lmul hx hb dX7_scatter_82 ?_
                refine lv_topl (fun x_70 ex_70 => ?_)
                have qx_70 := z_mulb (a := x_67.toInt) (b := x_69.toInt) (A := 120) (B := 120) (by omega) (by omega)
                have hx_70 := zl_mul ex_70 rfl rfl (by omega)
                refine lv_aload_n hx hb dX7_scatter_83 rfl (lv_at hl 1 rfl) ?_
                refine lv_iload_n hx hb dX7_scatter_84 rfl (lv_at hl 3 rfl) ?_
                refine zcA_l (w := (zM k q (sA (sA (sA (sI (sI (sI (sI (sA (sA (sA (sA (sA (sA (sA (sI (sI z 28 op_20) 29 oy_21) 4 o4_27) 5 o5_28) 6 o6_29) 7 o7_30) 8 o8_31) 9 o9_32) 10 o10_33) 12 o12_34) 13 o13_35) 14 o14_36) 15 o15_37) 16 o16_38) 17 o17_39) 18 o18_40))) (va_runV (As := [.int d]) (rest := [.long x_70]) ⟨hx, hb, hml, hown, htb⟩ (c_X7_base l dC dI k q (sA (sA (sA (sI (sI (sI (sI (sA (sA (sA (sA (sA (sA (sA (sI (sI z 28 op_20) 29 oy_21) 4 o4_27) 5 o5_28) 6 o6_29) 7 o7_30) 8 o8_31) 9 o9_32) 10 o10_33) 12 o12_34) 13 o13_35) 14 o14_36) 15 o15_37) 16 o16_38) 17 o17_39) 18 o18_40) d _ (by omega) hms) (cwV 1 htb (gzV wmt4_125 wmt4_127 wmp2_15 wmt1_8 wmt4_128) rfl rfl rfl (by decide +kernel) ⟨Nat.le_of_ble_eq_true rfl, Nat.le_of_ble_eq_true rfl⟩) (zpA_V (ci := 7) (q0 := 0) hK hP (hDa _) rfl rfl) rfl rfl hl.1 rfl (lv_room (Nat.le_of_ble_eq_true rfl)) dX7_scatter_85 ⟨Nat.le_of_ble_eq_true rfl, Nat.le_of_ble_eq_true rfl⟩) (hDa _) hS hA (fun r_71 u_72 H locs w_73 hP _ hS => ?_)
                have h_74 := w_73
                replace h_74 : r_71.toInt = 24 * (o6_29 d.toNatClampNeg).toInt := h_74
                refine lv_lmul hx hb dX7_scatter_88 ?_
                refine lv_topl (fun x_76 ex_76 => ?_)
                have qx_76 := z_mulb (a := x_70.toInt) (b := r_71.toInt) (A := 14400) (B := 11520) (by omega) (by omega)
                have hx_76 := zl_mul ex_76 rfl rfl (by omega)
                refine lv_aload_n hx hb dX7_scatter_89 rfl (lv_at hl 1 rfl) ?_
                refine lv_iload_n hx hb dX7_scatter_90 rfl (lv_at hl 3 rfl) ?_
                refine zcA_l (w := (zM k q (sA (sA (sA (sI (sI (sI (sI (sA (sA (sA (sA (sA (sA (sA (sI (sI z 28 op_20) 29 oy_21) 4 o4_27) 5 o5_28) 6 o6_29) 7 o7_30) 8 o8_31) 9 o9_32) 10 o10_33) 12 o12_34) 13 o13_35) 14 o14_36) 15 o15_37) 16 o16_38) 17 o17_39) 18 o18_40))) (va_runV (As := [.int d]) (rest := [.long x_76]) ⟨hx, hb, hml, hown, htb⟩ (c_X7_base l dC dI k q (sA (sA (sA (sI (sI (sI (sI (sA (sA (sA (sA (sA (sA (sA (sI (sI z 28 op_20) 29 oy_21) 4 o4_27) 5 o5_28) 6 o6_29) 7 o7_30) 8 o8_31) 9 o9_32) 10 o10_33) 12 o12_34) 13 o13_35) 14 o14_36) 15 o15_37) 16 o16_38) 17 o17_39) 18 o18_40) d _ (by omega) hms) (cwV 1 htb (gzV wmt4_125 wmt4_127 wmp2_15 wmt1_8 wmt4_128) rfl rfl rfl (by decide +kernel) ⟨Nat.le_of_ble_eq_true rfl, Nat.le_of_ble_eq_true rfl⟩) (zpA_V (ci := 7) (q0 := 0) hK hP (hDa _) rfl rfl) rfl rfl hl.1 rfl (lv_room (Nat.le_of_ble_eq_true rfl)) dX7_scatter_91 ⟨Nat.le_of_ble_eq_true rfl, Nat.le_of_ble_eq_true rfl⟩) (hDa _) hS hA (fun r_77 u_78 H locs w_79 hP _ hS => ?_)
                have h_80 := w_79
                replace h_80 : r_77.toInt = 24 * (o6_29 d.toNatClampNeg).toInt := h_80
                refine lv_lmul hx hb dX7_scatter_94 ?_
                refine lv_topl (fun x_82 ex_82 => ?_)
                have qx_82 := z_mulb (a := x_76.toInt) (b := r_77.toInt) (A := 165888000) (B := 11520) (by omega) (by omega)
                have hx_82 := zl_mul ex_82 rfl rfl (by omega)
                refine lv_lstore (lv' := [(6, .long x_82), (4, .long x_66), (0, .ref (q 0)), (1, .int g), (2, .int d), (3, .int w)]) hx hb dX7_scatter_95 hl (by decide) rfl (fun ls hl => ?_)
                refine lv_aload_n hx hb dX7_scatter_97 rfl (lv_at hl 2 rfl) ?_
                refine lv_lload hx hb dX7_scatter_98 (lv_at hl 0 rfl) ?_
                refine lv_lload hx hb dX7_scatter_100 (lv_at hl 1 rfl) ?_
                refine lv_lload hx hb dX7_scatter_102 (lv_at hl 1 rfl) ?_
                refine lv_lmul hx hb dX7_scatter_104 ?_
                refine lv_topl (fun x_83 ex_83 => ?_)
                have qx_83 := z_mulb (a := x_66.toInt) (b := x_66.toInt) (A := 120) (B := 120) (by omega) (by omega)
                have px_83 : x_66.toInt * x_66.toInt ≠ 0 := Int.mul_ne_zero (by omega) (by omega)
                have hx_83 := zl_mul ex_83 rfl rfl (by omega)
                refine lv_lload hx hb dX7_scatter_105 (lv_at hl 1 rfl) ?_
                refine lv_lconst (v := 1) hx hb dX7_scatter_107 (by decide) ?_
                refine lv_lsub hx hb dX7_scatter_108 ?_
                refine lv_topl (fun x_84 ex_84 => ?_)
                have hx_84 := zl_sub ex_84 rfl (show (1 : Int64).toInt = 1 by decide) (by omega)
                refine lv_lmul hx hb dX7_scatter_109 ?_
                refine lv_topl (fun x_85 ex_85 => ?_)
                have qx_85 := z_mulb (a := x_83.toInt) (b := x_84.toInt) (A := 14400) (B := 119) (by omega) (by omega)
                have px_85 : x_83.toInt * x_84.toInt ≠ 0 := Int.mul_ne_zero (by omega) (by omega)
                have hx_85 := zl_mul ex_85 rfl rfl (by omega)
                refine lv_aload_n hx hb dX7_scatter_110 rfl (lv_at hl 2 rfl) ?_
                refine lv_iload_n hx hb dX7_scatter_111 rfl (lv_at hl 4 rfl) ?_
                refine zcA_l (w := (zM k q (sA (sA (sA (sI (sI (sI (sI (sA (sA (sA (sA (sA (sA (sA (sI (sI z 28 op_20) 29 oy_21) 4 o4_27) 5 o5_28) 6 o6_29) 7 o7_30) 8 o8_31) 9 o9_32) 10 o10_33) 12 o12_34) 13 o13_35) 14 o14_36) 15 o15_37) 16 o16_38) 17 o17_39) 18 o18_40))) (va_runV (As := [.int d]) (rest := [.long x_85, .long x_82, .ref (q 0)]) ⟨hx, hb, hml, hown, htb⟩ (c_X7_more l dC dI k q (sA (sA (sA (sI (sI (sI (sI (sA (sA (sA (sA (sA (sA (sA (sI (sI z 28 op_20) 29 oy_21) 4 o4_27) 5 o5_28) 6 o6_29) 7 o7_30) 8 o8_31) 9 o9_32) 10 o10_33) 12 o12_34) 13 o13_35) 14 o14_36) 15 o15_37) 16 o16_38) 17 o17_39) 18 o18_40) d _ hI (by omega) hms) (cwV 1 htb (gzV wmt4_213 wmt4_215 wmp3_8 wmt1_8 wmt4_216) rfl rfl rfl (by decide +kernel) ⟨Nat.le_of_ble_eq_true rfl, Nat.le_of_ble_eq_true rfl⟩) (zpA_V (ci := 7) (q0 := 0) hK hP (hDa _) rfl rfl) rfl rfl hl.1 rfl (lv_room (Nat.le_of_ble_eq_true rfl)) dX7_scatter_112 ⟨Nat.le_of_ble_eq_true rfl, Nat.le_of_ble_eq_true rfl⟩) (hDa _) hS hA (fun r_86 u_87 H locs w_88 hP _ hS => ?_)
                obtain ⟨h_89, h_90⟩ := w_88
                replace h_89 : -720000 ≤ r_86.toInt ∧ r_86.toInt ≤ 720000 := h_89
                replace h_90 : r_86.toInt = yI (o7_30 d.toNatClampNeg) (o8_31 d.toNatClampNeg) (o9_32 d.toNatClampNeg) (o10_33 d.toNatClampNeg) ((z.1 11)) 1 - yI (o7_30 d.toNatClampNeg) (o8_31 d.toNatClampNeg) (o9_32 d.toNatClampNeg) (o10_33 d.toNatClampNeg) ((z.1 11)) 0 := h_90
                refine lv_lmul hx hb dX7_scatter_115 ?_
                refine lv_topl (fun x_92 ex_92 => ?_)
                have qx_92 := z_mulab (a := x_85.toInt) (b := r_86.toInt) (A := 1713600) (B := 720000) (by omega) (by omega) (by decide) (by decide)
                have px_92 : x_85.toInt * r_86.toInt ≠ 0 := Int.mul_ne_zero (by omega) (by omega)
                have hx_92 := zl_mul ex_92 rfl rfl (by omega)
                refine lv_aload_n hx hb dX7_scatter_116 rfl (lv_at hl 2 rfl) ?_
                refine lv_iload_n hx hb dX7_scatter_117 rfl (lv_at hl 4 rfl) ?_
                refine zcA_l (w := (zM k q (sA (sA (sA (sI (sI (sI (sI (sA (sA (sA (sA (sA (sA (sA (sI (sI z 28 op_20) 29 oy_21) 4 o4_27) 5 o5_28) 6 o6_29) 7 o7_30) 8 o8_31) 9 o9_32) 10 o10_33) 12 o12_34) 13 o13_35) 14 o14_36) 15 o15_37) 16 o16_38) 17 o17_39) 18 o18_40))) (va_runV (As := [.int d]) (rest := [.long x_92, .long x_82, .ref (q 0)]) ⟨hx, hb, hml, hown, htb⟩ (c_X7_more l dC dI k q (sA (sA (sA (sI (sI (sI (sI (sA (sA (sA (sA (sA (sA (sA (sI (sI z 28 op_20) 29 oy_21) 4 o4_27) 5 o5_28) 6 o6_29) 7 o7_30) 8 o8_31) 9 o9_32) 10 o10_33) 12 o12_34) 13 o13_35) 14 o14_36) 15 o15_37) 16 o16_38) 17 o17_39) 18 o18_40) d _ hI (by omega) hms) (cwV 1 htb (gzV wmt4_213 wmt4_215 wmp3_8 wmt1_8 wmt4_216) rfl rfl rfl (by decide +kernel) ⟨Nat.le_of_ble_eq_true rfl, Nat.le_of_ble_eq_true rfl⟩) (zpA_V (ci := 7) (q0 := 0) hK hP (hDa _) rfl rfl) rfl rfl hl.1 rfl (lv_room (Nat.le_of_ble_eq_true rfl)) dX7_scatter_118 ⟨Nat.le_of_ble_eq_true rfl, Nat.le_of_ble_eq_true rfl⟩) (hDa _) hS hA (fun r_93 u_94 H locs w_95 hP _ hS => ?_)
                obtain ⟨h_96, h_97⟩ := w_95
                replace h_96 : -720000 ≤ r_93.toInt ∧ r_93.toInt ≤ 720000 := h_96
                replace h_97 : r_93.toInt = yI (o7_30 d.toNatClampNeg) (o8_31 d.toNatClampNeg) (o9_32 d.toNatClampNeg) (o10_33 d.toNatClampNeg) ((z.1 11)) 1 - yI (o7_30 d.toNatClampNeg) (o8_31 d.toNatClampNeg) (o9_32 d.toNatClampNeg) (o10_33 d.toNatClampNeg) ((z.1 11)) 0 := h_97
                refine lv_lmul hx hb dX7_scatter_121 ?_
                refine lv_topl (fun x_99 ex_99 => ?_)
                have qx_99 := z_mulab (a := x_92.toInt) (b := r_93.toInt) (A := 1233792000000) (B := 720000) (by omega) (by omega) (by decide) (by decide)
                have px_99 : x_92.toInt * r_93.toInt ≠ 0 := Int.mul_ne_zero (by omega) (by omega)
                have hx_99 := zl_mul ex_99 rfl rfl (by omega)
                refine zcA_v (w := (zM k q (sA (sA (sA (sI (sI (sI (sI (sA (sA (sA (sA (sA (sA (sA (sI (sI z 28 op_20) 29 oy_21) 4 o4_27) 5 o5_28) 6 o6_29) 7 o7_30) 8 o8_31) 9 o9_32) 10 o10_33) 12 o12_34) 13 o13_35) 14 o14_36) 15 o15_37) 16 o16_38) 17 o17_39) 18 o18_40))) (va_runV (As := [.long x_82, .long x_99]) (rest := []) ⟨hx, hb, hml, hown, htb⟩ (c_X7_is l dC dI k q (sA (sA (sA (sI (sI (sI (sI (sA (sA (sA (sA (sA (sA (sA (sI (sI z 28 op_20) 29 oy_21) 4 o4_27) 5 o5_28) 6 o6_29) 7 o7_30) 8 o8_31) 9 o9_32) 10 o10_33) 12 o12_34) 13 o13_35) 14 o14_36) 15 o15_37) 16 o16_38) 17 o17_39) 18 o18_40) x_82 x_99 _ (show (-4611686018427387904 < x_82.toInt ∧ x_82.toInt < 4611686018427387904) by omega) (show (-4611686018427387904 < x_99.toInt ∧ x_99.toInt < 4611686018427387904) by omega) (show x_99.toInt ≠ 0 by omega)) (cwV 2 htb (gzV wmt4_129 wmt4_131 wmp3_0 wmt1_8 wmt4_132) rfl rfl rfl (by decide +kernel) ⟨Nat.le_of_ble_eq_true rfl, Nat.le_of_ble_eq_true rfl⟩) (zpA_V (ci := 7) (q0 := 0) hK hP (hDa _) rfl rfl) rfl rfl hl.1 rfl (lv_room (Nat.le_of_ble_eq_true rfl)) dX7_scatter_122 ⟨Nat.le_of_ble_eq_true rfl, Nat.le_of_ble_eq_true rfl⟩) (hDa _) hS hA (fun u_101 H locs w_102 hP _ hS => ?_)
                obtain ⟨oa_103, ob_104⟩ := u_101
                have hP : va_P (dC, dI) vwCl (zM k q (sJ (sJ (sA (sA (sA (sI (sI (sI (sI (sA (sA (sA (sA (sA (sA (sA (sI (sI z 28 op_20) 29 oy_21) 4 o4_27) 5 o5_28) 6 o6_29) 7 o7_30) 8 o8_31) 9 o9_32) 10 o10_33) 12 o12_34) 13 o13_35) 14 o14_36) 15 o15_37) 16 o16_38) 17 o17_39) 18 o18_40) 0 oa_103) 1 ob_104)) H := hP
                obtain ⟨h_105, h_106, h_107, h_108, h_109, h_110⟩ := w_102
                replace h_105 : 1 ≤ ob_104.toInt ∧ ob_104.toInt ≤ (x_99.toInt.natAbs : Int) := h_105
                replace h_106 : (oa_103.toInt.natAbs : Int) ≤ (x_82.toInt.natAbs : Int) := h_106
                replace h_107 : (0 ≤ x_82.toInt → 0 < x_99.toInt → 0 ≤ oa_103.toInt) ∧ (0 < x_82.toInt → 0 < x_99.toInt → 1 ≤ oa_103.toInt) := h_107
                replace h_108 : ob_104.toInt = ((x_99.toInt.natAbs / Nat.gcd x_82.toInt.natAbs x_99.toInt.natAbs : Nat) : Int) := h_108
                replace h_109 : oa_103.toInt = x_82.toInt.tdiv (if x_99.toInt < 0 then -(Nat.gcd x_82.toInt.natAbs x_99.toInt.natAbs : Int) else (Nat.gcd x_82.toInt.natAbs x_99.toInt.natAbs : Int)) := h_109
                replace h_110 : Hd (0 ≤ x_82.toInt → 0 < x_99.toInt → oa_103.toInt = frT x_82.toInt x_99.toInt 0 ∧ ob_104.toInt = frT x_82.toInt x_99.toInt 1) := h_110
                refine lv_aload_n hx hb dX7_scatter_125 rfl (lv_at hl 2 rfl) ?_
                refine lv_iload_n hx hb dX7_scatter_126 rfl (lv_at hl 5 rfl) ?_
                refine zcA_l (w := (zM k q (sJ (sJ (sA (sA (sA (sI (sI (sI (sI (sA (sA (sA (sA (sA (sA (sA (sI (sI z 28 op_20) 29 oy_21) 4 o4_27) 5 o5_28) 6 o6_29) 7 o7_30) 8 o8_31) 9 o9_32) 10 o10_33) 12 o12_34) 13 o13_35) 14 o14_36) 15 o15_37) 16 o16_38) 17 o17_39) 18 o18_40) 0 oa_103) 1 ob_104))) (va_runV (As := [.int w]) (rest := []) ⟨hx, hb, hml, hown, htb⟩ (c_X7_part l dC dI k q (sJ (sJ (sA (sA (sA (sI (sI (sI (sI (sA (sA (sA (sA (sA (sA (sA (sI (sI z 28 op_20) 29 oy_21) 4 o4_27) 5 o5_28) 6 o6_29) 7 o7_30) 8 o8_31) 9 o9_32) 10 o10_33) 12 o12_34) 13 o13_35) 14 o14_36) 15 o15_37) 16 o16_38) 17 o17_39) 18 o18_40) 0 oa_103) 1 ob_104) w _ ) (cwV 1 htb (gzV wmt4_133 wmt4_135 wmp3_1 wmt1_8 wmt4_136) rfl rfl rfl (by decide +kernel) ⟨Nat.le_of_ble_eq_true rfl, Nat.le_of_ble_eq_true rfl⟩) (zpA_V (ci := 7) (q0 := 0) hK hP (hDa _) rfl rfl) rfl rfl hl.1 rfl (lv_room (Nat.le_of_ble_eq_true rfl)) dX7_scatter_127 ⟨Nat.le_of_ble_eq_true rfl, Nat.le_of_ble_eq_true rfl⟩) (hDa _) hS hA (fun r_112 u_113 H locs w_114 hP _ hS => ?_)
                have h_115 := w_114
                replace h_115 : (w.toInt = 0 → r_112 = oa_103) ∧ (¬ w.toInt = 0 → r_112 = ob_104) := h_115
                exact W.lret (v := r_112) hx hb hr (fun t ht hW => ⟨⟨r_112, (o4_27, o5_28, o6_29, o7_30, o8_31, o9_32, o10_33, o12_34, o13_35, o14_36, o15_37, o16_38, o17_39, o18_40, op_20, oy_21, oa_103, ob_104), rfl, (show (MD (FR (z.2.2.1 2) (z.2.2.1 3)) o4_27 o5_28 o6_29 o7_30 o8_31 o9_32 o10_33) from hI.2.2.2.2.2), ⟨by rw [ht]; exact hP, hDa _⟩⟩, hS.F ht⟩) hS.2.2 dX7_scatter_130
              · skip
                have hc_65 := zb_nle (show (2 : Int32).toInt = 2 by decide) rfl c_65
                refine lv_bipush (v := (-3)) hx hb dX7_scatter_56 (by decide) ?_
                refine zc0_l (w := (zM k q (sA (sA (sA (sI (sI (sI (sI (sA (sA (sA (sA (sA (sA (sA (sI (sI z 28 op_20) 29 oy_21) 4 o4_27) 5 o5_28) 6 o6_29) 7 o7_30) 8 o8_31) 9 o9_32) 10 o10_33) 12 o12_34) 13 o13_35) 14 o14_36) 15 o15_37) 16 o16_38) 17 o17_39) 18 o18_40))) (va_runS (As := [.int (-3)]) (rest := []) ⟨hx, hb, hml, hown, htb⟩ (c_X7_told l dC dI k (-3) _ ) (va_cwS 1 htb (gzS wmt4_116 wmt4_117 wmt1_8 wmt4_118) rfl rfl rfl (by decide +kernel) ⟨Nat.le_of_ble_eq_true rfl, Nat.le_of_ble_eq_true rfl⟩) (zp0_S hK) rfl rfl hl.1 rfl (lv_room (Nat.le_of_ble_eq_true rfl)) dX7_scatter_58 ⟨Nat.le_of_ble_eq_true rfl, Nat.le_of_ble_eq_true rfl⟩) hP hS hA (fun r_117 u_118 H locs w_119 hP hS => ?_)
                have h_120 := w_119
                replace h_120 : r_117.toInt = tl ((-3) : Int32) := h_120
                exact W.lret (v := r_117) hx hb hr (fun t ht hW => ⟨⟨r_117, (o4_27, o5_28, o6_29, o7_30, o8_31, o9_32, o10_33, o12_34, o13_35, o14_36, o15_37, o16_38, o17_39, o18_40, op_20, oy_21, z.2.1 0, z.2.1 1), rfl, (show (MD (FR (z.2.2.1 2) (z.2.2.1 3)) o4_27 o5_28 o6_29 o7_30 o8_31 o9_32 o10_33) from hI.2.2.2.2.2), ⟨by rw [ht]; exact hP, hDa _⟩⟩, hS.F ht⟩) hS.2.2 dX7_scatter_61
        · skip
          exact absurd c_16 (by decide)
      · skip
        replace e_15 : r_9 = 0 := e_15
        subst e_15
        replace h_14 : ¬ ((0 : Int32).toInt ≤ w.toInt ∧ w.toInt ≤ (1 : Int32).toInt) := h_14
        rw [show (0 : Int32).toInt = 0 by decide, show (1 : Int32).toInt = 1 by decide] at h_14
        refine lv_if_ne (tgt := 23) hx hb dX7_scatter_14 (by decide) (fun c_122 => ?_) (fun c_122 => ?_)
        · skip
          exact absurd c_122 (by decide)
        · skip
          refine lv_bipush (v := (-2)) hx hb dX7_scatter_17 (by decide) ?_
          refine zc0_l (w := (zM k q z)) (va_runS (As := [.int (-2)]) (rest := []) ⟨hx, hb, hml, hown, htb⟩ (c_X7_told l dC dI k (-2) _ ) (va_cwS 1 htb (gzS wmt4_116 wmt4_117 wmt1_8 wmt4_118) rfl rfl rfl (by decide +kernel) ⟨Nat.le_of_ble_eq_true rfl, Nat.le_of_ble_eq_true rfl⟩) (zp0_S hK) rfl rfl hl.1 rfl (lv_room (Nat.le_of_ble_eq_true rfl)) dX7_scatter_19 ⟨Nat.le_of_ble_eq_true rfl, Nat.le_of_ble_eq_true rfl⟩) hP hS hA (fun r_123 u_124 H locs w_125 hP hS => ?_)
          have h_126 := w_125
          replace h_126 : r_123.toInt = tl ((-2) : Int32) := h_126
          exact W.lret (v := r_123) hx hb hr (fun t ht hW => ⟨⟨r_123, (z.2.2.1 4, z.2.2.1 5, z.2.2.1 6, z.2.2.1 7, z.2.2.1 8, z.2.2.1 9, z.2.2.1 10, z.1 12, z.1 13, z.1 14, z.1 15, z.2.2.1 16, z.2.2.1 17, z.2.2.1 18, z.1 28, z.1 29, z.2.1 0, z.2.1 1), rfl, (show (MD (FR (z.2.2.1 2) (z.2.2.1 3)) (z.2.2.1 4) (z.2.2.1 5) (z.2.2.1 6) (z.2.2.1 7) (z.2.2.1 8) (z.2.2.1 9) (z.2.2.1 10)) from hI.2.2.2.2.2), ⟨by rw [ht]; exact hP, hDa _⟩⟩, hS.F ht⟩) hS.2.2 dX7_scatter_22
  · skip
    replace e_7 : r_1 = 0 := e_7
    subst e_7
    replace h_6 : ¬ ((0 ≤ g.toInt ∧ g.toInt < 4) ∧ (0 ≤ d.toInt ∧ d.toInt < 4)) := h_6
    refine lv_if_eq (tgt := 17) hx hb dX7_scatter_5 (by decide) (fun c_128 => ?_) (fun c_128 => ?_)
    · skip
      refine lv_bipush (v := (-2)) hx hb dX7_scatter_17 (by decide) ?_
      refine zc0_l (w := (zM k q z)) (va_runS (As := [.int (-2)]) (rest := []) ⟨hx, hb, hml, hown, htb⟩ (c_X7_told l dC dI k (-2) _ ) (va_cwS 1 htb (gzS wmt4_116 wmt4_117 wmt1_8 wmt4_118) rfl rfl rfl (by decide +kernel) ⟨Nat.le_of_ble_eq_true rfl, Nat.le_of_ble_eq_true rfl⟩) (zp0_S hK) rfl rfl hl.1 rfl (lv_room (Nat.le_of_ble_eq_true rfl)) dX7_scatter_19 ⟨Nat.le_of_ble_eq_true rfl, Nat.le_of_ble_eq_true rfl⟩) hP hS hA (fun r_129 u_130 H locs w_131 hP hS => ?_)
      have h_132 := w_131
      replace h_132 : r_129.toInt = tl ((-2) : Int32) := h_132
      exact W.lret (v := r_129) hx hb hr (fun t ht hW => ⟨⟨r_129, (z.2.2.1 4, z.2.2.1 5, z.2.2.1 6, z.2.2.1 7, z.2.2.1 8, z.2.2.1 9, z.2.2.1 10, z.1 12, z.1 13, z.1 14, z.1 15, z.2.2.1 16, z.2.2.1 17, z.2.2.1 18, z.1 28, z.1 29, z.2.1 0, z.2.1 1), rfl, (show (MD (FR (z.2.2.1 2) (z.2.2.1 3)) (z.2.2.1 4) (z.2.2.1 5) (z.2.2.1 6) (z.2.2.1 7) (z.2.2.1 8) (z.2.2.1 9) (z.2.2.1 10)) from hI.2.2.2.2.2), ⟨by rw [ht]; exact hP, hDa _⟩⟩, hS.F ht⟩) hS.2.2 dX7_scatter_22
    · skip
      exact absurd (by decide) c_128
set_option maxHeartbeats 4000000 in
set_option maxRecDepth 100000 in
theorem c_X7_counts (l : Launch) (dC : Nat → ClassId) (dI : Nat → Nat → Nat) (k : Nat → ClassId) (q : Nat → Nat) (z : ZS) (d : Int32) (w : Int32) (y : Int32) (sz : Nat) (hI : MInv z) (hd : 0 ≤ d.toInt ∧ d.toInt < 4) (hms : MS (FR (z.2.2.1 2) (z.2.2.1 3) d.toNatClampNeg) (z.2.2.1 4 d.toNatClampNeg) (z.2.2.1 5 d.toNatClampNeg) (z.2.2.1 6 d.toNatClampNeg) (z.2.2.1 7 d.toNatClampNeg) (z.2.2.1 8 d.toNatClampNeg) (z.2.2.1 9 d.toNatClampNeg) (z.2.2.1 10 d.toNatClampNeg)) : Met l yX7_counts (wz yX7_counts cX7_counts 4 (some .long)) ({ frames := 1, cells := 0, slots := 0, locals := 23 }) (va_Pc [.ref (q 0), .int d, .int w, .int y] (zPre dC dI k (zTX k) (zM k q z) sz)) (va_Ql (fun (r : Int64) (u : Unit) => (-731520 ≤ r.toInt ∧ r.toInt ≤ 731520)) (fun u t => zPost dC dI (va_A (zM k q z) sz) (zM k q z) t) (va_A (zM k q z) sz)) 0 0 (va_A (zM k q z) sz) := by
  refine Met.ofW (cc := cX7_counts) (maxL := 4) (ret := (some .long)) (by decide) rfl ?_
  intro p e s m args below meth c s₁ B hml hv
  obtain ⟨rfl, hsz, hP, hK, hD0⟩ := hv
  have hx := B.exec
  have hb := B.bytes
  have hr := B.returns
  have hts := atoms_spec (ws := wz yX7_counts cX7_counts 4 (some .long)) B.pre
  have htb : ∀ w ∈ zw, w.before _ s = true := fun w h => hts w (List.mem_cons_of_mem _ h)
  have hown : s.vm.findClass RX7 = some m.cls := findClass_of_methodNamed B.named
  have hlocks := B.notSynchronized
  clear hts
  subst hsz
  have hD := hD0.self (sz := s.heap.size)
  generalize hAe : va_A (zM k q z) s.heap.size = A at hD ⊢
  have hA : ∀ q : Nat, s.heap.size ≤ q → A q := fun q h => by rw [← hAe]; exact Or.inr h
  have hDa : ∀ z9 : ZS, va_D A (zM k q z9) := fun z9 => va_D_adr (w := zM k q z) rfl hD
  have hl := lv_entry ([.ref (q 0), .int d, .int w, .int y]) (n := 4) (Nat.le_of_ble_eq_true rfl)
  rw [lg_entry_eq]
  generalize (lg_sl ([.ref (q 0), .int d, .int w, .int y]) ++ List.replicate (4 - (lg_sl ([.ref (q 0), .int d, .int w, .int y])).length) Slot.unset).toArray = ls at hl ⊢
  have hl : lv_has ls 4 [(0, .ref (q 0)), (1, .int d), (2, .int w), (3, .int y)] := hl
  refine z_start2 (A := A) (w := (zM k q z)) hP (fun H locs hP hS => ?_)
  clear hD0 hAe
  have hwb := hms.1
  refine lv_iload_n hx hb dX7_counts_0 rfl (lv_at hl 2 rfl) ?_
  refine lv_if_ne (tgt := 32) hx hb dX7_counts_1 (by decide) (fun c_1 => ?_) (fun c_1 => ?_)
  · skip
    have hc_1 := zb_ne rfl (show (0 : Int32).toInt = 0 by decide) c_1
    refine lv_iload_n hx hb dX7_counts_32 rfl (lv_at hl 3 rfl) ?_
    refine lv_iconst (v := 1) hx hb dX7_counts_33 (by decide) ?_
    refine lv_icmp_ne (tgt := 52) hx hb dX7_counts_34 (by decide) (fun c_2 => ?_) (fun c_2 => ?_)
    · skip
      have hc_2 := zb_ne rfl (show (1 : Int32).toInt = 1 by decide) c_2
      refine lv_aload_n hx hb dX7_counts_52 rfl (lv_at hl 0 rfl) ?_
      refine lv_iload_n hx hb dX7_counts_53 rfl (lv_at hl 1 rfl) ?_
      refine lv_iconst (v := 1) hx hb dX7_counts_54 (by decide) ?_
      refine zcA_l (w := (zM k q z)) (va_runV (As := [.int d, .int 1]) (rest := []) ⟨hx, hb, hml, hown, htb⟩ (c_X7_yesIf l dC dI k q z d 1 _ hI (by omega) hms) (cwV 2 htb (gzV wmt4_120 wmt4_122 wmp2_14 wmt1_8 wmt4_123) rfl rfl rfl (by decide +kernel) ⟨Nat.le_of_ble_eq_true rfl, Nat.le_of_ble_eq_true rfl⟩) (zpA_V (ci := 7) (q0 := 0) hK hP (hDa _) rfl rfl) rfl rfl hl.1 rfl (lv_room (Nat.le_of_ble_eq_true rfl)) dX7_counts_55 ⟨Nat.le_of_ble_eq_true rfl, Nat.le_of_ble_eq_true rfl⟩) (hDa _) hS hA (fun r_3 u_4 H locs w_5 hP _ hS => ?_)
      obtain ⟨h_6, h_7, h_8⟩ := w_5
      replace h_6 : 0 ≤ r_3.toInt ∧ r_3.toInt ≤ 720000 := h_6
      replace h_7 : (((z.2.2.1 7) d.toNatClampNeg).toInt + ((z.2.2.1 8) d.toNatClampNeg).toInt + ((z.2.2.1 9) d.toNatClampNeg).toInt + ((z.2.2.1 10) d.toNatClampNeg).toInt ≤ ((z.2.2.1 6) d.toNatClampNeg).toInt → r_3.toInt ≤ 24 * ((z.2.2.1 6) d.toNatClampNeg).toInt) := h_7
      replace h_8 : r_3.toInt = yI ((z.2.2.1 7) d.toNatClampNeg) ((z.2.2.1 8) d.toNatClampNeg) ((z.2.2.1 9) d.toNatClampNeg) ((z.2.2.1 10) d.toNatClampNeg) ((z.1 11)) (1 : Int32) := h_8
      exact W.lret (v := r_3) hx hb hr (fun t ht hW => ⟨⟨r_3, (), rfl, (by omega), ⟨by rw [ht]; exact hP, hDa _⟩⟩, hS.F ht⟩) hS.2.2 dX7_counts_58
    · skip
      have hc_2 := zb_eq rfl (show (1 : Int32).toInt = 1 by decide) c_2
      refine lv_aload_n hx hb dX7_counts_37 rfl (lv_at hl 0 rfl) ?_
      refine lv_iload_n hx hb dX7_counts_38 rfl (lv_at hl 1 rfl) ?_
      refine lv_iconst (v := 1) hx hb dX7_counts_39 (by decide) ?_
      refine zcA_l (w := (zM k q z)) (va_runV (As := [.int d, .int 1]) (rest := []) ⟨hx, hb, hml, hown, htb⟩ (c_X7_yesIf l dC dI k q z d 1 _ hI (by omega) hms) (cwV 2 htb (gzV wmt4_120 wmt4_122 wmp2_14 wmt1_8 wmt4_123) rfl rfl rfl (by decide +kernel) ⟨Nat.le_of_ble_eq_true rfl, Nat.le_of_ble_eq_true rfl⟩) (zpA_V (ci := 7) (q0 := 0) hK hP (hDa _) rfl rfl) rfl rfl hl.1 rfl (lv_room (Nat.le_of_ble_eq_true rfl)) dX7_counts_40 ⟨Nat.le_of_ble_eq_true rfl, Nat.le_of_ble_eq_true rfl⟩) (hDa _) hS hA (fun r_10 u_11 H locs w_12 hP _ hS => ?_)
      obtain ⟨h_13, h_14, h_15⟩ := w_12
      replace h_13 : 0 ≤ r_10.toInt ∧ r_10.toInt ≤ 720000 := h_13
      replace h_14 : (((z.2.2.1 7) d.toNatClampNeg).toInt + ((z.2.2.1 8) d.toNatClampNeg).toInt + ((z.2.2.1 9) d.toNatClampNeg).toInt + ((z.2.2.1 10) d.toNatClampNeg).toInt ≤ ((z.2.2.1 6) d.toNatClampNeg).toInt → r_10.toInt ≤ 24 * ((z.2.2.1 6) d.toNatClampNeg).toInt) := h_14
      replace h_15 : r_10.toInt = yI ((z.2.2.1 7) d.toNatClampNeg) ((z.2.2.1 8) d.toNatClampNeg) ((z.2.2.1 9) d.toNatClampNeg) ((z.2.2.1 10) d.toNatClampNeg) ((z.1 11)) (1 : Int32) := h_15
      refine lv_aload_n hx hb dX7_counts_43 rfl (lv_at hl 0 rfl) ?_
      refine lv_iload_n hx hb dX7_counts_44 rfl (lv_at hl 1 rfl) ?_
      refine zcA_l (w := (zM k q z)) (va_runV (As := [.int d]) (rest := [.long r_10]) ⟨hx, hb, hml, hown, htb⟩ (c_X7_base l dC dI k q z d _ (by omega) hms) (cwV 1 htb (gzV wmt4_125 wmt4_127 wmp2_15 wmt1_8 wmt4_128) rfl rfl rfl (by decide +kernel) ⟨Nat.le_of_ble_eq_true rfl, Nat.le_of_ble_eq_true rfl⟩) (zpA_V (ci := 7) (q0 := 0) hK hP (hDa _) rfl rfl) rfl rfl hl.1 rfl (lv_room (Nat.le_of_ble_eq_true rfl)) dX7_counts_45 ⟨Nat.le_of_ble_eq_true rfl, Nat.le_of_ble_eq_true rfl⟩) (hDa _) hS hA (fun r_17 u_18 H locs w_19 hP _ hS => ?_)
      have h_20 := w_19
      replace h_20 : r_17.toInt = 24 * ((z.2.2.1 6) d.toNatClampNeg).toInt := h_20
      refine lv_lsub hx hb dX7_counts_48 ?_
      refine lv_topl (fun x_22 ex_22 => ?_)
      have hx_22 := zl_sub ex_22 rfl rfl (by omega)
      refine lv_goto (tgt := 58) hx hb dX7_counts_49 (by decide) ?_
      exact W.lret (v := x_22) hx hb hr (fun t ht hW => ⟨⟨x_22, (), rfl, (by omega), ⟨by rw [ht]; exact hP, hDa _⟩⟩, hS.F ht⟩) hS.2.2 dX7_counts_58
  · skip
    have hc_1 := zb_eq rfl (show (0 : Int32).toInt = 0 by decide) c_1
    refine lv_iload_n hx hb dX7_counts_4 rfl (lv_at hl 3 rfl) ?_
    refine lv_iconst (v := 1) hx hb dX7_counts_5 (by decide) ?_
    refine lv_icmp_ne (tgt := 24) hx hb dX7_counts_6 (by decide) (fun c_23 => ?_) (fun c_23 => ?_)
    · skip
      have hc_23 := zb_ne rfl (show (1 : Int32).toInt = 1 by decide) c_23
      refine lv_aload_n hx hb dX7_counts_24 rfl (lv_at hl 0 rfl) ?_
      refine lv_iload_n hx hb dX7_counts_25 rfl (lv_at hl 1 rfl) ?_
      refine lv_iconst (v := 0) hx hb dX7_counts_26 (by decide) ?_
      refine zcA_l (w := (zM k q z)) (va_runV (As := [.int d, .int 0]) (rest := []) ⟨hx, hb, hml, hown, htb⟩ (c_X7_yesIf l dC dI k q z d 0 _ hI (by omega) hms) (cwV 2 htb (gzV wmt4_120 wmt4_122 wmp2_14 wmt1_8 wmt4_123) rfl rfl rfl (by decide +kernel) ⟨Nat.le_of_ble_eq_true rfl, Nat.le_of_ble_eq_true rfl⟩) (zpA_V (ci := 7) (q0 := 0) hK hP (hDa _) rfl rfl) rfl rfl hl.1 rfl (lv_room (Nat.le_of_ble_eq_true rfl)) dX7_counts_27 ⟨Nat.le_of_ble_eq_true rfl, Nat.le_of_ble_eq_true rfl⟩) (hDa _) hS hA (fun r_24 u_25 H locs w_26 hP _ hS => ?_)
      obtain ⟨h_27, h_28, h_29⟩ := w_26
      replace h_27 : 0 ≤ r_24.toInt ∧ r_24.toInt ≤ 720000 := h_27
      replace h_28 : (((z.2.2.1 7) d.toNatClampNeg).toInt + ((z.2.2.1 8) d.toNatClampNeg).toInt + ((z.2.2.1 9) d.toNatClampNeg).toInt + ((z.2.2.1 10) d.toNatClampNeg).toInt ≤ ((z.2.2.1 6) d.toNatClampNeg).toInt → r_24.toInt ≤ 24 * ((z.2.2.1 6) d.toNatClampNeg).toInt) := h_28
      replace h_29 : r_24.toInt = yI ((z.2.2.1 7) d.toNatClampNeg) ((z.2.2.1 8) d.toNatClampNeg) ((z.2.2.1 9) d.toNatClampNeg) ((z.2.2.1 10) d.toNatClampNeg) ((z.1 11)) (0 : Int32) := h_29
      refine lv_lneg hx hb dX7_counts_30 ?_
      refine lv_topl (fun x_31 ex_31 => ?_)
      have hx_31 : x_31.toInt = -r_24.toInt := by rw [ex_31]; exact Jvm.Kit.i64_neg (by omega)
      exact W.lret (v := x_31) hx hb hr (fun t ht hW => ⟨⟨x_31, (), rfl, (by omega), ⟨by rw [ht]; exact hP, hDa _⟩⟩, hS.F ht⟩) hS.2.2 dX7_counts_31
    · skip
      have hc_23 := zb_eq rfl (show (1 : Int32).toInt = 1 by decide) c_23
      refine lv_aload_n hx hb dX7_counts_9 rfl (lv_at hl 0 rfl) ?_
      refine lv_iload_n hx hb dX7_counts_10 rfl (lv_at hl 1 rfl) ?_
      refine zcA_l (w := (zM k q z)) (va_runV (As := [.int d]) (rest := []) ⟨hx, hb, hml, hown, htb⟩ (c_X7_base l dC dI k q z d _ (by omega) hms) (cwV 1 htb (gzV wmt4_125 wmt4_127 wmp2_15 wmt1_8 wmt4_128) rfl rfl rfl (by decide +kernel) ⟨Nat.le_of_ble_eq_true rfl, Nat.le_of_ble_eq_true rfl⟩) (zpA_V (ci := 7) (q0 := 0) hK hP (hDa _) rfl rfl) rfl rfl hl.1 rfl (lv_room (Nat.le_of_ble_eq_true rfl)) dX7_counts_11 ⟨Nat.le_of_ble_eq_true rfl, Nat.le_of_ble_eq_true rfl⟩) (hDa _) hS hA (fun r_32 u_33 H locs w_34 hP _ hS => ?_)
      have h_35 := w_34
      replace h_35 : r_32.toInt = 24 * ((z.2.2.1 6) d.toNatClampNeg).toInt := h_35
      refine lv_aload_n hx hb dX7_counts_14 rfl (lv_at hl 0 rfl) ?_
      refine lv_iload_n hx hb dX7_counts_15 rfl (lv_at hl 1 rfl) ?_
      refine lv_iconst (v := 0) hx hb dX7_counts_16 (by decide) ?_
      refine zcA_l (w := (zM k q z)) (va_runV (As := [.int d, .int 0]) (rest := [.long r_32]) ⟨hx, hb, hml, hown, htb⟩ (c_X7_yesIf l dC dI k q z d 0 _ hI (by omega) hms) (cwV 2 htb (gzV wmt4_120 wmt4_122 wmp2_14 wmt1_8 wmt4_123) rfl rfl rfl (by decide +kernel) ⟨Nat.le_of_ble_eq_true rfl, Nat.le_of_ble_eq_true rfl⟩) (zpA_V (ci := 7) (q0 := 0) hK hP (hDa _) rfl rfl) rfl rfl hl.1 rfl (lv_room (Nat.le_of_ble_eq_true rfl)) dX7_counts_17 ⟨Nat.le_of_ble_eq_true rfl, Nat.le_of_ble_eq_true rfl⟩) (hDa _) hS hA (fun r_37 u_38 H locs w_39 hP _ hS => ?_)
      obtain ⟨h_40, h_41, h_42⟩ := w_39
      replace h_40 : 0 ≤ r_37.toInt ∧ r_37.toInt ≤ 720000 := h_40
      replace h_41 : (((z.2.2.1 7) d.toNatClampNeg).toInt + ((z.2.2.1 8) d.toNatClampNeg).toInt + ((z.2.2.1 9) d.toNatClampNeg).toInt + ((z.2.2.1 10) d.toNatClampNeg).toInt ≤ ((z.2.2.1 6) d.toNatClampNeg).toInt → r_37.toInt ≤ 24 * ((z.2.2.1 6) d.toNatClampNeg).toInt) := h_41
      replace h_42 : r_37.toInt = yI ((z.2.2.1 7) d.toNatClampNeg) ((z.2.2.1 8) d.toNatClampNeg) ((z.2.2.1 9) d.toNatClampNeg) ((z.2.2.1 10) d.toNatClampNeg) ((z.1 11)) (0 : Int32) := h_42
      refine lv_lsub hx hb dX7_counts_20 ?_
      refine lv_topl (fun x_44 ex_44 => ?_)
      have hx_44 := zl_sub ex_44 rfl rfl (by omega)
      refine lv_goto (tgt := 31) hx hb dX7_counts_21 (by decide) ?_
      exact W.lret (v := x_44) hx hb hr (fun t ht hW => ⟨⟨x_44, (), rfl, (by omega), ⟨by rw [ht]; exact hP, hDa _⟩⟩, hS.F ht⟩) hS.2.2 dX7_counts_31
set_option maxHeartbeats 4000000 in
set_option maxRecDepth 100000 in
theorem c_X7_exposed (l : Launch) (dC : Nat → ClassId) (dI : Nat → Nat → Nat) (k : Nat → ClassId) (q : Nat → Nat) (z : ZS) (d : Int32) (w : Int32) (sz : Nat) (hI : MInv z) : Met l yX7_exposed (wz yX7_exposed cX7_exposed 12 (some .long)) ({ frames := 5, cells := 0, slots := 0, locals := 114 }) (va_Pc [.ref (q 0), .int d, .int w] (zPre dC dI k (zTX k) (zM k q z) sz)) (va_Ql (fun (r : Int64) (u : (Nat → Int32) × (Nat → Int32) × (Nat → Int32) × (Nat → Int32) × (Nat → Int32) × (Nat → Int32) × (Nat → Int32) × Int32 × Int32 × Int32 × Int32 × (Nat → Int32) × (Nat → Int32) × (Nat → Int32) × Int64 × Int64) => (MD (FR (z.2.2.1 2) (z.2.2.1 3)) u.1 u.2.1 u.2.2.1 u.2.2.2.1 u.2.2.2.2.1 u.2.2.2.2.2.1 u.2.2.2.2.2.2.1) ∧ (r.toInt = tExp (trM z) d w)) (fun u t => zPost dC dI (va_A (zM k q z) sz) (zM k q (sJ (sJ (sA (sA (sA (sI (sI (sI (sI (sA (sA (sA (sA (sA (sA (sA z 4 u.1) 5 u.2.1) 6 u.2.2.1) 7 u.2.2.2.1) 8 u.2.2.2.2.1) 9 u.2.2.2.2.2.1) 10 u.2.2.2.2.2.2.1) 12 u.2.2.2.2.2.2.2.1) 13 u.2.2.2.2.2.2.2.2.1) 14 u.2.2.2.2.2.2.2.2.2.1) 15 u.2.2.2.2.2.2.2.2.2.2.1) 16 u.2.2.2.2.2.2.2.2.2.2.2.1) 17 u.2.2.2.2.2.2.2.2.2.2.2.2.1) 18 u.2.2.2.2.2.2.2.2.2.2.2.2.2.1) 0 u.2.2.2.2.2.2.2.2.2.2.2.2.2.2.1) 1 u.2.2.2.2.2.2.2.2.2.2.2.2.2.2.2)) t) (va_A (zM k q z) sz)) 0 0 (va_A (zM k q z) sz) := by
  refine Met.ofW (cc := cX7_exposed) (maxL := 12) (ret := (some .long)) (by decide) rfl ?_
  intro p e s m args below meth c s₁ B hml hv
  obtain ⟨rfl, hsz, hP, hK, hD0⟩ := hv
  have hx := B.exec
  have hb := B.bytes
  have hr := B.returns
  have hts := atoms_spec (ws := wz yX7_exposed cX7_exposed 12 (some .long)) B.pre
  have htb : ∀ w ∈ zw, w.before _ s = true := fun w h => hts w (List.mem_cons_of_mem _ h)
  have hown : s.vm.findClass RX7 = some m.cls := findClass_of_methodNamed B.named
  have hlocks := B.notSynchronized
  clear hts
  subst hsz
  have hD := hD0.self (sz := s.heap.size)
  generalize hAe : va_A (zM k q z) s.heap.size = A at hD ⊢
  have hA : ∀ q : Nat, s.heap.size ≤ q → A q := fun q h => by rw [← hAe]; exact Or.inr h
  have hDa : ∀ z9 : ZS, va_D A (zM k q z9) := fun z9 => va_D_adr (w := zM k q z) rfl hD
  have hl := lv_entry ([.ref (q 0), .int d, .int w]) (n := 12) (Nat.le_of_ble_eq_true rfl)
  rw [lg_entry_eq]
  generalize (lg_sl ([.ref (q 0), .int d, .int w]) ++ List.replicate (12 - (lg_sl ([.ref (q 0), .int d, .int w])).length) Slot.unset).toArray = ls at hl ⊢
  have hl : lv_has ls 12 [(0, .ref (q 0)), (1, .int d), (2, .int w)] := hl
  refine z_start2 (A := A) (w := (zM k q z)) hP (fun H locs hP hS => ?_)
  clear hD0 hAe
  refine lv_iload_n hx hb dX7_exposed_0 rfl (lv_at hl 1 rfl) ?_
  refine zc0_i (w := (zM k q z)) (va_runS (As := [.int d]) (rest := []) ⟨hx, hb, hml, hown, htb⟩ (c_X7_isDesign l dC dI k d _ ) (va_cwS 1 htb (gzS wmt4_59 wmt4_60 wmt1_8 wmt4_61) rfl rfl rfl (by decide +kernel) ⟨Nat.le_of_ble_eq_true rfl, Nat.le_of_ble_eq_true rfl⟩) (zp0_S hK) rfl rfl hl.1 rfl (lv_room (Nat.le_of_ble_eq_true rfl)) dX7_exposed_1 ⟨Nat.le_of_ble_eq_true rfl, Nat.le_of_ble_eq_true rfl⟩) hP hS hA (fun r_1 u_2 H locs w_3 hP hS => ?_)
  rcases w_3 with ⟨e_5, h_4⟩ | ⟨e_7, h_6⟩
  · skip
    replace e_5 : r_1 = 1 := e_5
    subst e_5
    replace h_4 : 0 ≤ d.toInt ∧ d.toInt < 4 := h_4
    refine lv_if_eq (tgt := 16) hx hb dX7_exposed_4 (by decide) (fun c_8 => ?_) (fun c_8 => ?_)
    · skip
      exact absurd c_8 (by decide)
    · skip
      refine lv_iload_n hx hb dX7_exposed_7 rfl (lv_at hl 2 rfl) ?_
      refine lv_iconst (v := 0) hx hb dX7_exposed_8 (by decide) ?_
      refine lv_iconst (v := 1) hx hb dX7_exposed_9 (by decide) ?_
      refine zc0_i (w := (zM k q z)) (va_runS (As := [.int w, .int 0, .int 1]) (rest := []) ⟨hx, hb, hml, hown, htb⟩ (c_X7_in l dC dI k w 0 1 _ ) (va_cwS 3 htb (gzS wmt4_62 wmt4_63 wmt1_8 wmt4_64) rfl rfl rfl (by decide +kernel) ⟨Nat.le_of_ble_eq_true rfl, Nat.le_of_ble_eq_true rfl⟩) (zp0_S hK) rfl rfl hl.1 rfl (lv_room (Nat.le_of_ble_eq_true rfl)) dX7_exposed_10 ⟨Nat.le_of_ble_eq_true rfl, Nat.le_of_ble_eq_true rfl⟩) hP hS hA (fun r_9 u_10 H locs w_11 hP hS => ?_)
      rcases w_11 with ⟨e_13, h_12⟩ | ⟨e_15, h_14⟩
      · skip
        replace e_13 : r_9 = 1 := e_13
        subst e_13
        replace h_12 : (0 : Int32).toInt ≤ w.toInt ∧ w.toInt ≤ (1 : Int32).toInt := h_12
        rw [show (0 : Int32).toInt = 0 by decide, show (1 : Int32).toInt = 1 by decide] at h_12
        refine lv_if_ne (tgt := 22) hx hb dX7_exposed_13 (by decide) (fun c_16 => ?_) (fun c_16 => ?_)
        · skip
          refine lv_aload_n hx hb dX7_exposed_22 rfl (lv_at hl 0 rfl) ?_
          refine lv_iload_n hx hb dX7_exposed_23 rfl (lv_at hl 1 rfl) ?_
          refine zcA_i (w := (zM k q z)) (va_runV (As := [.int d]) (rest := []) ⟨hx, hb, hml, hown, htb⟩ (c_X7_faultOf l dC dI k q z d _ hI (show 0 ≤ d.toInt ∧ d.toInt < 4 by omega)) (cwV 1 htb (gzV wmt4_73 wmt4_75 wmp2_6 wmt1_8 wmt4_76) rfl rfl rfl (by decide +kernel) ⟨Nat.le_of_ble_eq_true rfl, Nat.le_of_ble_eq_true rfl⟩) (zpA_V (ci := 7) (q0 := 0) hK hP (hDa _) rfl rfl) rfl rfl hl.1 rfl (lv_room (Nat.le_of_ble_eq_true rfl)) dX7_exposed_24 ⟨Nat.le_of_ble_eq_true rfl, Nat.le_of_ble_eq_true rfl⟩) (hDa _) hS hA (fun r_17 u_18 H locs w_19 hP _ hS => ?_)
          obtain ⟨o4_20, o5_21, o6_22, o7_23, o8_24, o9_25, o10_26, o12_27, o13_28, o14_29, o15_30, o16_31, o17_32, o18_33⟩ := u_18
          have hP : va_P (dC, dI) vwCl (zM k q (sA (sA (sA (sI (sI (sI (sI (sA (sA (sA (sA (sA (sA (sA z 4 o4_20) 5 o5_21) 6 o6_22) 7 o7_23) 8 o8_24) 9 o9_25) 10 o10_26) 12 o12_27) 13 o13_28) 14 o14_29) 15 o15_30) 16 o16_31) 17 o17_32) 18 o18_33)) H := hP
          obtain ⟨h_34, h_35, h_36, h_37, h_38⟩ := w_19
          replace h_34 : MD (FR ((z.2.2.1 2)) ((z.2.2.1 3))) o4_20 o5_21 o6_22 o7_23 o8_24 o9_25 o10_26 := h_34
          replace h_35 : ¬ o4_20 d.toNatClampNeg = 0 := h_35
          replace h_36 : RK ((z.2.2.1 4)) ((z.2.2.1 5)) o4_20 o5_21 := h_36
          replace h_37 : R7 ((z.2.2.1 4)) ((z.2.2.1 6)) ((z.2.2.1 7)) ((z.2.2.1 8)) ((z.2.2.1 9)) ((z.2.2.1 10)) o6_22 o7_23 o8_24 o9_25 o10_26 := h_37
          replace h_38 : r_17 = o5_21 d.toNatClampNeg := h_38
          have hI : MInv (sA (sA (sA (sI (sI (sI (sI (sA (sA (sA (sA (sA (sA (sA z 4 o4_20) 5 o5_21) 6 o6_22) 7 o7_23) 8 o8_24) 9 o9_25) 10 o10_26) 12 o12_27) 13 o13_28) 14 o14_29) 15 o15_30) 16 o16_31) 17 o17_32) 18 o18_33) := ⟨hI.1, hI.2.1, hI.2.2.1, hI.2.2.2.1, hI.2.2.2.2.1, h_34⟩
          have hms := MD_at h_34 (show 0 ≤ d.toInt ∧ d.toInt < 4 by omega)
          have hrd := h_35
          have hrk := h_36
          obtain ⟨hw, hff, hfF, hlk⟩ := hms.2.2.2.2.2 h_35
          have hwb := hms.1
          have hr5 : r_17.toInt = (o5_21 d.toNatClampNeg).toInt := by rw [h_38]
          have htF : tF (trM z) d.toNatClampNeg = o5_21 d.toNatClampNeg := (trM_Fg (z_cl4 (show 0 ≤ d.toInt ∧ d.toInt < 4 by omega))).trans (by unfold eF; rw [← hfF, Int32.ofInt_toInt])
          have ho24 := hI.2.2.1
          refine lv_iconst (v := (-1)) hx hb dX7_exposed_27 (by decide) ?_
          refine lv_icmp_ne (tgt := 39) hx hb dX7_exposed_28 (by decide) (fun c_40 => ?_) (fun c_40 => ?_)
          · skip
            have hc_40 := zb_ne rfl (show ((-1) : Int32).toInt = (-1) by decide) c_40
            refine lv_bipush (v := (-3)) hx hb dX7_exposed_39 (by decide) ?_
            refine zc0_l (w := (zM k q (sA (sA (sA (sI (sI (sI (sI (sA (sA (sA (sA (sA (sA (sA z 4 o4_20) 5 o5_21) 6 o6_22) 7 o7_23) 8 o8_24) 9 o9_25) 10 o10_26) 12 o12_27) 13 o13_28) 14 o14_29) 15 o15_30) 16 o16_31) 17 o17_32) 18 o18_33))) (va_runS (As := [.int (-3)]) (rest := []) ⟨hx, hb, hml, hown, htb⟩ (c_X7_told l dC dI k (-3) _ ) (va_cwS 1 htb (gzS wmt4_116 wmt4_117 wmt1_8 wmt4_118) rfl rfl rfl (by decide +kernel) ⟨Nat.le_of_ble_eq_true rfl, Nat.le_of_ble_eq_true rfl⟩) (zp0_S hK) rfl rfl hl.1 rfl (lv_room (Nat.le_of_ble_eq_true rfl)) dX7_exposed_41 ⟨Nat.le_of_ble_eq_true rfl, Nat.le_of_ble_eq_true rfl⟩) hP hS hA (fun r_41 u_42 H locs w_43 hP hS => ?_)
            have h_44 := w_43
            replace h_44 : r_41.toInt = tl ((-3) : Int32) := h_44
            have hal := h_44
            exact W.lret (v := r_41) hx hb hr (fun t ht hW => ⟨⟨r_41, (o4_20, o5_21, o6_22, o7_23, o8_24, o9_25, o10_26, o12_27, o13_28, o14_29, o15_30, o16_31, o17_32, o18_33, z.2.1 0, z.2.1 1), rfl, (show (MD (FR (z.2.2.1 2) (z.2.2.1 3)) o4_20 o5_21 o6_22 o7_23 o8_24 o9_25 o10_26) ∧ (r_41.toInt = tExp (trM z) d w) from ⟨hI.2.2.2.2.2, hal.trans (tExp_ok (by omega) rfl (tEx_f2 htF (by omega)))⟩), ⟨by rw [ht]; exact hP, hDa _⟩⟩, hS.F ht⟩) hS.2.2 dX7_exposed_44
          · skip
            have hc_40 := zb_eq rfl (show ((-1) : Int32).toInt = (-1) by decide) c_40
            refine lv_aload_n hx hb dX7_exposed_31 rfl (lv_at hl 0 rfl) ?_
            refine lv_iload_n hx hb dX7_exposed_32 rfl (lv_at hl 1 rfl) ?_
            refine zcA_i (w := (zM k q (sA (sA (sA (sI (sI (sI (sI (sA (sA (sA (sA (sA (sA (sA z 4 o4_20) 5 o5_21) 6 o6_22) 7 o7_23) 8 o8_24) 9 o9_25) 10 o10_26) 12 o12_27) 13 o13_28) 14 o14_29) 15 o15_30) 16 o16_31) 17 o17_32) 18 o18_33))) (va_runV (As := [.int d]) (rest := []) ⟨hx, hb, hml, hown, htb⟩ (c_X7_isExposed l dC dI k q (sA (sA (sA (sI (sI (sI (sI (sA (sA (sA (sA (sA (sA (sA z 4 o4_20) 5 o5_21) 6 o6_22) 7 o7_23) 8 o8_24) 9 o9_25) 10 o10_26) 12 o12_27) 13 o13_28) 14 o14_29) 15 o15_30) 16 o16_31) 17 o17_32) 18 o18_33) d _ hI (by omega) hms) (cwV 1 htb (gzV wmt5_57 wmt5_59 wmp4_1 wmt1_8 wmt5_60) rfl rfl rfl (by decide +kernel) ⟨Nat.le_of_ble_eq_true rfl, Nat.le_of_ble_eq_true rfl⟩) (zpA_V (ci := 7) (q0 := 0) hK hP (hDa _) rfl rfl) rfl rfl hl.1 rfl (lv_room (Nat.le_of_ble_eq_true rfl)) dX7_exposed_33 ⟨Nat.le_of_ble_eq_true rfl, Nat.le_of_ble_eq_true rfl⟩) (hDa _) hS hA (fun r_46 u_47 H locs w_48 hP _ hS => ?_)
            rcases w_48 with ⟨e_50, h_49⟩ | ⟨e_52, h_51⟩
            · skip
              replace e_50 : r_46 = 1 := e_50
              subst e_50
              replace h_49 : (0 < yI (o7_23 d.toNatClampNeg) (o8_24 d.toNatClampNeg) (o9_25 d.toNatClampNeg) (o10_26 d.toNatClampNeg) ((z.1 11)) 1 ∧ 0 < yI (o7_23 d.toNatClampNeg) (o8_24 d.toNatClampNeg) (o9_25 d.toNatClampNeg) (o10_26 d.toNatClampNeg) ((z.1 11)) 0) ∧ (yI (o7_23 d.toNatClampNeg) (o8_24 d.toNatClampNeg) (o9_25 d.toNatClampNeg) (o10_26 d.toNatClampNeg) ((z.1 11)) 1 < 24 * (o6_22 d.toNatClampNeg).toInt ∧ yI (o7_23 d.toNatClampNeg) (o8_24 d.toNatClampNeg) (o9_25 d.toNatClampNeg) (o10_26 d.toNatClampNeg) ((z.1 11)) 0 < 24 * (o6_22 d.toNatClampNeg).toInt) := h_49
              have hex := h_49
              refine lv_if_ne (tgt := 45) hx hb dX7_exposed_36 (by decide) (fun c_53 => ?_) (fun c_53 => ?_)
              · skip
                refine lv_aload_n hx hb dX7_exposed_45 rfl (lv_at hl 0 rfl) ?_
                refine lv_iload_n hx hb dX7_exposed_46 rfl (lv_at hl 1 rfl) ?_
                refine lv_iconst (v := 1) hx hb dX7_exposed_47 (by decide) ?_
                refine zcA_i (w := (zM k q (sA (sA (sA (sI (sI (sI (sI (sA (sA (sA (sA (sA (sA (sA z 4 o4_20) 5 o5_21) 6 o6_22) 7 o7_23) 8 o8_24) 9 o9_25) 10 o10_26) 12 o12_27) 13 o13_28) 14 o14_29) 15 o15_30) 16 o16_31) 17 o17_32) 18 o18_33))) (va_runV (As := [.int d, .int 1]) (rest := []) ⟨hx, hb, hml, hown, htb⟩ (c_X7_gives l dC dI k q (sA (sA (sA (sI (sI (sI (sI (sA (sA (sA (sA (sA (sA (sA z 4 o4_20) 5 o5_21) 6 o6_22) 7 o7_23) 8 o8_24) 9 o9_25) 10 o10_26) 12 o12_27) 13 o13_28) 14 o14_29) 15 o15_30) 16 o16_31) 17 o17_32) 18 o18_33) d 1 _ hI (by omega) hms) (cwV 2 htb (gzV wmt5_32 wmt5_34 wmp3_14 wmt1_8 wmt5_35) rfl rfl rfl (by decide +kernel) ⟨Nat.le_of_ble_eq_true rfl, Nat.le_of_ble_eq_true rfl⟩) (zpA_V (ci := 7) (q0 := 0) hK hP (hDa _) rfl rfl) rfl rfl hl.1 rfl (lv_room (Nat.le_of_ble_eq_true rfl)) dX7_exposed_48 ⟨Nat.le_of_ble_eq_true rfl, Nat.le_of_ble_eq_true rfl⟩) (hDa _) hS hA (fun r_54 u_55 H locs w_56 hP _ hS => ?_)
                obtain ⟨oa_57, ob_58⟩ := u_55
                have hP : va_P (dC, dI) vwCl (zM k q (sJ (sJ (sA (sA (sA (sI (sI (sI (sI (sA (sA (sA (sA (sA (sA (sA z 4 o4_20) 5 o5_21) 6 o6_22) 7 o7_23) 8 o8_24) 9 o9_25) 10 o10_26) 12 o12_27) 13 o13_28) 14 o14_29) 15 o15_30) 16 o16_31) 17 o17_32) 18 o18_33) 0 oa_57) 1 ob_58)) H := hP
                rcases w_56 with ⟨e_64, h_59, h_60, h_61, h_62, h_63⟩ | ⟨e_68, h_65, h_66, h_67⟩
                · skip
                  replace e_64 : r_54 = 1 := e_64
                  subst e_64
                  replace h_59 : 1 ≤ ob_58.toInt ∧ ob_58.toInt ≤ 731520 := h_59
                  replace h_60 : -731520 ≤ oa_57.toInt ∧ oa_57.toInt ≤ 731520 := h_60
                  replace h_61 : (o7_23 d.toNatClampNeg).toInt + (o8_24 d.toNatClampNeg).toInt + (o9_25 d.toNatClampNeg).toInt + (o10_26 d.toNatClampNeg).toInt ≤ (o6_22 d.toNatClampNeg).toInt → 0 ≤ oa_57.toInt ∧ oa_57.toInt ≤ 11520 ∧ ob_58.toInt ≤ 11520 := h_61
                  replace h_62 : 0 < (if (1 : Int32).toInt = 1 then yI (o7_23 d.toNatClampNeg) (o8_24 d.toNatClampNeg) (o9_25 d.toNatClampNeg) (o10_26 d.toNatClampNeg) ((z.1 11)) 1 else 24 * (o6_22 d.toNatClampNeg).toInt - yI (o7_23 d.toNatClampNeg) (o8_24 d.toNatClampNeg) (o9_25 d.toNatClampNeg) (o10_26 d.toNatClampNeg) ((z.1 11)) 1) → 0 < (if (1 : Int32).toInt = 1 then yI (o7_23 d.toNatClampNeg) (o8_24 d.toNatClampNeg) (o9_25 d.toNatClampNeg) (o10_26 d.toNatClampNeg) ((z.1 11)) 0 else 24 * (o6_22 d.toNatClampNeg).toInt - yI (o7_23 d.toNatClampNeg) (o8_24 d.toNatClampNeg) (o9_25 d.toNatClampNeg) (o10_26 d.toNatClampNeg) ((z.1 11)) 0) → 1 ≤ oa_57.toInt := h_62
                  rw [show (1 : Int32).toInt = 1 by decide] at h_62
                  replace h_63 : Hd ((o7_23 d.toNatClampNeg).toInt + (o8_24 d.toNatClampNeg).toInt + (o9_25 d.toNatClampNeg).toInt + (o10_26 d.toNatClampNeg).toInt ≤ (o6_22 d.toNatClampNeg).toInt → (oa_57.toInt = frT (if (1 : Int32).toInt = 1 then yI (o7_23 d.toNatClampNeg) (o8_24 d.toNatClampNeg) (o9_25 d.toNatClampNeg) (o10_26 d.toNatClampNeg) ((z.1 11)) 1 else 24 * (o6_22 d.toNatClampNeg).toInt - yI (o7_23 d.toNatClampNeg) (o8_24 d.toNatClampNeg) (o9_25 d.toNatClampNeg) (o10_26 d.toNatClampNeg) ((z.1 11)) 1) (if (1 : Int32).toInt = 1 then yI (o7_23 d.toNatClampNeg) (o8_24 d.toNatClampNeg) (o9_25 d.toNatClampNeg) (o10_26 d.toNatClampNeg) ((z.1 11)) 0 else 24 * (o6_22 d.toNatClampNeg).toInt - yI (o7_23 d.toNatClampNeg) (o8_24 d.toNatClampNeg) (o9_25 d.toNatClampNeg) (o10_26 d.toNatClampNeg) ((z.1 11)) 0) 0 ∧ ob_58.toInt = frT (if (1 : Int32).toInt = 1 then yI (o7_23 d.toNatClampNeg) (o8_24 d.toNatClampNeg) (o9_25 d.toNatClampNeg) (o10_26 d.toNatClampNeg) ((z.1 11)) 1 else 24 * (o6_22 d.toNatClampNeg).toInt - yI (o7_23 d.toNatClampNeg) (o8_24 d.toNatClampNeg) (o9_25 d.toNatClampNeg) (o10_26 d.toNatClampNeg) ((z.1 11)) 1) (if (1 : Int32).toInt = 1 then yI (o7_23 d.toNatClampNeg) (o8_24 d.toNatClampNeg) (o9_25 d.toNatClampNeg) (o10_26 d.toNatClampNeg) ((z.1 11)) 0 else 24 * (o6_22 d.toNatClampNeg).toInt - yI (o7_23 d.toNatClampNeg) (o8_24 d.toNatClampNeg) (o9_25 d.toNatClampNeg) (o10_26 d.toNatClampNeg) ((z.1 11)) 0) 1) ∧ ¬ (if (1 : Int32).toInt = 1 then yI (o7_23 d.toNatClampNeg) (o8_24 d.toNatClampNeg) (o9_25 d.toNatClampNeg) (o10_26 d.toNatClampNeg) ((z.1 11)) 0 else 24 * (o6_22 d.toNatClampNeg).toInt - yI (o7_23 d.toNatClampNeg) (o8_24 d.toNatClampNeg) (o9_25 d.toNatClampNeg) (o10_26 d.toNatClampNeg) ((z.1 11)) 0) = 0) := h_63
                  rw [show (1 : Int32).toInt = 1 by decide] at h_63
                  have hx1b := h_59
                  have hx1a := h_60
                  have hx1p := h_62 (by simp only [show (1 : Int32).toInt = 1 by decide, show (0 : Int32).toInt = 0 by decide, reduceIte, Int.reduceEq]; omega) (by simp only [show (1 : Int32).toInt = 1 by decide, show (0 : Int32).toInt = 0 by decide, reduceIte, Int.reduceEq]; omega)
                  have hv1 := ((un_hd h_63) (hff (by omega)).2).1
                  refine lv_istore_n (lv' := [(3, .int 1), (0, .ref (q 0)), (1, .int d), (2, .int w)]) hx hb dX7_exposed_51 rfl hl (by decide) rfl (fun ls hl => ?_)
                  refine z_join2 (dC := dC) (dI := dI) (A := A) (H0 := s.heap) (nL := 12) (α := Int64) (Inv := fun x => (1 ≤ x.toInt ∧ x.toInt ≤ 731520) ∧ (x.toInt = mxI oa_57.toInt ob_58.toInt)) (lv2 := fun x => [(0, .ref (q 0)), (1, .int d), (2, .int w), (3, .int 1), (4, .long x)]) (st2 := fun _ => []) (w2 := fun x => (zM k q (sJ (sJ (sA (sA (sA (sI (sI (sI (sI (sA (sA (sA (sA (sA (sA (sA z 4 o4_20) 5 o5_21) 6 o6_22) 7 o7_23) 8 o8_24) 9 o9_25) 10 o10_26) 12 o12_27) 13 o13_28) 14 o14_29) 15 o15_30) 16 o16_31) 17 o17_32) 18 o18_33) 0 oa_57) 1 ob_58))) 77 (fun x H locs ls hinv hP hS hl => ?_) (fun hj77 => ?_)
                  · skip
                    obtain ⟨t1, rfl⟩ : ∃ y, y = x := ⟨_, rfl⟩
                    obtain ⟨ht1, hwt1⟩ := hinv
                    replace ht1 : 1 ≤ t1.toInt ∧ t1.toInt ≤ 731520 := ht1
                    replace hwt1 : t1.toInt = mxI oa_57.toInt ob_58.toInt := hwt1
                    have hP : va_P (dC, dI) vwCl (zM k q (sJ (sJ (sA (sA (sA (sI (sI (sI (sI (sA (sA (sA (sA (sA (sA (sA z 4 o4_20) 5 o5_21) 6 o6_22) 7 o7_23) 8 o8_24) 9 o9_25) 10 o10_26) 12 o12_27) 13 o13_28) 14 o14_29) 15 o15_30) 16 o16_31) 17 o17_32) 18 o18_33) 0 oa_57) 1 ob_58)) H := hP
                    have hl : lv_has ls 12 [(0, .ref (q 0)), (1, .int d), (2, .int w), (3, .int 1), (4, .long t1)] := hl
                    refine z_join2 (dC := dC) (dI := dI) (A := A) (H0 := s.heap) (nL := 12) (α := Int64) (Inv := fun x => (1 ≤ x.toInt ∧ x.toInt ≤ 731520) ∧ (x.toInt = mnI oa_57.toInt ob_58.toInt)) (lv2 := fun x => [(0, .ref (q 0)), (1, .int d), (2, .int w), (3, .int 1), (4, .long t1), (6, .long x)]) (st2 := fun _ => []) (w2 := fun x => (zM k q (sJ (sJ (sA (sA (sA (sI (sI (sI (sI (sA (sA (sA (sA (sA (sA (sA z 4 o4_20) 5 o5_21) 6 o6_22) 7 o7_23) 8 o8_24) 9 o9_25) 10 o10_26) 12 o12_27) 13 o13_28) 14 o14_29) 15 o15_30) 16 o16_31) 17 o17_32) 18 o18_33) 0 oa_57) 1 ob_58))) 102 (fun x H locs ls hinv hP hS hl => ?_) (fun hj102 => ?_)
                    · skip
                      obtain ⟨b1, rfl⟩ : ∃ y, y = x := ⟨_, rfl⟩
                      obtain ⟨hb1, hwb1⟩ := hinv
                      replace hb1 : 1 ≤ b1.toInt ∧ b1.toInt ≤ 731520 := hb1
                      replace hwb1 : b1.toInt = mnI oa_57.toInt ob_58.toInt := hwb1
                      have hP : va_P (dC, dI) vwCl (zM k q (sJ (sJ (sA (sA (sA (sI (sI (sI (sI (sA (sA (sA (sA (sA (sA (sA z 4 o4_20) 5 o5_21) 6 o6_22) 7 o7_23) 8 o8_24) 9 o9_25) 10 o10_26) 12 o12_27) 13 o13_28) 14 o14_29) 15 o15_30) 16 o16_31) 17 o17_32) 18 o18_33) 0 oa_57) 1 ob_58)) H := hP
                      have hl : lv_has ls 12 [(0, .ref (q 0)), (1, .int d), (2, .int w), (3, .int 1), (4, .long t1), (6, .long b1)] := hl
                      refine lv_aload_n hx hb dX7_exposed_102 rfl (lv_at hl 0 rfl) ?_
                      refine lv_iload_n hx hb dX7_exposed_103 rfl (lv_at hl 1 rfl) ?_
                      refine lv_iconst (v := 0) hx hb dX7_exposed_104 (by decide) ?_
                      refine zcA_i (w := (zM k q (sJ (sJ (sA (sA (sA (sI (sI (sI (sI (sA (sA (sA (sA (sA (sA (sA z 4 o4_20) 5 o5_21) 6 o6_22) 7 o7_23) 8 o8_24) 9 o9_25) 10 o10_26) 12 o12_27) 13 o13_28) 14 o14_29) 15 o15_30) 16 o16_31) 17 o17_32) 18 o18_33) 0 oa_57) 1 ob_58))) (va_runV (As := [.int d, .int 0]) (rest := []) ⟨hx, hb, hml, hown, htb⟩ (c_X7_gives l dC dI k q (sJ (sJ (sA (sA (sA (sI (sI (sI (sI (sA (sA (sA (sA (sA (sA (sA z 4 o4_20) 5 o5_21) 6 o6_22) 7 o7_23) 8 o8_24) 9 o9_25) 10 o10_26) 12 o12_27) 13 o13_28) 14 o14_29) 15 o15_30) 16 o16_31) 17 o17_32) 18 o18_33) 0 oa_57) 1 ob_58) d 0 _ hI (by omega) hms) (cwV 2 htb (gzV wmt5_32 wmt5_34 wmp3_14 wmt1_8 wmt5_35) rfl rfl rfl (by decide +kernel) ⟨Nat.le_of_ble_eq_true rfl, Nat.le_of_ble_eq_true rfl⟩) (zpA_V (ci := 7) (q0 := 0) hK hP (hDa _) rfl rfl) rfl rfl hl.1 rfl (lv_room (Nat.le_of_ble_eq_true rfl)) dX7_exposed_105 ⟨Nat.le_of_ble_eq_true rfl, Nat.le_of_ble_eq_true rfl⟩) (hDa _) hS hA (fun r_69 u_70 H locs w_71 hP _ hS => ?_)
                      obtain ⟨oa_72, ob_73⟩ := u_70
                      have hP : va_P (dC, dI) vwCl (zM k q (sJ (sJ (sA (sA (sA (sI (sI (sI (sI (sA (sA (sA (sA (sA (sA (sA z 4 o4_20) 5 o5_21) 6 o6_22) 7 o7_23) 8 o8_24) 9 o9_25) 10 o10_26) 12 o12_27) 13 o13_28) 14 o14_29) 15 o15_30) 16 o16_31) 17 o17_32) 18 o18_33) 0 oa_72) 1 ob_73)) H := hP
                      rcases w_71 with ⟨e_79, h_74, h_75, h_76, h_77, h_78⟩ | ⟨e_83, h_80, h_81, h_82⟩
                      · skip
                        replace e_79 : r_69 = 1 := e_79
                        subst e_79
                        replace h_74 : 1 ≤ ob_73.toInt ∧ ob_73.toInt ≤ 731520 := h_74
                        replace h_75 : -731520 ≤ oa_72.toInt ∧ oa_72.toInt ≤ 731520 := h_75
                        replace h_76 : (o7_23 d.toNatClampNeg).toInt + (o8_24 d.toNatClampNeg).toInt + (o9_25 d.toNatClampNeg).toInt + (o10_26 d.toNatClampNeg).toInt ≤ (o6_22 d.toNatClampNeg).toInt → 0 ≤ oa_72.toInt ∧ oa_72.toInt ≤ 11520 ∧ ob_73.toInt ≤ 11520 := h_76
                        replace h_77 : 0 < (if (0 : Int32).toInt = 1 then yI (o7_23 d.toNatClampNeg) (o8_24 d.toNatClampNeg) (o9_25 d.toNatClampNeg) (o10_26 d.toNatClampNeg) ((z.1 11)) 1 else 24 * (o6_22 d.toNatClampNeg).toInt - yI (o7_23 d.toNatClampNeg) (o8_24 d.toNatClampNeg) (o9_25 d.toNatClampNeg) (o10_26 d.toNatClampNeg) ((z.1 11)) 1) → 0 < (if (0 : Int32).toInt = 1 then yI (o7_23 d.toNatClampNeg) (o8_24 d.toNatClampNeg) (o9_25 d.toNatClampNeg) (o10_26 d.toNatClampNeg) ((z.1 11)) 0 else 24 * (o6_22 d.toNatClampNeg).toInt - yI (o7_23 d.toNatClampNeg) (o8_24 d.toNatClampNeg) (o9_25 d.toNatClampNeg) (o10_26 d.toNatClampNeg) ((z.1 11)) 0) → 1 ≤ oa_72.toInt := h_77
                        rw [show (0 : Int32).toInt = 0 by decide] at h_77
                        replace h_78 : Hd ((o7_23 d.toNatClampNeg).toInt + (o8_24 d.toNatClampNeg).toInt + (o9_25 d.toNatClampNeg).toInt + (o10_26 d.toNatClampNeg).toInt ≤ (o6_22 d.toNatClampNeg).toInt → (oa_72.toInt = frT (if (0 : Int32).toInt = 1 then yI (o7_23 d.toNatClampNeg) (o8_24 d.toNatClampNeg) (o9_25 d.toNatClampNeg) (o10_26 d.toNatClampNeg) ((z.1 11)) 1 else 24 * (o6_22 d.toNatClampNeg).toInt - yI (o7_23 d.toNatClampNeg) (o8_24 d.toNatClampNeg) (o9_25 d.toNatClampNeg) (o10_26 d.toNatClampNeg) ((z.1 11)) 1) (if (0 : Int32).toInt = 1 then yI (o7_23 d.toNatClampNeg) (o8_24 d.toNatClampNeg) (o9_25 d.toNatClampNeg) (o10_26 d.toNatClampNeg) ((z.1 11)) 0 else 24 * (o6_22 d.toNatClampNeg).toInt - yI (o7_23 d.toNatClampNeg) (o8_24 d.toNatClampNeg) (o9_25 d.toNatClampNeg) (o10_26 d.toNatClampNeg) ((z.1 11)) 0) 0 ∧ ob_73.toInt = frT (if (0 : Int32).toInt = 1 then yI (o7_23 d.toNatClampNeg) (o8_24 d.toNatClampNeg) (o9_25 d.toNatClampNeg) (o10_26 d.toNatClampNeg) ((z.1 11)) 1 else 24 * (o6_22 d.toNatClampNeg).toInt - yI (o7_23 d.toNatClampNeg) (o8_24 d.toNatClampNeg) (o9_25 d.toNatClampNeg) (o10_26 d.toNatClampNeg) ((z.1 11)) 1) (if (0 : Int32).toInt = 1 then yI (o7_23 d.toNatClampNeg) (o8_24 d.toNatClampNeg) (o9_25 d.toNatClampNeg) (o10_26 d.toNatClampNeg) ((z.1 11)) 0 else 24 * (o6_22 d.toNatClampNeg).toInt - yI (o7_23 d.toNatClampNeg) (o8_24 d.toNatClampNeg) (o9_25 d.toNatClampNeg) (o10_26 d.toNatClampNeg) ((z.1 11)) 0) 1) ∧ ¬ (if (0 : Int32).toInt = 1 then yI (o7_23 d.toNatClampNeg) (o8_24 d.toNatClampNeg) (o9_25 d.toNatClampNeg) (o10_26 d.toNatClampNeg) ((z.1 11)) 0 else 24 * (o6_22 d.toNatClampNeg).toInt - yI (o7_23 d.toNatClampNeg) (o8_24 d.toNatClampNeg) (o9_25 d.toNatClampNeg) (o10_26 d.toNatClampNeg) ((z.1 11)) 0) = 0) := h_78
                        rw [show (0 : Int32).toInt = 0 by decide] at h_78
                        have hx0b := h_74
                        have hx0a := h_75
                        have hx0p := h_77 (by simp only [show (1 : Int32).toInt = 1 by decide, show (0 : Int32).toInt = 0 by decide, reduceIte, Int.reduceEq]; omega) (by simp only [show (1 : Int32).toInt = 1 by decide, show (0 : Int32).toInt = 0 by decide, reduceIte, Int.reduceEq]; omega)
                        have hv0 := ((un_hd h_78) (hff (by omega)).2).1
                        refine lv_istore_n (lv' := [(3, .int 1), (0, .ref (q 0)), (1, .int d), (2, .int w), (4, .long t1), (6, .long b1)]) hx hb dX7_exposed_108 rfl hl (by decide) rfl (fun ls hl => ?_)
                        refine z_join2 (dC := dC) (dI := dI) (A := A) (H0 := s.heap) (nL := 12) (α := Int64) (Inv := fun x => (1 ≤ x.toInt ∧ x.toInt ≤ 731520) ∧ (x.toInt = mxI oa_72.toInt ob_73.toInt)) (lv2 := fun x => [(0, .ref (q 0)), (1, .int d), (2, .int w), (3, .int 1), (4, .long t1), (6, .long b1), (8, .long x)]) (st2 := fun _ => []) (w2 := fun x => (zM k q (sJ (sJ (sA (sA (sA (sI (sI (sI (sI (sA (sA (sA (sA (sA (sA (sA z 4 o4_20) 5 o5_21) 6 o6_22) 7 o7_23) 8 o8_24) 9 o9_25) 10 o10_26) 12 o12_27) 13 o13_28) 14 o14_29) 15 o15_30) 16 o16_31) 17 o17_32) 18 o18_33) 0 oa_72) 1 ob_73))) 134 (fun x H locs ls hinv hP hS hl => ?_) (fun hj134 => ?_)
                        · skip
                          obtain ⟨t2, rfl⟩ : ∃ y, y = x := ⟨_, rfl⟩
                          obtain ⟨ht2, hwt2⟩ := hinv
                          replace ht2 : 1 ≤ t2.toInt ∧ t2.toInt ≤ 731520 := ht2
                          replace hwt2 : t2.toInt = mxI oa_72.toInt ob_73.toInt := hwt2
                          have hP : va_P (dC, dI) vwCl (zM k q (sJ (sJ (sA (sA (sA (sI (sI (sI (sI (sA (sA (sA (sA (sA (sA (sA z 4 o4_20) 5 o5_21) 6 o6_22) 7 o7_23) 8 o8_24) 9 o9_25) 10 o10_26) 12 o12_27) 13 o13_28) 14 o14_29) 15 o15_30) 16 o16_31) 17 o17_32) 18 o18_33) 0 oa_72) 1 ob_73)) H := hP
                          have hl : lv_has ls 12 [(0, .ref (q 0)), (1, .int d), (2, .int w), (3, .int 1), (4, .long t1), (6, .long b1), (8, .long t2)] := hl
                          refine z_join2 (dC := dC) (dI := dI) (A := A) (H0 := s.heap) (nL := 12) (α := Int64) (Inv := fun x => (1 ≤ x.toInt ∧ x.toInt ≤ 731520) ∧ (x.toInt = mnI oa_72.toInt ob_73.toInt)) (lv2 := fun x => [(0, .ref (q 0)), (1, .int d), (2, .int w), (3, .int 1), (4, .long t1), (6, .long b1), (8, .long t2), (10, .long x)]) (st2 := fun _ => []) (w2 := fun x => (zM k q (sJ (sJ (sA (sA (sA (sI (sI (sI (sI (sA (sA (sA (sA (sA (sA (sA z 4 o4_20) 5 o5_21) 6 o6_22) 7 o7_23) 8 o8_24) 9 o9_25) 10 o10_26) 12 o12_27) 13 o13_28) 14 o14_29) 15 o15_30) 16 o16_31) 17 o17_32) 18 o18_33) 0 oa_72) 1 ob_73))) 159 (fun x H locs ls hinv hP hS hl => ?_) (fun hj159 => ?_)
                          · skip
                            obtain ⟨b2, rfl⟩ : ∃ y, y = x := ⟨_, rfl⟩
                            obtain ⟨hb2, hwb2⟩ := hinv
                            replace hb2 : 1 ≤ b2.toInt ∧ b2.toInt ≤ 731520 := hb2
                            replace hwb2 : b2.toInt = mnI oa_72.toInt ob_73.toInt := hwb2
                            have hP : va_P (dC, dI) vwCl (zM k q (sJ (sJ (sA (sA (sA (sI (sI (sI (sI (sA (sA (sA (sA (sA (sA (sA z 4 o4_20) 5 o5_21) 6 o6_22) 7 o7_23) 8 o8_24) 9 o9_25) 10 o10_26) 12 o12_27) 13 o13_28) 14 o14_29) 15 o15_30) 16 o16_31) 17 o17_32) 18 o18_33) 0 oa_72) 1 ob_73)) H := hP
                            have hl : lv_has ls 12 [(0, .ref (q 0)), (1, .int d), (2, .int w), (3, .int 1), (4, .long t1), (6, .long b1), (8, .long t2), (10, .long b2)] := hl
                            refine lv_lload hx hb dX7_exposed_159 (lv_at hl 6 rfl) ?_
                            refine lv_lload hx hb dX7_exposed_161 (lv_at hl 5 rfl) ?_
                            refine lv_lmul hx hb dX7_exposed_163 ?_
                            refine lv_topl (fun x_84 ex_84 => ?_)
                            have qx_84 := z_mulb (a := t2.toInt) (b := b1.toInt) (A := 731520) (B := 731520) (by omega) (by omega)
                            have hx_84 := zl_mul ex_84 rfl rfl (by omega)
                            have hp2 := hx_84
                            refine lv_lload hx hb dX7_exposed_164 (lv_at hl 4 rfl) ?_
                            refine lv_lload hx hb dX7_exposed_166 (lv_at hl 7 rfl) ?_
                            refine lv_lmul hx hb dX7_exposed_168 ?_
                            refine lv_topl (fun x_85 ex_85 => ?_)
                            have qx_85 := z_mulb (a := t1.toInt) (b := b2.toInt) (A := 731520) (B := 731520) (by omega) (by omega)
                            have hx_85 := zl_mul ex_85 rfl rfl (by omega)
                            have hp1 := hx_85
                            refine z_lcmp hx hb dX7_exposed_169 ?_
                            refine lv_if_le (tgt := 184) hx hb dX7_exposed_170 (by decide) (fun c_86 => ?_) (fun c_86 => ?_)
                            · skip
                              have hc_86 := zl_le rfl rfl c_86
                              refine lv_aload_n hx hb dX7_exposed_184 rfl (lv_at hl 0 rfl) ?_
                              refine lv_lload hx hb dX7_exposed_185 (lv_at hl 4 rfl) ?_
                              refine lv_lload hx hb dX7_exposed_187 (lv_at hl 5 rfl) ?_
                              refine zcA_v (w := (zM k q (sJ (sJ (sA (sA (sA (sI (sI (sI (sI (sA (sA (sA (sA (sA (sA (sA z 4 o4_20) 5 o5_21) 6 o6_22) 7 o7_23) 8 o8_24) 9 o9_25) 10 o10_26) 12 o12_27) 13 o13_28) 14 o14_29) 15 o15_30) 16 o16_31) 17 o17_32) 18 o18_33) 0 oa_72) 1 ob_73))) (va_runV (As := [.long t1, .long b1]) (rest := []) ⟨hx, hb, hml, hown, htb⟩ (c_X7_is l dC dI k q (sJ (sJ (sA (sA (sA (sI (sI (sI (sI (sA (sA (sA (sA (sA (sA (sA z 4 o4_20) 5 o5_21) 6 o6_22) 7 o7_23) 8 o8_24) 9 o9_25) 10 o10_26) 12 o12_27) 13 o13_28) 14 o14_29) 15 o15_30) 16 o16_31) 17 o17_32) 18 o18_33) 0 oa_72) 1 ob_73) t1 b1 _ (show (-4611686018427387904 < t1.toInt ∧ t1.toInt < 4611686018427387904) by omega) (show (-4611686018427387904 < b1.toInt ∧ b1.toInt < 4611686018427387904) by omega) (show b1.toInt ≠ 0 by omega)) (cwV 2 htb (gzV wmt4_129 wmt4_131 wmp3_0 wmt1_8 wmt4_132) rfl rfl rfl (by decide +kernel) ⟨Nat.le_of_ble_eq_true rfl, Nat.le_of_ble_eq_true rfl⟩) (zpA_V (ci := 7) (q0 := 0) hK hP (hDa _) rfl rfl) rfl rfl hl.1 rfl (lv_room (Nat.le_of_ble_eq_true rfl)) dX7_exposed_189 ⟨Nat.le_of_ble_eq_true rfl, Nat.le_of_ble_eq_true rfl⟩) (hDa _) hS hA (fun u_88 H locs w_89 hP _ hS => ?_)
                              obtain ⟨oa_90, ob_91⟩ := u_88
                              have hP : va_P (dC, dI) vwCl (zM k q (sJ (sJ (sA (sA (sA (sI (sI (sI (sI (sA (sA (sA (sA (sA (sA (sA z 4 o4_20) 5 o5_21) 6 o6_22) 7 o7_23) 8 o8_24) 9 o9_25) 10 o10_26) 12 o12_27) 13 o13_28) 14 o14_29) 15 o15_30) 16 o16_31) 17 o17_32) 18 o18_33) 0 oa_90) 1 ob_91)) H := hP
                              obtain ⟨h_92, h_93, h_94, h_95, h_96, h_97⟩ := w_89
                              replace h_92 : 1 ≤ ob_91.toInt ∧ ob_91.toInt ≤ (b1.toInt.natAbs : Int) := h_92
                              replace h_93 : (oa_90.toInt.natAbs : Int) ≤ (t1.toInt.natAbs : Int) := h_93
                              replace h_94 : (0 ≤ t1.toInt → 0 < b1.toInt → 0 ≤ oa_90.toInt) ∧ (0 < t1.toInt → 0 < b1.toInt → 1 ≤ oa_90.toInt) := h_94
                              replace h_95 : ob_91.toInt = ((b1.toInt.natAbs / Nat.gcd t1.toInt.natAbs b1.toInt.natAbs : Nat) : Int) := h_95
                              replace h_96 : oa_90.toInt = t1.toInt.tdiv (if b1.toInt < 0 then -(Nat.gcd t1.toInt.natAbs b1.toInt.natAbs : Int) else (Nat.gcd t1.toInt.natAbs b1.toInt.natAbs : Int)) := h_96
                              replace h_97 : Hd (0 ≤ t1.toInt → 0 < b1.toInt → oa_90.toInt = frT t1.toInt b1.toInt 0 ∧ ob_91.toInt = frT t1.toInt b1.toInt 1) := h_97
                              have his0 := h_92
                              have his1 := h_93
                              have his2 := h_94
                              have his3 := h_95
                              have his4 := h_96
                              have his5 := h_97
                              have hfr := (un_hd h_97) (by omega) (by omega)
                              refine lv_aload_n hx hb dX7_exposed_192 rfl (lv_at hl 0 rfl) ?_
                              refine lv_iload_n hx hb dX7_exposed_193 rfl (lv_at hl 2 rfl) ?_
                              refine zcA_l (w := (zM k q (sJ (sJ (sA (sA (sA (sI (sI (sI (sI (sA (sA (sA (sA (sA (sA (sA z 4 o4_20) 5 o5_21) 6 o6_22) 7 o7_23) 8 o8_24) 9 o9_25) 10 o10_26) 12 o12_27) 13 o13_28) 14 o14_29) 15 o15_30) 16 o16_31) 17 o17_32) 18 o18_33) 0 oa_90) 1 ob_91))) (va_runV (As := [.int w]) (rest := []) ⟨hx, hb, hml, hown, htb⟩ (c_X7_part l dC dI k q (sJ (sJ (sA (sA (sA (sI (sI (sI (sI (sA (sA (sA (sA (sA (sA (sA z 4 o4_20) 5 o5_21) 6 o6_22) 7 o7_23) 8 o8_24) 9 o9_25) 10 o10_26) 12 o12_27) 13 o13_28) 14 o14_29) 15 o15_30) 16 o16_31) 17 o17_32) 18 o18_33) 0 oa_90) 1 ob_91) w _ ) (cwV 1 htb (gzV wmt4_133 wmt4_135 wmp3_1 wmt1_8 wmt4_136) rfl rfl rfl (by decide +kernel) ⟨Nat.le_of_ble_eq_true rfl, Nat.le_of_ble_eq_true rfl⟩) (zpA_V (ci := 7) (q0 := 0) hK hP (hDa _) rfl rfl) rfl rfl hl.1 rfl (lv_room (Nat.le_of_ble_eq_true rfl)) dX7_exposed_194 ⟨Nat.le_of_ble_eq_true rfl, Nat.le_of_ble_eq_true rfl⟩) (hDa _) hS hA (fun r_99 u_100 H locs w_101 hP _ hS => ?_)
                              have h_102 := w_101
                              replace h_102 : (w.toInt = 0 → r_99 = oa_90) ∧ (¬ w.toInt = 0 → r_99 = ob_91) := h_102
                              have htd := h_102
                              exact W.lret (v := r_99) hx hb hr (fun t ht hW => ⟨⟨r_99, (o4_20, o5_21, o6_22, o7_23, o8_24, o9_25, o10_26, o12_27, o13_28, o14_29, o15_30, o16_31, o17_32, o18_33, oa_90, ob_91), rfl, (show (MD (FR (z.2.2.1 2) (z.2.2.1 3)) o4_20 o5_21 o6_22 o7_23 o8_24 o9_25 o10_26) ∧ (r_99.toInt = tExp (trM z) d w) from ⟨hI.2.2.2.2.2, (fr_told hfr.1 hfr.2 htd).trans (((ex_ref hex hv1.1 hv1.2 hv0.1 hv0.2 hwt1 hwb1 hwt2 hwb2).2 (by rw [← hp1, ← hp2]; omega)).trans (tExp_ok (by omega) rfl ((exp_M ho24 (z_cl4 (show 0 ≤ d.toInt ∧ d.toInt < 4 by omega)) htF (by omega) hfF (hlk (by omega))).1 hex)))⟩), ⟨by rw [ht]; exact hP, hDa _⟩⟩, hS.F ht⟩) hS.2.2 dX7_exposed_197
                            · skip
                              have hc_86 := zl_nle rfl rfl c_86
                              refine lv_aload_n hx hb dX7_exposed_173 rfl (lv_at hl 0 rfl) ?_
                              refine lv_lload hx hb dX7_exposed_174 (lv_at hl 6 rfl) ?_
                              refine lv_lload hx hb dX7_exposed_176 (lv_at hl 7 rfl) ?_
                              refine zcA_v (w := (zM k q (sJ (sJ (sA (sA (sA (sI (sI (sI (sI (sA (sA (sA (sA (sA (sA (sA z 4 o4_20) 5 o5_21) 6 o6_22) 7 o7_23) 8 o8_24) 9 o9_25) 10 o10_26) 12 o12_27) 13 o13_28) 14 o14_29) 15 o15_30) 16 o16_31) 17 o17_32) 18 o18_33) 0 oa_72) 1 ob_73))) (va_runV (As := [.long t2, .long b2]) (rest := []) ⟨hx, hb, hml, hown, htb⟩ (c_X7_is l dC dI k q (sJ (sJ (sA (sA (sA (sI (sI (sI (sI (sA (sA (sA (sA (sA (sA (sA z 4 o4_20) 5 o5_21) 6 o6_22) 7 o7_23) 8 o8_24) 9 o9_25) 10 o10_26) 12 o12_27) 13 o13_28) 14 o14_29) 15 o15_30) 16 o16_31) 17 o17_32) 18 o18_33) 0 oa_72) 1 ob_73) t2 b2 _ (show (-4611686018427387904 < t2.toInt ∧ t2.toInt < 4611686018427387904) by omega) (show (-4611686018427387904 < b2.toInt ∧ b2.toInt < 4611686018427387904) by omega) (show b2.toInt ≠ 0 by omega)) (cwV 2 htb (gzV wmt4_129 wmt4_131 wmp3_0 wmt1_8 wmt4_132) rfl rfl rfl (by decide +kernel) ⟨Nat.le_of_ble_eq_true rfl, Nat.le_of_ble_eq_true rfl⟩) (zpA_V (ci := 7) (q0 := 0) hK hP (hDa _) rfl rfl) rfl rfl hl.1 rfl (lv_room (Nat.le_of_ble_eq_true rfl)) dX7_exposed_178 ⟨Nat.le_of_ble_eq_true rfl, Nat.le_of_ble_eq_true rfl⟩) (hDa _) hS hA (fun u_105 H locs w_106 hP _ hS => ?_)
                              obtain ⟨oa_107, ob_108⟩ := u_105
                              have hP : va_P (dC, dI) vwCl (zM k q (sJ (sJ (sA (sA (sA (sI (sI (sI (sI (sA (sA (sA (sA (sA (sA (sA z 4 o4_20) 5 o5_21) 6 o6_22) 7 o7_23) 8 o8_24) 9 o9_25) 10 o10_26) 12 o12_27) 13 o13_28) 14 o14_29) 15 o15_30) 16 o16_31) 17 o17_32) 18 o18_33) 0 oa_107) 1 ob_108)) H := hP
                              obtain ⟨h_109, h_110, h_111, h_112, h_113, h_114⟩ := w_106
                              replace h_109 : 1 ≤ ob_108.toInt ∧ ob_108.toInt ≤ (b2.toInt.natAbs : Int) := h_109
                              replace h_110 : (oa_107.toInt.natAbs : Int) ≤ (t2.toInt.natAbs : Int) := h_110
                              replace h_111 : (0 ≤ t2.toInt → 0 < b2.toInt → 0 ≤ oa_107.toInt) ∧ (0 < t2.toInt → 0 < b2.toInt → 1 ≤ oa_107.toInt) := h_111
                              replace h_112 : ob_108.toInt = ((b2.toInt.natAbs / Nat.gcd t2.toInt.natAbs b2.toInt.natAbs : Nat) : Int) := h_112
                              replace h_113 : oa_107.toInt = t2.toInt.tdiv (if b2.toInt < 0 then -(Nat.gcd t2.toInt.natAbs b2.toInt.natAbs : Int) else (Nat.gcd t2.toInt.natAbs b2.toInt.natAbs : Int)) := h_113
                              replace h_114 : Hd (0 ≤ t2.toInt → 0 < b2.toInt → oa_107.toInt = frT t2.toInt b2.toInt 0 ∧ ob_108.toInt = frT t2.toInt b2.toInt 1) := h_114
                              have his0 := h_109
                              have his1 := h_110
                              have his2 := h_111
                              have his3 := h_112
                              have his4 := h_113
                              have his5 := h_114
                              have hfr := (un_hd h_114) (by omega) (by omega)
                              refine lv_goto (tgt := 192) hx hb dX7_exposed_181 (by decide) ?_
                              refine lv_aload_n hx hb dX7_exposed_192 rfl (lv_at hl 0 rfl) ?_
                              refine lv_iload_n hx hb dX7_exposed_193 rfl (lv_at hl 2 rfl) ?_
                              refine zcA_l (w := (zM k q (sJ (sJ (sA (sA (sA (sI (sI (sI (sI (sA (sA (sA (sA (sA (sA (sA z 4 o4_20) 5 o5_21) 6 o6_22) 7 o7_23) 8 o8_24) 9 o9_25) 10 o10_26) 12 o12_27) 13 o13_28) 14 o14_29) 15 o15_30) 16 o16_31) 17 o17_32) 18 o18_33) 0 oa_107) 1 ob_108))) (va_runV (As := [.int w]) (rest := []) ⟨hx, hb, hml, hown, htb⟩ (c_X7_part l dC dI k q (sJ (sJ (sA (sA (sA (sI (sI (sI (sI (sA (sA (sA (sA (sA (sA (sA z 4 o4_20) 5 o5_21) 6 o6_22) 7 o7_23) 8 o8_24) 9 o9_25) 10 o10_26) 12 o12_27) 13 o13_28) 14 o14_29) 15 o15_30) 16 o16_31) 17 o17_32) 18 o18_33) 0 oa_107) 1 ob_108) w _ ) (cwV 1 htb (gzV wmt4_133 wmt4_135 wmp3_1 wmt1_8 wmt4_136) rfl rfl rfl (by decide +kernel) ⟨Nat.le_of_ble_eq_true rfl, Nat.le_of_ble_eq_true rfl⟩) (zpA_V (ci := 7) (q0 := 0) hK hP (hDa _) rfl rfl) rfl rfl hl.1 rfl (lv_room (Nat.le_of_ble_eq_true rfl)) dX7_exposed_194 ⟨Nat.le_of_ble_eq_true rfl, Nat.le_of_ble_eq_true rfl⟩) (hDa _) hS hA (fun r_116 u_117 H locs w_118 hP _ hS => ?_)
                              have h_119 := w_118
                              replace h_119 : (w.toInt = 0 → r_116 = oa_107) ∧ (¬ w.toInt = 0 → r_116 = ob_108) := h_119
                              have htd := h_119
                              exact W.lret (v := r_116) hx hb hr (fun t ht hW => ⟨⟨r_116, (o4_20, o5_21, o6_22, o7_23, o8_24, o9_25, o10_26, o12_27, o13_28, o14_29, o15_30, o16_31, o17_32, o18_33, oa_107, ob_108), rfl, (show (MD (FR (z.2.2.1 2) (z.2.2.1 3)) o4_20 o5_21 o6_22 o7_23 o8_24 o9_25 o10_26) ∧ (r_116.toInt = tExp (trM z) d w) from ⟨hI.2.2.2.2.2, (fr_told hfr.1 hfr.2 htd).trans (((ex_ref hex hv1.1 hv1.2 hv0.1 hv0.2 hwt1 hwb1 hwt2 hwb2).1 (by rw [← hp1, ← hp2]; omega)).trans (tExp_ok (by omega) rfl ((exp_M ho24 (z_cl4 (show 0 ≤ d.toInt ∧ d.toInt < 4 by omega)) htF (by omega) hfF (hlk (by omega))).1 hex)))⟩), ⟨by rw [ht]; exact hP, hDa _⟩⟩, hS.F ht⟩) hS.2.2 dX7_exposed_197
                          · skip
                            refine lv_aload_n hx hb dX7_exposed_134 rfl (lv_at hl 0 rfl) ?_
                            refine va_get (D := (dC, dI)) (ci := 7) (v := .long oa_72) (C := RX7) (T := TX7) (N := 42) hx hb htb inw7 hown hK.1 hP 0 rfl rfl 0 (by decide) (htb _ wmt3_167) (fun _ h9 => h9) rfl dX7_exposed_135 ?_
                            refine lv_aload_n hx hb dX7_exposed_138 rfl (lv_at hl 0 rfl) ?_
                            refine va_get (D := (dC, dI)) (ci := 7) (v := .long ob_73) (C := RX7) (T := TX7) (N := 42) hx hb htb inw7 hown hK.1 hP 0 rfl rfl 1 (by decide) (htb _ wmt3_168) (fun _ h9 => h9) rfl dX7_exposed_139 ?_
                            refine z_lcmp hx hb dX7_exposed_142 ?_
                            refine lv_if_le (tgt := 153) hx hb dX7_exposed_143 (by decide) (fun c_121 => ?_) (fun c_121 => ?_)
                            · skip
                              have hc_121 := zl_le rfl rfl c_121
                              refine lv_aload_n hx hb dX7_exposed_153 rfl (lv_at hl 0 rfl) ?_
                              refine va_get (D := (dC, dI)) (ci := 7) (v := .long oa_72) (C := RX7) (T := TX7) (N := 42) hx hb htb inw7 hown hK.1 hP 0 rfl rfl 0 (by decide) (htb _ wmt3_167) (fun _ h9 => h9) rfl dX7_exposed_154 ?_
                              refine lv_lstore (lv' := [(10, .long oa_72), (0, .ref (q 0)), (1, .int d), (2, .int w), (3, .int 1), (4, .long t1), (6, .long b1), (8, .long t2)]) hx hb dX7_exposed_157 hl (by decide) rfl (fun ls hl => ?_)
                              exact hj159 oa_72 H locs ls ⟨(show 1 ≤ oa_72.toInt ∧ oa_72.toInt ≤ 731520 by omega), (show oa_72.toInt = mnI oa_72.toInt ob_73.toInt from (by unfold mnI; split <;> omega))⟩ hP hS (lv_sub hl [1, 2, 3, 4, 5, 6, 7, 0] rfl)
                            · skip
                              have hc_121 := zl_nle rfl rfl c_121
                              refine lv_aload_n hx hb dX7_exposed_146 rfl (lv_at hl 0 rfl) ?_
                              refine va_get (D := (dC, dI)) (ci := 7) (v := .long ob_73) (C := RX7) (T := TX7) (N := 42) hx hb htb inw7 hown hK.1 hP 0 rfl rfl 1 (by decide) (htb _ wmt3_168) (fun _ h9 => h9) rfl dX7_exposed_147 ?_
                              refine lv_goto (tgt := 157) hx hb dX7_exposed_150 (by decide) ?_
                              refine lv_lstore (lv' := [(10, .long ob_73), (0, .ref (q 0)), (1, .int d), (2, .int w), (3, .int 1), (4, .long t1), (6, .long b1), (8, .long t2)]) hx hb dX7_exposed_157 hl (by decide) rfl (fun ls hl => ?_)
                              exact hj159 ob_73 H locs ls ⟨(show 1 ≤ ob_73.toInt ∧ ob_73.toInt ≤ 731520 by omega), (show ob_73.toInt = mnI oa_72.toInt ob_73.toInt from (by unfold mnI; split <;> omega))⟩ hP hS (lv_sub hl [1, 2, 3, 4, 5, 6, 7, 0] rfl)
                        · skip
                          refine lv_aload_n hx hb dX7_exposed_109 rfl (lv_at hl 1 rfl) ?_
                          refine va_get (D := (dC, dI)) (ci := 7) (v := .long oa_72) (C := RX7) (T := TX7) (N := 42) hx hb htb inw7 hown hK.1 hP 0 rfl rfl 0 (by decide) (htb _ wmt3_167) (fun _ h9 => h9) rfl dX7_exposed_110 ?_
                          refine lv_aload_n hx hb dX7_exposed_113 rfl (lv_at hl 1 rfl) ?_
                          refine va_get (D := (dC, dI)) (ci := 7) (v := .long ob_73) (C := RX7) (T := TX7) (N := 42) hx hb htb inw7 hown hK.1 hP 0 rfl rfl 1 (by decide) (htb _ wmt3_168) (fun _ h9 => h9) rfl dX7_exposed_114 ?_
                          refine z_lcmp hx hb dX7_exposed_117 ?_
                          refine lv_if_le (tgt := 128) hx hb dX7_exposed_118 (by decide) (fun c_122 => ?_) (fun c_122 => ?_)
                          · skip
                            have hc_122 := zl_le rfl rfl c_122
                            refine lv_aload_n hx hb dX7_exposed_128 rfl (lv_at hl 1 rfl) ?_
                            refine va_get (D := (dC, dI)) (ci := 7) (v := .long ob_73) (C := RX7) (T := TX7) (N := 42) hx hb htb inw7 hown hK.1 hP 0 rfl rfl 1 (by decide) (htb _ wmt3_168) (fun _ h9 => h9) rfl dX7_exposed_129 ?_
                            refine lv_lstore (lv' := [(8, .long ob_73), (3, .int 1), (0, .ref (q 0)), (1, .int d), (2, .int w), (4, .long t1), (6, .long b1)]) hx hb dX7_exposed_132 hl (by decide) rfl (fun ls hl => ?_)
                            exact hj134 ob_73 H locs ls ⟨(show 1 ≤ ob_73.toInt ∧ ob_73.toInt ≤ 731520 by omega), (show ob_73.toInt = mxI oa_72.toInt ob_73.toInt from (by unfold mxI; split <;> omega))⟩ hP hS (lv_sub hl [2, 3, 4, 1, 5, 6, 0] rfl)
                          · skip
                            have hc_122 := zl_nle rfl rfl c_122
                            refine lv_aload_n hx hb dX7_exposed_121 rfl (lv_at hl 1 rfl) ?_
                            refine va_get (D := (dC, dI)) (ci := 7) (v := .long oa_72) (C := RX7) (T := TX7) (N := 42) hx hb htb inw7 hown hK.1 hP 0 rfl rfl 0 (by decide) (htb _ wmt3_167) (fun _ h9 => h9) rfl dX7_exposed_122 ?_
                            refine lv_goto (tgt := 132) hx hb dX7_exposed_125 (by decide) ?_
                            refine lv_lstore (lv' := [(8, .long oa_72), (3, .int 1), (0, .ref (q 0)), (1, .int d), (2, .int w), (4, .long t1), (6, .long b1)]) hx hb dX7_exposed_132 hl (by decide) rfl (fun ls hl => ?_)
                            exact hj134 oa_72 H locs ls ⟨(show 1 ≤ oa_72.toInt ∧ oa_72.toInt ≤ 731520 by omega), (show oa_72.toInt = mxI oa_72.toInt ob_73.toInt from (by unfold mxI; split <;> omega))⟩ hP hS (lv_sub hl [2, 3, 4, 1, 5, 6, 0] rfl)
                      · skip
                        replace e_83 : r_69 = 0 := e_83
                        subst e_83
                        replace h_80 : oa_72 = oa_57 := h_80
                        replace h_81 : ob_73 = ob_58 := h_81
                        replace h_82 : (if (0 : Int32).toInt = 1 then yI (o7_23 d.toNatClampNeg) (o8_24 d.toNatClampNeg) (o9_25 d.toNatClampNeg) (o10_26 d.toNatClampNeg) ((z.1 11)) 0 else 24 * (o6_22 d.toNatClampNeg).toInt - yI (o7_23 d.toNatClampNeg) (o8_24 d.toNatClampNeg) (o9_25 d.toNatClampNeg) (o10_26 d.toNatClampNeg) ((z.1 11)) 0) = 0 := h_82
                        rw [show (0 : Int32).toInt = 0 by decide] at h_82
                        exfalso; have q := h_82; revert q; simp only [show (1 : Int32).toInt = 1 by decide, show (0 : Int32).toInt = 0 by decide, if_pos, if_neg, reduceIte, Int.reduceEq]; omega
                    · skip
                      refine lv_aload_n hx hb dX7_exposed_77 rfl (lv_at hl 0 rfl) ?_
                      refine va_get (D := (dC, dI)) (ci := 7) (v := .long oa_57) (C := RX7) (T := TX7) (N := 42) hx hb htb inw7 hown hK.1 hP 0 rfl rfl 0 (by decide) (htb _ wmt3_167) (fun _ h9 => h9) rfl dX7_exposed_78 ?_
                      refine lv_aload_n hx hb dX7_exposed_81 rfl (lv_at hl 0 rfl) ?_
                      refine va_get (D := (dC, dI)) (ci := 7) (v := .long ob_58) (C := RX7) (T := TX7) (N := 42) hx hb htb inw7 hown hK.1 hP 0 rfl rfl 1 (by decide) (htb _ wmt3_168) (fun _ h9 => h9) rfl dX7_exposed_82 ?_
                      refine z_lcmp hx hb dX7_exposed_85 ?_
                      refine lv_if_le (tgt := 96) hx hb dX7_exposed_86 (by decide) (fun c_123 => ?_) (fun c_123 => ?_)
                      · skip
                        have hc_123 := zl_le rfl rfl c_123
                        refine lv_aload_n hx hb dX7_exposed_96 rfl (lv_at hl 0 rfl) ?_
                        refine va_get (D := (dC, dI)) (ci := 7) (v := .long oa_57) (C := RX7) (T := TX7) (N := 42) hx hb htb inw7 hown hK.1 hP 0 rfl rfl 0 (by decide) (htb _ wmt3_167) (fun _ h9 => h9) rfl dX7_exposed_97 ?_
                        refine lv_lstore (lv' := [(6, .long oa_57), (0, .ref (q 0)), (1, .int d), (2, .int w), (3, .int 1), (4, .long t1)]) hx hb dX7_exposed_100 hl (by decide) rfl (fun ls hl => ?_)
                        exact hj102 oa_57 H locs ls ⟨(show 1 ≤ oa_57.toInt ∧ oa_57.toInt ≤ 731520 by omega), (show oa_57.toInt = mnI oa_57.toInt ob_58.toInt from (by unfold mnI; split <;> omega))⟩ hP hS (lv_sub hl [1, 2, 3, 4, 5, 0] rfl)
                      · skip
                        have hc_123 := zl_nle rfl rfl c_123
                        refine lv_aload_n hx hb dX7_exposed_89 rfl (lv_at hl 0 rfl) ?_
                        refine va_get (D := (dC, dI)) (ci := 7) (v := .long ob_58) (C := RX7) (T := TX7) (N := 42) hx hb htb inw7 hown hK.1 hP 0 rfl rfl 1 (by decide) (htb _ wmt3_168) (fun _ h9 => h9) rfl dX7_exposed_90 ?_
                        refine lv_goto (tgt := 100) hx hb dX7_exposed_93 (by decide) ?_
                        refine lv_lstore (lv' := [(6, .long ob_58), (0, .ref (q 0)), (1, .int d), (2, .int w), (3, .int 1), (4, .long t1)]) hx hb dX7_exposed_100 hl (by decide) rfl (fun ls hl => ?_)
                        exact hj102 ob_58 H locs ls ⟨(show 1 ≤ ob_58.toInt ∧ ob_58.toInt ≤ 731520 by omega), (show ob_58.toInt = mnI oa_57.toInt ob_58.toInt from (by unfold mnI; split <;> omega))⟩ hP hS (lv_sub hl [1, 2, 3, 4, 5, 0] rfl)
                  · skip
                    refine lv_aload_n hx hb dX7_exposed_52 rfl (lv_at hl 1 rfl) ?_
                    refine va_get (D := (dC, dI)) (ci := 7) (v := .long oa_57) (C := RX7) (T := TX7) (N := 42) hx hb htb inw7 hown hK.1 hP 0 rfl rfl 0 (by decide) (htb _ wmt3_167) (fun _ h9 => h9) rfl dX7_exposed_53 ?_
                    refine lv_aload_n hx hb dX7_exposed_56 rfl (lv_at hl 1 rfl) ?_
                    refine va_get (D := (dC, dI)) (ci := 7) (v := .long ob_58) (C := RX7) (T := TX7) (N := 42) hx hb htb inw7 hown hK.1 hP 0 rfl rfl 1 (by decide) (htb _ wmt3_168) (fun _ h9 => h9) rfl dX7_exposed_57 ?_
                    refine z_lcmp hx hb dX7_exposed_60 ?_
                    refine lv_if_le (tgt := 71) hx hb dX7_exposed_61 (by decide) (fun c_124 => ?_) (fun c_124 => ?_)
                    · skip
                      have hc_124 := zl_le rfl rfl c_124
                      refine lv_aload_n hx hb dX7_exposed_71 rfl (lv_at hl 1 rfl) ?_
                      refine va_get (D := (dC, dI)) (ci := 7) (v := .long ob_58) (C := RX7) (T := TX7) (N := 42) hx hb htb inw7 hown hK.1 hP 0 rfl rfl 1 (by decide) (htb _ wmt3_168) (fun _ h9 => h9) rfl dX7_exposed_72 ?_
                      refine lv_lstore (lv' := [(4, .long ob_58), (3, .int 1), (0, .ref (q 0)), (1, .int d), (2, .int w)]) hx hb dX7_exposed_75 hl (by decide) rfl (fun ls hl => ?_)
                      exact hj77 ob_58 H locs ls ⟨(show 1 ≤ ob_58.toInt ∧ ob_58.toInt ≤ 731520 by omega), (show ob_58.toInt = mxI oa_57.toInt ob_58.toInt from (by unfold mxI; split <;> omega))⟩ hP hS (lv_sub hl [2, 3, 4, 1, 0] rfl)
                    · skip
                      have hc_124 := zl_nle rfl rfl c_124
                      refine lv_aload_n hx hb dX7_exposed_64 rfl (lv_at hl 1 rfl) ?_
                      refine va_get (D := (dC, dI)) (ci := 7) (v := .long oa_57) (C := RX7) (T := TX7) (N := 42) hx hb htb inw7 hown hK.1 hP 0 rfl rfl 0 (by decide) (htb _ wmt3_167) (fun _ h9 => h9) rfl dX7_exposed_65 ?_
                      refine lv_goto (tgt := 75) hx hb dX7_exposed_68 (by decide) ?_
                      refine lv_lstore (lv' := [(4, .long oa_57), (3, .int 1), (0, .ref (q 0)), (1, .int d), (2, .int w)]) hx hb dX7_exposed_75 hl (by decide) rfl (fun ls hl => ?_)
                      exact hj77 oa_57 H locs ls ⟨(show 1 ≤ oa_57.toInt ∧ oa_57.toInt ≤ 731520 by omega), (show oa_57.toInt = mxI oa_57.toInt ob_58.toInt from (by unfold mxI; split <;> omega))⟩ hP hS (lv_sub hl [2, 3, 4, 1, 0] rfl)
                · skip
                  replace e_68 : r_54 = 0 := e_68
                  subst e_68
                  replace h_65 : oa_57 = (z.2.1 0) := h_65
                  replace h_66 : ob_58 = (z.2.1 1) := h_66
                  replace h_67 : (if (1 : Int32).toInt = 1 then yI (o7_23 d.toNatClampNeg) (o8_24 d.toNatClampNeg) (o9_25 d.toNatClampNeg) (o10_26 d.toNatClampNeg) ((z.1 11)) 0 else 24 * (o6_22 d.toNatClampNeg).toInt - yI (o7_23 d.toNatClampNeg) (o8_24 d.toNatClampNeg) (o9_25 d.toNatClampNeg) (o10_26 d.toNatClampNeg) ((z.1 11)) 0) = 0 := h_67
                  rw [show (1 : Int32).toInt = 1 by decide] at h_67
                  exfalso; have q := h_67; revert q; simp only [show (1 : Int32).toInt = 1 by decide, show (0 : Int32).toInt = 0 by decide, if_pos, if_neg, reduceIte, Int.reduceEq]; omega
              · skip
                exact absurd c_53 (by decide)
            · skip
              replace e_52 : r_46 = 0 := e_52
              subst e_52
              replace h_51 : ¬ ((0 < yI (o7_23 d.toNatClampNeg) (o8_24 d.toNatClampNeg) (o9_25 d.toNatClampNeg) (o10_26 d.toNatClampNeg) ((z.1 11)) 1 ∧ 0 < yI (o7_23 d.toNatClampNeg) (o8_24 d.toNatClampNeg) (o9_25 d.toNatClampNeg) (o10_26 d.toNatClampNeg) ((z.1 11)) 0) ∧ (yI (o7_23 d.toNatClampNeg) (o8_24 d.toNatClampNeg) (o9_25 d.toNatClampNeg) (o10_26 d.toNatClampNeg) ((z.1 11)) 1 < 24 * (o6_22 d.toNatClampNeg).toInt ∧ yI (o7_23 d.toNatClampNeg) (o8_24 d.toNatClampNeg) (o9_25 d.toNatClampNeg) (o10_26 d.toNatClampNeg) ((z.1 11)) 0 < 24 * (o6_22 d.toNatClampNeg).toInt)) := h_51
              have hnex := h_51
              refine lv_if_ne (tgt := 45) hx hb dX7_exposed_36 (by decide) (fun c_125 => ?_) (fun c_125 => ?_)
              · skip
                exact absurd c_125 (by decide)
              · skip
                refine lv_bipush (v := (-3)) hx hb dX7_exposed_39 (by decide) ?_
                refine zc0_l (w := (zM k q (sA (sA (sA (sI (sI (sI (sI (sA (sA (sA (sA (sA (sA (sA z 4 o4_20) 5 o5_21) 6 o6_22) 7 o7_23) 8 o8_24) 9 o9_25) 10 o10_26) 12 o12_27) 13 o13_28) 14 o14_29) 15 o15_30) 16 o16_31) 17 o17_32) 18 o18_33))) (va_runS (As := [.int (-3)]) (rest := []) ⟨hx, hb, hml, hown, htb⟩ (c_X7_told l dC dI k (-3) _ ) (va_cwS 1 htb (gzS wmt4_116 wmt4_117 wmt1_8 wmt4_118) rfl rfl rfl (by decide +kernel) ⟨Nat.le_of_ble_eq_true rfl, Nat.le_of_ble_eq_true rfl⟩) (zp0_S hK) rfl rfl hl.1 rfl (lv_room (Nat.le_of_ble_eq_true rfl)) dX7_exposed_41 ⟨Nat.le_of_ble_eq_true rfl, Nat.le_of_ble_eq_true rfl⟩) hP hS hA (fun r_126 u_127 H locs w_128 hP hS => ?_)
                have h_129 := w_128
                replace h_129 : r_126.toInt = tl ((-3) : Int32) := h_129
                have hal := h_129
                exact W.lret (v := r_126) hx hb hr (fun t ht hW => ⟨⟨r_126, (o4_20, o5_21, o6_22, o7_23, o8_24, o9_25, o10_26, o12_27, o13_28, o14_29, o15_30, o16_31, o17_32, o18_33, z.2.1 0, z.2.1 1), rfl, (show (MD (FR (z.2.2.1 2) (z.2.2.1 3)) o4_20 o5_21 o6_22 o7_23 o8_24 o9_25 o10_26) ∧ (r_126.toInt = tExp (trM z) d w) from ⟨hI.2.2.2.2.2, hal.trans (tExp_ok (by omega) rfl ((exp_M ho24 (z_cl4 (show 0 ≤ d.toInt ∧ d.toInt < 4 by omega)) htF (by omega) hfF (hlk (by omega))).2 hnex))⟩), ⟨by rw [ht]; exact hP, hDa _⟩⟩, hS.F ht⟩) hS.2.2 dX7_exposed_44
        · skip
          exact absurd c_16 (by decide)
      · skip
        replace e_15 : r_9 = 0 := e_15
        subst e_15
        replace h_14 : ¬ ((0 : Int32).toInt ≤ w.toInt ∧ w.toInt ≤ (1 : Int32).toInt) := h_14
        rw [show (0 : Int32).toInt = 0 by decide, show (1 : Int32).toInt = 1 by decide] at h_14
        refine lv_if_ne (tgt := 22) hx hb dX7_exposed_13 (by decide) (fun c_131 => ?_) (fun c_131 => ?_)
        · skip
          exact absurd c_131 (by decide)
        · skip
          refine lv_bipush (v := (-2)) hx hb dX7_exposed_16 (by decide) ?_
          refine zc0_l (w := (zM k q z)) (va_runS (As := [.int (-2)]) (rest := []) ⟨hx, hb, hml, hown, htb⟩ (c_X7_told l dC dI k (-2) _ ) (va_cwS 1 htb (gzS wmt4_116 wmt4_117 wmt1_8 wmt4_118) rfl rfl rfl (by decide +kernel) ⟨Nat.le_of_ble_eq_true rfl, Nat.le_of_ble_eq_true rfl⟩) (zp0_S hK) rfl rfl hl.1 rfl (lv_room (Nat.le_of_ble_eq_true rfl)) dX7_exposed_18 ⟨Nat.le_of_ble_eq_true rfl, Nat.le_of_ble_eq_true rfl⟩) hP hS hA (fun r_132 u_133 H locs w_134 hP hS => ?_)
          have h_135 := w_134
          replace h_135 : r_132.toInt = tl ((-2) : Int32) := h_135
          have hal := h_135
          exact W.lret (v := r_132) hx hb hr (fun t ht hW => ⟨⟨r_132, (z.2.2.1 4, z.2.2.1 5, z.2.2.1 6, z.2.2.1 7, z.2.2.1 8, z.2.2.1 9, z.2.2.1 10, z.1 12, z.1 13, z.1 14, z.1 15, z.2.2.1 16, z.2.2.1 17, z.2.2.1 18, z.2.1 0, z.2.1 1), rfl, (show (MD (FR (z.2.2.1 2) (z.2.2.1 3)) (z.2.2.1 4) (z.2.2.1 5) (z.2.2.1 6) (z.2.2.1 7) (z.2.2.1 8) (z.2.2.1 9) (z.2.2.1 10)) ∧ (r_132.toInt = tExp (trM z) d w) from ⟨hI.2.2.2.2.2, hal.trans (tExp_bad (by omega))⟩), ⟨by rw [ht]; exact hP, hDa _⟩⟩, hS.F ht⟩) hS.2.2 dX7_exposed_21
  · skip
    replace e_7 : r_1 = 0 := e_7
    subst e_7
    replace h_6 : ¬ (0 ≤ d.toInt ∧ d.toInt < 4) := h_6
    refine lv_if_eq (tgt := 16) hx hb dX7_exposed_4 (by decide) (fun c_137 => ?_) (fun c_137 => ?_)
    · skip
      refine lv_bipush (v := (-2)) hx hb dX7_exposed_16 (by decide) ?_
      refine zc0_l (w := (zM k q z)) (va_runS (As := [.int (-2)]) (rest := []) ⟨hx, hb, hml, hown, htb⟩ (c_X7_told l dC dI k (-2) _ ) (va_cwS 1 htb (gzS wmt4_116 wmt4_117 wmt1_8 wmt4_118) rfl rfl rfl (by decide +kernel) ⟨Nat.le_of_ble_eq_true rfl, Nat.le_of_ble_eq_true rfl⟩) (zp0_S hK) rfl rfl hl.1 rfl (lv_room (Nat.le_of_ble_eq_true rfl)) dX7_exposed_18 ⟨Nat.le_of_ble_eq_true rfl, Nat.le_of_ble_eq_true rfl⟩) hP hS hA (fun r_138 u_139 H locs w_140 hP hS => ?_)
      have h_141 := w_140
      replace h_141 : r_138.toInt = tl ((-2) : Int32) := h_141
      have hal := h_141
      exact W.lret (v := r_138) hx hb hr (fun t ht hW => ⟨⟨r_138, (z.2.2.1 4, z.2.2.1 5, z.2.2.1 6, z.2.2.1 7, z.2.2.1 8, z.2.2.1 9, z.2.2.1 10, z.1 12, z.1 13, z.1 14, z.1 15, z.2.2.1 16, z.2.2.1 17, z.2.2.1 18, z.2.1 0, z.2.1 1), rfl, (show (MD (FR (z.2.2.1 2) (z.2.2.1 3)) (z.2.2.1 4) (z.2.2.1 5) (z.2.2.1 6) (z.2.2.1 7) (z.2.2.1 8) (z.2.2.1 9) (z.2.2.1 10)) ∧ (r_138.toInt = tExp (trM z) d w) from ⟨hI.2.2.2.2.2, hal.trans (tExp_bad (by omega))⟩), ⟨by rw [ht]; exact hP, hDa _⟩⟩, hS.F ht⟩) hS.2.2 dX7_exposed_21
    · skip
      exact absurd (by decide) c_137
set_option maxHeartbeats 4000000 in
set_option maxRecDepth 100000 in
theorem c_X7_mayOf (l : Launch) (dC : Nat → ClassId) (dI : Nat → Nat → Nat) (k : Nat → ClassId) (q : Nat → Nat) (z : ZS) (pe : Int32) (d : Int32) (sz : Nat) (hI : MInv z) (hd : 0 ≤ d.toInt ∧ d.toInt < 4) (hms : MS (FR (z.2.2.1 2) (z.2.2.1 3) d.toNatClampNeg) (z.2.2.1 4 d.toNatClampNeg) (z.2.2.1 5 d.toNatClampNeg) (z.2.2.1 6 d.toNatClampNeg) (z.2.2.1 7 d.toNatClampNeg) (z.2.2.1 8 d.toNatClampNeg) (z.2.2.1 9 d.toNatClampNeg) (z.2.2.1 10 d.toNatClampNeg)) : Met l yX7_mayOf (wz yX7_mayOf cX7_mayOf 10 (some .int)) ({ frames := 6, cells := 0, slots := 0, locals := 144 }) (va_Pc [.ref (q 0), .int pe, .int d] (zPre dC dI k (zTX k) (zM k q z) sz)) (va_Qi (fun (r : Int32) (u : (Nat → Int32) × (Nat → Int32) × (Nat → Int32) × (Nat → Int32) × (Nat → Int32) × (Nat → Int32) × (Nat → Int32) × Int32 × Int32 × Int32 × Int32 × (Nat → Int32) × (Nat → Int32) × (Nat → Int32) × Int64 × Int64 × Int32 × (Nat → Int32)) => (MD (FR (z.2.2.1 2) (z.2.2.1 3)) u.1 u.2.1 u.2.2.1 u.2.2.2.1 u.2.2.2.2.1 u.2.2.2.2.2.1 u.2.2.2.2.2.2.1) ∧ (r = 0 ∨ r = 1)) (fun u t => zPost dC dI (va_A (zM k q z) sz) (zM k q (sA (sI (sJ (sJ (sA (sA (sA (sI (sI (sI (sI (sA (sA (sA (sA (sA (sA (sA z 4 u.1) 5 u.2.1) 6 u.2.2.1) 7 u.2.2.2.1) 8 u.2.2.2.2.1) 9 u.2.2.2.2.2.1) 10 u.2.2.2.2.2.2.1) 12 u.2.2.2.2.2.2.2.1) 13 u.2.2.2.2.2.2.2.2.1) 14 u.2.2.2.2.2.2.2.2.2.1) 15 u.2.2.2.2.2.2.2.2.2.2.1) 16 u.2.2.2.2.2.2.2.2.2.2.2.1) 17 u.2.2.2.2.2.2.2.2.2.2.2.2.1) 18 u.2.2.2.2.2.2.2.2.2.2.2.2.2.1) 0 u.2.2.2.2.2.2.2.2.2.2.2.2.2.2.1) 1 u.2.2.2.2.2.2.2.2.2.2.2.2.2.2.2.1) 33 u.2.2.2.2.2.2.2.2.2.2.2.2.2.2.2.2.1) 34 u.2.2.2.2.2.2.2.2.2.2.2.2.2.2.2.2.2)) t) (va_A (zM k q z) sz)) 0 0 (va_A (zM k q z) sz) := by
  refine Met.ofW (cc := cX7_mayOf) (maxL := 10) (ret := (some .int)) (by decide) rfl ?_
  intro p e s m args below meth c s₁ B hml hv
  obtain ⟨rfl, hsz, hP, hK, hD0⟩ := hv
  have hx := B.exec
  have hb := B.bytes
  have hr := B.returns
  have hts := atoms_spec (ws := wz yX7_mayOf cX7_mayOf 10 (some .int)) B.pre
  have htb : ∀ w ∈ zw, w.before _ s = true := fun w h => hts w (List.mem_cons_of_mem _ h)
  have hown : s.vm.findClass RX7 = some m.cls := findClass_of_methodNamed B.named
  have hlocks := B.notSynchronized
  clear hts
  subst hsz
  have hD := hD0.self (sz := s.heap.size)
  generalize hAe : va_A (zM k q z) s.heap.size = A at hD ⊢
  have hA : ∀ q : Nat, s.heap.size ≤ q → A q := fun q h => by rw [← hAe]; exact Or.inr h
  have hDa : ∀ z9 : ZS, va_D A (zM k q z9) := fun z9 => va_D_adr (w := zM k q z) rfl hD
  have hl := lv_entry ([.ref (q 0), .int pe, .int d]) (n := 10) (Nat.le_of_ble_eq_true rfl)
  rw [lg_entry_eq]
  generalize (lg_sl ([.ref (q 0), .int pe, .int d]) ++ List.replicate (10 - (lg_sl ([.ref (q 0), .int pe, .int d])).length) Slot.unset).toArray = ls at hl ⊢
  have hl : lv_has ls 10 [(0, .ref (q 0)), (1, .int pe), (2, .int d)] := hl
  refine z_start2 (A := A) (w := (zM k q z)) hP (fun H locs hP hS => ?_)
  clear hD0 hAe
  have ha0 := hI.1.1.1
  have ha1 := hI.1.1.2.1
  refine lv_iconst (v := 0) hx hb dX7_mayOf_0 (by decide) ?_
  refine lv_istore_n (lv' := [(3, .int 0), (0, .ref (q 0)), (1, .int pe), (2, .int d)]) hx hb dX7_mayOf_1 rfl hl (by decide) rfl (fun ls hl => ?_)
  refine lv_iconst (v := 0) hx hb dX7_mayOf_2 (by decide) ?_
  refine lv_istore (lv' := [(4, .int 0), (3, .int 0), (0, .ref (q 0)), (1, .int pe), (2, .int d)]) hx hb dX7_mayOf_3 hl (by decide) rfl (fun ls hl => ?_)
  obtain ⟨nn, enn⟩ : ∃ x : Int32, 0 = x := ⟨_, rfl⟩
  obtain ⟨i, ei⟩ : ∃ x : Int32, 0 = x := ⟨_, rfl⟩
  have hv5 : (0 ≤ i.toInt ∧ i.toInt ≤ 120) := by subst enn ei; exact (by decide)
  replace hl : lv_has ls 10 [(4, .int i), (3, .int nn), (0, .ref (q 0)), (1, .int pe), (2, .int d)] := by subst enn ei; exact hl
  clear enn ei
  obtain ⟨mm5, hm5⟩ : ∃ mm : Nat, mm = (120 - i.toInt).toNat := ⟨_, rfl⟩
  refine z_cut2 hP hS hl ?_
  clear hl hP
  intro H locs ls hP hS hl
  induction mm5 using Nat.strongRecOn generalizing nn i H locs ls with
  | _ mm5 ih5 =>
    have hi := hv5
    refine lv_iload hx hb dX7_mayOf_5 (lv_at hl 0 rfl) ?_
    refine lv_aload_n hx hb dX7_mayOf_7 rfl (lv_at hl 2 rfl) ?_
    refine va_get (D := (dC, dI)) (ci := 7) (v := .int (z.1 22)) (C := RX7) (T := TX7) (N := 42) hx hb htb inw7 hown hK.1 hP 0 rfl rfl 22 (by decide) (htb _ wmt3_189) (fun _ h9 => h9) rfl dX7_mayOf_8 ?_
    refine lv_topi (fun x_1 ex_1 => ?_)
    have hx_1 : x_1.toInt = (z.1 22).toInt := by rw [ex_1]
    refine lv_icmp_ge (tgt := 59) hx hb dX7_mayOf_11 (by decide) (fun c_2 => ?_) (fun c_2 => ?_)
    · skip
      have hc_2 := zb_le rfl rfl c_2
      refine lv_iload_n hx hb dX7_mayOf_59 rfl (lv_at hl 1 rfl) ?_
      refine lv_iconst (v := 1) hx hb dX7_mayOf_60 (by decide) ?_
      refine lv_icmp_gt (tgt := 90) hx hb dX7_mayOf_61 (by decide) (fun c_3 => ?_) (fun c_3 => ?_)
      · skip
        have hc_3 := zb_lt (show (1 : Int32).toInt = 1 by decide) rfl c_3
        refine lv_iconst (v := 0) hx hb dX7_mayOf_90 (by decide) ?_
        exact W.iret (v := 0) hx hb hr (fun t ht hW => ⟨⟨0, (z.2.2.1 4, z.2.2.1 5, z.2.2.1 6, z.2.2.1 7, z.2.2.1 8, z.2.2.1 9, z.2.2.1 10, z.1 12, z.1 13, z.1 14, z.1 15, z.2.2.1 16, z.2.2.1 17, z.2.2.1 18, z.2.1 0, z.2.1 1, z.1 33, z.2.2.1 34), rfl, (show (MD (FR (z.2.2.1 2) (z.2.2.1 3)) (z.2.2.1 4) (z.2.2.1 5) (z.2.2.1 6) (z.2.2.1 7) (z.2.2.1 8) (z.2.2.1 9) (z.2.2.1 10)) ∧ ((0 : Int32) = 0 ∨ (0 : Int32) = 1) from ⟨hI.2.2.2.2.2, Or.inl rfl⟩), ⟨by rw [ht]; exact hP, hDa _⟩⟩, hS.F ht⟩) hS.2.2 dX7_mayOf_91
      · skip
        have hc_3 := zb_nlt (show (1 : Int32).toInt = 1 by decide) rfl c_3
        refine lv_aload_n hx hb dX7_mayOf_64 rfl (lv_at hl 2 rfl) ?_
        refine lv_iload_n hx hb dX7_mayOf_65 rfl (lv_at hl 4 rfl) ?_
        refine zcA_l (w := (zM k q z)) (va_runV (As := [.int d]) (rest := []) ⟨hx, hb, hml, hown, htb⟩ (c_X7_more l dC dI k q z d _ hI (by omega) hms) (cwV 1 htb (gzV wmt4_213 wmt4_215 wmp3_8 wmt1_8 wmt4_216) rfl rfl rfl (by decide +kernel) ⟨Nat.le_of_ble_eq_true rfl, Nat.le_of_ble_eq_true rfl⟩) (zpA_V (ci := 7) (q0 := 0) hK hP (hDa _) rfl rfl) rfl rfl hl.1 rfl (lv_room (Nat.le_of_ble_eq_true rfl)) dX7_mayOf_66 ⟨Nat.le_of_ble_eq_true rfl, Nat.le_of_ble_eq_true rfl⟩) (hDa _) hS hA (fun r_4 u_5 H locs w_6 hP _ hS => ?_)
        obtain ⟨h_7, h_8⟩ := w_6
        replace h_7 : -720000 ≤ r_4.toInt ∧ r_4.toInt ≤ 720000 := h_7
        replace h_8 : r_4.toInt = yI ((z.2.2.1 7) d.toNatClampNeg) ((z.2.2.1 8) d.toNatClampNeg) ((z.2.2.1 9) d.toNatClampNeg) ((z.2.2.1 10) d.toNatClampNeg) ((z.1 11)) 1 - yI ((z.2.2.1 7) d.toNatClampNeg) ((z.2.2.1 8) d.toNatClampNeg) ((z.2.2.1 9) d.toNatClampNeg) ((z.2.2.1 10) d.toNatClampNeg) ((z.1 11)) 0 := h_8
        refine lv_lconst (v := 0) hx hb dX7_mayOf_69 (by decide) ?_
        refine z_lcmp hx hb dX7_mayOf_70 ?_
        refine lv_if_eq (tgt := 90) hx hb dX7_mayOf_71 (by decide) (fun c_10 => ?_) (fun c_10 => ?_)
        · skip
          have hc_10 := zl_eq rfl (show (0 : Int64).toInt = 0 by decide) c_10
          refine lv_iconst (v := 0) hx hb dX7_mayOf_90 (by decide) ?_
          exact W.iret (v := 0) hx hb hr (fun t ht hW => ⟨⟨0, (z.2.2.1 4, z.2.2.1 5, z.2.2.1 6, z.2.2.1 7, z.2.2.1 8, z.2.2.1 9, z.2.2.1 10, z.1 12, z.1 13, z.1 14, z.1 15, z.2.2.1 16, z.2.2.1 17, z.2.2.1 18, z.2.1 0, z.2.1 1, z.1 33, z.2.2.1 34), rfl, (show (MD (FR (z.2.2.1 2) (z.2.2.1 3)) (z.2.2.1 4) (z.2.2.1 5) (z.2.2.1 6) (z.2.2.1 7) (z.2.2.1 8) (z.2.2.1 9) (z.2.2.1 10)) ∧ ((0 : Int32) = 0 ∨ (0 : Int32) = 1) from ⟨hI.2.2.2.2.2, Or.inl rfl⟩), ⟨by rw [ht]; exact hP, hDa _⟩⟩, hS.F ht⟩) hS.2.2 dX7_mayOf_91
        · skip
          have hc_10 := zl_ne rfl (show (0 : Int64).toInt = 0 by decide) c_10
          refine lv_aload_n hx hb dX7_mayOf_74 rfl (lv_at hl 2 rfl) ?_
          refine lv_iload_n hx hb dX7_mayOf_75 rfl (lv_at hl 4 rfl) ?_
          refine zcA_i (w := (zM k q z)) (va_runV (As := [.int d]) (rest := []) ⟨hx, hb, hml, hown, htb⟩ (c_X7_isExposed l dC dI k q z d _ hI (by omega) hms) (cwV 1 htb (gzV wmt5_57 wmt5_59 wmp4_1 wmt1_8 wmt5_60) rfl rfl rfl (by decide +kernel) ⟨Nat.le_of_ble_eq_true rfl, Nat.le_of_ble_eq_true rfl⟩) (zpA_V (ci := 7) (q0 := 0) hK hP (hDa _) rfl rfl) rfl rfl hl.1 rfl (lv_room (Nat.le_of_ble_eq_true rfl)) dX7_mayOf_76 ⟨Nat.le_of_ble_eq_true rfl, Nat.le_of_ble_eq_true rfl⟩) (hDa _) hS hA (fun r_11 u_12 H locs w_13 hP _ hS => ?_)
          rcases w_13 with ⟨e_15, h_14⟩ | ⟨e_17, h_16⟩
          · skip
            replace e_15 : r_11 = 1 := e_15
            subst e_15
            replace h_14 : (0 < yI ((z.2.2.1 7) d.toNatClampNeg) ((z.2.2.1 8) d.toNatClampNeg) ((z.2.2.1 9) d.toNatClampNeg) ((z.2.2.1 10) d.toNatClampNeg) ((z.1 11)) 1 ∧ 0 < yI ((z.2.2.1 7) d.toNatClampNeg) ((z.2.2.1 8) d.toNatClampNeg) ((z.2.2.1 9) d.toNatClampNeg) ((z.2.2.1 10) d.toNatClampNeg) ((z.1 11)) 0) ∧ (yI ((z.2.2.1 7) d.toNatClampNeg) ((z.2.2.1 8) d.toNatClampNeg) ((z.2.2.1 9) d.toNatClampNeg) ((z.2.2.1 10) d.toNatClampNeg) ((z.1 11)) 1 < 24 * ((z.2.2.1 6) d.toNatClampNeg).toInt ∧ yI ((z.2.2.1 7) d.toNatClampNeg) ((z.2.2.1 8) d.toNatClampNeg) ((z.2.2.1 9) d.toNatClampNeg) ((z.2.2.1 10) d.toNatClampNeg) ((z.1 11)) 0 < 24 * ((z.2.2.1 6) d.toNatClampNeg).toInt) := h_14
            refine lv_if_eq (tgt := 90) hx hb dX7_mayOf_79 (by decide) (fun c_18 => ?_) (fun c_18 => ?_)
            · skip
              exact absurd c_18 (by decide)
            · skip
              refine lv_aload_n hx hb dX7_mayOf_82 rfl (lv_at hl 2 rfl) ?_
              refine lv_iload_n hx hb dX7_mayOf_83 rfl (lv_at hl 3 rfl) ?_
              refine zcA_i (w := (zM k q z)) (va_runV (As := [.int pe]) (rest := []) ⟨hx, hb, hml, hown, htb⟩ (c_X7_givenOf l dC dI k q z pe _ hI) (cwV 1 htb (gzV wmt5_44 wmt5_46 wmp4_0 wmt1_8 wmt5_47) rfl rfl rfl (by decide +kernel) ⟨Nat.le_of_ble_eq_true rfl, Nat.le_of_ble_eq_true rfl⟩) (zpA_V (ci := 7) (q0 := 0) hK hP (hDa _) rfl rfl) rfl rfl hl.1 rfl (lv_room (Nat.le_of_ble_eq_true rfl)) dX7_mayOf_84 ⟨Nat.le_of_ble_eq_true rfl, Nat.le_of_ble_eq_true rfl⟩) (hDa _) hS hA (fun r_19 u_20 H locs w_21 hP _ hS => ?_)
              obtain ⟨o4_22, o5_23, o6_24, o7_25, o8_26, o9_27, o10_28, o12_29, o13_30, o14_31, o15_32, o16_33, o17_34, o18_35, oa_36, ob_37, o33_38, o34_39⟩ := u_20
              have hP : va_P (dC, dI) vwCl (zM k q (sA (sI (sJ (sJ (sA (sA (sA (sI (sI (sI (sI (sA (sA (sA (sA (sA (sA (sA z 4 o4_22) 5 o5_23) 6 o6_24) 7 o7_25) 8 o8_26) 9 o9_27) 10 o10_28) 12 o12_29) 13 o13_30) 14 o14_31) 15 o15_32) 16 o16_33) 17 o17_34) 18 o18_35) 0 oa_36) 1 ob_37) 33 o33_38) 34 o34_39)) H := hP
              obtain ⟨h_40, h_41, h_42⟩ := w_21
              replace h_40 : MD (FR ((z.2.2.1 2)) ((z.2.2.1 3))) o4_22 o5_23 o6_24 o7_25 o8_26 o9_27 o10_28 := h_40
              replace h_41 : r_19.toInt = 0 → (0 ≤ oa_36.toInt ∧ oa_36.toInt ≤ 1000000000) ∧ (1 ≤ ob_37.toInt ∧ ob_37.toInt ≤ 1000000000) := h_41
              replace h_42 : RK ((z.2.2.1 4)) ((z.2.2.1 5)) o4_22 o5_23 := h_42
              have hI : MInv (sA (sI (sJ (sJ (sA (sA (sA (sI (sI (sI (sI (sA (sA (sA (sA (sA (sA (sA z 4 o4_22) 5 o5_23) 6 o6_24) 7 o7_25) 8 o8_26) 9 o9_27) 10 o10_28) 12 o12_29) 13 o13_30) 14 o14_31) 15 o15_32) 16 o16_33) 17 o17_34) 18 o18_35) 0 oa_36) 1 ob_37) 33 o33_38) 34 o34_39) := ⟨hI.1, hI.2.1, hI.2.2.1, hI.2.2.2.1, hI.2.2.2.2.1, h_40⟩
              have hms := MD_at h_40 hd
              refine lv_if_eq (tgt := 92) hx hb dX7_mayOf_87 (by decide) (fun c_44 => ?_) (fun c_44 => ?_)
              · skip
                have hc_44 := zb_eq rfl (show (0 : Int32).toInt = 0 by decide) c_44
                refine lv_aload_n hx hb dX7_mayOf_92 rfl (lv_at hl 2 rfl) ?_
                refine va_get (D := (dC, dI)) (ci := 7) (v := .long oa_36) (C := RX7) (T := TX7) (N := 42) hx hb htb inw7 hown hK.1 hP 0 rfl rfl 0 (by decide) (htb _ wmt3_167) (fun _ h9 => h9) rfl dX7_mayOf_93 ?_
                refine lv_lstore (lv' := [(4, .long oa_36), (3, .int nn), (0, .ref (q 0)), (1, .int pe), (2, .int d)]) hx hb dX7_mayOf_96 hl (by decide) rfl (fun ls hl => ?_)
                refine lv_aload_n hx hb dX7_mayOf_98 rfl (lv_at hl 2 rfl) ?_
                refine va_get (D := (dC, dI)) (ci := 7) (v := .long ob_37) (C := RX7) (T := TX7) (N := 42) hx hb htb inw7 hown hK.1 hP 0 rfl rfl 1 (by decide) (htb _ wmt3_168) (fun _ h9 => h9) rfl dX7_mayOf_99 ?_
                refine lv_lstore (lv' := [(6, .long ob_37), (4, .long oa_36), (3, .int nn), (0, .ref (q 0)), (1, .int pe), (2, .int d)]) hx hb dX7_mayOf_102 hl (by decide) rfl (fun ls hl => ?_)
                refine lv_aload_n hx hb dX7_mayOf_104 rfl (lv_at hl 3 rfl) ?_
                refine lv_iload_n hx hb dX7_mayOf_105 rfl (lv_at hl 5 rfl) ?_
                refine lv_iconst (v := 1) hx hb dX7_mayOf_106 (by decide) ?_
                refine zcA_i (w := (zM k q (sA (sI (sJ (sJ (sA (sA (sA (sI (sI (sI (sI (sA (sA (sA (sA (sA (sA (sA z 4 o4_22) 5 o5_23) 6 o6_24) 7 o7_25) 8 o8_26) 9 o9_27) 10 o10_28) 12 o12_29) 13 o13_30) 14 o14_31) 15 o15_32) 16 o16_33) 17 o17_34) 18 o18_35) 0 oa_36) 1 ob_37) 33 o33_38) 34 o34_39))) (va_runV (As := [.int d, .int 1]) (rest := []) ⟨hx, hb, hml, hown, htb⟩ (c_X7_gives l dC dI k q (sA (sI (sJ (sJ (sA (sA (sA (sI (sI (sI (sI (sA (sA (sA (sA (sA (sA (sA z 4 o4_22) 5 o5_23) 6 o6_24) 7 o7_25) 8 o8_26) 9 o9_27) 10 o10_28) 12 o12_29) 13 o13_30) 14 o14_31) 15 o15_32) 16 o16_33) 17 o17_34) 18 o18_35) 0 oa_36) 1 ob_37) 33 o33_38) 34 o34_39) d 1 _ hI (by omega) hms) (cwV 2 htb (gzV wmt5_32 wmt5_34 wmp3_14 wmt1_8 wmt5_35) rfl rfl rfl (by decide +kernel) ⟨Nat.le_of_ble_eq_true rfl, Nat.le_of_ble_eq_true rfl⟩) (zpA_V (ci := 7) (q0 := 0) hK hP (hDa _) rfl rfl) rfl rfl hl.1 rfl (lv_room (Nat.le_of_ble_eq_true rfl)) dX7_mayOf_107 ⟨Nat.le_of_ble_eq_true rfl, Nat.le_of_ble_eq_true rfl⟩) (hDa _) hS hA (fun r_45 u_46 H locs w_47 hP _ hS => ?_)
                obtain ⟨oa_48, ob_49⟩ := u_46
                have hP : va_P (dC, dI) vwCl (zM k q (sJ (sJ (sA (sI (sA (sA (sA (sI (sI (sI (sI (sA (sA (sA (sA (sA (sA (sA z 4 o4_22) 5 o5_23) 6 o6_24) 7 o7_25) 8 o8_26) 9 o9_27) 10 o10_28) 12 o12_29) 13 o13_30) 14 o14_31) 15 o15_32) 16 o16_33) 17 o17_34) 18 o18_35) 33 o33_38) 34 o34_39) 0 oa_48) 1 ob_49)) H := hP
                rcases w_47 with ⟨e_55, h_50, h_51, h_52, h_53, h_54⟩ | ⟨e_59, h_56, h_57, h_58⟩
                · skip
                  replace e_55 : r_45 = 1 := e_55
                  subst e_55
                  replace h_50 : 1 ≤ ob_49.toInt ∧ ob_49.toInt ≤ 731520 := h_50
                  replace h_51 : -731520 ≤ oa_48.toInt ∧ oa_48.toInt ≤ 731520 := h_51
                  replace h_52 : (o7_25 d.toNatClampNeg).toInt + (o8_26 d.toNatClampNeg).toInt + (o9_27 d.toNatClampNeg).toInt + (o10_28 d.toNatClampNeg).toInt ≤ (o6_24 d.toNatClampNeg).toInt → 0 ≤ oa_48.toInt ∧ oa_48.toInt ≤ 11520 ∧ ob_49.toInt ≤ 11520 := h_52
                  replace h_53 : 0 < (if (1 : Int32).toInt = 1 then yI (o7_25 d.toNatClampNeg) (o8_26 d.toNatClampNeg) (o9_27 d.toNatClampNeg) (o10_28 d.toNatClampNeg) ((z.1 11)) 1 else 24 * (o6_24 d.toNatClampNeg).toInt - yI (o7_25 d.toNatClampNeg) (o8_26 d.toNatClampNeg) (o9_27 d.toNatClampNeg) (o10_28 d.toNatClampNeg) ((z.1 11)) 1) → 0 < (if (1 : Int32).toInt = 1 then yI (o7_25 d.toNatClampNeg) (o8_26 d.toNatClampNeg) (o9_27 d.toNatClampNeg) (o10_28 d.toNatClampNeg) ((z.1 11)) 0 else 24 * (o6_24 d.toNatClampNeg).toInt - yI (o7_25 d.toNatClampNeg) (o8_26 d.toNatClampNeg) (o9_27 d.toNatClampNeg) (o10_28 d.toNatClampNeg) ((z.1 11)) 0) → 1 ≤ oa_48.toInt := h_53
                  rw [show (1 : Int32).toInt = 1 by decide] at h_53
                  replace h_54 : Hd ((o7_25 d.toNatClampNeg).toInt + (o8_26 d.toNatClampNeg).toInt + (o9_27 d.toNatClampNeg).toInt + (o10_28 d.toNatClampNeg).toInt ≤ (o6_24 d.toNatClampNeg).toInt → (oa_48.toInt = frT (if (1 : Int32).toInt = 1 then yI (o7_25 d.toNatClampNeg) (o8_26 d.toNatClampNeg) (o9_27 d.toNatClampNeg) (o10_28 d.toNatClampNeg) ((z.1 11)) 1 else 24 * (o6_24 d.toNatClampNeg).toInt - yI (o7_25 d.toNatClampNeg) (o8_26 d.toNatClampNeg) (o9_27 d.toNatClampNeg) (o10_28 d.toNatClampNeg) ((z.1 11)) 1) (if (1 : Int32).toInt = 1 then yI (o7_25 d.toNatClampNeg) (o8_26 d.toNatClampNeg) (o9_27 d.toNatClampNeg) (o10_28 d.toNatClampNeg) ((z.1 11)) 0 else 24 * (o6_24 d.toNatClampNeg).toInt - yI (o7_25 d.toNatClampNeg) (o8_26 d.toNatClampNeg) (o9_27 d.toNatClampNeg) (o10_28 d.toNatClampNeg) ((z.1 11)) 0) 0 ∧ ob_49.toInt = frT (if (1 : Int32).toInt = 1 then yI (o7_25 d.toNatClampNeg) (o8_26 d.toNatClampNeg) (o9_27 d.toNatClampNeg) (o10_28 d.toNatClampNeg) ((z.1 11)) 1 else 24 * (o6_24 d.toNatClampNeg).toInt - yI (o7_25 d.toNatClampNeg) (o8_26 d.toNatClampNeg) (o9_27 d.toNatClampNeg) (o10_28 d.toNatClampNeg) ((z.1 11)) 1) (if (1 : Int32).toInt = 1 then yI (o7_25 d.toNatClampNeg) (o8_26 d.toNatClampNeg) (o9_27 d.toNatClampNeg) (o10_28 d.toNatClampNeg) ((z.1 11)) 0 else 24 * (o6_24 d.toNatClampNeg).toInt - yI (o7_25 d.toNatClampNeg) (o8_26 d.toNatClampNeg) (o9_27 d.toNatClampNeg) (o10_28 d.toNatClampNeg) ((z.1 11)) 0) 1) ∧ ¬ (if (1 : Int32).toInt = 1 then yI (o7_25 d.toNatClampNeg) (o8_26 d.toNatClampNeg) (o9_27 d.toNatClampNeg) (o10_28 d.toNatClampNeg) ((z.1 11)) 0 else 24 * (o6_24 d.toNatClampNeg).toInt - yI (o7_25 d.toNatClampNeg) (o8_26 d.toNatClampNeg) (o9_27 d.toNatClampNeg) (o10_28 d.toNatClampNeg) ((z.1 11)) 0) = 0) := h_54
                  rw [show (1 : Int32).toInt = 1 by decide] at h_54
                  refine lv_istore (lv' := [(8, .int 1), (6, .long ob_37), (4, .long oa_36), (3, .int nn), (0, .ref (q 0)), (1, .int pe), (2, .int d)]) hx hb dX7_mayOf_110 hl (by decide) rfl (fun ls hl => ?_)
                  refine lv_aload_n hx hb dX7_mayOf_112 rfl (lv_at hl 4 rfl) ?_
                  refine lv_lload hx hb dX7_mayOf_113 (lv_at hl 2 rfl) ?_
                  refine lv_aload_n hx hb dX7_mayOf_115 rfl (lv_at hl 4 rfl) ?_
                  refine va_get (D := (dC, dI)) (ci := 7) (v := .long oa_48) (C := RX7) (T := TX7) (N := 42) hx hb htb inw7 hown hK.1 hP 0 rfl rfl 0 (by decide) (htb _ wmt3_167) (fun _ h9 => h9) rfl dX7_mayOf_116 ?_
                  refine lv_lmul hx hb dX7_mayOf_119 ?_
                  refine lv_topl (fun x_60 ex_60 => ?_)
                  refine lv_lload hx hb dX7_mayOf_120 (lv_at hl 1 rfl) ?_
                  refine lv_aload_n hx hb dX7_mayOf_122 rfl (lv_at hl 4 rfl) ?_
                  refine va_get (D := (dC, dI)) (ci := 7) (v := .long ob_49) (C := RX7) (T := TX7) (N := 42) hx hb htb inw7 hown hK.1 hP 0 rfl rfl 1 (by decide) (htb _ wmt3_168) (fun _ h9 => h9) rfl dX7_mayOf_123 ?_
                  refine lv_lmul hx hb dX7_mayOf_126 ?_
                  refine lv_topl (fun x_61 ex_61 => ?_)
                  refine zcA_i (w := (zM k q (sJ (sJ (sA (sI (sA (sA (sA (sI (sI (sI (sI (sA (sA (sA (sA (sA (sA (sA z 4 o4_22) 5 o5_23) 6 o6_24) 7 o7_25) 8 o8_26) 9 o9_27) 10 o10_28) 12 o12_29) 13 o13_30) 14 o14_31) 15 o15_32) 16 o16_33) 17 o17_34) 18 o18_35) 33 o33_38) 34 o34_39) 0 oa_48) 1 ob_49))) (va_runV (As := [.long x_60, .long x_61]) (rest := []) ⟨hx, hb, hml, hown, htb⟩ (c_X7_isWithin l dC dI k q (sJ (sJ (sA (sI (sA (sA (sA (sI (sI (sI (sI (sA (sA (sA (sA (sA (sA (sA z 4 o4_22) 5 o5_23) 6 o6_24) 7 o7_25) 8 o8_26) 9 o9_27) 10 o10_28) 12 o12_29) 13 o13_30) 14 o14_31) 15 o15_32) 16 o16_33) 17 o17_34) 18 o18_35) 33 o33_38) 34 o34_39) 0 oa_48) 1 ob_49) x_60 x_61 _ ) (cwV 2 htb (gzV wmt5_73 wmt5_75 wmp4_3 wmt1_8 wmt5_76) rfl rfl rfl (by decide +kernel) ⟨Nat.le_of_ble_eq_true rfl, Nat.le_of_ble_eq_true rfl⟩) (zpA_V (ci := 7) (q0 := 0) hK hP (hDa _) rfl rfl) rfl rfl hl.1 rfl (lv_room (Nat.le_of_ble_eq_true rfl)) dX7_mayOf_127 ⟨Nat.le_of_ble_eq_true rfl, Nat.le_of_ble_eq_true rfl⟩) (hDa _) hS hA (fun r_62 u_63 H locs w_64 hP _ hS => ?_)
                  refine lv_istore (lv' := [(9, .int r_62), (8, .int 1), (6, .long ob_37), (4, .long oa_36), (3, .int nn), (0, .ref (q 0)), (1, .int pe), (2, .int d)]) hx hb dX7_mayOf_130 hl (by decide) rfl (fun ls hl => ?_)
                  refine lv_aload_n hx hb dX7_mayOf_132 rfl (lv_at hl 5 rfl) ?_
                  refine lv_iload_n hx hb dX7_mayOf_133 rfl (lv_at hl 7 rfl) ?_
                  refine lv_iconst (v := 0) hx hb dX7_mayOf_134 (by decide) ?_
                  refine zcA_i (w := (zM k q (sJ (sJ (sA (sI (sA (sA (sA (sI (sI (sI (sI (sA (sA (sA (sA (sA (sA (sA z 4 o4_22) 5 o5_23) 6 o6_24) 7 o7_25) 8 o8_26) 9 o9_27) 10 o10_28) 12 o12_29) 13 o13_30) 14 o14_31) 15 o15_32) 16 o16_33) 17 o17_34) 18 o18_35) 33 o33_38) 34 o34_39) 0 oa_48) 1 ob_49))) (va_runV (As := [.int d, .int 0]) (rest := []) ⟨hx, hb, hml, hown, htb⟩ (c_X7_gives l dC dI k q (sJ (sJ (sA (sI (sA (sA (sA (sI (sI (sI (sI (sA (sA (sA (sA (sA (sA (sA z 4 o4_22) 5 o5_23) 6 o6_24) 7 o7_25) 8 o8_26) 9 o9_27) 10 o10_28) 12 o12_29) 13 o13_30) 14 o14_31) 15 o15_32) 16 o16_33) 17 o17_34) 18 o18_35) 33 o33_38) 34 o34_39) 0 oa_48) 1 ob_49) d 0 _ hI (by omega) hms) (cwV 2 htb (gzV wmt5_32 wmt5_34 wmp3_14 wmt1_8 wmt5_35) rfl rfl rfl (by decide +kernel) ⟨Nat.le_of_ble_eq_true rfl, Nat.le_of_ble_eq_true rfl⟩) (zpA_V (ci := 7) (q0 := 0) hK hP (hDa _) rfl rfl) rfl rfl hl.1 rfl (lv_room (Nat.le_of_ble_eq_true rfl)) dX7_mayOf_135 ⟨Nat.le_of_ble_eq_true rfl, Nat.le_of_ble_eq_true rfl⟩) (hDa _) hS hA (fun r_65 u_66 H locs w_67 hP _ hS => ?_)
                  obtain ⟨oa_68, ob_69⟩ := u_66
                  have hP : va_P (dC, dI) vwCl (zM k q (sJ (sJ (sA (sI (sA (sA (sA (sI (sI (sI (sI (sA (sA (sA (sA (sA (sA (sA z 4 o4_22) 5 o5_23) 6 o6_24) 7 o7_25) 8 o8_26) 9 o9_27) 10 o10_28) 12 o12_29) 13 o13_30) 14 o14_31) 15 o15_32) 16 o16_33) 17 o17_34) 18 o18_35) 33 o33_38) 34 o34_39) 0 oa_68) 1 ob_69)) H := hP
                  rcases w_67 with ⟨e_75, h_70, h_71, h_72, h_73, h_74⟩ | ⟨e_79, h_76, h_77, h_78⟩
                  · skip
                    replace e_75 : r_65 = 1 := e_75
                    subst e_75
                    replace h_70 : 1 ≤ ob_69.toInt ∧ ob_69.toInt ≤ 731520 := h_70
                    replace h_71 : -731520 ≤ oa_68.toInt ∧ oa_68.toInt ≤ 731520 := h_71
                    replace h_72 : (o7_25 d.toNatClampNeg).toInt + (o8_26 d.toNatClampNeg).toInt + (o9_27 d.toNatClampNeg).toInt + (o10_28 d.toNatClampNeg).toInt ≤ (o6_24 d.toNatClampNeg).toInt → 0 ≤ oa_68.toInt ∧ oa_68.toInt ≤ 11520 ∧ ob_69.toInt ≤ 11520 := h_72
                    replace h_73 : 0 < (if (0 : Int32).toInt = 1 then yI (o7_25 d.toNatClampNeg) (o8_26 d.toNatClampNeg) (o9_27 d.toNatClampNeg) (o10_28 d.toNatClampNeg) ((z.1 11)) 1 else 24 * (o6_24 d.toNatClampNeg).toInt - yI (o7_25 d.toNatClampNeg) (o8_26 d.toNatClampNeg) (o9_27 d.toNatClampNeg) (o10_28 d.toNatClampNeg) ((z.1 11)) 1) → 0 < (if (0 : Int32).toInt = 1 then yI (o7_25 d.toNatClampNeg) (o8_26 d.toNatClampNeg) (o9_27 d.toNatClampNeg) (o10_28 d.toNatClampNeg) ((z.1 11)) 0 else 24 * (o6_24 d.toNatClampNeg).toInt - yI (o7_25 d.toNatClampNeg) (o8_26 d.toNatClampNeg) (o9_27 d.toNatClampNeg) (o10_28 d.toNatClampNeg) ((z.1 11)) 0) → 1 ≤ oa_68.toInt := h_73
                    rw [show (0 : Int32).toInt = 0 by decide] at h_73
                    replace h_74 : Hd ((o7_25 d.toNatClampNeg).toInt + (o8_26 d.toNatClampNeg).toInt + (o9_27 d.toNatClampNeg).toInt + (o10_28 d.toNatClampNeg).toInt ≤ (o6_24 d.toNatClampNeg).toInt → (oa_68.toInt = frT (if (0 : Int32).toInt = 1 then yI (o7_25 d.toNatClampNeg) (o8_26 d.toNatClampNeg) (o9_27 d.toNatClampNeg) (o10_28 d.toNatClampNeg) ((z.1 11)) 1 else 24 * (o6_24 d.toNatClampNeg).toInt - yI (o7_25 d.toNatClampNeg) (o8_26 d.toNatClampNeg) (o9_27 d.toNatClampNeg) (o10_28 d.toNatClampNeg) ((z.1 11)) 1) (if (0 : Int32).toInt = 1 then yI (o7_25 d.toNatClampNeg) (o8_26 d.toNatClampNeg) (o9_27 d.toNatClampNeg) (o10_28 d.toNatClampNeg) ((z.1 11)) 0 else 24 * (o6_24 d.toNatClampNeg).toInt - yI (o7_25 d.toNatClampNeg) (o8_26 d.toNatClampNeg) (o9_27 d.toNatClampNeg) (o10_28 d.toNatClampNeg) ((z.1 11)) 0) 0 ∧ ob_69.toInt = frT (if (0 : Int32).toInt = 1 then yI (o7_25 d.toNatClampNeg) (o8_26 d.toNatClampNeg) (o9_27 d.toNatClampNeg) (o10_28 d.toNatClampNeg) ((z.1 11)) 1 else 24 * (o6_24 d.toNatClampNeg).toInt - yI (o7_25 d.toNatClampNeg) (o8_26 d.toNatClampNeg) (o9_27 d.toNatClampNeg) (o10_28 d.toNatClampNeg) ((z.1 11)) 1) (if (0 : Int32).toInt = 1 then yI (o7_25 d.toNatClampNeg) (o8_26 d.toNatClampNeg) (o9_27 d.toNatClampNeg) (o10_28 d.toNatClampNeg) ((z.1 11)) 0 else 24 * (o6_24 d.toNatClampNeg).toInt - yI (o7_25 d.toNatClampNeg) (o8_26 d.toNatClampNeg) (o9_27 d.toNatClampNeg) (o10_28 d.toNatClampNeg) ((z.1 11)) 0) 1) ∧ ¬ (if (0 : Int32).toInt = 1 then yI (o7_25 d.toNatClampNeg) (o8_26 d.toNatClampNeg) (o9_27 d.toNatClampNeg) (o10_28 d.toNatClampNeg) ((z.1 11)) 0 else 24 * (o6_24 d.toNatClampNeg).toInt - yI (o7_25 d.toNatClampNeg) (o8_26 d.toNatClampNeg) (o9_27 d.toNatClampNeg) (o10_28 d.toNatClampNeg) ((z.1 11)) 0) = 0) := h_74
                    rw [show (0 : Int32).toInt = 0 by decide] at h_74
                    refine lv_istore (lv' := [(8, .int 1), (9, .int r_62), (6, .long ob_37), (4, .long oa_36), (3, .int nn), (0, .ref (q 0)), (1, .int pe), (2, .int d)]) hx hb dX7_mayOf_138 hl (by decide) rfl (fun ls hl => ?_)
                    refine lv_iload hx hb dX7_mayOf_140 (lv_at hl 1 rfl) ?_
                    refine lv_if_eq (tgt := 170) hx hb dX7_mayOf_142 (by decide) (fun c_80 => ?_) (fun c_80 => ?_)
                    · skip
                      have hc_80 := zb_eq rfl (show (0 : Int32).toInt = 0 by decide) c_80
                      refine lv_iconst (v := 0) hx hb dX7_mayOf_170 (by decide) ?_
                      exact W.iret (v := 0) hx hb hr (fun t ht hW => ⟨⟨0, (o4_22, o5_23, o6_24, o7_25, o8_26, o9_27, o10_28, o12_29, o13_30, o14_31, o15_32, o16_33, o17_34, o18_35, oa_68, ob_69, o33_38, o34_39), rfl, (show (MD (FR (z.2.2.1 2) (z.2.2.1 3)) o4_22 o5_23 o6_24 o7_25 o8_26 o9_27 o10_28) ∧ ((0 : Int32) = 0 ∨ (0 : Int32) = 1) from ⟨hI.2.2.2.2.2, Or.inl rfl⟩), ⟨by rw [ht]; exact hP, hDa _⟩⟩, hS.F ht⟩) hS.2.2 dX7_mayOf_171
                    · skip
                      have hc_80 := zb_ne rfl (show (0 : Int32).toInt = 0 by decide) c_80
                      refine lv_aload_n hx hb dX7_mayOf_145 rfl (lv_at hl 5 rfl) ?_
                      refine lv_lload hx hb dX7_mayOf_146 (lv_at hl 3 rfl) ?_
                      refine lv_aload_n hx hb dX7_mayOf_148 rfl (lv_at hl 5 rfl) ?_
                      refine va_get (D := (dC, dI)) (ci := 7) (v := .long oa_68) (C := RX7) (T := TX7) (N := 42) hx hb htb inw7 hown hK.1 hP 0 rfl rfl 0 (by decide) (htb _ wmt3_167) (fun _ h9 => h9) rfl dX7_mayOf_149 ?_
                      refine lv_lmul hx hb dX7_mayOf_152 ?_
                      refine lv_topl (fun x_81 ex_81 => ?_)
                      refine lv_lload hx hb dX7_mayOf_153 (lv_at hl 2 rfl) ?_
                      refine lv_aload_n hx hb dX7_mayOf_155 rfl (lv_at hl 5 rfl) ?_
                      refine va_get (D := (dC, dI)) (ci := 7) (v := .long ob_69) (C := RX7) (T := TX7) (N := 42) hx hb htb inw7 hown hK.1 hP 0 rfl rfl 1 (by decide) (htb _ wmt3_168) (fun _ h9 => h9) rfl dX7_mayOf_156 ?_
                      refine lv_lmul hx hb dX7_mayOf_159 ?_
                      refine lv_topl (fun x_82 ex_82 => ?_)
                      refine zcA_i (w := (zM k q (sJ (sJ (sA (sI (sA (sA (sA (sI (sI (sI (sI (sA (sA (sA (sA (sA (sA (sA z 4 o4_22) 5 o5_23) 6 o6_24) 7 o7_25) 8 o8_26) 9 o9_27) 10 o10_28) 12 o12_29) 13 o13_30) 14 o14_31) 15 o15_32) 16 o16_33) 17 o17_34) 18 o18_35) 33 o33_38) 34 o34_39) 0 oa_68) 1 ob_69))) (va_runV (As := [.long x_81, .long x_82]) (rest := []) ⟨hx, hb, hml, hown, htb⟩ (c_X7_isWithin l dC dI k q (sJ (sJ (sA (sI (sA (sA (sA (sI (sI (sI (sI (sA (sA (sA (sA (sA (sA (sA z 4 o4_22) 5 o5_23) 6 o6_24) 7 o7_25) 8 o8_26) 9 o9_27) 10 o10_28) 12 o12_29) 13 o13_30) 14 o14_31) 15 o15_32) 16 o16_33) 17 o17_34) 18 o18_35) 33 o33_38) 34 o34_39) 0 oa_68) 1 ob_69) x_81 x_82 _ ) (cwV 2 htb (gzV wmt5_73 wmt5_75 wmp4_3 wmt1_8 wmt5_76) rfl rfl rfl (by decide +kernel) ⟨Nat.le_of_ble_eq_true rfl, Nat.le_of_ble_eq_true rfl⟩) (zpA_V (ci := 7) (q0 := 0) hK hP (hDa _) rfl rfl) rfl rfl hl.1 rfl (lv_room (Nat.le_of_ble_eq_true rfl)) dX7_mayOf_160 ⟨Nat.le_of_ble_eq_true rfl, Nat.le_of_ble_eq_true rfl⟩) (hDa _) hS hA (fun r_83 u_84 H locs w_85 hP _ hS => ?_)
                      refine lv_if_eq (tgt := 170) hx hb dX7_mayOf_163 (by decide) (fun c_86 => ?_) (fun c_86 => ?_)
                      · skip
                        have hc_86 := zb_eq rfl (show (0 : Int32).toInt = 0 by decide) c_86
                        refine lv_iconst (v := 0) hx hb dX7_mayOf_170 (by decide) ?_
                        exact W.iret (v := 0) hx hb hr (fun t ht hW => ⟨⟨0, (o4_22, o5_23, o6_24, o7_25, o8_26, o9_27, o10_28, o12_29, o13_30, o14_31, o15_32, o16_33, o17_34, o18_35, oa_68, ob_69, o33_38, o34_39), rfl, (show (MD (FR (z.2.2.1 2) (z.2.2.1 3)) o4_22 o5_23 o6_24 o7_25 o8_26 o9_27 o10_28) ∧ ((0 : Int32) = 0 ∨ (0 : Int32) = 1) from ⟨hI.2.2.2.2.2, Or.inl rfl⟩), ⟨by rw [ht]; exact hP, hDa _⟩⟩, hS.F ht⟩) hS.2.2 dX7_mayOf_171
                      · skip
                        have hc_86 := zb_ne rfl (show (0 : Int32).toInt = 0 by decide) c_86
                        refine lv_iconst (v := 1) hx hb dX7_mayOf_166 (by decide) ?_
                        refine lv_goto (tgt := 171) hx hb dX7_mayOf_167 (by decide) ?_
                        exact W.iret (v := 1) hx hb hr (fun t ht hW => ⟨⟨1, (o4_22, o5_23, o6_24, o7_25, o8_26, o9_27, o10_28, o12_29, o13_30, o14_31, o15_32, o16_33, o17_34, o18_35, oa_68, ob_69, o33_38, o34_39), rfl, (show (MD (FR (z.2.2.1 2) (z.2.2.1 3)) o4_22 o5_23 o6_24 o7_25 o8_26 o9_27 o10_28) ∧ ((1 : Int32) = 0 ∨ (1 : Int32) = 1) from ⟨hI.2.2.2.2.2, Or.inr rfl⟩), ⟨by rw [ht]; exact hP, hDa _⟩⟩, hS.F ht⟩) hS.2.2 dX7_mayOf_171
                  · skip
                    replace e_79 : r_65 = 0 := e_79
                    subst e_79
                    replace h_76 : oa_68 = oa_48 := h_76
                    replace h_77 : ob_69 = ob_49 := h_77
                    replace h_78 : (if (0 : Int32).toInt = 1 then yI (o7_25 d.toNatClampNeg) (o8_26 d.toNatClampNeg) (o9_27 d.toNatClampNeg) (o10_28 d.toNatClampNeg) ((z.1 11)) 0 else 24 * (o6_24 d.toNatClampNeg).toInt - yI (o7_25 d.toNatClampNeg) (o8_26 d.toNatClampNeg) (o9_27 d.toNatClampNeg) (o10_28 d.toNatClampNeg) ((z.1 11)) 0) = 0 := h_78
                    rw [show (0 : Int32).toInt = 0 by decide] at h_78
                    refine lv_istore (lv' := [(8, .int 0), (9, .int r_62), (6, .long ob_37), (4, .long oa_36), (3, .int nn), (0, .ref (q 0)), (1, .int pe), (2, .int d)]) hx hb dX7_mayOf_138 hl (by decide) rfl (fun ls hl => ?_)
                    refine lv_iload hx hb dX7_mayOf_140 (lv_at hl 1 rfl) ?_
                    refine lv_if_eq (tgt := 170) hx hb dX7_mayOf_142 (by decide) (fun c_87 => ?_) (fun c_87 => ?_)
                    · skip
                      have hc_87 := zb_eq rfl (show (0 : Int32).toInt = 0 by decide) c_87
                      refine lv_iconst (v := 0) hx hb dX7_mayOf_170 (by decide) ?_
                      exact W.iret (v := 0) hx hb hr (fun t ht hW => ⟨⟨0, (o4_22, o5_23, o6_24, o7_25, o8_26, o9_27, o10_28, o12_29, o13_30, o14_31, o15_32, o16_33, o17_34, o18_35, oa_68, ob_69, o33_38, o34_39), rfl, (show (MD (FR (z.2.2.1 2) (z.2.2.1 3)) o4_22 o5_23 o6_24 o7_25 o8_26 o9_27 o10_28) ∧ ((0 : Int32) = 0 ∨ (0 : Int32) = 1) from ⟨hI.2.2.2.2.2, Or.inl rfl⟩), ⟨by rw [ht]; exact hP, hDa _⟩⟩, hS.F ht⟩) hS.2.2 dX7_mayOf_171
                    · skip
                      have hc_87 := zb_ne rfl (show (0 : Int32).toInt = 0 by decide) c_87
                      refine lv_aload_n hx hb dX7_mayOf_145 rfl (lv_at hl 5 rfl) ?_
                      refine lv_lload hx hb dX7_mayOf_146 (lv_at hl 3 rfl) ?_
                      refine lv_aload_n hx hb dX7_mayOf_148 rfl (lv_at hl 5 rfl) ?_
                      refine va_get (D := (dC, dI)) (ci := 7) (v := .long oa_68) (C := RX7) (T := TX7) (N := 42) hx hb htb inw7 hown hK.1 hP 0 rfl rfl 0 (by decide) (htb _ wmt3_167) (fun _ h9 => h9) rfl dX7_mayOf_149 ?_
                      refine lv_lmul hx hb dX7_mayOf_152 ?_
                      refine lv_topl (fun x_88 ex_88 => ?_)
                      refine lv_lload hx hb dX7_mayOf_153 (lv_at hl 2 rfl) ?_
                      refine lv_aload_n hx hb dX7_mayOf_155 rfl (lv_at hl 5 rfl) ?_
                      refine va_get (D := (dC, dI)) (ci := 7) (v := .long ob_69) (C := RX7) (T := TX7) (N := 42) hx hb htb inw7 hown hK.1 hP 0 rfl rfl 1 (by decide) (htb _ wmt3_168) (fun _ h9 => h9) rfl dX7_mayOf_156 ?_
                      refine lv_lmul hx hb dX7_mayOf_159 ?_
                      refine lv_topl (fun x_89 ex_89 => ?_)
                      refine zcA_i (w := (zM k q (sJ (sJ (sA (sI (sA (sA (sA (sI (sI (sI (sI (sA (sA (sA (sA (sA (sA (sA z 4 o4_22) 5 o5_23) 6 o6_24) 7 o7_25) 8 o8_26) 9 o9_27) 10 o10_28) 12 o12_29) 13 o13_30) 14 o14_31) 15 o15_32) 16 o16_33) 17 o17_34) 18 o18_35) 33 o33_38) 34 o34_39) 0 oa_68) 1 ob_69))) (va_runV (As := [.long x_88, .long x_89]) (rest := []) ⟨hx, hb, hml, hown, htb⟩ (c_X7_isWithin l dC dI k q (sJ (sJ (sA (sI (sA (sA (sA (sI (sI (sI (sI (sA (sA (sA (sA (sA (sA (sA z 4 o4_22) 5 o5_23) 6 o6_24) 7 o7_25) 8 o8_26) 9 o9_27) 10 o10_28) 12 o12_29) 13 o13_30) 14 o14_31) 15 o15_32) 16 o16_33) 17 o17_34) 18 o18_35) 33 o33_38) 34 o34_39) 0 oa_68) 1 ob_69) x_88 x_89 _ ) (cwV 2 htb (gzV wmt5_73 wmt5_75 wmp4_3 wmt1_8 wmt5_76) rfl rfl rfl (by decide +kernel) ⟨Nat.le_of_ble_eq_true rfl, Nat.le_of_ble_eq_true rfl⟩) (zpA_V (ci := 7) (q0 := 0) hK hP (hDa _) rfl rfl) rfl rfl hl.1 rfl (lv_room (Nat.le_of_ble_eq_true rfl)) dX7_mayOf_160 ⟨Nat.le_of_ble_eq_true rfl, Nat.le_of_ble_eq_true rfl⟩) (hDa _) hS hA (fun r_90 u_91 H locs w_92 hP _ hS => ?_)
                      refine lv_if_eq (tgt := 170) hx hb dX7_mayOf_163 (by decide) (fun c_93 => ?_) (fun c_93 => ?_)
                      · skip
                        have hc_93 := zb_eq rfl (show (0 : Int32).toInt = 0 by decide) c_93
                        refine lv_iconst (v := 0) hx hb dX7_mayOf_170 (by decide) ?_
                        exact W.iret (v := 0) hx hb hr (fun t ht hW => ⟨⟨0, (o4_22, o5_23, o6_24, o7_25, o8_26, o9_27, o10_28, o12_29, o13_30, o14_31, o15_32, o16_33, o17_34, o18_35, oa_68, ob_69, o33_38, o34_39), rfl, (show (MD (FR (z.2.2.1 2) (z.2.2.1 3)) o4_22 o5_23 o6_24 o7_25 o8_26 o9_27 o10_28) ∧ ((0 : Int32) = 0 ∨ (0 : Int32) = 1) from ⟨hI.2.2.2.2.2, Or.inl rfl⟩), ⟨by rw [ht]; exact hP, hDa _⟩⟩, hS.F ht⟩) hS.2.2 dX7_mayOf_171
                      · skip
                        have hc_93 := zb_ne rfl (show (0 : Int32).toInt = 0 by decide) c_93
                        refine lv_iconst (v := 1) hx hb dX7_mayOf_166 (by decide) ?_
                        refine lv_goto (tgt := 171) hx hb dX7_mayOf_167 (by decide) ?_
                        exact W.iret (v := 1) hx hb hr (fun t ht hW => ⟨⟨1, (o4_22, o5_23, o6_24, o7_25, o8_26, o9_27, o10_28, o12_29, o13_30, o14_31, o15_32, o16_33, o17_34, o18_35, oa_68, ob_69, o33_38, o34_39), rfl, (show (MD (FR (z.2.2.1 2) (z.2.2.1 3)) o4_22 o5_23 o6_24 o7_25 o8_26 o9_27 o10_28) ∧ ((1 : Int32) = 0 ∨ (1 : Int32) = 1) from ⟨hI.2.2.2.2.2, Or.inr rfl⟩), ⟨by rw [ht]; exact hP, hDa _⟩⟩, hS.F ht⟩) hS.2.2 dX7_mayOf_171
                · skip
                  replace e_59 : r_45 = 0 := e_59
                  subst e_59
                  replace h_56 : oa_48 = oa_36 := h_56
                  replace h_57 : ob_49 = ob_37 := h_57
                  replace h_58 : (if (1 : Int32).toInt = 1 then yI (o7_25 d.toNatClampNeg) (o8_26 d.toNatClampNeg) (o9_27 d.toNatClampNeg) (o10_28 d.toNatClampNeg) ((z.1 11)) 0 else 24 * (o6_24 d.toNatClampNeg).toInt - yI (o7_25 d.toNatClampNeg) (o8_26 d.toNatClampNeg) (o9_27 d.toNatClampNeg) (o10_28 d.toNatClampNeg) ((z.1 11)) 0) = 0 := h_58
                  rw [show (1 : Int32).toInt = 1 by decide] at h_58
                  refine lv_istore (lv' := [(8, .int 0), (6, .long ob_37), (4, .long oa_36), (3, .int nn), (0, .ref (q 0)), (1, .int pe), (2, .int d)]) hx hb dX7_mayOf_110 hl (by decide) rfl (fun ls hl => ?_)
                  refine lv_aload_n hx hb dX7_mayOf_112 rfl (lv_at hl 4 rfl) ?_
                  refine lv_lload hx hb dX7_mayOf_113 (lv_at hl 2 rfl) ?_
                  refine lv_aload_n hx hb dX7_mayOf_115 rfl (lv_at hl 4 rfl) ?_
                  refine va_get (D := (dC, dI)) (ci := 7) (v := .long oa_48) (C := RX7) (T := TX7) (N := 42) hx hb htb inw7 hown hK.1 hP 0 rfl rfl 0 (by decide) (htb _ wmt3_167) (fun _ h9 => h9) rfl dX7_mayOf_116 ?_
                  refine lv_lmul hx hb dX7_mayOf_119 ?_
                  refine lv_topl (fun x_94 ex_94 => ?_)
                  refine lv_lload hx hb dX7_mayOf_120 (lv_at hl 1 rfl) ?_
                  refine lv_aload_n hx hb dX7_mayOf_122 rfl (lv_at hl 4 rfl) ?_
                  refine va_get (D := (dC, dI)) (ci := 7) (v := .long ob_49) (C := RX7) (T := TX7) (N := 42) hx hb htb inw7 hown hK.1 hP 0 rfl rfl 1 (by decide) (htb _ wmt3_168) (fun _ h9 => h9) rfl dX7_mayOf_123 ?_
                  refine lv_lmul hx hb dX7_mayOf_126 ?_
                  refine lv_topl (fun x_95 ex_95 => ?_)
                  refine zcA_i (w := (zM k q (sJ (sJ (sA (sI (sA (sA (sA (sI (sI (sI (sI (sA (sA (sA (sA (sA (sA (sA z 4 o4_22) 5 o5_23) 6 o6_24) 7 o7_25) 8 o8_26) 9 o9_27) 10 o10_28) 12 o12_29) 13 o13_30) 14 o14_31) 15 o15_32) 16 o16_33) 17 o17_34) 18 o18_35) 33 o33_38) 34 o34_39) 0 oa_48) 1 ob_49))) (va_runV (As := [.long x_94, .long x_95]) (rest := []) ⟨hx, hb, hml, hown, htb⟩ (c_X7_isWithin l dC dI k q (sJ (sJ (sA (sI (sA (sA (sA (sI (sI (sI (sI (sA (sA (sA (sA (sA (sA (sA z 4 o4_22) 5 o5_23) 6 o6_24) 7 o7_25) 8 o8_26) 9 o9_27) 10 o10_28) 12 o12_29) 13 o13_30) 14 o14_31) 15 o15_32) 16 o16_33) 17 o17_34) 18 o18_35) 33 o33_38) 34 o34_39) 0 oa_48) 1 ob_49) x_94 x_95 _ ) (cwV 2 htb (gzV wmt5_73 wmt5_75 wmp4_3 wmt1_8 wmt5_76) rfl rfl rfl (by decide +kernel) ⟨Nat.le_of_ble_eq_true rfl, Nat.le_of_ble_eq_true rfl⟩) (zpA_V (ci := 7) (q0 := 0) hK hP (hDa _) rfl rfl) rfl rfl hl.1 rfl (lv_room (Nat.le_of_ble_eq_true rfl)) dX7_mayOf_127 ⟨Nat.le_of_ble_eq_true rfl, Nat.le_of_ble_eq_true rfl⟩) (hDa _) hS hA (fun r_96 u_97 H locs w_98 hP _ hS => ?_)
                  refine lv_istore (lv' := [(9, .int r_96), (8, .int 0), (6, .long ob_37), (4, .long oa_36), (3, .int nn), (0, .ref (q 0)), (1, .int pe), (2, .int d)]) hx hb dX7_mayOf_130 hl (by decide) rfl (fun ls hl => ?_)
                  refine lv_aload_n hx hb dX7_mayOf_132 rfl (lv_at hl 5 rfl) ?_
                  refine lv_iload_n hx hb dX7_mayOf_133 rfl (lv_at hl 7 rfl) ?_
                  refine lv_iconst (v := 0) hx hb dX7_mayOf_134 (by decide) ?_
                  refine zcA_i (w := (zM k q (sJ (sJ (sA (sI (sA (sA (sA (sI (sI (sI (sI (sA (sA (sA (sA (sA (sA (sA z 4 o4_22) 5 o5_23) 6 o6_24) 7 o7_25) 8 o8_26) 9 o9_27) 10 o10_28) 12 o12_29) 13 o13_30) 14 o14_31) 15 o15_32) 16 o16_33) 17 o17_34) 18 o18_35) 33 o33_38) 34 o34_39) 0 oa_48) 1 ob_49))) (va_runV (As := [.int d, .int 0]) (rest := []) ⟨hx, hb, hml, hown, htb⟩ (c_X7_gives l dC dI k q (sJ (sJ (sA (sI (sA (sA (sA (sI (sI (sI (sI (sA (sA (sA (sA (sA (sA (sA z 4 o4_22) 5 o5_23) 6 o6_24) 7 o7_25) 8 o8_26) 9 o9_27) 10 o10_28) 12 o12_29) 13 o13_30) 14 o14_31) 15 o15_32) 16 o16_33) 17 o17_34) 18 o18_35) 33 o33_38) 34 o34_39) 0 oa_48) 1 ob_49) d 0 _ hI (by omega) hms) (cwV 2 htb (gzV wmt5_32 wmt5_34 wmp3_14 wmt1_8 wmt5_35) rfl rfl rfl (by decide +kernel) ⟨Nat.le_of_ble_eq_true rfl, Nat.le_of_ble_eq_true rfl⟩) (zpA_V (ci := 7) (q0 := 0) hK hP (hDa _) rfl rfl) rfl rfl hl.1 rfl (lv_room (Nat.le_of_ble_eq_true rfl)) dX7_mayOf_135 ⟨Nat.le_of_ble_eq_true rfl, Nat.le_of_ble_eq_true rfl⟩) (hDa _) hS hA (fun r_99 u_100 H locs w_101 hP _ hS => ?_)
                  obtain ⟨oa_102, ob_103⟩ := u_100
                  have hP : va_P (dC, dI) vwCl (zM k q (sJ (sJ (sA (sI (sA (sA (sA (sI (sI (sI (sI (sA (sA (sA (sA (sA (sA (sA z 4 o4_22) 5 o5_23) 6 o6_24) 7 o7_25) 8 o8_26) 9 o9_27) 10 o10_28) 12 o12_29) 13 o13_30) 14 o14_31) 15 o15_32) 16 o16_33) 17 o17_34) 18 o18_35) 33 o33_38) 34 o34_39) 0 oa_102) 1 ob_103)) H := hP
                  rcases w_101 with ⟨e_109, h_104, h_105, h_106, h_107, h_108⟩ | ⟨e_113, h_110, h_111, h_112⟩
                  · skip
                    replace e_109 : r_99 = 1 := e_109
                    subst e_109
                    replace h_104 : 1 ≤ ob_103.toInt ∧ ob_103.toInt ≤ 731520 := h_104
                    replace h_105 : -731520 ≤ oa_102.toInt ∧ oa_102.toInt ≤ 731520 := h_105
                    replace h_106 : (o7_25 d.toNatClampNeg).toInt + (o8_26 d.toNatClampNeg).toInt + (o9_27 d.toNatClampNeg).toInt + (o10_28 d.toNatClampNeg).toInt ≤ (o6_24 d.toNatClampNeg).toInt → 0 ≤ oa_102.toInt ∧ oa_102.toInt ≤ 11520 ∧ ob_103.toInt ≤ 11520 := h_106
                    replace h_107 : 0 < (if (0 : Int32).toInt = 1 then yI (o7_25 d.toNatClampNeg) (o8_26 d.toNatClampNeg) (o9_27 d.toNatClampNeg) (o10_28 d.toNatClampNeg) ((z.1 11)) 1 else 24 * (o6_24 d.toNatClampNeg).toInt - yI (o7_25 d.toNatClampNeg) (o8_26 d.toNatClampNeg) (o9_27 d.toNatClampNeg) (o10_28 d.toNatClampNeg) ((z.1 11)) 1) → 0 < (if (0 : Int32).toInt = 1 then yI (o7_25 d.toNatClampNeg) (o8_26 d.toNatClampNeg) (o9_27 d.toNatClampNeg) (o10_28 d.toNatClampNeg) ((z.1 11)) 0 else 24 * (o6_24 d.toNatClampNeg).toInt - yI (o7_25 d.toNatClampNeg) (o8_26 d.toNatClampNeg) (o9_27 d.toNatClampNeg) (o10_28 d.toNatClampNeg) ((z.1 11)) 0) → 1 ≤ oa_102.toInt := h_107
                    rw [show (0 : Int32).toInt = 0 by decide] at h_107
                    replace h_108 : Hd ((o7_25 d.toNatClampNeg).toInt + (o8_26 d.toNatClampNeg).toInt + (o9_27 d.toNatClampNeg).toInt + (o10_28 d.toNatClampNeg).toInt ≤ (o6_24 d.toNatClampNeg).toInt → (oa_102.toInt = frT (if (0 : Int32).toInt = 1 then yI (o7_25 d.toNatClampNeg) (o8_26 d.toNatClampNeg) (o9_27 d.toNatClampNeg) (o10_28 d.toNatClampNeg) ((z.1 11)) 1 else 24 * (o6_24 d.toNatClampNeg).toInt - yI (o7_25 d.toNatClampNeg) (o8_26 d.toNatClampNeg) (o9_27 d.toNatClampNeg) (o10_28 d.toNatClampNeg) ((z.1 11)) 1) (if (0 : Int32).toInt = 1 then yI (o7_25 d.toNatClampNeg) (o8_26 d.toNatClampNeg) (o9_27 d.toNatClampNeg) (o10_28 d.toNatClampNeg) ((z.1 11)) 0 else 24 * (o6_24 d.toNatClampNeg).toInt - yI (o7_25 d.toNatClampNeg) (o8_26 d.toNatClampNeg) (o9_27 d.toNatClampNeg) (o10_28 d.toNatClampNeg) ((z.1 11)) 0) 0 ∧ ob_103.toInt = frT (if (0 : Int32).toInt = 1 then yI (o7_25 d.toNatClampNeg) (o8_26 d.toNatClampNeg) (o9_27 d.toNatClampNeg) (o10_28 d.toNatClampNeg) ((z.1 11)) 1 else 24 * (o6_24 d.toNatClampNeg).toInt - yI (o7_25 d.toNatClampNeg) (o8_26 d.toNatClampNeg) (o9_27 d.toNatClampNeg) (o10_28 d.toNatClampNeg) ((z.1 11)) 1) (if (0 : Int32).toInt = 1 then yI (o7_25 d.toNatClampNeg) (o8_26 d.toNatClampNeg) (o9_27 d.toNatClampNeg) (o10_28 d.toNatClampNeg) ((z.1 11)) 0 else 24 * (o6_24 d.toNatClampNeg).toInt - yI (o7_25 d.toNatClampNeg) (o8_26 d.toNatClampNeg) (o9_27 d.toNatClampNeg) (o10_28 d.toNatClampNeg) ((z.1 11)) 0) 1) ∧ ¬ (if (0 : Int32).toInt = 1 then yI (o7_25 d.toNatClampNeg) (o8_26 d.toNatClampNeg) (o9_27 d.toNatClampNeg) (o10_28 d.toNatClampNeg) ((z.1 11)) 0 else 24 * (o6_24 d.toNatClampNeg).toInt - yI (o7_25 d.toNatClampNeg) (o8_26 d.toNatClampNeg) (o9_27 d.toNatClampNeg) (o10_28 d.toNatClampNeg) ((z.1 11)) 0) = 0) := h_108
                    rw [show (0 : Int32).toInt = 0 by decide] at h_108
                    refine lv_istore (lv' := [(8, .int 1), (9, .int r_96), (6, .long ob_37), (4, .long oa_36), (3, .int nn), (0, .ref (q 0)), (1, .int pe), (2, .int d)]) hx hb dX7_mayOf_138 hl (by decide) rfl (fun ls hl => ?_)
                    refine lv_iload hx hb dX7_mayOf_140 (lv_at hl 1 rfl) ?_
                    refine lv_if_eq (tgt := 170) hx hb dX7_mayOf_142 (by decide) (fun c_114 => ?_) (fun c_114 => ?_)
                    · skip
                      have hc_114 := zb_eq rfl (show (0 : Int32).toInt = 0 by decide) c_114
                      refine lv_iconst (v := 0) hx hb dX7_mayOf_170 (by decide) ?_
                      exact W.iret (v := 0) hx hb hr (fun t ht hW => ⟨⟨0, (o4_22, o5_23, o6_24, o7_25, o8_26, o9_27, o10_28, o12_29, o13_30, o14_31, o15_32, o16_33, o17_34, o18_35, oa_102, ob_103, o33_38, o34_39), rfl, (show (MD (FR (z.2.2.1 2) (z.2.2.1 3)) o4_22 o5_23 o6_24 o7_25 o8_26 o9_27 o10_28) ∧ ((0 : Int32) = 0 ∨ (0 : Int32) = 1) from ⟨hI.2.2.2.2.2, Or.inl rfl⟩), ⟨by rw [ht]; exact hP, hDa _⟩⟩, hS.F ht⟩) hS.2.2 dX7_mayOf_171
                    · skip
                      have hc_114 := zb_ne rfl (show (0 : Int32).toInt = 0 by decide) c_114
                      refine lv_aload_n hx hb dX7_mayOf_145 rfl (lv_at hl 5 rfl) ?_
                      refine lv_lload hx hb dX7_mayOf_146 (lv_at hl 3 rfl) ?_
                      refine lv_aload_n hx hb dX7_mayOf_148 rfl (lv_at hl 5 rfl) ?_
                      refine va_get (D := (dC, dI)) (ci := 7) (v := .long oa_102) (C := RX7) (T := TX7) (N := 42) hx hb htb inw7 hown hK.1 hP 0 rfl rfl 0 (by decide) (htb _ wmt3_167) (fun _ h9 => h9) rfl dX7_mayOf_149 ?_
                      refine lv_lmul hx hb dX7_mayOf_152 ?_
                      refine lv_topl (fun x_115 ex_115 => ?_)
                      refine lv_lload hx hb dX7_mayOf_153 (lv_at hl 2 rfl) ?_
                      refine lv_aload_n hx hb dX7_mayOf_155 rfl (lv_at hl 5 rfl) ?_
                      refine va_get (D := (dC, dI)) (ci := 7) (v := .long ob_103) (C := RX7) (T := TX7) (N := 42) hx hb htb inw7 hown hK.1 hP 0 rfl rfl 1 (by decide) (htb _ wmt3_168) (fun _ h9 => h9) rfl dX7_mayOf_156 ?_
                      refine lv_lmul hx hb dX7_mayOf_159 ?_
                      refine lv_topl (fun x_116 ex_116 => ?_)
                      refine zcA_i (w := (zM k q (sJ (sJ (sA (sI (sA (sA (sA (sI (sI (sI (sI (sA (sA (sA (sA (sA (sA (sA z 4 o4_22) 5 o5_23) 6 o6_24) 7 o7_25) 8 o8_26) 9 o9_27) 10 o10_28) 12 o12_29) 13 o13_30) 14 o14_31) 15 o15_32) 16 o16_33) 17 o17_34) 18 o18_35) 33 o33_38) 34 o34_39) 0 oa_102) 1 ob_103))) (va_runV (As := [.long x_115, .long x_116]) (rest := []) ⟨hx, hb, hml, hown, htb⟩ (c_X7_isWithin l dC dI k q (sJ (sJ (sA (sI (sA (sA (sA (sI (sI (sI (sI (sA (sA (sA (sA (sA (sA (sA z 4 o4_22) 5 o5_23) 6 o6_24) 7 o7_25) 8 o8_26) 9 o9_27) 10 o10_28) 12 o12_29) 13 o13_30) 14 o14_31) 15 o15_32) 16 o16_33) 17 o17_34) 18 o18_35) 33 o33_38) 34 o34_39) 0 oa_102) 1 ob_103) x_115 x_116 _ ) (cwV 2 htb (gzV wmt5_73 wmt5_75 wmp4_3 wmt1_8 wmt5_76) rfl rfl rfl (by decide +kernel) ⟨Nat.le_of_ble_eq_true rfl, Nat.le_of_ble_eq_true rfl⟩) (zpA_V (ci := 7) (q0 := 0) hK hP (hDa _) rfl rfl) rfl rfl hl.1 rfl (lv_room (Nat.le_of_ble_eq_true rfl)) dX7_mayOf_160 ⟨Nat.le_of_ble_eq_true rfl, Nat.le_of_ble_eq_true rfl⟩) (hDa _) hS hA (fun r_117 u_118 H locs w_119 hP _ hS => ?_)
                      refine lv_if_eq (tgt := 170) hx hb dX7_mayOf_163 (by decide) (fun c_120 => ?_) (fun c_120 => ?_)
                      · skip
                        have hc_120 := zb_eq rfl (show (0 : Int32).toInt = 0 by decide) c_120
                        refine lv_iconst (v := 0) hx hb dX7_mayOf_170 (by decide) ?_
                        exact W.iret (v := 0) hx hb hr (fun t ht hW => ⟨⟨0, (o4_22, o5_23, o6_24, o7_25, o8_26, o9_27, o10_28, o12_29, o13_30, o14_31, o15_32, o16_33, o17_34, o18_35, oa_102, ob_103, o33_38, o34_39), rfl, (show (MD (FR (z.2.2.1 2) (z.2.2.1 3)) o4_22 o5_23 o6_24 o7_25 o8_26 o9_27 o10_28) ∧ ((0 : Int32) = 0 ∨ (0 : Int32) = 1) from ⟨hI.2.2.2.2.2, Or.inl rfl⟩), ⟨by rw [ht]; exact hP, hDa _⟩⟩, hS.F ht⟩) hS.2.2 dX7_mayOf_171
                      · skip
                        have hc_120 := zb_ne rfl (show (0 : Int32).toInt = 0 by decide) c_120
                        refine lv_iconst (v := 1) hx hb dX7_mayOf_166 (by decide) ?_
                        refine lv_goto (tgt := 171) hx hb dX7_mayOf_167 (by decide) ?_
                        exact W.iret (v := 1) hx hb hr (fun t ht hW => ⟨⟨1, (o4_22, o5_23, o6_24, o7_25, o8_26, o9_27, o10_28, o12_29, o13_30, o14_31, o15_32, o16_33, o17_34, o18_35, oa_102, ob_103, o33_38, o34_39), rfl, (show (MD (FR (z.2.2.1 2) (z.2.2.1 3)) o4_22 o5_23 o6_24 o7_25 o8_26 o9_27 o10_28) ∧ ((1 : Int32) = 0 ∨ (1 : Int32) = 1) from ⟨hI.2.2.2.2.2, Or.inr rfl⟩), ⟨by rw [ht]; exact hP, hDa _⟩⟩, hS.F ht⟩) hS.2.2 dX7_mayOf_171
                  · skip
                    replace e_113 : r_99 = 0 := e_113
                    subst e_113
                    replace h_110 : oa_102 = oa_48 := h_110
                    replace h_111 : ob_103 = ob_49 := h_111
                    replace h_112 : (if (0 : Int32).toInt = 1 then yI (o7_25 d.toNatClampNeg) (o8_26 d.toNatClampNeg) (o9_27 d.toNatClampNeg) (o10_28 d.toNatClampNeg) ((z.1 11)) 0 else 24 * (o6_24 d.toNatClampNeg).toInt - yI (o7_25 d.toNatClampNeg) (o8_26 d.toNatClampNeg) (o9_27 d.toNatClampNeg) (o10_28 d.toNatClampNeg) ((z.1 11)) 0) = 0 := h_112
                    rw [show (0 : Int32).toInt = 0 by decide] at h_112
                    refine lv_istore (lv' := [(8, .int 0), (9, .int r_96), (6, .long ob_37), (4, .long oa_36), (3, .int nn), (0, .ref (q 0)), (1, .int pe), (2, .int d)]) hx hb dX7_mayOf_138 hl (by decide) rfl (fun ls hl => ?_)
                    refine lv_iload hx hb dX7_mayOf_140 (lv_at hl 1 rfl) ?_
                    refine lv_if_eq (tgt := 170) hx hb dX7_mayOf_142 (by decide) (fun c_121 => ?_) (fun c_121 => ?_)
                    · skip
                      have hc_121 := zb_eq rfl (show (0 : Int32).toInt = 0 by decide) c_121
                      refine lv_iconst (v := 0) hx hb dX7_mayOf_170 (by decide) ?_
                      exact W.iret (v := 0) hx hb hr (fun t ht hW => ⟨⟨0, (o4_22, o5_23, o6_24, o7_25, o8_26, o9_27, o10_28, o12_29, o13_30, o14_31, o15_32, o16_33, o17_34, o18_35, oa_102, ob_103, o33_38, o34_39), rfl, (show (MD (FR (z.2.2.1 2) (z.2.2.1 3)) o4_22 o5_23 o6_24 o7_25 o8_26 o9_27 o10_28) ∧ ((0 : Int32) = 0 ∨ (0 : Int32) = 1) from ⟨hI.2.2.2.2.2, Or.inl rfl⟩), ⟨by rw [ht]; exact hP, hDa _⟩⟩, hS.F ht⟩) hS.2.2 dX7_mayOf_171
                    · skip
                      have hc_121 := zb_ne rfl (show (0 : Int32).toInt = 0 by decide) c_121
                      refine lv_aload_n hx hb dX7_mayOf_145 rfl (lv_at hl 5 rfl) ?_
                      refine lv_lload hx hb dX7_mayOf_146 (lv_at hl 3 rfl) ?_
                      refine lv_aload_n hx hb dX7_mayOf_148 rfl (lv_at hl 5 rfl) ?_
                      refine va_get (D := (dC, dI)) (ci := 7) (v := .long oa_102) (C := RX7) (T := TX7) (N := 42) hx hb htb inw7 hown hK.1 hP 0 rfl rfl 0 (by decide) (htb _ wmt3_167) (fun _ h9 => h9) rfl dX7_mayOf_149 ?_
                      refine lv_lmul hx hb dX7_mayOf_152 ?_
                      refine lv_topl (fun x_122 ex_122 => ?_)
                      refine lv_lload hx hb dX7_mayOf_153 (lv_at hl 2 rfl) ?_
                      refine lv_aload_n hx hb dX7_mayOf_155 rfl (lv_at hl 5 rfl) ?_
                      refine va_get (D := (dC, dI)) (ci := 7) (v := .long ob_103) (C := RX7) (T := TX7) (N := 42) hx hb htb inw7 hown hK.1 hP 0 rfl rfl 1 (by decide) (htb _ wmt3_168) (fun _ h9 => h9) rfl dX7_mayOf_156 ?_
                      refine lv_lmul hx hb dX7_mayOf_159 ?_
                      refine lv_topl (fun x_123 ex_123 => ?_)
                      refine zcA_i (w := (zM k q (sJ (sJ (sA (sI (sA (sA (sA (sI (sI (sI (sI (sA (sA (sA (sA (sA (sA (sA z 4 o4_22) 5 o5_23) 6 o6_24) 7 o7_25) 8 o8_26) 9 o9_27) 10 o10_28) 12 o12_29) 13 o13_30) 14 o14_31) 15 o15_32) 16 o16_33) 17 o17_34) 18 o18_35) 33 o33_38) 34 o34_39) 0 oa_102) 1 ob_103))) (va_runV (As := [.long x_122, .long x_123]) (rest := []) ⟨hx, hb, hml, hown, htb⟩ (c_X7_isWithin l dC dI k q (sJ (sJ (sA (sI (sA (sA (sA (sI (sI (sI (sI (sA (sA (sA (sA (sA (sA (sA z 4 o4_22) 5 o5_23) 6 o6_24) 7 o7_25) 8 o8_26) 9 o9_27) 10 o10_28) 12 o12_29) 13 o13_30) 14 o14_31) 15 o15_32) 16 o16_33) 17 o17_34) 18 o18_35) 33 o33_38) 34 o34_39) 0 oa_102) 1 ob_103) x_122 x_123 _ ) (cwV 2 htb (gzV wmt5_73 wmt5_75 wmp4_3 wmt1_8 wmt5_76) rfl rfl rfl (by decide +kernel) ⟨Nat.le_of_ble_eq_true rfl, Nat.le_of_ble_eq_true rfl⟩) (zpA_V (ci := 7) (q0 := 0) hK hP (hDa _) rfl rfl) rfl rfl hl.1 rfl (lv_room (Nat.le_of_ble_eq_true rfl)) dX7_mayOf_160 ⟨Nat.le_of_ble_eq_true rfl, Nat.le_of_ble_eq_true rfl⟩) (hDa _) hS hA (fun r_124 u_125 H locs w_126 hP _ hS => ?_)
                      refine lv_if_eq (tgt := 170) hx hb dX7_mayOf_163 (by decide) (fun c_127 => ?_) (fun c_127 => ?_)
                      · skip
                        have hc_127 := zb_eq rfl (show (0 : Int32).toInt = 0 by decide) c_127
                        refine lv_iconst (v := 0) hx hb dX7_mayOf_170 (by decide) ?_
                        exact W.iret (v := 0) hx hb hr (fun t ht hW => ⟨⟨0, (o4_22, o5_23, o6_24, o7_25, o8_26, o9_27, o10_28, o12_29, o13_30, o14_31, o15_32, o16_33, o17_34, o18_35, oa_102, ob_103, o33_38, o34_39), rfl, (show (MD (FR (z.2.2.1 2) (z.2.2.1 3)) o4_22 o5_23 o6_24 o7_25 o8_26 o9_27 o10_28) ∧ ((0 : Int32) = 0 ∨ (0 : Int32) = 1) from ⟨hI.2.2.2.2.2, Or.inl rfl⟩), ⟨by rw [ht]; exact hP, hDa _⟩⟩, hS.F ht⟩) hS.2.2 dX7_mayOf_171
                      · skip
                        have hc_127 := zb_ne rfl (show (0 : Int32).toInt = 0 by decide) c_127
                        refine lv_iconst (v := 1) hx hb dX7_mayOf_166 (by decide) ?_
                        refine lv_goto (tgt := 171) hx hb dX7_mayOf_167 (by decide) ?_
                        exact W.iret (v := 1) hx hb hr (fun t ht hW => ⟨⟨1, (o4_22, o5_23, o6_24, o7_25, o8_26, o9_27, o10_28, o12_29, o13_30, o14_31, o15_32, o16_33, o17_34, o18_35, oa_102, ob_103, o33_38, o34_39), rfl, (show (MD (FR (z.2.2.1 2) (z.2.2.1 3)) o4_22 o5_23 o6_24 o7_25 o8_26 o9_27 o10_28) ∧ ((1 : Int32) = 0 ∨ (1 : Int32) = 1) from ⟨hI.2.2.2.2.2, Or.inr rfl⟩), ⟨by rw [ht]; exact hP, hDa _⟩⟩, hS.F ht⟩) hS.2.2 dX7_mayOf_171
              · skip
                have hc_44 := zb_ne rfl (show (0 : Int32).toInt = 0 by decide) c_44
                refine lv_iconst (v := 0) hx hb dX7_mayOf_90 (by decide) ?_
                exact W.iret (v := 0) hx hb hr (fun t ht hW => ⟨⟨0, (o4_22, o5_23, o6_24, o7_25, o8_26, o9_27, o10_28, o12_29, o13_30, o14_31, o15_32, o16_33, o17_34, o18_35, oa_36, ob_37, o33_38, o34_39), rfl, (show (MD (FR (z.2.2.1 2) (z.2.2.1 3)) o4_22 o5_23 o6_24 o7_25 o8_26 o9_27 o10_28) ∧ ((0 : Int32) = 0 ∨ (0 : Int32) = 1) from ⟨hI.2.2.2.2.2, Or.inl rfl⟩), ⟨by rw [ht]; exact hP, hDa _⟩⟩, hS.F ht⟩) hS.2.2 dX7_mayOf_91
          · skip
            replace e_17 : r_11 = 0 := e_17
            subst e_17
            replace h_16 : ¬ ((0 < yI ((z.2.2.1 7) d.toNatClampNeg) ((z.2.2.1 8) d.toNatClampNeg) ((z.2.2.1 9) d.toNatClampNeg) ((z.2.2.1 10) d.toNatClampNeg) ((z.1 11)) 1 ∧ 0 < yI ((z.2.2.1 7) d.toNatClampNeg) ((z.2.2.1 8) d.toNatClampNeg) ((z.2.2.1 9) d.toNatClampNeg) ((z.2.2.1 10) d.toNatClampNeg) ((z.1 11)) 0) ∧ (yI ((z.2.2.1 7) d.toNatClampNeg) ((z.2.2.1 8) d.toNatClampNeg) ((z.2.2.1 9) d.toNatClampNeg) ((z.2.2.1 10) d.toNatClampNeg) ((z.1 11)) 1 < 24 * ((z.2.2.1 6) d.toNatClampNeg).toInt ∧ yI ((z.2.2.1 7) d.toNatClampNeg) ((z.2.2.1 8) d.toNatClampNeg) ((z.2.2.1 9) d.toNatClampNeg) ((z.2.2.1 10) d.toNatClampNeg) ((z.1 11)) 0 < 24 * ((z.2.2.1 6) d.toNatClampNeg).toInt)) := h_16
            refine lv_if_eq (tgt := 90) hx hb dX7_mayOf_79 (by decide) (fun c_128 => ?_) (fun c_128 => ?_)
            · skip
              refine lv_iconst (v := 0) hx hb dX7_mayOf_90 (by decide) ?_
              exact W.iret (v := 0) hx hb hr (fun t ht hW => ⟨⟨0, (z.2.2.1 4, z.2.2.1 5, z.2.2.1 6, z.2.2.1 7, z.2.2.1 8, z.2.2.1 9, z.2.2.1 10, z.1 12, z.1 13, z.1 14, z.1 15, z.2.2.1 16, z.2.2.1 17, z.2.2.1 18, z.2.1 0, z.2.1 1, z.1 33, z.2.2.1 34), rfl, (show (MD (FR (z.2.2.1 2) (z.2.2.1 3)) (z.2.2.1 4) (z.2.2.1 5) (z.2.2.1 6) (z.2.2.1 7) (z.2.2.1 8) (z.2.2.1 9) (z.2.2.1 10)) ∧ ((0 : Int32) = 0 ∨ (0 : Int32) = 1) from ⟨hI.2.2.2.2.2, Or.inl rfl⟩), ⟨by rw [ht]; exact hP, hDa _⟩⟩, hS.F ht⟩) hS.2.2 dX7_mayOf_91
            · skip
              exact absurd (by decide) c_128
    · skip
      have hc_2 := zb_nle rfl rfl c_2
      refine lv_iload_n hx hb dX7_mayOf_14 rfl (lv_at hl 1 rfl) ?_
      refine lv_aload_n hx hb dX7_mayOf_15 rfl (lv_at hl 2 rfl) ?_
      refine va_get (D := (dC, dI)) (ci := 7) (v := .ref (q 23)) (C := RX7) (T := TX7) (N := 42) hx hb htb inw7 hown hK.1 hP 0 rfl rfl 23 (by decide) (htb _ wmt3_190) (fun _ h9 => h9) rfl dX7_mayOf_16 ?_
      refine lv_iload hx hb dX7_mayOf_19 (lv_at hl 0 rfl) ?_
      refine va_iald (D := (dC, dI)) hx hb hK.1 hP 14 0 rfl rfl (z_in (by omega)) dX7_mayOf_21 ?_
      refine lv_topi (fun x_129 ex_129 => ?_)
      refine lv_iload_n hx hb dX7_mayOf_22 rfl (lv_at hl 3 rfl) ?_
      refine lv_icmp_ne (tgt := 50) hx hb dX7_mayOf_23 (by decide) (fun c_130 => ?_) (fun c_130 => ?_)
      · skip
        have hc_130 := zb_ne rfl rfl c_130
        refine lv_iconst (v := 0) hx hb dX7_mayOf_50 (by decide) ?_
        refine lv_iadd hx hb dX7_mayOf_51 ?_
        refine lv_topi (fun x_131 ex_131 => ?_)
        refine lv_istore_n (lv' := [(3, .int x_131), (4, .int i), (0, .ref (q 0)), (1, .int pe), (2, .int d)]) hx hb dX7_mayOf_52 rfl hl (by decide) rfl (fun ls hl => ?_)
        obtain ⟨x_132, ex_132⟩ : ∃ y : Int32, y = i + 1 := ⟨_, rfl⟩
        have hx_132 : x_132.toInt = i.toInt + 1 := z_add ex_132 rfl (show (1 : Int32).toInt = 1 by decide) (by omega)
        refine lv_iinc (v := x_132) (lv' := [(4, .int x_132), (3, .int x_131), (0, .ref (q 0)), (1, .int pe), (2, .int d)]) hx hb dX7_mayOf_53 hl (k := 1) rfl (by rw [ex_132]; rfl) (by decide) rfl (fun ls hl => ?_)
        refine lv_goto (tgt := 5) hx hb dX7_mayOf_56 (by decide) ?_
        exact ih5 ((120 - x_132.toInt).toNat) (by omega) x_131 x_132 (show 0 ≤ x_132.toInt ∧ x_132.toInt ≤ 120 by omega) rfl H locs ls hP hS (lv_sub hl [0, 1, 2, 3, 4] rfl)
      · skip
        have hc_130 := zb_eq rfl rfl c_130
        refine lv_aload_n hx hb dX7_mayOf_26 rfl (lv_at hl 2 rfl) ?_
        refine va_get (D := (dC, dI)) (ci := 7) (v := .ref (q 24)) (C := RX7) (T := TX7) (N := 42) hx hb htb inw7 hown hK.1 hP 0 rfl rfl 24 (by decide) (htb _ wmt3_191) (fun _ h9 => h9) rfl dX7_mayOf_27 ?_
        refine lv_iload hx hb dX7_mayOf_30 (lv_at hl 0 rfl) ?_
        refine va_iald (D := (dC, dI)) hx hb hK.1 hP 15 0 rfl rfl (z_in (by omega)) dX7_mayOf_32 ?_
        refine lv_topi (fun x_133 ex_133 => ?_)
        refine lv_iload_n hx hb dX7_mayOf_33 rfl (lv_at hl 4 rfl) ?_
        refine lv_icmp_ne (tgt := 50) hx hb dX7_mayOf_34 (by decide) (fun c_134 => ?_) (fun c_134 => ?_)
        · skip
          have hc_134 := zb_ne rfl rfl c_134
          refine lv_iconst (v := 0) hx hb dX7_mayOf_50 (by decide) ?_
          refine lv_iadd hx hb dX7_mayOf_51 ?_
          refine lv_topi (fun x_135 ex_135 => ?_)
          refine lv_istore_n (lv' := [(3, .int x_135), (4, .int i), (0, .ref (q 0)), (1, .int pe), (2, .int d)]) hx hb dX7_mayOf_52 rfl hl (by decide) rfl (fun ls hl => ?_)
          obtain ⟨x_136, ex_136⟩ : ∃ y : Int32, y = i + 1 := ⟨_, rfl⟩
          have hx_136 : x_136.toInt = i.toInt + 1 := z_add ex_136 rfl (show (1 : Int32).toInt = 1 by decide) (by omega)
          refine lv_iinc (v := x_136) (lv' := [(4, .int x_136), (3, .int x_135), (0, .ref (q 0)), (1, .int pe), (2, .int d)]) hx hb dX7_mayOf_53 hl (k := 1) rfl (by rw [ex_136]; rfl) (by decide) rfl (fun ls hl => ?_)
          refine lv_goto (tgt := 5) hx hb dX7_mayOf_56 (by decide) ?_
          exact ih5 ((120 - x_136.toInt).toNat) (by omega) x_135 x_136 (show 0 ≤ x_136.toInt ∧ x_136.toInt ≤ 120 by omega) rfl H locs ls hP hS (lv_sub hl [0, 1, 2, 3, 4] rfl)
        · skip
          have hc_134 := zb_eq rfl rfl c_134
          refine lv_aload_n hx hb dX7_mayOf_37 rfl (lv_at hl 2 rfl) ?_
          refine lv_iload hx hb dX7_mayOf_38 (lv_at hl 0 rfl) ?_
          refine zcA_i (w := (zM k q z)) (va_runV (As := [.int i]) (rest := [.int nn]) ⟨hx, hb, hml, hown, htb⟩ (c_X7_isKnown l dC dI k q z i _ (show 0 ≤ i.toInt ∧ i.toInt < 120 by omega)) (cwV 1 htb (gzV wmt4_190 wmt4_192 wmp3_6 wmt1_8 wmt4_193) rfl rfl rfl (by decide +kernel) ⟨Nat.le_of_ble_eq_true rfl, Nat.le_of_ble_eq_true rfl⟩) (zpA_V (ci := 7) (q0 := 0) hK hP (hDa _) rfl rfl) rfl rfl hl.1 rfl (lv_room (Nat.le_of_ble_eq_true rfl)) dX7_mayOf_40 ⟨Nat.le_of_ble_eq_true rfl, Nat.le_of_ble_eq_true rfl⟩) (hDa _) hS hA (fun r_137 u_138 H locs w_139 hP _ hS => ?_)
          rcases w_139 with ⟨e_141, h_140⟩ | ⟨e_143, h_142⟩
          · skip
            replace e_141 : r_137 = 1 := e_141
            subst e_141
            replace h_140 : kn z i.toNatClampNeg := h_140
            refine lv_if_eq (tgt := 50) hx hb dX7_mayOf_43 (by decide) (fun c_144 => ?_) (fun c_144 => ?_)
            · skip
              exact absurd c_144 (by decide)
            · skip
              refine lv_iconst (v := 1) hx hb dX7_mayOf_46 (by decide) ?_
              refine lv_goto (tgt := 51) hx hb dX7_mayOf_47 (by decide) ?_
              refine lv_iadd hx hb dX7_mayOf_51 ?_
              refine lv_topi (fun x_145 ex_145 => ?_)
              refine lv_istore_n (lv' := [(3, .int x_145), (4, .int i), (0, .ref (q 0)), (1, .int pe), (2, .int d)]) hx hb dX7_mayOf_52 rfl hl (by decide) rfl (fun ls hl => ?_)
              obtain ⟨x_146, ex_146⟩ : ∃ y : Int32, y = i + 1 := ⟨_, rfl⟩
              have hx_146 : x_146.toInt = i.toInt + 1 := z_add ex_146 rfl (show (1 : Int32).toInt = 1 by decide) (by omega)
              refine lv_iinc (v := x_146) (lv' := [(4, .int x_146), (3, .int x_145), (0, .ref (q 0)), (1, .int pe), (2, .int d)]) hx hb dX7_mayOf_53 hl (k := 1) rfl (by rw [ex_146]; rfl) (by decide) rfl (fun ls hl => ?_)
              refine lv_goto (tgt := 5) hx hb dX7_mayOf_56 (by decide) ?_
              exact ih5 ((120 - x_146.toInt).toNat) (by omega) x_145 x_146 (show 0 ≤ x_146.toInt ∧ x_146.toInt ≤ 120 by omega) rfl H locs ls hP hS (lv_sub hl [0, 1, 2, 3, 4] rfl)
          · skip
            replace e_143 : r_137 = 0 := e_143
            subst e_143
            replace h_142 : ¬ kn z i.toNatClampNeg := h_142
            refine lv_if_eq (tgt := 50) hx hb dX7_mayOf_43 (by decide) (fun c_147 => ?_) (fun c_147 => ?_)
            · skip
              refine lv_iconst (v := 0) hx hb dX7_mayOf_50 (by decide) ?_
              refine lv_iadd hx hb dX7_mayOf_51 ?_
              refine lv_topi (fun x_148 ex_148 => ?_)
              refine lv_istore_n (lv' := [(3, .int x_148), (4, .int i), (0, .ref (q 0)), (1, .int pe), (2, .int d)]) hx hb dX7_mayOf_52 rfl hl (by decide) rfl (fun ls hl => ?_)
              obtain ⟨x_149, ex_149⟩ : ∃ y : Int32, y = i + 1 := ⟨_, rfl⟩
              have hx_149 : x_149.toInt = i.toInt + 1 := z_add ex_149 rfl (show (1 : Int32).toInt = 1 by decide) (by omega)
              refine lv_iinc (v := x_149) (lv' := [(4, .int x_149), (3, .int x_148), (0, .ref (q 0)), (1, .int pe), (2, .int d)]) hx hb dX7_mayOf_53 hl (k := 1) rfl (by rw [ex_149]; rfl) (by decide) rfl (fun ls hl => ?_)
              refine lv_goto (tgt := 5) hx hb dX7_mayOf_56 (by decide) ?_
              exact ih5 ((120 - x_149.toInt).toNat) (by omega) x_148 x_149 (show 0 ≤ x_149.toInt ∧ x_149.toInt ≤ 120 by omega) rfl H locs ls hP hS (lv_sub hl [0, 1, 2, 3, 4] rfl)
            · skip
              exact absurd (by decide) c_147
set_option maxHeartbeats 4000000 in
set_option maxRecDepth 100000 in
theorem c_X7_may (l : Launch) (dC : Nat → ClassId) (dI : Nat → Nat → Nat) (k : Nat → ClassId) (q : Nat → Nat) (z : ZS) (pe : Int32) (d : Int32) (sz : Nat) (hI : MInv z) : Met l yX7_may (wz yX7_may cX7_may 3 (some .int)) ({ frames := 7, cells := 0, slots := 0, locals := 173 }) (va_Pc [.ref (q 0), .int pe, .int d] (zPre dC dI k (zTX k) (zM k q z) sz)) (va_Qi (fun (r : Int32) (u : (Nat → Int32) × (Nat → Int32) × (Nat → Int32) × (Nat → Int32) × (Nat → Int32) × (Nat → Int32) × (Nat → Int32) × Int32 × Int32 × Int32 × Int32 × (Nat → Int32) × (Nat → Int32) × (Nat → Int32) × Int64 × Int64 × Int32 × (Nat → Int32)) => (MD (FR (z.2.2.1 2) (z.2.2.1 3)) u.1 u.2.1 u.2.2.1 u.2.2.2.1 u.2.2.2.2.1 u.2.2.2.2.2.1 u.2.2.2.2.2.2.1)) (fun u t => zPost dC dI (va_A (zM k q z) sz) (zM k q (sA (sI (sJ (sJ (sA (sA (sA (sI (sI (sI (sI (sA (sA (sA (sA (sA (sA (sA z 4 u.1) 5 u.2.1) 6 u.2.2.1) 7 u.2.2.2.1) 8 u.2.2.2.2.1) 9 u.2.2.2.2.2.1) 10 u.2.2.2.2.2.2.1) 12 u.2.2.2.2.2.2.2.1) 13 u.2.2.2.2.2.2.2.2.1) 14 u.2.2.2.2.2.2.2.2.2.1) 15 u.2.2.2.2.2.2.2.2.2.2.1) 16 u.2.2.2.2.2.2.2.2.2.2.2.1) 17 u.2.2.2.2.2.2.2.2.2.2.2.2.1) 18 u.2.2.2.2.2.2.2.2.2.2.2.2.2.1) 0 u.2.2.2.2.2.2.2.2.2.2.2.2.2.2.1) 1 u.2.2.2.2.2.2.2.2.2.2.2.2.2.2.2.1) 33 u.2.2.2.2.2.2.2.2.2.2.2.2.2.2.2.2.1) 34 u.2.2.2.2.2.2.2.2.2.2.2.2.2.2.2.2.2)) t) (va_A (zM k q z) sz)) 0 0 (va_A (zM k q z) sz) := by
  refine Met.ofW (cc := cX7_may) (maxL := 3) (ret := (some .int)) (by decide) rfl ?_
  intro p e s m args below meth c s₁ B hml hv
  obtain ⟨rfl, hsz, hP, hK, hD0⟩ := hv
  have hx := B.exec
  have hb := B.bytes
  have hr := B.returns
  have hts := atoms_spec (ws := wz yX7_may cX7_may 3 (some .int)) B.pre
  have htb : ∀ w ∈ zw, w.before _ s = true := fun w h => hts w (List.mem_cons_of_mem _ h)
  have hown : s.vm.findClass RX7 = some m.cls := findClass_of_methodNamed B.named
  have hlocks := B.notSynchronized
  clear hts
  subst hsz
  have hD := hD0.self (sz := s.heap.size)
  generalize hAe : va_A (zM k q z) s.heap.size = A at hD ⊢
  have hA : ∀ q : Nat, s.heap.size ≤ q → A q := fun q h => by rw [← hAe]; exact Or.inr h
  have hDa : ∀ z9 : ZS, va_D A (zM k q z9) := fun z9 => va_D_adr (w := zM k q z) rfl hD
  have hl := lv_entry ([.ref (q 0), .int pe, .int d]) (n := 3) (Nat.le_of_ble_eq_true rfl)
  rw [lg_entry_eq]
  generalize (lg_sl ([.ref (q 0), .int pe, .int d]) ++ List.replicate (3 - (lg_sl ([.ref (q 0), .int pe, .int d])).length) Slot.unset).toArray = ls at hl ⊢
  have hl : lv_has ls 3 [(0, .ref (q 0)), (1, .int pe), (2, .int d)] := hl
  refine z_start2 (A := A) (w := (zM k q z)) hP (fun H locs hP hS => ?_)
  clear hD0 hAe
  refine lv_iload_n hx hb dX7_may_0 rfl (lv_at hl 1 rfl) ?_
  refine zc0_i (w := (zM k q z)) (va_runS (As := [.int pe]) (rest := []) ⟨hx, hb, hml, hown, htb⟩ (c_X7_isPerson l dC dI k pe _ ) (va_cwS 1 htb (gzS wmt4_153 wmt4_154 wmt1_8 wmt4_155) rfl rfl rfl (by decide +kernel) ⟨Nat.le_of_ble_eq_true rfl, Nat.le_of_ble_eq_true rfl⟩) (zp0_S hK) rfl rfl hl.1 rfl (lv_room (Nat.le_of_ble_eq_true rfl)) dX7_may_1 ⟨Nat.le_of_ble_eq_true rfl, Nat.le_of_ble_eq_true rfl⟩) hP hS hA (fun r_1 u_2 H locs w_3 hP hS => ?_)
  rcases w_3 with ⟨e_5, h_4⟩ | ⟨e_7, h_6⟩
  · skip
    replace e_5 : r_1 = 1 := e_5
    subst e_5
    replace h_4 : 0 ≤ pe.toInt ∧ pe.toInt < 24 := h_4
    refine lv_if_eq (tgt := 14) hx hb dX7_may_4 (by decide) (fun c_8 => ?_) (fun c_8 => ?_)
    · skip
      exact absurd c_8 (by decide)
    · skip
      refine lv_iload_n hx hb dX7_may_7 rfl (lv_at hl 2 rfl) ?_
      refine zc0_i (w := (zM k q z)) (va_runS (As := [.int d]) (rest := []) ⟨hx, hb, hml, hown, htb⟩ (c_X7_isDesign l dC dI k d _ ) (va_cwS 1 htb (gzS wmt4_59 wmt4_60 wmt1_8 wmt4_61) rfl rfl rfl (by decide +kernel) ⟨Nat.le_of_ble_eq_true rfl, Nat.le_of_ble_eq_true rfl⟩) (zp0_S hK) rfl rfl hl.1 rfl (lv_room (Nat.le_of_ble_eq_true rfl)) dX7_may_8 ⟨Nat.le_of_ble_eq_true rfl, Nat.le_of_ble_eq_true rfl⟩) hP hS hA (fun r_9 u_10 H locs w_11 hP hS => ?_)
      rcases w_11 with ⟨e_13, h_12⟩ | ⟨e_15, h_14⟩
      · skip
        replace e_13 : r_9 = 1 := e_13
        subst e_13
        replace h_12 : 0 ≤ d.toInt ∧ d.toInt < 4 := h_12
        refine lv_if_ne (tgt := 17) hx hb dX7_may_11 (by decide) (fun c_16 => ?_) (fun c_16 => ?_)
        · skip
          refine lv_aload_n hx hb dX7_may_17 rfl (lv_at hl 0 rfl) ?_
          refine lv_iload_n hx hb dX7_may_18 rfl (lv_at hl 2 rfl) ?_
          refine zcA_i (w := (zM k q z)) (va_runV (As := [.int d]) (rest := []) ⟨hx, hb, hml, hown, htb⟩ (c_X7_faultOf l dC dI k q z d _ hI (show 0 ≤ d.toInt ∧ d.toInt < 4 by omega)) (cwV 1 htb (gzV wmt4_73 wmt4_75 wmp2_6 wmt1_8 wmt4_76) rfl rfl rfl (by decide +kernel) ⟨Nat.le_of_ble_eq_true rfl, Nat.le_of_ble_eq_true rfl⟩) (zpA_V (ci := 7) (q0 := 0) hK hP (hDa _) rfl rfl) rfl rfl hl.1 rfl (lv_room (Nat.le_of_ble_eq_true rfl)) dX7_may_19 ⟨Nat.le_of_ble_eq_true rfl, Nat.le_of_ble_eq_true rfl⟩) (hDa _) hS hA (fun r_17 u_18 H locs w_19 hP _ hS => ?_)
          obtain ⟨o4_20, o5_21, o6_22, o7_23, o8_24, o9_25, o10_26, o12_27, o13_28, o14_29, o15_30, o16_31, o17_32, o18_33⟩ := u_18
          have hP : va_P (dC, dI) vwCl (zM k q (sA (sA (sA (sI (sI (sI (sI (sA (sA (sA (sA (sA (sA (sA z 4 o4_20) 5 o5_21) 6 o6_22) 7 o7_23) 8 o8_24) 9 o9_25) 10 o10_26) 12 o12_27) 13 o13_28) 14 o14_29) 15 o15_30) 16 o16_31) 17 o17_32) 18 o18_33)) H := hP
          obtain ⟨h_34, h_35, h_36, h_37, h_38⟩ := w_19
          replace h_34 : MD (FR ((z.2.2.1 2)) ((z.2.2.1 3))) o4_20 o5_21 o6_22 o7_23 o8_24 o9_25 o10_26 := h_34
          replace h_35 : ¬ o4_20 d.toNatClampNeg = 0 := h_35
          replace h_36 : RK ((z.2.2.1 4)) ((z.2.2.1 5)) o4_20 o5_21 := h_36
          replace h_37 : R7 ((z.2.2.1 4)) ((z.2.2.1 6)) ((z.2.2.1 7)) ((z.2.2.1 8)) ((z.2.2.1 9)) ((z.2.2.1 10)) o6_22 o7_23 o8_24 o9_25 o10_26 := h_37
          replace h_38 : r_17 = o5_21 d.toNatClampNeg := h_38
          have hI : MInv (sA (sA (sA (sI (sI (sI (sI (sA (sA (sA (sA (sA (sA (sA z 4 o4_20) 5 o5_21) 6 o6_22) 7 o7_23) 8 o8_24) 9 o9_25) 10 o10_26) 12 o12_27) 13 o13_28) 14 o14_29) 15 o15_30) 16 o16_31) 17 o17_32) 18 o18_33) := ⟨hI.1, hI.2.1, hI.2.2.1, hI.2.2.2.1, hI.2.2.2.2.1, h_34⟩
          have hms := MD_at h_34 (show 0 ≤ d.toInt ∧ d.toInt < 4 by omega)
          have hrd := h_35
          have hrk := h_36
          obtain ⟨hw, hff, hfF, hlk⟩ := hms.2.2.2.2.2 h_35
          have hwb := hms.1
          have hr5 : r_17.toInt = (o5_21 d.toNatClampNeg).toInt := by rw [h_38]
          refine lv_iconst (v := (-1)) hx hb dX7_may_22 (by decide) ?_
          refine lv_icmp_eq (tgt := 31) hx hb dX7_may_23 (by decide) (fun c_40 => ?_) (fun c_40 => ?_)
          · skip
            have hc_40 := zb_eq rfl (show ((-1) : Int32).toInt = (-1) by decide) c_40
            refine lv_aload_n hx hb dX7_may_31 rfl (lv_at hl 0 rfl) ?_
            refine lv_iload_n hx hb dX7_may_32 rfl (lv_at hl 1 rfl) ?_
            refine lv_iload_n hx hb dX7_may_33 rfl (lv_at hl 2 rfl) ?_
            refine zcA_i (w := (zM k q (sA (sA (sA (sI (sI (sI (sI (sA (sA (sA (sA (sA (sA (sA z 4 o4_20) 5 o5_21) 6 o6_22) 7 o7_23) 8 o8_24) 9 o9_25) 10 o10_26) 12 o12_27) 13 o13_28) 14 o14_29) 15 o15_30) 16 o16_31) 17 o17_32) 18 o18_33))) (va_runV (As := [.int pe, .int d]) (rest := []) ⟨hx, hb, hml, hown, htb⟩ (c_X7_mayOf l dC dI k q (sA (sA (sA (sI (sI (sI (sI (sA (sA (sA (sA (sA (sA (sA z 4 o4_20) 5 o5_21) 6 o6_22) 7 o7_23) 8 o8_24) 9 o9_25) 10 o10_26) 12 o12_27) 13 o13_28) 14 o14_29) 15 o15_30) 16 o16_31) 17 o17_32) 18 o18_33) pe d _ hI (by omega) hms) (cwV 2 htb (gzV wmt5_69 wmt5_71 wmp4_2 wmt1_8 wmt5_72) rfl rfl rfl (by decide +kernel) ⟨Nat.le_of_ble_eq_true rfl, Nat.le_of_ble_eq_true rfl⟩) (zpA_V (ci := 7) (q0 := 0) hK hP (hDa _) rfl rfl) rfl rfl hl.1 rfl (lv_room (Nat.le_of_ble_eq_true rfl)) dX7_may_34 ⟨Nat.le_of_ble_eq_true rfl, Nat.le_of_ble_eq_true rfl⟩) (hDa _) hS hA (fun r_41 u_42 H locs w_43 hP _ hS => ?_)
            obtain ⟨o4_44, o5_45, o6_46, o7_47, o8_48, o9_49, o10_50, o12_51, o13_52, o14_53, o15_54, o16_55, o17_56, o18_57, oa_58, ob_59, o33_60, o34_61⟩ := u_42
            have hP : va_P (dC, dI) vwCl (zM k q (sA (sI (sJ (sJ (sA (sA (sA (sI (sI (sI (sI (sA (sA (sA (sA (sA (sA (sA z 4 o4_44) 5 o5_45) 6 o6_46) 7 o7_47) 8 o8_48) 9 o9_49) 10 o10_50) 12 o12_51) 13 o13_52) 14 o14_53) 15 o15_54) 16 o16_55) 17 o17_56) 18 o18_57) 0 oa_58) 1 ob_59) 33 o33_60) 34 o34_61)) H := hP
            obtain ⟨h_62, h_63⟩ := w_43
            replace h_62 : MD (FR ((z.2.2.1 2)) ((z.2.2.1 3))) o4_44 o5_45 o6_46 o7_47 o8_48 o9_49 o10_50 := h_62
            replace h_63 : r_41 = 0 ∨ r_41 = 1 := h_63
            have hI : MInv (sA (sI (sJ (sJ (sA (sA (sA (sI (sI (sI (sI (sA (sA (sA (sA (sA (sA (sA z 4 o4_44) 5 o5_45) 6 o6_46) 7 o7_47) 8 o8_48) 9 o9_49) 10 o10_50) 12 o12_51) 13 o13_52) 14 o14_53) 15 o15_54) 16 o16_55) 17 o17_56) 18 o18_57) 0 oa_58) 1 ob_59) 33 o33_60) 34 o34_61) := ⟨hI.1, hI.2.1, hI.2.2.1, hI.2.2.2.1, hI.2.2.2.2.1, h_62⟩
            exact W.iret (v := r_41) hx hb hr (fun t ht hW => ⟨⟨r_41, (o4_44, o5_45, o6_46, o7_47, o8_48, o9_49, o10_50, o12_51, o13_52, o14_53, o15_54, o16_55, o17_56, o18_57, oa_58, ob_59, o33_60, o34_61), rfl, (show (MD (FR (z.2.2.1 2) (z.2.2.1 3)) o4_44 o5_45 o6_46 o7_47 o8_48 o9_49 o10_50) from hI.2.2.2.2.2), ⟨by rw [ht]; exact hP, hDa _⟩⟩, hS.F ht⟩) hS.2.2 dX7_may_37
          · skip
            have hc_40 := zb_ne rfl (show ((-1) : Int32).toInt = (-1) by decide) c_40
            refine lv_bipush (v := (-3)) hx hb dX7_may_26 (by decide) ?_
            refine lv_goto (tgt := 37) hx hb dX7_may_28 (by decide) ?_
            exact W.iret (v := (-3)) hx hb hr (fun t ht hW => ⟨⟨(-3), (o4_20, o5_21, o6_22, o7_23, o8_24, o9_25, o10_26, o12_27, o13_28, o14_29, o15_30, o16_31, o17_32, o18_33, z.2.1 0, z.2.1 1, z.1 33, z.2.2.1 34), rfl, (show (MD (FR (z.2.2.1 2) (z.2.2.1 3)) o4_20 o5_21 o6_22 o7_23 o8_24 o9_25 o10_26) from hI.2.2.2.2.2), ⟨by rw [ht]; exact hP, hDa _⟩⟩, hS.F ht⟩) hS.2.2 dX7_may_37
        · skip
          exact absurd c_16 (by decide)
      · skip
        replace e_15 : r_9 = 0 := e_15
        subst e_15
        replace h_14 : ¬ (0 ≤ d.toInt ∧ d.toInt < 4) := h_14
        refine lv_if_ne (tgt := 17) hx hb dX7_may_11 (by decide) (fun c_65 => ?_) (fun c_65 => ?_)
        · skip
          exact absurd c_65 (by decide)
        · skip
          refine lv_bipush (v := (-2)) hx hb dX7_may_14 (by decide) ?_
          exact W.iret (v := (-2)) hx hb hr (fun t ht hW => ⟨⟨(-2), (z.2.2.1 4, z.2.2.1 5, z.2.2.1 6, z.2.2.1 7, z.2.2.1 8, z.2.2.1 9, z.2.2.1 10, z.1 12, z.1 13, z.1 14, z.1 15, z.2.2.1 16, z.2.2.1 17, z.2.2.1 18, z.2.1 0, z.2.1 1, z.1 33, z.2.2.1 34), rfl, (show (MD (FR (z.2.2.1 2) (z.2.2.1 3)) (z.2.2.1 4) (z.2.2.1 5) (z.2.2.1 6) (z.2.2.1 7) (z.2.2.1 8) (z.2.2.1 9) (z.2.2.1 10)) from hI.2.2.2.2.2), ⟨by rw [ht]; exact hP, hDa _⟩⟩, hS.F ht⟩) hS.2.2 dX7_may_16
  · skip
    replace e_7 : r_1 = 0 := e_7
    subst e_7
    replace h_6 : ¬ (0 ≤ pe.toInt ∧ pe.toInt < 24) := h_6
    refine lv_if_eq (tgt := 14) hx hb dX7_may_4 (by decide) (fun c_66 => ?_) (fun c_66 => ?_)
    · skip
      refine lv_bipush (v := (-2)) hx hb dX7_may_14 (by decide) ?_
      exact W.iret (v := (-2)) hx hb hr (fun t ht hW => ⟨⟨(-2), (z.2.2.1 4, z.2.2.1 5, z.2.2.1 6, z.2.2.1 7, z.2.2.1 8, z.2.2.1 9, z.2.2.1 10, z.1 12, z.1 13, z.1 14, z.1 15, z.2.2.1 16, z.2.2.1 17, z.2.2.1 18, z.2.1 0, z.2.1 1, z.1 33, z.2.2.1 34), rfl, (show (MD (FR (z.2.2.1 2) (z.2.2.1 3)) (z.2.2.1 4) (z.2.2.1 5) (z.2.2.1 6) (z.2.2.1 7) (z.2.2.1 8) (z.2.2.1 9) (z.2.2.1 10)) from hI.2.2.2.2.2), ⟨by rw [ht]; exact hP, hDa _⟩⟩, hS.F ht⟩) hS.2.2 dX7_may_16
    · skip
      exact absurd (by decide) c_66
set_option maxHeartbeats 4000000 in
set_option maxRecDepth 100000 in
theorem c_X7_sheet (l : Launch) (dC : Nat → ClassId) (dI : Nat → Nat → Nat) (k : Nat → ClassId) (q : Nat → Nat) (z : ZS) (z0 : Int32) (ty : Int32) (n : Int32) (sz : Nat) (hI : MInv z) (hT3 : T3 (z.2.2.1 37)) : Met l yX7_sheet (wz yX7_sheet cX7_sheet 5 (some .int)) ({ frames := 2, cells := 0, slots := 0, locals := 42 }) (va_Pc [.ref (q 0), .int z0, .int ty, .int n] (zPre dC dI k (zTX k) (zM k q z) sz)) (va_Qi (fun (r : Int32) (u : (Nat → Int32) × (Nat → Int32) × (Nat → Int32) × (Nat → Int32) × Int32) => (MInv (sI (sA (sA (sA (sA z 36 u.1) 37 u.2.1) 38 u.2.2.1) 39 u.2.2.2.1) 41 u.2.2.2.2)) ∧ (T3 u.2.1) ∧ ((r, trM (sI (sA (sA (sA (sA z 36 u.1) 37 u.2.1) 38 u.2.2.1) 39 u.2.2.2.1) 41 u.2.2.2.2)) = tSheet (trM z) z0 ty n)) (fun u t => zPost dC dI (va_A (zM k q z) sz) (zM k q (sI (sA (sA (sA (sA z 36 u.1) 37 u.2.1) 38 u.2.2.1) 39 u.2.2.2.1) 41 u.2.2.2.2)) t) (va_A (zM k q z) sz)) 0 0 (va_A (zM k q z) sz) := by
  refine Met.ofW (cc := cX7_sheet) (maxL := 5) (ret := (some .int)) (by decide) rfl ?_
  intro p e s m args below meth c s₁ B hml hv
  obtain ⟨rfl, hsz, hP, hK, hD0⟩ := hv
  have hx := B.exec
  have hb := B.bytes
  have hr := B.returns
  have hts := atoms_spec (ws := wz yX7_sheet cX7_sheet 5 (some .int)) B.pre
  have htb : ∀ w ∈ zw, w.before _ s = true := fun w h => hts w (List.mem_cons_of_mem _ h)
  have hown : s.vm.findClass RX7 = some m.cls := findClass_of_methodNamed B.named
  have hlocks := B.notSynchronized
  clear hts
  subst hsz
  have hD := hD0.self (sz := s.heap.size)
  generalize hAe : va_A (zM k q z) s.heap.size = A at hD ⊢
  have hA : ∀ q : Nat, s.heap.size ≤ q → A q := fun q h => by rw [← hAe]; exact Or.inr h
  have hDa : ∀ z9 : ZS, va_D A (zM k q z9) := fun z9 => va_D_adr (w := zM k q z) rfl hD
  have hl := lv_entry ([.ref (q 0), .int z0, .int ty, .int n]) (n := 5) (Nat.le_of_ble_eq_true rfl)
  rw [lg_entry_eq]
  generalize (lg_sl ([.ref (q 0), .int z0, .int ty, .int n]) ++ List.replicate (5 - (lg_sl ([.ref (q 0), .int z0, .int ty, .int n])).length) Slot.unset).toArray = ls at hl ⊢
  have hl : lv_has ls 5 [(0, .ref (q 0)), (1, .int z0), (2, .int ty), (3, .int n)] := hl
  refine z_start2 (A := A) (w := (zM k q z)) hP (fun H locs hP hS => ?_)
  clear hD0 hAe
  refine lv_iload_n hx hb dX7_sheet_0 rfl (lv_at hl 1 rfl) ?_
  refine zc0_i (w := (zM k q z)) (va_runS (As := [.int z0]) (rest := []) ⟨hx, hb, hml, hown, htb⟩ (c_X7_isSheet l dC dI k z0 _ ) (va_cwS 1 htb (gzS wmt4_171 wmt4_172 wmt1_8 wmt4_173) rfl rfl rfl (by decide +kernel) ⟨Nat.le_of_ble_eq_true rfl, Nat.le_of_ble_eq_true rfl⟩) (zp0_S hK) rfl rfl hl.1 rfl (lv_room (Nat.le_of_ble_eq_true rfl)) dX7_sheet_1 ⟨Nat.le_of_ble_eq_true rfl, Nat.le_of_ble_eq_true rfl⟩) hP hS hA (fun r_1 u_2 H locs w_3 hP hS => ?_)
  rcases w_3 with ⟨e_5, h_4⟩ | ⟨e_7, h_6⟩
  · skip
    replace e_5 : r_1 = 1 := e_5
    subst e_5
    replace h_4 : 0 ≤ z0.toInt ∧ z0.toInt < 4 := h_4
    refine lv_if_eq (tgt := 22) hx hb dX7_sheet_4 (by decide) (fun c_8 => ?_) (fun c_8 => ?_)
    · skip
      exact absurd c_8 (by decide)
    · skip
      refine lv_iload_n hx hb dX7_sheet_7 rfl (lv_at hl 2 rfl) ?_
      refine lv_iconst (v := 0) hx hb dX7_sheet_8 (by decide) ?_
      refine lv_iconst (v := 2) hx hb dX7_sheet_9 (by decide) ?_
      refine zc0_i (w := (zM k q z)) (va_runS (As := [.int ty, .int 0, .int 2]) (rest := []) ⟨hx, hb, hml, hown, htb⟩ (c_X7_in l dC dI k ty 0 2 _ ) (va_cwS 3 htb (gzS wmt4_62 wmt4_63 wmt1_8 wmt4_64) rfl rfl rfl (by decide +kernel) ⟨Nat.le_of_ble_eq_true rfl, Nat.le_of_ble_eq_true rfl⟩) (zp0_S hK) rfl rfl hl.1 rfl (lv_room (Nat.le_of_ble_eq_true rfl)) dX7_sheet_10 ⟨Nat.le_of_ble_eq_true rfl, Nat.le_of_ble_eq_true rfl⟩) hP hS hA (fun r_9 u_10 H locs w_11 hP hS => ?_)
      rcases w_11 with ⟨e_13, h_12⟩ | ⟨e_15, h_14⟩
      · skip
        replace e_13 : r_9 = 1 := e_13
        subst e_13
        replace h_12 : (0 : Int32).toInt ≤ ty.toInt ∧ ty.toInt ≤ (2 : Int32).toInt := h_12
        rw [show (0 : Int32).toInt = 0 by decide, show (2 : Int32).toInt = 2 by decide] at h_12
        refine lv_if_eq (tgt := 22) hx hb dX7_sheet_13 (by decide) (fun c_16 => ?_) (fun c_16 => ?_)
        · skip
          exact absurd c_16 (by decide)
        · skip
          refine lv_iload_n hx hb dX7_sheet_16 rfl (lv_at hl 3 rfl) ?_
          refine lv_bipush (v := 60) hx hb dX7_sheet_17 (by decide) ?_
          refine lv_icmp_le (tgt := 25) hx hb dX7_sheet_19 (by decide) (fun c_17 => ?_) (fun c_17 => ?_)
          · skip
            have hc_17 := zb_le rfl (show (60 : Int32).toInt = 60 by decide) c_17
            refine lv_iload_n hx hb dX7_sheet_25 rfl (lv_at hl 3 rfl) ?_
            refine lv_if_ge (tgt := 35) hx hb dX7_sheet_26 (by decide) (fun c_18 => ?_) (fun c_18 => ?_)
            · skip
              have hc_18 := zb_le (show (0 : Int32).toInt = 0 by decide) rfl c_18
              refine lv_aload_n hx hb dX7_sheet_35 rfl (lv_at hl 0 rfl) ?_
              refine va_get (D := (dC, dI)) (ci := 7) (v := .ref (q 36)) (C := RX7) (T := TX7) (N := 42) hx hb htb inw7 hown hK.1 hP 0 rfl rfl 36 (by decide) (htb _ wmt3_203) (fun _ h9 => h9) rfl dX7_sheet_36 ?_
              refine lv_iload_n hx hb dX7_sheet_39 rfl (lv_at hl 1 rfl) ?_
              refine lv_iconst (v := 1) hx hb dX7_sheet_40 (by decide) ?_
              refine va_zast (D := (dC, dI)) hx hb hK.1 hP (hDa _) hS 20 2 rfl rfl (z_in (by omega)) dX7_sheet_41 (fun H locs hP _ hS => ?_)
              obtain ⟨f_19, ef_19⟩ : ∃ x : Nat → Int32, x = upd (z.2.2.1 36) z0.toNatClampNeg (vp_nar .boolean 1) := ⟨_, rfl⟩
              have hP : va_P (dC, dI) vwCl (zM k q (sA z 36 f_19)) H := by rw [ef_19]; exact hP
              refine lv_aload_n hx hb dX7_sheet_42 rfl (lv_at hl 0 rfl) ?_
              refine va_get (D := (dC, dI)) (ci := 7) (v := .ref (q 37)) (C := RX7) (T := TX7) (N := 42) hx hb htb inw7 hown hK.1 hP 0 rfl rfl 37 (by decide) (htb _ wmt3_204) (fun _ h9 => h9) rfl dX7_sheet_43 ?_
              refine lv_iload_n hx hb dX7_sheet_46 rfl (lv_at hl 1 rfl) ?_
              refine lv_iload_n hx hb dX7_sheet_47 rfl (lv_at hl 2 rfl) ?_
              refine va_iast (D := (dC, dI)) hx hb hK.1 hP (hDa _) hS 21 0 rfl rfl (z_in (by omega)) dX7_sheet_48 (fun H locs hP _ hS => ?_)
              obtain ⟨f_20, ef_20⟩ : ∃ x : Nat → Int32, x = upd (z.2.2.1 37) z0.toNatClampNeg ty := ⟨_, rfl⟩
              have hP : va_P (dC, dI) vwCl (zM k q (sA (sA z 36 f_19) 37 f_20)) H := by rw [ef_20]; exact hP
              refine lv_aload_n hx hb dX7_sheet_49 rfl (lv_at hl 0 rfl) ?_
              refine va_get (D := (dC, dI)) (ci := 7) (v := .ref (q 38)) (C := RX7) (T := TX7) (N := 42) hx hb htb inw7 hown hK.1 hP 0 rfl rfl 38 (by decide) (htb _ wmt3_205) (fun _ h9 => h9) rfl dX7_sheet_50 ?_
              refine lv_iload_n hx hb dX7_sheet_53 rfl (lv_at hl 1 rfl) ?_
              refine lv_iload_n hx hb dX7_sheet_54 rfl (lv_at hl 3 rfl) ?_
              refine va_iast (D := (dC, dI)) hx hb hK.1 hP (hDa _) hS 22 0 rfl rfl (z_in (by omega)) dX7_sheet_55 (fun H locs hP _ hS => ?_)
              obtain ⟨f_21, ef_21⟩ : ∃ x : Nat → Int32, x = upd (z.2.2.1 38) z0.toNatClampNeg n := ⟨_, rfl⟩
              have hP : va_P (dC, dI) vwCl (zM k q (sA (sA (sA z 36 f_19) 37 f_20) 38 f_21)) H := by rw [ef_21]; exact hP
              refine lv_iconst (v := 0) hx hb dX7_sheet_56 (by decide) ?_
              refine lv_istore (lv' := [(4, .int 0), (0, .ref (q 0)), (1, .int z0), (2, .int ty), (3, .int n)]) hx hb dX7_sheet_57 hl (by decide) rfl (fun ls hl => ?_)
              obtain ⟨i, ei⟩ : ∃ x : Int32, 0 = x := ⟨_, rfl⟩
              obtain ⟨it, eit⟩ : ∃ x : Nat → Int32, z.2.2.1 39 = x := ⟨_, rfl⟩
              have hv59 : (0 ≤ i.toInt ∧ i.toInt ≤ 60) ∧ (ZR (z.2.2.1 39) it z0.toNatClampNeg i.toInt) := by subst ei eit; exact ⟨(by decide), (ZR_0 (by decide))⟩
              replace hl : lv_has ls 5 [(4, .int i), (0, .ref (q 0)), (1, .int z0), (2, .int ty), (3, .int n)] := by subst ei eit; exact hl
              replace hP : va_P (dC, dI) vwCl (zM k q (sA (sA (sA (sA z 36 f_19) 37 f_20) 38 f_21) 39 it)) H := by subst eit; exact hP
              clear ei eit
              obtain ⟨mm59, hm59⟩ : ∃ mm : Nat, mm = (60 - i.toInt).toNat := ⟨_, rfl⟩
              refine z_cut2 hP hS hl ?_
              clear hl hP
              intro H locs ls hP hS hl
              induction mm59 using Nat.strongRecOn generalizing i it H locs ls with
              | _ mm59 ih59 =>
                obtain ⟨hi, hzr⟩ := hv59
                refine lv_iload hx hb dX7_sheet_59 (lv_at hl 0 rfl) ?_
                refine lv_bipush (v := 60) hx hb dX7_sheet_61 (by decide) ?_
                refine lv_icmp_ge (tgt := 85) hx hb dX7_sheet_63 (by decide) (fun c_22 => ?_) (fun c_22 => ?_)
                · skip
                  have hc_22 := zb_le (show (60 : Int32).toInt = 60 by decide) rfl c_22
                  refine lv_iload_n hx hb dX7_sheet_85 rfl (lv_at hl 4 rfl) ?_
                  exact W.iret (v := n) hx hb hr (fun t ht hW => ⟨⟨n, (f_19, f_20, f_21, it, z.1 41), rfl, (show (MInv (sI (sA (sA (sA (sA z 36 f_19) 37 f_20) 38 f_21) 39 it) 41 (z.1 41))) ∧ (T3 f_20) ∧ ((n, trM (sI (sA (sA (sA (sA z 36 f_19) 37 f_20) 38 f_21) 39 it) 41 (z.1 41))) = tSheet (trM z) z0 ty n) from ⟨⟨hI.1, hI.2.1, hI.2.2.1, hI.2.2.2.1, (M4_upd hI.2.2.2.2.1 ef_21 (by omega)), hI.2.2.2.2.2⟩, T3_upd hT3 ef_20 (by omega), tSheet_ok (m := z0.toNatClampNeg) (by omega) (by omega) rfl (by rw [ef_19, ef_20, ef_21]; exact trM_sh (by decide) (z_cl4 (show 0 ≤ z0.toInt ∧ z0.toInt < 4 by omega)) hzr.1 (ZR_e hzr (by omega)))⟩), ⟨by rw [ht]; exact hP, hDa _⟩⟩, hS.F ht⟩) hS.2.2 dX7_sheet_86
                · skip
                  have hc_22 := zb_nle (show (60 : Int32).toInt = 60 by decide) rfl c_22
                  refine lv_aload_n hx hb dX7_sheet_66 rfl (lv_at hl 1 rfl) ?_
                  refine va_get (D := (dC, dI)) (ci := 7) (v := .ref (q 39)) (C := RX7) (T := TX7) (N := 42) hx hb htb inw7 hown hK.1 hP 0 rfl rfl 39 (by decide) (htb _ wmt3_206) (fun _ h9 => h9) rfl dX7_sheet_67 ?_
                  refine lv_bipush (v := 60) hx hb dX7_sheet_70 (by decide) ?_
                  refine lv_iload_n hx hb dX7_sheet_72 rfl (lv_at hl 2 rfl) ?_
                  refine lv_imul hx hb dX7_sheet_73 ?_
                  refine lv_topi (fun x_23 ex_23 => ?_)
                  have hx_23 := z_mul ex_23 (show (60 : Int32).toInt = 60 by decide) rfl (by omega)
                  refine lv_iload hx hb dX7_sheet_74 (lv_at hl 0 rfl) ?_
                  refine lv_iadd hx hb dX7_sheet_76 ?_
                  refine lv_topi (fun x_24 ex_24 => ?_)
                  have hx_24 := z_add ex_24 rfl rfl (by omega)
                  have hix : x_24.toNatClampNeg = 60 * z0.toNatClampNeg + i.toNatClampNeg := by have q1 := z_clamp (x := i) (by omega); have q2 := z_clamp (x := x_24) (by omega); have q3 := z_clamp (x := z0) (by omega); omega
                  refine lv_iconst (v := 0) hx hb dX7_sheet_77 (by decide) ?_
                  refine va_iast (D := (dC, dI)) hx hb hK.1 hP (hDa _) hS 23 0 rfl rfl (z_in (by omega)) dX7_sheet_78 (fun H locs hP _ hS => ?_)
                  obtain ⟨f_25, ef_25⟩ : ∃ x : Nat → Int32, x = upd it x_24.toNatClampNeg 0 := ⟨_, rfl⟩
                  have hP : va_P (dC, dI) vwCl (zM k q (sA (sA (sA (sA z 36 f_19) 37 f_20) 38 f_21) 39 f_25)) H := by rw [ef_25]; exact hP
                  obtain ⟨x_26, ex_26⟩ : ∃ y : Int32, y = i + 1 := ⟨_, rfl⟩
                  have hx_26 : x_26.toInt = i.toInt + 1 := z_add ex_26 rfl (show (1 : Int32).toInt = 1 by decide) (by omega)
                  refine lv_iinc (v := x_26) (lv' := [(4, .int x_26), (0, .ref (q 0)), (1, .int z0), (2, .int ty), (3, .int n)]) hx hb dX7_sheet_79 hl (k := 0) rfl (by rw [ex_26]; rfl) (by decide) rfl (fun ls hl => ?_)
                  refine lv_goto (tgt := 59) hx hb dX7_sheet_82 (by decide) ?_
                  exact ih59 ((60 - x_26.toInt).toNat) (by omega) x_26 f_25 ⟨(show 0 ≤ x_26.toInt ∧ x_26.toInt ≤ 60 by omega), (ZR_s hzr (by omega) hix ef_25 hx_26)⟩ rfl H locs ls hP hS (lv_sub hl [0, 1, 2, 3, 4] rfl)
            · skip
              have hc_18 := zb_nle (show (0 : Int32).toInt = 0 by decide) rfl c_18
              refine lv_aload_n hx hb dX7_sheet_29 rfl (lv_at hl 0 rfl) ?_
              refine lv_iconst (v := 5) hx hb dX7_sheet_30 (by decide) ?_
              refine zcA_i (w := (zM k q z)) (va_runV (As := [.int 5]) (rest := []) ⟨hx, hb, hml, hown, htb⟩ (c_X7_meets l dC dI k q z 5 _ hI) (cwV 1 htb (gzV wmt4_174 wmt4_176 wmp3_4 wmt1_8 wmt4_177) rfl rfl rfl (by decide +kernel) ⟨Nat.le_of_ble_eq_true rfl, Nat.le_of_ble_eq_true rfl⟩) (zpA_V (ci := 7) (q0 := 0) hK hP (hDa _) rfl rfl) rfl rfl hl.1 rfl (lv_room (Nat.le_of_ble_eq_true rfl)) dX7_sheet_31 ⟨Nat.le_of_ble_eq_true rfl, Nat.le_of_ble_eq_true rfl⟩) (hDa _) hS hA (fun r_27 u_28 H locs w_29 hP _ hS => ?_)
              obtain ⟨o41_30, rfl⟩ : ∃ y, y = u_28 := ⟨_, rfl⟩
              have hP : va_P (dC, dI) vwCl (zM k q (sI z 41 o41_30)) H := hP
              obtain ⟨h_31, h_32⟩ := w_29
              replace h_31 : MInv (sI z 41 o41_30) := h_31
              replace h_32 : r_27 = (-10) - (5 : Int32) := h_32
              have hI := h_31
              have hfd : r_27 = -15 := h_32.trans (by decide)
              exact W.iret (v := r_27) hx hb hr (fun t ht hW => ⟨⟨r_27, (z.2.2.1 36, z.2.2.1 37, z.2.2.1 38, z.2.2.1 39, o41_30), rfl, (show (MInv (sI (sA (sA (sA (sA z 36 (z.2.2.1 36)) 37 (z.2.2.1 37)) 38 (z.2.2.1 38)) 39 (z.2.2.1 39)) 41 o41_30)) ∧ (T3 (z.2.2.1 37)) ∧ ((r_27, trM (sI (sA (sA (sA (sA z 36 (z.2.2.1 36)) 37 (z.2.2.1 37)) 38 (z.2.2.1 38)) 39 (z.2.2.1 39)) 41 o41_30)) = tSheet (trM z) z0 ty n) from ⟨hI, hT3, tSheet_neg (by omega) (by omega) hfd rfl⟩), ⟨by rw [ht]; exact hP, hDa _⟩⟩, hS.F ht⟩) hS.2.2 dX7_sheet_34
          · skip
            have hc_17 := zb_nle rfl (show (60 : Int32).toInt = 60 by decide) c_17
            refine lv_bipush (v := (-2)) hx hb dX7_sheet_22 (by decide) ?_
            exact W.iret (v := (-2)) hx hb hr (fun t ht hW => ⟨⟨(-2), (z.2.2.1 36, z.2.2.1 37, z.2.2.1 38, z.2.2.1 39, z.1 41), rfl, (show (MInv (sI (sA (sA (sA (sA z 36 (z.2.2.1 36)) 37 (z.2.2.1 37)) 38 (z.2.2.1 38)) 39 (z.2.2.1 39)) 41 (z.1 41))) ∧ (T3 (z.2.2.1 37)) ∧ ((((-2) : Int32), trM (sI (sA (sA (sA (sA z 36 (z.2.2.1 36)) 37 (z.2.2.1 37)) 38 (z.2.2.1 38)) 39 (z.2.2.1 39)) 41 (z.1 41))) = tSheet (trM z) z0 ty n) from ⟨hI, hT3, tSheet_bad (by omega)⟩), ⟨by rw [ht]; exact hP, hDa _⟩⟩, hS.F ht⟩) hS.2.2 dX7_sheet_24
      · skip
        replace e_15 : r_9 = 0 := e_15
        subst e_15
        replace h_14 : ¬ ((0 : Int32).toInt ≤ ty.toInt ∧ ty.toInt ≤ (2 : Int32).toInt) := h_14
        rw [show (0 : Int32).toInt = 0 by decide, show (2 : Int32).toInt = 2 by decide] at h_14
        refine lv_if_eq (tgt := 22) hx hb dX7_sheet_13 (by decide) (fun c_34 => ?_) (fun c_34 => ?_)
        · skip
          refine lv_bipush (v := (-2)) hx hb dX7_sheet_22 (by decide) ?_
          exact W.iret (v := (-2)) hx hb hr (fun t ht hW => ⟨⟨(-2), (z.2.2.1 36, z.2.2.1 37, z.2.2.1 38, z.2.2.1 39, z.1 41), rfl, (show (MInv (sI (sA (sA (sA (sA z 36 (z.2.2.1 36)) 37 (z.2.2.1 37)) 38 (z.2.2.1 38)) 39 (z.2.2.1 39)) 41 (z.1 41))) ∧ (T3 (z.2.2.1 37)) ∧ ((((-2) : Int32), trM (sI (sA (sA (sA (sA z 36 (z.2.2.1 36)) 37 (z.2.2.1 37)) 38 (z.2.2.1 38)) 39 (z.2.2.1 39)) 41 (z.1 41))) = tSheet (trM z) z0 ty n) from ⟨hI, hT3, tSheet_bad (by omega)⟩), ⟨by rw [ht]; exact hP, hDa _⟩⟩, hS.F ht⟩) hS.2.2 dX7_sheet_24
        · skip
          exact absurd (by decide) c_34
  · skip
    replace e_7 : r_1 = 0 := e_7
    subst e_7
    replace h_6 : ¬ (0 ≤ z0.toInt ∧ z0.toInt < 4) := h_6
    refine lv_if_eq (tgt := 22) hx hb dX7_sheet_4 (by decide) (fun c_35 => ?_) (fun c_35 => ?_)
    · skip
      refine lv_bipush (v := (-2)) hx hb dX7_sheet_22 (by decide) ?_
      exact W.iret (v := (-2)) hx hb hr (fun t ht hW => ⟨⟨(-2), (z.2.2.1 36, z.2.2.1 37, z.2.2.1 38, z.2.2.1 39, z.1 41), rfl, (show (MInv (sI (sA (sA (sA (sA z 36 (z.2.2.1 36)) 37 (z.2.2.1 37)) 38 (z.2.2.1 38)) 39 (z.2.2.1 39)) 41 (z.1 41))) ∧ (T3 (z.2.2.1 37)) ∧ ((((-2) : Int32), trM (sI (sA (sA (sA (sA z 36 (z.2.2.1 36)) 37 (z.2.2.1 37)) 38 (z.2.2.1 38)) 39 (z.2.2.1 39)) 41 (z.1 41))) = tSheet (trM z) z0 ty n) from ⟨hI, hT3, tSheet_bad (by omega)⟩), ⟨by rw [ht]; exact hP, hDa _⟩⟩, hS.F ht⟩) hS.2.2 dX7_sheet_24
    · skip
      exact absurd (by decide) c_35
set_option maxHeartbeats 4000000 in
set_option maxRecDepth 100000 in
theorem c_X7_lose (l : Launch) (dC : Nat → ClassId) (dI : Nat → Nat → Nat) (k : Nat → ClassId) (q : Nat → Nat) (z : ZS) (z0 : Int32) (sz : Nat) (hI : MInv z) (hT3 : T3 (z.2.2.1 37)) : Met l yX7_lose (wz yX7_lose cX7_lose 2 (some .int)) ({ frames := 2, cells := 0, slots := 0, locals := 42 }) (va_Pc [.ref (q 0), .int z0] (zPre dC dI k (zTX k) (zM k q z) sz)) (va_Qi (fun (r : Int32) (u : (Nat → Int32) × Int32) => (MInv (sI (sA z 36 u.1) 41 u.2)) ∧ ((r, trM (sI (sA z 36 u.1) 41 u.2)) = tLose (trM z) z0)) (fun u t => zPost dC dI (va_A (zM k q z) sz) (zM k q (sI (sA z 36 u.1) 41 u.2)) t) (va_A (zM k q z) sz)) 0 0 (va_A (zM k q z) sz) := by
  refine Met.ofW (cc := cX7_lose) (maxL := 2) (ret := (some .int)) (by decide) rfl ?_
  intro p e s m args below meth c s₁ B hml hv
  obtain ⟨rfl, hsz, hP, hK, hD0⟩ := hv
  have hx := B.exec
  have hb := B.bytes
  have hr := B.returns
  have hts := atoms_spec (ws := wz yX7_lose cX7_lose 2 (some .int)) B.pre
  have htb : ∀ w ∈ zw, w.before _ s = true := fun w h => hts w (List.mem_cons_of_mem _ h)
  have hown : s.vm.findClass RX7 = some m.cls := findClass_of_methodNamed B.named
  have hlocks := B.notSynchronized
  clear hts
  subst hsz
  have hD := hD0.self (sz := s.heap.size)
  generalize hAe : va_A (zM k q z) s.heap.size = A at hD ⊢
  have hA : ∀ q : Nat, s.heap.size ≤ q → A q := fun q h => by rw [← hAe]; exact Or.inr h
  have hDa : ∀ z9 : ZS, va_D A (zM k q z9) := fun z9 => va_D_adr (w := zM k q z) rfl hD
  have hl := lv_entry ([.ref (q 0), .int z0]) (n := 2) (Nat.le_of_ble_eq_true rfl)
  rw [lg_entry_eq]
  generalize (lg_sl ([.ref (q 0), .int z0]) ++ List.replicate (2 - (lg_sl ([.ref (q 0), .int z0])).length) Slot.unset).toArray = ls at hl ⊢
  have hl : lv_has ls 2 [(0, .ref (q 0)), (1, .int z0)] := hl
  refine z_start2 (A := A) (w := (zM k q z)) hP (fun H locs hP hS => ?_)
  clear hD0 hAe
  refine lv_iload_n hx hb dX7_lose_0 rfl (lv_at hl 1 rfl) ?_
  refine zc0_i (w := (zM k q z)) (va_runS (As := [.int z0]) (rest := []) ⟨hx, hb, hml, hown, htb⟩ (c_X7_isSheet l dC dI k z0 _ ) (va_cwS 1 htb (gzS wmt4_171 wmt4_172 wmt1_8 wmt4_173) rfl rfl rfl (by decide +kernel) ⟨Nat.le_of_ble_eq_true rfl, Nat.le_of_ble_eq_true rfl⟩) (zp0_S hK) rfl rfl hl.1 rfl (lv_room (Nat.le_of_ble_eq_true rfl)) dX7_lose_1 ⟨Nat.le_of_ble_eq_true rfl, Nat.le_of_ble_eq_true rfl⟩) hP hS hA (fun r_1 u_2 H locs w_3 hP hS => ?_)
  rcases w_3 with ⟨e_5, h_4⟩ | ⟨e_7, h_6⟩
  · skip
    replace e_5 : r_1 = 1 := e_5
    subst e_5
    replace h_4 : 0 ≤ z0.toInt ∧ z0.toInt < 4 := h_4
    refine lv_if_ne (tgt := 10) hx hb dX7_lose_4 (by decide) (fun c_8 => ?_) (fun c_8 => ?_)
    · skip
      refine lv_aload_n hx hb dX7_lose_10 rfl (lv_at hl 0 rfl) ?_
      refine va_get (D := (dC, dI)) (ci := 7) (v := .ref (q 36)) (C := RX7) (T := TX7) (N := 42) hx hb htb inw7 hown hK.1 hP 0 rfl rfl 36 (by decide) (htb _ wmt3_203) (fun _ h9 => h9) rfl dX7_lose_11 ?_
      refine lv_iload_n hx hb dX7_lose_14 rfl (lv_at hl 1 rfl) ?_
      refine va_zald (D := (dC, dI)) hx hb hK.1 hP 20 2 rfl rfl (z_in (by omega)) dX7_lose_15 ?_
      refine lv_topi (fun x_9 ex_9 => ?_)
      have hx_9 : x_9.toInt = ((z.2.2.1 36) z0.toNatClampNeg).toInt := by rw [ex_9]
      refine lv_if_ne (tgt := 25) hx hb dX7_lose_16 (by decide) (fun c_10 => ?_) (fun c_10 => ?_)
      · skip
        have hc_10 := zb_ne rfl (show (0 : Int32).toInt = 0 by decide) c_10
        refine lv_aload_n hx hb dX7_lose_25 rfl (lv_at hl 0 rfl) ?_
        refine va_get (D := (dC, dI)) (ci := 7) (v := .ref (q 36)) (C := RX7) (T := TX7) (N := 42) hx hb htb inw7 hown hK.1 hP 0 rfl rfl 36 (by decide) (htb _ wmt3_203) (fun _ h9 => h9) rfl dX7_lose_26 ?_
        refine lv_iload_n hx hb dX7_lose_29 rfl (lv_at hl 1 rfl) ?_
        refine lv_iconst (v := 0) hx hb dX7_lose_30 (by decide) ?_
        refine va_zast (D := (dC, dI)) hx hb hK.1 hP (hDa _) hS 20 2 rfl rfl (z_in (by omega)) dX7_lose_31 (fun H locs hP _ hS => ?_)
        obtain ⟨f_11, ef_11⟩ : ∃ x : Nat → Int32, x = upd (z.2.2.1 36) z0.toNatClampNeg (vp_nar .boolean 0) := ⟨_, rfl⟩
        have hP : va_P (dC, dI) vwCl (zM k q (sA z 36 f_11)) H := by rw [ef_11]; exact hP
        refine lv_aload_n hx hb dX7_lose_32 rfl (lv_at hl 0 rfl) ?_
        refine va_get (D := (dC, dI)) (ci := 7) (v := .ref (q 38)) (C := RX7) (T := TX7) (N := 42) hx hb htb inw7 hown hK.1 hP 0 rfl rfl 38 (by decide) (htb _ wmt3_205) (fun _ h9 => h9) rfl dX7_lose_33 ?_
        refine lv_iload_n hx hb dX7_lose_36 rfl (lv_at hl 1 rfl) ?_
        refine va_iald (D := (dC, dI)) hx hb hK.1 hP 22 0 rfl rfl (z_in (by omega)) dX7_lose_37 ?_
        refine lv_topi (fun x_12 ex_12 => ?_)
        replace ex_12 : x_12 = (z.2.2.1 38) z0.toNatClampNeg := ex_12
        exact W.iret (v := x_12) hx hb hr (fun t ht hW => ⟨⟨x_12, (f_11, z.1 41), rfl, (show (MInv (sI (sA z 36 f_11) 41 (z.1 41))) ∧ ((x_12, trM (sI (sA z 36 f_11) 41 (z.1 41))) = tLose (trM z) z0) from ⟨hI, tLose_ok (m := z0.toNatClampNeg) (by omega) rfl ((trM_Kg (z_cl4 (show 0 ≤ z0.toInt ∧ z0.toInt < 4 by omega))).1.trans (kM_in (by omega)).1) (by have q := hT3 _ (z_cl4 (show 0 ≤ z0.toInt ∧ z0.toInt < 4 by omega)); omega) ((trM_Kg (z_cl4 (show 0 ≤ z0.toInt ∧ z0.toInt < 4 by omega))).2.trans ((kM_in (by omega)).2.trans ex_12.symm)) (by rw [ef_11]; exact trM_lo (by decide) (z_cl4 (show 0 ≤ z0.toInt ∧ z0.toInt < 4 by omega)))⟩), ⟨by rw [ht]; exact hP, hDa _⟩⟩, hS.F ht⟩) hS.2.2 dX7_lose_38
      · skip
        have hc_10 := zb_eq rfl (show (0 : Int32).toInt = 0 by decide) c_10
        refine lv_aload_n hx hb dX7_lose_19 rfl (lv_at hl 0 rfl) ?_
        refine lv_iconst (v := 1) hx hb dX7_lose_20 (by decide) ?_
        refine zcA_i (w := (zM k q z)) (va_runV (As := [.int 1]) (rest := []) ⟨hx, hb, hml, hown, htb⟩ (c_X7_meets l dC dI k q z 1 _ hI) (cwV 1 htb (gzV wmt4_174 wmt4_176 wmp3_4 wmt1_8 wmt4_177) rfl rfl rfl (by decide +kernel) ⟨Nat.le_of_ble_eq_true rfl, Nat.le_of_ble_eq_true rfl⟩) (zpA_V (ci := 7) (q0 := 0) hK hP (hDa _) rfl rfl) rfl rfl hl.1 rfl (lv_room (Nat.le_of_ble_eq_true rfl)) dX7_lose_21 ⟨Nat.le_of_ble_eq_true rfl, Nat.le_of_ble_eq_true rfl⟩) (hDa _) hS hA (fun r_13 u_14 H locs w_15 hP _ hS => ?_)
        obtain ⟨o41_16, rfl⟩ : ∃ y, y = u_14 := ⟨_, rfl⟩
        have hP : va_P (dC, dI) vwCl (zM k q (sI z 41 o41_16)) H := hP
        obtain ⟨h_17, h_18⟩ := w_15
        replace h_17 : MInv (sI z 41 o41_16) := h_17
        replace h_18 : r_13 = (-10) - (1 : Int32) := h_18
        have hI := h_17
        have hfd : r_13 = -11 := h_18.trans (by decide)
        exact W.iret (v := r_13) hx hb hr (fun t ht hW => ⟨⟨r_13, (z.2.2.1 36, o41_16), rfl, (show (MInv (sI (sA z 36 (z.2.2.1 36)) 41 o41_16)) ∧ ((r_13, trM (sI (sA z 36 (z.2.2.1 36)) 41 o41_16)) = tLose (trM z) z0) from ⟨hI, tLose_lost (m := z0.toNatClampNeg) (by omega) rfl ((trM_Kg (z_cl4 (show 0 ≤ z0.toInt ∧ z0.toInt < 4 by omega))).1.trans (kM_out (by omega)).1) (by decide) hfd rfl⟩), ⟨by rw [ht]; exact hP, hDa _⟩⟩, hS.F ht⟩) hS.2.2 dX7_lose_24
    · skip
      exact absurd c_8 (by decide)
  · skip
    replace e_7 : r_1 = 0 := e_7
    subst e_7
    replace h_6 : ¬ (0 ≤ z0.toInt ∧ z0.toInt < 4) := h_6
    refine lv_if_ne (tgt := 10) hx hb dX7_lose_4 (by decide) (fun c_20 => ?_) (fun c_20 => ?_)
    · skip
      exact absurd c_20 (by decide)
    · skip
      refine lv_bipush (v := (-2)) hx hb dX7_lose_7 (by decide) ?_
      exact W.iret (v := (-2)) hx hb hr (fun t ht hW => ⟨⟨(-2), (z.2.2.1 36, z.1 41), rfl, (show (MInv (sI (sA z 36 (z.2.2.1 36)) 41 (z.1 41))) ∧ ((((-2) : Int32), trM (sI (sA z 36 (z.2.2.1 36)) 41 (z.1 41))) = tLose (trM z) z0) from ⟨hI, tLose_bad (by omega)⟩), ⟨by rw [ht]; exact hP, hDa _⟩⟩, hS.F ht⟩) hS.2.2 dX7_lose_9
set_option maxHeartbeats 4000000 in
set_option maxRecDepth 100000 in
theorem c_X7_lacks (l : Launch) (dC : Nat → ClassId) (dI : Nat → Nat → Nat) (k : Nat → ClassId) (q : Nat → Nat) (z : ZS) (z0 : Int32) (ty : Int32) (i : Int32) (sz : Nat) (hI : MInv z) (hz : 0 ≤ z0.toInt ∧ z0.toInt < 4) : Met l yX7_lacks (wz yX7_lacks cX7_lacks 4 (some .int)) ({ frames := 1, cells := 0, slots := 0, locals := 22 }) (va_Pc [.ref (q 0), .int z0, .int ty, .int i] (zPre dC dI k (zTX k) (zM k q z) sz)) (va_Qi (fun (r : Int32) (u : Unit) => (r = 1 ∧ ((z.2.2.1 36 z0.toNatClampNeg).toInt = 0)) ∨ (r = 3 ∧ (¬ (z.2.2.1 36 z0.toNatClampNeg).toInt = 0) ∧ (¬ (z.2.2.1 37 z0.toNatClampNeg).toInt = ty.toInt)) ∨ (r = 2 ∧ (¬ (z.2.2.1 36 z0.toNatClampNeg).toInt = 0) ∧ ((z.2.2.1 37 z0.toNatClampNeg).toInt = ty.toInt) ∧ (¬ (0 ≤ i.toInt ∧ i.toInt < (z.2.2.1 38 z0.toNatClampNeg).toInt))) ∨ (r = 0 ∧ (¬ (z.2.2.1 36 z0.toNatClampNeg).toInt = 0) ∧ ((z.2.2.1 37 z0.toNatClampNeg).toInt = ty.toInt) ∧ (0 ≤ i.toInt ∧ i.toInt < (z.2.2.1 38 z0.toNatClampNeg).toInt))) (fun u t => zPost dC dI (va_A (zM k q z) sz) (zM k q z) t) (va_A (zM k q z) sz)) 0 0 (va_A (zM k q z) sz) := by
  refine Met.ofW (cc := cX7_lacks) (maxL := 4) (ret := (some .int)) (by decide) rfl ?_
  intro p e s m args below meth c s₁ B hml hv
  obtain ⟨rfl, hsz, hP, hK, hD0⟩ := hv
  have hx := B.exec
  have hb := B.bytes
  have hr := B.returns
  have hts := atoms_spec (ws := wz yX7_lacks cX7_lacks 4 (some .int)) B.pre
  have htb : ∀ w ∈ zw, w.before _ s = true := fun w h => hts w (List.mem_cons_of_mem _ h)
  have hown : s.vm.findClass RX7 = some m.cls := findClass_of_methodNamed B.named
  have hlocks := B.notSynchronized
  clear hts
  subst hsz
  have hD := hD0.self (sz := s.heap.size)
  generalize hAe : va_A (zM k q z) s.heap.size = A at hD ⊢
  have hA : ∀ q : Nat, s.heap.size ≤ q → A q := fun q h => by rw [← hAe]; exact Or.inr h
  have hDa : ∀ z9 : ZS, va_D A (zM k q z9) := fun z9 => va_D_adr (w := zM k q z) rfl hD
  have hl := lv_entry ([.ref (q 0), .int z0, .int ty, .int i]) (n := 4) (Nat.le_of_ble_eq_true rfl)
  rw [lg_entry_eq]
  generalize (lg_sl ([.ref (q 0), .int z0, .int ty, .int i]) ++ List.replicate (4 - (lg_sl ([.ref (q 0), .int z0, .int ty, .int i])).length) Slot.unset).toArray = ls at hl ⊢
  have hl : lv_has ls 4 [(0, .ref (q 0)), (1, .int z0), (2, .int ty), (3, .int i)] := hl
  refine z_start2 (A := A) (w := (zM k q z)) hP (fun H locs hP hS => ?_)
  clear hD0 hAe
  refine lv_aload_n hx hb dX7_lacks_0 rfl (lv_at hl 0 rfl) ?_
  refine va_get (D := (dC, dI)) (ci := 7) (v := .ref (q 36)) (C := RX7) (T := TX7) (N := 42) hx hb htb inw7 hown hK.1 hP 0 rfl rfl 36 (by decide) (htb _ wmt3_203) (fun _ h9 => h9) rfl dX7_lacks_1 ?_
  refine lv_iload_n hx hb dX7_lacks_4 rfl (lv_at hl 1 rfl) ?_
  refine va_zald (D := (dC, dI)) hx hb hK.1 hP 20 2 rfl rfl (z_in (by omega)) dX7_lacks_5 ?_
  refine lv_topi (fun x_1 ex_1 => ?_)
  have hx_1 : x_1.toInt = ((z.2.2.1 36) z0.toNatClampNeg).toInt := by rw [ex_1]
  refine lv_if_ne (tgt := 13) hx hb dX7_lacks_6 (by decide) (fun c_2 => ?_) (fun c_2 => ?_)
  · skip
    have hc_2 := zb_ne rfl (show (0 : Int32).toInt = 0 by decide) c_2
    refine lv_aload_n hx hb dX7_lacks_13 rfl (lv_at hl 0 rfl) ?_
    refine va_get (D := (dC, dI)) (ci := 7) (v := .ref (q 37)) (C := RX7) (T := TX7) (N := 42) hx hb htb inw7 hown hK.1 hP 0 rfl rfl 37 (by decide) (htb _ wmt3_204) (fun _ h9 => h9) rfl dX7_lacks_14 ?_
    refine lv_iload_n hx hb dX7_lacks_17 rfl (lv_at hl 1 rfl) ?_
    refine va_iald (D := (dC, dI)) hx hb hK.1 hP 21 0 rfl rfl (z_in (by omega)) dX7_lacks_18 ?_
    refine lv_topi (fun x_3 ex_3 => ?_)
    have hx_3 : x_3.toInt = ((z.2.2.1 37) z0.toNatClampNeg).toInt := by rw [ex_3]
    refine lv_iload_n hx hb dX7_lacks_19 rfl (lv_at hl 2 rfl) ?_
    refine lv_icmp_eq (tgt := 27) hx hb dX7_lacks_20 (by decide) (fun c_4 => ?_) (fun c_4 => ?_)
    · skip
      have hc_4 := zb_eq rfl rfl c_4
      refine lv_iload_n hx hb dX7_lacks_27 rfl (lv_at hl 3 rfl) ?_
      refine lv_iconst (v := 0) hx hb dX7_lacks_28 (by decide) ?_
      refine lv_aload_n hx hb dX7_lacks_29 rfl (lv_at hl 0 rfl) ?_
      refine va_get (D := (dC, dI)) (ci := 7) (v := .ref (q 38)) (C := RX7) (T := TX7) (N := 42) hx hb htb inw7 hown hK.1 hP 0 rfl rfl 38 (by decide) (htb _ wmt3_205) (fun _ h9 => h9) rfl dX7_lacks_30 ?_
      refine lv_iload_n hx hb dX7_lacks_33 rfl (lv_at hl 1 rfl) ?_
      refine va_iald (D := (dC, dI)) hx hb hK.1 hP 22 0 rfl rfl (z_in (by omega)) dX7_lacks_34 ?_
      refine lv_topi (fun x_5 ex_5 => ?_)
      have hx_5 : x_5.toInt = ((z.2.2.1 38) z0.toNatClampNeg).toInt := by rw [ex_5]
      have hmx_5 := M4_at (show M4 (z.2.2.1 38) from hI.2.2.2.2.1) (show 0 ≤ z0.toInt ∧ z0.toInt < 4 by omega)
      refine lv_iconst (v := 1) hx hb dX7_lacks_35 (by decide) ?_
      refine lv_isub hx hb dX7_lacks_36 ?_
      refine lv_topi (fun x_6 ex_6 => ?_)
      have hx_6 := z_sub ex_6 rfl (show (1 : Int32).toInt = 1 by decide) (by omega)
      refine zc0_i (w := (zM k q z)) (va_runS (As := [.int i, .int 0, .int x_6]) (rest := []) ⟨hx, hb, hml, hown, htb⟩ (c_X7_in l dC dI k i 0 x_6 _ ) (va_cwS 3 htb (gzS wmt4_62 wmt4_63 wmt1_8 wmt4_64) rfl rfl rfl (by decide +kernel) ⟨Nat.le_of_ble_eq_true rfl, Nat.le_of_ble_eq_true rfl⟩) (zp0_S hK) rfl rfl hl.1 rfl (lv_room (Nat.le_of_ble_eq_true rfl)) dX7_lacks_37 ⟨Nat.le_of_ble_eq_true rfl, Nat.le_of_ble_eq_true rfl⟩) hP hS hA (fun r_7 u_8 H locs w_9 hP hS => ?_)
      rcases w_9 with ⟨e_11, h_10⟩ | ⟨e_13, h_12⟩
      · skip
        replace e_11 : r_7 = 1 := e_11
        subst e_11
        replace h_10 : (0 : Int32).toInt ≤ i.toInt ∧ i.toInt ≤ x_6.toInt := h_10
        rw [show (0 : Int32).toInt = 0 by decide] at h_10
        refine lv_if_eq (tgt := 47) hx hb dX7_lacks_40 (by decide) (fun c_14 => ?_) (fun c_14 => ?_)
        · skip
          exact absurd c_14 (by decide)
        · skip
          refine lv_iconst (v := 0) hx hb dX7_lacks_43 (by decide) ?_
          refine lv_goto (tgt := 48) hx hb dX7_lacks_44 (by decide) ?_
          exact W.iret (v := 0) hx hb hr (fun t ht hW => ⟨⟨0, (), rfl, Or.inr (Or.inr (Or.inr (⟨rfl, (by first | assumption | omega | decide | rfl), (by first | assumption | omega | decide | rfl), (by first | assumption | omega | decide | rfl)⟩))), ⟨by rw [ht]; exact hP, hDa _⟩⟩, hS.F ht⟩) hS.2.2 dX7_lacks_48
      · skip
        replace e_13 : r_7 = 0 := e_13
        subst e_13
        replace h_12 : ¬ ((0 : Int32).toInt ≤ i.toInt ∧ i.toInt ≤ x_6.toInt) := h_12
        rw [show (0 : Int32).toInt = 0 by decide] at h_12
        refine lv_if_eq (tgt := 47) hx hb dX7_lacks_40 (by decide) (fun c_15 => ?_) (fun c_15 => ?_)
        · skip
          refine lv_iconst (v := 2) hx hb dX7_lacks_47 (by decide) ?_
          exact W.iret (v := 2) hx hb hr (fun t ht hW => ⟨⟨2, (), rfl, Or.inr (Or.inr (Or.inl (⟨rfl, (by first | assumption | omega | decide | rfl), (by first | assumption | omega | decide | rfl), (by first | assumption | omega | decide | rfl)⟩))), ⟨by rw [ht]; exact hP, hDa _⟩⟩, hS.F ht⟩) hS.2.2 dX7_lacks_48
        · skip
          exact absurd (by decide) c_15
    · skip
      have hc_4 := zb_ne rfl rfl c_4
      refine lv_iconst (v := 3) hx hb dX7_lacks_23 (by decide) ?_
      refine lv_goto (tgt := 48) hx hb dX7_lacks_24 (by decide) ?_
      exact W.iret (v := 3) hx hb hr (fun t ht hW => ⟨⟨3, (), rfl, Or.inr (Or.inl (⟨rfl, (by first | assumption | omega | decide | rfl), (by first | assumption | omega | decide | rfl)⟩)), ⟨by rw [ht]; exact hP, hDa _⟩⟩, hS.F ht⟩) hS.2.2 dX7_lacks_48
  · skip
    have hc_2 := zb_eq rfl (show (0 : Int32).toInt = 0 by decide) c_2
    refine lv_iconst (v := 1) hx hb dX7_lacks_9 (by decide) ?_
    refine lv_goto (tgt := 48) hx hb dX7_lacks_10 (by decide) ?_
    exact W.iret (v := 1) hx hb hr (fun t ht hW => ⟨⟨1, (), rfl, Or.inl (⟨rfl, (by first | assumption | omega | decide | rfl)⟩), ⟨by rw [ht]; exact hP, hDa _⟩⟩, hS.F ht⟩) hS.2.2 dX7_lacks_48
set_option maxHeartbeats 4000000 in
set_option maxRecDepth 100000 in
theorem c_X7_lay (l : Launch) (dC : Nat → ClassId) (dI : Nat → Nat → Nat) (k : Nat → ClassId) (q : Nat → Nat) (z : ZS) (z0 : Int32) (i : Int32) (v : Int32) (sz : Nat) (hz : 0 ≤ z0.toInt ∧ z0.toInt < 4) (hi : 0 ≤ i.toInt ∧ i.toInt < 60) : Met l yX7_lay (wz yX7_lay cX7_lay 4 none) ({ frames := 0, cells := 0, slots := 0, locals := 0 }) (va_Pc [.ref (q 0), .int z0, .int i, .int v] (zPre dC dI k (zTX k) (zM k q z) sz)) (va_Qv (fun (u : (Nat → Int32)) => (u = upd (z.2.2.1 39) (60 * z0.toNatClampNeg + i.toNatClampNeg) (nar3 (z.2.2.1 37 z0.toNatClampNeg) v))) (fun u t => zPost dC dI (va_A (zM k q z) sz) (zM k q (sA z 39 u)) t) (va_A (zM k q z) sz)) 0 0 (va_A (zM k q z) sz) := by
  refine Met.ofW (cc := cX7_lay) (maxL := 4) (ret := none) (by decide) rfl ?_
  intro p e s m args below meth c s₁ B hml hv
  obtain ⟨rfl, hsz, hP, hK, hD0⟩ := hv
  have hx := B.exec
  have hb := B.bytes
  have hr := B.returns
  have hts := atoms_spec (ws := wz yX7_lay cX7_lay 4 none) B.pre
  have htb : ∀ w ∈ zw, w.before _ s = true := fun w h => hts w (List.mem_cons_of_mem _ h)
  have hown : s.vm.findClass RX7 = some m.cls := findClass_of_methodNamed B.named
  have hlocks := B.notSynchronized
  clear hts
  subst hsz
  have hD := hD0.self (sz := s.heap.size)
  generalize hAe : va_A (zM k q z) s.heap.size = A at hD ⊢
  have hA : ∀ q : Nat, s.heap.size ≤ q → A q := fun q h => by rw [← hAe]; exact Or.inr h
  have hDa : ∀ z9 : ZS, va_D A (zM k q z9) := fun z9 => va_D_adr (w := zM k q z) rfl hD
  have hl := lv_entry ([.ref (q 0), .int z0, .int i, .int v]) (n := 4) (Nat.le_of_ble_eq_true rfl)
  rw [lg_entry_eq]
  generalize (lg_sl ([.ref (q 0), .int z0, .int i, .int v]) ++ List.replicate (4 - (lg_sl ([.ref (q 0), .int z0, .int i, .int v])).length) Slot.unset).toArray = ls at hl ⊢
  have hl : lv_has ls 4 [(0, .ref (q 0)), (1, .int z0), (2, .int i), (3, .int v)] := hl
  refine z_start2 (A := A) (w := (zM k q z)) hP (fun H locs hP hS => ?_)
  clear hD0 hAe
  refine lv_aload_n hx hb dX7_lay_0 rfl (lv_at hl 0 rfl) ?_
  refine va_get (D := (dC, dI)) (ci := 7) (v := .ref (q 39)) (C := RX7) (T := TX7) (N := 42) hx hb htb inw7 hown hK.1 hP 0 rfl rfl 39 (by decide) (htb _ wmt3_206) (fun _ h9 => h9) rfl dX7_lay_1 ?_
  refine lv_bipush (v := 60) hx hb dX7_lay_4 (by decide) ?_
  refine lv_iload_n hx hb dX7_lay_6 rfl (lv_at hl 1 rfl) ?_
  refine lv_imul hx hb dX7_lay_7 ?_
  refine lv_topi (fun x_1 ex_1 => ?_)
  have hx_1 := z_mul ex_1 (show (60 : Int32).toInt = 60 by decide) rfl (by omega)
  refine lv_iload_n hx hb dX7_lay_8 rfl (lv_at hl 2 rfl) ?_
  refine lv_iadd hx hb dX7_lay_9 ?_
  refine lv_topi (fun x_2 ex_2 => ?_)
  have hx_2 := z_add ex_2 rfl rfl (by omega)
  refine lv_aload_n hx hb dX7_lay_10 rfl (lv_at hl 0 rfl) ?_
  refine va_get (D := (dC, dI)) (ci := 7) (v := .ref (q 37)) (C := RX7) (T := TX7) (N := 42) hx hb htb inw7 hown hK.1 hP 0 rfl rfl 37 (by decide) (htb _ wmt3_204) (fun _ h9 => h9) rfl dX7_lay_11 ?_
  refine lv_iload_n hx hb dX7_lay_14 rfl (lv_at hl 1 rfl) ?_
  refine va_iald (D := (dC, dI)) hx hb hK.1 hP 21 0 rfl rfl (z_in (by omega)) dX7_lay_15 ?_
  refine lv_topi (fun x_3 ex_3 => ?_)
  have hx_3 : x_3.toInt = ((z.2.2.1 37) z0.toNatClampNeg).toInt := by rw [ex_3]
  refine lv_if_ne (tgt := 24) hx hb dX7_lay_16 (by decide) (fun c_4 => ?_) (fun c_4 => ?_)
  · skip
    have hc_4 := zb_ne rfl (show (0 : Int32).toInt = 0 by decide) c_4
    refine lv_aload_n hx hb dX7_lay_24 rfl (lv_at hl 0 rfl) ?_
    refine va_get (D := (dC, dI)) (ci := 7) (v := .ref (q 37)) (C := RX7) (T := TX7) (N := 42) hx hb htb inw7 hown hK.1 hP 0 rfl rfl 37 (by decide) (htb _ wmt3_204) (fun _ h9 => h9) rfl dX7_lay_25 ?_
    refine lv_iload_n hx hb dX7_lay_28 rfl (lv_at hl 1 rfl) ?_
    refine va_iald (D := (dC, dI)) hx hb hK.1 hP 21 0 rfl rfl (z_in (by omega)) dX7_lay_29 ?_
    refine lv_topi (fun x_5 ex_5 => ?_)
    have hx_5 : x_5.toInt = ((z.2.2.1 37) z0.toNatClampNeg).toInt := by rw [ex_5]
    refine lv_iconst (v := 1) hx hb dX7_lay_30 (by decide) ?_
    refine lv_icmp_ne (tgt := 39) hx hb dX7_lay_31 (by decide) (fun c_6 => ?_) (fun c_6 => ?_)
    · skip
      have hc_6 := zb_ne rfl (show (1 : Int32).toInt = 1 by decide) c_6
      refine lv_iload_n hx hb dX7_lay_39 rfl (lv_at hl 3 rfl) ?_
      refine va_iast (D := (dC, dI)) hx hb hK.1 hP (hDa _) hS 23 0 rfl rfl (z_in (by omega)) dX7_lay_40 (fun H locs hP _ hS => ?_)
      obtain ⟨f_7, ef_7⟩ : ∃ x : Nat → Int32, x = upd (z.2.2.1 39) x_2.toNatClampNeg v := ⟨_, rfl⟩
      have hP : va_P (dC, dI) vwCl (zM k q (sA z 39 f_7)) H := by rw [ef_7]; exact hP
      exact W.vret hx hb hr (fun t ht hW => ⟨⟨f_7, rfl, (show (f_7 = upd (z.2.2.1 39) (60 * z0.toNatClampNeg + i.toNatClampNeg) (nar3 (z.2.2.1 37 z0.toNatClampNeg) v)) from (by rw [ef_7, show x_2.toNatClampNeg = 60 * z0.toNatClampNeg + i.toNatClampNeg by have q1 := z_clamp (x := i) (by omega); have q2 := z_clamp (x := x_2) (by omega); have q3 := z_clamp (x := z0) (by omega); omega, nar3_2 (by omega) (by omega)])), ⟨by rw [ht]; exact hP, hDa _⟩⟩, hS.F ht⟩) hS.2.2 dX7_lay_41
    · skip
      have hc_6 := zb_eq rfl (show (1 : Int32).toInt = 1 by decide) c_6
      refine lv_iload_n hx hb dX7_lay_34 rfl (lv_at hl 3 rfl) ?_
      refine lv_i2s (v := v.toInt16.toInt32) hx hb dX7_lay_35 rfl ?_
      refine lv_topi (fun x_8 ex_8 => ?_)
      refine lv_goto (tgt := 40) hx hb dX7_lay_36 (by decide) ?_
      refine va_iast (D := (dC, dI)) hx hb hK.1 hP (hDa _) hS 23 0 rfl rfl (z_in (by omega)) dX7_lay_40 (fun H locs hP _ hS => ?_)
      obtain ⟨f_9, ef_9⟩ : ∃ x : Nat → Int32, x = upd (z.2.2.1 39) x_2.toNatClampNeg x_8 := ⟨_, rfl⟩
      have hP : va_P (dC, dI) vwCl (zM k q (sA z 39 f_9)) H := by rw [ef_9]; exact hP
      exact W.vret hx hb hr (fun t ht hW => ⟨⟨f_9, rfl, (show (f_9 = upd (z.2.2.1 39) (60 * z0.toNatClampNeg + i.toNatClampNeg) (nar3 (z.2.2.1 37 z0.toNatClampNeg) v)) from (by rw [ef_9, show x_2.toNatClampNeg = 60 * z0.toNatClampNeg + i.toNatClampNeg by have q1 := z_clamp (x := i) (by omega); have q2 := z_clamp (x := x_2) (by omega); have q3 := z_clamp (x := z0) (by omega); omega, ex_8, nar3_1 (by omega) (by omega)])), ⟨by rw [ht]; exact hP, hDa _⟩⟩, hS.F ht⟩) hS.2.2 dX7_lay_41
  · skip
    have hc_4 := zb_eq rfl (show (0 : Int32).toInt = 0 by decide) c_4
    refine lv_iload_n hx hb dX7_lay_19 rfl (lv_at hl 3 rfl) ?_
    refine lv_i2b (v := v.toInt8.toInt32) hx hb dX7_lay_20 rfl ?_
    refine lv_topi (fun x_10 ex_10 => ?_)
    refine lv_goto (tgt := 40) hx hb dX7_lay_21 (by decide) ?_
    refine va_iast (D := (dC, dI)) hx hb hK.1 hP (hDa _) hS 23 0 rfl rfl (z_in (by omega)) dX7_lay_40 (fun H locs hP _ hS => ?_)
    obtain ⟨f_11, ef_11⟩ : ∃ x : Nat → Int32, x = upd (z.2.2.1 39) x_2.toNatClampNeg x_10 := ⟨_, rfl⟩
    have hP : va_P (dC, dI) vwCl (zM k q (sA z 39 f_11)) H := by rw [ef_11]; exact hP
    exact W.vret hx hb hr (fun t ht hW => ⟨⟨f_11, rfl, (show (f_11 = upd (z.2.2.1 39) (60 * z0.toNatClampNeg + i.toNatClampNeg) (nar3 (z.2.2.1 37 z0.toNatClampNeg) v)) from (by rw [ef_11, show x_2.toNatClampNeg = 60 * z0.toNatClampNeg + i.toNatClampNeg by have q1 := z_clamp (x := i) (by omega); have q2 := z_clamp (x := x_2) (by omega); have q3 := z_clamp (x := z0) (by omega); omega, ex_10, nar3_0 (by omega)])), ⟨by rw [ht]; exact hP, hDa _⟩⟩, hS.F ht⟩) hS.2.2 dX7_lay_41
set_option maxHeartbeats 4000000 in
set_option maxRecDepth 100000 in
theorem c_X7_put (l : Launch) (dC : Nat → ClassId) (dI : Nat → Nat → Nat) (k : Nat → ClassId) (q : Nat → Nat) (z : ZS) (z0 : Int32) (ty : Int32) (i : Int32) (v : Int32) (sz : Nat) (hI : MInv z) (hT3 : T3 (z.2.2.1 37)) : Met l yX7_put (wz yX7_put cX7_put 6 (some .int)) ({ frames := 2, cells := 0, slots := 0, locals := 45 }) (va_Pc [.ref (q 0), .int z0, .int ty, .int i, .int v] (zPre dC dI k (zTX k) (zM k q z) sz)) (va_Qi (fun (r : Int32) (u : (Nat → Int32) × Int32) => (MInv (sI (sA z 39 u.1) 41 u.2)) ∧ ((r, trM (sI (sA z 39 u.1) 41 u.2)) = tPut2 (trM z) z0 ty i v)) (fun u t => zPost dC dI (va_A (zM k q z) sz) (zM k q (sI (sA z 39 u.1) 41 u.2)) t) (va_A (zM k q z) sz)) 0 0 (va_A (zM k q z) sz) := by
  refine Met.ofW (cc := cX7_put) (maxL := 6) (ret := (some .int)) (by decide) rfl ?_
  intro p e s m args below meth c s₁ B hml hv
  obtain ⟨rfl, hsz, hP, hK, hD0⟩ := hv
  have hx := B.exec
  have hb := B.bytes
  have hr := B.returns
  have hts := atoms_spec (ws := wz yX7_put cX7_put 6 (some .int)) B.pre
  have htb : ∀ w ∈ zw, w.before _ s = true := fun w h => hts w (List.mem_cons_of_mem _ h)
  have hown : s.vm.findClass RX7 = some m.cls := findClass_of_methodNamed B.named
  have hlocks := B.notSynchronized
  clear hts
  subst hsz
  have hD := hD0.self (sz := s.heap.size)
  generalize hAe : va_A (zM k q z) s.heap.size = A at hD ⊢
  have hA : ∀ q : Nat, s.heap.size ≤ q → A q := fun q h => by rw [← hAe]; exact Or.inr h
  have hDa : ∀ z9 : ZS, va_D A (zM k q z9) := fun z9 => va_D_adr (w := zM k q z) rfl hD
  have hl := lv_entry ([.ref (q 0), .int z0, .int ty, .int i, .int v]) (n := 6) (Nat.le_of_ble_eq_true rfl)
  rw [lg_entry_eq]
  generalize (lg_sl ([.ref (q 0), .int z0, .int ty, .int i, .int v]) ++ List.replicate (6 - (lg_sl ([.ref (q 0), .int z0, .int ty, .int i, .int v])).length) Slot.unset).toArray = ls at hl ⊢
  have hl : lv_has ls 6 [(0, .ref (q 0)), (1, .int z0), (2, .int ty), (3, .int i), (4, .int v)] := hl
  refine z_start2 (A := A) (w := (zM k q z)) hP (fun H locs hP hS => ?_)
  clear hD0 hAe
  refine lv_iload_n hx hb dX7_put_0 rfl (lv_at hl 1 rfl) ?_
  refine zc0_i (w := (zM k q z)) (va_runS (As := [.int z0]) (rest := []) ⟨hx, hb, hml, hown, htb⟩ (c_X7_isSheet l dC dI k z0 _ ) (va_cwS 1 htb (gzS wmt4_171 wmt4_172 wmt1_8 wmt4_173) rfl rfl rfl (by decide +kernel) ⟨Nat.le_of_ble_eq_true rfl, Nat.le_of_ble_eq_true rfl⟩) (zp0_S hK) rfl rfl hl.1 rfl (lv_room (Nat.le_of_ble_eq_true rfl)) dX7_put_1 ⟨Nat.le_of_ble_eq_true rfl, Nat.le_of_ble_eq_true rfl⟩) hP hS hA (fun r_1 u_2 H locs w_3 hP hS => ?_)
  rcases w_3 with ⟨e_5, h_4⟩ | ⟨e_7, h_6⟩
  · skip
    replace e_5 : r_1 = 1 := e_5
    subst e_5
    replace h_4 : 0 ≤ z0.toInt ∧ z0.toInt < 4 := h_4
    refine lv_if_eq (tgt := 16) hx hb dX7_put_4 (by decide) (fun c_8 => ?_) (fun c_8 => ?_)
    · skip
      exact absurd c_8 (by decide)
    · skip
      refine lv_iload_n hx hb dX7_put_7 rfl (lv_at hl 2 rfl) ?_
      refine lv_iconst (v := 0) hx hb dX7_put_8 (by decide) ?_
      refine lv_iconst (v := 2) hx hb dX7_put_9 (by decide) ?_
      refine zc0_i (w := (zM k q z)) (va_runS (As := [.int ty, .int 0, .int 2]) (rest := []) ⟨hx, hb, hml, hown, htb⟩ (c_X7_in l dC dI k ty 0 2 _ ) (va_cwS 3 htb (gzS wmt4_62 wmt4_63 wmt1_8 wmt4_64) rfl rfl rfl (by decide +kernel) ⟨Nat.le_of_ble_eq_true rfl, Nat.le_of_ble_eq_true rfl⟩) (zp0_S hK) rfl rfl hl.1 rfl (lv_room (Nat.le_of_ble_eq_true rfl)) dX7_put_10 ⟨Nat.le_of_ble_eq_true rfl, Nat.le_of_ble_eq_true rfl⟩) hP hS hA (fun r_9 u_10 H locs w_11 hP hS => ?_)
      rcases w_11 with ⟨e_13, h_12⟩ | ⟨e_15, h_14⟩
      · skip
        replace e_13 : r_9 = 1 := e_13
        subst e_13
        replace h_12 : (0 : Int32).toInt ≤ ty.toInt ∧ ty.toInt ≤ (2 : Int32).toInt := h_12
        rw [show (0 : Int32).toInt = 0 by decide, show (2 : Int32).toInt = 2 by decide] at h_12
        refine lv_if_ne (tgt := 19) hx hb dX7_put_13 (by decide) (fun c_16 => ?_) (fun c_16 => ?_)
        · skip
          refine lv_aload_n hx hb dX7_put_19 rfl (lv_at hl 0 rfl) ?_
          refine lv_iload_n hx hb dX7_put_20 rfl (lv_at hl 1 rfl) ?_
          refine lv_iload_n hx hb dX7_put_21 rfl (lv_at hl 2 rfl) ?_
          refine lv_iload_n hx hb dX7_put_22 rfl (lv_at hl 3 rfl) ?_
          refine zcA_i (w := (zM k q z)) (va_runV (As := [.int z0, .int ty, .int i]) (rest := []) ⟨hx, hb, hml, hown, htb⟩ (c_X7_lacks l dC dI k q z z0 ty i _ hI (show 0 ≤ z0.toInt ∧ z0.toInt < 4 by omega)) (cwV 3 htb (gzV wmt5_106 wmt5_108 wmp4_5 wmt1_8 wmt5_109) rfl rfl rfl (by decide +kernel) ⟨Nat.le_of_ble_eq_true rfl, Nat.le_of_ble_eq_true rfl⟩) (zpA_V (ci := 7) (q0 := 0) hK hP (hDa _) rfl rfl) rfl rfl hl.1 rfl (lv_room (Nat.le_of_ble_eq_true rfl)) dX7_put_23 ⟨Nat.le_of_ble_eq_true rfl, Nat.le_of_ble_eq_true rfl⟩) (hDa _) hS hA (fun r_17 u_18 H locs w_19 hP _ hS => ?_)
          rcases w_19 with ⟨e_21, h_20⟩ | ⟨e_24, h_22, h_23⟩ | ⟨e_28, h_25, h_26, h_27⟩ | ⟨e_32, h_29, h_30, h_31⟩
          · skip
            replace e_21 : r_17 = 1 := e_21
            subst e_21
            replace h_20 : ((z.2.2.1 36) z0.toNatClampNeg).toInt = 0 := h_20
            refine lv_istore (lv' := [(5, .int 1), (0, .ref (q 0)), (1, .int z0), (2, .int ty), (3, .int i), (4, .int v)]) hx hb dX7_put_26 hl (by decide) rfl (fun ls hl => ?_)
            refine lv_iload hx hb dX7_put_28 (lv_at hl 0 rfl) ?_
            refine lv_if_le (tgt := 40) hx hb dX7_put_30 (by decide) (fun c_33 => ?_) (fun c_33 => ?_)
            · skip
              exact absurd c_33 (by decide)
            · skip
              refine lv_aload_n hx hb dX7_put_33 rfl (lv_at hl 1 rfl) ?_
              refine lv_iload hx hb dX7_put_34 (lv_at hl 0 rfl) ?_
              refine zcA_i (w := (zM k q z)) (va_runV (As := [.int 1]) (rest := []) ⟨hx, hb, hml, hown, htb⟩ (c_X7_meets l dC dI k q z 1 _ hI) (cwV 1 htb (gzV wmt4_174 wmt4_176 wmp3_4 wmt1_8 wmt4_177) rfl rfl rfl (by decide +kernel) ⟨Nat.le_of_ble_eq_true rfl, Nat.le_of_ble_eq_true rfl⟩) (zpA_V (ci := 7) (q0 := 0) hK hP (hDa _) rfl rfl) rfl rfl hl.1 rfl (lv_room (Nat.le_of_ble_eq_true rfl)) dX7_put_36 ⟨Nat.le_of_ble_eq_true rfl, Nat.le_of_ble_eq_true rfl⟩) (hDa _) hS hA (fun r_34 u_35 H locs w_36 hP _ hS => ?_)
              obtain ⟨o41_37, rfl⟩ : ∃ y, y = u_35 := ⟨_, rfl⟩
              have hP : va_P (dC, dI) vwCl (zM k q (sI z 41 o41_37)) H := hP
              obtain ⟨h_38, h_39⟩ := w_36
              replace h_38 : MInv (sI z 41 o41_37) := h_38
              replace h_39 : r_34 = (-10) - (1 : Int32) := h_39
              have hI := h_38
              have hfd : r_34 = -11 := h_39.trans (by decide)
              exact W.iret (v := r_34) hx hb hr (fun t ht hW => ⟨⟨r_34, (z.2.2.1 39, o41_37), rfl, (show (MInv (sI (sA z 39 (z.2.2.1 39)) 41 o41_37)) ∧ ((r_34, trM (sI (sA z 39 (z.2.2.1 39)) 41 o41_37)) = tPut2 (trM z) z0 ty i v) from ⟨hI, tPut2_no (tPut_1 (m := z0.toNatClampNeg) (by omega) rfl ((trM_Kg (z_cl4 (show 0 ≤ z0.toInt ∧ z0.toInt < 4 by omega))).1.trans (kM_out h_20).1) (by decide) hfd) (by rw [hfd]; decide) rfl⟩), ⟨by rw [ht]; exact hP, hDa _⟩⟩, hS.F ht⟩) hS.2.2 dX7_put_39
          · skip
            replace e_24 : r_17 = 3 := e_24
            subst e_24
            replace h_22 : ¬ ((z.2.2.1 36) z0.toNatClampNeg).toInt = 0 := h_22
            replace h_23 : ¬ ((z.2.2.1 37) z0.toNatClampNeg).toInt = ty.toInt := h_23
            refine lv_istore (lv' := [(5, .int 3), (0, .ref (q 0)), (1, .int z0), (2, .int ty), (3, .int i), (4, .int v)]) hx hb dX7_put_26 hl (by decide) rfl (fun ls hl => ?_)
            refine lv_iload hx hb dX7_put_28 (lv_at hl 0 rfl) ?_
            refine lv_if_le (tgt := 40) hx hb dX7_put_30 (by decide) (fun c_41 => ?_) (fun c_41 => ?_)
            · skip
              exact absurd c_41 (by decide)
            · skip
              refine lv_aload_n hx hb dX7_put_33 rfl (lv_at hl 1 rfl) ?_
              refine lv_iload hx hb dX7_put_34 (lv_at hl 0 rfl) ?_
              refine zcA_i (w := (zM k q z)) (va_runV (As := [.int 3]) (rest := []) ⟨hx, hb, hml, hown, htb⟩ (c_X7_meets l dC dI k q z 3 _ hI) (cwV 1 htb (gzV wmt4_174 wmt4_176 wmp3_4 wmt1_8 wmt4_177) rfl rfl rfl (by decide +kernel) ⟨Nat.le_of_ble_eq_true rfl, Nat.le_of_ble_eq_true rfl⟩) (zpA_V (ci := 7) (q0 := 0) hK hP (hDa _) rfl rfl) rfl rfl hl.1 rfl (lv_room (Nat.le_of_ble_eq_true rfl)) dX7_put_36 ⟨Nat.le_of_ble_eq_true rfl, Nat.le_of_ble_eq_true rfl⟩) (hDa _) hS hA (fun r_42 u_43 H locs w_44 hP _ hS => ?_)
              obtain ⟨o41_45, rfl⟩ : ∃ y, y = u_43 := ⟨_, rfl⟩
              have hP : va_P (dC, dI) vwCl (zM k q (sI z 41 o41_45)) H := hP
              obtain ⟨h_46, h_47⟩ := w_44
              replace h_46 : MInv (sI z 41 o41_45) := h_46
              replace h_47 : r_42 = (-10) - (3 : Int32) := h_47
              have hI := h_46
              have hfd : r_42 = -13 := h_47.trans (by decide)
              exact W.iret (v := r_42) hx hb hr (fun t ht hW => ⟨⟨r_42, (z.2.2.1 39, o41_45), rfl, (show (MInv (sI (sA z 39 (z.2.2.1 39)) 41 o41_45)) ∧ ((r_42, trM (sI (sA z 39 (z.2.2.1 39)) 41 o41_45)) = tPut2 (trM z) z0 ty i v) from ⟨hI, tPut2_no (tPut_3 (m := z0.toNatClampNeg) (by omega) rfl ((trM_Kg (z_cl4 (show 0 ≤ z0.toInt ∧ z0.toInt < 4 by omega))).1.trans (kM_in h_22).1) (by have q := hT3 _ (z_cl4 (show 0 ≤ z0.toInt ∧ z0.toInt < 4 by omega)); omega) h_23 hfd) (by rw [hfd]; decide) rfl⟩), ⟨by rw [ht]; exact hP, hDa _⟩⟩, hS.F ht⟩) hS.2.2 dX7_put_39
          · skip
            replace e_28 : r_17 = 2 := e_28
            subst e_28
            replace h_25 : ¬ ((z.2.2.1 36) z0.toNatClampNeg).toInt = 0 := h_25
            replace h_26 : ((z.2.2.1 37) z0.toNatClampNeg).toInt = ty.toInt := h_26
            replace h_27 : ¬ (0 ≤ i.toInt ∧ i.toInt < ((z.2.2.1 38) z0.toNatClampNeg).toInt) := h_27
            refine lv_istore (lv' := [(5, .int 2), (0, .ref (q 0)), (1, .int z0), (2, .int ty), (3, .int i), (4, .int v)]) hx hb dX7_put_26 hl (by decide) rfl (fun ls hl => ?_)
            refine lv_iload hx hb dX7_put_28 (lv_at hl 0 rfl) ?_
            refine lv_if_le (tgt := 40) hx hb dX7_put_30 (by decide) (fun c_49 => ?_) (fun c_49 => ?_)
            · skip
              exact absurd c_49 (by decide)
            · skip
              refine lv_aload_n hx hb dX7_put_33 rfl (lv_at hl 1 rfl) ?_
              refine lv_iload hx hb dX7_put_34 (lv_at hl 0 rfl) ?_
              refine zcA_i (w := (zM k q z)) (va_runV (As := [.int 2]) (rest := []) ⟨hx, hb, hml, hown, htb⟩ (c_X7_meets l dC dI k q z 2 _ hI) (cwV 1 htb (gzV wmt4_174 wmt4_176 wmp3_4 wmt1_8 wmt4_177) rfl rfl rfl (by decide +kernel) ⟨Nat.le_of_ble_eq_true rfl, Nat.le_of_ble_eq_true rfl⟩) (zpA_V (ci := 7) (q0 := 0) hK hP (hDa _) rfl rfl) rfl rfl hl.1 rfl (lv_room (Nat.le_of_ble_eq_true rfl)) dX7_put_36 ⟨Nat.le_of_ble_eq_true rfl, Nat.le_of_ble_eq_true rfl⟩) (hDa _) hS hA (fun r_50 u_51 H locs w_52 hP _ hS => ?_)
              obtain ⟨o41_53, rfl⟩ : ∃ y, y = u_51 := ⟨_, rfl⟩
              have hP : va_P (dC, dI) vwCl (zM k q (sI z 41 o41_53)) H := hP
              obtain ⟨h_54, h_55⟩ := w_52
              replace h_54 : MInv (sI z 41 o41_53) := h_54
              replace h_55 : r_50 = (-10) - (2 : Int32) := h_55
              have hI := h_54
              have hfd : r_50 = -12 := h_55.trans (by decide)
              exact W.iret (v := r_50) hx hb hr (fun t ht hW => ⟨⟨r_50, (z.2.2.1 39, o41_53), rfl, (show (MInv (sI (sA z 39 (z.2.2.1 39)) 41 o41_53)) ∧ ((r_50, trM (sI (sA z 39 (z.2.2.1 39)) 41 o41_53)) = tPut2 (trM z) z0 ty i v) from ⟨hI, tPut2_no (tPut_2 (m := z0.toNatClampNeg) (by omega) rfl ((trM_Kg (z_cl4 (show 0 ≤ z0.toInt ∧ z0.toInt < 4 by omega))).1.trans (kM_in h_25).1) (by have q := hT3 _ (z_cl4 (show 0 ≤ z0.toInt ∧ z0.toInt < 4 by omega)); omega) h_26 ((trM_Kg (z_cl4 (show 0 ≤ z0.toInt ∧ z0.toInt < 4 by omega))).2.trans (kM_in h_25).2) h_27 hfd) (by rw [hfd]; decide) rfl⟩), ⟨by rw [ht]; exact hP, hDa _⟩⟩, hS.F ht⟩) hS.2.2 dX7_put_39
          · skip
            replace e_32 : r_17 = 0 := e_32
            subst e_32
            replace h_29 : ¬ ((z.2.2.1 36) z0.toNatClampNeg).toInt = 0 := h_29
            replace h_30 : ((z.2.2.1 37) z0.toNatClampNeg).toInt = ty.toInt := h_30
            replace h_31 : 0 ≤ i.toInt ∧ i.toInt < ((z.2.2.1 38) z0.toNatClampNeg).toInt := h_31
            have hlk := h_31
            have hlm := M4_at hI.2.2.2.2.1 (show 0 ≤ z0.toInt ∧ z0.toInt < 4 by omega)
            refine lv_istore (lv' := [(5, .int 0), (0, .ref (q 0)), (1, .int z0), (2, .int ty), (3, .int i), (4, .int v)]) hx hb dX7_put_26 hl (by decide) rfl (fun ls hl => ?_)
            refine lv_iload hx hb dX7_put_28 (lv_at hl 0 rfl) ?_
            refine lv_if_le (tgt := 40) hx hb dX7_put_30 (by decide) (fun c_57 => ?_) (fun c_57 => ?_)
            · skip
              refine lv_aload_n hx hb dX7_put_40 rfl (lv_at hl 1 rfl) ?_
              refine lv_iload_n hx hb dX7_put_41 rfl (lv_at hl 2 rfl) ?_
              refine lv_iload_n hx hb dX7_put_42 rfl (lv_at hl 4 rfl) ?_
              refine lv_iload hx hb dX7_put_43 (lv_at hl 5 rfl) ?_
              refine zcA_v (w := (zM k q z)) (va_runV (As := [.int z0, .int i, .int v]) (rest := []) ⟨hx, hb, hml, hown, htb⟩ (c_X7_lay l dC dI k q z z0 i v _ (show 0 ≤ z0.toInt ∧ z0.toInt < 4 by omega) (show 0 ≤ i.toInt ∧ i.toInt < 60 by omega)) (cwV 3 htb (gzV wmt5_110 wmt5_112 wmp4_6 wmt1_8 wmt5_113) rfl rfl rfl (by decide +kernel) ⟨Nat.le_of_ble_eq_true rfl, Nat.le_of_ble_eq_true rfl⟩) (zpA_V (ci := 7) (q0 := 0) hK hP (hDa _) rfl rfl) rfl rfl hl.1 rfl (lv_room (Nat.le_of_ble_eq_true rfl)) dX7_put_45 ⟨Nat.le_of_ble_eq_true rfl, Nat.le_of_ble_eq_true rfl⟩) (hDa _) hS hA (fun u_59 H locs w_60 hP _ hS => ?_)
              obtain ⟨o39_61, rfl⟩ : ∃ y, y = u_59 := ⟨_, rfl⟩
              have hP : va_P (dC, dI) vwCl (zM k q (sA z 39 o39_61)) H := hP
              have h_62 := w_60
              replace h_62 : o39_61 = upd ((z.2.2.1 39)) (60 * z0.toNatClampNeg + i.toNatClampNeg) (nar3 ((z.2.2.1 37) z0.toNatClampNeg) v) := h_62
              have hly := h_62
              refine lv_iconst (v := 1) hx hb dX7_put_48 (by decide) ?_
              exact W.iret (v := 1) hx hb hr (fun t ht hW => ⟨⟨1, (o39_61, z.1 41), rfl, (show (MInv (sI (sA z 39 o39_61) 41 (z.1 41))) ∧ (((1 : Int32), trM (sI (sA z 39 o39_61) 41 (z.1 41))) = tPut2 (trM z) z0 ty i v) from ⟨hI, tPut2_ok (m := z0.toNatClampNeg) (tPut_0 (m := z0.toNatClampNeg) (by omega) rfl ((trM_Kg (z_cl4 (show 0 ≤ z0.toInt ∧ z0.toInt < 4 by omega))).1.trans (kM_in h_29).1) (by have q := hT3 _ (z_cl4 (show 0 ≤ z0.toInt ∧ z0.toInt < 4 by omega)); omega) h_30 ((trM_Kg (z_cl4 (show 0 ≤ z0.toInt ∧ z0.toInt < 4 by omega))).2.trans (kM_in h_29).2) h_31 rfl) rfl rfl ((trM_39 (z := z) (y := sI (sA z 39 o39_61) 41 (z.1 41)) (f := o39_61) (x := nar3 (z.2.2.1 37 z0.toNatClampNeg) v) rfl (z_cl4 (show 0 ≤ z0.toInt ∧ z0.toInt < 4 by omega)) (show i.toNatClampNeg < 60 by have q1 := z_clamp (x := i) (by omega); omega) hly).trans (by rw [show tK (trM z) z0.toNatClampNeg = z.2.2.1 37 z0.toNatClampNeg from (trM_Kg (z_cl4 (show 0 ≤ z0.toInt ∧ z0.toInt < 4 by omega))).1.trans (kM_in h_29).1]))⟩), ⟨by rw [ht]; exact hP, hDa _⟩⟩, hS.F ht⟩) hS.2.2 dX7_put_49
            · skip
              exact absurd (by decide) c_57
        · skip
          exact absurd c_16 (by decide)
      · skip
        replace e_15 : r_9 = 0 := e_15
        subst e_15
        replace h_14 : ¬ ((0 : Int32).toInt ≤ ty.toInt ∧ ty.toInt ≤ (2 : Int32).toInt) := h_14
        rw [show (0 : Int32).toInt = 0 by decide, show (2 : Int32).toInt = 2 by decide] at h_14
        refine lv_if_ne (tgt := 19) hx hb dX7_put_13 (by decide) (fun c_64 => ?_) (fun c_64 => ?_)
        · skip
          exact absurd c_64 (by decide)
        · skip
          refine lv_bipush (v := (-2)) hx hb dX7_put_16 (by decide) ?_
          exact W.iret (v := (-2)) hx hb hr (fun t ht hW => ⟨⟨(-2), (z.2.2.1 39, z.1 41), rfl, (show (MInv (sI (sA z 39 (z.2.2.1 39)) 41 (z.1 41))) ∧ ((((-2) : Int32), trM (sI (sA z 39 (z.2.2.1 39)) 41 (z.1 41))) = tPut2 (trM z) z0 ty i v) from ⟨hI, tPut2_no (tPut_bad (by omega)) (by decide) rfl⟩), ⟨by rw [ht]; exact hP, hDa _⟩⟩, hS.F ht⟩) hS.2.2 dX7_put_18
  · skip
    replace e_7 : r_1 = 0 := e_7
    subst e_7
    replace h_6 : ¬ (0 ≤ z0.toInt ∧ z0.toInt < 4) := h_6
    refine lv_if_eq (tgt := 16) hx hb dX7_put_4 (by decide) (fun c_65 => ?_) (fun c_65 => ?_)
    · skip
      refine lv_bipush (v := (-2)) hx hb dX7_put_16 (by decide) ?_
      exact W.iret (v := (-2)) hx hb hr (fun t ht hW => ⟨⟨(-2), (z.2.2.1 39, z.1 41), rfl, (show (MInv (sI (sA z 39 (z.2.2.1 39)) 41 (z.1 41))) ∧ ((((-2) : Int32), trM (sI (sA z 39 (z.2.2.1 39)) 41 (z.1 41))) = tPut2 (trM z) z0 ty i v) from ⟨hI, tPut2_no (tPut_bad (by omega)) (by decide) rfl⟩), ⟨by rw [ht]; exact hP, hDa _⟩⟩, hS.F ht⟩) hS.2.2 dX7_put_18
    · skip
      exact absurd (by decide) c_65
set_option maxHeartbeats 4000000 in
set_option maxRecDepth 100000 in
theorem c_X7_get (l : Launch) (dC : Nat → ClassId) (dI : Nat → Nat → Nat) (k : Nat → ClassId) (q : Nat → Nat) (z : ZS) (z0 : Int32) (ty : Int32) (i : Int32) (sz : Nat) (hI : MInv z) : Met l yX7_get (wz yX7_get cX7_get 5 (some .int)) ({ frames := 2, cells := 0, slots := 0, locals := 45 }) (va_Pc [.ref (q 0), .int z0, .int ty, .int i] (zPre dC dI k (zTX k) (zM k q z) sz)) (va_Qi (fun (r : Int32) (u : Int32) => (MInv (sI z 41 u))) (fun u t => zPost dC dI (va_A (zM k q z) sz) (zM k q (sI z 41 u)) t) (va_A (zM k q z) sz)) 0 0 (va_A (zM k q z) sz) := by
  refine Met.ofW (cc := cX7_get) (maxL := 5) (ret := (some .int)) (by decide) rfl ?_
  intro p e s m args below meth c s₁ B hml hv
  obtain ⟨rfl, hsz, hP, hK, hD0⟩ := hv
  have hx := B.exec
  have hb := B.bytes
  have hr := B.returns
  have hts := atoms_spec (ws := wz yX7_get cX7_get 5 (some .int)) B.pre
  have htb : ∀ w ∈ zw, w.before _ s = true := fun w h => hts w (List.mem_cons_of_mem _ h)
  have hown : s.vm.findClass RX7 = some m.cls := findClass_of_methodNamed B.named
  have hlocks := B.notSynchronized
  clear hts
  subst hsz
  have hD := hD0.self (sz := s.heap.size)
  generalize hAe : va_A (zM k q z) s.heap.size = A at hD ⊢
  have hA : ∀ q : Nat, s.heap.size ≤ q → A q := fun q h => by rw [← hAe]; exact Or.inr h
  have hDa : ∀ z9 : ZS, va_D A (zM k q z9) := fun z9 => va_D_adr (w := zM k q z) rfl hD
  have hl := lv_entry ([.ref (q 0), .int z0, .int ty, .int i]) (n := 5) (Nat.le_of_ble_eq_true rfl)
  rw [lg_entry_eq]
  generalize (lg_sl ([.ref (q 0), .int z0, .int ty, .int i]) ++ List.replicate (5 - (lg_sl ([.ref (q 0), .int z0, .int ty, .int i])).length) Slot.unset).toArray = ls at hl ⊢
  have hl : lv_has ls 5 [(0, .ref (q 0)), (1, .int z0), (2, .int ty), (3, .int i)] := hl
  refine z_start2 (A := A) (w := (zM k q z)) hP (fun H locs hP hS => ?_)
  clear hD0 hAe
  refine lv_iload_n hx hb dX7_get_0 rfl (lv_at hl 1 rfl) ?_
  refine zc0_i (w := (zM k q z)) (va_runS (As := [.int z0]) (rest := []) ⟨hx, hb, hml, hown, htb⟩ (c_X7_isSheet l dC dI k z0 _ ) (va_cwS 1 htb (gzS wmt4_171 wmt4_172 wmt1_8 wmt4_173) rfl rfl rfl (by decide +kernel) ⟨Nat.le_of_ble_eq_true rfl, Nat.le_of_ble_eq_true rfl⟩) (zp0_S hK) rfl rfl hl.1 rfl (lv_room (Nat.le_of_ble_eq_true rfl)) dX7_get_1 ⟨Nat.le_of_ble_eq_true rfl, Nat.le_of_ble_eq_true rfl⟩) hP hS hA (fun r_1 u_2 H locs w_3 hP hS => ?_)
  rcases w_3 with ⟨e_5, h_4⟩ | ⟨e_7, h_6⟩
  · skip
    replace e_5 : r_1 = 1 := e_5
    subst e_5
    replace h_4 : 0 ≤ z0.toInt ∧ z0.toInt < 4 := h_4
    refine lv_if_eq (tgt := 16) hx hb dX7_get_4 (by decide) (fun c_8 => ?_) (fun c_8 => ?_)
    · skip
      exact absurd c_8 (by decide)
    · skip
      refine lv_iload_n hx hb dX7_get_7 rfl (lv_at hl 2 rfl) ?_
      refine lv_iconst (v := 0) hx hb dX7_get_8 (by decide) ?_
      refine lv_iconst (v := 2) hx hb dX7_get_9 (by decide) ?_
      refine zc0_i (w := (zM k q z)) (va_runS (As := [.int ty, .int 0, .int 2]) (rest := []) ⟨hx, hb, hml, hown, htb⟩ (c_X7_in l dC dI k ty 0 2 _ ) (va_cwS 3 htb (gzS wmt4_62 wmt4_63 wmt1_8 wmt4_64) rfl rfl rfl (by decide +kernel) ⟨Nat.le_of_ble_eq_true rfl, Nat.le_of_ble_eq_true rfl⟩) (zp0_S hK) rfl rfl hl.1 rfl (lv_room (Nat.le_of_ble_eq_true rfl)) dX7_get_10 ⟨Nat.le_of_ble_eq_true rfl, Nat.le_of_ble_eq_true rfl⟩) hP hS hA (fun r_9 u_10 H locs w_11 hP hS => ?_)
      rcases w_11 with ⟨e_13, h_12⟩ | ⟨e_15, h_14⟩
      · skip
        replace e_13 : r_9 = 1 := e_13
        subst e_13
        replace h_12 : (0 : Int32).toInt ≤ ty.toInt ∧ ty.toInt ≤ (2 : Int32).toInt := h_12
        rw [show (0 : Int32).toInt = 0 by decide, show (2 : Int32).toInt = 2 by decide] at h_12
        refine lv_if_ne (tgt := 20) hx hb dX7_get_13 (by decide) (fun c_16 => ?_) (fun c_16 => ?_)
        · skip
          refine lv_aload_n hx hb dX7_get_20 rfl (lv_at hl 0 rfl) ?_
          refine lv_iload_n hx hb dX7_get_21 rfl (lv_at hl 1 rfl) ?_
          refine lv_iload_n hx hb dX7_get_22 rfl (lv_at hl 2 rfl) ?_
          refine lv_iload_n hx hb dX7_get_23 rfl (lv_at hl 3 rfl) ?_
          refine zcA_i (w := (zM k q z)) (va_runV (As := [.int z0, .int ty, .int i]) (rest := []) ⟨hx, hb, hml, hown, htb⟩ (c_X7_lacks l dC dI k q z z0 ty i _ hI (show 0 ≤ z0.toInt ∧ z0.toInt < 4 by omega)) (cwV 3 htb (gzV wmt5_106 wmt5_108 wmp4_5 wmt1_8 wmt5_109) rfl rfl rfl (by decide +kernel) ⟨Nat.le_of_ble_eq_true rfl, Nat.le_of_ble_eq_true rfl⟩) (zpA_V (ci := 7) (q0 := 0) hK hP (hDa _) rfl rfl) rfl rfl hl.1 rfl (lv_room (Nat.le_of_ble_eq_true rfl)) dX7_get_24 ⟨Nat.le_of_ble_eq_true rfl, Nat.le_of_ble_eq_true rfl⟩) (hDa _) hS hA (fun r_17 u_18 H locs w_19 hP _ hS => ?_)
          rcases w_19 with ⟨e_21, h_20⟩ | ⟨e_24, h_22, h_23⟩ | ⟨e_28, h_25, h_26, h_27⟩ | ⟨e_32, h_29, h_30, h_31⟩
          · skip
            replace e_21 : r_17 = 1 := e_21
            subst e_21
            replace h_20 : ((z.2.2.1 36) z0.toNatClampNeg).toInt = 0 := h_20
            refine lv_istore (lv' := [(4, .int 1), (0, .ref (q 0)), (1, .int z0), (2, .int ty), (3, .int i)]) hx hb dX7_get_27 hl (by decide) rfl (fun ls hl => ?_)
            refine lv_iload hx hb dX7_get_29 (lv_at hl 0 rfl) ?_
            refine lv_if_le (tgt := 44) hx hb dX7_get_31 (by decide) (fun c_33 => ?_) (fun c_33 => ?_)
            · skip
              exact absurd c_33 (by decide)
            · skip
              refine lv_aload_n hx hb dX7_get_34 rfl (lv_at hl 1 rfl) ?_
              refine lv_iload hx hb dX7_get_35 (lv_at hl 0 rfl) ?_
              refine va_put (D := (dC, dI)) (ci := 7) (v := .int 1) (ty := .int) (C := RX7) (T := TX7) (N := 42) hx hb htb inw7 tyX7 tyX7_ok nmX7 hown hK.1 hP (hDa _) hS 0 rfl rfl 41 (by decide) (htb _ wmt3_208) (fun _ h9 => h9) rfl (by decide +kernel) rfl rfl (Nat.le_of_ble_eq_true rfl) dX7_get_37 (fun H locs hP _ hS => ?_)
              have hP : va_P (dC, dI) vwCl (zM k q (sI z 41 1)) H := hP
              refine lv_ldcw (v := (-2147483648)) hx hb hown (htb _ wmt5_118) dX7_get_40 ?_
              exact W.iret (v := (-2147483648)) hx hb hr (fun t ht hW => ⟨⟨(-2147483648), 1, rfl, (show (MInv (sI z 41 (1 : Int32))) from hI), ⟨by rw [ht]; exact hP, hDa _⟩⟩, hS.F ht⟩) hS.2.2 dX7_get_43
          · skip
            replace e_24 : r_17 = 3 := e_24
            subst e_24
            replace h_22 : ¬ ((z.2.2.1 36) z0.toNatClampNeg).toInt = 0 := h_22
            replace h_23 : ¬ ((z.2.2.1 37) z0.toNatClampNeg).toInt = ty.toInt := h_23
            refine lv_istore (lv' := [(4, .int 3), (0, .ref (q 0)), (1, .int z0), (2, .int ty), (3, .int i)]) hx hb dX7_get_27 hl (by decide) rfl (fun ls hl => ?_)
            refine lv_iload hx hb dX7_get_29 (lv_at hl 0 rfl) ?_
            refine lv_if_le (tgt := 44) hx hb dX7_get_31 (by decide) (fun c_34 => ?_) (fun c_34 => ?_)
            · skip
              exact absurd c_34 (by decide)
            · skip
              refine lv_aload_n hx hb dX7_get_34 rfl (lv_at hl 1 rfl) ?_
              refine lv_iload hx hb dX7_get_35 (lv_at hl 0 rfl) ?_
              refine va_put (D := (dC, dI)) (ci := 7) (v := .int 3) (ty := .int) (C := RX7) (T := TX7) (N := 42) hx hb htb inw7 tyX7 tyX7_ok nmX7 hown hK.1 hP (hDa _) hS 0 rfl rfl 41 (by decide) (htb _ wmt3_208) (fun _ h9 => h9) rfl (by decide +kernel) rfl rfl (Nat.le_of_ble_eq_true rfl) dX7_get_37 (fun H locs hP _ hS => ?_)
              have hP : va_P (dC, dI) vwCl (zM k q (sI z 41 3)) H := hP
              refine lv_ldcw (v := (-2147483648)) hx hb hown (htb _ wmt5_118) dX7_get_40 ?_
              exact W.iret (v := (-2147483648)) hx hb hr (fun t ht hW => ⟨⟨(-2147483648), 3, rfl, (show (MInv (sI z 41 (3 : Int32))) from hI), ⟨by rw [ht]; exact hP, hDa _⟩⟩, hS.F ht⟩) hS.2.2 dX7_get_43
          · skip
            replace e_28 : r_17 = 2 := e_28
            subst e_28
            replace h_25 : ¬ ((z.2.2.1 36) z0.toNatClampNeg).toInt = 0 := h_25
            replace h_26 : ((z.2.2.1 37) z0.toNatClampNeg).toInt = ty.toInt := h_26
            replace h_27 : ¬ (0 ≤ i.toInt ∧ i.toInt < ((z.2.2.1 38) z0.toNatClampNeg).toInt) := h_27
            refine lv_istore (lv' := [(4, .int 2), (0, .ref (q 0)), (1, .int z0), (2, .int ty), (3, .int i)]) hx hb dX7_get_27 hl (by decide) rfl (fun ls hl => ?_)
            refine lv_iload hx hb dX7_get_29 (lv_at hl 0 rfl) ?_
            refine lv_if_le (tgt := 44) hx hb dX7_get_31 (by decide) (fun c_35 => ?_) (fun c_35 => ?_)
            · skip
              exact absurd c_35 (by decide)
            · skip
              refine lv_aload_n hx hb dX7_get_34 rfl (lv_at hl 1 rfl) ?_
              refine lv_iload hx hb dX7_get_35 (lv_at hl 0 rfl) ?_
              refine va_put (D := (dC, dI)) (ci := 7) (v := .int 2) (ty := .int) (C := RX7) (T := TX7) (N := 42) hx hb htb inw7 tyX7 tyX7_ok nmX7 hown hK.1 hP (hDa _) hS 0 rfl rfl 41 (by decide) (htb _ wmt3_208) (fun _ h9 => h9) rfl (by decide +kernel) rfl rfl (Nat.le_of_ble_eq_true rfl) dX7_get_37 (fun H locs hP _ hS => ?_)
              have hP : va_P (dC, dI) vwCl (zM k q (sI z 41 2)) H := hP
              refine lv_ldcw (v := (-2147483648)) hx hb hown (htb _ wmt5_118) dX7_get_40 ?_
              exact W.iret (v := (-2147483648)) hx hb hr (fun t ht hW => ⟨⟨(-2147483648), 2, rfl, (show (MInv (sI z 41 (2 : Int32))) from hI), ⟨by rw [ht]; exact hP, hDa _⟩⟩, hS.F ht⟩) hS.2.2 dX7_get_43
          · skip
            replace e_32 : r_17 = 0 := e_32
            subst e_32
            replace h_29 : ¬ ((z.2.2.1 36) z0.toNatClampNeg).toInt = 0 := h_29
            replace h_30 : ((z.2.2.1 37) z0.toNatClampNeg).toInt = ty.toInt := h_30
            replace h_31 : 0 ≤ i.toInt ∧ i.toInt < ((z.2.2.1 38) z0.toNatClampNeg).toInt := h_31
            have hlk := h_31
            have hlm := M4_at hI.2.2.2.2.1 (show 0 ≤ z0.toInt ∧ z0.toInt < 4 by omega)
            refine lv_istore (lv' := [(4, .int 0), (0, .ref (q 0)), (1, .int z0), (2, .int ty), (3, .int i)]) hx hb dX7_get_27 hl (by decide) rfl (fun ls hl => ?_)
            refine lv_iload hx hb dX7_get_29 (lv_at hl 0 rfl) ?_
            refine lv_if_le (tgt := 44) hx hb dX7_get_31 (by decide) (fun c_36 => ?_) (fun c_36 => ?_)
            · skip
              refine lv_aload_n hx hb dX7_get_44 rfl (lv_at hl 1 rfl) ?_
              refine va_get (D := (dC, dI)) (ci := 7) (v := .ref (q 39)) (C := RX7) (T := TX7) (N := 42) hx hb htb inw7 hown hK.1 hP 0 rfl rfl 39 (by decide) (htb _ wmt3_206) (fun _ h9 => h9) rfl dX7_get_45 ?_
              refine lv_bipush (v := 60) hx hb dX7_get_48 (by decide) ?_
              refine lv_iload_n hx hb dX7_get_50 rfl (lv_at hl 2 rfl) ?_
              refine lv_imul hx hb dX7_get_51 ?_
              refine lv_topi (fun x_37 ex_37 => ?_)
              have hx_37 := z_mul ex_37 (show (60 : Int32).toInt = 60 by decide) rfl (by omega)
              refine lv_iload_n hx hb dX7_get_52 rfl (lv_at hl 4 rfl) ?_
              refine lv_iadd hx hb dX7_get_53 ?_
              refine lv_topi (fun x_38 ex_38 => ?_)
              have hx_38 := z_add ex_38 rfl rfl (by omega)
              refine va_iald (D := (dC, dI)) hx hb hK.1 hP 23 0 rfl rfl (z_in (by omega)) dX7_get_54 ?_
              refine lv_topi (fun x_39 ex_39 => ?_)
              exact W.iret (v := x_39) hx hb hr (fun t ht hW => ⟨⟨x_39, (z.1 41), rfl, (show (MInv (sI z 41 (z.1 41))) from hI), ⟨by rw [ht]; exact hP, hDa _⟩⟩, hS.F ht⟩) hS.2.2 dX7_get_55
            · skip
              exact absurd (by decide) c_36
        · skip
          exact absurd c_16 (by decide)
      · skip
        replace e_15 : r_9 = 0 := e_15
        subst e_15
        replace h_14 : ¬ ((0 : Int32).toInt ≤ ty.toInt ∧ ty.toInt ≤ (2 : Int32).toInt) := h_14
        rw [show (0 : Int32).toInt = 0 by decide, show (2 : Int32).toInt = 2 by decide] at h_14
        refine lv_if_ne (tgt := 20) hx hb dX7_get_13 (by decide) (fun c_40 => ?_) (fun c_40 => ?_)
        · skip
          exact absurd c_40 (by decide)
        · skip
          refine lv_ldcw (v := (-2147483648)) hx hb hown (htb _ wmt5_118) dX7_get_16 ?_
          exact W.iret (v := (-2147483648)) hx hb hr (fun t ht hW => ⟨⟨(-2147483648), (z.1 41), rfl, (show (MInv (sI z 41 (z.1 41))) from hI), ⟨by rw [ht]; exact hP, hDa _⟩⟩, hS.F ht⟩) hS.2.2 dX7_get_19
  · skip
    replace e_7 : r_1 = 0 := e_7
    subst e_7
    replace h_6 : ¬ (0 ≤ z0.toInt ∧ z0.toInt < 4) := h_6
    refine lv_if_eq (tgt := 16) hx hb dX7_get_4 (by decide) (fun c_41 => ?_) (fun c_41 => ?_)
    · skip
      refine lv_ldcw (v := (-2147483648)) hx hb hown (htb _ wmt5_118) dX7_get_16 ?_
      exact W.iret (v := (-2147483648)) hx hb hr (fun t ht hW => ⟨⟨(-2147483648), (z.1 41), rfl, (show (MInv (sI z 41 (z.1 41))) from hI), ⟨by rw [ht]; exact hP, hDa _⟩⟩, hS.F ht⟩) hS.2.2 dX7_get_19
    · skip
      exact absurd (by decide) c_41
set_option maxHeartbeats 4000000 in
set_option maxRecDepth 100000 in
theorem c_X7_copy (l : Launch) (dC : Nat → ClassId) (dI : Nat → Nat → Nat) (k : Nat → ClassId) (q : Nat → Nat) (z : ZS) (z0 : Int32) (i : Int32) (z02 : Int32) (j : Int32) (n : Int32) (sz : Nat) (hI : MInv z) (hT3 : T3 (z.2.2.1 37)) : Met l yX7_copy (wz yX7_copy cX7_copy 7 (some .int)) ({ frames := 2, cells := 0, slots := 0, locals := 42 }) (va_Pc [.ref (q 0), .int z0, .int i, .int z02, .int j, .int n] (zPre dC dI k (zTX k) (zM k q z) sz)) (va_Qi (fun (r : Int32) (u : (Nat → Int32) × (Nat → Int32) × Int32) => (MInv (sI (sA (sA z 39 u.1) 40 u.2.1) 41 u.2.2)) ∧ ((r, trM (sI (sA (sA z 39 u.1) 40 u.2.1) 41 u.2.2)) = tCopy2 (trM z) z0 i z02 j n)) (fun u t => zPost dC dI (va_A (zM k q z) sz) (zM k q (sI (sA (sA z 39 u.1) 40 u.2.1) 41 u.2.2)) t) (va_A (zM k q z) sz)) 0 0 (va_A (zM k q z) sz) := by
  refine Met.ofW (cc := cX7_copy) (maxL := 7) (ret := (some .int)) (by decide) rfl ?_
  intro p e s m args below meth c s₁ B hml hv
  obtain ⟨rfl, hsz, hP, hK, hD0⟩ := hv
  have hx := B.exec
  have hb := B.bytes
  have hr := B.returns
  have hts := atoms_spec (ws := wz yX7_copy cX7_copy 7 (some .int)) B.pre
  have htb : ∀ w ∈ zw, w.before _ s = true := fun w h => hts w (List.mem_cons_of_mem _ h)
  have hown : s.vm.findClass RX7 = some m.cls := findClass_of_methodNamed B.named
  have hlocks := B.notSynchronized
  clear hts
  subst hsz
  have hD := hD0.self (sz := s.heap.size)
  generalize hAe : va_A (zM k q z) s.heap.size = A at hD ⊢
  have hA : ∀ q : Nat, s.heap.size ≤ q → A q := fun q h => by rw [← hAe]; exact Or.inr h
  have hDa : ∀ z9 : ZS, va_D A (zM k q z9) := fun z9 => va_D_adr (w := zM k q z) rfl hD
  have hl := lv_entry ([.ref (q 0), .int z0, .int i, .int z02, .int j, .int n]) (n := 7) (Nat.le_of_ble_eq_true rfl)
  rw [lg_entry_eq]
  generalize (lg_sl ([.ref (q 0), .int z0, .int i, .int z02, .int j, .int n]) ++ List.replicate (7 - (lg_sl ([.ref (q 0), .int z0, .int i, .int z02, .int j, .int n])).length) Slot.unset).toArray = ls at hl ⊢
  have hl : lv_has ls 7 [(0, .ref (q 0)), (1, .int z0), (2, .int i), (3, .int z02), (4, .int j), (5, .int n)] := hl
  refine z_start2 (A := A) (w := (zM k q z)) hP (fun H locs hP hS => ?_)
  clear hD0 hAe
  have hbi := Int32.toInt_lt i
  have hbj := Int32.toInt_lt j
  have hbn := Int32.toInt_lt n
  refine lv_iload_n hx hb dX7_copy_0 rfl (lv_at hl 1 rfl) ?_
  refine zc0_i (w := (zM k q z)) (va_runS (As := [.int z0]) (rest := []) ⟨hx, hb, hml, hown, htb⟩ (c_X7_isSheet l dC dI k z0 _ ) (va_cwS 1 htb (gzS wmt4_171 wmt4_172 wmt1_8 wmt4_173) rfl rfl rfl (by decide +kernel) ⟨Nat.le_of_ble_eq_true rfl, Nat.le_of_ble_eq_true rfl⟩) (zp0_S hK) rfl rfl hl.1 rfl (lv_room (Nat.le_of_ble_eq_true rfl)) dX7_copy_1 ⟨Nat.le_of_ble_eq_true rfl, Nat.le_of_ble_eq_true rfl⟩) hP hS hA (fun r_1 u_2 H locs w_3 hP hS => ?_)
  rcases w_3 with ⟨e_5, h_4⟩ | ⟨e_7, h_6⟩
  · skip
    replace e_5 : r_1 = 1 := e_5
    subst e_5
    replace h_4 : 0 ≤ z0.toInt ∧ z0.toInt < 4 := h_4
    refine lv_if_eq (tgt := 14) hx hb dX7_copy_4 (by decide) (fun c_8 => ?_) (fun c_8 => ?_)
    · skip
      exact absurd c_8 (by decide)
    · skip
      refine lv_iload_n hx hb dX7_copy_7 rfl (lv_at hl 3 rfl) ?_
      refine zc0_i (w := (zM k q z)) (va_runS (As := [.int z02]) (rest := []) ⟨hx, hb, hml, hown, htb⟩ (c_X7_isSheet l dC dI k z02 _ ) (va_cwS 1 htb (gzS wmt4_171 wmt4_172 wmt1_8 wmt4_173) rfl rfl rfl (by decide +kernel) ⟨Nat.le_of_ble_eq_true rfl, Nat.le_of_ble_eq_true rfl⟩) (zp0_S hK) rfl rfl hl.1 rfl (lv_room (Nat.le_of_ble_eq_true rfl)) dX7_copy_8 ⟨Nat.le_of_ble_eq_true rfl, Nat.le_of_ble_eq_true rfl⟩) hP hS hA (fun r_9 u_10 H locs w_11 hP hS => ?_)
      rcases w_11 with ⟨e_13, h_12⟩ | ⟨e_15, h_14⟩
      · skip
        replace e_13 : r_9 = 1 := e_13
        subst e_13
        replace h_12 : 0 ≤ z02.toInt ∧ z02.toInt < 4 := h_12
        refine lv_if_ne (tgt := 17) hx hb dX7_copy_11 (by decide) (fun c_16 => ?_) (fun c_16 => ?_)
        · skip
          refine lv_aload_n hx hb dX7_copy_17 rfl (lv_at hl 0 rfl) ?_
          refine va_get (D := (dC, dI)) (ci := 7) (v := .ref (q 36)) (C := RX7) (T := TX7) (N := 42) hx hb htb inw7 hown hK.1 hP 0 rfl rfl 36 (by decide) (htb _ wmt3_203) (fun _ h9 => h9) rfl dX7_copy_18 ?_
          refine lv_iload_n hx hb dX7_copy_21 rfl (lv_at hl 1 rfl) ?_
          refine va_zald (D := (dC, dI)) hx hb hK.1 hP 20 2 rfl rfl (z_in (by omega)) dX7_copy_22 ?_
          refine lv_topi (fun x_17 ex_17 => ?_)
          have hx_17 : x_17.toInt = ((z.2.2.1 36) z0.toNatClampNeg).toInt := by rw [ex_17]
          refine lv_if_eq (tgt := 35) hx hb dX7_copy_23 (by decide) (fun c_18 => ?_) (fun c_18 => ?_)
          · skip
            have hc_18 := zb_eq rfl (show (0 : Int32).toInt = 0 by decide) c_18
            refine lv_aload_n hx hb dX7_copy_35 rfl (lv_at hl 0 rfl) ?_
            refine lv_iconst (v := 1) hx hb dX7_copy_36 (by decide) ?_
            refine zcA_i (w := (zM k q z)) (va_runV (As := [.int 1]) (rest := []) ⟨hx, hb, hml, hown, htb⟩ (c_X7_meets l dC dI k q z 1 _ hI) (cwV 1 htb (gzV wmt4_174 wmt4_176 wmp3_4 wmt1_8 wmt4_177) rfl rfl rfl (by decide +kernel) ⟨Nat.le_of_ble_eq_true rfl, Nat.le_of_ble_eq_true rfl⟩) (zpA_V (ci := 7) (q0 := 0) hK hP (hDa _) rfl rfl) rfl rfl hl.1 rfl (lv_room (Nat.le_of_ble_eq_true rfl)) dX7_copy_37 ⟨Nat.le_of_ble_eq_true rfl, Nat.le_of_ble_eq_true rfl⟩) (hDa _) hS hA (fun r_19 u_20 H locs w_21 hP _ hS => ?_)
            obtain ⟨o41_22, rfl⟩ : ∃ y, y = u_20 := ⟨_, rfl⟩
            have hP : va_P (dC, dI) vwCl (zM k q (sI z 41 o41_22)) H := hP
            obtain ⟨h_23, h_24⟩ := w_21
            replace h_23 : MInv (sI z 41 o41_22) := h_23
            replace h_24 : r_19 = (-10) - (1 : Int32) := h_24
            have hI := h_23
            have hfd : r_19 = -11 := h_24.trans (by decide)
            exact W.iret (v := r_19) hx hb hr (fun t ht hW => ⟨⟨r_19, (z.2.2.1 39, z.2.2.1 40, o41_22), rfl, (show (MInv (sI (sA (sA z 39 (z.2.2.1 39)) 40 (z.2.2.1 40)) 41 o41_22)) ∧ ((r_19, trM (sI (sA (sA z 39 (z.2.2.1 39)) 40 (z.2.2.1 40)) 41 o41_22)) = tCopy2 (trM z) z0 i z02 j n) from ⟨hI, tCopy2_no (tCopy_1 (m := z0.toNatClampNeg) (m2 := z02.toNatClampNeg) (by omega) rfl rfl ((trM_Kg (z_cl4 (show 0 ≤ z0.toInt ∧ z0.toInt < 4 by omega))).1.trans (kM_out (by omega)).1) ((trM_Kg (z_cl4 (show 0 ≤ z02.toInt ∧ z02.toInt < 4 by omega))).1.trans rfl) (Or.inl (by decide)) hfd) (by rw [hfd]; decide) rfl⟩), ⟨by rw [ht]; exact hP, hDa _⟩⟩, hS.F ht⟩) hS.2.2 dX7_copy_40
          · skip
            have hc_18 := zb_ne rfl (show (0 : Int32).toInt = 0 by decide) c_18
            refine lv_aload_n hx hb dX7_copy_26 rfl (lv_at hl 0 rfl) ?_
            refine va_get (D := (dC, dI)) (ci := 7) (v := .ref (q 36)) (C := RX7) (T := TX7) (N := 42) hx hb htb inw7 hown hK.1 hP 0 rfl rfl 36 (by decide) (htb _ wmt3_203) (fun _ h9 => h9) rfl dX7_copy_27 ?_
            refine lv_iload_n hx hb dX7_copy_30 rfl (lv_at hl 3 rfl) ?_
            refine va_zald (D := (dC, dI)) hx hb hK.1 hP 20 2 rfl rfl (z_in (by omega)) dX7_copy_31 ?_
            refine lv_topi (fun x_26 ex_26 => ?_)
            have hx_26 : x_26.toInt = ((z.2.2.1 36) z02.toNatClampNeg).toInt := by rw [ex_26]
            refine lv_if_ne (tgt := 41) hx hb dX7_copy_32 (by decide) (fun c_27 => ?_) (fun c_27 => ?_)
            · skip
              have hc_27 := zb_ne rfl (show (0 : Int32).toInt = 0 by decide) c_27
              refine lv_aload_n hx hb dX7_copy_41 rfl (lv_at hl 0 rfl) ?_
              refine va_get (D := (dC, dI)) (ci := 7) (v := .ref (q 37)) (C := RX7) (T := TX7) (N := 42) hx hb htb inw7 hown hK.1 hP 0 rfl rfl 37 (by decide) (htb _ wmt3_204) (fun _ h9 => h9) rfl dX7_copy_42 ?_
              refine lv_iload_n hx hb dX7_copy_45 rfl (lv_at hl 1 rfl) ?_
              refine va_iald (D := (dC, dI)) hx hb hK.1 hP 21 0 rfl rfl (z_in (by omega)) dX7_copy_46 ?_
              refine lv_topi (fun x_28 ex_28 => ?_)
              have hx_28 : x_28.toInt = ((z.2.2.1 37) z0.toNatClampNeg).toInt := by rw [ex_28]
              refine lv_aload_n hx hb dX7_copy_47 rfl (lv_at hl 0 rfl) ?_
              refine va_get (D := (dC, dI)) (ci := 7) (v := .ref (q 37)) (C := RX7) (T := TX7) (N := 42) hx hb htb inw7 hown hK.1 hP 0 rfl rfl 37 (by decide) (htb _ wmt3_204) (fun _ h9 => h9) rfl dX7_copy_48 ?_
              refine lv_iload_n hx hb dX7_copy_51 rfl (lv_at hl 3 rfl) ?_
              refine va_iald (D := (dC, dI)) hx hb hK.1 hP 21 0 rfl rfl (z_in (by omega)) dX7_copy_52 ?_
              refine lv_topi (fun x_29 ex_29 => ?_)
              have hx_29 : x_29.toInt = ((z.2.2.1 37) z02.toNatClampNeg).toInt := by rw [ex_29]
              refine lv_icmp_eq (tgt := 62) hx hb dX7_copy_53 (by decide) (fun c_30 => ?_) (fun c_30 => ?_)
              · skip
                have hc_30 := zb_eq rfl rfl c_30
                refine lv_iload_n hx hb dX7_copy_62 rfl (lv_at hl 2 rfl) ?_
                refine lv_if_lt (tgt := 111) hx hb dX7_copy_63 (by decide) (fun c_31 => ?_) (fun c_31 => ?_)
                · skip
                  have hc_31 := zb_lt rfl (show (0 : Int32).toInt = 0 by decide) c_31
                  refine lv_aload_n hx hb dX7_copy_111 rfl (lv_at hl 0 rfl) ?_
                  refine lv_iconst (v := 2) hx hb dX7_copy_112 (by decide) ?_
                  refine zcA_i (w := (zM k q z)) (va_runV (As := [.int 2]) (rest := []) ⟨hx, hb, hml, hown, htb⟩ (c_X7_meets l dC dI k q z 2 _ hI) (cwV 1 htb (gzV wmt4_174 wmt4_176 wmp3_4 wmt1_8 wmt4_177) rfl rfl rfl (by decide +kernel) ⟨Nat.le_of_ble_eq_true rfl, Nat.le_of_ble_eq_true rfl⟩) (zpA_V (ci := 7) (q0 := 0) hK hP (hDa _) rfl rfl) rfl rfl hl.1 rfl (lv_room (Nat.le_of_ble_eq_true rfl)) dX7_copy_113 ⟨Nat.le_of_ble_eq_true rfl, Nat.le_of_ble_eq_true rfl⟩) (hDa _) hS hA (fun r_32 u_33 H locs w_34 hP _ hS => ?_)
                  obtain ⟨o41_35, rfl⟩ : ∃ y, y = u_33 := ⟨_, rfl⟩
                  have hP : va_P (dC, dI) vwCl (zM k q (sI z 41 o41_35)) H := hP
                  obtain ⟨h_36, h_37⟩ := w_34
                  replace h_36 : MInv (sI z 41 o41_35) := h_36
                  replace h_37 : r_32 = (-10) - (2 : Int32) := h_37
                  have hI := h_36
                  have hfd : r_32 = -12 := h_37.trans (by decide)
                  exact W.iret (v := r_32) hx hb hr (fun t ht hW => ⟨⟨r_32, (z.2.2.1 39, z.2.2.1 40, o41_35), rfl, (show (MInv (sI (sA (sA z 39 (z.2.2.1 39)) 40 (z.2.2.1 40)) 41 o41_35)) ∧ ((r_32, trM (sI (sA (sA z 39 (z.2.2.1 39)) 40 (z.2.2.1 40)) 41 o41_35)) = tCopy2 (trM z) z0 i z02 j n) from ⟨hI, tCopy2_no (tCopy_2 (m := z0.toNatClampNeg) (m2 := z02.toNatClampNeg) (by omega) rfl rfl ((trM_Kg (z_cl4 (show 0 ≤ z0.toInt ∧ z0.toInt < 4 by omega))).1.trans (kM_in (by omega)).1) ((trM_Kg (z_cl4 (show 0 ≤ z02.toInt ∧ z02.toInt < 4 by omega))).1.trans (kM_in (by omega)).1) ((trM_Kg (z_cl4 (show 0 ≤ z0.toInt ∧ z0.toInt < 4 by omega))).2.trans (kM_in (by omega)).2) ((trM_Kg (z_cl4 (show 0 ≤ z02.toInt ∧ z02.toInt < 4 by omega))).2.trans (kM_in (by omega)).2) (by have q1 := hT3 _ (z_cl4 (show 0 ≤ z0.toInt ∧ z0.toInt < 4 by omega)); have q2 := hT3 _ (z_cl4 (show 0 ≤ z02.toInt ∧ z02.toInt < 4 by omega)); omega) (by omega) (by omega) hfd) (by rw [hfd]; decide) rfl⟩), ⟨by rw [ht]; exact hP, hDa _⟩⟩, hS.F ht⟩) hS.2.2 dX7_copy_116
                · skip
                  have hc_31 := zb_nlt rfl (show (0 : Int32).toInt = 0 by decide) c_31
                  refine lv_iload hx hb dX7_copy_66 (lv_at hl 4 rfl) ?_
                  refine lv_if_lt (tgt := 111) hx hb dX7_copy_68 (by decide) (fun c_39 => ?_) (fun c_39 => ?_)
                  · skip
                    have hc_39 := zb_lt rfl (show (0 : Int32).toInt = 0 by decide) c_39
                    refine lv_aload_n hx hb dX7_copy_111 rfl (lv_at hl 0 rfl) ?_
                    refine lv_iconst (v := 2) hx hb dX7_copy_112 (by decide) ?_
                    refine zcA_i (w := (zM k q z)) (va_runV (As := [.int 2]) (rest := []) ⟨hx, hb, hml, hown, htb⟩ (c_X7_meets l dC dI k q z 2 _ hI) (cwV 1 htb (gzV wmt4_174 wmt4_176 wmp3_4 wmt1_8 wmt4_177) rfl rfl rfl (by decide +kernel) ⟨Nat.le_of_ble_eq_true rfl, Nat.le_of_ble_eq_true rfl⟩) (zpA_V (ci := 7) (q0 := 0) hK hP (hDa _) rfl rfl) rfl rfl hl.1 rfl (lv_room (Nat.le_of_ble_eq_true rfl)) dX7_copy_113 ⟨Nat.le_of_ble_eq_true rfl, Nat.le_of_ble_eq_true rfl⟩) (hDa _) hS hA (fun r_40 u_41 H locs w_42 hP _ hS => ?_)
                    obtain ⟨o41_43, rfl⟩ : ∃ y, y = u_41 := ⟨_, rfl⟩
                    have hP : va_P (dC, dI) vwCl (zM k q (sI z 41 o41_43)) H := hP
                    obtain ⟨h_44, h_45⟩ := w_42
                    replace h_44 : MInv (sI z 41 o41_43) := h_44
                    replace h_45 : r_40 = (-10) - (2 : Int32) := h_45
                    have hI := h_44
                    have hfd : r_40 = -12 := h_45.trans (by decide)
                    exact W.iret (v := r_40) hx hb hr (fun t ht hW => ⟨⟨r_40, (z.2.2.1 39, z.2.2.1 40, o41_43), rfl, (show (MInv (sI (sA (sA z 39 (z.2.2.1 39)) 40 (z.2.2.1 40)) 41 o41_43)) ∧ ((r_40, trM (sI (sA (sA z 39 (z.2.2.1 39)) 40 (z.2.2.1 40)) 41 o41_43)) = tCopy2 (trM z) z0 i z02 j n) from ⟨hI, tCopy2_no (tCopy_2 (m := z0.toNatClampNeg) (m2 := z02.toNatClampNeg) (by omega) rfl rfl ((trM_Kg (z_cl4 (show 0 ≤ z0.toInt ∧ z0.toInt < 4 by omega))).1.trans (kM_in (by omega)).1) ((trM_Kg (z_cl4 (show 0 ≤ z02.toInt ∧ z02.toInt < 4 by omega))).1.trans (kM_in (by omega)).1) ((trM_Kg (z_cl4 (show 0 ≤ z0.toInt ∧ z0.toInt < 4 by omega))).2.trans (kM_in (by omega)).2) ((trM_Kg (z_cl4 (show 0 ≤ z02.toInt ∧ z02.toInt < 4 by omega))).2.trans (kM_in (by omega)).2) (by have q1 := hT3 _ (z_cl4 (show 0 ≤ z0.toInt ∧ z0.toInt < 4 by omega)); have q2 := hT3 _ (z_cl4 (show 0 ≤ z02.toInt ∧ z02.toInt < 4 by omega)); omega) (by omega) (by omega) hfd) (by rw [hfd]; decide) rfl⟩), ⟨by rw [ht]; exact hP, hDa _⟩⟩, hS.F ht⟩) hS.2.2 dX7_copy_116
                  · skip
                    have hc_39 := zb_nlt rfl (show (0 : Int32).toInt = 0 by decide) c_39
                    refine lv_iload hx hb dX7_copy_71 (lv_at hl 5 rfl) ?_
                    refine lv_if_lt (tgt := 111) hx hb dX7_copy_73 (by decide) (fun c_47 => ?_) (fun c_47 => ?_)
                    · skip
                      have hc_47 := zb_lt rfl (show (0 : Int32).toInt = 0 by decide) c_47
                      refine lv_aload_n hx hb dX7_copy_111 rfl (lv_at hl 0 rfl) ?_
                      refine lv_iconst (v := 2) hx hb dX7_copy_112 (by decide) ?_
                      refine zcA_i (w := (zM k q z)) (va_runV (As := [.int 2]) (rest := []) ⟨hx, hb, hml, hown, htb⟩ (c_X7_meets l dC dI k q z 2 _ hI) (cwV 1 htb (gzV wmt4_174 wmt4_176 wmp3_4 wmt1_8 wmt4_177) rfl rfl rfl (by decide +kernel) ⟨Nat.le_of_ble_eq_true rfl, Nat.le_of_ble_eq_true rfl⟩) (zpA_V (ci := 7) (q0 := 0) hK hP (hDa _) rfl rfl) rfl rfl hl.1 rfl (lv_room (Nat.le_of_ble_eq_true rfl)) dX7_copy_113 ⟨Nat.le_of_ble_eq_true rfl, Nat.le_of_ble_eq_true rfl⟩) (hDa _) hS hA (fun r_48 u_49 H locs w_50 hP _ hS => ?_)
                      obtain ⟨o41_51, rfl⟩ : ∃ y, y = u_49 := ⟨_, rfl⟩
                      have hP : va_P (dC, dI) vwCl (zM k q (sI z 41 o41_51)) H := hP
                      obtain ⟨h_52, h_53⟩ := w_50
                      replace h_52 : MInv (sI z 41 o41_51) := h_52
                      replace h_53 : r_48 = (-10) - (2 : Int32) := h_53
                      have hI := h_52
                      have hfd : r_48 = -12 := h_53.trans (by decide)
                      exact W.iret (v := r_48) hx hb hr (fun t ht hW => ⟨⟨r_48, (z.2.2.1 39, z.2.2.1 40, o41_51), rfl, (show (MInv (sI (sA (sA z 39 (z.2.2.1 39)) 40 (z.2.2.1 40)) 41 o41_51)) ∧ ((r_48, trM (sI (sA (sA z 39 (z.2.2.1 39)) 40 (z.2.2.1 40)) 41 o41_51)) = tCopy2 (trM z) z0 i z02 j n) from ⟨hI, tCopy2_no (tCopy_2 (m := z0.toNatClampNeg) (m2 := z02.toNatClampNeg) (by omega) rfl rfl ((trM_Kg (z_cl4 (show 0 ≤ z0.toInt ∧ z0.toInt < 4 by omega))).1.trans (kM_in (by omega)).1) ((trM_Kg (z_cl4 (show 0 ≤ z02.toInt ∧ z02.toInt < 4 by omega))).1.trans (kM_in (by omega)).1) ((trM_Kg (z_cl4 (show 0 ≤ z0.toInt ∧ z0.toInt < 4 by omega))).2.trans (kM_in (by omega)).2) ((trM_Kg (z_cl4 (show 0 ≤ z02.toInt ∧ z02.toInt < 4 by omega))).2.trans (kM_in (by omega)).2) (by have q1 := hT3 _ (z_cl4 (show 0 ≤ z0.toInt ∧ z0.toInt < 4 by omega)); have q2 := hT3 _ (z_cl4 (show 0 ≤ z02.toInt ∧ z02.toInt < 4 by omega)); omega) (by omega) (by omega) hfd) (by rw [hfd]; decide) rfl⟩), ⟨by rw [ht]; exact hP, hDa _⟩⟩, hS.F ht⟩) hS.2.2 dX7_copy_116
                    · skip
                      have hc_47 := zb_nlt rfl (show (0 : Int32).toInt = 0 by decide) c_47
                      refine lv_iload_n hx hb dX7_copy_76 rfl (lv_at hl 2 rfl) ?_
                      refine lv_i2l (v := i.toInt64) hx hb dX7_copy_77 rfl ?_
                      refine lv_topl (fun x_55 ex_55 => ?_)
                      have hx_55 : x_55.toInt = i.toInt := by rw [ex_55]; exact Jvm.Kit.i64_of_i32 _
                      refine lv_iload hx hb dX7_copy_78 (lv_at hl 5 rfl) ?_
                      refine lv_i2l (v := n.toInt64) hx hb dX7_copy_80 rfl ?_
                      refine lv_topl (fun x_56 ex_56 => ?_)
                      have hx_56 : x_56.toInt = n.toInt := by rw [ex_56]; exact Jvm.Kit.i64_of_i32 _
                      refine lv_ladd hx hb dX7_copy_81 ?_
                      refine lv_topl (fun x_57 ex_57 => ?_)
                      have hx_57 := zl_add ex_57 rfl rfl (by omega)
                      refine lv_aload_n hx hb dX7_copy_82 rfl (lv_at hl 0 rfl) ?_
                      refine va_get (D := (dC, dI)) (ci := 7) (v := .ref (q 38)) (C := RX7) (T := TX7) (N := 42) hx hb htb inw7 hown hK.1 hP 0 rfl rfl 38 (by decide) (htb _ wmt3_205) (fun _ h9 => h9) rfl dX7_copy_83 ?_
                      refine lv_iload_n hx hb dX7_copy_86 rfl (lv_at hl 1 rfl) ?_
                      refine va_iald (D := (dC, dI)) hx hb hK.1 hP 22 0 rfl rfl (z_in (by omega)) dX7_copy_87 ?_
                      refine lv_topi (fun x_58 ex_58 => ?_)
                      have hx_58 : x_58.toInt = ((z.2.2.1 38) z0.toNatClampNeg).toInt := by rw [ex_58]
                      have hmx_58 := M4_at (show M4 (z.2.2.1 38) from hI.2.2.2.2.1) (show 0 ≤ z0.toInt ∧ z0.toInt < 4 by omega)
                      refine lv_i2l (v := x_58.toInt64) hx hb dX7_copy_88 rfl ?_
                      refine lv_topl (fun x_59 ex_59 => ?_)
                      have hx_59 : x_59.toInt = x_58.toInt := by rw [ex_59]; exact Jvm.Kit.i64_of_i32 _
                      refine z_lcmp hx hb dX7_copy_89 ?_
                      refine lv_if_gt (tgt := 111) hx hb dX7_copy_90 (by decide) (fun c_60 => ?_) (fun c_60 => ?_)
                      · skip
                        have hc_60 := zl_gt rfl rfl c_60
                        refine lv_aload_n hx hb dX7_copy_111 rfl (lv_at hl 0 rfl) ?_
                        refine lv_iconst (v := 2) hx hb dX7_copy_112 (by decide) ?_
                        refine zcA_i (w := (zM k q z)) (va_runV (As := [.int 2]) (rest := []) ⟨hx, hb, hml, hown, htb⟩ (c_X7_meets l dC dI k q z 2 _ hI) (cwV 1 htb (gzV wmt4_174 wmt4_176 wmp3_4 wmt1_8 wmt4_177) rfl rfl rfl (by decide +kernel) ⟨Nat.le_of_ble_eq_true rfl, Nat.le_of_ble_eq_true rfl⟩) (zpA_V (ci := 7) (q0 := 0) hK hP (hDa _) rfl rfl) rfl rfl hl.1 rfl (lv_room (Nat.le_of_ble_eq_true rfl)) dX7_copy_113 ⟨Nat.le_of_ble_eq_true rfl, Nat.le_of_ble_eq_true rfl⟩) (hDa _) hS hA (fun r_61 u_62 H locs w_63 hP _ hS => ?_)
                        obtain ⟨o41_64, rfl⟩ : ∃ y, y = u_62 := ⟨_, rfl⟩
                        have hP : va_P (dC, dI) vwCl (zM k q (sI z 41 o41_64)) H := hP
                        obtain ⟨h_65, h_66⟩ := w_63
                        replace h_65 : MInv (sI z 41 o41_64) := h_65
                        replace h_66 : r_61 = (-10) - (2 : Int32) := h_66
                        have hI := h_65
                        have hfd : r_61 = -12 := h_66.trans (by decide)
                        exact W.iret (v := r_61) hx hb hr (fun t ht hW => ⟨⟨r_61, (z.2.2.1 39, z.2.2.1 40, o41_64), rfl, (show (MInv (sI (sA (sA z 39 (z.2.2.1 39)) 40 (z.2.2.1 40)) 41 o41_64)) ∧ ((r_61, trM (sI (sA (sA z 39 (z.2.2.1 39)) 40 (z.2.2.1 40)) 41 o41_64)) = tCopy2 (trM z) z0 i z02 j n) from ⟨hI, tCopy2_no (tCopy_2 (m := z0.toNatClampNeg) (m2 := z02.toNatClampNeg) (by omega) rfl rfl ((trM_Kg (z_cl4 (show 0 ≤ z0.toInt ∧ z0.toInt < 4 by omega))).1.trans (kM_in (by omega)).1) ((trM_Kg (z_cl4 (show 0 ≤ z02.toInt ∧ z02.toInt < 4 by omega))).1.trans (kM_in (by omega)).1) ((trM_Kg (z_cl4 (show 0 ≤ z0.toInt ∧ z0.toInt < 4 by omega))).2.trans (kM_in (by omega)).2) ((trM_Kg (z_cl4 (show 0 ≤ z02.toInt ∧ z02.toInt < 4 by omega))).2.trans (kM_in (by omega)).2) (by have q1 := hT3 _ (z_cl4 (show 0 ≤ z0.toInt ∧ z0.toInt < 4 by omega)); have q2 := hT3 _ (z_cl4 (show 0 ≤ z02.toInt ∧ z02.toInt < 4 by omega)); omega) (by omega) (by omega) hfd) (by rw [hfd]; decide) rfl⟩), ⟨by rw [ht]; exact hP, hDa _⟩⟩, hS.F ht⟩) hS.2.2 dX7_copy_116
                      · skip
                        have hc_60 := zl_ngt rfl rfl c_60
                        refine lv_iload hx hb dX7_copy_93 (lv_at hl 4 rfl) ?_
                        refine lv_i2l (v := j.toInt64) hx hb dX7_copy_95 rfl ?_
                        refine lv_topl (fun x_68 ex_68 => ?_)
                        have hx_68 : x_68.toInt = j.toInt := by rw [ex_68]; exact Jvm.Kit.i64_of_i32 _
                        refine lv_iload hx hb dX7_copy_96 (lv_at hl 5 rfl) ?_
                        refine lv_i2l (v := n.toInt64) hx hb dX7_copy_98 rfl ?_
                        refine lv_topl (fun x_69 ex_69 => ?_)
                        have hx_69 : x_69.toInt = n.toInt := by rw [ex_69]; exact Jvm.Kit.i64_of_i32 _
                        refine lv_ladd hx hb dX7_copy_99 ?_
                        refine lv_topl (fun x_70 ex_70 => ?_)
                        have hx_70 := zl_add ex_70 rfl rfl (by omega)
                        refine lv_aload_n hx hb dX7_copy_100 rfl (lv_at hl 0 rfl) ?_
                        refine va_get (D := (dC, dI)) (ci := 7) (v := .ref (q 38)) (C := RX7) (T := TX7) (N := 42) hx hb htb inw7 hown hK.1 hP 0 rfl rfl 38 (by decide) (htb _ wmt3_205) (fun _ h9 => h9) rfl dX7_copy_101 ?_
                        refine lv_iload_n hx hb dX7_copy_104 rfl (lv_at hl 3 rfl) ?_
                        refine va_iald (D := (dC, dI)) hx hb hK.1 hP 22 0 rfl rfl (z_in (by omega)) dX7_copy_105 ?_
                        refine lv_topi (fun x_71 ex_71 => ?_)
                        have hx_71 : x_71.toInt = ((z.2.2.1 38) z02.toNatClampNeg).toInt := by rw [ex_71]
                        have hmx_71 := M4_at (show M4 (z.2.2.1 38) from hI.2.2.2.2.1) (show 0 ≤ z02.toInt ∧ z02.toInt < 4 by omega)
                        refine lv_i2l (v := x_71.toInt64) hx hb dX7_copy_106 rfl ?_
                        refine lv_topl (fun x_72 ex_72 => ?_)
                        have hx_72 : x_72.toInt = x_71.toInt := by rw [ex_72]; exact Jvm.Kit.i64_of_i32 _
                        refine z_lcmp hx hb dX7_copy_107 ?_
                        refine lv_if_le (tgt := 117) hx hb dX7_copy_108 (by decide) (fun c_73 => ?_) (fun c_73 => ?_)
                        · skip
                          have hc_73 := zl_le rfl rfl c_73
                          refine lv_iconst (v := 0) hx hb dX7_copy_117 (by decide) ?_
                          refine lv_istore (lv' := [(6, .int 0), (0, .ref (q 0)), (1, .int z0), (2, .int i), (3, .int z02), (4, .int j), (5, .int n)]) hx hb dX7_copy_118 hl (by decide) rfl (fun ls hl => ?_)
                          obtain ⟨k1, ek1⟩ : ∃ x : Int32, 0 = x := ⟨_, rfl⟩
                          obtain ⟨mv, emv⟩ : ∃ x : Nat → Int32, z.2.2.1 40 = x := ⟨_, rfl⟩
                          have hv120 : (0 ≤ k1.toInt ∧ k1.toInt ≤ n.toInt) ∧ (∀ q : Nat, (q : Int) < k1.toInt → mv q = z.2.2.1 39 (60 * z0.toNatClampNeg + i.toNatClampNeg + q)) := by subst ek1 emv; exact ⟨(by have q0 : (0 : Int32).toInt = 0 := (by decide); omega), (fun q hq => absurd hq z_no0)⟩
                          replace hl : lv_has ls 7 [(6, .int k1), (0, .ref (q 0)), (1, .int z0), (2, .int i), (3, .int z02), (4, .int j), (5, .int n)] := by subst ek1 emv; exact hl
                          replace hP : va_P (dC, dI) vwCl (zM k q (sA z 40 mv)) H := by subst emv; exact hP
                          clear ek1 emv
                          obtain ⟨mm120, hm120⟩ : ∃ mm : Nat, mm = (60 - k1.toInt).toNat := ⟨_, rfl⟩
                          refine z_cut2 hP hS hl ?_
                          clear hl hP
                          intro H locs ls hP hS hl
                          induction mm120 using Nat.strongRecOn generalizing k1 mv H locs ls with
                          | _ mm120 ih120 =>
                            obtain ⟨hk1, hmv⟩ := hv120
                            refine lv_iload hx hb dX7_copy_120 (lv_at hl 0 rfl) ?_
                            refine lv_iload hx hb dX7_copy_122 (lv_at hl 6 rfl) ?_
                            refine lv_icmp_ge (tgt := 154) hx hb dX7_copy_124 (by decide) (fun c_74 => ?_) (fun c_74 => ?_)
                            · skip
                              have hc_74 := zb_le rfl rfl c_74
                              refine lv_iconst (v := 0) hx hb dX7_copy_154 (by decide) ?_
                              refine lv_istore (lv' := [(6, .int 0), (0, .ref (q 0)), (1, .int z0), (2, .int i), (3, .int z02), (4, .int j), (5, .int n)]) hx hb dX7_copy_155 hl (by decide) rfl (fun ls hl => ?_)
                              obtain ⟨k2, ek2⟩ : ∃ x : Int32, 0 = x := ⟨_, rfl⟩
                              obtain ⟨it, eit⟩ : ∃ x : Nat → Int32, z.2.2.1 39 = x := ⟨_, rfl⟩
                              have hv157 : (0 ≤ k2.toInt ∧ k2.toInt ≤ n.toInt) ∧ (it = va_cpy mv (z.2.2.1 39) 0 (60 * z02.toNatClampNeg + j.toNatClampNeg) k2.toNatClampNeg) := by subst ek2 eit; exact ⟨(by have q0 : (0 : Int32).toInt = 0 := (by decide); omega), (by rw [show (0 : Int32).toNatClampNeg = 0 by decide, cpy_0])⟩
                              replace hl : lv_has ls 7 [(6, .int k2), (0, .ref (q 0)), (1, .int z0), (2, .int i), (3, .int z02), (4, .int j), (5, .int n)] := by subst ek2 eit; exact hl
                              replace hP : va_P (dC, dI) vwCl (zM k q (sA (sA z 40 mv) 39 it)) H := by subst eit; exact hP
                              clear ek2 eit
                              obtain ⟨mm157, hm157⟩ : ∃ mm : Nat, mm = (60 - k2.toInt).toNat := ⟨_, rfl⟩
                              refine z_cut2 hP hS hl ?_
                              clear hl hP
                              intro H locs ls hP hS hl
                              induction mm157 using Nat.strongRecOn generalizing k2 it H locs ls with
                              | _ mm157 ih157 =>
                                obtain ⟨hk2, hit2⟩ := hv157
                                have hmn : ∀ q : Nat, q < n.toNatClampNeg → mv q = z.2.2.1 39 (60 * z0.toNatClampNeg + i.toNatClampNeg + q) := fun q hq => hmv q (by have q3 := z_clamp (x := n) (by omega); omega)
                                refine lv_iload hx hb dX7_copy_157 (lv_at hl 0 rfl) ?_
                                refine lv_iload hx hb dX7_copy_159 (lv_at hl 6 rfl) ?_
                                refine lv_icmp_ge (tgt := 192) hx hb dX7_copy_161 (by decide) (fun c_75 => ?_) (fun c_75 => ?_)
                                · skip
                                  have hc_75 := zb_le rfl rfl c_75
                                  refine lv_iconst (v := 1) hx hb dX7_copy_192 (by decide) ?_
                                  exact W.iret (v := 1) hx hb hr (fun t ht hW => ⟨⟨1, (it, mv, z.1 41), rfl, (show (MInv (sI (sA (sA z 39 it) 40 mv) 41 (z.1 41))) ∧ (((1 : Int32), trM (sI (sA (sA z 39 it) 40 mv) 41 (z.1 41))) = tCopy2 (trM z) z0 i z02 j n) from ⟨hI, tCopy2_ok (m := z0.toNatClampNeg) (m2 := z02.toNatClampNeg) (tCopy_0 (m := z0.toNatClampNeg) (m2 := z02.toNatClampNeg) (by omega) rfl rfl ((trM_Kg (z_cl4 (show 0 ≤ z0.toInt ∧ z0.toInt < 4 by omega))).1.trans (kM_in (by omega)).1) ((trM_Kg (z_cl4 (show 0 ≤ z02.toInt ∧ z02.toInt < 4 by omega))).1.trans (kM_in (by omega)).1) ((trM_Kg (z_cl4 (show 0 ≤ z0.toInt ∧ z0.toInt < 4 by omega))).2.trans (kM_in (by omega)).2) ((trM_Kg (z_cl4 (show 0 ≤ z02.toInt ∧ z02.toInt < 4 by omega))).2.trans (kM_in (by omega)).2) (by have q1 := hT3 _ (z_cl4 (show 0 ≤ z0.toInt ∧ z0.toInt < 4 by omega)); have q2 := hT3 _ (z_cl4 (show 0 ≤ z02.toInt ∧ z02.toInt < 4 by omega)); omega) (by omega) (by omega) rfl) rfl rfl rfl (trM_cpy (z := z) rfl (z_cl4 (show 0 ≤ z0.toInt ∧ z0.toInt < 4 by omega)) (z_cl4 (show 0 ≤ z02.toInt ∧ z02.toInt < 4 by omega)) (by have q1 := z_clamp (x := i) (by omega); have q2 := z_clamp (x := j) (by omega); have q3 := z_clamp (x := n) (by omega); omega) (by have q1 := z_clamp (x := i) (by omega); have q2 := z_clamp (x := j) (by omega); have q3 := z_clamp (x := n) (by omega); omega) hmn (hit2.trans (by rw [show k2.toNatClampNeg = n.toNatClampNeg by have q1 := z_clamp (x := k2) (by omega); have q3 := z_clamp (x := n) (by omega); omega])))⟩), ⟨by rw [ht]; exact hP, hDa _⟩⟩, hS.F ht⟩) hS.2.2 dX7_copy_193
                                · skip
                                  have hc_75 := zb_nle rfl rfl c_75
                                  refine lv_aload_n hx hb dX7_copy_164 rfl (lv_at hl 1 rfl) ?_
                                  refine va_get (D := (dC, dI)) (ci := 7) (v := .ref (q 39)) (C := RX7) (T := TX7) (N := 42) hx hb htb inw7 hown hK.1 hP 0 rfl rfl 39 (by decide) (htb _ wmt3_206) (fun _ h9 => h9) rfl dX7_copy_165 ?_
                                  refine lv_bipush (v := 60) hx hb dX7_copy_168 (by decide) ?_
                                  refine lv_iload_n hx hb dX7_copy_170 rfl (lv_at hl 4 rfl) ?_
                                  refine lv_imul hx hb dX7_copy_171 ?_
                                  refine lv_topi (fun x_76 ex_76 => ?_)
                                  have hx_76 := z_mul ex_76 (show (60 : Int32).toInt = 60 by decide) rfl (by omega)
                                  refine lv_iload hx hb dX7_copy_172 (lv_at hl 5 rfl) ?_
                                  refine lv_iadd hx hb dX7_copy_174 ?_
                                  refine lv_topi (fun x_77 ex_77 => ?_)
                                  have hx_77 := z_add ex_77 rfl rfl (by omega)
                                  refine lv_iload hx hb dX7_copy_175 (lv_at hl 0 rfl) ?_
                                  refine lv_iadd hx hb dX7_copy_177 ?_
                                  refine lv_topi (fun x_78 ex_78 => ?_)
                                  have hx_78 := z_add ex_78 rfl rfl (by omega)
                                  refine lv_aload_n hx hb dX7_copy_178 rfl (lv_at hl 1 rfl) ?_
                                  refine va_get (D := (dC, dI)) (ci := 7) (v := .ref (q 40)) (C := RX7) (T := TX7) (N := 42) hx hb htb inw7 hown hK.1 hP 0 rfl rfl 40 (by decide) (htb _ wmt3_207) (fun _ h9 => h9) rfl dX7_copy_179 ?_
                                  refine lv_iload hx hb dX7_copy_182 (lv_at hl 0 rfl) ?_
                                  refine va_iald (D := (dC, dI)) hx hb hK.1 hP 24 0 rfl rfl (z_in (by omega)) dX7_copy_184 ?_
                                  refine lv_topi (fun x_79 ex_79 => ?_)
                                  replace ex_79 : x_79 = mv k2.toNatClampNeg := ex_79
                                  refine va_iast (D := (dC, dI)) hx hb hK.1 hP (hDa _) hS 23 0 rfl rfl (z_in (by omega)) dX7_copy_185 (fun H locs hP _ hS => ?_)
                                  obtain ⟨f_80, ef_80⟩ : ∃ x : Nat → Int32, x = upd it x_78.toNatClampNeg x_79 := ⟨_, rfl⟩
                                  have hP : va_P (dC, dI) vwCl (zM k q (sA (sA z 40 mv) 39 f_80)) H := by rw [ef_80]; exact hP
                                  obtain ⟨x_81, ex_81⟩ : ∃ y : Int32, y = k2 + 1 := ⟨_, rfl⟩
                                  have hx_81 : x_81.toInt = k2.toInt + 1 := z_add ex_81 rfl (show (1 : Int32).toInt = 1 by decide) (by omega)
                                  refine lv_iinc (v := x_81) (lv' := [(6, .int x_81), (0, .ref (q 0)), (1, .int z0), (2, .int i), (3, .int z02), (4, .int j), (5, .int n)]) hx hb dX7_copy_186 hl (k := 0) rfl (by rw [ex_81]; rfl) (by decide) rfl (fun ls hl => ?_)
                                  refine lv_goto (tgt := 157) hx hb dX7_copy_189 (by decide) ?_
                                  exact ih157 ((60 - x_81.toInt).toNat) (by omega) x_81 f_80 ⟨(show 0 ≤ x_81.toInt ∧ x_81.toInt ≤ n.toInt by omega), (it_s hit2 hk2.1 ex_79 ef_80 (by have q1 := z_clamp (x := k2) (by omega); have q2 := z_clamp (x := z02) (by omega); have q3 := z_clamp (x := j) (by omega); have q4 := z_clamp (x := x_78) (by omega); omega) hx_81)⟩ rfl H locs ls hP hS (lv_sub hl [0, 1, 2, 3, 4, 5, 6] rfl)
                            · skip
                              have hc_74 := zb_nle rfl rfl c_74
                              refine lv_aload_n hx hb dX7_copy_127 rfl (lv_at hl 1 rfl) ?_
                              refine va_get (D := (dC, dI)) (ci := 7) (v := .ref (q 40)) (C := RX7) (T := TX7) (N := 42) hx hb htb inw7 hown hK.1 hP 0 rfl rfl 40 (by decide) (htb _ wmt3_207) (fun _ h9 => h9) rfl dX7_copy_128 ?_
                              refine lv_iload hx hb dX7_copy_131 (lv_at hl 0 rfl) ?_
                              refine lv_aload_n hx hb dX7_copy_133 rfl (lv_at hl 1 rfl) ?_
                              refine va_get (D := (dC, dI)) (ci := 7) (v := .ref (q 39)) (C := RX7) (T := TX7) (N := 42) hx hb htb inw7 hown hK.1 hP 0 rfl rfl 39 (by decide) (htb _ wmt3_206) (fun _ h9 => h9) rfl dX7_copy_134 ?_
                              refine lv_bipush (v := 60) hx hb dX7_copy_137 (by decide) ?_
                              refine lv_iload_n hx hb dX7_copy_139 rfl (lv_at hl 2 rfl) ?_
                              refine lv_imul hx hb dX7_copy_140 ?_
                              refine lv_topi (fun x_82 ex_82 => ?_)
                              have hx_82 := z_mul ex_82 (show (60 : Int32).toInt = 60 by decide) rfl (by omega)
                              refine lv_iload_n hx hb dX7_copy_141 rfl (lv_at hl 3 rfl) ?_
                              refine lv_iadd hx hb dX7_copy_142 ?_
                              refine lv_topi (fun x_83 ex_83 => ?_)
                              have hx_83 := z_add ex_83 rfl rfl (by omega)
                              refine lv_iload hx hb dX7_copy_143 (lv_at hl 0 rfl) ?_
                              refine lv_iadd hx hb dX7_copy_145 ?_
                              refine lv_topi (fun x_84 ex_84 => ?_)
                              have hx_84 := z_add ex_84 rfl rfl (by omega)
                              refine va_iald (D := (dC, dI)) hx hb hK.1 hP 23 0 rfl rfl (z_in (by omega)) dX7_copy_146 ?_
                              refine lv_topi (fun x_85 ex_85 => ?_)
                              replace ex_85 : x_85 = (z.2.2.1 39) x_84.toNatClampNeg := ex_85
                              refine va_iast (D := (dC, dI)) hx hb hK.1 hP (hDa _) hS 24 0 rfl rfl (z_in (by omega)) dX7_copy_147 (fun H locs hP _ hS => ?_)
                              obtain ⟨f_86, ef_86⟩ : ∃ x : Nat → Int32, x = upd mv k1.toNatClampNeg x_85 := ⟨_, rfl⟩
                              have hP : va_P (dC, dI) vwCl (zM k q (sA z 40 f_86)) H := by rw [ef_86]; exact hP
                              obtain ⟨x_87, ex_87⟩ : ∃ y : Int32, y = k1 + 1 := ⟨_, rfl⟩
                              have hx_87 : x_87.toInt = k1.toInt + 1 := z_add ex_87 rfl (show (1 : Int32).toInt = 1 by decide) (by omega)
                              refine lv_iinc (v := x_87) (lv' := [(6, .int x_87), (0, .ref (q 0)), (1, .int z0), (2, .int i), (3, .int z02), (4, .int j), (5, .int n)]) hx hb dX7_copy_148 hl (k := 0) rfl (by rw [ex_87]; rfl) (by decide) rfl (fun ls hl => ?_)
                              refine lv_goto (tgt := 120) hx hb dX7_copy_151 (by decide) ?_
                              exact ih120 ((60 - x_87.toInt).toNat) (by omega) x_87 f_86 ⟨(show 0 ≤ x_87.toInt ∧ x_87.toInt ≤ n.toInt by omega), (mv_s hmv hk1.1 ex_85 ef_86 (by have q1 := z_clamp (x := k1) (by omega); have q2 := z_clamp (x := z0) (by omega); have q3 := z_clamp (x := i) (by omega); have q4 := z_clamp (x := x_84) (by omega); omega) hx_87)⟩ rfl H locs ls hP hS (lv_sub hl [0, 1, 2, 3, 4, 5, 6] rfl)
                        · skip
                          have hc_73 := zl_nle rfl rfl c_73
                          refine lv_aload_n hx hb dX7_copy_111 rfl (lv_at hl 0 rfl) ?_
                          refine lv_iconst (v := 2) hx hb dX7_copy_112 (by decide) ?_
                          refine zcA_i (w := (zM k q z)) (va_runV (As := [.int 2]) (rest := []) ⟨hx, hb, hml, hown, htb⟩ (c_X7_meets l dC dI k q z 2 _ hI) (cwV 1 htb (gzV wmt4_174 wmt4_176 wmp3_4 wmt1_8 wmt4_177) rfl rfl rfl (by decide +kernel) ⟨Nat.le_of_ble_eq_true rfl, Nat.le_of_ble_eq_true rfl⟩) (zpA_V (ci := 7) (q0 := 0) hK hP (hDa _) rfl rfl) rfl rfl hl.1 rfl (lv_room (Nat.le_of_ble_eq_true rfl)) dX7_copy_113 ⟨Nat.le_of_ble_eq_true rfl, Nat.le_of_ble_eq_true rfl⟩) (hDa _) hS hA (fun r_88 u_89 H locs w_90 hP _ hS => ?_)
                          obtain ⟨o41_91, rfl⟩ : ∃ y, y = u_89 := ⟨_, rfl⟩
                          have hP : va_P (dC, dI) vwCl (zM k q (sI z 41 o41_91)) H := hP
                          obtain ⟨h_92, h_93⟩ := w_90
                          replace h_92 : MInv (sI z 41 o41_91) := h_92
                          replace h_93 : r_88 = (-10) - (2 : Int32) := h_93
                          have hI := h_92
                          have hfd : r_88 = -12 := h_93.trans (by decide)
                          exact W.iret (v := r_88) hx hb hr (fun t ht hW => ⟨⟨r_88, (z.2.2.1 39, z.2.2.1 40, o41_91), rfl, (show (MInv (sI (sA (sA z 39 (z.2.2.1 39)) 40 (z.2.2.1 40)) 41 o41_91)) ∧ ((r_88, trM (sI (sA (sA z 39 (z.2.2.1 39)) 40 (z.2.2.1 40)) 41 o41_91)) = tCopy2 (trM z) z0 i z02 j n) from ⟨hI, tCopy2_no (tCopy_2 (m := z0.toNatClampNeg) (m2 := z02.toNatClampNeg) (by omega) rfl rfl ((trM_Kg (z_cl4 (show 0 ≤ z0.toInt ∧ z0.toInt < 4 by omega))).1.trans (kM_in (by omega)).1) ((trM_Kg (z_cl4 (show 0 ≤ z02.toInt ∧ z02.toInt < 4 by omega))).1.trans (kM_in (by omega)).1) ((trM_Kg (z_cl4 (show 0 ≤ z0.toInt ∧ z0.toInt < 4 by omega))).2.trans (kM_in (by omega)).2) ((trM_Kg (z_cl4 (show 0 ≤ z02.toInt ∧ z02.toInt < 4 by omega))).2.trans (kM_in (by omega)).2) (by have q1 := hT3 _ (z_cl4 (show 0 ≤ z0.toInt ∧ z0.toInt < 4 by omega)); have q2 := hT3 _ (z_cl4 (show 0 ≤ z02.toInt ∧ z02.toInt < 4 by omega)); omega) (by omega) (by omega) hfd) (by rw [hfd]; decide) rfl⟩), ⟨by rw [ht]; exact hP, hDa _⟩⟩, hS.F ht⟩) hS.2.2 dX7_copy_116
              · skip
                have hc_30 := zb_ne rfl rfl c_30
                refine lv_aload_n hx hb dX7_copy_56 rfl (lv_at hl 0 rfl) ?_
                refine lv_iconst (v := 4) hx hb dX7_copy_57 (by decide) ?_
                refine zcA_i (w := (zM k q z)) (va_runV (As := [.int 4]) (rest := []) ⟨hx, hb, hml, hown, htb⟩ (c_X7_meets l dC dI k q z 4 _ hI) (cwV 1 htb (gzV wmt4_174 wmt4_176 wmp3_4 wmt1_8 wmt4_177) rfl rfl rfl (by decide +kernel) ⟨Nat.le_of_ble_eq_true rfl, Nat.le_of_ble_eq_true rfl⟩) (zpA_V (ci := 7) (q0 := 0) hK hP (hDa _) rfl rfl) rfl rfl hl.1 rfl (lv_room (Nat.le_of_ble_eq_true rfl)) dX7_copy_58 ⟨Nat.le_of_ble_eq_true rfl, Nat.le_of_ble_eq_true rfl⟩) (hDa _) hS hA (fun r_95 u_96 H locs w_97 hP _ hS => ?_)
                obtain ⟨o41_98, rfl⟩ : ∃ y, y = u_96 := ⟨_, rfl⟩
                have hP : va_P (dC, dI) vwCl (zM k q (sI z 41 o41_98)) H := hP
                obtain ⟨h_99, h_100⟩ := w_97
                replace h_99 : MInv (sI z 41 o41_98) := h_99
                replace h_100 : r_95 = (-10) - (4 : Int32) := h_100
                have hI := h_99
                have hfd : r_95 = -14 := h_100.trans (by decide)
                exact W.iret (v := r_95) hx hb hr (fun t ht hW => ⟨⟨r_95, (z.2.2.1 39, z.2.2.1 40, o41_98), rfl, (show (MInv (sI (sA (sA z 39 (z.2.2.1 39)) 40 (z.2.2.1 40)) 41 o41_98)) ∧ ((r_95, trM (sI (sA (sA z 39 (z.2.2.1 39)) 40 (z.2.2.1 40)) 41 o41_98)) = tCopy2 (trM z) z0 i z02 j n) from ⟨hI, tCopy2_no (tCopy_4 (m := z0.toNatClampNeg) (m2 := z02.toNatClampNeg) (by omega) rfl rfl ((trM_Kg (z_cl4 (show 0 ≤ z0.toInt ∧ z0.toInt < 4 by omega))).1.trans (kM_in (by omega)).1) ((trM_Kg (z_cl4 (show 0 ≤ z02.toInt ∧ z02.toInt < 4 by omega))).1.trans (kM_in (by omega)).1) (by have q1 := hT3 _ (z_cl4 (show 0 ≤ z0.toInt ∧ z0.toInt < 4 by omega)); have q2 := hT3 _ (z_cl4 (show 0 ≤ z02.toInt ∧ z02.toInt < 4 by omega)); omega) (by omega) hfd) (by rw [hfd]; decide) rfl⟩), ⟨by rw [ht]; exact hP, hDa _⟩⟩, hS.F ht⟩) hS.2.2 dX7_copy_61
            · skip
              have hc_27 := zb_eq rfl (show (0 : Int32).toInt = 0 by decide) c_27
              refine lv_aload_n hx hb dX7_copy_35 rfl (lv_at hl 0 rfl) ?_
              refine lv_iconst (v := 1) hx hb dX7_copy_36 (by decide) ?_
              refine zcA_i (w := (zM k q z)) (va_runV (As := [.int 1]) (rest := []) ⟨hx, hb, hml, hown, htb⟩ (c_X7_meets l dC dI k q z 1 _ hI) (cwV 1 htb (gzV wmt4_174 wmt4_176 wmp3_4 wmt1_8 wmt4_177) rfl rfl rfl (by decide +kernel) ⟨Nat.le_of_ble_eq_true rfl, Nat.le_of_ble_eq_true rfl⟩) (zpA_V (ci := 7) (q0 := 0) hK hP (hDa _) rfl rfl) rfl rfl hl.1 rfl (lv_room (Nat.le_of_ble_eq_true rfl)) dX7_copy_37 ⟨Nat.le_of_ble_eq_true rfl, Nat.le_of_ble_eq_true rfl⟩) (hDa _) hS hA (fun r_102 u_103 H locs w_104 hP _ hS => ?_)
              obtain ⟨o41_105, rfl⟩ : ∃ y, y = u_103 := ⟨_, rfl⟩
              have hP : va_P (dC, dI) vwCl (zM k q (sI z 41 o41_105)) H := hP
              obtain ⟨h_106, h_107⟩ := w_104
              replace h_106 : MInv (sI z 41 o41_105) := h_106
              replace h_107 : r_102 = (-10) - (1 : Int32) := h_107
              have hI := h_106
              have hfd : r_102 = -11 := h_107.trans (by decide)
              exact W.iret (v := r_102) hx hb hr (fun t ht hW => ⟨⟨r_102, (z.2.2.1 39, z.2.2.1 40, o41_105), rfl, (show (MInv (sI (sA (sA z 39 (z.2.2.1 39)) 40 (z.2.2.1 40)) 41 o41_105)) ∧ ((r_102, trM (sI (sA (sA z 39 (z.2.2.1 39)) 40 (z.2.2.1 40)) 41 o41_105)) = tCopy2 (trM z) z0 i z02 j n) from ⟨hI, tCopy2_no (tCopy_1 (m := z0.toNatClampNeg) (m2 := z02.toNatClampNeg) (by omega) rfl rfl ((trM_Kg (z_cl4 (show 0 ≤ z0.toInt ∧ z0.toInt < 4 by omega))).1.trans rfl) ((trM_Kg (z_cl4 (show 0 ≤ z02.toInt ∧ z02.toInt < 4 by omega))).1.trans (kM_out (by omega)).1) (Or.inr (by decide)) hfd) (by rw [hfd]; decide) rfl⟩), ⟨by rw [ht]; exact hP, hDa _⟩⟩, hS.F ht⟩) hS.2.2 dX7_copy_40
        · skip
          exact absurd c_16 (by decide)
      · skip
        replace e_15 : r_9 = 0 := e_15
        subst e_15
        replace h_14 : ¬ (0 ≤ z02.toInt ∧ z02.toInt < 4) := h_14
        refine lv_if_ne (tgt := 17) hx hb dX7_copy_11 (by decide) (fun c_109 => ?_) (fun c_109 => ?_)
        · skip
          exact absurd c_109 (by decide)
        · skip
          refine lv_bipush (v := (-2)) hx hb dX7_copy_14 (by decide) ?_
          exact W.iret (v := (-2)) hx hb hr (fun t ht hW => ⟨⟨(-2), (z.2.2.1 39, z.2.2.1 40, z.1 41), rfl, (show (MInv (sI (sA (sA z 39 (z.2.2.1 39)) 40 (z.2.2.1 40)) 41 (z.1 41))) ∧ ((((-2) : Int32), trM (sI (sA (sA z 39 (z.2.2.1 39)) 40 (z.2.2.1 40)) 41 (z.1 41))) = tCopy2 (trM z) z0 i z02 j n) from ⟨hI, tCopy2_no (tCopy_bad (by omega)) (by decide) rfl⟩), ⟨by rw [ht]; exact hP, hDa _⟩⟩, hS.F ht⟩) hS.2.2 dX7_copy_16
  · skip
    replace e_7 : r_1 = 0 := e_7
    subst e_7
    replace h_6 : ¬ (0 ≤ z0.toInt ∧ z0.toInt < 4) := h_6
    refine lv_if_eq (tgt := 14) hx hb dX7_copy_4 (by decide) (fun c_110 => ?_) (fun c_110 => ?_)
    · skip
      refine lv_bipush (v := (-2)) hx hb dX7_copy_14 (by decide) ?_
      exact W.iret (v := (-2)) hx hb hr (fun t ht hW => ⟨⟨(-2), (z.2.2.1 39, z.2.2.1 40, z.1 41), rfl, (show (MInv (sI (sA (sA z 39 (z.2.2.1 39)) 40 (z.2.2.1 40)) 41 (z.1 41))) ∧ ((((-2) : Int32), trM (sI (sA (sA z 39 (z.2.2.1 39)) 40 (z.2.2.1 40)) 41 (z.1 41))) = tCopy2 (trM z) z0 i z02 j n) from ⟨hI, tCopy2_no (tCopy_bad (by omega)) (by decide) rfl⟩), ⟨by rw [ht]; exact hP, hDa _⟩⟩, hS.F ht⟩) hS.2.2 dX7_copy_16
    · skip
      exact absurd (by decide) c_110
set_option maxHeartbeats 4000000 in
set_option maxRecDepth 100000 in
theorem c_X7_write (l : Launch) (dC : Nat → ClassId) (dI : Nat → Nat → Nat) (k : Nat → ClassId) (q : Nat → Nat) (z : ZS) (d : Int32) (z0 : Int32) (sz : Nat) (hI : MInv z) (hT3 : T3 (z.2.2.1 37)) : Met l yX7_write (wz yX7_write cX7_write 4 (some .int)) ({ frames := 7, cells := 0, slots := 0, locals := 173 }) (va_Pc [.ref (q 0), .int d, .int z0] (zPre dC dI k (zTX k) (zM k q z) sz)) (va_Qi (fun (r : Int32) (u : (Nat → Int32) × (Nat → Int32) × (Nat → Int32) × (Nat → Int32) × (Nat → Int32) × (Nat → Int32) × (Nat → Int32) × Int32 × Int32 × Int32 × Int32 × (Nat → Int32) × (Nat → Int32) × (Nat → Int32) × Int64 × Int64 × Int32 × (Nat → Int32) × (Nat → Int32) × Int32) => (MInv (sI (sA (sA (sI (sJ (sJ (sA (sA (sA (sI (sI (sI (sI (sA (sA (sA (sA (sA (sA (sA z 4 u.1) 5 u.2.1) 6 u.2.2.1) 7 u.2.2.2.1) 8 u.2.2.2.2.1) 9 u.2.2.2.2.2.1) 10 u.2.2.2.2.2.2.1) 12 u.2.2.2.2.2.2.2.1) 13 u.2.2.2.2.2.2.2.2.1) 14 u.2.2.2.2.2.2.2.2.2.1) 15 u.2.2.2.2.2.2.2.2.2.2.1) 16 u.2.2.2.2.2.2.2.2.2.2.2.1) 17 u.2.2.2.2.2.2.2.2.2.2.2.2.1) 18 u.2.2.2.2.2.2.2.2.2.2.2.2.2.1) 0 u.2.2.2.2.2.2.2.2.2.2.2.2.2.2.1) 1 u.2.2.2.2.2.2.2.2.2.2.2.2.2.2.2.1) 33 u.2.2.2.2.2.2.2.2.2.2.2.2.2.2.2.2.1) 34 u.2.2.2.2.2.2.2.2.2.2.2.2.2.2.2.2.2.1) 39 u.2.2.2.2.2.2.2.2.2.2.2.2.2.2.2.2.2.2.1) 41 u.2.2.2.2.2.2.2.2.2.2.2.2.2.2.2.2.2.2.2)) ∧ ((r, trM (sI (sA (sA (sI (sJ (sJ (sA (sA (sA (sI (sI (sI (sI (sA (sA (sA (sA (sA (sA (sA z 4 u.1) 5 u.2.1) 6 u.2.2.1) 7 u.2.2.2.1) 8 u.2.2.2.2.1) 9 u.2.2.2.2.2.1) 10 u.2.2.2.2.2.2.1) 12 u.2.2.2.2.2.2.2.1) 13 u.2.2.2.2.2.2.2.2.1) 14 u.2.2.2.2.2.2.2.2.2.1) 15 u.2.2.2.2.2.2.2.2.2.2.1) 16 u.2.2.2.2.2.2.2.2.2.2.2.1) 17 u.2.2.2.2.2.2.2.2.2.2.2.2.1) 18 u.2.2.2.2.2.2.2.2.2.2.2.2.2.1) 0 u.2.2.2.2.2.2.2.2.2.2.2.2.2.2.1) 1 u.2.2.2.2.2.2.2.2.2.2.2.2.2.2.2.1) 33 u.2.2.2.2.2.2.2.2.2.2.2.2.2.2.2.2.1) 34 u.2.2.2.2.2.2.2.2.2.2.2.2.2.2.2.2.2.1) 39 u.2.2.2.2.2.2.2.2.2.2.2.2.2.2.2.2.2.2.1) 41 u.2.2.2.2.2.2.2.2.2.2.2.2.2.2.2.2.2.2.2)) = tWrite2 (trM z) d z0)) (fun u t => zPost dC dI (va_A (zM k q z) sz) (zM k q (sI (sA (sA (sI (sJ (sJ (sA (sA (sA (sI (sI (sI (sI (sA (sA (sA (sA (sA (sA (sA z 4 u.1) 5 u.2.1) 6 u.2.2.1) 7 u.2.2.2.1) 8 u.2.2.2.2.1) 9 u.2.2.2.2.2.1) 10 u.2.2.2.2.2.2.1) 12 u.2.2.2.2.2.2.2.1) 13 u.2.2.2.2.2.2.2.2.1) 14 u.2.2.2.2.2.2.2.2.2.1) 15 u.2.2.2.2.2.2.2.2.2.2.1) 16 u.2.2.2.2.2.2.2.2.2.2.2.1) 17 u.2.2.2.2.2.2.2.2.2.2.2.2.1) 18 u.2.2.2.2.2.2.2.2.2.2.2.2.2.1) 0 u.2.2.2.2.2.2.2.2.2.2.2.2.2.2.1) 1 u.2.2.2.2.2.2.2.2.2.2.2.2.2.2.2.1) 33 u.2.2.2.2.2.2.2.2.2.2.2.2.2.2.2.2.1) 34 u.2.2.2.2.2.2.2.2.2.2.2.2.2.2.2.2.2.1) 39 u.2.2.2.2.2.2.2.2.2.2.2.2.2.2.2.2.2.2.1) 41 u.2.2.2.2.2.2.2.2.2.2.2.2.2.2.2.2.2.2.2)) t) (va_A (zM k q z) sz)) 0 0 (va_A (zM k q z) sz) := by
  refine Met.ofW (cc := cX7_write) (maxL := 4) (ret := (some .int)) (by decide) rfl ?_
  intro p e s m args below meth c s₁ B hml hv
  obtain ⟨rfl, hsz, hP, hK, hD0⟩ := hv
  have hx := B.exec
  have hb := B.bytes
  have hr := B.returns
  have hts := atoms_spec (ws := wz yX7_write cX7_write 4 (some .int)) B.pre
  have htb : ∀ w ∈ zw, w.before _ s = true := fun w h => hts w (List.mem_cons_of_mem _ h)
  have hown : s.vm.findClass RX7 = some m.cls := findClass_of_methodNamed B.named
  have hlocks := B.notSynchronized
  clear hts
  subst hsz
  have hD := hD0.self (sz := s.heap.size)
  generalize hAe : va_A (zM k q z) s.heap.size = A at hD ⊢
  have hA : ∀ q : Nat, s.heap.size ≤ q → A q := fun q h => by rw [← hAe]; exact Or.inr h
  have hDa : ∀ z9 : ZS, va_D A (zM k q z9) := fun z9 => va_D_adr (w := zM k q z) rfl hD
  have hl := lv_entry ([.ref (q 0), .int d, .int z0]) (n := 4) (Nat.le_of_ble_eq_true rfl)
  rw [lg_entry_eq]
  generalize (lg_sl ([.ref (q 0), .int d, .int z0]) ++ List.replicate (4 - (lg_sl ([.ref (q 0), .int d, .int z0])).length) Slot.unset).toArray = ls at hl ⊢
  have hl : lv_has ls 4 [(0, .ref (q 0)), (1, .int d), (2, .int z0)] := hl
  refine z_start2 (A := A) (w := (zM k q z)) hP (fun H locs hP hS => ?_)
  clear hD0 hAe
  refine lv_iload_n hx hb dX7_write_0 rfl (lv_at hl 1 rfl) ?_
  refine zc0_i (w := (zM k q z)) (va_runS (As := [.int d]) (rest := []) ⟨hx, hb, hml, hown, htb⟩ (c_X7_isDesign l dC dI k d _ ) (va_cwS 1 htb (gzS wmt4_59 wmt4_60 wmt1_8 wmt4_61) rfl rfl rfl (by decide +kernel) ⟨Nat.le_of_ble_eq_true rfl, Nat.le_of_ble_eq_true rfl⟩) (zp0_S hK) rfl rfl hl.1 rfl (lv_room (Nat.le_of_ble_eq_true rfl)) dX7_write_1 ⟨Nat.le_of_ble_eq_true rfl, Nat.le_of_ble_eq_true rfl⟩) hP hS hA (fun r_1 u_2 H locs w_3 hP hS => ?_)
  rcases w_3 with ⟨e_5, h_4⟩ | ⟨e_7, h_6⟩
  · skip
    replace e_5 : r_1 = 1 := e_5
    subst e_5
    replace h_4 : 0 ≤ d.toInt ∧ d.toInt < 4 := h_4
    refine lv_if_eq (tgt := 14) hx hb dX7_write_4 (by decide) (fun c_8 => ?_) (fun c_8 => ?_)
    · skip
      exact absurd c_8 (by decide)
    · skip
      refine lv_iload_n hx hb dX7_write_7 rfl (lv_at hl 2 rfl) ?_
      refine zc0_i (w := (zM k q z)) (va_runS (As := [.int z0]) (rest := []) ⟨hx, hb, hml, hown, htb⟩ (c_X7_isSheet l dC dI k z0 _ ) (va_cwS 1 htb (gzS wmt4_171 wmt4_172 wmt1_8 wmt4_173) rfl rfl rfl (by decide +kernel) ⟨Nat.le_of_ble_eq_true rfl, Nat.le_of_ble_eq_true rfl⟩) (zp0_S hK) rfl rfl hl.1 rfl (lv_room (Nat.le_of_ble_eq_true rfl)) dX7_write_8 ⟨Nat.le_of_ble_eq_true rfl, Nat.le_of_ble_eq_true rfl⟩) hP hS hA (fun r_9 u_10 H locs w_11 hP hS => ?_)
      rcases w_11 with ⟨e_13, h_12⟩ | ⟨e_15, h_14⟩
      · skip
        replace e_13 : r_9 = 1 := e_13
        subst e_13
        replace h_12 : 0 ≤ z0.toInt ∧ z0.toInt < 4 := h_12
        refine lv_if_ne (tgt := 17) hx hb dX7_write_11 (by decide) (fun c_16 => ?_) (fun c_16 => ?_)
        · skip
          refine lv_aload_n hx hb dX7_write_17 rfl (lv_at hl 0 rfl) ?_
          refine va_get (D := (dC, dI)) (ci := 7) (v := .ref (q 36)) (C := RX7) (T := TX7) (N := 42) hx hb htb inw7 hown hK.1 hP 0 rfl rfl 36 (by decide) (htb _ wmt3_203) (fun _ h9 => h9) rfl dX7_write_18 ?_
          refine lv_iload_n hx hb dX7_write_21 rfl (lv_at hl 2 rfl) ?_
          refine va_zald (D := (dC, dI)) hx hb hK.1 hP 20 2 rfl rfl (z_in (by omega)) dX7_write_22 ?_
          refine lv_topi (fun x_17 ex_17 => ?_)
          have hx_17 : x_17.toInt = ((z.2.2.1 36) z0.toNatClampNeg).toInt := by rw [ex_17]
          refine lv_if_ne (tgt := 32) hx hb dX7_write_23 (by decide) (fun c_18 => ?_) (fun c_18 => ?_)
          · skip
            have hc_18 := zb_ne rfl (show (0 : Int32).toInt = 0 by decide) c_18
            refine lv_aload_n hx hb dX7_write_32 rfl (lv_at hl 0 rfl) ?_
            refine lv_iload_n hx hb dX7_write_33 rfl (lv_at hl 1 rfl) ?_
            refine zcA_i (w := (zM k q z)) (va_runV (As := [.int d]) (rest := []) ⟨hx, hb, hml, hown, htb⟩ (c_X7_faultOf l dC dI k q z d _ hI (show 0 ≤ d.toInt ∧ d.toInt < 4 by omega)) (cwV 1 htb (gzV wmt4_73 wmt4_75 wmp2_6 wmt1_8 wmt4_76) rfl rfl rfl (by decide +kernel) ⟨Nat.le_of_ble_eq_true rfl, Nat.le_of_ble_eq_true rfl⟩) (zpA_V (ci := 7) (q0 := 0) hK hP (hDa _) rfl rfl) rfl rfl hl.1 rfl (lv_room (Nat.le_of_ble_eq_true rfl)) dX7_write_34 ⟨Nat.le_of_ble_eq_true rfl, Nat.le_of_ble_eq_true rfl⟩) (hDa _) hS hA (fun r_19 u_20 H locs w_21 hP _ hS => ?_)
            obtain ⟨o4_22, o5_23, o6_24, o7_25, o8_26, o9_27, o10_28, o12_29, o13_30, o14_31, o15_32, o16_33, o17_34, o18_35⟩ := u_20
            have hP : va_P (dC, dI) vwCl (zM k q (sA (sA (sA (sI (sI (sI (sI (sA (sA (sA (sA (sA (sA (sA z 4 o4_22) 5 o5_23) 6 o6_24) 7 o7_25) 8 o8_26) 9 o9_27) 10 o10_28) 12 o12_29) 13 o13_30) 14 o14_31) 15 o15_32) 16 o16_33) 17 o17_34) 18 o18_35)) H := hP
            obtain ⟨h_36, h_37, h_38, h_39, h_40⟩ := w_21
            replace h_36 : MD (FR ((z.2.2.1 2)) ((z.2.2.1 3))) o4_22 o5_23 o6_24 o7_25 o8_26 o9_27 o10_28 := h_36
            replace h_37 : ¬ o4_22 d.toNatClampNeg = 0 := h_37
            replace h_38 : RK ((z.2.2.1 4)) ((z.2.2.1 5)) o4_22 o5_23 := h_38
            replace h_39 : R7 ((z.2.2.1 4)) ((z.2.2.1 6)) ((z.2.2.1 7)) ((z.2.2.1 8)) ((z.2.2.1 9)) ((z.2.2.1 10)) o6_24 o7_25 o8_26 o9_27 o10_28 := h_39
            replace h_40 : r_19 = o5_23 d.toNatClampNeg := h_40
            have hI : MInv (sA (sA (sA (sI (sI (sI (sI (sA (sA (sA (sA (sA (sA (sA z 4 o4_22) 5 o5_23) 6 o6_24) 7 o7_25) 8 o8_26) 9 o9_27) 10 o10_28) 12 o12_29) 13 o13_30) 14 o14_31) 15 o15_32) 16 o16_33) 17 o17_34) 18 o18_35) := ⟨hI.1, hI.2.1, hI.2.2.1, hI.2.2.2.1, hI.2.2.2.2.1, h_36⟩
            have hms := MD_at h_36 (show 0 ≤ d.toInt ∧ d.toInt < 4 by omega)
            have hrd := h_37
            have hrk := h_38
            obtain ⟨hw, hff, hfF, hlk⟩ := hms.2.2.2.2.2 h_37
            have hwb := hms.1
            have hr5 : r_19.toInt = (o5_23 d.toNatClampNeg).toInt := by rw [h_40]
            have htF : tF (trM z) d.toNatClampNeg = o5_23 d.toNatClampNeg := (trM_Fg (z_cl4 (show 0 ≤ d.toInt ∧ d.toInt < 4 by omega))).trans (by unfold eF; rw [← hfF, Int32.ofInt_toInt])
            refine lv_iconst (v := (-1)) hx hb dX7_write_37 (by decide) ?_
            refine lv_icmp_eq (tgt := 44) hx hb dX7_write_38 (by decide) (fun c_42 => ?_) (fun c_42 => ?_)
            · skip
              have hc_42 := zb_eq rfl (show ((-1) : Int32).toInt = (-1) by decide) c_42
              refine lv_iconst (v := 0) hx hb dX7_write_44 (by decide) ?_
              refine lv_istore_n (lv' := [(3, .int 0), (0, .ref (q 0)), (1, .int d), (2, .int z0)]) hx hb dX7_write_45 rfl hl (by decide) rfl (fun ls hl => ?_)
              obtain ⟨i, ei⟩ : ∃ x : Int32, 0 = x := ⟨_, rfl⟩
              obtain ⟨co4, eco4⟩ : ∃ x : Nat → Int32, o4_22 = x := ⟨_, rfl⟩
              obtain ⟨co5, eco5⟩ : ∃ x : Nat → Int32, o5_23 = x := ⟨_, rfl⟩
              obtain ⟨co6, eco6⟩ : ∃ x : Nat → Int32, o6_24 = x := ⟨_, rfl⟩
              obtain ⟨co7, eco7⟩ : ∃ x : Nat → Int32, o7_25 = x := ⟨_, rfl⟩
              obtain ⟨co8, eco8⟩ : ∃ x : Nat → Int32, o8_26 = x := ⟨_, rfl⟩
              obtain ⟨co9, eco9⟩ : ∃ x : Nat → Int32, o9_27 = x := ⟨_, rfl⟩
              obtain ⟨co10, eco10⟩ : ∃ x : Nat → Int32, o10_28 = x := ⟨_, rfl⟩
              obtain ⟨co12, eco12⟩ : ∃ x : Int32, o12_29 = x := ⟨_, rfl⟩
              obtain ⟨co13, eco13⟩ : ∃ x : Int32, o13_30 = x := ⟨_, rfl⟩
              obtain ⟨co14, eco14⟩ : ∃ x : Int32, o14_31 = x := ⟨_, rfl⟩
              obtain ⟨co15, eco15⟩ : ∃ x : Int32, o15_32 = x := ⟨_, rfl⟩
              obtain ⟨co16, eco16⟩ : ∃ x : Nat → Int32, o16_33 = x := ⟨_, rfl⟩
              obtain ⟨co17, eco17⟩ : ∃ x : Nat → Int32, o17_34 = x := ⟨_, rfl⟩
              obtain ⟨co18, eco18⟩ : ∃ x : Nat → Int32, o18_35 = x := ⟨_, rfl⟩
              obtain ⟨coa, ecoa⟩ : ∃ x : Int64, z.2.1 0 = x := ⟨_, rfl⟩
              obtain ⟨cob, ecob⟩ : ∃ x : Int64, z.2.1 1 = x := ⟨_, rfl⟩
              obtain ⟨co33, eco33⟩ : ∃ x : Int32, z.1 33 = x := ⟨_, rfl⟩
              obtain ⟨co34, eco34⟩ : ∃ x : Nat → Int32, z.2.2.1 34 = x := ⟨_, rfl⟩
              obtain ⟨it, eit⟩ : ∃ x : Nat → Int32, z.2.2.1 39 = x := ⟨_, rfl⟩
              have hv46 : (0 ≤ i.toInt ∧ i.toInt ≤ 24) ∧ (i.toInt ≤ (z.2.2.1 38 z0.toNatClampNeg).toInt) ∧ (MInv (sA (sA (sI (sJ (sJ (sA (sA (sA (sI (sI (sI (sI (sA (sA (sA (sA (sA (sA (sA z 4 co4) 5 co5) 6 co6) 7 co7) 8 co8) 9 co9) 10 co10) 12 co12) 13 co13) 14 co14) 15 co15) 16 co16) 17 co17) 18 co18) 0 coa) 1 cob) 33 co33) 34 co34) 39 it)) ∧ (trM (sA (sA (sI (sJ (sJ (sA (sA (sA (sI (sI (sI (sI (sA (sA (sA (sA (sA (sA (sA z 4 co4) 5 co5) 6 co6) 7 co7) 8 co8) 9 co9) 10 co10) 12 co12) 13 co13) 14 co14) 15 co15) 16 co16) 17 co17) 18 co18) 0 coa) 1 cob) 33 co33) 34 co34) 39 it) = tSt (trM z) z0.toNatClampNeg (wrR (tIt (trM z) z0.toNatClampNeg) i.toInt)) := by subst ei eco4 eco5 eco6 eco7 eco8 eco9 eco10 eco12 eco13 eco14 eco15 eco16 eco17 eco18 ecoa ecob eco33 eco34 eit; exact ⟨(by decide), (by have q := M4_at (show M4 (z.2.2.1 38) from hI.2.2.2.2.1) (show 0 ≤ z0.toInt ∧ z0.toInt < 4 by omega); have q0 : (0 : Int32).toInt = 0 := (by decide); omega), hI, (Eq.symm (tSt_self (t := trM z) (wrR_0 (by decide))))⟩
              replace hl : lv_has ls 4 [(3, .int i), (0, .ref (q 0)), (1, .int d), (2, .int z0)] := by subst ei eco4 eco5 eco6 eco7 eco8 eco9 eco10 eco12 eco13 eco14 eco15 eco16 eco17 eco18 ecoa ecob eco33 eco34 eit; exact hl
              replace hP : va_P (dC, dI) vwCl (zM k q (sA (sA (sI (sJ (sJ (sA (sA (sA (sI (sI (sI (sI (sA (sA (sA (sA (sA (sA (sA z 4 co4) 5 co5) 6 co6) 7 co7) 8 co8) 9 co9) 10 co10) 12 co12) 13 co13) 14 co14) 15 co15) 16 co16) 17 co17) 18 co18) 0 coa) 1 cob) 33 co33) 34 co34) 39 it)) H := by subst eco4 eco5 eco6 eco7 eco8 eco9 eco10 eco12 eco13 eco14 eco15 eco16 eco17 eco18 ecoa ecob eco33 eco34 eit; exact hP
              clear ei eco4 eco5 eco6 eco7 eco8 eco9 eco10 eco12 eco13 eco14 eco15 eco16 eco17 eco18 ecoa ecob eco33 eco34 eit
              obtain ⟨mm46, hm46⟩ : ∃ mm : Nat, mm = (24 - i.toInt).toNat := ⟨_, rfl⟩
              refine z_cut2 hP hS hl ?_
              clear hl hP
              intro H locs ls hP hS hl
              induction mm46 using Nat.strongRecOn generalizing i co4 co5 co6 co7 co8 co9 co10 co12 co13 co14 co15 co16 co17 co18 coa cob co33 co34 it H locs ls with
              | _ mm46 ih46 =>
                obtain ⟨hi, hi2, hI1, hWr⟩ := hv46
                have hI := hI1
                have hms := MD_at (show MD (FR (z.2.2.1 2) (z.2.2.1 3)) co4 co5 co6 co7 co8 co9 co10 from hI.2.2.2.2.2) (show 0 ≤ d.toInt ∧ d.toInt < 4 by omega)
                refine lv_iload_n hx hb dX7_write_46 rfl (lv_at hl 0 rfl) ?_
                refine lv_bipush (v := 24) hx hb dX7_write_47 (by decide) ?_
                refine lv_icmp_ge (tgt := 80) hx hb dX7_write_49 (by decide) (fun c_43 => ?_) (fun c_43 => ?_)
                · skip
                  have hc_43 := zb_le (show (24 : Int32).toInt = 24 by decide) rfl c_43
                  refine lv_iload_n hx hb dX7_write_80 rfl (lv_at hl 0 rfl) ?_
                  exact W.iret (v := i) hx hb hr (fun t ht hW => ⟨⟨i, (co4, co5, co6, co7, co8, co9, co10, co12, co13, co14, co15, co16, co17, co18, coa, cob, co33, co34, it, z.1 41), rfl, (show (MInv (sI (sA (sA (sI (sJ (sJ (sA (sA (sA (sI (sI (sI (sI (sA (sA (sA (sA (sA (sA (sA z 4 co4) 5 co5) 6 co6) 7 co7) 8 co8) 9 co9) 10 co10) 12 co12) 13 co13) 14 co14) 15 co15) 16 co16) 17 co17) 18 co18) 0 coa) 1 cob) 33 co33) 34 co34) 39 it) 41 (z.1 41))) ∧ ((i, trM (sI (sA (sA (sI (sJ (sJ (sA (sA (sA (sI (sI (sI (sI (sA (sA (sA (sA (sA (sA (sA z 4 co4) 5 co5) 6 co6) 7 co7) 8 co8) 9 co9) 10 co10) 12 co12) 13 co13) 14 co14) 15 co15) 16 co16) 17 co17) 18 co18) 0 coa) 1 cob) 33 co33) 34 co34) 39 it) 41 (z.1 41))) = tWrite2 (trM z) d z0) from ⟨hI, tWrite2_ok (m := z0.toNatClampNeg) (tWrite_0 (m := z0.toNatClampNeg) (n := d.toNatClampNeg) (by omega) rfl rfl ((trM_Kg (z_cl4 (show 0 ≤ z0.toInt ∧ z0.toInt < 4 by omega))).1.trans (kM_in (by omega)).1) (by have q := hT3 _ (z_cl4 (show 0 ≤ z0.toInt ∧ z0.toInt < 4 by omega)); omega) htF (by omega) ((trM_Kg (z_cl4 (show 0 ≤ z0.toInt ∧ z0.toInt < 4 by omega))).2.trans (kM_in (by omega)).2) (by omega)) (by omega) rfl hWr⟩), ⟨by rw [ht]; exact hP, hDa _⟩⟩, hS.F ht⟩) hS.2.2 dX7_write_81
                · skip
                  have hc_43 := zb_nle (show (24 : Int32).toInt = 24 by decide) rfl c_43
                  refine lv_iload_n hx hb dX7_write_52 rfl (lv_at hl 0 rfl) ?_
                  refine lv_aload_n hx hb dX7_write_53 rfl (lv_at hl 1 rfl) ?_
                  refine va_get (D := (dC, dI)) (ci := 7) (v := .ref (q 38)) (C := RX7) (T := TX7) (N := 42) hx hb htb inw7 hown hK.1 hP 0 rfl rfl 38 (by decide) (htb _ wmt3_205) (fun _ h9 => h9) rfl dX7_write_54 ?_
                  refine lv_iload_n hx hb dX7_write_57 rfl (lv_at hl 3 rfl) ?_
                  refine va_iald (D := (dC, dI)) hx hb hK.1 hP 22 0 rfl rfl (z_in (by omega)) dX7_write_58 ?_
                  refine lv_topi (fun x_44 ex_44 => ?_)
                  replace ex_44 : x_44 = (z.2.2.1 38) z0.toNatClampNeg := ex_44
                  have hx_44 : x_44.toInt = ((z.2.2.1 38) z0.toNatClampNeg).toInt := by rw [ex_44]
                  have hmx_44 := M4_at (show M4 (z.2.2.1 38) from hI.2.2.2.2.1) (show 0 ≤ z0.toInt ∧ z0.toInt < 4 by omega)
                  refine lv_icmp_ge (tgt := 80) hx hb dX7_write_59 (by decide) (fun c_45 => ?_) (fun c_45 => ?_)
                  · skip
                    have hc_45 := zb_le rfl rfl c_45
                    refine lv_iload_n hx hb dX7_write_80 rfl (lv_at hl 0 rfl) ?_
                    exact W.iret (v := i) hx hb hr (fun t ht hW => ⟨⟨i, (co4, co5, co6, co7, co8, co9, co10, co12, co13, co14, co15, co16, co17, co18, coa, cob, co33, co34, it, z.1 41), rfl, (show (MInv (sI (sA (sA (sI (sJ (sJ (sA (sA (sA (sI (sI (sI (sI (sA (sA (sA (sA (sA (sA (sA z 4 co4) 5 co5) 6 co6) 7 co7) 8 co8) 9 co9) 10 co10) 12 co12) 13 co13) 14 co14) 15 co15) 16 co16) 17 co17) 18 co18) 0 coa) 1 cob) 33 co33) 34 co34) 39 it) 41 (z.1 41))) ∧ ((i, trM (sI (sA (sA (sI (sJ (sJ (sA (sA (sA (sI (sI (sI (sI (sA (sA (sA (sA (sA (sA (sA z 4 co4) 5 co5) 6 co6) 7 co7) 8 co8) 9 co9) 10 co10) 12 co12) 13 co13) 14 co14) 15 co15) 16 co16) 17 co17) 18 co18) 0 coa) 1 cob) 33 co33) 34 co34) 39 it) 41 (z.1 41))) = tWrite2 (trM z) d z0) from ⟨hI, tWrite2_ok (m := z0.toNatClampNeg) (tWrite_0 (m := z0.toNatClampNeg) (n := d.toNatClampNeg) (by omega) rfl rfl ((trM_Kg (z_cl4 (show 0 ≤ z0.toInt ∧ z0.toInt < 4 by omega))).1.trans (kM_in (by omega)).1) (by have q := hT3 _ (z_cl4 (show 0 ≤ z0.toInt ∧ z0.toInt < 4 by omega)); omega) htF (by omega) ((trM_Kg (z_cl4 (show 0 ≤ z0.toInt ∧ z0.toInt < 4 by omega))).2.trans (kM_in (by omega)).2) (by omega)) (by omega) rfl hWr⟩), ⟨by rw [ht]; exact hP, hDa _⟩⟩, hS.F ht⟩) hS.2.2 dX7_write_81
                  · skip
                    have hc_45 := zb_nle rfl rfl c_45
                    refine lv_aload_n hx hb dX7_write_62 rfl (lv_at hl 1 rfl) ?_
                    refine lv_iload_n hx hb dX7_write_63 rfl (lv_at hl 3 rfl) ?_
                    refine lv_iload_n hx hb dX7_write_64 rfl (lv_at hl 0 rfl) ?_
                    refine lv_aload_n hx hb dX7_write_65 rfl (lv_at hl 1 rfl) ?_
                    refine lv_iload_n hx hb dX7_write_66 rfl (lv_at hl 0 rfl) ?_
                    refine lv_iload_n hx hb dX7_write_67 rfl (lv_at hl 2 rfl) ?_
                    refine zcA_i (w := (zM k q (sA (sA (sI (sJ (sJ (sA (sA (sA (sI (sI (sI (sI (sA (sA (sA (sA (sA (sA (sA z 4 co4) 5 co5) 6 co6) 7 co7) 8 co8) 9 co9) 10 co10) 12 co12) 13 co13) 14 co14) 15 co15) 16 co16) 17 co17) 18 co18) 0 coa) 1 cob) 33 co33) 34 co34) 39 it))) (va_runV (As := [.int i, .int d]) (rest := [.int i, .int z0, .ref (q 0)]) ⟨hx, hb, hml, hown, htb⟩ (c_X7_mayOf l dC dI k q (sA (sA (sI (sJ (sJ (sA (sA (sA (sI (sI (sI (sI (sA (sA (sA (sA (sA (sA (sA z 4 co4) 5 co5) 6 co6) 7 co7) 8 co8) 9 co9) 10 co10) 12 co12) 13 co13) 14 co14) 15 co15) 16 co16) 17 co17) 18 co18) 0 coa) 1 cob) 33 co33) 34 co34) 39 it) i d _ hI (by omega) hms) (cwV 2 htb (gzV wmt5_69 wmt5_71 wmp4_2 wmt1_8 wmt5_72) rfl rfl rfl (by decide +kernel) ⟨Nat.le_of_ble_eq_true rfl, Nat.le_of_ble_eq_true rfl⟩) (zpA_V (ci := 7) (q0 := 0) hK hP (hDa _) rfl rfl) rfl rfl hl.1 rfl (lv_room (Nat.le_of_ble_eq_true rfl)) dX7_write_68 ⟨Nat.le_of_ble_eq_true rfl, Nat.le_of_ble_eq_true rfl⟩) (hDa _) hS hA (fun r_46 u_47 H locs w_48 hP _ hS => ?_)
                    obtain ⟨o4_49, o5_50, o6_51, o7_52, o8_53, o9_54, o10_55, o12_56, o13_57, o14_58, o15_59, o16_60, o17_61, o18_62, oa_63, ob_64, o33_65, o34_66⟩ := u_47
                    have hP : va_P (dC, dI) vwCl (zM k q (sA (sI (sJ (sJ (sA (sA (sA (sI (sI (sI (sI (sA (sA (sA (sA (sA (sA (sA (sA z 39 it) 4 o4_49) 5 o5_50) 6 o6_51) 7 o7_52) 8 o8_53) 9 o9_54) 10 o10_55) 12 o12_56) 13 o13_57) 14 o14_58) 15 o15_59) 16 o16_60) 17 o17_61) 18 o18_62) 0 oa_63) 1 ob_64) 33 o33_65) 34 o34_66)) H := hP
                    obtain ⟨h_67, h_68⟩ := w_48
                    replace h_67 : MD (FR ((z.2.2.1 2)) ((z.2.2.1 3))) o4_49 o5_50 o6_51 o7_52 o8_53 o9_54 o10_55 := h_67
                    replace h_68 : r_46 = 0 ∨ r_46 = 1 := h_68
                    have hI : MInv (sA (sI (sJ (sJ (sA (sA (sA (sI (sI (sI (sI (sA (sA (sA (sA (sA (sA (sA (sA z 39 it) 4 o4_49) 5 o5_50) 6 o6_51) 7 o7_52) 8 o8_53) 9 o9_54) 10 o10_55) 12 o12_56) 13 o13_57) 14 o14_58) 15 o15_59) 16 o16_60) 17 o17_61) 18 o18_62) 0 oa_63) 1 ob_64) 33 o33_65) 34 o34_66) := ⟨hI.1, hI.2.1, hI.2.2.1, hI.2.2.2.1, hI.2.2.2.2.1, h_67⟩
                    have hms := MD_at h_67 (show 0 ≤ d.toInt ∧ d.toInt < 4 by omega)
                    have hmy := h_68
                    refine zcA_v (w := (zM k q (sA (sI (sJ (sJ (sA (sA (sA (sI (sI (sI (sI (sA (sA (sA (sA (sA (sA (sA (sA z 39 it) 4 o4_49) 5 o5_50) 6 o6_51) 7 o7_52) 8 o8_53) 9 o9_54) 10 o10_55) 12 o12_56) 13 o13_57) 14 o14_58) 15 o15_59) 16 o16_60) 17 o17_61) 18 o18_62) 0 oa_63) 1 ob_64) 33 o33_65) 34 o34_66))) (va_runV (As := [.int z0, .int i, .int r_46]) (rest := []) ⟨hx, hb, hml, hown, htb⟩ (c_X7_lay l dC dI k q (sA (sI (sJ (sJ (sA (sA (sA (sI (sI (sI (sI (sA (sA (sA (sA (sA (sA (sA (sA z 39 it) 4 o4_49) 5 o5_50) 6 o6_51) 7 o7_52) 8 o8_53) 9 o9_54) 10 o10_55) 12 o12_56) 13 o13_57) 14 o14_58) 15 o15_59) 16 o16_60) 17 o17_61) 18 o18_62) 0 oa_63) 1 ob_64) 33 o33_65) 34 o34_66) z0 i r_46 _ (show 0 ≤ z0.toInt ∧ z0.toInt < 4 by omega) (show 0 ≤ i.toInt ∧ i.toInt < 60 by omega)) (cwV 3 htb (gzV wmt5_110 wmt5_112 wmp4_6 wmt1_8 wmt5_113) rfl rfl rfl (by decide +kernel) ⟨Nat.le_of_ble_eq_true rfl, Nat.le_of_ble_eq_true rfl⟩) (zpA_V (ci := 7) (q0 := 0) hK hP (hDa _) rfl rfl) rfl rfl hl.1 rfl (lv_room (Nat.le_of_ble_eq_true rfl)) dX7_write_71 ⟨Nat.le_of_ble_eq_true rfl, Nat.le_of_ble_eq_true rfl⟩) (hDa _) hS hA (fun u_71 H locs w_72 hP _ hS => ?_)
                    obtain ⟨o39_73, rfl⟩ : ∃ y, y = u_71 := ⟨_, rfl⟩
                    have hP : va_P (dC, dI) vwCl (zM k q (sA (sA (sI (sJ (sJ (sA (sA (sA (sI (sI (sI (sI (sA (sA (sA (sA (sA (sA (sA z 4 o4_49) 5 o5_50) 6 o6_51) 7 o7_52) 8 o8_53) 9 o9_54) 10 o10_55) 12 o12_56) 13 o13_57) 14 o14_58) 15 o15_59) 16 o16_60) 17 o17_61) 18 o18_62) 0 oa_63) 1 ob_64) 33 o33_65) 34 o34_66) 39 o39_73)) H := hP
                    have h_74 := w_72
                    replace h_74 : o39_73 = upd (it) (60 * z0.toNatClampNeg + i.toNatClampNeg) (nar3 ((z.2.2.1 37) z0.toNatClampNeg) r_46) := h_74
                    have hly := h_74
                    obtain ⟨x_76, ex_76⟩ : ∃ y : Int32, y = i + 1 := ⟨_, rfl⟩
                    have hx_76 : x_76.toInt = i.toInt + 1 := z_add ex_76 rfl (show (1 : Int32).toInt = 1 by decide) (by omega)
                    refine lv_iinc (v := x_76) (lv' := [(3, .int x_76), (0, .ref (q 0)), (1, .int d), (2, .int z0)]) hx hb dX7_write_74 hl (k := 0) rfl (by rw [ex_76]; rfl) (by decide) rfl (fun ls hl => ?_)
                    refine lv_goto (tgt := 46) hx hb dX7_write_77 (by decide) ?_
                    exact ih46 ((24 - x_76.toInt).toNat) (by omega) x_76 o4_49 o5_50 o6_51 o7_52 o8_53 o9_54 o10_55 o12_56 o13_57 o14_58 o15_59 o16_60 o17_61 o18_62 oa_63 ob_64 o33_65 o34_66 o39_73 ⟨(show 0 ≤ x_76.toInt ∧ x_76.toInt ≤ 24 by omega), (show x_76.toInt ≤ (z.2.2.1 38 z0.toNatClampNeg).toInt by omega), hI, (wr_go (m := z0.toNatClampNeg) (z_cl4 (show 0 ≤ z0.toInt ∧ z0.toInt < 4 by omega)) rfl ((trM_39 (z := (sA (sI (sJ (sJ (sA (sA (sA (sI (sI (sI (sI (sA (sA (sA (sA (sA (sA (sA (sA z 39 it) 4 o4_49) 5 o5_50) 6 o6_51) 7 o7_52) 8 o8_53) 9 o9_54) 10 o10_55) 12 o12_56) 13 o13_57) 14 o14_58) 15 o15_59) 16 o16_60) 17 o17_61) 18 o18_62) 0 oa_63) 1 ob_64) 33 o33_65) 34 o34_66)) rfl (z_cl4 (show 0 ≤ z0.toInt ∧ z0.toInt < 4 by omega)) (show i.toNatClampNeg < 60 by have q1 := z_clamp (x := i) (by omega); omega) hly)) hWr hi.1 hx_76 (cI_nar hmy))⟩ rfl H locs ls hP hS (lv_sub hl [0, 1, 2, 3] rfl)
            · skip
              have hc_42 := zb_ne rfl (show ((-1) : Int32).toInt = (-1) by decide) c_42
              refine lv_bipush (v := (-3)) hx hb dX7_write_41 (by decide) ?_
              exact W.iret (v := (-3)) hx hb hr (fun t ht hW => ⟨⟨(-3), (o4_22, o5_23, o6_24, o7_25, o8_26, o9_27, o10_28, o12_29, o13_30, o14_31, o15_32, o16_33, o17_34, o18_35, z.2.1 0, z.2.1 1, z.1 33, z.2.2.1 34, z.2.2.1 39, z.1 41), rfl, (show (MInv (sI (sA (sA (sI (sJ (sJ (sA (sA (sA (sI (sI (sI (sI (sA (sA (sA (sA (sA (sA (sA z 4 o4_22) 5 o5_23) 6 o6_24) 7 o7_25) 8 o8_26) 9 o9_27) 10 o10_28) 12 o12_29) 13 o13_30) 14 o14_31) 15 o15_32) 16 o16_33) 17 o17_34) 18 o18_35) 0 (z.2.1 0)) 1 (z.2.1 1)) 33 (z.1 33)) 34 (z.2.2.1 34)) 39 (z.2.2.1 39)) 41 (z.1 41))) ∧ ((((-3) : Int32), trM (sI (sA (sA (sI (sJ (sJ (sA (sA (sA (sI (sI (sI (sI (sA (sA (sA (sA (sA (sA (sA z 4 o4_22) 5 o5_23) 6 o6_24) 7 o7_25) 8 o8_26) 9 o9_27) 10 o10_28) 12 o12_29) 13 o13_30) 14 o14_31) 15 o15_32) 16 o16_33) 17 o17_34) 18 o18_35) 0 (z.2.1 0)) 1 (z.2.1 1)) 33 (z.1 33)) 34 (z.2.2.1 34)) 39 (z.2.2.1 39)) 41 (z.1 41))) = tWrite2 (trM z) d z0) from ⟨hI, tWrite2_no (tWrite_3 (m := z0.toNatClampNeg) (n := d.toNatClampNeg) (by omega) rfl rfl ((trM_Kg (z_cl4 (show 0 ≤ z0.toInt ∧ z0.toInt < 4 by omega))).1.trans (kM_in (by omega)).1) (by have q := hT3 _ (z_cl4 (show 0 ≤ z0.toInt ∧ z0.toInt < 4 by omega)); omega) htF (by omega) rfl) (by decide) rfl⟩), ⟨by rw [ht]; exact hP, hDa _⟩⟩, hS.F ht⟩) hS.2.2 dX7_write_43
          · skip
            have hc_18 := zb_eq rfl (show (0 : Int32).toInt = 0 by decide) c_18
            refine lv_aload_n hx hb dX7_write_26 rfl (lv_at hl 0 rfl) ?_
            refine lv_iconst (v := 1) hx hb dX7_write_27 (by decide) ?_
            refine zcA_i (w := (zM k q z)) (va_runV (As := [.int 1]) (rest := []) ⟨hx, hb, hml, hown, htb⟩ (c_X7_meets l dC dI k q z 1 _ hI) (cwV 1 htb (gzV wmt4_174 wmt4_176 wmp3_4 wmt1_8 wmt4_177) rfl rfl rfl (by decide +kernel) ⟨Nat.le_of_ble_eq_true rfl, Nat.le_of_ble_eq_true rfl⟩) (zpA_V (ci := 7) (q0 := 0) hK hP (hDa _) rfl rfl) rfl rfl hl.1 rfl (lv_room (Nat.le_of_ble_eq_true rfl)) dX7_write_28 ⟨Nat.le_of_ble_eq_true rfl, Nat.le_of_ble_eq_true rfl⟩) (hDa _) hS hA (fun r_77 u_78 H locs w_79 hP _ hS => ?_)
            obtain ⟨o41_80, rfl⟩ : ∃ y, y = u_78 := ⟨_, rfl⟩
            have hP : va_P (dC, dI) vwCl (zM k q (sI z 41 o41_80)) H := hP
            obtain ⟨h_81, h_82⟩ := w_79
            replace h_81 : MInv (sI z 41 o41_80) := h_81
            replace h_82 : r_77 = (-10) - (1 : Int32) := h_82
            have hI := h_81
            have hfd : r_77 = -11 := h_82.trans (by decide)
            exact W.iret (v := r_77) hx hb hr (fun t ht hW => ⟨⟨r_77, (z.2.2.1 4, z.2.2.1 5, z.2.2.1 6, z.2.2.1 7, z.2.2.1 8, z.2.2.1 9, z.2.2.1 10, z.1 12, z.1 13, z.1 14, z.1 15, z.2.2.1 16, z.2.2.1 17, z.2.2.1 18, z.2.1 0, z.2.1 1, z.1 33, z.2.2.1 34, z.2.2.1 39, o41_80), rfl, (show (MInv (sI (sA (sA (sI (sJ (sJ (sA (sA (sA (sI (sI (sI (sI (sA (sA (sA (sA (sA (sA (sA z 4 (z.2.2.1 4)) 5 (z.2.2.1 5)) 6 (z.2.2.1 6)) 7 (z.2.2.1 7)) 8 (z.2.2.1 8)) 9 (z.2.2.1 9)) 10 (z.2.2.1 10)) 12 (z.1 12)) 13 (z.1 13)) 14 (z.1 14)) 15 (z.1 15)) 16 (z.2.2.1 16)) 17 (z.2.2.1 17)) 18 (z.2.2.1 18)) 0 (z.2.1 0)) 1 (z.2.1 1)) 33 (z.1 33)) 34 (z.2.2.1 34)) 39 (z.2.2.1 39)) 41 o41_80)) ∧ ((r_77, trM (sI (sA (sA (sI (sJ (sJ (sA (sA (sA (sI (sI (sI (sI (sA (sA (sA (sA (sA (sA (sA z 4 (z.2.2.1 4)) 5 (z.2.2.1 5)) 6 (z.2.2.1 6)) 7 (z.2.2.1 7)) 8 (z.2.2.1 8)) 9 (z.2.2.1 9)) 10 (z.2.2.1 10)) 12 (z.1 12)) 13 (z.1 13)) 14 (z.1 14)) 15 (z.1 15)) 16 (z.2.2.1 16)) 17 (z.2.2.1 17)) 18 (z.2.2.1 18)) 0 (z.2.1 0)) 1 (z.2.1 1)) 33 (z.1 33)) 34 (z.2.2.1 34)) 39 (z.2.2.1 39)) 41 o41_80)) = tWrite2 (trM z) d z0) from ⟨hI, tWrite2_no (tWrite_1 (m := z0.toNatClampNeg) (by omega) rfl ((trM_Kg (z_cl4 (show 0 ≤ z0.toInt ∧ z0.toInt < 4 by omega))).1.trans (kM_out (by omega)).1) (by decide) hfd) (by rw [hfd]; decide) rfl⟩), ⟨by rw [ht]; exact hP, hDa _⟩⟩, hS.F ht⟩) hS.2.2 dX7_write_31
        · skip
          exact absurd c_16 (by decide)
      · skip
        replace e_15 : r_9 = 0 := e_15
        subst e_15
        replace h_14 : ¬ (0 ≤ z0.toInt ∧ z0.toInt < 4) := h_14
        refine lv_if_ne (tgt := 17) hx hb dX7_write_11 (by decide) (fun c_84 => ?_) (fun c_84 => ?_)
        · skip
          exact absurd c_84 (by decide)
        · skip
          refine lv_bipush (v := (-2)) hx hb dX7_write_14 (by decide) ?_
          exact W.iret (v := (-2)) hx hb hr (fun t ht hW => ⟨⟨(-2), (z.2.2.1 4, z.2.2.1 5, z.2.2.1 6, z.2.2.1 7, z.2.2.1 8, z.2.2.1 9, z.2.2.1 10, z.1 12, z.1 13, z.1 14, z.1 15, z.2.2.1 16, z.2.2.1 17, z.2.2.1 18, z.2.1 0, z.2.1 1, z.1 33, z.2.2.1 34, z.2.2.1 39, z.1 41), rfl, (show (MInv (sI (sA (sA (sI (sJ (sJ (sA (sA (sA (sI (sI (sI (sI (sA (sA (sA (sA (sA (sA (sA z 4 (z.2.2.1 4)) 5 (z.2.2.1 5)) 6 (z.2.2.1 6)) 7 (z.2.2.1 7)) 8 (z.2.2.1 8)) 9 (z.2.2.1 9)) 10 (z.2.2.1 10)) 12 (z.1 12)) 13 (z.1 13)) 14 (z.1 14)) 15 (z.1 15)) 16 (z.2.2.1 16)) 17 (z.2.2.1 17)) 18 (z.2.2.1 18)) 0 (z.2.1 0)) 1 (z.2.1 1)) 33 (z.1 33)) 34 (z.2.2.1 34)) 39 (z.2.2.1 39)) 41 (z.1 41))) ∧ ((((-2) : Int32), trM (sI (sA (sA (sI (sJ (sJ (sA (sA (sA (sI (sI (sI (sI (sA (sA (sA (sA (sA (sA (sA z 4 (z.2.2.1 4)) 5 (z.2.2.1 5)) 6 (z.2.2.1 6)) 7 (z.2.2.1 7)) 8 (z.2.2.1 8)) 9 (z.2.2.1 9)) 10 (z.2.2.1 10)) 12 (z.1 12)) 13 (z.1 13)) 14 (z.1 14)) 15 (z.1 15)) 16 (z.2.2.1 16)) 17 (z.2.2.1 17)) 18 (z.2.2.1 18)) 0 (z.2.1 0)) 1 (z.2.1 1)) 33 (z.1 33)) 34 (z.2.2.1 34)) 39 (z.2.2.1 39)) 41 (z.1 41))) = tWrite2 (trM z) d z0) from ⟨hI, tWrite2_no (tWrite_bad (by omega)) (by decide) rfl⟩), ⟨by rw [ht]; exact hP, hDa _⟩⟩, hS.F ht⟩) hS.2.2 dX7_write_16
  · skip
    replace e_7 : r_1 = 0 := e_7
    subst e_7
    replace h_6 : ¬ (0 ≤ d.toInt ∧ d.toInt < 4) := h_6
    refine lv_if_eq (tgt := 14) hx hb dX7_write_4 (by decide) (fun c_85 => ?_) (fun c_85 => ?_)
    · skip
      refine lv_bipush (v := (-2)) hx hb dX7_write_14 (by decide) ?_
      exact W.iret (v := (-2)) hx hb hr (fun t ht hW => ⟨⟨(-2), (z.2.2.1 4, z.2.2.1 5, z.2.2.1 6, z.2.2.1 7, z.2.2.1 8, z.2.2.1 9, z.2.2.1 10, z.1 12, z.1 13, z.1 14, z.1 15, z.2.2.1 16, z.2.2.1 17, z.2.2.1 18, z.2.1 0, z.2.1 1, z.1 33, z.2.2.1 34, z.2.2.1 39, z.1 41), rfl, (show (MInv (sI (sA (sA (sI (sJ (sJ (sA (sA (sA (sI (sI (sI (sI (sA (sA (sA (sA (sA (sA (sA z 4 (z.2.2.1 4)) 5 (z.2.2.1 5)) 6 (z.2.2.1 6)) 7 (z.2.2.1 7)) 8 (z.2.2.1 8)) 9 (z.2.2.1 9)) 10 (z.2.2.1 10)) 12 (z.1 12)) 13 (z.1 13)) 14 (z.1 14)) 15 (z.1 15)) 16 (z.2.2.1 16)) 17 (z.2.2.1 17)) 18 (z.2.2.1 18)) 0 (z.2.1 0)) 1 (z.2.1 1)) 33 (z.1 33)) 34 (z.2.2.1 34)) 39 (z.2.2.1 39)) 41 (z.1 41))) ∧ ((((-2) : Int32), trM (sI (sA (sA (sI (sJ (sJ (sA (sA (sA (sI (sI (sI (sI (sA (sA (sA (sA (sA (sA (sA z 4 (z.2.2.1 4)) 5 (z.2.2.1 5)) 6 (z.2.2.1 6)) 7 (z.2.2.1 7)) 8 (z.2.2.1 8)) 9 (z.2.2.1 9)) 10 (z.2.2.1 10)) 12 (z.1 12)) 13 (z.1 13)) 14 (z.1 14)) 15 (z.1 15)) 16 (z.2.2.1 16)) 17 (z.2.2.1 17)) 18 (z.2.2.1 18)) 0 (z.2.1 0)) 1 (z.2.1 1)) 33 (z.1 33)) 34 (z.2.2.1 34)) 39 (z.2.2.1 39)) 41 (z.1 41))) = tWrite2 (trM z) d z0) from ⟨hI, tWrite2_no (tWrite_bad (by omega)) (by decide) rfl⟩), ⟨by rw [ht]; exact hP, hDa _⟩⟩, hS.F ht⟩) hS.2.2 dX7_write_16
    · skip
      exact absurd (by decide) c_85
set_option maxHeartbeats 4000000 in
set_option maxRecDepth 100000 in
theorem c_X7_digest (l : Launch) (dC : Nat → ClassId) (dI : Nat → Nat → Nat) (k : Nat → ClassId) (q : Nat → Nat) (z : ZS) (sz : Nat) (hI : MInv z) : Met l yX7_digest (wz yX7_digest cX7_digest 5 (some .long)) ({ frames := 8, cells := 0, slots := 0, locals := 183 }) (va_Pc [.ref (q 0)] (zPre dC dI k (zTX k) (zM k q z) sz)) (va_Ql (fun (r : Int64) (u : (Nat → Int32) × (Nat → Int32) × (Nat → Int32) × (Nat → Int32) × (Nat → Int32) × (Nat → Int32) × (Nat → Int32) × Int32 × Int32 × Int32 × Int32 × (Nat → Int32) × (Nat → Int32) × (Nat → Int32) × Int32 × Int32 × Int64 × Int64 × Int64 × Int64 × Int64 × Int32 × (Nat → Int32)) => (MInv (sA (sI (sJ (sJ (sJ (sJ (sJ (sI (sI (sA (sA (sA (sI (sI (sI (sI (sA (sA (sA (sA (sA (sA (sA z 4 u.1) 5 u.2.1) 6 u.2.2.1) 7 u.2.2.2.1) 8 u.2.2.2.2.1) 9 u.2.2.2.2.2.1) 10 u.2.2.2.2.2.2.1) 12 u.2.2.2.2.2.2.2.1) 13 u.2.2.2.2.2.2.2.2.1) 14 u.2.2.2.2.2.2.2.2.2.1) 15 u.2.2.2.2.2.2.2.2.2.2.1) 16 u.2.2.2.2.2.2.2.2.2.2.2.1) 17 u.2.2.2.2.2.2.2.2.2.2.2.2.1) 18 u.2.2.2.2.2.2.2.2.2.2.2.2.2.1) 28 u.2.2.2.2.2.2.2.2.2.2.2.2.2.2.1) 29 u.2.2.2.2.2.2.2.2.2.2.2.2.2.2.2.1) 0 u.2.2.2.2.2.2.2.2.2.2.2.2.2.2.2.2.1) 1 u.2.2.2.2.2.2.2.2.2.2.2.2.2.2.2.2.2.1) 30 u.2.2.2.2.2.2.2.2.2.2.2.2.2.2.2.2.2.2.1) 31 u.2.2.2.2.2.2.2.2.2.2.2.2.2.2.2.2.2.2.2.1) 32 u.2.2.2.2.2.2.2.2.2.2.2.2.2.2.2.2.2.2.2.2.1) 33 u.2.2.2.2.2.2.2.2.2.2.2.2.2.2.2.2.2.2.2.2.2.1) 34 u.2.2.2.2.2.2.2.2.2.2.2.2.2.2.2.2.2.2.2.2.2.2))) (fun u t => zPost dC dI (va_A (zM k q z) sz) (zM k q (sA (sI (sJ (sJ (sJ (sJ (sJ (sI (sI (sA (sA (sA (sI (sI (sI (sI (sA (sA (sA (sA (sA (sA (sA z 4 u.1) 5 u.2.1) 6 u.2.2.1) 7 u.2.2.2.1) 8 u.2.2.2.2.1) 9 u.2.2.2.2.2.1) 10 u.2.2.2.2.2.2.1) 12 u.2.2.2.2.2.2.2.1) 13 u.2.2.2.2.2.2.2.2.1) 14 u.2.2.2.2.2.2.2.2.2.1) 15 u.2.2.2.2.2.2.2.2.2.2.1) 16 u.2.2.2.2.2.2.2.2.2.2.2.1) 17 u.2.2.2.2.2.2.2.2.2.2.2.2.1) 18 u.2.2.2.2.2.2.2.2.2.2.2.2.2.1) 28 u.2.2.2.2.2.2.2.2.2.2.2.2.2.2.1) 29 u.2.2.2.2.2.2.2.2.2.2.2.2.2.2.2.1) 0 u.2.2.2.2.2.2.2.2.2.2.2.2.2.2.2.2.1) 1 u.2.2.2.2.2.2.2.2.2.2.2.2.2.2.2.2.2.1) 30 u.2.2.2.2.2.2.2.2.2.2.2.2.2.2.2.2.2.2.1) 31 u.2.2.2.2.2.2.2.2.2.2.2.2.2.2.2.2.2.2.2.1) 32 u.2.2.2.2.2.2.2.2.2.2.2.2.2.2.2.2.2.2.2.2.1) 33 u.2.2.2.2.2.2.2.2.2.2.2.2.2.2.2.2.2.2.2.2.2.1) 34 u.2.2.2.2.2.2.2.2.2.2.2.2.2.2.2.2.2.2.2.2.2.2)) t) (va_A (zM k q z) sz)) 0 0 (va_A (zM k q z) sz) := by
  refine Met.ofW (cc := cX7_digest) (maxL := 5) (ret := (some .long)) (by decide) rfl ?_
  intro p e s m args below meth c s₁ B hml hv
  obtain ⟨rfl, hsz, hP, hK, hD0⟩ := hv
  have hx := B.exec
  have hb := B.bytes
  have hr := B.returns
  have hts := atoms_spec (ws := wz yX7_digest cX7_digest 5 (some .long)) B.pre
  have htb : ∀ w ∈ zw, w.before _ s = true := fun w h => hts w (List.mem_cons_of_mem _ h)
  have hown : s.vm.findClass RX7 = some m.cls := findClass_of_methodNamed B.named
  have hlocks := B.notSynchronized
  clear hts
  subst hsz
  have hD := hD0.self (sz := s.heap.size)
  generalize hAe : va_A (zM k q z) s.heap.size = A at hD ⊢
  have hA : ∀ q : Nat, s.heap.size ≤ q → A q := fun q h => by rw [← hAe]; exact Or.inr h
  have hDa : ∀ z9 : ZS, va_D A (zM k q z9) := fun z9 => va_D_adr (w := zM k q z) rfl hD
  have hl := lv_entry ([.ref (q 0)]) (n := 5) (Nat.le_of_ble_eq_true rfl)
  rw [lg_entry_eq]
  generalize (lg_sl ([.ref (q 0)]) ++ List.replicate (5 - (lg_sl ([.ref (q 0)])).length) Slot.unset).toArray = ls at hl ⊢
  have hl : lv_has ls 5 [(0, .ref (q 0))] := hl
  refine z_start2 (A := A) (w := (zM k q z)) hP (fun H locs hP hS => ?_)
  clear hD0 hAe
  refine lv_ldc2 (v := 17) hx hb hown (htb _ wmt5_139) dX7_digest_0 ?_
  refine lv_lstore_n (lv' := [(1, .long 17), (0, .ref (q 0))]) hx hb dX7_digest_3 rfl hl (by decide) rfl (fun ls hl => ?_)
  refine lv_iconst (v := 0) hx hb dX7_digest_4 (by decide) ?_
  refine lv_istore_n (lv' := [(3, .int 0), (1, .long 17), (0, .ref (q 0))]) hx hb dX7_digest_5 rfl hl (by decide) rfl (fun ls hl => ?_)
  obtain ⟨va, eva⟩ : ∃ x : Int64, 17 = x := ⟨_, rfl⟩
  obtain ⟨ia, eia⟩ : ∃ x : Int32, 0 = x := ⟨_, rfl⟩
  obtain ⟨a_o4, ea_o4⟩ : ∃ x : Nat → Int32, z.2.2.1 4 = x := ⟨_, rfl⟩
  obtain ⟨a_o5, ea_o5⟩ : ∃ x : Nat → Int32, z.2.2.1 5 = x := ⟨_, rfl⟩
  obtain ⟨a_o6, ea_o6⟩ : ∃ x : Nat → Int32, z.2.2.1 6 = x := ⟨_, rfl⟩
  obtain ⟨a_o7, ea_o7⟩ : ∃ x : Nat → Int32, z.2.2.1 7 = x := ⟨_, rfl⟩
  obtain ⟨a_o8, ea_o8⟩ : ∃ x : Nat → Int32, z.2.2.1 8 = x := ⟨_, rfl⟩
  obtain ⟨a_o9, ea_o9⟩ : ∃ x : Nat → Int32, z.2.2.1 9 = x := ⟨_, rfl⟩
  obtain ⟨a_o10, ea_o10⟩ : ∃ x : Nat → Int32, z.2.2.1 10 = x := ⟨_, rfl⟩
  obtain ⟨a_o12, ea_o12⟩ : ∃ x : Int32, z.1 12 = x := ⟨_, rfl⟩
  obtain ⟨a_o13, ea_o13⟩ : ∃ x : Int32, z.1 13 = x := ⟨_, rfl⟩
  obtain ⟨a_o14, ea_o14⟩ : ∃ x : Int32, z.1 14 = x := ⟨_, rfl⟩
  obtain ⟨a_o15, ea_o15⟩ : ∃ x : Int32, z.1 15 = x := ⟨_, rfl⟩
  obtain ⟨a_o16, ea_o16⟩ : ∃ x : Nat → Int32, z.2.2.1 16 = x := ⟨_, rfl⟩
  obtain ⟨a_o17, ea_o17⟩ : ∃ x : Nat → Int32, z.2.2.1 17 = x := ⟨_, rfl⟩
  obtain ⟨a_o18, ea_o18⟩ : ∃ x : Nat → Int32, z.2.2.1 18 = x := ⟨_, rfl⟩
  obtain ⟨a_op, ea_op⟩ : ∃ x : Int32, z.1 28 = x := ⟨_, rfl⟩
  obtain ⟨a_oy, ea_oy⟩ : ∃ x : Int32, z.1 29 = x := ⟨_, rfl⟩
  obtain ⟨a_oa, ea_oa⟩ : ∃ x : Int64, z.2.1 0 = x := ⟨_, rfl⟩
  obtain ⟨a_ob, ea_ob⟩ : ∃ x : Int64, z.2.1 1 = x := ⟨_, rfl⟩
  obtain ⟨a_ou, ea_ou⟩ : ∃ x : Int64, z.2.1 30 = x := ⟨_, rfl⟩
  obtain ⟨a_oh, ea_oh⟩ : ∃ x : Int64, z.2.1 31 = x := ⟨_, rfl⟩
  obtain ⟨a_on, ea_on⟩ : ∃ x : Int64, z.2.1 32 = x := ⟨_, rfl⟩
  obtain ⟨a_o33, ea_o33⟩ : ∃ x : Int32, z.1 33 = x := ⟨_, rfl⟩
  obtain ⟨a_o34, ea_o34⟩ : ∃ x : Nat → Int32, z.2.2.1 34 = x := ⟨_, rfl⟩
  have hv6 : (0 ≤ ia.toInt ∧ ia.toInt ≤ 8) ∧ (MInv (sA (sI (sJ (sJ (sJ (sJ (sJ (sI (sI (sA (sA (sA (sI (sI (sI (sI (sA (sA (sA (sA (sA (sA (sA z 4 a_o4) 5 a_o5) 6 a_o6) 7 a_o7) 8 a_o8) 9 a_o9) 10 a_o10) 12 a_o12) 13 a_o13) 14 a_o14) 15 a_o15) 16 a_o16) 17 a_o17) 18 a_o18) 28 a_op) 29 a_oy) 0 a_oa) 1 a_ob) 30 a_ou) 31 a_oh) 32 a_on) 33 a_o33) 34 a_o34)) := by subst eva eia ea_o4 ea_o5 ea_o6 ea_o7 ea_o8 ea_o9 ea_o10 ea_o12 ea_o13 ea_o14 ea_o15 ea_o16 ea_o17 ea_o18 ea_op ea_oy ea_oa ea_ob ea_ou ea_oh ea_on ea_o33 ea_o34; exact ⟨(by decide), hI⟩
  replace hl : lv_has ls 5 [(3, .int ia), (1, .long va), (0, .ref (q 0))] := by subst eva eia ea_o4 ea_o5 ea_o6 ea_o7 ea_o8 ea_o9 ea_o10 ea_o12 ea_o13 ea_o14 ea_o15 ea_o16 ea_o17 ea_o18 ea_op ea_oy ea_oa ea_ob ea_ou ea_oh ea_on ea_o33 ea_o34; exact hl
  replace hP : va_P (dC, dI) vwCl (zM k q (sA (sI (sJ (sJ (sJ (sJ (sJ (sI (sI (sA (sA (sA (sI (sI (sI (sI (sA (sA (sA (sA (sA (sA (sA z 4 a_o4) 5 a_o5) 6 a_o6) 7 a_o7) 8 a_o8) 9 a_o9) 10 a_o10) 12 a_o12) 13 a_o13) 14 a_o14) 15 a_o15) 16 a_o16) 17 a_o17) 18 a_o18) 28 a_op) 29 a_oy) 0 a_oa) 1 a_ob) 30 a_ou) 31 a_oh) 32 a_on) 33 a_o33) 34 a_o34)) H := by subst ea_o4 ea_o5 ea_o6 ea_o7 ea_o8 ea_o9 ea_o10 ea_o12 ea_o13 ea_o14 ea_o15 ea_o16 ea_o17 ea_o18 ea_op ea_oy ea_oa ea_ob ea_ou ea_oh ea_on ea_o33 ea_o34; exact hP
  clear eva eia ea_o4 ea_o5 ea_o6 ea_o7 ea_o8 ea_o9 ea_o10 ea_o12 ea_o13 ea_o14 ea_o15 ea_o16 ea_o17 ea_o18 ea_op ea_oy ea_oa ea_ob ea_ou ea_oh ea_on ea_o33 ea_o34
  obtain ⟨mm6, hm6⟩ : ∃ mm : Nat, mm = (8 - ia.toInt).toNat := ⟨_, rfl⟩
  refine z_cut2 hP hS hl ?_
  clear hl hP
  intro H locs ls hP hS hl
  induction mm6 using Nat.strongRecOn generalizing va ia a_o4 a_o5 a_o6 a_o7 a_o8 a_o9 a_o10 a_o12 a_o13 a_o14 a_o15 a_o16 a_o17 a_o18 a_op a_oy a_oa a_ob a_ou a_oh a_on a_o33 a_o34 H locs ls with
  | _ mm6 ih6 =>
    obtain ⟨hiia, hI1ia⟩ := hv6
    have hI := hI1ia
    refine lv_iload_n hx hb dX7_digest_6 rfl (lv_at hl 0 rfl) ?_
    refine lv_bipush (v := 8) hx hb dX7_digest_7 (by decide) ?_
    refine lv_icmp_ge (tgt := 31) hx hb dX7_digest_9 (by decide) (fun c_1 => ?_) (fun c_1 => ?_)
    · skip
      have hc_1 := zb_le (show (8 : Int32).toInt = 8 by decide) rfl c_1
      refine lv_iconst (v := 0) hx hb dX7_digest_31 (by decide) ?_
      refine lv_istore_n (lv' := [(3, .int 0), (1, .long va), (0, .ref (q 0))]) hx hb dX7_digest_32 rfl hl (by decide) rfl (fun ls hl => ?_)
      obtain ⟨vb, evb⟩ : ∃ x : Int64, va = x := ⟨_, rfl⟩
      obtain ⟨ib, eib⟩ : ∃ x : Int32, 0 = x := ⟨_, rfl⟩
      obtain ⟨b_o4, eb_o4⟩ : ∃ x : Nat → Int32, a_o4 = x := ⟨_, rfl⟩
      obtain ⟨b_o5, eb_o5⟩ : ∃ x : Nat → Int32, a_o5 = x := ⟨_, rfl⟩
      obtain ⟨b_o6, eb_o6⟩ : ∃ x : Nat → Int32, a_o6 = x := ⟨_, rfl⟩
      obtain ⟨b_o7, eb_o7⟩ : ∃ x : Nat → Int32, a_o7 = x := ⟨_, rfl⟩
      obtain ⟨b_o8, eb_o8⟩ : ∃ x : Nat → Int32, a_o8 = x := ⟨_, rfl⟩
      obtain ⟨b_o9, eb_o9⟩ : ∃ x : Nat → Int32, a_o9 = x := ⟨_, rfl⟩
      obtain ⟨b_o10, eb_o10⟩ : ∃ x : Nat → Int32, a_o10 = x := ⟨_, rfl⟩
      obtain ⟨b_o12, eb_o12⟩ : ∃ x : Int32, a_o12 = x := ⟨_, rfl⟩
      obtain ⟨b_o13, eb_o13⟩ : ∃ x : Int32, a_o13 = x := ⟨_, rfl⟩
      obtain ⟨b_o14, eb_o14⟩ : ∃ x : Int32, a_o14 = x := ⟨_, rfl⟩
      obtain ⟨b_o15, eb_o15⟩ : ∃ x : Int32, a_o15 = x := ⟨_, rfl⟩
      obtain ⟨b_o16, eb_o16⟩ : ∃ x : Nat → Int32, a_o16 = x := ⟨_, rfl⟩
      obtain ⟨b_o17, eb_o17⟩ : ∃ x : Nat → Int32, a_o17 = x := ⟨_, rfl⟩
      obtain ⟨b_o18, eb_o18⟩ : ∃ x : Nat → Int32, a_o18 = x := ⟨_, rfl⟩
      obtain ⟨b_op, eb_op⟩ : ∃ x : Int32, a_op = x := ⟨_, rfl⟩
      obtain ⟨b_oy, eb_oy⟩ : ∃ x : Int32, a_oy = x := ⟨_, rfl⟩
      obtain ⟨b_oa, eb_oa⟩ : ∃ x : Int64, a_oa = x := ⟨_, rfl⟩
      obtain ⟨b_ob, eb_ob⟩ : ∃ x : Int64, a_ob = x := ⟨_, rfl⟩
      obtain ⟨b_ou, eb_ou⟩ : ∃ x : Int64, a_ou = x := ⟨_, rfl⟩
      obtain ⟨b_oh, eb_oh⟩ : ∃ x : Int64, a_oh = x := ⟨_, rfl⟩
      obtain ⟨b_on, eb_on⟩ : ∃ x : Int64, a_on = x := ⟨_, rfl⟩
      obtain ⟨b_o33, eb_o33⟩ : ∃ x : Int32, a_o33 = x := ⟨_, rfl⟩
      obtain ⟨b_o34, eb_o34⟩ : ∃ x : Nat → Int32, a_o34 = x := ⟨_, rfl⟩
      have hv33 : (0 ≤ ib.toInt ∧ ib.toInt ≤ 4) ∧ (MInv (sA (sI (sJ (sJ (sJ (sJ (sJ (sI (sI (sA (sA (sA (sI (sI (sI (sI (sA (sA (sA (sA (sA (sA (sA z 4 b_o4) 5 b_o5) 6 b_o6) 7 b_o7) 8 b_o8) 9 b_o9) 10 b_o10) 12 b_o12) 13 b_o13) 14 b_o14) 15 b_o15) 16 b_o16) 17 b_o17) 18 b_o18) 28 b_op) 29 b_oy) 0 b_oa) 1 b_ob) 30 b_ou) 31 b_oh) 32 b_on) 33 b_o33) 34 b_o34)) := by subst evb eib eb_o4 eb_o5 eb_o6 eb_o7 eb_o8 eb_o9 eb_o10 eb_o12 eb_o13 eb_o14 eb_o15 eb_o16 eb_o17 eb_o18 eb_op eb_oy eb_oa eb_ob eb_ou eb_oh eb_on eb_o33 eb_o34; exact ⟨(by decide), hI⟩
      replace hl : lv_has ls 5 [(3, .int ib), (1, .long vb), (0, .ref (q 0))] := by subst evb eib eb_o4 eb_o5 eb_o6 eb_o7 eb_o8 eb_o9 eb_o10 eb_o12 eb_o13 eb_o14 eb_o15 eb_o16 eb_o17 eb_o18 eb_op eb_oy eb_oa eb_ob eb_ou eb_oh eb_on eb_o33 eb_o34; exact hl
      replace hP : va_P (dC, dI) vwCl (zM k q (sA (sI (sJ (sJ (sJ (sJ (sJ (sI (sI (sA (sA (sA (sI (sI (sI (sI (sA (sA (sA (sA (sA (sA (sA z 4 b_o4) 5 b_o5) 6 b_o6) 7 b_o7) 8 b_o8) 9 b_o9) 10 b_o10) 12 b_o12) 13 b_o13) 14 b_o14) 15 b_o15) 16 b_o16) 17 b_o17) 18 b_o18) 28 b_op) 29 b_oy) 0 b_oa) 1 b_ob) 30 b_ou) 31 b_oh) 32 b_on) 33 b_o33) 34 b_o34)) H := by subst eb_o4 eb_o5 eb_o6 eb_o7 eb_o8 eb_o9 eb_o10 eb_o12 eb_o13 eb_o14 eb_o15 eb_o16 eb_o17 eb_o18 eb_op eb_oy eb_oa eb_ob eb_ou eb_oh eb_on eb_o33 eb_o34; exact hP
      clear evb eib eb_o4 eb_o5 eb_o6 eb_o7 eb_o8 eb_o9 eb_o10 eb_o12 eb_o13 eb_o14 eb_o15 eb_o16 eb_o17 eb_o18 eb_op eb_oy eb_oa eb_ob eb_ou eb_oh eb_on eb_o33 eb_o34
      obtain ⟨mm33, hm33⟩ : ∃ mm : Nat, mm = (4 - ib.toInt).toNat := ⟨_, rfl⟩
      refine z_cut2 hP hS hl ?_
      clear hl hP
      intro H locs ls hP hS hl
      induction mm33 using Nat.strongRecOn generalizing vb ib b_o4 b_o5 b_o6 b_o7 b_o8 b_o9 b_o10 b_o12 b_o13 b_o14 b_o15 b_o16 b_o17 b_o18 b_op b_oy b_oa b_ob b_ou b_oh b_on b_o33 b_o34 H locs ls with
      | _ mm33 ih33 =>
        obtain ⟨hiib, hI1ib⟩ := hv33
        have hI := hI1ib
        refine lv_iload_n hx hb dX7_digest_33 rfl (lv_at hl 0 rfl) ?_
        refine lv_iconst (v := 4) hx hb dX7_digest_34 (by decide) ?_
        refine lv_icmp_ge (tgt := 112) hx hb dX7_digest_35 (by decide) (fun c_2 => ?_) (fun c_2 => ?_)
        · skip
          have hc_2 := zb_le (show (4 : Int32).toInt = 4 by decide) rfl c_2
          refine lv_iconst (v := 0) hx hb dX7_digest_112 (by decide) ?_
          refine lv_istore_n (lv' := [(3, .int 0), (1, .long vb), (0, .ref (q 0))]) hx hb dX7_digest_113 rfl hl (by decide) rfl (fun ls hl => ?_)
          obtain ⟨vd, evd⟩ : ∃ x : Int64, vb = x := ⟨_, rfl⟩
          obtain ⟨id, eid⟩ : ∃ x : Int32, 0 = x := ⟨_, rfl⟩
          obtain ⟨d_o4, ed_o4⟩ : ∃ x : Nat → Int32, b_o4 = x := ⟨_, rfl⟩
          obtain ⟨d_o5, ed_o5⟩ : ∃ x : Nat → Int32, b_o5 = x := ⟨_, rfl⟩
          obtain ⟨d_o6, ed_o6⟩ : ∃ x : Nat → Int32, b_o6 = x := ⟨_, rfl⟩
          obtain ⟨d_o7, ed_o7⟩ : ∃ x : Nat → Int32, b_o7 = x := ⟨_, rfl⟩
          obtain ⟨d_o8, ed_o8⟩ : ∃ x : Nat → Int32, b_o8 = x := ⟨_, rfl⟩
          obtain ⟨d_o9, ed_o9⟩ : ∃ x : Nat → Int32, b_o9 = x := ⟨_, rfl⟩
          obtain ⟨d_o10, ed_o10⟩ : ∃ x : Nat → Int32, b_o10 = x := ⟨_, rfl⟩
          obtain ⟨d_o12, ed_o12⟩ : ∃ x : Int32, b_o12 = x := ⟨_, rfl⟩
          obtain ⟨d_o13, ed_o13⟩ : ∃ x : Int32, b_o13 = x := ⟨_, rfl⟩
          obtain ⟨d_o14, ed_o14⟩ : ∃ x : Int32, b_o14 = x := ⟨_, rfl⟩
          obtain ⟨d_o15, ed_o15⟩ : ∃ x : Int32, b_o15 = x := ⟨_, rfl⟩
          obtain ⟨d_o16, ed_o16⟩ : ∃ x : Nat → Int32, b_o16 = x := ⟨_, rfl⟩
          obtain ⟨d_o17, ed_o17⟩ : ∃ x : Nat → Int32, b_o17 = x := ⟨_, rfl⟩
          obtain ⟨d_o18, ed_o18⟩ : ∃ x : Nat → Int32, b_o18 = x := ⟨_, rfl⟩
          obtain ⟨d_op, ed_op⟩ : ∃ x : Int32, b_op = x := ⟨_, rfl⟩
          obtain ⟨d_oy, ed_oy⟩ : ∃ x : Int32, b_oy = x := ⟨_, rfl⟩
          obtain ⟨d_oa, ed_oa⟩ : ∃ x : Int64, b_oa = x := ⟨_, rfl⟩
          obtain ⟨d_ob, ed_ob⟩ : ∃ x : Int64, b_ob = x := ⟨_, rfl⟩
          obtain ⟨d_ou, ed_ou⟩ : ∃ x : Int64, b_ou = x := ⟨_, rfl⟩
          obtain ⟨d_oh, ed_oh⟩ : ∃ x : Int64, b_oh = x := ⟨_, rfl⟩
          obtain ⟨d_on, ed_on⟩ : ∃ x : Int64, b_on = x := ⟨_, rfl⟩
          obtain ⟨d_o33, ed_o33⟩ : ∃ x : Int32, b_o33 = x := ⟨_, rfl⟩
          obtain ⟨d_o34, ed_o34⟩ : ∃ x : Nat → Int32, b_o34 = x := ⟨_, rfl⟩
          have hv114 : (0 ≤ id.toInt ∧ id.toInt ≤ 4) ∧ (MInv (sA (sI (sJ (sJ (sJ (sJ (sJ (sI (sI (sA (sA (sA (sI (sI (sI (sI (sA (sA (sA (sA (sA (sA (sA z 4 d_o4) 5 d_o5) 6 d_o6) 7 d_o7) 8 d_o8) 9 d_o9) 10 d_o10) 12 d_o12) 13 d_o13) 14 d_o14) 15 d_o15) 16 d_o16) 17 d_o17) 18 d_o18) 28 d_op) 29 d_oy) 0 d_oa) 1 d_ob) 30 d_ou) 31 d_oh) 32 d_on) 33 d_o33) 34 d_o34)) := by subst evd eid ed_o4 ed_o5 ed_o6 ed_o7 ed_o8 ed_o9 ed_o10 ed_o12 ed_o13 ed_o14 ed_o15 ed_o16 ed_o17 ed_o18 ed_op ed_oy ed_oa ed_ob ed_ou ed_oh ed_on ed_o33 ed_o34; exact ⟨(by decide), hI⟩
          replace hl : lv_has ls 5 [(3, .int id), (1, .long vd), (0, .ref (q 0))] := by subst evd eid ed_o4 ed_o5 ed_o6 ed_o7 ed_o8 ed_o9 ed_o10 ed_o12 ed_o13 ed_o14 ed_o15 ed_o16 ed_o17 ed_o18 ed_op ed_oy ed_oa ed_ob ed_ou ed_oh ed_on ed_o33 ed_o34; exact hl
          replace hP : va_P (dC, dI) vwCl (zM k q (sA (sI (sJ (sJ (sJ (sJ (sJ (sI (sI (sA (sA (sA (sI (sI (sI (sI (sA (sA (sA (sA (sA (sA (sA z 4 d_o4) 5 d_o5) 6 d_o6) 7 d_o7) 8 d_o8) 9 d_o9) 10 d_o10) 12 d_o12) 13 d_o13) 14 d_o14) 15 d_o15) 16 d_o16) 17 d_o17) 18 d_o18) 28 d_op) 29 d_oy) 0 d_oa) 1 d_ob) 30 d_ou) 31 d_oh) 32 d_on) 33 d_o33) 34 d_o34)) H := by subst ed_o4 ed_o5 ed_o6 ed_o7 ed_o8 ed_o9 ed_o10 ed_o12 ed_o13 ed_o14 ed_o15 ed_o16 ed_o17 ed_o18 ed_op ed_oy ed_oa ed_ob ed_ou ed_oh ed_on ed_o33 ed_o34; exact hP
          clear evd eid ed_o4 ed_o5 ed_o6 ed_o7 ed_o8 ed_o9 ed_o10 ed_o12 ed_o13 ed_o14 ed_o15 ed_o16 ed_o17 ed_o18 ed_op ed_oy ed_oa ed_ob ed_ou ed_oh ed_on ed_o33 ed_o34
          obtain ⟨mm114, hm114⟩ : ∃ mm : Nat, mm = (4 - id.toInt).toNat := ⟨_, rfl⟩
          refine z_cut2 hP hS hl ?_
          clear hl hP
          intro H locs ls hP hS hl
          induction mm114 using Nat.strongRecOn generalizing vd id d_o4 d_o5 d_o6 d_o7 d_o8 d_o9 d_o10 d_o12 d_o13 d_o14 d_o15 d_o16 d_o17 d_o18 d_op d_oy d_oa d_ob d_ou d_oh d_on d_o33 d_o34 H locs ls with
          | _ mm114 ih114 =>
            obtain ⟨hiid, hI1id⟩ := hv114
            have hI := hI1id
            refine lv_iload_n hx hb dX7_digest_114 rfl (lv_at hl 0 rfl) ?_
            refine lv_iconst (v := 4) hx hb dX7_digest_115 (by decide) ?_
            refine lv_icmp_ge (tgt := 186) hx hb dX7_digest_116 (by decide) (fun c_3 => ?_) (fun c_3 => ?_)
            · skip
              have hc_3 := zb_le (show (4 : Int32).toInt = 4 by decide) rfl c_3
              refine lv_iconst (v := 0) hx hb dX7_digest_186 (by decide) ?_
              refine lv_istore_n (lv' := [(3, .int 0), (1, .long vd), (0, .ref (q 0))]) hx hb dX7_digest_187 rfl hl (by decide) rfl (fun ls hl => ?_)
              obtain ⟨vf, evf⟩ : ∃ x : Int64, vd = x := ⟨_, rfl⟩
              obtain ⟨ig, eig⟩ : ∃ x : Int32, 0 = x := ⟨_, rfl⟩
              obtain ⟨f_o4, ef_o4⟩ : ∃ x : Nat → Int32, d_o4 = x := ⟨_, rfl⟩
              obtain ⟨f_o5, ef_o5⟩ : ∃ x : Nat → Int32, d_o5 = x := ⟨_, rfl⟩
              obtain ⟨f_o6, ef_o6⟩ : ∃ x : Nat → Int32, d_o6 = x := ⟨_, rfl⟩
              obtain ⟨f_o7, ef_o7⟩ : ∃ x : Nat → Int32, d_o7 = x := ⟨_, rfl⟩
              obtain ⟨f_o8, ef_o8⟩ : ∃ x : Nat → Int32, d_o8 = x := ⟨_, rfl⟩
              obtain ⟨f_o9, ef_o9⟩ : ∃ x : Nat → Int32, d_o9 = x := ⟨_, rfl⟩
              obtain ⟨f_o10, ef_o10⟩ : ∃ x : Nat → Int32, d_o10 = x := ⟨_, rfl⟩
              obtain ⟨f_o12, ef_o12⟩ : ∃ x : Int32, d_o12 = x := ⟨_, rfl⟩
              obtain ⟨f_o13, ef_o13⟩ : ∃ x : Int32, d_o13 = x := ⟨_, rfl⟩
              obtain ⟨f_o14, ef_o14⟩ : ∃ x : Int32, d_o14 = x := ⟨_, rfl⟩
              obtain ⟨f_o15, ef_o15⟩ : ∃ x : Int32, d_o15 = x := ⟨_, rfl⟩
              obtain ⟨f_o16, ef_o16⟩ : ∃ x : Nat → Int32, d_o16 = x := ⟨_, rfl⟩
              obtain ⟨f_o17, ef_o17⟩ : ∃ x : Nat → Int32, d_o17 = x := ⟨_, rfl⟩
              obtain ⟨f_o18, ef_o18⟩ : ∃ x : Nat → Int32, d_o18 = x := ⟨_, rfl⟩
              obtain ⟨f_op, ef_op⟩ : ∃ x : Int32, d_op = x := ⟨_, rfl⟩
              obtain ⟨f_oy, ef_oy⟩ : ∃ x : Int32, d_oy = x := ⟨_, rfl⟩
              obtain ⟨f_oa, ef_oa⟩ : ∃ x : Int64, d_oa = x := ⟨_, rfl⟩
              obtain ⟨f_ob, ef_ob⟩ : ∃ x : Int64, d_ob = x := ⟨_, rfl⟩
              obtain ⟨f_ou, ef_ou⟩ : ∃ x : Int64, d_ou = x := ⟨_, rfl⟩
              obtain ⟨f_oh, ef_oh⟩ : ∃ x : Int64, d_oh = x := ⟨_, rfl⟩
              obtain ⟨f_on, ef_on⟩ : ∃ x : Int64, d_on = x := ⟨_, rfl⟩
              obtain ⟨f_o33, ef_o33⟩ : ∃ x : Int32, d_o33 = x := ⟨_, rfl⟩
              obtain ⟨f_o34, ef_o34⟩ : ∃ x : Nat → Int32, d_o34 = x := ⟨_, rfl⟩
              have hv188 : (0 ≤ ig.toInt ∧ ig.toInt ≤ 24) ∧ (MInv (sA (sI (sJ (sJ (sJ (sJ (sJ (sI (sI (sA (sA (sA (sI (sI (sI (sI (sA (sA (sA (sA (sA (sA (sA z 4 f_o4) 5 f_o5) 6 f_o6) 7 f_o7) 8 f_o8) 9 f_o9) 10 f_o10) 12 f_o12) 13 f_o13) 14 f_o14) 15 f_o15) 16 f_o16) 17 f_o17) 18 f_o18) 28 f_op) 29 f_oy) 0 f_oa) 1 f_ob) 30 f_ou) 31 f_oh) 32 f_on) 33 f_o33) 34 f_o34)) := by subst evf eig ef_o4 ef_o5 ef_o6 ef_o7 ef_o8 ef_o9 ef_o10 ef_o12 ef_o13 ef_o14 ef_o15 ef_o16 ef_o17 ef_o18 ef_op ef_oy ef_oa ef_ob ef_ou ef_oh ef_on ef_o33 ef_o34; exact ⟨(by decide), hI⟩
              replace hl : lv_has ls 5 [(3, .int ig), (1, .long vf), (0, .ref (q 0))] := by subst evf eig ef_o4 ef_o5 ef_o6 ef_o7 ef_o8 ef_o9 ef_o10 ef_o12 ef_o13 ef_o14 ef_o15 ef_o16 ef_o17 ef_o18 ef_op ef_oy ef_oa ef_ob ef_ou ef_oh ef_on ef_o33 ef_o34; exact hl
              replace hP : va_P (dC, dI) vwCl (zM k q (sA (sI (sJ (sJ (sJ (sJ (sJ (sI (sI (sA (sA (sA (sI (sI (sI (sI (sA (sA (sA (sA (sA (sA (sA z 4 f_o4) 5 f_o5) 6 f_o6) 7 f_o7) 8 f_o8) 9 f_o9) 10 f_o10) 12 f_o12) 13 f_o13) 14 f_o14) 15 f_o15) 16 f_o16) 17 f_o17) 18 f_o18) 28 f_op) 29 f_oy) 0 f_oa) 1 f_ob) 30 f_ou) 31 f_oh) 32 f_on) 33 f_o33) 34 f_o34)) H := by subst ef_o4 ef_o5 ef_o6 ef_o7 ef_o8 ef_o9 ef_o10 ef_o12 ef_o13 ef_o14 ef_o15 ef_o16 ef_o17 ef_o18 ef_op ef_oy ef_oa ef_ob ef_ou ef_oh ef_on ef_o33 ef_o34; exact hP
              clear evf eig ef_o4 ef_o5 ef_o6 ef_o7 ef_o8 ef_o9 ef_o10 ef_o12 ef_o13 ef_o14 ef_o15 ef_o16 ef_o17 ef_o18 ef_op ef_oy ef_oa ef_ob ef_ou ef_oh ef_on ef_o33 ef_o34
              obtain ⟨mm188, hm188⟩ : ∃ mm : Nat, mm = (24 - ig.toInt).toNat := ⟨_, rfl⟩
              refine z_cut2 hP hS hl ?_
              clear hl hP
              intro H locs ls hP hS hl
              induction mm188 using Nat.strongRecOn generalizing vf ig f_o4 f_o5 f_o6 f_o7 f_o8 f_o9 f_o10 f_o12 f_o13 f_o14 f_o15 f_o16 f_o17 f_o18 f_op f_oy f_oa f_ob f_ou f_oh f_on f_o33 f_o34 H locs ls with
              | _ mm188 ih188 =>
                obtain ⟨hiig, hI1ig⟩ := hv188
                have hI := hI1ig
                refine lv_iload_n hx hb dX7_digest_188 rfl (lv_at hl 0 rfl) ?_
                refine lv_bipush (v := 24) hx hb dX7_digest_189 (by decide) ?_
                refine lv_icmp_ge (tgt := 213) hx hb dX7_digest_191 (by decide) (fun c_4 => ?_) (fun c_4 => ?_)
                · skip
                  have hc_4 := zb_le (show (24 : Int32).toInt = 24 by decide) rfl c_4
                  refine lv_lload_n hx hb dX7_digest_213 rfl (lv_at hl 1 rfl) ?_
                  exact W.lret (v := vf) hx hb hr (fun t ht hW => ⟨⟨vf, (f_o4, f_o5, f_o6, f_o7, f_o8, f_o9, f_o10, f_o12, f_o13, f_o14, f_o15, f_o16, f_o17, f_o18, f_op, f_oy, f_oa, f_ob, f_ou, f_oh, f_on, f_o33, f_o34), rfl, (show (MInv (sA (sI (sJ (sJ (sJ (sJ (sJ (sI (sI (sA (sA (sA (sI (sI (sI (sI (sA (sA (sA (sA (sA (sA (sA z 4 f_o4) 5 f_o5) 6 f_o6) 7 f_o7) 8 f_o8) 9 f_o9) 10 f_o10) 12 f_o12) 13 f_o13) 14 f_o14) 15 f_o15) 16 f_o16) 17 f_o17) 18 f_o18) 28 f_op) 29 f_oy) 0 f_oa) 1 f_ob) 30 f_ou) 31 f_oh) 32 f_on) 33 f_o33) 34 f_o34)) from hI), ⟨by rw [ht]; exact hP, hDa _⟩⟩, hS.F ht⟩) hS.2.2 dX7_digest_214
                · skip
                  have hc_4 := zb_nle (show (24 : Int32).toInt = 24 by decide) rfl c_4
                  refine lv_ldc2 (v := 31) hx hb hown (htb _ wmt5_140) dX7_digest_194 ?_
                  refine lv_lload_n hx hb dX7_digest_197 rfl (lv_at hl 1 rfl) ?_
                  refine lv_lmul hx hb dX7_digest_198 ?_
                  refine lv_topl (fun x_5 ex_5 => ?_)
                  refine lv_aload_n hx hb dX7_digest_199 rfl (lv_at hl 2 rfl) ?_
                  refine lv_iload_n hx hb dX7_digest_200 rfl (lv_at hl 0 rfl) ?_
                  refine lv_iconst (v := 0) hx hb dX7_digest_201 (by decide) ?_
                  refine zcA_l (w := (zM k q (sA (sI (sJ (sJ (sJ (sJ (sJ (sI (sI (sA (sA (sA (sI (sI (sI (sI (sA (sA (sA (sA (sA (sA (sA z 4 f_o4) 5 f_o5) 6 f_o6) 7 f_o7) 8 f_o8) 9 f_o9) 10 f_o10) 12 f_o12) 13 f_o13) 14 f_o14) 15 f_o15) 16 f_o16) 17 f_o17) 18 f_o18) 28 f_op) 29 f_oy) 0 f_oa) 1 f_ob) 30 f_ou) 31 f_oh) 32 f_on) 33 f_o33) 34 f_o34))) (va_runV (As := [.int ig, .int 0]) (rest := [.long x_5]) ⟨hx, hb, hml, hown, htb⟩ (c_X7_givenTold l dC dI k q (sA (sI (sJ (sJ (sJ (sJ (sJ (sI (sI (sA (sA (sA (sI (sI (sI (sI (sA (sA (sA (sA (sA (sA (sA z 4 f_o4) 5 f_o5) 6 f_o6) 7 f_o7) 8 f_o8) 9 f_o9) 10 f_o10) 12 f_o12) 13 f_o13) 14 f_o14) 15 f_o15) 16 f_o16) 17 f_o17) 18 f_o18) 28 f_op) 29 f_oy) 0 f_oa) 1 f_ob) 30 f_ou) 31 f_oh) 32 f_on) 33 f_o33) 34 f_o34) ig 0 _ hI) (cwV 2 htb (gzV wmt5_40 wmt5_42 wmp3_15 wmt1_8 wmt5_43) rfl rfl rfl (by decide +kernel) ⟨Nat.le_of_ble_eq_true rfl, Nat.le_of_ble_eq_true rfl⟩) (zpA_V (ci := 7) (q0 := 0) hK hP (hDa _) rfl rfl) rfl rfl hl.1 rfl (lv_room (Nat.le_of_ble_eq_true rfl)) dX7_digest_202 ⟨Nat.le_of_ble_eq_true rfl, Nat.le_of_ble_eq_true rfl⟩) (hDa _) hS hA (fun r_6 u_7 H locs w_8 hP _ hS => ?_)
                  obtain ⟨o4_9, o5_10, o6_11, o7_12, o8_13, o9_14, o10_15, o12_16, o13_17, o14_18, o15_19, o16_20, o17_21, o18_22, oa_23, ob_24, o33_25, o34_26⟩ := u_7
                  have hP : va_P (dC, dI) vwCl (zM k q (sA (sI (sJ (sJ (sA (sA (sA (sI (sI (sI (sI (sA (sA (sA (sA (sA (sA (sA (sJ (sJ (sJ (sI (sI z 28 f_op) 29 f_oy) 30 f_ou) 31 f_oh) 32 f_on) 4 o4_9) 5 o5_10) 6 o6_11) 7 o7_12) 8 o8_13) 9 o9_14) 10 o10_15) 12 o12_16) 13 o13_17) 14 o14_18) 15 o15_19) 16 o16_20) 17 o17_21) 18 o18_22) 0 oa_23) 1 ob_24) 33 o33_25) 34 o34_26)) H := hP
                  have h_27 := w_8
                  replace h_27 : MD (FR ((z.2.2.1 2)) ((z.2.2.1 3))) o4_9 o5_10 o6_11 o7_12 o8_13 o9_14 o10_15 := h_27
                  have hI : MInv (sA (sI (sJ (sJ (sA (sA (sA (sI (sI (sI (sI (sA (sA (sA (sA (sA (sA (sA (sJ (sJ (sJ (sI (sI z 28 f_op) 29 f_oy) 30 f_ou) 31 f_oh) 32 f_on) 4 o4_9) 5 o5_10) 6 o6_11) 7 o7_12) 8 o8_13) 9 o9_14) 10 o10_15) 12 o12_16) 13 o13_17) 14 o14_18) 15 o15_19) 16 o16_20) 17 o17_21) 18 o18_22) 0 oa_23) 1 ob_24) 33 o33_25) 34 o34_26) := ⟨hI.1, hI.2.1, hI.2.2.1, hI.2.2.2.1, hI.2.2.2.2.1, h_27⟩
                  refine lv_ladd hx hb dX7_digest_205 ?_
                  refine lv_topl (fun x_29 ex_29 => ?_)
                  refine lv_lstore_n (lv' := [(1, .long x_29), (3, .int ig), (0, .ref (q 0))]) hx hb dX7_digest_206 rfl hl (by decide) rfl (fun ls hl => ?_)
                  obtain ⟨x_30, ex_30⟩ : ∃ y : Int32, y = ig + 1 := ⟨_, rfl⟩
                  have hx_30 : x_30.toInt = ig.toInt + 1 := z_add ex_30 rfl (show (1 : Int32).toInt = 1 by decide) (by omega)
                  refine lv_iinc (v := x_30) (lv' := [(3, .int x_30), (1, .long x_29), (0, .ref (q 0))]) hx hb dX7_digest_207 hl (k := 1) rfl (by rw [ex_30]; rfl) (by decide) rfl (fun ls hl => ?_)
                  refine lv_goto (tgt := 188) hx hb dX7_digest_210 (by decide) ?_
                  exact ih188 ((24 - x_30.toInt).toNat) (by omega) x_29 x_30 o4_9 o5_10 o6_11 o7_12 o8_13 o9_14 o10_15 o12_16 o13_17 o14_18 o15_19 o16_20 o17_21 o18_22 f_op f_oy oa_23 ob_24 f_ou f_oh f_on o33_25 o34_26 ⟨(show 0 ≤ x_30.toInt ∧ x_30.toInt ≤ 24 by omega), hI⟩ rfl H locs ls hP hS (lv_sub hl [0, 1, 2] rfl)
            · skip
              have hc_3 := zb_nle (show (4 : Int32).toInt = 4 by decide) rfl c_3
              refine lv_iconst (v := 0) hx hb dX7_digest_119 (by decide) ?_
              refine lv_istore (lv' := [(4, .int 0), (3, .int id), (1, .long vd), (0, .ref (q 0))]) hx hb dX7_digest_120 hl (by decide) rfl (fun ls hl => ?_)
              obtain ⟨ve, eve⟩ : ∃ x : Int64, vd = x := ⟨_, rfl⟩
              obtain ⟨ie, eie⟩ : ∃ x : Int32, 0 = x := ⟨_, rfl⟩
              obtain ⟨e_o4, ee_o4⟩ : ∃ x : Nat → Int32, d_o4 = x := ⟨_, rfl⟩
              obtain ⟨e_o5, ee_o5⟩ : ∃ x : Nat → Int32, d_o5 = x := ⟨_, rfl⟩
              obtain ⟨e_o6, ee_o6⟩ : ∃ x : Nat → Int32, d_o6 = x := ⟨_, rfl⟩
              obtain ⟨e_o7, ee_o7⟩ : ∃ x : Nat → Int32, d_o7 = x := ⟨_, rfl⟩
              obtain ⟨e_o8, ee_o8⟩ : ∃ x : Nat → Int32, d_o8 = x := ⟨_, rfl⟩
              obtain ⟨e_o9, ee_o9⟩ : ∃ x : Nat → Int32, d_o9 = x := ⟨_, rfl⟩
              obtain ⟨e_o10, ee_o10⟩ : ∃ x : Nat → Int32, d_o10 = x := ⟨_, rfl⟩
              obtain ⟨e_o12, ee_o12⟩ : ∃ x : Int32, d_o12 = x := ⟨_, rfl⟩
              obtain ⟨e_o13, ee_o13⟩ : ∃ x : Int32, d_o13 = x := ⟨_, rfl⟩
              obtain ⟨e_o14, ee_o14⟩ : ∃ x : Int32, d_o14 = x := ⟨_, rfl⟩
              obtain ⟨e_o15, ee_o15⟩ : ∃ x : Int32, d_o15 = x := ⟨_, rfl⟩
              obtain ⟨e_o16, ee_o16⟩ : ∃ x : Nat → Int32, d_o16 = x := ⟨_, rfl⟩
              obtain ⟨e_o17, ee_o17⟩ : ∃ x : Nat → Int32, d_o17 = x := ⟨_, rfl⟩
              obtain ⟨e_o18, ee_o18⟩ : ∃ x : Nat → Int32, d_o18 = x := ⟨_, rfl⟩
              obtain ⟨e_op, ee_op⟩ : ∃ x : Int32, d_op = x := ⟨_, rfl⟩
              obtain ⟨e_oy, ee_oy⟩ : ∃ x : Int32, d_oy = x := ⟨_, rfl⟩
              obtain ⟨e_oa, ee_oa⟩ : ∃ x : Int64, d_oa = x := ⟨_, rfl⟩
              obtain ⟨e_ob, ee_ob⟩ : ∃ x : Int64, d_ob = x := ⟨_, rfl⟩
              obtain ⟨e_ou, ee_ou⟩ : ∃ x : Int64, d_ou = x := ⟨_, rfl⟩
              obtain ⟨e_oh, ee_oh⟩ : ∃ x : Int64, d_oh = x := ⟨_, rfl⟩
              obtain ⟨e_on, ee_on⟩ : ∃ x : Int64, d_on = x := ⟨_, rfl⟩
              obtain ⟨e_o33, ee_o33⟩ : ∃ x : Int32, d_o33 = x := ⟨_, rfl⟩
              obtain ⟨e_o34, ee_o34⟩ : ∃ x : Nat → Int32, d_o34 = x := ⟨_, rfl⟩
              have hv122 : (0 ≤ ie.toInt ∧ ie.toInt ≤ 4) ∧ (MInv (sA (sI (sJ (sJ (sJ (sJ (sJ (sI (sI (sA (sA (sA (sI (sI (sI (sI (sA (sA (sA (sA (sA (sA (sA z 4 e_o4) 5 e_o5) 6 e_o6) 7 e_o7) 8 e_o8) 9 e_o9) 10 e_o10) 12 e_o12) 13 e_o13) 14 e_o14) 15 e_o15) 16 e_o16) 17 e_o17) 18 e_o18) 28 e_op) 29 e_oy) 0 e_oa) 1 e_ob) 30 e_ou) 31 e_oh) 32 e_on) 33 e_o33) 34 e_o34)) := by subst eve eie ee_o4 ee_o5 ee_o6 ee_o7 ee_o8 ee_o9 ee_o10 ee_o12 ee_o13 ee_o14 ee_o15 ee_o16 ee_o17 ee_o18 ee_op ee_oy ee_oa ee_ob ee_ou ee_oh ee_on ee_o33 ee_o34; exact ⟨(by decide), hI⟩
              replace hl : lv_has ls 5 [(4, .int ie), (3, .int id), (1, .long ve), (0, .ref (q 0))] := by subst eve eie ee_o4 ee_o5 ee_o6 ee_o7 ee_o8 ee_o9 ee_o10 ee_o12 ee_o13 ee_o14 ee_o15 ee_o16 ee_o17 ee_o18 ee_op ee_oy ee_oa ee_ob ee_ou ee_oh ee_on ee_o33 ee_o34; exact hl
              replace hP : va_P (dC, dI) vwCl (zM k q (sA (sI (sJ (sJ (sJ (sJ (sJ (sI (sI (sA (sA (sA (sI (sI (sI (sI (sA (sA (sA (sA (sA (sA (sA z 4 e_o4) 5 e_o5) 6 e_o6) 7 e_o7) 8 e_o8) 9 e_o9) 10 e_o10) 12 e_o12) 13 e_o13) 14 e_o14) 15 e_o15) 16 e_o16) 17 e_o17) 18 e_o18) 28 e_op) 29 e_oy) 0 e_oa) 1 e_ob) 30 e_ou) 31 e_oh) 32 e_on) 33 e_o33) 34 e_o34)) H := by subst ee_o4 ee_o5 ee_o6 ee_o7 ee_o8 ee_o9 ee_o10 ee_o12 ee_o13 ee_o14 ee_o15 ee_o16 ee_o17 ee_o18 ee_op ee_oy ee_oa ee_ob ee_ou ee_oh ee_on ee_o33 ee_o34; exact hP
              clear eve eie ee_o4 ee_o5 ee_o6 ee_o7 ee_o8 ee_o9 ee_o10 ee_o12 ee_o13 ee_o14 ee_o15 ee_o16 ee_o17 ee_o18 ee_op ee_oy ee_oa ee_ob ee_ou ee_oh ee_on ee_o33 ee_o34
              obtain ⟨mm122, hm122⟩ : ∃ mm : Nat, mm = (4 - ie.toInt).toNat := ⟨_, rfl⟩
              refine z_cut2 hP hS hl ?_
              clear hl hP
              intro H locs ls hP hS hl
              induction mm122 using Nat.strongRecOn generalizing ve ie e_o4 e_o5 e_o6 e_o7 e_o8 e_o9 e_o10 e_o12 e_o13 e_o14 e_o15 e_o16 e_o17 e_o18 e_op e_oy e_oa e_ob e_ou e_oh e_on e_o33 e_o34 H locs ls with
              | _ mm122 ih122 =>
                obtain ⟨hiie, hI1ie⟩ := hv122
                have hI := hI1ie
                refine lv_iload hx hb dX7_digest_122 (lv_at hl 0 rfl) ?_
                refine lv_iconst (v := 4) hx hb dX7_digest_124 (by decide) ?_
                refine lv_icmp_ge (tgt := 180) hx hb dX7_digest_125 (by decide) (fun c_31 => ?_) (fun c_31 => ?_)
                · skip
                  have hc_31 := zb_le (show (4 : Int32).toInt = 4 by decide) rfl c_31
                  obtain ⟨x_32, ex_32⟩ : ∃ y : Int32, y = id + 1 := ⟨_, rfl⟩
                  have hx_32 : x_32.toInt = id.toInt + 1 := z_add ex_32 rfl (show (1 : Int32).toInt = 1 by decide) (by omega)
                  refine lv_iinc (v := x_32) (lv' := [(3, .int x_32), (4, .int ie), (1, .long ve), (0, .ref (q 0))]) hx hb dX7_digest_180 hl (k := 1) rfl (by rw [ex_32]; rfl) (by decide) rfl (fun ls hl => ?_)
                  refine lv_goto (tgt := 114) hx hb dX7_digest_183 (by decide) ?_
                  exact ih114 ((4 - x_32.toInt).toNat) (by omega) ve x_32 e_o4 e_o5 e_o6 e_o7 e_o8 e_o9 e_o10 e_o12 e_o13 e_o14 e_o15 e_o16 e_o17 e_o18 e_op e_oy e_oa e_ob e_ou e_oh e_on e_o33 e_o34 ⟨(show 0 ≤ x_32.toInt ∧ x_32.toInt ≤ 4 by omega), hI⟩ rfl H locs ls hP hS (lv_sub hl [0, 2, 3] rfl)
                · skip
                  have hc_31 := zb_nle (show (4 : Int32).toInt = 4 by decide) rfl c_31
                  refine lv_aload_n hx hb dX7_digest_128 rfl (lv_at hl 3 rfl) ?_
                  refine lv_iload_n hx hb dX7_digest_129 rfl (lv_at hl 1 rfl) ?_
                  refine lv_iload hx hb dX7_digest_130 (lv_at hl 0 rfl) ?_
                  refine zcA_v (w := (zM k q (sA (sI (sJ (sJ (sJ (sJ (sJ (sI (sI (sA (sA (sA (sI (sI (sI (sI (sA (sA (sA (sA (sA (sA (sA z 4 e_o4) 5 e_o5) 6 e_o6) 7 e_o7) 8 e_o8) 9 e_o9) 10 e_o10) 12 e_o12) 13 e_o13) 14 e_o14) 15 e_o15) 16 e_o16) 17 e_o17) 18 e_o18) 28 e_op) 29 e_oy) 0 e_oa) 1 e_ob) 30 e_ou) 31 e_oh) 32 e_on) 33 e_o33) 34 e_o34))) (va_runV (As := [.int id, .int ie]) (rest := []) ⟨hx, hb, hml, hown, htb⟩ (c_X7_polls l dC dI k q (sA (sI (sJ (sJ (sJ (sJ (sJ (sI (sI (sA (sA (sA (sI (sI (sI (sI (sA (sA (sA (sA (sA (sA (sA z 4 e_o4) 5 e_o5) 6 e_o6) 7 e_o7) 8 e_o8) 9 e_o9) 10 e_o10) 12 e_o12) 13 e_o13) 14 e_o14) 15 e_o15) 16 e_o16) 17 e_o17) 18 e_o18) 28 e_op) 29 e_oy) 0 e_oa) 1 e_ob) 30 e_ou) 31 e_oh) 32 e_on) 33 e_o33) 34 e_o34) id ie _ hI) (cwV 2 htb (gzV wmt4_205 wmt4_207 wmp3_7 wmt1_8 wmt4_208) rfl rfl rfl (by decide +kernel) ⟨Nat.le_of_ble_eq_true rfl, Nat.le_of_ble_eq_true rfl⟩) (zpA_V (ci := 7) (q0 := 0) hK hP (hDa _) rfl rfl) rfl rfl hl.1 rfl (lv_room (Nat.le_of_ble_eq_true rfl)) dX7_digest_132 ⟨Nat.le_of_ble_eq_true rfl, Nat.le_of_ble_eq_true rfl⟩) (hDa _) hS hA (fun u_34 H locs w_35 hP _ hS => ?_)
                  obtain ⟨op_36, oy_37⟩ := u_34
                  have hP : va_P (dC, dI) vwCl (zM k q (sI (sI (sA (sI (sJ (sJ (sJ (sJ (sJ (sA (sA (sA (sI (sI (sI (sI (sA (sA (sA (sA (sA (sA (sA z 4 e_o4) 5 e_o5) 6 e_o6) 7 e_o7) 8 e_o8) 9 e_o9) 10 e_o10) 12 e_o12) 13 e_o13) 14 e_o14) 15 e_o15) 16 e_o16) 17 e_o17) 18 e_o18) 0 e_oa) 1 e_ob) 30 e_ou) 31 e_oh) 32 e_on) 33 e_o33) 34 e_o34) 28 op_36) 29 oy_37)) H := hP
                  have h_38 := w_35
                  replace h_38 : 0 ≤ oy_37.toInt ∧ oy_37.toInt ≤ op_36.toInt ∧ op_36.toInt ≤ 120 := h_38
                  refine lv_ldc2 (v := 31) hx hb hown (htb _ wmt5_140) dX7_digest_135 ?_
                  refine lv_lload_n hx hb dX7_digest_138 rfl (lv_at hl 2 rfl) ?_
                  refine lv_lmul hx hb dX7_digest_139 ?_
                  refine lv_topl (fun x_40 ex_40 => ?_)
                  refine lv_aload_n hx hb dX7_digest_140 rfl (lv_at hl 3 rfl) ?_
                  refine va_get (D := (dC, dI)) (ci := 7) (v := .int op_36) (C := RX7) (T := TX7) (N := 42) hx hb htb inw7 hown hK.1 hP 0 rfl rfl 28 (by decide) (htb _ wmt3_195) (fun _ h9 => h9) rfl dX7_digest_141 ?_
                  refine lv_i2l (v := op_36.toInt64) hx hb dX7_digest_144 rfl ?_
                  refine lv_topl (fun x_41 ex_41 => ?_)
                  have hx_41 : x_41.toInt = op_36.toInt := by rw [ex_41]; exact Jvm.Kit.i64_of_i32 _
                  refine lv_ladd hx hb dX7_digest_145 ?_
                  refine lv_topl (fun x_42 ex_42 => ?_)
                  refine lv_lstore_n (lv' := [(1, .long x_42), (4, .int ie), (3, .int id), (0, .ref (q 0))]) hx hb dX7_digest_146 rfl hl (by decide) rfl (fun ls hl => ?_)
                  refine lv_ldc2 (v := 31) hx hb hown (htb _ wmt5_140) dX7_digest_147 ?_
                  refine lv_lload_n hx hb dX7_digest_150 rfl (lv_at hl 0 rfl) ?_
                  refine lv_lmul hx hb dX7_digest_151 ?_
                  refine lv_topl (fun x_43 ex_43 => ?_)
                  refine lv_aload_n hx hb dX7_digest_152 rfl (lv_at hl 3 rfl) ?_
                  refine va_get (D := (dC, dI)) (ci := 7) (v := .int oy_37) (C := RX7) (T := TX7) (N := 42) hx hb htb inw7 hown hK.1 hP 0 rfl rfl 29 (by decide) (htb _ wmt3_196) (fun _ h9 => h9) rfl dX7_digest_153 ?_
                  refine lv_i2l (v := oy_37.toInt64) hx hb dX7_digest_156 rfl ?_
                  refine lv_topl (fun x_44 ex_44 => ?_)
                  have hx_44 : x_44.toInt = oy_37.toInt := by rw [ex_44]; exact Jvm.Kit.i64_of_i32 _
                  refine lv_ladd hx hb dX7_digest_157 ?_
                  refine lv_topl (fun x_45 ex_45 => ?_)
                  refine lv_lstore_n (lv' := [(1, .long x_45), (4, .int ie), (3, .int id), (0, .ref (q 0))]) hx hb dX7_digest_158 rfl hl (by decide) rfl (fun ls hl => ?_)
                  refine lv_ldc2 (v := 31) hx hb hown (htb _ wmt5_140) dX7_digest_159 ?_
                  refine lv_lload_n hx hb dX7_digest_162 rfl (lv_at hl 0 rfl) ?_
                  refine lv_lmul hx hb dX7_digest_163 ?_
                  refine lv_topl (fun x_46 ex_46 => ?_)
                  refine lv_aload_n hx hb dX7_digest_164 rfl (lv_at hl 3 rfl) ?_
                  refine lv_iload_n hx hb dX7_digest_165 rfl (lv_at hl 2 rfl) ?_
                  refine lv_iload hx hb dX7_digest_166 (lv_at hl 1 rfl) ?_
                  refine zcA_i (w := (zM k q (sI (sI (sA (sI (sJ (sJ (sJ (sJ (sJ (sA (sA (sA (sI (sI (sI (sI (sA (sA (sA (sA (sA (sA (sA z 4 e_o4) 5 e_o5) 6 e_o6) 7 e_o7) 8 e_o8) 9 e_o9) 10 e_o10) 12 e_o12) 13 e_o13) 14 e_o14) 15 e_o15) 16 e_o16) 17 e_o17) 18 e_o18) 0 e_oa) 1 e_ob) 30 e_ou) 31 e_oh) 32 e_on) 33 e_o33) 34 e_o34) 28 op_36) 29 oy_37))) (va_runV (As := [.int id, .int ie]) (rest := [.long x_46]) ⟨hx, hb, hml, hown, htb⟩ (c_X7_likelyOf l dC dI k q (sI (sI (sA (sI (sJ (sJ (sJ (sJ (sJ (sA (sA (sA (sI (sI (sI (sI (sA (sA (sA (sA (sA (sA (sA z 4 e_o4) 5 e_o5) 6 e_o6) 7 e_o7) 8 e_o8) 9 e_o9) 10 e_o10) 12 e_o12) 13 e_o13) 14 e_o14) 15 e_o15) 16 e_o16) 17 e_o17) 18 e_o18) 0 e_oa) 1 e_ob) 30 e_ou) 31 e_oh) 32 e_on) 33 e_o33) 34 e_o34) 28 op_36) 29 oy_37) id ie _ hI) (cwV 2 htb (gzV wmt5_3 wmt5_5 wmp3_11 wmt1_8 wmt5_6) rfl rfl rfl (by decide +kernel) ⟨Nat.le_of_ble_eq_true rfl, Nat.le_of_ble_eq_true rfl⟩) (zpA_V (ci := 7) (q0 := 0) hK hP (hDa _) rfl rfl) rfl rfl hl.1 rfl (lv_room (Nat.le_of_ble_eq_true rfl)) dX7_digest_168 ⟨Nat.le_of_ble_eq_true rfl, Nat.le_of_ble_eq_true rfl⟩) (hDa _) hS hA (fun r_47 u_48 H locs w_49 hP _ hS => ?_)
                  obtain ⟨o4_50, o5_51, o6_52, o7_53, o8_54, o9_55, o10_56, o12_57, o13_58, o14_59, o15_60, o16_61, o17_62, o18_63, op_64, oy_65, oa_66, ob_67, ou_68, oh_69, on_70⟩ := u_48
                  have hP : va_P (dC, dI) vwCl (zM k q (sJ (sJ (sJ (sJ (sJ (sI (sI (sA (sA (sA (sI (sI (sI (sI (sA (sA (sA (sA (sA (sA (sA (sA (sI z 33 e_o33) 34 e_o34) 4 o4_50) 5 o5_51) 6 o6_52) 7 o7_53) 8 o8_54) 9 o9_55) 10 o10_56) 12 o12_57) 13 o13_58) 14 o14_59) 15 o15_60) 16 o16_61) 17 o17_62) 18 o18_63) 28 op_64) 29 oy_65) 0 oa_66) 1 ob_67) 30 ou_68) 31 oh_69) 32 on_70)) H := hP
                  have h_71 := w_49
                  replace h_71 : MD (FR ((z.2.2.1 2)) ((z.2.2.1 3))) o4_50 o5_51 o6_52 o7_53 o8_54 o9_55 o10_56 := h_71
                  have hI : MInv (sJ (sJ (sJ (sJ (sJ (sI (sI (sA (sA (sA (sI (sI (sI (sI (sA (sA (sA (sA (sA (sA (sA (sA (sI z 33 e_o33) 34 e_o34) 4 o4_50) 5 o5_51) 6 o6_52) 7 o7_53) 8 o8_54) 9 o9_55) 10 o10_56) 12 o12_57) 13 o13_58) 14 o14_59) 15 o15_60) 16 o16_61) 17 o17_62) 18 o18_63) 28 op_64) 29 oy_65) 0 oa_66) 1 ob_67) 30 ou_68) 31 oh_69) 32 on_70) := ⟨hI.1, hI.2.1, hI.2.2.1, hI.2.2.2.1, hI.2.2.2.2.1, h_71⟩
                  refine lv_i2l (v := r_47.toInt64) hx hb dX7_digest_171 rfl ?_
                  refine lv_topl (fun x_73 ex_73 => ?_)
                  have hx_73 : x_73.toInt = r_47.toInt := by rw [ex_73]; exact Jvm.Kit.i64_of_i32 _
                  refine lv_ladd hx hb dX7_digest_172 ?_
                  refine lv_topl (fun x_74 ex_74 => ?_)
                  refine lv_lstore_n (lv' := [(1, .long x_74), (4, .int ie), (3, .int id), (0, .ref (q 0))]) hx hb dX7_digest_173 rfl hl (by decide) rfl (fun ls hl => ?_)
                  obtain ⟨x_75, ex_75⟩ : ∃ y : Int32, y = ie + 1 := ⟨_, rfl⟩
                  have hx_75 : x_75.toInt = ie.toInt + 1 := z_add ex_75 rfl (show (1 : Int32).toInt = 1 by decide) (by omega)
                  refine lv_iinc (v := x_75) (lv' := [(4, .int x_75), (1, .long x_74), (3, .int id), (0, .ref (q 0))]) hx hb dX7_digest_174 hl (k := 1) rfl (by rw [ex_75]; rfl) (by decide) rfl (fun ls hl => ?_)
                  refine lv_goto (tgt := 122) hx hb dX7_digest_177 (by decide) ?_
                  exact ih122 ((4 - x_75.toInt).toNat) (by omega) x_74 x_75 o4_50 o5_51 o6_52 o7_53 o8_54 o9_55 o10_56 o12_57 o13_58 o14_59 o15_60 o16_61 o17_62 o18_63 op_64 oy_65 oa_66 ob_67 ou_68 oh_69 on_70 e_o33 e_o34 ⟨(show 0 ≤ x_75.toInt ∧ x_75.toInt ≤ 4 by omega), hI⟩ rfl H locs ls hP hS (lv_sub hl [0, 2, 1, 3] rfl)
        · skip
          have hc_2 := zb_nle (show (4 : Int32).toInt = 4 by decide) rfl c_2
          refine lv_ldc2 (v := 31) hx hb hown (htb _ wmt5_140) dX7_digest_38 ?_
          refine lv_lload_n hx hb dX7_digest_41 rfl (lv_at hl 1 rfl) ?_
          refine lv_lmul hx hb dX7_digest_42 ?_
          refine lv_topl (fun x_76 ex_76 => ?_)
          refine lv_aload_n hx hb dX7_digest_43 rfl (lv_at hl 2 rfl) ?_
          refine lv_iload_n hx hb dX7_digest_44 rfl (lv_at hl 0 rfl) ?_
          refine zcA_i (w := (zM k q (sA (sI (sJ (sJ (sJ (sJ (sJ (sI (sI (sA (sA (sA (sI (sI (sI (sI (sA (sA (sA (sA (sA (sA (sA z 4 b_o4) 5 b_o5) 6 b_o6) 7 b_o7) 8 b_o8) 9 b_o9) 10 b_o10) 12 b_o12) 13 b_o13) 14 b_o14) 15 b_o15) 16 b_o16) 17 b_o17) 18 b_o18) 28 b_op) 29 b_oy) 0 b_oa) 1 b_ob) 30 b_ou) 31 b_oh) 32 b_on) 33 b_o33) 34 b_o34))) (va_runV (As := [.int ib]) (rest := [.long x_76]) ⟨hx, hb, hml, hown, htb⟩ (c_X7_faultOf l dC dI k q (sA (sI (sJ (sJ (sJ (sJ (sJ (sI (sI (sA (sA (sA (sI (sI (sI (sI (sA (sA (sA (sA (sA (sA (sA z 4 b_o4) 5 b_o5) 6 b_o6) 7 b_o7) 8 b_o8) 9 b_o9) 10 b_o10) 12 b_o12) 13 b_o13) 14 b_o14) 15 b_o15) 16 b_o16) 17 b_o17) 18 b_o18) 28 b_op) 29 b_oy) 0 b_oa) 1 b_ob) 30 b_ou) 31 b_oh) 32 b_on) 33 b_o33) 34 b_o34) ib _ hI (show 0 ≤ ib.toInt ∧ ib.toInt < 4 by omega)) (cwV 1 htb (gzV wmt4_73 wmt4_75 wmp2_6 wmt1_8 wmt4_76) rfl rfl rfl (by decide +kernel) ⟨Nat.le_of_ble_eq_true rfl, Nat.le_of_ble_eq_true rfl⟩) (zpA_V (ci := 7) (q0 := 0) hK hP (hDa _) rfl rfl) rfl rfl hl.1 rfl (lv_room (Nat.le_of_ble_eq_true rfl)) dX7_digest_45 ⟨Nat.le_of_ble_eq_true rfl, Nat.le_of_ble_eq_true rfl⟩) (hDa _) hS hA (fun r_77 u_78 H locs w_79 hP _ hS => ?_)
          obtain ⟨o4_80, o5_81, o6_82, o7_83, o8_84, o9_85, o10_86, o12_87, o13_88, o14_89, o15_90, o16_91, o17_92, o18_93⟩ := u_78
          have hP : va_P (dC, dI) vwCl (zM k q (sA (sA (sA (sI (sI (sI (sI (sA (sA (sA (sA (sA (sA (sA (sA (sI (sJ (sJ (sJ (sJ (sJ (sI (sI z 28 b_op) 29 b_oy) 0 b_oa) 1 b_ob) 30 b_ou) 31 b_oh) 32 b_on) 33 b_o33) 34 b_o34) 4 o4_80) 5 o5_81) 6 o6_82) 7 o7_83) 8 o8_84) 9 o9_85) 10 o10_86) 12 o12_87) 13 o13_88) 14 o14_89) 15 o15_90) 16 o16_91) 17 o17_92) 18 o18_93)) H := hP
          obtain ⟨h_94, h_95, h_96, h_97, h_98⟩ := w_79
          replace h_94 : MD (FR ((z.2.2.1 2)) ((z.2.2.1 3))) o4_80 o5_81 o6_82 o7_83 o8_84 o9_85 o10_86 := h_94
          replace h_95 : ¬ o4_80 ib.toNatClampNeg = 0 := h_95
          replace h_96 : RK (b_o4) (b_o5) o4_80 o5_81 := h_96
          replace h_97 : R7 (b_o4) (b_o6) (b_o7) (b_o8) (b_o9) (b_o10) o6_82 o7_83 o8_84 o9_85 o10_86 := h_97
          replace h_98 : r_77 = o5_81 ib.toNatClampNeg := h_98
          have hI : MInv (sA (sA (sA (sI (sI (sI (sI (sA (sA (sA (sA (sA (sA (sA (sA (sI (sJ (sJ (sJ (sJ (sJ (sI (sI z 28 b_op) 29 b_oy) 0 b_oa) 1 b_ob) 30 b_ou) 31 b_oh) 32 b_on) 33 b_o33) 34 b_o34) 4 o4_80) 5 o5_81) 6 o6_82) 7 o7_83) 8 o8_84) 9 o9_85) 10 o10_86) 12 o12_87) 13 o13_88) 14 o14_89) 15 o15_90) 16 o16_91) 17 o17_92) 18 o18_93) := ⟨hI.1, hI.2.1, hI.2.2.1, hI.2.2.2.1, hI.2.2.2.2.1, h_94⟩
          refine lv_i2l (v := r_77.toInt64) hx hb dX7_digest_48 rfl ?_
          refine lv_topl (fun x_100 ex_100 => ?_)
          have hx_100 : x_100.toInt = r_77.toInt := by rw [ex_100]; exact Jvm.Kit.i64_of_i32 _
          refine lv_ladd hx hb dX7_digest_49 ?_
          refine lv_topl (fun x_101 ex_101 => ?_)
          refine lv_lstore_n (lv' := [(1, .long x_101), (3, .int ib), (0, .ref (q 0))]) hx hb dX7_digest_50 rfl hl (by decide) rfl (fun ls hl => ?_)
          refine lv_iconst (v := 0) hx hb dX7_digest_51 (by decide) ?_
          refine lv_istore (lv' := [(4, .int 0), (1, .long x_101), (3, .int ib), (0, .ref (q 0))]) hx hb dX7_digest_52 hl (by decide) rfl (fun ls hl => ?_)
          obtain ⟨vc, evc⟩ : ∃ x : Int64, x_101 = x := ⟨_, rfl⟩
          obtain ⟨ic, eic⟩ : ∃ x : Int32, 0 = x := ⟨_, rfl⟩
          obtain ⟨c_o4, ec_o4⟩ : ∃ x : Nat → Int32, o4_80 = x := ⟨_, rfl⟩
          obtain ⟨c_o5, ec_o5⟩ : ∃ x : Nat → Int32, o5_81 = x := ⟨_, rfl⟩
          obtain ⟨c_o6, ec_o6⟩ : ∃ x : Nat → Int32, o6_82 = x := ⟨_, rfl⟩
          obtain ⟨c_o7, ec_o7⟩ : ∃ x : Nat → Int32, o7_83 = x := ⟨_, rfl⟩
          obtain ⟨c_o8, ec_o8⟩ : ∃ x : Nat → Int32, o8_84 = x := ⟨_, rfl⟩
          obtain ⟨c_o9, ec_o9⟩ : ∃ x : Nat → Int32, o9_85 = x := ⟨_, rfl⟩
          obtain ⟨c_o10, ec_o10⟩ : ∃ x : Nat → Int32, o10_86 = x := ⟨_, rfl⟩
          obtain ⟨c_o12, ec_o12⟩ : ∃ x : Int32, o12_87 = x := ⟨_, rfl⟩
          obtain ⟨c_o13, ec_o13⟩ : ∃ x : Int32, o13_88 = x := ⟨_, rfl⟩
          obtain ⟨c_o14, ec_o14⟩ : ∃ x : Int32, o14_89 = x := ⟨_, rfl⟩
          obtain ⟨c_o15, ec_o15⟩ : ∃ x : Int32, o15_90 = x := ⟨_, rfl⟩
          obtain ⟨c_o16, ec_o16⟩ : ∃ x : Nat → Int32, o16_91 = x := ⟨_, rfl⟩
          obtain ⟨c_o17, ec_o17⟩ : ∃ x : Nat → Int32, o17_92 = x := ⟨_, rfl⟩
          obtain ⟨c_o18, ec_o18⟩ : ∃ x : Nat → Int32, o18_93 = x := ⟨_, rfl⟩
          obtain ⟨c_op, ec_op⟩ : ∃ x : Int32, b_op = x := ⟨_, rfl⟩
          obtain ⟨c_oy, ec_oy⟩ : ∃ x : Int32, b_oy = x := ⟨_, rfl⟩
          obtain ⟨c_oa, ec_oa⟩ : ∃ x : Int64, b_oa = x := ⟨_, rfl⟩
          obtain ⟨c_ob, ec_ob⟩ : ∃ x : Int64, b_ob = x := ⟨_, rfl⟩
          obtain ⟨c_ou, ec_ou⟩ : ∃ x : Int64, b_ou = x := ⟨_, rfl⟩
          obtain ⟨c_oh, ec_oh⟩ : ∃ x : Int64, b_oh = x := ⟨_, rfl⟩
          obtain ⟨c_on, ec_on⟩ : ∃ x : Int64, b_on = x := ⟨_, rfl⟩
          obtain ⟨c_o33, ec_o33⟩ : ∃ x : Int32, b_o33 = x := ⟨_, rfl⟩
          obtain ⟨c_o34, ec_o34⟩ : ∃ x : Nat → Int32, b_o34 = x := ⟨_, rfl⟩
          have hv54 : (0 ≤ ic.toInt ∧ ic.toInt ≤ 4) ∧ (MInv (sA (sI (sJ (sJ (sJ (sJ (sJ (sI (sI (sA (sA (sA (sI (sI (sI (sI (sA (sA (sA (sA (sA (sA (sA z 4 c_o4) 5 c_o5) 6 c_o6) 7 c_o7) 8 c_o8) 9 c_o9) 10 c_o10) 12 c_o12) 13 c_o13) 14 c_o14) 15 c_o15) 16 c_o16) 17 c_o17) 18 c_o18) 28 c_op) 29 c_oy) 0 c_oa) 1 c_ob) 30 c_ou) 31 c_oh) 32 c_on) 33 c_o33) 34 c_o34)) := by subst evc eic ec_o4 ec_o5 ec_o6 ec_o7 ec_o8 ec_o9 ec_o10 ec_o12 ec_o13 ec_o14 ec_o15 ec_o16 ec_o17 ec_o18 ec_op ec_oy ec_oa ec_ob ec_ou ec_oh ec_on ec_o33 ec_o34; exact ⟨(by decide), hI⟩
          replace hl : lv_has ls 5 [(4, .int ic), (1, .long vc), (3, .int ib), (0, .ref (q 0))] := by subst evc eic ec_o4 ec_o5 ec_o6 ec_o7 ec_o8 ec_o9 ec_o10 ec_o12 ec_o13 ec_o14 ec_o15 ec_o16 ec_o17 ec_o18 ec_op ec_oy ec_oa ec_ob ec_ou ec_oh ec_on ec_o33 ec_o34; exact hl
          replace hP : va_P (dC, dI) vwCl (zM k q (sA (sI (sJ (sJ (sJ (sJ (sJ (sI (sI (sA (sA (sA (sI (sI (sI (sI (sA (sA (sA (sA (sA (sA (sA z 4 c_o4) 5 c_o5) 6 c_o6) 7 c_o7) 8 c_o8) 9 c_o9) 10 c_o10) 12 c_o12) 13 c_o13) 14 c_o14) 15 c_o15) 16 c_o16) 17 c_o17) 18 c_o18) 28 c_op) 29 c_oy) 0 c_oa) 1 c_ob) 30 c_ou) 31 c_oh) 32 c_on) 33 c_o33) 34 c_o34)) H := by subst ec_o4 ec_o5 ec_o6 ec_o7 ec_o8 ec_o9 ec_o10 ec_o12 ec_o13 ec_o14 ec_o15 ec_o16 ec_o17 ec_o18 ec_op ec_oy ec_oa ec_ob ec_ou ec_oh ec_on ec_o33 ec_o34; exact hP
          clear evc eic ec_o4 ec_o5 ec_o6 ec_o7 ec_o8 ec_o9 ec_o10 ec_o12 ec_o13 ec_o14 ec_o15 ec_o16 ec_o17 ec_o18 ec_op ec_oy ec_oa ec_ob ec_ou ec_oh ec_on ec_o33 ec_o34
          obtain ⟨mm54, hm54⟩ : ∃ mm : Nat, mm = (4 - ic.toInt).toNat := ⟨_, rfl⟩
          refine z_cut2 hP hS hl ?_
          clear hl hP
          intro H locs ls hP hS hl
          induction mm54 using Nat.strongRecOn generalizing vc ic c_o4 c_o5 c_o6 c_o7 c_o8 c_o9 c_o10 c_o12 c_o13 c_o14 c_o15 c_o16 c_o17 c_o18 c_op c_oy c_oa c_ob c_ou c_oh c_on c_o33 c_o34 H locs ls with
          | _ mm54 ih54 =>
            obtain ⟨hiic, hI1ic⟩ := hv54
            have hI := hI1ic
            refine lv_iload hx hb dX7_digest_54 (lv_at hl 0 rfl) ?_
            refine lv_iconst (v := 4) hx hb dX7_digest_56 (by decide) ?_
            refine lv_icmp_ge (tgt := 93) hx hb dX7_digest_57 (by decide) (fun c_102 => ?_) (fun c_102 => ?_)
            · skip
              have hc_102 := zb_le (show (4 : Int32).toInt = 4 by decide) rfl c_102
              refine lv_ldc2 (v := 31) hx hb hown (htb _ wmt5_140) dX7_digest_93 ?_
              refine lv_lload_n hx hb dX7_digest_96 rfl (lv_at hl 1 rfl) ?_
              refine lv_lmul hx hb dX7_digest_97 ?_
              refine lv_topl (fun x_103 ex_103 => ?_)
              refine lv_aload_n hx hb dX7_digest_98 rfl (lv_at hl 3 rfl) ?_
              refine lv_iload_n hx hb dX7_digest_99 rfl (lv_at hl 2 rfl) ?_
              refine zcA_i (w := (zM k q (sA (sI (sJ (sJ (sJ (sJ (sJ (sI (sI (sA (sA (sA (sI (sI (sI (sI (sA (sA (sA (sA (sA (sA (sA z 4 c_o4) 5 c_o5) 6 c_o6) 7 c_o7) 8 c_o8) 9 c_o9) 10 c_o10) 12 c_o12) 13 c_o13) 14 c_o14) 15 c_o15) 16 c_o16) 17 c_o17) 18 c_o18) 28 c_op) 29 c_oy) 0 c_oa) 1 c_ob) 30 c_ou) 31 c_oh) 32 c_on) 33 c_o33) 34 c_o34))) (va_runV (As := [.int ib]) (rest := [.long x_103]) ⟨hx, hb, hml, hown, htb⟩ (c_X7_unitOf l dC dI k q (sA (sI (sJ (sJ (sJ (sJ (sJ (sI (sI (sA (sA (sA (sI (sI (sI (sI (sA (sA (sA (sA (sA (sA (sA z 4 c_o4) 5 c_o5) 6 c_o6) 7 c_o7) 8 c_o8) 9 c_o9) 10 c_o10) 12 c_o12) 13 c_o13) 14 c_o14) 15 c_o15) 16 c_o16) 17 c_o17) 18 c_o18) 28 c_op) 29 c_oy) 0 c_oa) 1 c_ob) 30 c_ou) 31 c_oh) 32 c_on) 33 c_o33) 34 c_o34) ib _ hI (show 0 ≤ ib.toInt ∧ ib.toInt < 4 by omega)) (cwV 1 htb (gzV wmt4_141 wmt4_143 wmp3_2 wmt1_8 wmt4_144) rfl rfl rfl (by decide +kernel) ⟨Nat.le_of_ble_eq_true rfl, Nat.le_of_ble_eq_true rfl⟩) (zpA_V (ci := 7) (q0 := 0) hK hP (hDa _) rfl rfl) rfl rfl hl.1 rfl (lv_room (Nat.le_of_ble_eq_true rfl)) dX7_digest_100 ⟨Nat.le_of_ble_eq_true rfl, Nat.le_of_ble_eq_true rfl⟩) (hDa _) hS hA (fun r_104 u_105 H locs w_106 hP _ hS => ?_)
              obtain ⟨o4_107, o5_108, o6_109, o7_110, o8_111, o9_112, o10_113, o12_114, o13_115, o14_116, o15_117, o16_118, o17_119, o18_120, oa_121, ob_122⟩ := u_105
              have hP : va_P (dC, dI) vwCl (zM k q (sJ (sJ (sA (sA (sA (sI (sI (sI (sI (sA (sA (sA (sA (sA (sA (sA (sA (sI (sJ (sJ (sJ (sI (sI z 28 c_op) 29 c_oy) 30 c_ou) 31 c_oh) 32 c_on) 33 c_o33) 34 c_o34) 4 o4_107) 5 o5_108) 6 o6_109) 7 o7_110) 8 o8_111) 9 o9_112) 10 o10_113) 12 o12_114) 13 o13_115) 14 o14_116) 15 o15_117) 16 o16_118) 17 o17_119) 18 o18_120) 0 oa_121) 1 ob_122)) H := hP
              obtain ⟨h_123, h_124, h_125, h_126, h_127, h_128, h_129⟩ := w_106
              replace h_123 : MD (FR ((z.2.2.1 2)) ((z.2.2.1 3))) o4_107 o5_108 o6_109 o7_110 o8_111 o9_112 o10_113 := h_123
              replace h_124 : ¬ o4_107 ib.toNatClampNeg = 0 := h_124
              replace h_125 : RK (c_o4) (c_o5) o4_107 o5_108 := h_125
              replace h_126 : R7 (c_o4) (c_o6) (c_o7) (c_o8) (c_o9) (c_o10) o6_109 o7_110 o8_111 o9_112 o10_113 := h_126
              replace h_127 : (o5_108 ib.toNatClampNeg).toInt = -1 → 1 ≤ r_104.toInt := h_127
              replace h_128 : (o5_108 ib.toNatClampNeg).toInt = -1 → r_104.toInt = uN (yI (o7_110 ib.toNatClampNeg) (o8_111 ib.toNatClampNeg) (o9_112 ib.toNatClampNeg) (o10_113 ib.toNatClampNeg) ((z.1 11)) 1) (yI (o7_110 ib.toNatClampNeg) (o8_111 ib.toNatClampNeg) (o9_112 ib.toNatClampNeg) (o10_113 ib.toNatClampNeg) ((z.1 11)) 0) (24 * (o6_109 ib.toNatClampNeg).toInt) := h_128
              replace h_129 : ¬ (o5_108 ib.toNatClampNeg).toInt = -1 → r_104.toInt = -3 := h_129
              have hI : MInv (sJ (sJ (sA (sA (sA (sI (sI (sI (sI (sA (sA (sA (sA (sA (sA (sA (sA (sI (sJ (sJ (sJ (sI (sI z 28 c_op) 29 c_oy) 30 c_ou) 31 c_oh) 32 c_on) 33 c_o33) 34 c_o34) 4 o4_107) 5 o5_108) 6 o6_109) 7 o7_110) 8 o8_111) 9 o9_112) 10 o10_113) 12 o12_114) 13 o13_115) 14 o14_116) 15 o15_117) 16 o16_118) 17 o17_119) 18 o18_120) 0 oa_121) 1 ob_122) := ⟨hI.1, hI.2.1, hI.2.2.1, hI.2.2.2.1, hI.2.2.2.2.1, h_123⟩
              refine lv_i2l (v := r_104.toInt64) hx hb dX7_digest_103 rfl ?_
              refine lv_topl (fun x_131 ex_131 => ?_)
              have hx_131 : x_131.toInt = r_104.toInt := by rw [ex_131]; exact Jvm.Kit.i64_of_i32 _
              refine lv_ladd hx hb dX7_digest_104 ?_
              refine lv_topl (fun x_132 ex_132 => ?_)
              refine lv_lstore_n (lv' := [(1, .long x_132), (4, .int ic), (3, .int ib), (0, .ref (q 0))]) hx hb dX7_digest_105 rfl hl (by decide) rfl (fun ls hl => ?_)
              obtain ⟨x_133, ex_133⟩ : ∃ y : Int32, y = ib + 1 := ⟨_, rfl⟩
              have hx_133 : x_133.toInt = ib.toInt + 1 := z_add ex_133 rfl (show (1 : Int32).toInt = 1 by decide) (by omega)
              refine lv_iinc (v := x_133) (lv' := [(3, .int x_133), (1, .long x_132), (4, .int ic), (0, .ref (q 0))]) hx hb dX7_digest_106 hl (k := 2) rfl (by rw [ex_133]; rfl) (by decide) rfl (fun ls hl => ?_)
              refine lv_goto (tgt := 33) hx hb dX7_digest_109 (by decide) ?_
              exact ih33 ((4 - x_133.toInt).toNat) (by omega) x_132 x_133 o4_107 o5_108 o6_109 o7_110 o8_111 o9_112 o10_113 o12_114 o13_115 o14_116 o15_117 o16_118 o17_119 o18_120 c_op c_oy oa_121 ob_122 c_ou c_oh c_on c_o33 c_o34 ⟨(show 0 ≤ x_133.toInt ∧ x_133.toInt ≤ 4 by omega), hI⟩ rfl H locs ls hP hS (lv_sub hl [0, 1, 3] rfl)
            · skip
              have hc_102 := zb_nle (show (4 : Int32).toInt = 4 by decide) rfl c_102
              refine lv_ldc2 (v := 31) hx hb hown (htb _ wmt5_140) dX7_digest_60 ?_
              refine lv_lload_n hx hb dX7_digest_63 rfl (lv_at hl 1 rfl) ?_
              refine lv_lmul hx hb dX7_digest_64 ?_
              refine lv_topl (fun x_134 ex_134 => ?_)
              refine lv_aload_n hx hb dX7_digest_65 rfl (lv_at hl 3 rfl) ?_
              refine lv_iload_n hx hb dX7_digest_66 rfl (lv_at hl 2 rfl) ?_
              refine lv_iload hx hb dX7_digest_67 (lv_at hl 0 rfl) ?_
              refine lv_iconst (v := 2) hx hb dX7_digest_69 (by decide) ?_
              refine lv_icmp_ge (tgt := 77) hx hb dX7_digest_70 (by decide) (fun c_135 => ?_) (fun c_135 => ?_)
              · skip
                have hc_135 := zb_le (show (2 : Int32).toInt = 2 by decide) rfl c_135
                refine lv_iconst (v := 0) hx hb dX7_digest_77 (by decide) ?_
                refine lv_iload hx hb dX7_digest_78 (lv_at hl 0 rfl) ?_
                refine lv_iconst (v := 2) hx hb dX7_digest_80 (by decide) ?_
                refine lv_irem hx hb dX7_digest_81 (by decide) ?_
                refine lv_topi (fun x_136 ex_136 => ?_)
                refine zcA_l (w := (zM k q (sA (sI (sJ (sJ (sJ (sJ (sJ (sI (sI (sA (sA (sA (sI (sI (sI (sI (sA (sA (sA (sA (sA (sA (sA z 4 c_o4) 5 c_o5) 6 c_o6) 7 c_o7) 8 c_o8) 9 c_o9) 10 c_o10) 12 c_o12) 13 c_o13) 14 c_o14) 15 c_o15) 16 c_o16) 17 c_o17) 18 c_o18) 28 c_op) 29 c_oy) 0 c_oa) 1 c_ob) 30 c_ou) 31 c_oh) 32 c_on) 33 c_o33) 34 c_o34))) (va_runV (As := [.int ib, .int 0, .int x_136]) (rest := [.long x_134]) ⟨hx, hb, hml, hown, htb⟩ (c_X7_saysOf l dC dI k q (sA (sI (sJ (sJ (sJ (sJ (sJ (sI (sI (sA (sA (sA (sI (sI (sI (sI (sA (sA (sA (sA (sA (sA (sA z 4 c_o4) 5 c_o5) 6 c_o6) 7 c_o7) 8 c_o8) 9 c_o9) 10 c_o10) 12 c_o12) 13 c_o13) 14 c_o14) 15 c_o15) 16 c_o16) 17 c_o17) 18 c_o18) 28 c_op) 29 c_oy) 0 c_oa) 1 c_ob) 30 c_ou) 31 c_oh) 32 c_on) 33 c_o33) 34 c_o34) ib 0 x_136 _ hI (show 0 ≤ ib.toInt ∧ ib.toInt < 4 by omega)) (cwV 3 htb (gzV wmt4_112 wmt4_114 wmp2_13 wmt1_8 wmt4_115) rfl rfl rfl (by decide +kernel) ⟨Nat.le_of_ble_eq_true rfl, Nat.le_of_ble_eq_true rfl⟩) (zpA_V (ci := 7) (q0 := 0) hK hP (hDa _) rfl rfl) rfl rfl hl.1 rfl (lv_room (Nat.le_of_ble_eq_true rfl)) dX7_digest_82 ⟨Nat.le_of_ble_eq_true rfl, Nat.le_of_ble_eq_true rfl⟩) (hDa _) hS hA (fun r_137 u_138 H locs w_139 hP _ hS => ?_)
                obtain ⟨o4_140, o5_141, o6_142, o7_143, o8_144, o9_145, o10_146, o12_147, o13_148, o14_149, o15_150, o16_151, o17_152, o18_153, oa_154, ob_155⟩ := u_138
                have hP : va_P (dC, dI) vwCl (zM k q (sJ (sJ (sA (sA (sA (sI (sI (sI (sI (sA (sA (sA (sA (sA (sA (sA (sA (sI (sJ (sJ (sJ (sI (sI z 28 c_op) 29 c_oy) 30 c_ou) 31 c_oh) 32 c_on) 33 c_o33) 34 c_o34) 4 o4_140) 5 o5_141) 6 o6_142) 7 o7_143) 8 o8_144) 9 o9_145) 10 o10_146) 12 o12_147) 13 o13_148) 14 o14_149) 15 o15_150) 16 o16_151) 17 o17_152) 18 o18_153) 0 oa_154) 1 ob_155)) H := hP
                obtain ⟨h_156, h_157⟩ := w_139
                replace h_156 : MD (FR ((z.2.2.1 2)) ((z.2.2.1 3))) o4_140 o5_141 o6_142 o7_143 o8_144 o9_145 o10_146 := h_156
                replace h_157 : r_137.toInt = tSy (trM (sA (sI (sJ (sJ (sJ (sJ (sJ (sI (sI (sA (sA (sA (sI (sI (sI (sI (sA (sA (sA (sA (sA (sA (sA z 4 c_o4) 5 c_o5) 6 c_o6) 7 c_o7) 8 c_o8) 9 c_o9) 10 c_o10) 12 c_o12) 13 c_o13) 14 c_o14) 15 c_o15) 16 c_o16) 17 c_o17) 18 c_o18) 28 c_op) 29 c_oy) 0 c_oa) 1 c_ob) 30 c_ou) 31 c_oh) 32 c_on) 33 c_o33) 34 c_o34)) ib.toNatClampNeg (0 : Int32).toInt x_136.toInt := h_157
                rw [show (0 : Int32).toInt = 0 by decide] at h_157
                have hI : MInv (sJ (sJ (sA (sA (sA (sI (sI (sI (sI (sA (sA (sA (sA (sA (sA (sA (sA (sI (sJ (sJ (sJ (sI (sI z 28 c_op) 29 c_oy) 30 c_ou) 31 c_oh) 32 c_on) 33 c_o33) 34 c_o34) 4 o4_140) 5 o5_141) 6 o6_142) 7 o7_143) 8 o8_144) 9 o9_145) 10 o10_146) 12 o12_147) 13 o13_148) 14 o14_149) 15 o15_150) 16 o16_151) 17 o17_152) 18 o18_153) 0 oa_154) 1 ob_155) := ⟨hI.1, hI.2.1, hI.2.2.1, hI.2.2.2.1, hI.2.2.2.2.1, h_156⟩
                refine lv_ladd hx hb dX7_digest_85 ?_
                refine lv_topl (fun x_159 ex_159 => ?_)
                refine lv_lstore_n (lv' := [(1, .long x_159), (4, .int ic), (3, .int ib), (0, .ref (q 0))]) hx hb dX7_digest_86 rfl hl (by decide) rfl (fun ls hl => ?_)
                obtain ⟨x_160, ex_160⟩ : ∃ y : Int32, y = ic + 1 := ⟨_, rfl⟩
                have hx_160 : x_160.toInt = ic.toInt + 1 := z_add ex_160 rfl (show (1 : Int32).toInt = 1 by decide) (by omega)
                refine lv_iinc (v := x_160) (lv' := [(4, .int x_160), (1, .long x_159), (3, .int ib), (0, .ref (q 0))]) hx hb dX7_digest_87 hl (k := 1) rfl (by rw [ex_160]; rfl) (by decide) rfl (fun ls hl => ?_)
                refine lv_goto (tgt := 54) hx hb dX7_digest_90 (by decide) ?_
                exact ih54 ((4 - x_160.toInt).toNat) (by omega) x_159 x_160 o4_140 o5_141 o6_142 o7_143 o8_144 o9_145 o10_146 o12_147 o13_148 o14_149 o15_150 o16_151 o17_152 o18_153 c_op c_oy oa_154 ob_155 c_ou c_oh c_on c_o33 c_o34 ⟨(show 0 ≤ x_160.toInt ∧ x_160.toInt ≤ 4 by omega), hI⟩ rfl H locs ls hP hS (lv_sub hl [0, 1, 2, 3] rfl)
              · skip
                have hc_135 := zb_nle (show (2 : Int32).toInt = 2 by decide) rfl c_135
                refine lv_iconst (v := 1) hx hb dX7_digest_73 (by decide) ?_
                refine lv_goto (tgt := 78) hx hb dX7_digest_74 (by decide) ?_
                refine lv_iload hx hb dX7_digest_78 (lv_at hl 0 rfl) ?_
                refine lv_iconst (v := 2) hx hb dX7_digest_80 (by decide) ?_
                refine lv_irem hx hb dX7_digest_81 (by decide) ?_
                refine lv_topi (fun x_161 ex_161 => ?_)
                refine zcA_l (w := (zM k q (sA (sI (sJ (sJ (sJ (sJ (sJ (sI (sI (sA (sA (sA (sI (sI (sI (sI (sA (sA (sA (sA (sA (sA (sA z 4 c_o4) 5 c_o5) 6 c_o6) 7 c_o7) 8 c_o8) 9 c_o9) 10 c_o10) 12 c_o12) 13 c_o13) 14 c_o14) 15 c_o15) 16 c_o16) 17 c_o17) 18 c_o18) 28 c_op) 29 c_oy) 0 c_oa) 1 c_ob) 30 c_ou) 31 c_oh) 32 c_on) 33 c_o33) 34 c_o34))) (va_runV (As := [.int ib, .int 1, .int x_161]) (rest := [.long x_134]) ⟨hx, hb, hml, hown, htb⟩ (c_X7_saysOf l dC dI k q (sA (sI (sJ (sJ (sJ (sJ (sJ (sI (sI (sA (sA (sA (sI (sI (sI (sI (sA (sA (sA (sA (sA (sA (sA z 4 c_o4) 5 c_o5) 6 c_o6) 7 c_o7) 8 c_o8) 9 c_o9) 10 c_o10) 12 c_o12) 13 c_o13) 14 c_o14) 15 c_o15) 16 c_o16) 17 c_o17) 18 c_o18) 28 c_op) 29 c_oy) 0 c_oa) 1 c_ob) 30 c_ou) 31 c_oh) 32 c_on) 33 c_o33) 34 c_o34) ib 1 x_161 _ hI (show 0 ≤ ib.toInt ∧ ib.toInt < 4 by omega)) (cwV 3 htb (gzV wmt4_112 wmt4_114 wmp2_13 wmt1_8 wmt4_115) rfl rfl rfl (by decide +kernel) ⟨Nat.le_of_ble_eq_true rfl, Nat.le_of_ble_eq_true rfl⟩) (zpA_V (ci := 7) (q0 := 0) hK hP (hDa _) rfl rfl) rfl rfl hl.1 rfl (lv_room (Nat.le_of_ble_eq_true rfl)) dX7_digest_82 ⟨Nat.le_of_ble_eq_true rfl, Nat.le_of_ble_eq_true rfl⟩) (hDa _) hS hA (fun r_162 u_163 H locs w_164 hP _ hS => ?_)
                obtain ⟨o4_165, o5_166, o6_167, o7_168, o8_169, o9_170, o10_171, o12_172, o13_173, o14_174, o15_175, o16_176, o17_177, o18_178, oa_179, ob_180⟩ := u_163
                have hP : va_P (dC, dI) vwCl (zM k q (sJ (sJ (sA (sA (sA (sI (sI (sI (sI (sA (sA (sA (sA (sA (sA (sA (sA (sI (sJ (sJ (sJ (sI (sI z 28 c_op) 29 c_oy) 30 c_ou) 31 c_oh) 32 c_on) 33 c_o33) 34 c_o34) 4 o4_165) 5 o5_166) 6 o6_167) 7 o7_168) 8 o8_169) 9 o9_170) 10 o10_171) 12 o12_172) 13 o13_173) 14 o14_174) 15 o15_175) 16 o16_176) 17 o17_177) 18 o18_178) 0 oa_179) 1 ob_180)) H := hP
                obtain ⟨h_181, h_182⟩ := w_164
                replace h_181 : MD (FR ((z.2.2.1 2)) ((z.2.2.1 3))) o4_165 o5_166 o6_167 o7_168 o8_169 o9_170 o10_171 := h_181
                replace h_182 : r_162.toInt = tSy (trM (sA (sI (sJ (sJ (sJ (sJ (sJ (sI (sI (sA (sA (sA (sI (sI (sI (sI (sA (sA (sA (sA (sA (sA (sA z 4 c_o4) 5 c_o5) 6 c_o6) 7 c_o7) 8 c_o8) 9 c_o9) 10 c_o10) 12 c_o12) 13 c_o13) 14 c_o14) 15 c_o15) 16 c_o16) 17 c_o17) 18 c_o18) 28 c_op) 29 c_oy) 0 c_oa) 1 c_ob) 30 c_ou) 31 c_oh) 32 c_on) 33 c_o33) 34 c_o34)) ib.toNatClampNeg (1 : Int32).toInt x_161.toInt := h_182
                rw [show (1 : Int32).toInt = 1 by decide] at h_182
                have hI : MInv (sJ (sJ (sA (sA (sA (sI (sI (sI (sI (sA (sA (sA (sA (sA (sA (sA (sA (sI (sJ (sJ (sJ (sI (sI z 28 c_op) 29 c_oy) 30 c_ou) 31 c_oh) 32 c_on) 33 c_o33) 34 c_o34) 4 o4_165) 5 o5_166) 6 o6_167) 7 o7_168) 8 o8_169) 9 o9_170) 10 o10_171) 12 o12_172) 13 o13_173) 14 o14_174) 15 o15_175) 16 o16_176) 17 o17_177) 18 o18_178) 0 oa_179) 1 ob_180) := ⟨hI.1, hI.2.1, hI.2.2.1, hI.2.2.2.1, hI.2.2.2.2.1, h_181⟩
                refine lv_ladd hx hb dX7_digest_85 ?_
                refine lv_topl (fun x_184 ex_184 => ?_)
                refine lv_lstore_n (lv' := [(1, .long x_184), (4, .int ic), (3, .int ib), (0, .ref (q 0))]) hx hb dX7_digest_86 rfl hl (by decide) rfl (fun ls hl => ?_)
                obtain ⟨x_185, ex_185⟩ : ∃ y : Int32, y = ic + 1 := ⟨_, rfl⟩
                have hx_185 : x_185.toInt = ic.toInt + 1 := z_add ex_185 rfl (show (1 : Int32).toInt = 1 by decide) (by omega)
                refine lv_iinc (v := x_185) (lv' := [(4, .int x_185), (1, .long x_184), (3, .int ib), (0, .ref (q 0))]) hx hb dX7_digest_87 hl (k := 1) rfl (by rw [ex_185]; rfl) (by decide) rfl (fun ls hl => ?_)
                refine lv_goto (tgt := 54) hx hb dX7_digest_90 (by decide) ?_
                exact ih54 ((4 - x_185.toInt).toNat) (by omega) x_184 x_185 o4_165 o5_166 o6_167 o7_168 o8_169 o9_170 o10_171 o12_172 o13_173 o14_174 o15_175 o16_176 o17_177 o18_178 c_op c_oy oa_179 ob_180 c_ou c_oh c_on c_o33 c_o34 ⟨(show 0 ≤ x_185.toInt ∧ x_185.toInt ≤ 4 by omega), hI⟩ rfl H locs ls hP hS (lv_sub hl [0, 1, 2, 3] rfl)
    · skip
      have hc_1 := zb_nle (show (8 : Int32).toInt = 8 by decide) rfl c_1
      refine lv_ldc2 (v := 31) hx hb hown (htb _ wmt5_140) dX7_digest_12 ?_
      refine lv_lload_n hx hb dX7_digest_15 rfl (lv_at hl 1 rfl) ?_
      refine lv_lmul hx hb dX7_digest_16 ?_
      refine lv_topl (fun x_186 ex_186 => ?_)
      refine lv_aload_n hx hb dX7_digest_17 rfl (lv_at hl 2 rfl) ?_
      refine lv_iload_n hx hb dX7_digest_18 rfl (lv_at hl 0 rfl) ?_
      refine zcA_i (w := (zM k q (sA (sI (sJ (sJ (sJ (sJ (sJ (sI (sI (sA (sA (sA (sI (sI (sI (sI (sA (sA (sA (sA (sA (sA (sA z 4 a_o4) 5 a_o5) 6 a_o6) 7 a_o7) 8 a_o8) 9 a_o9) 10 a_o10) 12 a_o12) 13 a_o13) 14 a_o14) 15 a_o15) 16 a_o16) 17 a_o17) 18 a_o18) 28 a_op) 29 a_oy) 0 a_oa) 1 a_ob) 30 a_ou) 31 a_oh) 32 a_on) 33 a_o33) 34 a_o34))) (va_runV (As := [.int ia]) (rest := [.long x_186]) ⟨hx, hb, hml, hown, htb⟩ (c_X7_count l dC dI k q (sA (sI (sJ (sJ (sJ (sJ (sJ (sI (sI (sA (sA (sA (sI (sI (sI (sI (sA (sA (sA (sA (sA (sA (sA z 4 a_o4) 5 a_o5) 6 a_o6) 7 a_o7) 8 a_o8) 9 a_o9) 10 a_o10) 12 a_o12) 13 a_o13) 14 a_o14) 15 a_o15) 16 a_o16) 17 a_o17) 18 a_o18) 28 a_op) 29 a_oy) 0 a_oa) 1 a_ob) 30 a_ou) 31 a_oh) 32 a_on) 33 a_o33) 34 a_o34) ia _ hI) (cwV 1 htb (gzV wmt5_141 wmt5_128 wmt5_129 wmt1_8 wmt5_130) rfl rfl rfl (by decide +kernel) ⟨Nat.le_of_ble_eq_true rfl, Nat.le_of_ble_eq_true rfl⟩) (zpA_V (ci := 7) (q0 := 0) hK hP (hDa _) rfl rfl) rfl rfl hl.1 rfl (lv_room (Nat.le_of_ble_eq_true rfl)) dX7_digest_19 ⟨Nat.le_of_ble_eq_true rfl, Nat.le_of_ble_eq_true rfl⟩) (hDa _) hS hA (fun r_187 u_188 H locs w_189 hP _ hS => ?_)
      refine lv_i2l (v := r_187.toInt64) hx hb dX7_digest_22 rfl ?_
      refine lv_topl (fun x_190 ex_190 => ?_)
      have hx_190 : x_190.toInt = r_187.toInt := by rw [ex_190]; exact Jvm.Kit.i64_of_i32 _
      refine lv_ladd hx hb dX7_digest_23 ?_
      refine lv_topl (fun x_191 ex_191 => ?_)
      refine lv_lstore_n (lv' := [(1, .long x_191), (3, .int ia), (0, .ref (q 0))]) hx hb dX7_digest_24 rfl hl (by decide) rfl (fun ls hl => ?_)
      obtain ⟨x_192, ex_192⟩ : ∃ y : Int32, y = ia + 1 := ⟨_, rfl⟩
      have hx_192 : x_192.toInt = ia.toInt + 1 := z_add ex_192 rfl (show (1 : Int32).toInt = 1 by decide) (by omega)
      refine lv_iinc (v := x_192) (lv' := [(3, .int x_192), (1, .long x_191), (0, .ref (q 0))]) hx hb dX7_digest_25 hl (k := 1) rfl (by rw [ex_192]; rfl) (by decide) rfl (fun ls hl => ?_)
      refine lv_goto (tgt := 6) hx hb dX7_digest_28 (by decide) ?_
      exact ih6 ((8 - x_192.toInt).toNat) (by omega) x_191 x_192 a_o4 a_o5 a_o6 a_o7 a_o8 a_o9 a_o10 a_o12 a_o13 a_o14 a_o15 a_o16 a_o17 a_o18 a_op a_oy a_oa a_ob a_ou a_oh a_on a_o33 a_o34 ⟨(show 0 ≤ x_192.toInt ∧ x_192.toInt ≤ 8 by omega), hI⟩ rfl H locs ls hP hS (lv_sub hl [0, 1, 2] rfl)
set_option maxHeartbeats 4000000 in
set_option maxRecDepth 100000 in
theorem c_X7_best (l : Launch) (dC : Nat → ClassId) (dI : Nat → Nat → Nat) (k : Nat → ClassId) (q : Nat → Nat) (z : ZS) (v : Int32) (n : Int32) (w : Int32) (sz : Nat) (hI : MInv z) : Met l yX7_best (wz yX7_best cX7_best 19 (some .int)) ({ frames := 1, cells := 0, slots := 0, locals := 22 }) (va_Pc [.ref (q 0), .int v, .int n, .int w] (zPre dC dI k (zTX k) (zM k q z) sz)) (va_Qi (fun (r : Int32) (u : Unit) => (r = tBest v n w)) (fun u t => zPost dC dI (va_A (zM k q z) sz) (zM k q z) t) (va_A (zM k q z) sz)) 0 0 (va_A (zM k q z) sz) := by
  refine Met.ofW (cc := cX7_best) (maxL := 19) (ret := (some .int)) (by decide) rfl ?_
  intro p e s m args below meth c s₁ B hml hv
  obtain ⟨rfl, hsz, hP, hK, hD0⟩ := hv
  have hx := B.exec
  have hb := B.bytes
  have hr := B.returns
  have hts := atoms_spec (ws := wz yX7_best cX7_best 19 (some .int)) B.pre
  have htb : ∀ w ∈ zw, w.before _ s = true := fun w h => hts w (List.mem_cons_of_mem _ h)
  have hown : s.vm.findClass RX7 = some m.cls := findClass_of_methodNamed B.named
  have hlocks := B.notSynchronized
  clear hts
  subst hsz
  have hD := hD0.self (sz := s.heap.size)
  generalize hAe : va_A (zM k q z) s.heap.size = A at hD ⊢
  have hA : ∀ q : Nat, s.heap.size ≤ q → A q := fun q h => by rw [← hAe]; exact Or.inr h
  have hDa : ∀ z9 : ZS, va_D A (zM k q z9) := fun z9 => va_D_adr (w := zM k q z) rfl hD
  have hl := lv_entry ([.ref (q 0), .int v, .int n, .int w]) (n := 19) (Nat.le_of_ble_eq_true rfl)
  rw [lg_entry_eq]
  generalize (lg_sl ([.ref (q 0), .int v, .int n, .int w]) ++ List.replicate (19 - (lg_sl ([.ref (q 0), .int v, .int n, .int w])).length) Slot.unset).toArray = ls at hl ⊢
  have hl : lv_has ls 19 [(0, .ref (q 0)), (1, .int v), (2, .int n), (3, .int w)] := hl
  refine z_start2 (A := A) (w := (zM k q z)) hP (fun H locs hP hS => ?_)
  clear hD0 hAe
  refine lv_iload_n hx hb dX7_best_0 rfl (lv_at hl 1 rfl) ?_
  refine lv_iconst (v := 2) hx hb dX7_best_1 (by decide) ?_
  refine lv_bipush (v := 30) hx hb dX7_best_2 (by decide) ?_
  refine zc0_i (w := (zM k q z)) (va_runS (As := [.int v, .int 2, .int 30]) (rest := []) ⟨hx, hb, hml, hown, htb⟩ (c_X7_in l dC dI k v 2 30 _ ) (va_cwS 3 htb (gzS wmt4_62 wmt4_63 wmt1_8 wmt4_64) rfl rfl rfl (by decide +kernel) ⟨Nat.le_of_ble_eq_true rfl, Nat.le_of_ble_eq_true rfl⟩) (zp0_S hK) rfl rfl hl.1 rfl (lv_room (Nat.le_of_ble_eq_true rfl)) dX7_best_4 ⟨Nat.le_of_ble_eq_true rfl, Nat.le_of_ble_eq_true rfl⟩) hP hS hA (fun r_1 u_2 H locs w_3 hP hS => ?_)
  rcases w_3 with ⟨e_5, h_4⟩ | ⟨e_7, h_6⟩
  · skip
    replace e_5 : r_1 = 1 := e_5
    subst e_5
    replace h_4 : (2 : Int32).toInt ≤ v.toInt ∧ v.toInt ≤ (30 : Int32).toInt := h_4
    rw [show (2 : Int32).toInt = 2 by decide, show (30 : Int32).toInt = 30 by decide] at h_4
    refine lv_if_eq (tgt := 29) hx hb dX7_best_7 (by decide) (fun c_8 => ?_) (fun c_8 => ?_)
    · skip
      exact absurd c_8 (by decide)
    · skip
      refine lv_iload_n hx hb dX7_best_10 rfl (lv_at hl 2 rfl) ?_
      refine lv_iconst (v := 0) hx hb dX7_best_11 (by decide) ?_
      refine lv_bipush (v := 100) hx hb dX7_best_12 (by decide) ?_
      refine zc0_i (w := (zM k q z)) (va_runS (As := [.int n, .int 0, .int 100]) (rest := []) ⟨hx, hb, hml, hown, htb⟩ (c_X7_in l dC dI k n 0 100 _ ) (va_cwS 3 htb (gzS wmt4_62 wmt4_63 wmt1_8 wmt4_64) rfl rfl rfl (by decide +kernel) ⟨Nat.le_of_ble_eq_true rfl, Nat.le_of_ble_eq_true rfl⟩) (zp0_S hK) rfl rfl hl.1 rfl (lv_room (Nat.le_of_ble_eq_true rfl)) dX7_best_14 ⟨Nat.le_of_ble_eq_true rfl, Nat.le_of_ble_eq_true rfl⟩) hP hS hA (fun r_9 u_10 H locs w_11 hP hS => ?_)
      rcases w_11 with ⟨e_13, h_12⟩ | ⟨e_15, h_14⟩
      · skip
        replace e_13 : r_9 = 1 := e_13
        subst e_13
        replace h_12 : (0 : Int32).toInt ≤ n.toInt ∧ n.toInt ≤ (100 : Int32).toInt := h_12
        rw [show (0 : Int32).toInt = 0 by decide, show (100 : Int32).toInt = 100 by decide] at h_12
        refine lv_if_eq (tgt := 29) hx hb dX7_best_17 (by decide) (fun c_16 => ?_) (fun c_16 => ?_)
        · skip
          exact absurd c_16 (by decide)
        · skip
          refine lv_iload_n hx hb dX7_best_20 rfl (lv_at hl 3 rfl) ?_
          refine lv_iconst (v := 0) hx hb dX7_best_21 (by decide) ?_
          refine lv_iconst (v := 1) hx hb dX7_best_22 (by decide) ?_
          refine zc0_i (w := (zM k q z)) (va_runS (As := [.int w, .int 0, .int 1]) (rest := []) ⟨hx, hb, hml, hown, htb⟩ (c_X7_in l dC dI k w 0 1 _ ) (va_cwS 3 htb (gzS wmt4_62 wmt4_63 wmt1_8 wmt4_64) rfl rfl rfl (by decide +kernel) ⟨Nat.le_of_ble_eq_true rfl, Nat.le_of_ble_eq_true rfl⟩) (zp0_S hK) rfl rfl hl.1 rfl (lv_room (Nat.le_of_ble_eq_true rfl)) dX7_best_23 ⟨Nat.le_of_ble_eq_true rfl, Nat.le_of_ble_eq_true rfl⟩) hP hS hA (fun r_17 u_18 H locs w_19 hP hS => ?_)
          rcases w_19 with ⟨e_21, h_20⟩ | ⟨e_23, h_22⟩
          · skip
            replace e_21 : r_17 = 1 := e_21
            subst e_21
            replace h_20 : (0 : Int32).toInt ≤ w.toInt ∧ w.toInt ≤ (1 : Int32).toInt := h_20
            rw [show (0 : Int32).toInt = 0 by decide, show (1 : Int32).toInt = 1 by decide] at h_20
            refine lv_if_ne (tgt := 32) hx hb dX7_best_26 (by decide) (fun c_24 => ?_) (fun c_24 => ?_)
            · skip
              refine lv_iconst (v := (-1)) hx hb dX7_best_32 (by decide) ?_
              refine lv_istore (lv' := [(4, .int (-1)), (0, .ref (q 0)), (1, .int v), (2, .int n), (3, .int w)]) hx hb dX7_best_33 hl (by decide) rfl (fun ls hl => ?_)
              refine lv_iconst (v := (-1)) hx hb dX7_best_35 (by decide) ?_
              refine lv_istore (lv' := [(5, .int (-1)), (4, .int (-1)), (0, .ref (q 0)), (1, .int v), (2, .int n), (3, .int w)]) hx hb dX7_best_36 hl (by decide) rfl (fun ls hl => ?_)
              refine lv_lconst (v := 0) hx hb dX7_best_38 (by decide) ?_
              refine lv_lstore (lv' := [(6, .long 0), (5, .int (-1)), (4, .int (-1)), (0, .ref (q 0)), (1, .int v), (2, .int n), (3, .int w)]) hx hb dX7_best_39 hl (by decide) rfl (fun ls hl => ?_)
              refine lv_iconst (v := 2) hx hb dX7_best_41 (by decide) ?_
              refine lv_istore (lv' := [(8, .int 2), (6, .long 0), (5, .int (-1)), (4, .int (-1)), (0, .ref (q 0)), (1, .int v), (2, .int n), (3, .int w)]) hx hb dX7_best_42 hl (by decide) rfl (fun ls hl => ?_)
              obtain ⟨bA, ebA⟩ : ∃ x : Int32, (-1) = x := ⟨_, rfl⟩
              obtain ⟨bB, ebB⟩ : ∃ x : Int32, (-1) = x := ⟨_, rfl⟩
              obtain ⟨le, ele⟩ : ∃ x : Int64, 0 = x := ⟨_, rfl⟩
              obtain ⟨i, ei⟩ : ∃ x : Int32, 2 = x := ⟨_, rfl⟩
              have hv44 : (2 ≤ i.toInt ∧ i.toInt ≤ 24) ∧ (BQ bA.toInt bB.toInt) ∧ (bO v.toInt n.toInt (24 - i.toInt).toNat i.toInt (bA.toInt, bB.toInt) = bR v.toInt n.toInt) ∧ (bA.toInt = -1 ∨ (le.toInt = bsp n.toInt bA.toInt bB.toInt ∧ -11040000 ≤ le.toInt ∧ le.toInt ≤ 11040000)) := by subst ebA ebB ele ei; exact ⟨(by decide), (Or.inl (by decide)), (bO_0 (by decide) (by decide) (by decide)), (Or.inl (by decide))⟩
              replace hl : lv_has ls 19 [(8, .int i), (6, .long le), (5, .int bB), (4, .int bA), (0, .ref (q 0)), (1, .int v), (2, .int n), (3, .int w)] := by subst ebA ebB ele ei; exact hl
              clear ebA ebB ele ei
              obtain ⟨mm44, hm44⟩ : ∃ mm : Nat, mm = (24 - i.toInt).toNat := ⟨_, rfl⟩
              refine z_cut2 hP hS hl ?_
              clear hl hP
              intro H locs ls hP hS hl
              induction mm44 using Nat.strongRecOn generalizing bA bB le i H locs ls with
              | _ mm44 ih44 =>
                obtain ⟨hi, hq, ho, hle⟩ := hv44
                refine lv_iload hx hb dX7_best_44 (lv_at hl 0 rfl) ?_
                refine lv_bipush (v := 24) hx hb dX7_best_46 (by decide) ?_
                refine lv_icmp_ge (tgt := 195) hx hb dX7_best_48 (by decide) (fun c_25 => ?_) (fun c_25 => ?_)
                · skip
                  have hc_25 := zb_le (show (24 : Int32).toInt = 24 by decide) rfl c_25
                  refine lv_iload hx hb dX7_best_195 (lv_at hl 3 rfl) ?_
                  refine lv_iconst (v := (-1)) hx hb dX7_best_197 (by decide) ?_
                  refine lv_icmp_ne (tgt := 206) hx hb dX7_best_198 (by decide) (fun c_26 => ?_) (fun c_26 => ?_)
                  · skip
                    have hc_26 := zb_ne rfl (show ((-1) : Int32).toInt = (-1) by decide) c_26
                    refine lv_iload_n hx hb dX7_best_206 rfl (lv_at hl 7 rfl) ?_
                    refine lv_if_ne (tgt := 215) hx hb dX7_best_207 (by decide) (fun c_27 => ?_) (fun c_27 => ?_)
                    · skip
                      have hc_27 := zb_ne rfl (show (0 : Int32).toInt = 0 by decide) c_27
                      refine lv_iload hx hb dX7_best_215 (lv_at hl 2 rfl) ?_
                      exact W.iret (v := bB) hx hb hr (fun t ht hW => ⟨⟨bB, (), rfl, (tBest_r (by omega) (bO_end (by omega) ho) (by rw [if_neg (by omega), if_neg (by omega)])), ⟨by rw [ht]; exact hP, hDa _⟩⟩, hS.F ht⟩) hS.2.2 dX7_best_217
                    · skip
                      have hc_27 := zb_eq rfl (show (0 : Int32).toInt = 0 by decide) c_27
                      refine lv_iload hx hb dX7_best_210 (lv_at hl 3 rfl) ?_
                      refine lv_goto (tgt := 217) hx hb dX7_best_212 (by decide) ?_
                      exact W.iret (v := bA) hx hb hr (fun t ht hW => ⟨⟨bA, (), rfl, (tBest_r (by omega) (bO_end (by omega) ho) (by rw [if_neg (by omega), if_pos (by omega)])), ⟨by rw [ht]; exact hP, hDa _⟩⟩, hS.F ht⟩) hS.2.2 dX7_best_217
                  · skip
                    have hc_26 := zb_eq rfl (show ((-1) : Int32).toInt = (-1) by decide) c_26
                    refine lv_bipush (v := (-3)) hx hb dX7_best_201 (by decide) ?_
                    refine lv_goto (tgt := 217) hx hb dX7_best_203 (by decide) ?_
                    exact W.iret (v := (-3)) hx hb hr (fun t ht hW => ⟨⟨(-3), (), rfl, (tBest_r (by omega) (bO_end (by omega) ho) (by rw [if_pos (by omega)]; decide)), ⟨by rw [ht]; exact hP, hDa _⟩⟩, hS.F ht⟩) hS.2.2 dX7_best_217
                · skip
                  have hc_25 := zb_nle (show (24 : Int32).toInt = 24 by decide) rfl c_25
                  refine lv_iconst (v := 1) hx hb dX7_best_51 (by decide) ?_
                  refine lv_istore (lv' := [(9, .int 1), (8, .int i), (6, .long le), (5, .int bB), (4, .int bA), (0, .ref (q 0)), (1, .int v), (2, .int n), (3, .int w)]) hx hb dX7_best_52 hl (by decide) rfl (fun ls hl => ?_)
                  obtain ⟨cA, ecA⟩ : ∃ x : Int32, bA = x := ⟨_, rfl⟩
                  obtain ⟨cB, ecB⟩ : ∃ x : Int32, bB = x := ⟨_, rfl⟩
                  obtain ⟨ce, ece⟩ : ∃ x : Int64, le = x := ⟨_, rfl⟩
                  obtain ⟨j, ej⟩ : ∃ x : Int32, 1 = x := ⟨_, rfl⟩
                  have hv54 : (1 ≤ j.toInt ∧ j.toInt ≤ i.toInt) ∧ (BQ cA.toInt cB.toInt) ∧ (bO v.toInt n.toInt (24 - (i.toInt + 1)).toNat (i.toInt + 1) (bI v.toInt n.toInt i.toInt (i.toInt - j.toInt).toNat j.toInt (cA.toInt, cB.toInt)) = bR v.toInt n.toInt) ∧ (cA.toInt = -1 ∨ (ce.toInt = bsp n.toInt cA.toInt cB.toInt ∧ -11040000 ≤ ce.toInt ∧ ce.toInt ≤ 11040000)) := by subst ecA ecB ece ej; exact ⟨(show 1 ≤ (1 : Int32).toInt ∧ (1 : Int32).toInt ≤ i.toInt from ⟨by decide, by have q : (1 : Int32).toInt = 1 := (by decide); omega⟩), hq, (bO_step (by omega) (by decide) ho), hle⟩
                  replace hl : lv_has ls 19 [(9, .int j), (8, .int i), (6, .long ce), (5, .int cB), (4, .int cA), (0, .ref (q 0)), (1, .int v), (2, .int n), (3, .int w)] := by subst ecA ecB ece ej; exact hl
                  clear ecA ecB ece ej
                  obtain ⟨mm54, hm54⟩ : ∃ mm : Nat, mm = (24 - j.toInt).toNat := ⟨_, rfl⟩
                  refine z_cut2 hP hS hl ?_
                  clear hl hP
                  intro H locs ls hP hS hl
                  induction mm54 using Nat.strongRecOn generalizing cA cB ce j H locs ls with
                  | _ mm54 ih54 =>
                    obtain ⟨hj, hq2, ho2, hle2⟩ := hv54
                    refine lv_iload hx hb dX7_best_54 (lv_at hl 0 rfl) ?_
                    refine lv_iload hx hb dX7_best_56 (lv_at hl 1 rfl) ?_
                    refine lv_icmp_ge (tgt := 189) hx hb dX7_best_58 (by decide) (fun c_28 => ?_) (fun c_28 => ?_)
                    · skip
                      have hc_28 := zb_le rfl rfl c_28
                      obtain ⟨x_29, ex_29⟩ : ∃ y : Int32, y = i + 1 := ⟨_, rfl⟩
                      have hx_29 : x_29.toInt = i.toInt + 1 := z_add ex_29 rfl (show (1 : Int32).toInt = 1 by decide) (by omega)
                      refine lv_iinc (v := x_29) (lv' := [(8, .int x_29), (9, .int j), (6, .long ce), (5, .int cB), (4, .int cA), (0, .ref (q 0)), (1, .int v), (2, .int n), (3, .int w)]) hx hb dX7_best_189 hl (k := 1) rfl (by rw [ex_29]; rfl) (by decide) rfl (fun ls hl => ?_)
                      refine lv_goto (tgt := 44) hx hb dX7_best_192 (by decide) ?_
                      exact ih44 ((24 - x_29.toInt).toNat) (by omega) cA cB ce x_29 ⟨(show 2 ≤ x_29.toInt ∧ x_29.toInt ≤ 24 by omega), hq2, (bI_end (by omega) hx_29 ho2), hle2⟩ rfl H locs ls hP hS (lv_sub hl [0, 2, 3, 4, 5, 6, 7, 8] rfl)
                    · skip
                      have hc_28 := zb_nle rfl rfl c_28
                      refine lv_iload_n hx hb dX7_best_61 rfl (lv_at hl 7 rfl) ?_
                      refine lv_iload hx hb dX7_best_62 (lv_at hl 1 rfl) ?_
                      refine lv_imul hx hb dX7_best_64 ?_
                      refine lv_topi (fun x_30 ex_30 => ?_)
                      have qx_30 := z_mulb (a := n.toInt) (b := i.toInt) (A := 100) (B := 23) (by omega) (by omega)
                      have hx_30 := z_mul ex_30 rfl rfl (by omega)
                      refine lv_bipush (v := 100) hx hb dX7_best_65 (by decide) ?_
                      refine lv_iload_n hx hb dX7_best_67 rfl (lv_at hl 7 rfl) ?_
                      refine lv_isub hx hb dX7_best_68 ?_
                      refine lv_topi (fun x_31 ex_31 => ?_)
                      have hx_31 := z_sub ex_31 (show (100 : Int32).toInt = 100 by decide) rfl (by omega)
                      refine lv_iload hx hb dX7_best_69 (lv_at hl 0 rfl) ?_
                      refine lv_imul hx hb dX7_best_71 ?_
                      refine lv_topi (fun x_32 ex_32 => ?_)
                      have qx_32 := z_mulb (a := x_31.toInt) (b := j.toInt) (A := 100) (B := 23) (by omega) (by omega)
                      have hx_32 := z_mul ex_32 rfl rfl (by omega)
                      refine lv_iadd hx hb dX7_best_72 ?_
                      refine lv_topi (fun x_33 ex_33 => ?_)
                      have hx_33 := z_add ex_33 rfl rfl (by omega)
                      refine lv_i2l (v := x_33.toInt64) hx hb dX7_best_73 rfl ?_
                      refine lv_topl (fun x_34 ex_34 => ?_)
                      have hx_34 : x_34.toInt = x_33.toInt := by rw [ex_34]; exact Jvm.Kit.i64_of_i32 _
                      refine lv_lstore (lv' := [(10, .long x_34), (9, .int j), (8, .int i), (6, .long ce), (5, .int cB), (4, .int cA), (0, .ref (q 0)), (1, .int v), (2, .int n), (3, .int w)]) hx hb dX7_best_74 hl (by decide) rfl (fun ls hl => ?_)
                      refine lv_lload hx hb dX7_best_76 (lv_at hl 0 rfl) ?_
                      refine lv_ldc2 (v := 2400) hx hb hown (htb _ wmt5_81) dX7_best_78 ?_
                      refine lv_lload hx hb dX7_best_81 (lv_at hl 0 rfl) ?_
                      refine lv_lsub hx hb dX7_best_83 ?_
                      refine lv_topl (fun x_35 ex_35 => ?_)
                      have hx_35 := zl_sub ex_35 (show (2400 : Int64).toInt = 2400 by decide) rfl (by omega)
                      refine lv_lmul hx hb dX7_best_84 ?_
                      refine lv_topl (fun x_36 ex_36 => ?_)
                      have qx_36 := z_mulab (a := x_34.toInt) (b := x_35.toInt) (A := 4600) (B := 2400) (by omega) (by omega) (by decide) (by decide)
                      have hx_36 := zl_mul ex_36 rfl rfl (by omega)
                      have hby : x_36.toInt = bsp n.toInt i.toInt j.toInt := by unfold bsp; simp only [hx_36, hx_30, hx_31, hx_32, hx_33, hx_34, hx_35]
                      refine lv_lstore (lv' := [(12, .long x_36), (10, .long x_34), (9, .int j), (8, .int i), (6, .long ce), (5, .int cB), (4, .int cA), (0, .ref (q 0)), (1, .int v), (2, .int n), (3, .int w)]) hx hb dX7_best_85 hl (by decide) rfl (fun ls hl => ?_)
                      refine lv_iload hx hb dX7_best_87 (lv_at hl 3 rfl) ?_
                      refine lv_iload_n hx hb dX7_best_89 rfl (lv_at hl 8 rfl) ?_
                      refine lv_iload hx hb dX7_best_90 (lv_at hl 2 rfl) ?_
                      refine lv_imul hx hb dX7_best_92 ?_
                      refine lv_topi (fun x_37 ex_37 => ?_)
                      have qx_37 := z_mulb (a := v.toInt) (b := j.toInt) (A := 30) (B := 23) (by omega) (by omega)
                      have hx_37 := z_mul ex_37 rfl rfl (by omega)
                      refine lv_icmp_gt (tgt := 115) hx hb dX7_best_93 (by decide) (fun c_38 => ?_) (fun c_38 => ?_)
                      · skip
                        have hc_38 := zb_lt rfl rfl c_38
                        refine lv_iconst (v := 0) hx hb dX7_best_115 (by decide) ?_
                        refine lv_istore (lv' := [(14, .int 0), (12, .long x_36), (10, .long x_34), (9, .int j), (8, .int i), (6, .long ce), (5, .int cB), (4, .int cA), (0, .ref (q 0)), (1, .int v), (2, .int n), (3, .int w)]) hx hb dX7_best_116 hl (by decide) rfl (fun ls hl => ?_)
                        refine lv_iload hx hb dX7_best_118 (lv_at hl 4 rfl) ?_
                        refine lv_iload hx hb dX7_best_120 (lv_at hl 3 rfl) ?_
                        refine lv_isub hx hb dX7_best_122 ?_
                        refine lv_topi (fun x_39 ex_39 => ?_)
                        have hx_39 := z_sub ex_39 rfl rfl (by omega)
                        refine lv_iload hx hb dX7_best_123 (lv_at hl 4 rfl) ?_
                        refine lv_iload hx hb dX7_best_125 (lv_at hl 3 rfl) ?_
                        refine lv_isub hx hb dX7_best_127 ?_
                        refine lv_topi (fun x_40 ex_40 => ?_)
                        have hx_40 := z_sub ex_40 rfl rfl (by omega)
                        refine lv_imul hx hb dX7_best_128 ?_
                        refine lv_topi (fun x_41 ex_41 => ?_)
                        have qx_41 := z_mulb (a := x_39.toInt) (b := x_40.toInt) (A := 22) (B := 22) (by omega) (by omega)
                        have hx_41 := z_mul ex_41 rfl rfl (by omega)
                        refine lv_i2l (v := x_41.toInt64) hx hb dX7_best_129 rfl ?_
                        refine lv_topl (fun x_42 ex_42 => ?_)
                        have hx_42 : x_42.toInt = x_41.toInt := by rw [ex_42]; exact Jvm.Kit.i64_of_i32 _
                        have hap : x_42.toInt = bsq i.toInt j.toInt := by unfold bsq; simp only [hx_42, hx_39, hx_40, hx_41]
                        refine lv_lstore (lv' := [(15, .long x_42), (14, .int 0), (12, .long x_36), (10, .long x_34), (9, .int j), (8, .int i), (6, .long ce), (5, .int cB), (4, .int cA), (0, .ref (q 0)), (1, .int v), (2, .int n), (3, .int w)]) hx hb dX7_best_130 hl (by decide) rfl (fun ls hl => ?_)
                        have hq4 := hq2; unfold BQ at hq4
                        refine lv_iload hx hb dX7_best_132 (lv_at hl 8 rfl) ?_
                        refine lv_iload hx hb dX7_best_134 (lv_at hl 7 rfl) ?_
                        refine lv_isub hx hb dX7_best_136 ?_
                        refine lv_topi (fun x_43 ex_43 => ?_)
                        have hx_43 := z_sub ex_43 rfl rfl (by omega)
                        refine lv_iload hx hb dX7_best_137 (lv_at hl 8 rfl) ?_
                        refine lv_iload hx hb dX7_best_139 (lv_at hl 7 rfl) ?_
                        refine lv_isub hx hb dX7_best_141 ?_
                        refine lv_topi (fun x_44 ex_44 => ?_)
                        have hx_44 := z_sub ex_44 rfl rfl (by omega)
                        refine lv_imul hx hb dX7_best_142 ?_
                        refine lv_topi (fun x_45 ex_45 => ?_)
                        have qx_45 := z_mulb (a := x_43.toInt) (b := x_44.toInt) (A := 22) (B := 22) (by omega) (by omega)
                        have hx_45 := z_mul ex_45 rfl rfl (by omega)
                        refine lv_i2l (v := x_45.toInt64) hx hb dX7_best_143 rfl ?_
                        refine lv_topl (fun x_46 ex_46 => ?_)
                        have hx_46 : x_46.toInt = x_45.toInt := by rw [ex_46]; exact Jvm.Kit.i64_of_i32 _
                        have hba : x_46.toInt = bsq cA.toInt cB.toInt := by unfold bsq; simp only [hx_46, hx_43, hx_44, hx_45]
                        refine lv_lstore (lv' := [(17, .long x_46), (15, .long x_42), (14, .int 0), (12, .long x_36), (10, .long x_34), (9, .int j), (8, .int i), (6, .long ce), (5, .int cB), (4, .int cA), (0, .ref (q 0)), (1, .int v), (2, .int n), (3, .int w)]) hx hb dX7_best_144 hl (by decide) rfl (fun ls hl => ?_)
                        refine lv_iload hx hb dX7_best_146 (lv_at hl 2 rfl) ?_
                        refine lv_if_eq (tgt := 183) hx hb dX7_best_148 (by decide) (fun c_47 => ?_) (fun c_47 => ?_)
                        · skip
                          obtain ⟨x_48, ex_48⟩ : ∃ y : Int32, y = j + 1 := ⟨_, rfl⟩
                          have hx_48 : x_48.toInt = j.toInt + 1 := z_add ex_48 rfl (show (1 : Int32).toInt = 1 by decide) (by omega)
                          refine lv_iinc (v := x_48) (lv' := [(9, .int x_48), (17, .long x_46), (15, .long x_42), (14, .int 0), (12, .long x_36), (10, .long x_34), (8, .int i), (6, .long ce), (5, .int cB), (4, .int cA), (0, .ref (q 0)), (1, .int v), (2, .int n), (3, .int w)]) hx hb dX7_best_183 hl (k := 5) rfl (by rw [ex_48]; rfl) (by decide) rfl (fun ls hl => ?_)
                          refine lv_goto (tgt := 54) hx hb dX7_best_186 (by decide) ?_
                          exact ih54 ((24 - x_48.toInt).toNat) (by omega) cA cB ce x_48 ⟨(show 1 ≤ x_48.toInt ∧ x_48.toInt ≤ i.toInt by omega), hq2, (bI_next (by omega) hx_48 (bst_n1 (by omega)) ho2), hle2⟩ rfl H locs ls hP hS (lv_sub hl [0, 6, 7, 8, 9, 10, 11, 12, 13] rfl)
                        · skip
                          exact absurd (by decide) c_47
                      · skip
                        have hc_38 := zb_nlt rfl rfl c_38
                        refine lv_bipush (v := 24) hx hb dX7_best_96 (by decide) ?_
                        refine lv_iload hx hb dX7_best_98 (lv_at hl 2 rfl) ?_
                        refine lv_isub hx hb dX7_best_100 ?_
                        refine lv_topi (fun x_49 ex_49 => ?_)
                        have hx_49 := z_sub ex_49 (show (24 : Int32).toInt = 24 by decide) rfl (by omega)
                        refine lv_iload_n hx hb dX7_best_101 rfl (lv_at hl 8 rfl) ?_
                        refine lv_bipush (v := 24) hx hb dX7_best_102 (by decide) ?_
                        refine lv_iload hx hb dX7_best_104 (lv_at hl 3 rfl) ?_
                        refine lv_isub hx hb dX7_best_106 ?_
                        refine lv_topi (fun x_50 ex_50 => ?_)
                        have hx_50 := z_sub ex_50 (show (24 : Int32).toInt = 24 by decide) rfl (by omega)
                        refine lv_imul hx hb dX7_best_107 ?_
                        refine lv_topi (fun x_51 ex_51 => ?_)
                        have qx_51 := z_mulb (a := v.toInt) (b := x_50.toInt) (A := 30) (B := 22) (by omega) (by omega)
                        have hx_51 := z_mul ex_51 rfl rfl (by omega)
                        rw [hx_50] at hx_51
                        refine lv_icmp_gt (tgt := 115) hx hb dX7_best_108 (by decide) (fun c_52 => ?_) (fun c_52 => ?_)
                        · skip
                          have hc_52 := zb_lt rfl rfl c_52
                          refine lv_iconst (v := 0) hx hb dX7_best_115 (by decide) ?_
                          refine lv_istore (lv' := [(14, .int 0), (12, .long x_36), (10, .long x_34), (9, .int j), (8, .int i), (6, .long ce), (5, .int cB), (4, .int cA), (0, .ref (q 0)), (1, .int v), (2, .int n), (3, .int w)]) hx hb dX7_best_116 hl (by decide) rfl (fun ls hl => ?_)
                          refine lv_iload hx hb dX7_best_118 (lv_at hl 4 rfl) ?_
                          refine lv_iload hx hb dX7_best_120 (lv_at hl 3 rfl) ?_
                          refine lv_isub hx hb dX7_best_122 ?_
                          refine lv_topi (fun x_53 ex_53 => ?_)
                          have hx_53 := z_sub ex_53 rfl rfl (by omega)
                          refine lv_iload hx hb dX7_best_123 (lv_at hl 4 rfl) ?_
                          refine lv_iload hx hb dX7_best_125 (lv_at hl 3 rfl) ?_
                          refine lv_isub hx hb dX7_best_127 ?_
                          refine lv_topi (fun x_54 ex_54 => ?_)
                          have hx_54 := z_sub ex_54 rfl rfl (by omega)
                          refine lv_imul hx hb dX7_best_128 ?_
                          refine lv_topi (fun x_55 ex_55 => ?_)
                          have qx_55 := z_mulb (a := x_53.toInt) (b := x_54.toInt) (A := 22) (B := 22) (by omega) (by omega)
                          have hx_55 := z_mul ex_55 rfl rfl (by omega)
                          refine lv_i2l (v := x_55.toInt64) hx hb dX7_best_129 rfl ?_
                          refine lv_topl (fun x_56 ex_56 => ?_)
                          have hx_56 : x_56.toInt = x_55.toInt := by rw [ex_56]; exact Jvm.Kit.i64_of_i32 _
                          have hap : x_56.toInt = bsq i.toInt j.toInt := by unfold bsq; simp only [hx_56, hx_53, hx_54, hx_55]
                          refine lv_lstore (lv' := [(15, .long x_56), (14, .int 0), (12, .long x_36), (10, .long x_34), (9, .int j), (8, .int i), (6, .long ce), (5, .int cB), (4, .int cA), (0, .ref (q 0)), (1, .int v), (2, .int n), (3, .int w)]) hx hb dX7_best_130 hl (by decide) rfl (fun ls hl => ?_)
                          have hq4 := hq2; unfold BQ at hq4
                          refine lv_iload hx hb dX7_best_132 (lv_at hl 8 rfl) ?_
                          refine lv_iload hx hb dX7_best_134 (lv_at hl 7 rfl) ?_
                          refine lv_isub hx hb dX7_best_136 ?_
                          refine lv_topi (fun x_57 ex_57 => ?_)
                          have hx_57 := z_sub ex_57 rfl rfl (by omega)
                          refine lv_iload hx hb dX7_best_137 (lv_at hl 8 rfl) ?_
                          refine lv_iload hx hb dX7_best_139 (lv_at hl 7 rfl) ?_
                          refine lv_isub hx hb dX7_best_141 ?_
                          refine lv_topi (fun x_58 ex_58 => ?_)
                          have hx_58 := z_sub ex_58 rfl rfl (by omega)
                          refine lv_imul hx hb dX7_best_142 ?_
                          refine lv_topi (fun x_59 ex_59 => ?_)
                          have qx_59 := z_mulb (a := x_57.toInt) (b := x_58.toInt) (A := 22) (B := 22) (by omega) (by omega)
                          have hx_59 := z_mul ex_59 rfl rfl (by omega)
                          refine lv_i2l (v := x_59.toInt64) hx hb dX7_best_143 rfl ?_
                          refine lv_topl (fun x_60 ex_60 => ?_)
                          have hx_60 : x_60.toInt = x_59.toInt := by rw [ex_60]; exact Jvm.Kit.i64_of_i32 _
                          have hba : x_60.toInt = bsq cA.toInt cB.toInt := by unfold bsq; simp only [hx_60, hx_57, hx_58, hx_59]
                          refine lv_lstore (lv' := [(17, .long x_60), (15, .long x_56), (14, .int 0), (12, .long x_36), (10, .long x_34), (9, .int j), (8, .int i), (6, .long ce), (5, .int cB), (4, .int cA), (0, .ref (q 0)), (1, .int v), (2, .int n), (3, .int w)]) hx hb dX7_best_144 hl (by decide) rfl (fun ls hl => ?_)
                          refine lv_iload hx hb dX7_best_146 (lv_at hl 2 rfl) ?_
                          refine lv_if_eq (tgt := 183) hx hb dX7_best_148 (by decide) (fun c_61 => ?_) (fun c_61 => ?_)
                          · skip
                            obtain ⟨x_62, ex_62⟩ : ∃ y : Int32, y = j + 1 := ⟨_, rfl⟩
                            have hx_62 : x_62.toInt = j.toInt + 1 := z_add ex_62 rfl (show (1 : Int32).toInt = 1 by decide) (by omega)
                            refine lv_iinc (v := x_62) (lv' := [(9, .int x_62), (17, .long x_60), (15, .long x_56), (14, .int 0), (12, .long x_36), (10, .long x_34), (8, .int i), (6, .long ce), (5, .int cB), (4, .int cA), (0, .ref (q 0)), (1, .int v), (2, .int n), (3, .int w)]) hx hb dX7_best_183 hl (k := 5) rfl (by rw [ex_62]; rfl) (by decide) rfl (fun ls hl => ?_)
                            refine lv_goto (tgt := 54) hx hb dX7_best_186 (by decide) ?_
                            exact ih54 ((24 - x_62.toInt).toNat) (by omega) cA cB ce x_62 ⟨(show 1 ≤ x_62.toInt ∧ x_62.toInt ≤ i.toInt by omega), hq2, (bI_next (by omega) hx_62 (bst_n2 (by omega)) ho2), hle2⟩ rfl H locs ls hP hS (lv_sub hl [0, 6, 7, 8, 9, 10, 11, 12, 13] rfl)
                          · skip
                            exact absurd (by decide) c_61
                        · skip
                          have hc_52 := zb_nlt rfl rfl c_52
                          have hwi := bWi_y (v := v.toInt) (a := i.toInt) (b := j.toInt) (by omega) (by omega)
                          refine lv_iconst (v := 1) hx hb dX7_best_111 (by decide) ?_
                          refine lv_goto (tgt := 116) hx hb dX7_best_112 (by decide) ?_
                          refine lv_istore (lv' := [(14, .int 1), (12, .long x_36), (10, .long x_34), (9, .int j), (8, .int i), (6, .long ce), (5, .int cB), (4, .int cA), (0, .ref (q 0)), (1, .int v), (2, .int n), (3, .int w)]) hx hb dX7_best_116 hl (by decide) rfl (fun ls hl => ?_)
                          refine lv_iload hx hb dX7_best_118 (lv_at hl 4 rfl) ?_
                          refine lv_iload hx hb dX7_best_120 (lv_at hl 3 rfl) ?_
                          refine lv_isub hx hb dX7_best_122 ?_
                          refine lv_topi (fun x_63 ex_63 => ?_)
                          have hx_63 := z_sub ex_63 rfl rfl (by omega)
                          refine lv_iload hx hb dX7_best_123 (lv_at hl 4 rfl) ?_
                          refine lv_iload hx hb dX7_best_125 (lv_at hl 3 rfl) ?_
                          refine lv_isub hx hb dX7_best_127 ?_
                          refine lv_topi (fun x_64 ex_64 => ?_)
                          have hx_64 := z_sub ex_64 rfl rfl (by omega)
                          refine lv_imul hx hb dX7_best_128 ?_
                          refine lv_topi (fun x_65 ex_65 => ?_)
                          have qx_65 := z_mulb (a := x_63.toInt) (b := x_64.toInt) (A := 22) (B := 22) (by omega) (by omega)
                          have hx_65 := z_mul ex_65 rfl rfl (by omega)
                          refine lv_i2l (v := x_65.toInt64) hx hb dX7_best_129 rfl ?_
                          refine lv_topl (fun x_66 ex_66 => ?_)
                          have hx_66 : x_66.toInt = x_65.toInt := by rw [ex_66]; exact Jvm.Kit.i64_of_i32 _
                          have hap : x_66.toInt = bsq i.toInt j.toInt := by unfold bsq; simp only [hx_66, hx_63, hx_64, hx_65]
                          refine lv_lstore (lv' := [(15, .long x_66), (14, .int 1), (12, .long x_36), (10, .long x_34), (9, .int j), (8, .int i), (6, .long ce), (5, .int cB), (4, .int cA), (0, .ref (q 0)), (1, .int v), (2, .int n), (3, .int w)]) hx hb dX7_best_130 hl (by decide) rfl (fun ls hl => ?_)
                          have hq4 := hq2; unfold BQ at hq4
                          refine lv_iload hx hb dX7_best_132 (lv_at hl 8 rfl) ?_
                          refine lv_iload hx hb dX7_best_134 (lv_at hl 7 rfl) ?_
                          refine lv_isub hx hb dX7_best_136 ?_
                          refine lv_topi (fun x_67 ex_67 => ?_)
                          have hx_67 := z_sub ex_67 rfl rfl (by omega)
                          refine lv_iload hx hb dX7_best_137 (lv_at hl 8 rfl) ?_
                          refine lv_iload hx hb dX7_best_139 (lv_at hl 7 rfl) ?_
                          refine lv_isub hx hb dX7_best_141 ?_
                          refine lv_topi (fun x_68 ex_68 => ?_)
                          have hx_68 := z_sub ex_68 rfl rfl (by omega)
                          refine lv_imul hx hb dX7_best_142 ?_
                          refine lv_topi (fun x_69 ex_69 => ?_)
                          have qx_69 := z_mulb (a := x_67.toInt) (b := x_68.toInt) (A := 22) (B := 22) (by omega) (by omega)
                          have hx_69 := z_mul ex_69 rfl rfl (by omega)
                          refine lv_i2l (v := x_69.toInt64) hx hb dX7_best_143 rfl ?_
                          refine lv_topl (fun x_70 ex_70 => ?_)
                          have hx_70 : x_70.toInt = x_69.toInt := by rw [ex_70]; exact Jvm.Kit.i64_of_i32 _
                          have hba : x_70.toInt = bsq cA.toInt cB.toInt := by unfold bsq; simp only [hx_70, hx_67, hx_68, hx_69]
                          refine lv_lstore (lv' := [(17, .long x_70), (15, .long x_66), (14, .int 1), (12, .long x_36), (10, .long x_34), (9, .int j), (8, .int i), (6, .long ce), (5, .int cB), (4, .int cA), (0, .ref (q 0)), (1, .int v), (2, .int n), (3, .int w)]) hx hb dX7_best_144 hl (by decide) rfl (fun ls hl => ?_)
                          refine lv_iload hx hb dX7_best_146 (lv_at hl 2 rfl) ?_
                          refine lv_if_eq (tgt := 183) hx hb dX7_best_148 (by decide) (fun c_71 => ?_) (fun c_71 => ?_)
                          · skip
                            exact absurd c_71 (by decide)
                          · skip
                            refine lv_iload hx hb dX7_best_151 (lv_at hl 9 rfl) ?_
                            refine lv_iconst (v := (-1)) hx hb dX7_best_153 (by decide) ?_
                            refine lv_icmp_eq (tgt := 171) hx hb dX7_best_154 (by decide) (fun c_72 => ?_) (fun c_72 => ?_)
                            · skip
                              have hc_72 := zb_eq rfl (show ((-1) : Int32).toInt = (-1) by decide) c_72
                              refine lv_iload hx hb dX7_best_171 (lv_at hl 6 rfl) ?_
                              refine lv_istore (lv' := [(4, .int i), (17, .long x_70), (15, .long x_66), (14, .int 1), (12, .long x_36), (10, .long x_34), (9, .int j), (8, .int i), (6, .long ce), (5, .int cB), (0, .ref (q 0)), (1, .int v), (2, .int n), (3, .int w)]) hx hb dX7_best_173 hl (by decide) rfl (fun ls hl => ?_)
                              refine lv_iload hx hb dX7_best_175 (lv_at hl 6 rfl) ?_
                              refine lv_istore (lv' := [(5, .int j), (4, .int i), (17, .long x_70), (15, .long x_66), (14, .int 1), (12, .long x_36), (10, .long x_34), (9, .int j), (8, .int i), (6, .long ce), (0, .ref (q 0)), (1, .int v), (2, .int n), (3, .int w)]) hx hb dX7_best_177 hl (by decide) rfl (fun ls hl => ?_)
                              refine lv_lload hx hb dX7_best_179 (lv_at hl 5 rfl) ?_
                              refine lv_lstore (lv' := [(6, .long x_36), (5, .int j), (4, .int i), (17, .long x_70), (15, .long x_66), (14, .int 1), (12, .long x_36), (10, .long x_34), (9, .int j), (8, .int i), (0, .ref (q 0)), (1, .int v), (2, .int n), (3, .int w)]) hx hb dX7_best_181 hl (by decide) rfl (fun ls hl => ?_)
                              obtain ⟨x_73, ex_73⟩ : ∃ y : Int32, y = j + 1 := ⟨_, rfl⟩
                              have hx_73 : x_73.toInt = j.toInt + 1 := z_add ex_73 rfl (show (1 : Int32).toInt = 1 by decide) (by omega)
                              refine lv_iinc (v := x_73) (lv' := [(9, .int x_73), (6, .long x_36), (5, .int j), (4, .int i), (17, .long x_70), (15, .long x_66), (14, .int 1), (12, .long x_36), (10, .long x_34), (8, .int i), (0, .ref (q 0)), (1, .int v), (2, .int n), (3, .int w)]) hx hb dX7_best_183 hl (k := 8) rfl (by rw [ex_73]; rfl) (by decide) rfl (fun ls hl => ?_)
                              refine lv_goto (tgt := 54) hx hb dX7_best_186 (by decide) ?_
                              exact ih54 ((24 - x_73.toInt).toNat) (by omega) i j x_36 x_73 ⟨(show 1 ≤ x_73.toInt ∧ x_73.toInt ≤ i.toInt by omega), (Or.inr ⟨by omega, by omega, by omega⟩), (bI_next (by omega) hx_73 (bst_p hwi (Or.inl (by omega))) ho2), (Or.inr ⟨hby, by omega, by omega⟩)⟩ rfl H locs ls hP hS (lv_sub hl [0, 9, 1, 2, 3, 10, 11, 12, 13] rfl)
                            · skip
                              have hc_72 := zb_ne rfl (show ((-1) : Int32).toInt = (-1) by decide) c_72
                              have hle3 := hle2.resolve_left hc_72
                              refine lv_lload hx hb dX7_best_157 (lv_at hl 3 rfl) ?_
                              refine lv_lload hx hb dX7_best_159 (lv_at hl 0 rfl) ?_
                              refine lv_lmul hx hb dX7_best_161 ?_
                              refine lv_topl (fun x_74 ex_74 => ?_)
                              have qx_74 := z_mulab (a := x_36.toInt) (b := x_70.toInt) (A := 11040000) (B := 484) (by omega) (by omega) (by decide) (by decide)
                              have hx_74 := zl_mul ex_74 rfl rfl (by omega)
                              refine lv_lload hx hb dX7_best_162 (lv_at hl 7 rfl) ?_
                              refine lv_lload hx hb dX7_best_164 (lv_at hl 1 rfl) ?_
                              refine lv_lmul hx hb dX7_best_166 ?_
                              refine lv_topl (fun x_75 ex_75 => ?_)
                              have qx_75 := z_mulab (a := ce.toInt) (b := x_66.toInt) (A := 11040000) (B := 484) (by omega) (by omega) (by decide) (by decide)
                              have hx_75 := zl_mul ex_75 rfl rfl (by omega)
                              refine z_lcmp hx hb dX7_best_167 ?_
                              refine lv_if_ge (tgt := 183) hx hb dX7_best_168 (by decide) (fun c_76 => ?_) (fun c_76 => ?_)
                              · skip
                                have hc_76 := zl_ge rfl rfl c_76
                                have hls : ¬ bLs n.toInt i.toInt j.toInt cA.toInt cB.toInt := by unfold bLs; rw [← hby, ← hba, ← hle3.1, ← hap]; omega
                                obtain ⟨x_77, ex_77⟩ : ∃ y : Int32, y = j + 1 := ⟨_, rfl⟩
                                have hx_77 : x_77.toInt = j.toInt + 1 := z_add ex_77 rfl (show (1 : Int32).toInt = 1 by decide) (by omega)
                                refine lv_iinc (v := x_77) (lv' := [(9, .int x_77), (17, .long x_70), (15, .long x_66), (14, .int 1), (12, .long x_36), (10, .long x_34), (8, .int i), (6, .long ce), (5, .int cB), (4, .int cA), (0, .ref (q 0)), (1, .int v), (2, .int n), (3, .int w)]) hx hb dX7_best_183 hl (k := 5) rfl (by rw [ex_77]; rfl) (by decide) rfl (fun ls hl => ?_)
                                refine lv_goto (tgt := 54) hx hb dX7_best_186 (by decide) ?_
                                exact ih54 ((24 - x_77.toInt).toNat) (by omega) cA cB ce x_77 ⟨(show 1 ≤ x_77.toInt ∧ x_77.toInt ≤ i.toInt by omega), hq2, (bI_next (by omega) hx_77 (bst_n3 (by omega) hls) ho2), hle2⟩ rfl H locs ls hP hS (lv_sub hl [0, 6, 7, 8, 9, 10, 11, 12, 13] rfl)
                              · skip
                                have hc_76 := zl_nge rfl rfl c_76
                                have hls : bLs n.toInt i.toInt j.toInt cA.toInt cB.toInt := by unfold bLs; rw [← hby, ← hba, ← hle3.1, ← hap]; omega
                                refine lv_iload hx hb dX7_best_171 (lv_at hl 6 rfl) ?_
                                refine lv_istore (lv' := [(4, .int i), (17, .long x_70), (15, .long x_66), (14, .int 1), (12, .long x_36), (10, .long x_34), (9, .int j), (8, .int i), (6, .long ce), (5, .int cB), (0, .ref (q 0)), (1, .int v), (2, .int n), (3, .int w)]) hx hb dX7_best_173 hl (by decide) rfl (fun ls hl => ?_)
                                refine lv_iload hx hb dX7_best_175 (lv_at hl 6 rfl) ?_
                                refine lv_istore (lv' := [(5, .int j), (4, .int i), (17, .long x_70), (15, .long x_66), (14, .int 1), (12, .long x_36), (10, .long x_34), (9, .int j), (8, .int i), (6, .long ce), (0, .ref (q 0)), (1, .int v), (2, .int n), (3, .int w)]) hx hb dX7_best_177 hl (by decide) rfl (fun ls hl => ?_)
                                refine lv_lload hx hb dX7_best_179 (lv_at hl 5 rfl) ?_
                                refine lv_lstore (lv' := [(6, .long x_36), (5, .int j), (4, .int i), (17, .long x_70), (15, .long x_66), (14, .int 1), (12, .long x_36), (10, .long x_34), (9, .int j), (8, .int i), (0, .ref (q 0)), (1, .int v), (2, .int n), (3, .int w)]) hx hb dX7_best_181 hl (by decide) rfl (fun ls hl => ?_)
                                obtain ⟨x_78, ex_78⟩ : ∃ y : Int32, y = j + 1 := ⟨_, rfl⟩
                                have hx_78 : x_78.toInt = j.toInt + 1 := z_add ex_78 rfl (show (1 : Int32).toInt = 1 by decide) (by omega)
                                refine lv_iinc (v := x_78) (lv' := [(9, .int x_78), (6, .long x_36), (5, .int j), (4, .int i), (17, .long x_70), (15, .long x_66), (14, .int 1), (12, .long x_36), (10, .long x_34), (8, .int i), (0, .ref (q 0)), (1, .int v), (2, .int n), (3, .int w)]) hx hb dX7_best_183 hl (k := 8) rfl (by rw [ex_78]; rfl) (by decide) rfl (fun ls hl => ?_)
                                refine lv_goto (tgt := 54) hx hb dX7_best_186 (by decide) ?_
                                exact ih54 ((24 - x_78.toInt).toNat) (by omega) i j x_36 x_78 ⟨(show 1 ≤ x_78.toInt ∧ x_78.toInt ≤ i.toInt by omega), (Or.inr ⟨by omega, by omega, by omega⟩), (bI_next (by omega) hx_78 (bst_p hwi (Or.inr hls)) ho2), (Or.inr ⟨hby, by omega, by omega⟩)⟩ rfl H locs ls hP hS (lv_sub hl [0, 9, 1, 2, 3, 10, 11, 12, 13] rfl)
            · skip
              exact absurd c_24 (by decide)
          · skip
            replace e_23 : r_17 = 0 := e_23
            subst e_23
            replace h_22 : ¬ ((0 : Int32).toInt ≤ w.toInt ∧ w.toInt ≤ (1 : Int32).toInt) := h_22
            rw [show (0 : Int32).toInt = 0 by decide, show (1 : Int32).toInt = 1 by decide] at h_22
            refine lv_if_ne (tgt := 32) hx hb dX7_best_26 (by decide) (fun c_79 => ?_) (fun c_79 => ?_)
            · skip
              exact absurd c_79 (by decide)
            · skip
              refine lv_bipush (v := (-2)) hx hb dX7_best_29 (by decide) ?_
              exact W.iret (v := (-2)) hx hb hr (fun t ht hW => ⟨⟨(-2), (), rfl, (tBest_bad (by omega)), ⟨by rw [ht]; exact hP, hDa _⟩⟩, hS.F ht⟩) hS.2.2 dX7_best_31
      · skip
        replace e_15 : r_9 = 0 := e_15
        subst e_15
        replace h_14 : ¬ ((0 : Int32).toInt ≤ n.toInt ∧ n.toInt ≤ (100 : Int32).toInt) := h_14
        rw [show (0 : Int32).toInt = 0 by decide, show (100 : Int32).toInt = 100 by decide] at h_14
        refine lv_if_eq (tgt := 29) hx hb dX7_best_17 (by decide) (fun c_80 => ?_) (fun c_80 => ?_)
        · skip
          refine lv_bipush (v := (-2)) hx hb dX7_best_29 (by decide) ?_
          exact W.iret (v := (-2)) hx hb hr (fun t ht hW => ⟨⟨(-2), (), rfl, (tBest_bad (by omega)), ⟨by rw [ht]; exact hP, hDa _⟩⟩, hS.F ht⟩) hS.2.2 dX7_best_31
        · skip
          exact absurd (by decide) c_80
  · skip
    replace e_7 : r_1 = 0 := e_7
    subst e_7
    replace h_6 : ¬ ((2 : Int32).toInt ≤ v.toInt ∧ v.toInt ≤ (30 : Int32).toInt) := h_6
    rw [show (2 : Int32).toInt = 2 by decide, show (30 : Int32).toInt = 30 by decide] at h_6
    refine lv_if_eq (tgt := 29) hx hb dX7_best_7 (by decide) (fun c_81 => ?_) (fun c_81 => ?_)
    · skip
      refine lv_bipush (v := (-2)) hx hb dX7_best_29 (by decide) ?_
      exact W.iret (v := (-2)) hx hb hr (fun t ht hW => ⟨⟨(-2), (), rfl, (tBest_bad (by omega)), ⟨by rw [ht]; exact hP, hDa _⟩⟩, hS.F ht⟩) hS.2.2 dX7_best_31
    · skip
      exact absurd (by decide) c_81
set_option maxHeartbeats 4000000 in
set_option maxRecDepth 100000 in
theorem c_X7_parted (l : Launch) (dC : Nat → ClassId) (dI : Nat → Nat → Nat) (k : Nat → ClassId) (q : Nat → Nat) (z : ZS) (z0 : Int32) (d : Int32) (d2 : Int32) (n : Int32) (w : Int32) (sz : Nat) (hI : MInv z) : Met l yX7_parted (wz yX7_parted cX7_parted 13 (some .long)) ({ frames := 5, cells := 0, slots := 0, locals := 114 }) (va_Pc [.ref (q 0), .int z0, .int d, .int d2, .int n, .int w] (zPre dC dI k (zTX k) (zM k q z) sz)) (va_Ql (fun (r : Int64) (u : (Nat → Int32) × (Nat → Int32) × (Nat → Int32) × (Nat → Int32) × (Nat → Int32) × (Nat → Int32) × (Nat → Int32) × Int32 × Int32 × Int32 × Int32 × (Nat → Int32) × (Nat → Int32) × (Nat → Int32) × Int64 × Int64 × Int32) => (MD (FR (z.2.2.1 2) (z.2.2.1 3)) u.1 u.2.1 u.2.2.1 u.2.2.2.1 u.2.2.2.2.1 u.2.2.2.2.2.1 u.2.2.2.2.2.2.1)) (fun u t => zPost dC dI (va_A (zM k q z) sz) (zM k q (sI (sJ (sJ (sA (sA (sA (sI (sI (sI (sI (sA (sA (sA (sA (sA (sA (sA z 4 u.1) 5 u.2.1) 6 u.2.2.1) 7 u.2.2.2.1) 8 u.2.2.2.2.1) 9 u.2.2.2.2.2.1) 10 u.2.2.2.2.2.2.1) 12 u.2.2.2.2.2.2.2.1) 13 u.2.2.2.2.2.2.2.2.1) 14 u.2.2.2.2.2.2.2.2.2.1) 15 u.2.2.2.2.2.2.2.2.2.2.1) 16 u.2.2.2.2.2.2.2.2.2.2.2.1) 17 u.2.2.2.2.2.2.2.2.2.2.2.2.1) 18 u.2.2.2.2.2.2.2.2.2.2.2.2.2.1) 0 u.2.2.2.2.2.2.2.2.2.2.2.2.2.2.1) 1 u.2.2.2.2.2.2.2.2.2.2.2.2.2.2.2.1) 41 u.2.2.2.2.2.2.2.2.2.2.2.2.2.2.2.2)) t) (va_A (zM k q z) sz)) 0 0 (va_A (zM k q z) sz) := by
  refine Met.ofW (cc := cX7_parted) (maxL := 13) (ret := (some .long)) (by decide) rfl ?_
  intro p e s m args below meth c s₁ B hml hv
  obtain ⟨rfl, hsz, hP, hK, hD0⟩ := hv
  have hx := B.exec
  have hb := B.bytes
  have hr := B.returns
  have hts := atoms_spec (ws := wz yX7_parted cX7_parted 13 (some .long)) B.pre
  have htb : ∀ w ∈ zw, w.before _ s = true := fun w h => hts w (List.mem_cons_of_mem _ h)
  have hown : s.vm.findClass RX7 = some m.cls := findClass_of_methodNamed B.named
  have hlocks := B.notSynchronized
  clear hts
  subst hsz
  have hD := hD0.self (sz := s.heap.size)
  generalize hAe : va_A (zM k q z) s.heap.size = A at hD ⊢
  have hA : ∀ q : Nat, s.heap.size ≤ q → A q := fun q h => by rw [← hAe]; exact Or.inr h
  have hDa : ∀ z9 : ZS, va_D A (zM k q z9) := fun z9 => va_D_adr (w := zM k q z) rfl hD
  have hl := lv_entry ([.ref (q 0), .int z0, .int d, .int d2, .int n, .int w]) (n := 13) (Nat.le_of_ble_eq_true rfl)
  rw [lg_entry_eq]
  generalize (lg_sl ([.ref (q 0), .int z0, .int d, .int d2, .int n, .int w]) ++ List.replicate (13 - (lg_sl ([.ref (q 0), .int z0, .int d, .int d2, .int n, .int w])).length) Slot.unset).toArray = ls at hl ⊢
  have hl : lv_has ls 13 [(0, .ref (q 0)), (1, .int z0), (2, .int d), (3, .int d2), (4, .int n), (5, .int w)] := hl
  refine z_start2 (A := A) (w := (zM k q z)) hP (fun H locs hP hS => ?_)
  clear hD0 hAe
  refine lv_iload_n hx hb dX7_parted_0 rfl (lv_at hl 1 rfl) ?_
  refine zc0_i (w := (zM k q z)) (va_runS (As := [.int z0]) (rest := []) ⟨hx, hb, hml, hown, htb⟩ (c_X7_isSheet l dC dI k z0 _ ) (va_cwS 1 htb (gzS wmt4_171 wmt4_172 wmt1_8 wmt4_173) rfl rfl rfl (by decide +kernel) ⟨Nat.le_of_ble_eq_true rfl, Nat.le_of_ble_eq_true rfl⟩) (zp0_S hK) rfl rfl hl.1 rfl (lv_room (Nat.le_of_ble_eq_true rfl)) dX7_parted_1 ⟨Nat.le_of_ble_eq_true rfl, Nat.le_of_ble_eq_true rfl⟩) hP hS hA (fun r_1 u_2 H locs w_3 hP hS => ?_)
  rcases w_3 with ⟨e_5, h_4⟩ | ⟨e_7, h_6⟩
  · skip
    replace e_5 : r_1 = 1 := e_5
    subst e_5
    replace h_4 : 0 ≤ z0.toInt ∧ z0.toInt < 4 := h_4
    refine lv_if_eq (tgt := 41) hx hb dX7_parted_4 (by decide) (fun c_8 => ?_) (fun c_8 => ?_)
    · skip
      exact absurd c_8 (by decide)
    · skip
      refine lv_iload_n hx hb dX7_parted_7 rfl (lv_at hl 2 rfl) ?_
      refine zc0_i (w := (zM k q z)) (va_runS (As := [.int d]) (rest := []) ⟨hx, hb, hml, hown, htb⟩ (c_X7_isDesign l dC dI k d _ ) (va_cwS 1 htb (gzS wmt4_59 wmt4_60 wmt1_8 wmt4_61) rfl rfl rfl (by decide +kernel) ⟨Nat.le_of_ble_eq_true rfl, Nat.le_of_ble_eq_true rfl⟩) (zp0_S hK) rfl rfl hl.1 rfl (lv_room (Nat.le_of_ble_eq_true rfl)) dX7_parted_8 ⟨Nat.le_of_ble_eq_true rfl, Nat.le_of_ble_eq_true rfl⟩) hP hS hA (fun r_9 u_10 H locs w_11 hP hS => ?_)
      rcases w_11 with ⟨e_13, h_12⟩ | ⟨e_15, h_14⟩
      · skip
        replace e_13 : r_9 = 1 := e_13
        subst e_13
        replace h_12 : 0 ≤ d.toInt ∧ d.toInt < 4 := h_12
        refine lv_if_eq (tgt := 41) hx hb dX7_parted_11 (by decide) (fun c_16 => ?_) (fun c_16 => ?_)
        · skip
          exact absurd c_16 (by decide)
        · skip
          refine lv_iload_n hx hb dX7_parted_14 rfl (lv_at hl 3 rfl) ?_
          refine zc0_i (w := (zM k q z)) (va_runS (As := [.int d2]) (rest := []) ⟨hx, hb, hml, hown, htb⟩ (c_X7_isDesign l dC dI k d2 _ ) (va_cwS 1 htb (gzS wmt4_59 wmt4_60 wmt1_8 wmt4_61) rfl rfl rfl (by decide +kernel) ⟨Nat.le_of_ble_eq_true rfl, Nat.le_of_ble_eq_true rfl⟩) (zp0_S hK) rfl rfl hl.1 rfl (lv_room (Nat.le_of_ble_eq_true rfl)) dX7_parted_15 ⟨Nat.le_of_ble_eq_true rfl, Nat.le_of_ble_eq_true rfl⟩) hP hS hA (fun r_17 u_18 H locs w_19 hP hS => ?_)
          rcases w_19 with ⟨e_21, h_20⟩ | ⟨e_23, h_22⟩
          · skip
            replace e_21 : r_17 = 1 := e_21
            subst e_21
            replace h_20 : 0 ≤ d2.toInt ∧ d2.toInt < 4 := h_20
            refine lv_if_eq (tgt := 41) hx hb dX7_parted_18 (by decide) (fun c_24 => ?_) (fun c_24 => ?_)
            · skip
              exact absurd c_24 (by decide)
            · skip
              refine lv_iload hx hb dX7_parted_21 (lv_at hl 4 rfl) ?_
              refine lv_iconst (v := 0) hx hb dX7_parted_23 (by decide) ?_
              refine lv_iconst (v := 3) hx hb dX7_parted_24 (by decide) ?_
              refine zc0_i (w := (zM k q z)) (va_runS (As := [.int n, .int 0, .int 3]) (rest := []) ⟨hx, hb, hml, hown, htb⟩ (c_X7_in l dC dI k n 0 3 _ ) (va_cwS 3 htb (gzS wmt4_62 wmt4_63 wmt1_8 wmt4_64) rfl rfl rfl (by decide +kernel) ⟨Nat.le_of_ble_eq_true rfl, Nat.le_of_ble_eq_true rfl⟩) (zp0_S hK) rfl rfl hl.1 rfl (lv_room (Nat.le_of_ble_eq_true rfl)) dX7_parted_25 ⟨Nat.le_of_ble_eq_true rfl, Nat.le_of_ble_eq_true rfl⟩) hP hS hA (fun r_25 u_26 H locs w_27 hP hS => ?_)
              rcases w_27 with ⟨e_29, h_28⟩ | ⟨e_31, h_30⟩
              · skip
                replace e_29 : r_25 = 1 := e_29
                subst e_29
                replace h_28 : (0 : Int32).toInt ≤ n.toInt ∧ n.toInt ≤ (3 : Int32).toInt := h_28
                rw [show (0 : Int32).toInt = 0 by decide, show (3 : Int32).toInt = 3 by decide] at h_28
                refine lv_if_eq (tgt := 41) hx hb dX7_parted_28 (by decide) (fun c_32 => ?_) (fun c_32 => ?_)
                · skip
                  exact absurd c_32 (by decide)
                · skip
                  refine lv_iload hx hb dX7_parted_31 (lv_at hl 5 rfl) ?_
                  refine lv_iconst (v := 0) hx hb dX7_parted_33 (by decide) ?_
                  refine lv_iconst (v := 1) hx hb dX7_parted_34 (by decide) ?_
                  refine zc0_i (w := (zM k q z)) (va_runS (As := [.int w, .int 0, .int 1]) (rest := []) ⟨hx, hb, hml, hown, htb⟩ (c_X7_in l dC dI k w 0 1 _ ) (va_cwS 3 htb (gzS wmt4_62 wmt4_63 wmt1_8 wmt4_64) rfl rfl rfl (by decide +kernel) ⟨Nat.le_of_ble_eq_true rfl, Nat.le_of_ble_eq_true rfl⟩) (zp0_S hK) rfl rfl hl.1 rfl (lv_room (Nat.le_of_ble_eq_true rfl)) dX7_parted_35 ⟨Nat.le_of_ble_eq_true rfl, Nat.le_of_ble_eq_true rfl⟩) hP hS hA (fun r_33 u_34 H locs w_35 hP hS => ?_)
                  rcases w_35 with ⟨e_37, h_36⟩ | ⟨e_39, h_38⟩
                  · skip
                    replace e_37 : r_33 = 1 := e_37
                    subst e_37
                    replace h_36 : (0 : Int32).toInt ≤ w.toInt ∧ w.toInt ≤ (1 : Int32).toInt := h_36
                    rw [show (0 : Int32).toInt = 0 by decide, show (1 : Int32).toInt = 1 by decide] at h_36
                    refine lv_if_ne (tgt := 47) hx hb dX7_parted_38 (by decide) (fun c_40 => ?_) (fun c_40 => ?_)
                    · skip
                      refine lv_aload_n hx hb dX7_parted_47 rfl (lv_at hl 0 rfl) ?_
                      refine va_get (D := (dC, dI)) (ci := 7) (v := .ref (q 36)) (C := RX7) (T := TX7) (N := 42) hx hb htb inw7 hown hK.1 hP 0 rfl rfl 36 (by decide) (htb _ wmt3_203) (fun _ h9 => h9) rfl dX7_parted_48 ?_
                      refine lv_iload_n hx hb dX7_parted_51 rfl (lv_at hl 1 rfl) ?_
                      refine va_zald (D := (dC, dI)) hx hb hK.1 hP 20 2 rfl rfl (z_in (by omega)) dX7_parted_52 ?_
                      refine lv_topi (fun x_41 ex_41 => ?_)
                      refine lv_if_ne (tgt := 65) hx hb dX7_parted_53 (by decide) (fun c_42 => ?_) (fun c_42 => ?_)
                      · skip
                        have hc_42 := zb_ne rfl (show (0 : Int32).toInt = 0 by decide) c_42
                        refine lv_aload_n hx hb dX7_parted_65 rfl (lv_at hl 0 rfl) ?_
                        refine va_get (D := (dC, dI)) (ci := 7) (v := .ref (q 38)) (C := RX7) (T := TX7) (N := 42) hx hb htb inw7 hown hK.1 hP 0 rfl rfl 38 (by decide) (htb _ wmt3_205) (fun _ h9 => h9) rfl dX7_parted_66 ?_
                        refine lv_iload_n hx hb dX7_parted_69 rfl (lv_at hl 1 rfl) ?_
                        refine va_iald (D := (dC, dI)) hx hb hK.1 hP 22 0 rfl rfl (z_in (by omega)) dX7_parted_70 ?_
                        refine lv_topi (fun x_43 ex_43 => ?_)
                        refine lv_iconst (v := 4) hx hb dX7_parted_71 (by decide) ?_
                        refine lv_icmp_ge (tgt := 84) hx hb dX7_parted_72 (by decide) (fun c_44 => ?_) (fun c_44 => ?_)
                        · skip
                          have hc_44 := zb_le (show (4 : Int32).toInt = 4 by decide) rfl c_44
                          refine z_join2 (dC := dC) (dI := dI) (A := A) (H0 := s.heap) (nL := 13) (α := Int32 × (Nat → Int32) × (Nat → Int32) × (Nat → Int32) × (Nat → Int32) × (Nat → Int32) × (Nat → Int32) × (Nat → Int32) × Int32 × Int32 × Int32 × Int32 × (Nat → Int32) × (Nat → Int32) × (Nat → Int32)) (Inv := fun x => (MInv (sA (sA (sA (sI (sI (sI (sI (sA (sA (sA (sA (sA (sA (sA z 4 x.2.1) 5 x.2.2.1) 6 x.2.2.2.1) 7 x.2.2.2.2.1) 8 x.2.2.2.2.2.1) 9 x.2.2.2.2.2.2.1) 10 x.2.2.2.2.2.2.2.1) 12 x.2.2.2.2.2.2.2.2.1) 13 x.2.2.2.2.2.2.2.2.2.1) 14 x.2.2.2.2.2.2.2.2.2.2.1) 15 x.2.2.2.2.2.2.2.2.2.2.2.1) 16 x.2.2.2.2.2.2.2.2.2.2.2.2.1) 17 x.2.2.2.2.2.2.2.2.2.2.2.2.2.1) 18 x.2.2.2.2.2.2.2.2.2.2.2.2.2.2)) ∧ (x.1.toInt = 0 ∨ x.1.toInt = 1) ∧ (x.1.toInt = 1 → ¬ yI (x.2.2.2.2.1 d.toNatClampNeg) (x.2.2.2.2.2.1 d.toNatClampNeg) (x.2.2.2.2.2.2.1 d.toNatClampNeg) (x.2.2.2.2.2.2.2.1 d.toNatClampNeg) (z.1 11) 1 = yI (x.2.2.2.2.1 d.toNatClampNeg) (x.2.2.2.2.2.1 d.toNatClampNeg) (x.2.2.2.2.2.2.1 d.toNatClampNeg) (x.2.2.2.2.2.2.2.1 d.toNatClampNeg) (z.1 11) 0 ∧ ¬ yI (x.2.2.2.2.1 d2.toNatClampNeg) (x.2.2.2.2.2.1 d2.toNatClampNeg) (x.2.2.2.2.2.2.1 d2.toNatClampNeg) (x.2.2.2.2.2.2.2.1 d2.toNatClampNeg) (z.1 11) 1 = yI (x.2.2.2.2.1 d2.toNatClampNeg) (x.2.2.2.2.2.1 d2.toNatClampNeg) (x.2.2.2.2.2.2.1 d2.toNatClampNeg) (x.2.2.2.2.2.2.2.1 d2.toNatClampNeg) (z.1 11) 0)) (lv2 := fun x => [(0, .ref (q 0)), (1, .int z0), (2, .int d), (3, .int d2), (4, .int n), (5, .int w), (6, .int x.1)]) (st2 := fun _ => []) (w2 := fun x => (zM k q (sA (sA (sA (sI (sI (sI (sI (sA (sA (sA (sA (sA (sA (sA z 4 x.2.1) 5 x.2.2.1) 6 x.2.2.2.1) 7 x.2.2.2.2.1) 8 x.2.2.2.2.2.1) 9 x.2.2.2.2.2.2.1) 10 x.2.2.2.2.2.2.2.1) 12 x.2.2.2.2.2.2.2.2.1) 13 x.2.2.2.2.2.2.2.2.2.1) 14 x.2.2.2.2.2.2.2.2.2.2.1) 15 x.2.2.2.2.2.2.2.2.2.2.2.1) 16 x.2.2.2.2.2.2.2.2.2.2.2.2.1) 17 x.2.2.2.2.2.2.2.2.2.2.2.2.2.1) 18 x.2.2.2.2.2.2.2.2.2.2.2.2.2.2))) 129 (fun x H locs ls hinv hP hS hl => ?_) (fun hj129 => ?_)
                          · skip
                            obtain ⟨gd, p_o4, p_o5, p_o6, p_o7, p_o8, p_o9, p_o10, p_o12, p_o13, p_o14, p_o15, p_o16, p_o17, p_o18⟩ := x
                            obtain ⟨hI1, hgd, hmo⟩ := hinv
                            replace hI1 : MInv (sA (sA (sA (sI (sI (sI (sI (sA (sA (sA (sA (sA (sA (sA z 4 p_o4) 5 p_o5) 6 p_o6) 7 p_o7) 8 p_o8) 9 p_o9) 10 p_o10) 12 p_o12) 13 p_o13) 14 p_o14) 15 p_o15) 16 p_o16) 17 p_o17) 18 p_o18) := hI1
                            replace hgd : gd.toInt = 0 ∨ gd.toInt = 1 := hgd
                            replace hmo : gd.toInt = 1 → ¬ yI (p_o7 d.toNatClampNeg) (p_o8 d.toNatClampNeg) (p_o9 d.toNatClampNeg) (p_o10 d.toNatClampNeg) (z.1 11) 1 = yI (p_o7 d.toNatClampNeg) (p_o8 d.toNatClampNeg) (p_o9 d.toNatClampNeg) (p_o10 d.toNatClampNeg) (z.1 11) 0 ∧ ¬ yI (p_o7 d2.toNatClampNeg) (p_o8 d2.toNatClampNeg) (p_o9 d2.toNatClampNeg) (p_o10 d2.toNatClampNeg) (z.1 11) 1 = yI (p_o7 d2.toNatClampNeg) (p_o8 d2.toNatClampNeg) (p_o9 d2.toNatClampNeg) (p_o10 d2.toNatClampNeg) (z.1 11) 0 := hmo
                            have hP : va_P (dC, dI) vwCl (zM k q (sA (sA (sA (sI (sI (sI (sI (sA (sA (sA (sA (sA (sA (sA z 4 p_o4) 5 p_o5) 6 p_o6) 7 p_o7) 8 p_o8) 9 p_o9) 10 p_o10) 12 p_o12) 13 p_o13) 14 p_o14) 15 p_o15) 16 p_o16) 17 p_o17) 18 p_o18)) H := hP
                            have hl : lv_has ls 13 [(0, .ref (q 0)), (1, .int z0), (2, .int d), (3, .int d2), (4, .int n), (5, .int w), (6, .int gd)] := hl
                            have hI := hI1
                            refine lv_lconst (v := 0) hx hb dX7_parted_129 (by decide) ?_
                            refine lv_lstore (lv' := [(7, .long 0), (0, .ref (q 0)), (1, .int z0), (2, .int d), (3, .int d2), (4, .int n), (5, .int w), (6, .int gd)]) hx hb dX7_parted_130 hl (by decide) rfl (fun ls hl => ?_)
                            refine lv_lconst (v := 0) hx hb dX7_parted_132 (by decide) ?_
                            refine lv_lstore (lv' := [(9, .long 0), (7, .long 0), (0, .ref (q 0)), (1, .int z0), (2, .int d), (3, .int d2), (4, .int n), (5, .int w), (6, .int gd)]) hx hb dX7_parted_133 hl (by decide) rfl (fun ls hl => ?_)
                            refine lv_iconst (v := 0) hx hb dX7_parted_135 (by decide) ?_
                            refine lv_istore (lv' := [(11, .int 0), (9, .long 0), (7, .long 0), (0, .ref (q 0)), (1, .int z0), (2, .int d), (3, .int d2), (4, .int n), (5, .int w), (6, .int gd)]) hx hb dX7_parted_136 hl (by decide) rfl (fun ls hl => ?_)
                            obtain ⟨g2, eg2⟩ : ∃ x : Int32, gd = x := ⟨_, rfl⟩
                            obtain ⟨al, eal⟩ : ∃ x : Int64, 0 = x := ⟨_, rfl⟩
                            obtain ⟨sm, esm⟩ : ∃ x : Int64, 0 = x := ⟨_, rfl⟩
                            obtain ⟨k1, ek1⟩ : ∃ x : Int32, 0 = x := ⟨_, rfl⟩
                            have hv138 : (0 ≤ k1.toInt ∧ k1.toInt ≤ 4) ∧ (g2.toInt = 0 ∨ g2.toInt = 1) ∧ (g2.toInt = 1 → gd.toInt = 1) ∧ (g2.toInt = 1 → (0 ≤ al.toInt ∧ al.toInt ≤ 999 * k1.toInt) ∧ (-(600000000000000 * k1.toInt) ≤ sm.toInt ∧ sm.toInt ≤ 600000000000000 * k1.toInt)) := by subst eg2 eal esm ek1; exact ⟨(by decide), hgd, (fun q9 => q9), (fun _ => by decide)⟩
                            replace hl : lv_has ls 13 [(11, .int k1), (9, .long sm), (7, .long al), (0, .ref (q 0)), (1, .int z0), (2, .int d), (3, .int d2), (4, .int n), (5, .int w), (6, .int g2)] := by subst eg2 eal esm ek1; exact hl
                            clear eg2 eal esm ek1
                            obtain ⟨mm138, hm138⟩ : ∃ mm : Nat, mm = (4 - k1.toInt).toNat := ⟨_, rfl⟩
                            refine z_cut2 hP hS hl ?_
                            clear hl hP
                            intro H locs ls hP hS hl
                            induction mm138 using Nat.strongRecOn generalizing g2 al sm k1 H locs ls with
                            | _ mm138 ih138 =>
                              obtain ⟨hk, hg2, hgi, hal⟩ := hv138
                              refine lv_iload hx hb dX7_parted_138 (lv_at hl 0 rfl) ?_
                              refine lv_iconst (v := 4) hx hb dX7_parted_140 (by decide) ?_
                              refine lv_icmp_ge (tgt := 239) hx hb dX7_parted_141 (by decide) (fun c_45 => ?_) (fun c_45 => ?_)
                              · skip
                                have hc_45 := zb_le (show (4 : Int32).toInt = 4 by decide) rfl c_45
                                refine lv_iload hx hb dX7_parted_239 (lv_at hl 9 rfl) ?_
                                refine lv_if_eq (tgt := 251) hx hb dX7_parted_241 (by decide) (fun c_46 => ?_) (fun c_46 => ?_)
                                · skip
                                  have hc_46 := zb_eq rfl (show (0 : Int32).toInt = 0 by decide) c_46
                                  refine lv_bipush (v := (-3)) hx hb dX7_parted_251 (by decide) ?_
                                  refine zc0_l (w := (zM k q (sA (sA (sA (sI (sI (sI (sI (sA (sA (sA (sA (sA (sA (sA z 4 p_o4) 5 p_o5) 6 p_o6) 7 p_o7) 8 p_o8) 9 p_o9) 10 p_o10) 12 p_o12) 13 p_o13) 14 p_o14) 15 p_o15) 16 p_o16) 17 p_o17) 18 p_o18))) (va_runS (As := [.int (-3)]) (rest := []) ⟨hx, hb, hml, hown, htb⟩ (c_X7_told l dC dI k (-3) _ ) (va_cwS 1 htb (gzS wmt4_116 wmt4_117 wmt1_8 wmt4_118) rfl rfl rfl (by decide +kernel) ⟨Nat.le_of_ble_eq_true rfl, Nat.le_of_ble_eq_true rfl⟩) (zp0_S hK) rfl rfl hl.1 rfl (lv_room (Nat.le_of_ble_eq_true rfl)) dX7_parted_253 ⟨Nat.le_of_ble_eq_true rfl, Nat.le_of_ble_eq_true rfl⟩) hP hS hA (fun r_47 u_48 H locs w_49 hP hS => ?_)
                                  have h_50 := w_49
                                  replace h_50 : r_47.toInt = tl ((-3) : Int32) := h_50
                                  exact W.lret (v := r_47) hx hb hr (fun t ht hW => ⟨⟨r_47, (p_o4, p_o5, p_o6, p_o7, p_o8, p_o9, p_o10, p_o12, p_o13, p_o14, p_o15, p_o16, p_o17, p_o18, z.2.1 0, z.2.1 1, z.1 41), rfl, (show (MD (FR (z.2.2.1 2) (z.2.2.1 3)) p_o4 p_o5 p_o6 p_o7 p_o8 p_o9 p_o10) from hI.2.2.2.2.2), ⟨by rw [ht]; exact hP, hDa _⟩⟩, hS.F ht⟩) hS.2.2 dX7_parted_256
                                · skip
                                  have hc_46 := zb_ne rfl (show (0 : Int32).toInt = 0 by decide) c_46
                                  have hal2 := hal (by omega)
                                  have hmo2 := hmo (hgi (by omega))
                                  refine lv_lload hx hb dX7_parted_244 (lv_at hl 2 rfl) ?_
                                  refine lv_lconst (v := 0) hx hb dX7_parted_246 (by decide) ?_
                                  refine z_lcmp hx hb dX7_parted_247 ?_
                                  refine lv_if_ne (tgt := 257) hx hb dX7_parted_248 (by decide) (fun c_52 => ?_) (fun c_52 => ?_)
                                  · skip
                                    have hc_52 := zl_ne rfl (show (0 : Int64).toInt = 0 by decide) c_52
                                    refine lv_aload_n hx hb dX7_parted_257 rfl (lv_at hl 3 rfl) ?_
                                    refine lv_lload hx hb dX7_parted_258 (lv_at hl 1 rfl) ?_
                                    refine lv_lload hx hb dX7_parted_260 (lv_at hl 2 rfl) ?_
                                    refine lv_aload_n hx hb dX7_parted_262 rfl (lv_at hl 3 rfl) ?_
                                    refine lv_iload_n hx hb dX7_parted_263 rfl (lv_at hl 5 rfl) ?_
                                    refine zcA_l (w := (zM k q (sA (sA (sA (sI (sI (sI (sI (sA (sA (sA (sA (sA (sA (sA z 4 p_o4) 5 p_o5) 6 p_o6) 7 p_o7) 8 p_o8) 9 p_o9) 10 p_o10) 12 p_o12) 13 p_o13) 14 p_o14) 15 p_o15) 16 p_o16) 17 p_o17) 18 p_o18))) (va_runV (As := [.int d]) (rest := [.long al, .long sm, .ref (q 0)]) ⟨hx, hb, hml, hown, htb⟩ (c_X7_more l dC dI k q (sA (sA (sA (sI (sI (sI (sI (sA (sA (sA (sA (sA (sA (sA z 4 p_o4) 5 p_o5) 6 p_o6) 7 p_o7) 8 p_o8) 9 p_o9) 10 p_o10) 12 p_o12) 13 p_o13) 14 p_o14) 15 p_o15) 16 p_o16) 17 p_o17) 18 p_o18) d _ hI (show 0 ≤ d.toInt ∧ d.toInt < 4 by omega) (MD_at (show MD (FR (z.2.2.1 2) (z.2.2.1 3)) p_o4 p_o5 p_o6 p_o7 p_o8 p_o9 p_o10 from hI.2.2.2.2.2) (show 0 ≤ d.toInt ∧ d.toInt < 4 by omega))) (cwV 1 htb (gzV wmt4_213 wmt4_215 wmp3_8 wmt1_8 wmt4_216) rfl rfl rfl (by decide +kernel) ⟨Nat.le_of_ble_eq_true rfl, Nat.le_of_ble_eq_true rfl⟩) (zpA_V (ci := 7) (q0 := 0) hK hP (hDa _) rfl rfl) rfl rfl hl.1 rfl (lv_room (Nat.le_of_ble_eq_true rfl)) dX7_parted_264 ⟨Nat.le_of_ble_eq_true rfl, Nat.le_of_ble_eq_true rfl⟩) (hDa _) hS hA (fun r_53 u_54 H locs w_55 hP _ hS => ?_)
                                    obtain ⟨h_56, h_57⟩ := w_55
                                    replace h_56 : -720000 ≤ r_53.toInt ∧ r_53.toInt ≤ 720000 := h_56
                                    replace h_57 : r_53.toInt = yI (p_o7 d.toNatClampNeg) (p_o8 d.toNatClampNeg) (p_o9 d.toNatClampNeg) (p_o10 d.toNatClampNeg) ((z.1 11)) 1 - yI (p_o7 d.toNatClampNeg) (p_o8 d.toNatClampNeg) (p_o9 d.toNatClampNeg) (p_o10 d.toNatClampNeg) ((z.1 11)) 0 := h_57
                                    refine lv_lmul hx hb dX7_parted_267 ?_
                                    refine lv_topl (fun x_59 ex_59 => ?_)
                                    have qx_59 := z_mulab (a := al.toInt) (b := r_53.toInt) (A := 3996) (B := 720000) (by omega) (by omega) (by decide) (by decide)
                                    have px_59 : al.toInt * r_53.toInt ≠ 0 := Int.mul_ne_zero (by omega) (by omega)
                                    have hx_59 := zl_mul ex_59 rfl rfl (by omega)
                                    refine lv_aload_n hx hb dX7_parted_268 rfl (lv_at hl 3 rfl) ?_
                                    refine lv_iload_n hx hb dX7_parted_269 rfl (lv_at hl 6 rfl) ?_
                                    refine zcA_l (w := (zM k q (sA (sA (sA (sI (sI (sI (sI (sA (sA (sA (sA (sA (sA (sA z 4 p_o4) 5 p_o5) 6 p_o6) 7 p_o7) 8 p_o8) 9 p_o9) 10 p_o10) 12 p_o12) 13 p_o13) 14 p_o14) 15 p_o15) 16 p_o16) 17 p_o17) 18 p_o18))) (va_runV (As := [.int d2]) (rest := [.long x_59, .long sm, .ref (q 0)]) ⟨hx, hb, hml, hown, htb⟩ (c_X7_more l dC dI k q (sA (sA (sA (sI (sI (sI (sI (sA (sA (sA (sA (sA (sA (sA z 4 p_o4) 5 p_o5) 6 p_o6) 7 p_o7) 8 p_o8) 9 p_o9) 10 p_o10) 12 p_o12) 13 p_o13) 14 p_o14) 15 p_o15) 16 p_o16) 17 p_o17) 18 p_o18) d2 _ hI (show 0 ≤ d2.toInt ∧ d2.toInt < 4 by omega) (MD_at (show MD (FR (z.2.2.1 2) (z.2.2.1 3)) p_o4 p_o5 p_o6 p_o7 p_o8 p_o9 p_o10 from hI.2.2.2.2.2) (show 0 ≤ d2.toInt ∧ d2.toInt < 4 by omega))) (cwV 1 htb (gzV wmt4_213 wmt4_215 wmp3_8 wmt1_8 wmt4_216) rfl rfl rfl (by decide +kernel) ⟨Nat.le_of_ble_eq_true rfl, Nat.le_of_ble_eq_true rfl⟩) (zpA_V (ci := 7) (q0 := 0) hK hP (hDa _) rfl rfl) rfl rfl hl.1 rfl (lv_room (Nat.le_of_ble_eq_true rfl)) dX7_parted_270 ⟨Nat.le_of_ble_eq_true rfl, Nat.le_of_ble_eq_true rfl⟩) (hDa _) hS hA (fun r_60 u_61 H locs w_62 hP _ hS => ?_)
                                    obtain ⟨h_63, h_64⟩ := w_62
                                    replace h_63 : -720000 ≤ r_60.toInt ∧ r_60.toInt ≤ 720000 := h_63
                                    replace h_64 : r_60.toInt = yI (p_o7 d2.toNatClampNeg) (p_o8 d2.toNatClampNeg) (p_o9 d2.toNatClampNeg) (p_o10 d2.toNatClampNeg) ((z.1 11)) 1 - yI (p_o7 d2.toNatClampNeg) (p_o8 d2.toNatClampNeg) (p_o9 d2.toNatClampNeg) (p_o10 d2.toNatClampNeg) ((z.1 11)) 0 := h_64
                                    refine lv_lmul hx hb dX7_parted_273 ?_
                                    refine lv_topl (fun x_66 ex_66 => ?_)
                                    have qx_66 := z_mulab (a := x_59.toInt) (b := r_60.toInt) (A := 2877120000) (B := 720000) (by omega) (by omega) (by decide) (by decide)
                                    have px_66 : x_59.toInt * r_60.toInt ≠ 0 := Int.mul_ne_zero (by omega) (by omega)
                                    have hx_66 := zl_mul ex_66 rfl rfl (by omega)
                                    refine zcA_v (w := (zM k q (sA (sA (sA (sI (sI (sI (sI (sA (sA (sA (sA (sA (sA (sA z 4 p_o4) 5 p_o5) 6 p_o6) 7 p_o7) 8 p_o8) 9 p_o9) 10 p_o10) 12 p_o12) 13 p_o13) 14 p_o14) 15 p_o15) 16 p_o16) 17 p_o17) 18 p_o18))) (va_runV (As := [.long sm, .long x_66]) (rest := []) ⟨hx, hb, hml, hown, htb⟩ (c_X7_is l dC dI k q (sA (sA (sA (sI (sI (sI (sI (sA (sA (sA (sA (sA (sA (sA z 4 p_o4) 5 p_o5) 6 p_o6) 7 p_o7) 8 p_o8) 9 p_o9) 10 p_o10) 12 p_o12) 13 p_o13) 14 p_o14) 15 p_o15) 16 p_o16) 17 p_o17) 18 p_o18) sm x_66 _ (show (-4611686018427387904 < sm.toInt ∧ sm.toInt < 4611686018427387904) by omega) (show (-4611686018427387904 < x_66.toInt ∧ x_66.toInt < 4611686018427387904) by omega) (show x_66.toInt ≠ 0 by omega)) (cwV 2 htb (gzV wmt4_129 wmt4_131 wmp3_0 wmt1_8 wmt4_132) rfl rfl rfl (by decide +kernel) ⟨Nat.le_of_ble_eq_true rfl, Nat.le_of_ble_eq_true rfl⟩) (zpA_V (ci := 7) (q0 := 0) hK hP (hDa _) rfl rfl) rfl rfl hl.1 rfl (lv_room (Nat.le_of_ble_eq_true rfl)) dX7_parted_274 ⟨Nat.le_of_ble_eq_true rfl, Nat.le_of_ble_eq_true rfl⟩) (hDa _) hS hA (fun u_68 H locs w_69 hP _ hS => ?_)
                                    obtain ⟨oa_70, ob_71⟩ := u_68
                                    have hP : va_P (dC, dI) vwCl (zM k q (sJ (sJ (sA (sA (sA (sI (sI (sI (sI (sA (sA (sA (sA (sA (sA (sA z 4 p_o4) 5 p_o5) 6 p_o6) 7 p_o7) 8 p_o8) 9 p_o9) 10 p_o10) 12 p_o12) 13 p_o13) 14 p_o14) 15 p_o15) 16 p_o16) 17 p_o17) 18 p_o18) 0 oa_70) 1 ob_71)) H := hP
                                    obtain ⟨h_72, h_73, h_74, h_75, h_76, h_77⟩ := w_69
                                    replace h_72 : 1 ≤ ob_71.toInt ∧ ob_71.toInt ≤ (x_66.toInt.natAbs : Int) := h_72
                                    replace h_73 : (oa_70.toInt.natAbs : Int) ≤ (sm.toInt.natAbs : Int) := h_73
                                    replace h_74 : (0 ≤ sm.toInt → 0 < x_66.toInt → 0 ≤ oa_70.toInt) ∧ (0 < sm.toInt → 0 < x_66.toInt → 1 ≤ oa_70.toInt) := h_74
                                    replace h_75 : ob_71.toInt = ((x_66.toInt.natAbs / Nat.gcd sm.toInt.natAbs x_66.toInt.natAbs : Nat) : Int) := h_75
                                    replace h_76 : oa_70.toInt = sm.toInt.tdiv (if x_66.toInt < 0 then -(Nat.gcd sm.toInt.natAbs x_66.toInt.natAbs : Int) else (Nat.gcd sm.toInt.natAbs x_66.toInt.natAbs : Int)) := h_76
                                    replace h_77 : Hd (0 ≤ sm.toInt → 0 < x_66.toInt → oa_70.toInt = frT sm.toInt x_66.toInt 0 ∧ ob_71.toInt = frT sm.toInt x_66.toInt 1) := h_77
                                    refine lv_aload_n hx hb dX7_parted_277 rfl (lv_at hl 3 rfl) ?_
                                    refine lv_iload hx hb dX7_parted_278 (lv_at hl 8 rfl) ?_
                                    refine zcA_l (w := (zM k q (sJ (sJ (sA (sA (sA (sI (sI (sI (sI (sA (sA (sA (sA (sA (sA (sA z 4 p_o4) 5 p_o5) 6 p_o6) 7 p_o7) 8 p_o8) 9 p_o9) 10 p_o10) 12 p_o12) 13 p_o13) 14 p_o14) 15 p_o15) 16 p_o16) 17 p_o17) 18 p_o18) 0 oa_70) 1 ob_71))) (va_runV (As := [.int w]) (rest := []) ⟨hx, hb, hml, hown, htb⟩ (c_X7_part l dC dI k q (sJ (sJ (sA (sA (sA (sI (sI (sI (sI (sA (sA (sA (sA (sA (sA (sA z 4 p_o4) 5 p_o5) 6 p_o6) 7 p_o7) 8 p_o8) 9 p_o9) 10 p_o10) 12 p_o12) 13 p_o13) 14 p_o14) 15 p_o15) 16 p_o16) 17 p_o17) 18 p_o18) 0 oa_70) 1 ob_71) w _ ) (cwV 1 htb (gzV wmt4_133 wmt4_135 wmp3_1 wmt1_8 wmt4_136) rfl rfl rfl (by decide +kernel) ⟨Nat.le_of_ble_eq_true rfl, Nat.le_of_ble_eq_true rfl⟩) (zpA_V (ci := 7) (q0 := 0) hK hP (hDa _) rfl rfl) rfl rfl hl.1 rfl (lv_room (Nat.le_of_ble_eq_true rfl)) dX7_parted_280 ⟨Nat.le_of_ble_eq_true rfl, Nat.le_of_ble_eq_true rfl⟩) (hDa _) hS hA (fun r_79 u_80 H locs w_81 hP _ hS => ?_)
                                    have h_82 := w_81
                                    replace h_82 : (w.toInt = 0 → r_79 = oa_70) ∧ (¬ w.toInt = 0 → r_79 = ob_71) := h_82
                                    exact W.lret (v := r_79) hx hb hr (fun t ht hW => ⟨⟨r_79, (p_o4, p_o5, p_o6, p_o7, p_o8, p_o9, p_o10, p_o12, p_o13, p_o14, p_o15, p_o16, p_o17, p_o18, oa_70, ob_71, z.1 41), rfl, (show (MD (FR (z.2.2.1 2) (z.2.2.1 3)) p_o4 p_o5 p_o6 p_o7 p_o8 p_o9 p_o10) from hI.2.2.2.2.2), ⟨by rw [ht]; exact hP, hDa _⟩⟩, hS.F ht⟩) hS.2.2 dX7_parted_283
                                  · skip
                                    have hc_52 := zl_eq rfl (show (0 : Int64).toInt = 0 by decide) c_52
                                    refine lv_bipush (v := (-3)) hx hb dX7_parted_251 (by decide) ?_
                                    refine zc0_l (w := (zM k q (sA (sA (sA (sI (sI (sI (sI (sA (sA (sA (sA (sA (sA (sA z 4 p_o4) 5 p_o5) 6 p_o6) 7 p_o7) 8 p_o8) 9 p_o9) 10 p_o10) 12 p_o12) 13 p_o13) 14 p_o14) 15 p_o15) 16 p_o16) 17 p_o17) 18 p_o18))) (va_runS (As := [.int (-3)]) (rest := []) ⟨hx, hb, hml, hown, htb⟩ (c_X7_told l dC dI k (-3) _ ) (va_cwS 1 htb (gzS wmt4_116 wmt4_117 wmt1_8 wmt4_118) rfl rfl rfl (by decide +kernel) ⟨Nat.le_of_ble_eq_true rfl, Nat.le_of_ble_eq_true rfl⟩) (zp0_S hK) rfl rfl hl.1 rfl (lv_room (Nat.le_of_ble_eq_true rfl)) dX7_parted_253 ⟨Nat.le_of_ble_eq_true rfl, Nat.le_of_ble_eq_true rfl⟩) hP hS hA (fun r_84 u_85 H locs w_86 hP hS => ?_)
                                    have h_87 := w_86
                                    replace h_87 : r_84.toInt = tl ((-3) : Int32) := h_87
                                    exact W.lret (v := r_84) hx hb hr (fun t ht hW => ⟨⟨r_84, (p_o4, p_o5, p_o6, p_o7, p_o8, p_o9, p_o10, p_o12, p_o13, p_o14, p_o15, p_o16, p_o17, p_o18, z.2.1 0, z.2.1 1, z.1 41), rfl, (show (MD (FR (z.2.2.1 2) (z.2.2.1 3)) p_o4 p_o5 p_o6 p_o7 p_o8 p_o9 p_o10) from hI.2.2.2.2.2), ⟨by rw [ht]; exact hP, hDa _⟩⟩, hS.F ht⟩) hS.2.2 dX7_parted_256
                              · skip
                                have hc_45 := zb_nle (show (4 : Int32).toInt = 4 by decide) rfl c_45
                                refine lv_iload hx hb dX7_parted_144 (lv_at hl 9 rfl) ?_
                                refine lv_if_eq (tgt := 239) hx hb dX7_parted_146 (by decide) (fun c_89 => ?_) (fun c_89 => ?_)
                                · skip
                                  have hc_89 := zb_eq rfl (show (0 : Int32).toInt = 0 by decide) c_89
                                  refine lv_iload hx hb dX7_parted_239 (lv_at hl 9 rfl) ?_
                                  refine lv_if_eq (tgt := 251) hx hb dX7_parted_241 (by decide) (fun c_90 => ?_) (fun c_90 => ?_)
                                  · skip
                                    have hc_90 := zb_eq rfl (show (0 : Int32).toInt = 0 by decide) c_90
                                    refine lv_bipush (v := (-3)) hx hb dX7_parted_251 (by decide) ?_
                                    refine zc0_l (w := (zM k q (sA (sA (sA (sI (sI (sI (sI (sA (sA (sA (sA (sA (sA (sA z 4 p_o4) 5 p_o5) 6 p_o6) 7 p_o7) 8 p_o8) 9 p_o9) 10 p_o10) 12 p_o12) 13 p_o13) 14 p_o14) 15 p_o15) 16 p_o16) 17 p_o17) 18 p_o18))) (va_runS (As := [.int (-3)]) (rest := []) ⟨hx, hb, hml, hown, htb⟩ (c_X7_told l dC dI k (-3) _ ) (va_cwS 1 htb (gzS wmt4_116 wmt4_117 wmt1_8 wmt4_118) rfl rfl rfl (by decide +kernel) ⟨Nat.le_of_ble_eq_true rfl, Nat.le_of_ble_eq_true rfl⟩) (zp0_S hK) rfl rfl hl.1 rfl (lv_room (Nat.le_of_ble_eq_true rfl)) dX7_parted_253 ⟨Nat.le_of_ble_eq_true rfl, Nat.le_of_ble_eq_true rfl⟩) hP hS hA (fun r_91 u_92 H locs w_93 hP hS => ?_)
                                    have h_94 := w_93
                                    replace h_94 : r_91.toInt = tl ((-3) : Int32) := h_94
                                    exact W.lret (v := r_91) hx hb hr (fun t ht hW => ⟨⟨r_91, (p_o4, p_o5, p_o6, p_o7, p_o8, p_o9, p_o10, p_o12, p_o13, p_o14, p_o15, p_o16, p_o17, p_o18, z.2.1 0, z.2.1 1, z.1 41), rfl, (show (MD (FR (z.2.2.1 2) (z.2.2.1 3)) p_o4 p_o5 p_o6 p_o7 p_o8 p_o9 p_o10) from hI.2.2.2.2.2), ⟨by rw [ht]; exact hP, hDa _⟩⟩, hS.F ht⟩) hS.2.2 dX7_parted_256
                                  · skip
                                    have hc_90 := zb_ne rfl (show (0 : Int32).toInt = 0 by decide) c_90
                                    have hal2 := hal (by omega)
                                    have hmo2 := hmo (hgi (by omega))
                                    refine lv_lload hx hb dX7_parted_244 (lv_at hl 2 rfl) ?_
                                    refine lv_lconst (v := 0) hx hb dX7_parted_246 (by decide) ?_
                                    refine z_lcmp hx hb dX7_parted_247 ?_
                                    refine lv_if_ne (tgt := 257) hx hb dX7_parted_248 (by decide) (fun c_96 => ?_) (fun c_96 => ?_)
                                    · skip
                                      have hc_96 := zl_ne rfl (show (0 : Int64).toInt = 0 by decide) c_96
                                      refine lv_aload_n hx hb dX7_parted_257 rfl (lv_at hl 3 rfl) ?_
                                      refine lv_lload hx hb dX7_parted_258 (lv_at hl 1 rfl) ?_
                                      refine lv_lload hx hb dX7_parted_260 (lv_at hl 2 rfl) ?_
                                      refine lv_aload_n hx hb dX7_parted_262 rfl (lv_at hl 3 rfl) ?_
                                      refine lv_iload_n hx hb dX7_parted_263 rfl (lv_at hl 5 rfl) ?_
                                      refine zcA_l (w := (zM k q (sA (sA (sA (sI (sI (sI (sI (sA (sA (sA (sA (sA (sA (sA z 4 p_o4) 5 p_o5) 6 p_o6) 7 p_o7) 8 p_o8) 9 p_o9) 10 p_o10) 12 p_o12) 13 p_o13) 14 p_o14) 15 p_o15) 16 p_o16) 17 p_o17) 18 p_o18))) (va_runV (As := [.int d]) (rest := [.long al, .long sm, .ref (q 0)]) ⟨hx, hb, hml, hown, htb⟩ (c_X7_more l dC dI k q (sA (sA (sA (sI (sI (sI (sI (sA (sA (sA (sA (sA (sA (sA z 4 p_o4) 5 p_o5) 6 p_o6) 7 p_o7) 8 p_o8) 9 p_o9) 10 p_o10) 12 p_o12) 13 p_o13) 14 p_o14) 15 p_o15) 16 p_o16) 17 p_o17) 18 p_o18) d _ hI (show 0 ≤ d.toInt ∧ d.toInt < 4 by omega) (MD_at (show MD (FR (z.2.2.1 2) (z.2.2.1 3)) p_o4 p_o5 p_o6 p_o7 p_o8 p_o9 p_o10 from hI.2.2.2.2.2) (show 0 ≤ d.toInt ∧ d.toInt < 4 by omega))) (cwV 1 htb (gzV wmt4_213 wmt4_215 wmp3_8 wmt1_8 wmt4_216) rfl rfl rfl (by decide +kernel) ⟨Nat.le_of_ble_eq_true rfl, Nat.le_of_ble_eq_true rfl⟩) (zpA_V (ci := 7) (q0 := 0) hK hP (hDa _) rfl rfl) rfl rfl hl.1 rfl (lv_room (Nat.le_of_ble_eq_true rfl)) dX7_parted_264 ⟨Nat.le_of_ble_eq_true rfl, Nat.le_of_ble_eq_true rfl⟩) (hDa _) hS hA (fun r_97 u_98 H locs w_99 hP _ hS => ?_)
                                      obtain ⟨h_100, h_101⟩ := w_99
                                      replace h_100 : -720000 ≤ r_97.toInt ∧ r_97.toInt ≤ 720000 := h_100
                                      replace h_101 : r_97.toInt = yI (p_o7 d.toNatClampNeg) (p_o8 d.toNatClampNeg) (p_o9 d.toNatClampNeg) (p_o10 d.toNatClampNeg) ((z.1 11)) 1 - yI (p_o7 d.toNatClampNeg) (p_o8 d.toNatClampNeg) (p_o9 d.toNatClampNeg) (p_o10 d.toNatClampNeg) ((z.1 11)) 0 := h_101
                                      refine lv_lmul hx hb dX7_parted_267 ?_
                                      refine lv_topl (fun x_103 ex_103 => ?_)
                                      have qx_103 := z_mulab (a := al.toInt) (b := r_97.toInt) (A := 3996) (B := 720000) (by omega) (by omega) (by decide) (by decide)
                                      have px_103 : al.toInt * r_97.toInt ≠ 0 := Int.mul_ne_zero (by omega) (by omega)
                                      have hx_103 := zl_mul ex_103 rfl rfl (by omega)
                                      refine lv_aload_n hx hb dX7_parted_268 rfl (lv_at hl 3 rfl) ?_
                                      refine lv_iload_n hx hb dX7_parted_269 rfl (lv_at hl 6 rfl) ?_
                                      refine zcA_l (w := (zM k q (sA (sA (sA (sI (sI (sI (sI (sA (sA (sA (sA (sA (sA (sA z 4 p_o4) 5 p_o5) 6 p_o6) 7 p_o7) 8 p_o8) 9 p_o9) 10 p_o10) 12 p_o12) 13 p_o13) 14 p_o14) 15 p_o15) 16 p_o16) 17 p_o17) 18 p_o18))) (va_runV (As := [.int d2]) (rest := [.long x_103, .long sm, .ref (q 0)]) ⟨hx, hb, hml, hown, htb⟩ (c_X7_more l dC dI k q (sA (sA (sA (sI (sI (sI (sI (sA (sA (sA (sA (sA (sA (sA z 4 p_o4) 5 p_o5) 6 p_o6) 7 p_o7) 8 p_o8) 9 p_o9) 10 p_o10) 12 p_o12) 13 p_o13) 14 p_o14) 15 p_o15) 16 p_o16) 17 p_o17) 18 p_o18) d2 _ hI (show 0 ≤ d2.toInt ∧ d2.toInt < 4 by omega) (MD_at (show MD (FR (z.2.2.1 2) (z.2.2.1 3)) p_o4 p_o5 p_o6 p_o7 p_o8 p_o9 p_o10 from hI.2.2.2.2.2) (show 0 ≤ d2.toInt ∧ d2.toInt < 4 by omega))) (cwV 1 htb (gzV wmt4_213 wmt4_215 wmp3_8 wmt1_8 wmt4_216) rfl rfl rfl (by decide +kernel) ⟨Nat.le_of_ble_eq_true rfl, Nat.le_of_ble_eq_true rfl⟩) (zpA_V (ci := 7) (q0 := 0) hK hP (hDa _) rfl rfl) rfl rfl hl.1 rfl (lv_room (Nat.le_of_ble_eq_true rfl)) dX7_parted_270 ⟨Nat.le_of_ble_eq_true rfl, Nat.le_of_ble_eq_true rfl⟩) (hDa _) hS hA (fun r_104 u_105 H locs w_106 hP _ hS => ?_)
                                      obtain ⟨h_107, h_108⟩ := w_106
                                      replace h_107 : -720000 ≤ r_104.toInt ∧ r_104.toInt ≤ 720000 := h_107
                                      replace h_108 : r_104.toInt = yI (p_o7 d2.toNatClampNeg) (p_o8 d2.toNatClampNeg) (p_o9 d2.toNatClampNeg) (p_o10 d2.toNatClampNeg) ((z.1 11)) 1 - yI (p_o7 d2.toNatClampNeg) (p_o8 d2.toNatClampNeg) (p_o9 d2.toNatClampNeg) (p_o10 d2.toNatClampNeg) ((z.1 11)) 0 := h_108
                                      refine lv_lmul hx hb dX7_parted_273 ?_
                                      refine lv_topl (fun x_110 ex_110 => ?_)
                                      have qx_110 := z_mulab (a := x_103.toInt) (b := r_104.toInt) (A := 2877120000) (B := 720000) (by omega) (by omega) (by decide) (by decide)
                                      have px_110 : x_103.toInt * r_104.toInt ≠ 0 := Int.mul_ne_zero (by omega) (by omega)
                                      have hx_110 := zl_mul ex_110 rfl rfl (by omega)
                                      refine zcA_v (w := (zM k q (sA (sA (sA (sI (sI (sI (sI (sA (sA (sA (sA (sA (sA (sA z 4 p_o4) 5 p_o5) 6 p_o6) 7 p_o7) 8 p_o8) 9 p_o9) 10 p_o10) 12 p_o12) 13 p_o13) 14 p_o14) 15 p_o15) 16 p_o16) 17 p_o17) 18 p_o18))) (va_runV (As := [.long sm, .long x_110]) (rest := []) ⟨hx, hb, hml, hown, htb⟩ (c_X7_is l dC dI k q (sA (sA (sA (sI (sI (sI (sI (sA (sA (sA (sA (sA (sA (sA z 4 p_o4) 5 p_o5) 6 p_o6) 7 p_o7) 8 p_o8) 9 p_o9) 10 p_o10) 12 p_o12) 13 p_o13) 14 p_o14) 15 p_o15) 16 p_o16) 17 p_o17) 18 p_o18) sm x_110 _ (show (-4611686018427387904 < sm.toInt ∧ sm.toInt < 4611686018427387904) by omega) (show (-4611686018427387904 < x_110.toInt ∧ x_110.toInt < 4611686018427387904) by omega) (show x_110.toInt ≠ 0 by omega)) (cwV 2 htb (gzV wmt4_129 wmt4_131 wmp3_0 wmt1_8 wmt4_132) rfl rfl rfl (by decide +kernel) ⟨Nat.le_of_ble_eq_true rfl, Nat.le_of_ble_eq_true rfl⟩) (zpA_V (ci := 7) (q0 := 0) hK hP (hDa _) rfl rfl) rfl rfl hl.1 rfl (lv_room (Nat.le_of_ble_eq_true rfl)) dX7_parted_274 ⟨Nat.le_of_ble_eq_true rfl, Nat.le_of_ble_eq_true rfl⟩) (hDa _) hS hA (fun u_112 H locs w_113 hP _ hS => ?_)
                                      obtain ⟨oa_114, ob_115⟩ := u_112
                                      have hP : va_P (dC, dI) vwCl (zM k q (sJ (sJ (sA (sA (sA (sI (sI (sI (sI (sA (sA (sA (sA (sA (sA (sA z 4 p_o4) 5 p_o5) 6 p_o6) 7 p_o7) 8 p_o8) 9 p_o9) 10 p_o10) 12 p_o12) 13 p_o13) 14 p_o14) 15 p_o15) 16 p_o16) 17 p_o17) 18 p_o18) 0 oa_114) 1 ob_115)) H := hP
                                      obtain ⟨h_116, h_117, h_118, h_119, h_120, h_121⟩ := w_113
                                      replace h_116 : 1 ≤ ob_115.toInt ∧ ob_115.toInt ≤ (x_110.toInt.natAbs : Int) := h_116
                                      replace h_117 : (oa_114.toInt.natAbs : Int) ≤ (sm.toInt.natAbs : Int) := h_117
                                      replace h_118 : (0 ≤ sm.toInt → 0 < x_110.toInt → 0 ≤ oa_114.toInt) ∧ (0 < sm.toInt → 0 < x_110.toInt → 1 ≤ oa_114.toInt) := h_118
                                      replace h_119 : ob_115.toInt = ((x_110.toInt.natAbs / Nat.gcd sm.toInt.natAbs x_110.toInt.natAbs : Nat) : Int) := h_119
                                      replace h_120 : oa_114.toInt = sm.toInt.tdiv (if x_110.toInt < 0 then -(Nat.gcd sm.toInt.natAbs x_110.toInt.natAbs : Int) else (Nat.gcd sm.toInt.natAbs x_110.toInt.natAbs : Int)) := h_120
                                      replace h_121 : Hd (0 ≤ sm.toInt → 0 < x_110.toInt → oa_114.toInt = frT sm.toInt x_110.toInt 0 ∧ ob_115.toInt = frT sm.toInt x_110.toInt 1) := h_121
                                      refine lv_aload_n hx hb dX7_parted_277 rfl (lv_at hl 3 rfl) ?_
                                      refine lv_iload hx hb dX7_parted_278 (lv_at hl 8 rfl) ?_
                                      refine zcA_l (w := (zM k q (sJ (sJ (sA (sA (sA (sI (sI (sI (sI (sA (sA (sA (sA (sA (sA (sA z 4 p_o4) 5 p_o5) 6 p_o6) 7 p_o7) 8 p_o8) 9 p_o9) 10 p_o10) 12 p_o12) 13 p_o13) 14 p_o14) 15 p_o15) 16 p_o16) 17 p_o17) 18 p_o18) 0 oa_114) 1 ob_115))) (va_runV (As := [.int w]) (rest := []) ⟨hx, hb, hml, hown, htb⟩ (c_X7_part l dC dI k q (sJ (sJ (sA (sA (sA (sI (sI (sI (sI (sA (sA (sA (sA (sA (sA (sA z 4 p_o4) 5 p_o5) 6 p_o6) 7 p_o7) 8 p_o8) 9 p_o9) 10 p_o10) 12 p_o12) 13 p_o13) 14 p_o14) 15 p_o15) 16 p_o16) 17 p_o17) 18 p_o18) 0 oa_114) 1 ob_115) w _ ) (cwV 1 htb (gzV wmt4_133 wmt4_135 wmp3_1 wmt1_8 wmt4_136) rfl rfl rfl (by decide +kernel) ⟨Nat.le_of_ble_eq_true rfl, Nat.le_of_ble_eq_true rfl⟩) (zpA_V (ci := 7) (q0 := 0) hK hP (hDa _) rfl rfl) rfl rfl hl.1 rfl (lv_room (Nat.le_of_ble_eq_true rfl)) dX7_parted_280 ⟨Nat.le_of_ble_eq_true rfl, Nat.le_of_ble_eq_true rfl⟩) (hDa _) hS hA (fun r_123 u_124 H locs w_125 hP _ hS => ?_)
                                      have h_126 := w_125
                                      replace h_126 : (w.toInt = 0 → r_123 = oa_114) ∧ (¬ w.toInt = 0 → r_123 = ob_115) := h_126
                                      exact W.lret (v := r_123) hx hb hr (fun t ht hW => ⟨⟨r_123, (p_o4, p_o5, p_o6, p_o7, p_o8, p_o9, p_o10, p_o12, p_o13, p_o14, p_o15, p_o16, p_o17, p_o18, oa_114, ob_115, z.1 41), rfl, (show (MD (FR (z.2.2.1 2) (z.2.2.1 3)) p_o4 p_o5 p_o6 p_o7 p_o8 p_o9 p_o10) from hI.2.2.2.2.2), ⟨by rw [ht]; exact hP, hDa _⟩⟩, hS.F ht⟩) hS.2.2 dX7_parted_283
                                    · skip
                                      have hc_96 := zl_eq rfl (show (0 : Int64).toInt = 0 by decide) c_96
                                      refine lv_bipush (v := (-3)) hx hb dX7_parted_251 (by decide) ?_
                                      refine zc0_l (w := (zM k q (sA (sA (sA (sI (sI (sI (sI (sA (sA (sA (sA (sA (sA (sA z 4 p_o4) 5 p_o5) 6 p_o6) 7 p_o7) 8 p_o8) 9 p_o9) 10 p_o10) 12 p_o12) 13 p_o13) 14 p_o14) 15 p_o15) 16 p_o16) 17 p_o17) 18 p_o18))) (va_runS (As := [.int (-3)]) (rest := []) ⟨hx, hb, hml, hown, htb⟩ (c_X7_told l dC dI k (-3) _ ) (va_cwS 1 htb (gzS wmt4_116 wmt4_117 wmt1_8 wmt4_118) rfl rfl rfl (by decide +kernel) ⟨Nat.le_of_ble_eq_true rfl, Nat.le_of_ble_eq_true rfl⟩) (zp0_S hK) rfl rfl hl.1 rfl (lv_room (Nat.le_of_ble_eq_true rfl)) dX7_parted_253 ⟨Nat.le_of_ble_eq_true rfl, Nat.le_of_ble_eq_true rfl⟩) hP hS hA (fun r_128 u_129 H locs w_130 hP hS => ?_)
                                      have h_131 := w_130
                                      replace h_131 : r_128.toInt = tl ((-3) : Int32) := h_131
                                      exact W.lret (v := r_128) hx hb hr (fun t ht hW => ⟨⟨r_128, (p_o4, p_o5, p_o6, p_o7, p_o8, p_o9, p_o10, p_o12, p_o13, p_o14, p_o15, p_o16, p_o17, p_o18, z.2.1 0, z.2.1 1, z.1 41), rfl, (show (MD (FR (z.2.2.1 2) (z.2.2.1 3)) p_o4 p_o5 p_o6 p_o7 p_o8 p_o9 p_o10) from hI.2.2.2.2.2), ⟨by rw [ht]; exact hP, hDa _⟩⟩, hS.F ht⟩) hS.2.2 dX7_parted_256
                                · skip
                                  have hc_89 := zb_ne rfl (show (0 : Int32).toInt = 0 by decide) c_89
                                  have hal1 := hal (by omega)
                                  refine lv_aload_n hx hb dX7_parted_149 rfl (lv_at hl 3 rfl) ?_
                                  refine va_get (D := (dC, dI)) (ci := 7) (v := .ref (q 39)) (C := RX7) (T := TX7) (N := 42) hx hb htb inw7 hown hK.1 hP 0 rfl rfl 39 (by decide) (htb _ wmt3_206) (fun _ h9 => h9) rfl dX7_parted_150 ?_
                                  refine lv_bipush (v := 60) hx hb dX7_parted_153 (by decide) ?_
                                  refine lv_iload_n hx hb dX7_parted_155 rfl (lv_at hl 4 rfl) ?_
                                  refine lv_imul hx hb dX7_parted_156 ?_
                                  refine lv_topi (fun x_133 ex_133 => ?_)
                                  have hx_133 := z_mul ex_133 (show (60 : Int32).toInt = 60 by decide) rfl (by omega)
                                  refine lv_iload hx hb dX7_parted_157 (lv_at hl 0 rfl) ?_
                                  refine lv_iadd hx hb dX7_parted_159 ?_
                                  refine lv_topi (fun x_134 ex_134 => ?_)
                                  have hx_134 := z_add ex_134 rfl rfl (by omega)
                                  refine va_iald (D := (dC, dI)) hx hb hK.1 hP 23 0 rfl rfl (z_in (by omega)) dX7_parted_160 ?_
                                  refine lv_topi (fun x_135 ex_135 => ?_)
                                  replace ex_135 : x_135 = (z.2.2.1 39) x_134.toNatClampNeg := ex_135
                                  refine lv_istore (lv' := [(12, .int x_135), (11, .int k1), (9, .long sm), (7, .long al), (0, .ref (q 0)), (1, .int z0), (2, .int d), (3, .int d2), (4, .int n), (5, .int w), (6, .int g2)]) hx hb dX7_parted_161 hl (by decide) rfl (fun ls hl => ?_)
                                  refine lv_iload hx hb dX7_parted_163 (lv_at hl 0 rfl) ?_
                                  refine lv_iconst (v := 0) hx hb dX7_parted_165 (by decide) ?_
                                  refine lv_sipush (v := 999) hx hb dX7_parted_166 (by decide) ?_
                                  refine zc0_i (w := (zM k q (sA (sA (sA (sI (sI (sI (sI (sA (sA (sA (sA (sA (sA (sA z 4 p_o4) 5 p_o5) 6 p_o6) 7 p_o7) 8 p_o8) 9 p_o9) 10 p_o10) 12 p_o12) 13 p_o13) 14 p_o14) 15 p_o15) 16 p_o16) 17 p_o17) 18 p_o18))) (va_runS (As := [.int x_135, .int 0, .int 999]) (rest := []) ⟨hx, hb, hml, hown, htb⟩ (c_X7_in l dC dI k x_135 0 999 _ ) (va_cwS 3 htb (gzS wmt4_62 wmt4_63 wmt1_8 wmt4_64) rfl rfl rfl (by decide +kernel) ⟨Nat.le_of_ble_eq_true rfl, Nat.le_of_ble_eq_true rfl⟩) (zp0_S hK) rfl rfl hl.1 rfl (lv_room (Nat.le_of_ble_eq_true rfl)) dX7_parted_169 ⟨Nat.le_of_ble_eq_true rfl, Nat.le_of_ble_eq_true rfl⟩) hP hS hA (fun r_136 u_137 H locs w_138 hP hS => ?_)
                                  rcases w_138 with ⟨e_140, h_139⟩ | ⟨e_142, h_141⟩
                                  · skip
                                    replace e_140 : r_136 = 1 := e_140
                                    subst e_140
                                    replace h_139 : (0 : Int32).toInt ≤ x_135.toInt ∧ x_135.toInt ≤ (999 : Int32).toInt := h_139
                                    rw [show (0 : Int32).toInt = 0 by decide, show (999 : Int32).toInt = 999 by decide] at h_139
                                    have hnn := h_139
                                    refine lv_istore (lv' := [(6, .int 1), (12, .int x_135), (11, .int k1), (9, .long sm), (7, .long al), (0, .ref (q 0)), (1, .int z0), (2, .int d), (3, .int d2), (4, .int n), (5, .int w)]) hx hb dX7_parted_172 hl (by decide) rfl (fun ls hl => ?_)
                                    refine lv_lload hx hb dX7_parted_174 (lv_at hl 4 rfl) ?_
                                    refine lv_iload hx hb dX7_parted_176 (lv_at hl 1 rfl) ?_
                                    refine lv_i2l (v := x_135.toInt64) hx hb dX7_parted_178 rfl ?_
                                    refine lv_topl (fun x_143 ex_143 => ?_)
                                    have hx_143 : x_143.toInt = x_135.toInt := by rw [ex_143]; exact Jvm.Kit.i64_of_i32 _
                                    refine lv_ladd hx hb dX7_parted_179 ?_
                                    refine lv_topl (fun x_144 ex_144 => ?_)
                                    have hx_144 := zl_add ex_144 rfl rfl (by omega)
                                    refine lv_lstore (lv' := [(7, .long x_144), (6, .int 1), (12, .int x_135), (11, .int k1), (9, .long sm), (0, .ref (q 0)), (1, .int z0), (2, .int d), (3, .int d2), (4, .int n), (5, .int w)]) hx hb dX7_parted_180 hl (by decide) rfl (fun ls hl => ?_)
                                    refine lv_lload hx hb dX7_parted_182 (lv_at hl 4 rfl) ?_
                                    refine lv_iload hx hb dX7_parted_184 (lv_at hl 2 rfl) ?_
                                    refine lv_i2l (v := x_135.toInt64) hx hb dX7_parted_186 rfl ?_
                                    refine lv_topl (fun x_145 ex_145 => ?_)
                                    have hx_145 : x_145.toInt = x_135.toInt := by rw [ex_145]; exact Jvm.Kit.i64_of_i32 _
                                    refine lv_aload_n hx hb dX7_parted_187 rfl (lv_at hl 5 rfl) ?_
                                    refine lv_iload_n hx hb dX7_parted_188 rfl (lv_at hl 7 rfl) ?_
                                    refine lv_iload hx hb dX7_parted_189 (lv_at hl 9 rfl) ?_
                                    refine lv_iconst (v := 2) hx hb dX7_parted_191 (by decide) ?_
                                    refine lv_idiv hx hb dX7_parted_192 (by decide) ?_
                                    refine lv_topi (fun x_146 ex_146 => ?_)
                                    refine lv_iload hx hb dX7_parted_193 (lv_at hl 3 rfl) ?_
                                    refine lv_iconst (v := 2) hx hb dX7_parted_195 (by decide) ?_
                                    refine lv_icmp_ge (tgt := 203) hx hb dX7_parted_196 (by decide) (fun c_147 => ?_) (fun c_147 => ?_)
                                    · skip
                                      have hc_147 := zb_le (show (2 : Int32).toInt = 2 by decide) rfl c_147
                                      refine lv_iconst (v := 0) hx hb dX7_parted_203 (by decide) ?_
                                      refine zcA_l (w := (zM k q (sA (sA (sA (sI (sI (sI (sI (sA (sA (sA (sA (sA (sA (sA z 4 p_o4) 5 p_o5) 6 p_o6) 7 p_o7) 8 p_o8) 9 p_o9) 10 p_o10) 12 p_o12) 13 p_o13) 14 p_o14) 15 p_o15) 16 p_o16) 17 p_o17) 18 p_o18))) (va_runV (As := [.int d, .int x_146, .int 0]) (rest := [.long x_145, .long sm]) ⟨hx, hb, hml, hown, htb⟩ (c_X7_counts l dC dI k q (sA (sA (sA (sI (sI (sI (sI (sA (sA (sA (sA (sA (sA (sA z 4 p_o4) 5 p_o5) 6 p_o6) 7 p_o7) 8 p_o8) 9 p_o9) 10 p_o10) 12 p_o12) 13 p_o13) 14 p_o14) 15 p_o15) 16 p_o16) 17 p_o17) 18 p_o18) d x_146 0 _ hI (show 0 ≤ d.toInt ∧ d.toInt < 4 by omega) (MD_at (show MD (FR (z.2.2.1 2) (z.2.2.1 3)) p_o4 p_o5 p_o6 p_o7 p_o8 p_o9 p_o10 from hI.2.2.2.2.2) (show 0 ≤ d.toInt ∧ d.toInt < 4 by omega))) (cwV 3 htb (gzV wmt5_86 wmt5_88 wmp4_4 wmt1_8 wmt5_89) rfl rfl rfl (by decide +kernel) ⟨Nat.le_of_ble_eq_true rfl, Nat.le_of_ble_eq_true rfl⟩) (zpA_V (ci := 7) (q0 := 0) hK hP (hDa _) rfl rfl) rfl rfl hl.1 rfl (lv_room (Nat.le_of_ble_eq_true rfl)) dX7_parted_204 ⟨Nat.le_of_ble_eq_true rfl, Nat.le_of_ble_eq_true rfl⟩) (hDa _) hS hA (fun r_148 u_149 H locs w_150 hP _ hS => ?_)
                                      have h_151 := w_150
                                      replace h_151 : -731520 ≤ r_148.toInt ∧ r_148.toInt ≤ 731520 := h_151
                                      refine lv_lmul hx hb dX7_parted_207 ?_
                                      refine lv_topl (fun x_153 ex_153 => ?_)
                                      have qx_153 := z_mulab (a := x_145.toInt) (b := r_148.toInt) (A := 999) (B := 731520) (by omega) (by omega) (by decide) (by decide)
                                      have hx_153 := zl_mul ex_153 rfl rfl (by omega)
                                      refine lv_aload_n hx hb dX7_parted_208 rfl (lv_at hl 5 rfl) ?_
                                      refine lv_iload_n hx hb dX7_parted_209 rfl (lv_at hl 8 rfl) ?_
                                      refine lv_iload hx hb dX7_parted_210 (lv_at hl 9 rfl) ?_
                                      refine lv_iconst (v := 2) hx hb dX7_parted_212 (by decide) ?_
                                      refine lv_irem hx hb dX7_parted_213 (by decide) ?_
                                      refine lv_topi (fun x_154 ex_154 => ?_)
                                      refine lv_iload hx hb dX7_parted_214 (lv_at hl 3 rfl) ?_
                                      refine lv_iconst (v := 2) hx hb dX7_parted_216 (by decide) ?_
                                      refine lv_irem hx hb dX7_parted_217 (by decide) ?_
                                      refine lv_topi (fun x_155 ex_155 => ?_)
                                      refine lv_if_ne (tgt := 225) hx hb dX7_parted_218 (by decide) (fun c_156 => ?_) (fun c_156 => ?_)
                                      · skip
                                        have hc_156 := zb_ne rfl (show (0 : Int32).toInt = 0 by decide) c_156
                                        refine lv_iconst (v := 0) hx hb dX7_parted_225 (by decide) ?_
                                        refine zcA_l (w := (zM k q (sA (sA (sA (sI (sI (sI (sI (sA (sA (sA (sA (sA (sA (sA z 4 p_o4) 5 p_o5) 6 p_o6) 7 p_o7) 8 p_o8) 9 p_o9) 10 p_o10) 12 p_o12) 13 p_o13) 14 p_o14) 15 p_o15) 16 p_o16) 17 p_o17) 18 p_o18))) (va_runV (As := [.int d2, .int x_154, .int 0]) (rest := [.long x_153, .long sm]) ⟨hx, hb, hml, hown, htb⟩ (c_X7_counts l dC dI k q (sA (sA (sA (sI (sI (sI (sI (sA (sA (sA (sA (sA (sA (sA z 4 p_o4) 5 p_o5) 6 p_o6) 7 p_o7) 8 p_o8) 9 p_o9) 10 p_o10) 12 p_o12) 13 p_o13) 14 p_o14) 15 p_o15) 16 p_o16) 17 p_o17) 18 p_o18) d2 x_154 0 _ hI (show 0 ≤ d2.toInt ∧ d2.toInt < 4 by omega) (MD_at (show MD (FR (z.2.2.1 2) (z.2.2.1 3)) p_o4 p_o5 p_o6 p_o7 p_o8 p_o9 p_o10 from hI.2.2.2.2.2) (show 0 ≤ d2.toInt ∧ d2.toInt < 4 by omega))) (cwV 3 htb (gzV wmt5_86 wmt5_88 wmp4_4 wmt1_8 wmt5_89) rfl rfl rfl (by decide +kernel) ⟨Nat.le_of_ble_eq_true rfl, Nat.le_of_ble_eq_true rfl⟩) (zpA_V (ci := 7) (q0 := 0) hK hP (hDa _) rfl rfl) rfl rfl hl.1 rfl (lv_room (Nat.le_of_ble_eq_true rfl)) dX7_parted_226 ⟨Nat.le_of_ble_eq_true rfl, Nat.le_of_ble_eq_true rfl⟩) (hDa _) hS hA (fun r_157 u_158 H locs w_159 hP _ hS => ?_)
                                        have h_160 := w_159
                                        replace h_160 : -731520 ≤ r_157.toInt ∧ r_157.toInt ≤ 731520 := h_160
                                        refine lv_lmul hx hb dX7_parted_229 ?_
                                        refine lv_topl (fun x_162 ex_162 => ?_)
                                        have qx_162 := z_mulab (a := x_153.toInt) (b := r_157.toInt) (A := 730788480) (B := 731520) (by omega) (by omega) (by decide) (by decide)
                                        have hx_162 := zl_mul ex_162 rfl rfl (by omega)
                                        refine lv_ladd hx hb dX7_parted_230 ?_
                                        refine lv_topl (fun x_163 ex_163 => ?_)
                                        have hx_163 := zl_add ex_163 rfl rfl (by omega)
                                        refine lv_lstore (lv' := [(9, .long x_163), (7, .long x_144), (6, .int 1), (12, .int x_135), (11, .int k1), (0, .ref (q 0)), (1, .int z0), (2, .int d), (3, .int d2), (4, .int n), (5, .int w)]) hx hb dX7_parted_231 hl (by decide) rfl (fun ls hl => ?_)
                                        obtain ⟨x_164, ex_164⟩ : ∃ y : Int32, y = k1 + 1 := ⟨_, rfl⟩
                                        have hx_164 : x_164.toInt = k1.toInt + 1 := z_add ex_164 rfl (show (1 : Int32).toInt = 1 by decide) (by omega)
                                        refine lv_iinc (v := x_164) (lv' := [(11, .int x_164), (9, .long x_163), (7, .long x_144), (6, .int 1), (12, .int x_135), (0, .ref (q 0)), (1, .int z0), (2, .int d), (3, .int d2), (4, .int n), (5, .int w)]) hx hb dX7_parted_233 hl (k := 4) rfl (by rw [ex_164]; rfl) (by decide) rfl (fun ls hl => ?_)
                                        refine lv_goto (tgt := 138) hx hb dX7_parted_236 (by decide) ?_
                                        exact ih138 ((4 - x_164.toInt).toNat) (by omega) 1 x_144 x_163 x_164 ⟨(show 0 ≤ x_164.toInt ∧ x_164.toInt ≤ 4 by omega), (by decide), (fun _ => hgi (by omega)), (fun _ => by have q1 := hal (by omega); omega)⟩ rfl H locs ls hP hS (lv_sub hl [0, 1, 2, 5, 6, 7, 8, 9, 10, 3] rfl)
                                      · skip
                                        have hc_156 := zb_eq rfl (show (0 : Int32).toInt = 0 by decide) c_156
                                        refine lv_iconst (v := 1) hx hb dX7_parted_221 (by decide) ?_
                                        refine lv_goto (tgt := 226) hx hb dX7_parted_222 (by decide) ?_
                                        refine zcA_l (w := (zM k q (sA (sA (sA (sI (sI (sI (sI (sA (sA (sA (sA (sA (sA (sA z 4 p_o4) 5 p_o5) 6 p_o6) 7 p_o7) 8 p_o8) 9 p_o9) 10 p_o10) 12 p_o12) 13 p_o13) 14 p_o14) 15 p_o15) 16 p_o16) 17 p_o17) 18 p_o18))) (va_runV (As := [.int d2, .int x_154, .int 1]) (rest := [.long x_153, .long sm]) ⟨hx, hb, hml, hown, htb⟩ (c_X7_counts l dC dI k q (sA (sA (sA (sI (sI (sI (sI (sA (sA (sA (sA (sA (sA (sA z 4 p_o4) 5 p_o5) 6 p_o6) 7 p_o7) 8 p_o8) 9 p_o9) 10 p_o10) 12 p_o12) 13 p_o13) 14 p_o14) 15 p_o15) 16 p_o16) 17 p_o17) 18 p_o18) d2 x_154 1 _ hI (show 0 ≤ d2.toInt ∧ d2.toInt < 4 by omega) (MD_at (show MD (FR (z.2.2.1 2) (z.2.2.1 3)) p_o4 p_o5 p_o6 p_o7 p_o8 p_o9 p_o10 from hI.2.2.2.2.2) (show 0 ≤ d2.toInt ∧ d2.toInt < 4 by omega))) (cwV 3 htb (gzV wmt5_86 wmt5_88 wmp4_4 wmt1_8 wmt5_89) rfl rfl rfl (by decide +kernel) ⟨Nat.le_of_ble_eq_true rfl, Nat.le_of_ble_eq_true rfl⟩) (zpA_V (ci := 7) (q0 := 0) hK hP (hDa _) rfl rfl) rfl rfl hl.1 rfl (lv_room (Nat.le_of_ble_eq_true rfl)) dX7_parted_226 ⟨Nat.le_of_ble_eq_true rfl, Nat.le_of_ble_eq_true rfl⟩) (hDa _) hS hA (fun r_165 u_166 H locs w_167 hP _ hS => ?_)
                                        have h_168 := w_167
                                        replace h_168 : -731520 ≤ r_165.toInt ∧ r_165.toInt ≤ 731520 := h_168
                                        refine lv_lmul hx hb dX7_parted_229 ?_
                                        refine lv_topl (fun x_170 ex_170 => ?_)
                                        have qx_170 := z_mulab (a := x_153.toInt) (b := r_165.toInt) (A := 730788480) (B := 731520) (by omega) (by omega) (by decide) (by decide)
                                        have hx_170 := zl_mul ex_170 rfl rfl (by omega)
                                        refine lv_ladd hx hb dX7_parted_230 ?_
                                        refine lv_topl (fun x_171 ex_171 => ?_)
                                        have hx_171 := zl_add ex_171 rfl rfl (by omega)
                                        refine lv_lstore (lv' := [(9, .long x_171), (7, .long x_144), (6, .int 1), (12, .int x_135), (11, .int k1), (0, .ref (q 0)), (1, .int z0), (2, .int d), (3, .int d2), (4, .int n), (5, .int w)]) hx hb dX7_parted_231 hl (by decide) rfl (fun ls hl => ?_)
                                        obtain ⟨x_172, ex_172⟩ : ∃ y : Int32, y = k1 + 1 := ⟨_, rfl⟩
                                        have hx_172 : x_172.toInt = k1.toInt + 1 := z_add ex_172 rfl (show (1 : Int32).toInt = 1 by decide) (by omega)
                                        refine lv_iinc (v := x_172) (lv' := [(11, .int x_172), (9, .long x_171), (7, .long x_144), (6, .int 1), (12, .int x_135), (0, .ref (q 0)), (1, .int z0), (2, .int d), (3, .int d2), (4, .int n), (5, .int w)]) hx hb dX7_parted_233 hl (k := 4) rfl (by rw [ex_172]; rfl) (by decide) rfl (fun ls hl => ?_)
                                        refine lv_goto (tgt := 138) hx hb dX7_parted_236 (by decide) ?_
                                        exact ih138 ((4 - x_172.toInt).toNat) (by omega) 1 x_144 x_171 x_172 ⟨(show 0 ≤ x_172.toInt ∧ x_172.toInt ≤ 4 by omega), (by decide), (fun _ => hgi (by omega)), (fun _ => by have q1 := hal (by omega); omega)⟩ rfl H locs ls hP hS (lv_sub hl [0, 1, 2, 5, 6, 7, 8, 9, 10, 3] rfl)
                                    · skip
                                      have hc_147 := zb_nle (show (2 : Int32).toInt = 2 by decide) rfl c_147
                                      refine lv_iconst (v := 1) hx hb dX7_parted_199 (by decide) ?_
                                      refine lv_goto (tgt := 204) hx hb dX7_parted_200 (by decide) ?_
                                      refine zcA_l (w := (zM k q (sA (sA (sA (sI (sI (sI (sI (sA (sA (sA (sA (sA (sA (sA z 4 p_o4) 5 p_o5) 6 p_o6) 7 p_o7) 8 p_o8) 9 p_o9) 10 p_o10) 12 p_o12) 13 p_o13) 14 p_o14) 15 p_o15) 16 p_o16) 17 p_o17) 18 p_o18))) (va_runV (As := [.int d, .int x_146, .int 1]) (rest := [.long x_145, .long sm]) ⟨hx, hb, hml, hown, htb⟩ (c_X7_counts l dC dI k q (sA (sA (sA (sI (sI (sI (sI (sA (sA (sA (sA (sA (sA (sA z 4 p_o4) 5 p_o5) 6 p_o6) 7 p_o7) 8 p_o8) 9 p_o9) 10 p_o10) 12 p_o12) 13 p_o13) 14 p_o14) 15 p_o15) 16 p_o16) 17 p_o17) 18 p_o18) d x_146 1 _ hI (show 0 ≤ d.toInt ∧ d.toInt < 4 by omega) (MD_at (show MD (FR (z.2.2.1 2) (z.2.2.1 3)) p_o4 p_o5 p_o6 p_o7 p_o8 p_o9 p_o10 from hI.2.2.2.2.2) (show 0 ≤ d.toInt ∧ d.toInt < 4 by omega))) (cwV 3 htb (gzV wmt5_86 wmt5_88 wmp4_4 wmt1_8 wmt5_89) rfl rfl rfl (by decide +kernel) ⟨Nat.le_of_ble_eq_true rfl, Nat.le_of_ble_eq_true rfl⟩) (zpA_V (ci := 7) (q0 := 0) hK hP (hDa _) rfl rfl) rfl rfl hl.1 rfl (lv_room (Nat.le_of_ble_eq_true rfl)) dX7_parted_204 ⟨Nat.le_of_ble_eq_true rfl, Nat.le_of_ble_eq_true rfl⟩) (hDa _) hS hA (fun r_173 u_174 H locs w_175 hP _ hS => ?_)
                                      have h_176 := w_175
                                      replace h_176 : -731520 ≤ r_173.toInt ∧ r_173.toInt ≤ 731520 := h_176
                                      refine lv_lmul hx hb dX7_parted_207 ?_
                                      refine lv_topl (fun x_178 ex_178 => ?_)
                                      have qx_178 := z_mulab (a := x_145.toInt) (b := r_173.toInt) (A := 999) (B := 731520) (by omega) (by omega) (by decide) (by decide)
                                      have hx_178 := zl_mul ex_178 rfl rfl (by omega)
                                      refine lv_aload_n hx hb dX7_parted_208 rfl (lv_at hl 5 rfl) ?_
                                      refine lv_iload_n hx hb dX7_parted_209 rfl (lv_at hl 8 rfl) ?_
                                      refine lv_iload hx hb dX7_parted_210 (lv_at hl 9 rfl) ?_
                                      refine lv_iconst (v := 2) hx hb dX7_parted_212 (by decide) ?_
                                      refine lv_irem hx hb dX7_parted_213 (by decide) ?_
                                      refine lv_topi (fun x_179 ex_179 => ?_)
                                      refine lv_iload hx hb dX7_parted_214 (lv_at hl 3 rfl) ?_
                                      refine lv_iconst (v := 2) hx hb dX7_parted_216 (by decide) ?_
                                      refine lv_irem hx hb dX7_parted_217 (by decide) ?_
                                      refine lv_topi (fun x_180 ex_180 => ?_)
                                      refine lv_if_ne (tgt := 225) hx hb dX7_parted_218 (by decide) (fun c_181 => ?_) (fun c_181 => ?_)
                                      · skip
                                        have hc_181 := zb_ne rfl (show (0 : Int32).toInt = 0 by decide) c_181
                                        refine lv_iconst (v := 0) hx hb dX7_parted_225 (by decide) ?_
                                        refine zcA_l (w := (zM k q (sA (sA (sA (sI (sI (sI (sI (sA (sA (sA (sA (sA (sA (sA z 4 p_o4) 5 p_o5) 6 p_o6) 7 p_o7) 8 p_o8) 9 p_o9) 10 p_o10) 12 p_o12) 13 p_o13) 14 p_o14) 15 p_o15) 16 p_o16) 17 p_o17) 18 p_o18))) (va_runV (As := [.int d2, .int x_179, .int 0]) (rest := [.long x_178, .long sm]) ⟨hx, hb, hml, hown, htb⟩ (c_X7_counts l dC dI k q (sA (sA (sA (sI (sI (sI (sI (sA (sA (sA (sA (sA (sA (sA z 4 p_o4) 5 p_o5) 6 p_o6) 7 p_o7) 8 p_o8) 9 p_o9) 10 p_o10) 12 p_o12) 13 p_o13) 14 p_o14) 15 p_o15) 16 p_o16) 17 p_o17) 18 p_o18) d2 x_179 0 _ hI (show 0 ≤ d2.toInt ∧ d2.toInt < 4 by omega) (MD_at (show MD (FR (z.2.2.1 2) (z.2.2.1 3)) p_o4 p_o5 p_o6 p_o7 p_o8 p_o9 p_o10 from hI.2.2.2.2.2) (show 0 ≤ d2.toInt ∧ d2.toInt < 4 by omega))) (cwV 3 htb (gzV wmt5_86 wmt5_88 wmp4_4 wmt1_8 wmt5_89) rfl rfl rfl (by decide +kernel) ⟨Nat.le_of_ble_eq_true rfl, Nat.le_of_ble_eq_true rfl⟩) (zpA_V (ci := 7) (q0 := 0) hK hP (hDa _) rfl rfl) rfl rfl hl.1 rfl (lv_room (Nat.le_of_ble_eq_true rfl)) dX7_parted_226 ⟨Nat.le_of_ble_eq_true rfl, Nat.le_of_ble_eq_true rfl⟩) (hDa _) hS hA (fun r_182 u_183 H locs w_184 hP _ hS => ?_)
                                        have h_185 := w_184
                                        replace h_185 : -731520 ≤ r_182.toInt ∧ r_182.toInt ≤ 731520 := h_185
                                        refine lv_lmul hx hb dX7_parted_229 ?_
                                        refine lv_topl (fun x_187 ex_187 => ?_)
                                        have qx_187 := z_mulab (a := x_178.toInt) (b := r_182.toInt) (A := 730788480) (B := 731520) (by omega) (by omega) (by decide) (by decide)
                                        have hx_187 := zl_mul ex_187 rfl rfl (by omega)
                                        refine lv_ladd hx hb dX7_parted_230 ?_
                                        refine lv_topl (fun x_188 ex_188 => ?_)
                                        have hx_188 := zl_add ex_188 rfl rfl (by omega)
                                        refine lv_lstore (lv' := [(9, .long x_188), (7, .long x_144), (6, .int 1), (12, .int x_135), (11, .int k1), (0, .ref (q 0)), (1, .int z0), (2, .int d), (3, .int d2), (4, .int n), (5, .int w)]) hx hb dX7_parted_231 hl (by decide) rfl (fun ls hl => ?_)
                                        obtain ⟨x_189, ex_189⟩ : ∃ y : Int32, y = k1 + 1 := ⟨_, rfl⟩
                                        have hx_189 : x_189.toInt = k1.toInt + 1 := z_add ex_189 rfl (show (1 : Int32).toInt = 1 by decide) (by omega)
                                        refine lv_iinc (v := x_189) (lv' := [(11, .int x_189), (9, .long x_188), (7, .long x_144), (6, .int 1), (12, .int x_135), (0, .ref (q 0)), (1, .int z0), (2, .int d), (3, .int d2), (4, .int n), (5, .int w)]) hx hb dX7_parted_233 hl (k := 4) rfl (by rw [ex_189]; rfl) (by decide) rfl (fun ls hl => ?_)
                                        refine lv_goto (tgt := 138) hx hb dX7_parted_236 (by decide) ?_
                                        exact ih138 ((4 - x_189.toInt).toNat) (by omega) 1 x_144 x_188 x_189 ⟨(show 0 ≤ x_189.toInt ∧ x_189.toInt ≤ 4 by omega), (by decide), (fun _ => hgi (by omega)), (fun _ => by have q1 := hal (by omega); omega)⟩ rfl H locs ls hP hS (lv_sub hl [0, 1, 2, 5, 6, 7, 8, 9, 10, 3] rfl)
                                      · skip
                                        have hc_181 := zb_eq rfl (show (0 : Int32).toInt = 0 by decide) c_181
                                        refine lv_iconst (v := 1) hx hb dX7_parted_221 (by decide) ?_
                                        refine lv_goto (tgt := 226) hx hb dX7_parted_222 (by decide) ?_
                                        refine zcA_l (w := (zM k q (sA (sA (sA (sI (sI (sI (sI (sA (sA (sA (sA (sA (sA (sA z 4 p_o4) 5 p_o5) 6 p_o6) 7 p_o7) 8 p_o8) 9 p_o9) 10 p_o10) 12 p_o12) 13 p_o13) 14 p_o14) 15 p_o15) 16 p_o16) 17 p_o17) 18 p_o18))) (va_runV (As := [.int d2, .int x_179, .int 1]) (rest := [.long x_178, .long sm]) ⟨hx, hb, hml, hown, htb⟩ (c_X7_counts l dC dI k q (sA (sA (sA (sI (sI (sI (sI (sA (sA (sA (sA (sA (sA (sA z 4 p_o4) 5 p_o5) 6 p_o6) 7 p_o7) 8 p_o8) 9 p_o9) 10 p_o10) 12 p_o12) 13 p_o13) 14 p_o14) 15 p_o15) 16 p_o16) 17 p_o17) 18 p_o18) d2 x_179 1 _ hI (show 0 ≤ d2.toInt ∧ d2.toInt < 4 by omega) (MD_at (show MD (FR (z.2.2.1 2) (z.2.2.1 3)) p_o4 p_o5 p_o6 p_o7 p_o8 p_o9 p_o10 from hI.2.2.2.2.2) (show 0 ≤ d2.toInt ∧ d2.toInt < 4 by omega))) (cwV 3 htb (gzV wmt5_86 wmt5_88 wmp4_4 wmt1_8 wmt5_89) rfl rfl rfl (by decide +kernel) ⟨Nat.le_of_ble_eq_true rfl, Nat.le_of_ble_eq_true rfl⟩) (zpA_V (ci := 7) (q0 := 0) hK hP (hDa _) rfl rfl) rfl rfl hl.1 rfl (lv_room (Nat.le_of_ble_eq_true rfl)) dX7_parted_226 ⟨Nat.le_of_ble_eq_true rfl, Nat.le_of_ble_eq_true rfl⟩) (hDa _) hS hA (fun r_190 u_191 H locs w_192 hP _ hS => ?_)
                                        have h_193 := w_192
                                        replace h_193 : -731520 ≤ r_190.toInt ∧ r_190.toInt ≤ 731520 := h_193
                                        refine lv_lmul hx hb dX7_parted_229 ?_
                                        refine lv_topl (fun x_195 ex_195 => ?_)
                                        have qx_195 := z_mulab (a := x_178.toInt) (b := r_190.toInt) (A := 730788480) (B := 731520) (by omega) (by omega) (by decide) (by decide)
                                        have hx_195 := zl_mul ex_195 rfl rfl (by omega)
                                        refine lv_ladd hx hb dX7_parted_230 ?_
                                        refine lv_topl (fun x_196 ex_196 => ?_)
                                        have hx_196 := zl_add ex_196 rfl rfl (by omega)
                                        refine lv_lstore (lv' := [(9, .long x_196), (7, .long x_144), (6, .int 1), (12, .int x_135), (11, .int k1), (0, .ref (q 0)), (1, .int z0), (2, .int d), (3, .int d2), (4, .int n), (5, .int w)]) hx hb dX7_parted_231 hl (by decide) rfl (fun ls hl => ?_)
                                        obtain ⟨x_197, ex_197⟩ : ∃ y : Int32, y = k1 + 1 := ⟨_, rfl⟩
                                        have hx_197 : x_197.toInt = k1.toInt + 1 := z_add ex_197 rfl (show (1 : Int32).toInt = 1 by decide) (by omega)
                                        refine lv_iinc (v := x_197) (lv' := [(11, .int x_197), (9, .long x_196), (7, .long x_144), (6, .int 1), (12, .int x_135), (0, .ref (q 0)), (1, .int z0), (2, .int d), (3, .int d2), (4, .int n), (5, .int w)]) hx hb dX7_parted_233 hl (k := 4) rfl (by rw [ex_197]; rfl) (by decide) rfl (fun ls hl => ?_)
                                        refine lv_goto (tgt := 138) hx hb dX7_parted_236 (by decide) ?_
                                        exact ih138 ((4 - x_197.toInt).toNat) (by omega) 1 x_144 x_196 x_197 ⟨(show 0 ≤ x_197.toInt ∧ x_197.toInt ≤ 4 by omega), (by decide), (fun _ => hgi (by omega)), (fun _ => by have q1 := hal (by omega); omega)⟩ rfl H locs ls hP hS (lv_sub hl [0, 1, 2, 5, 6, 7, 8, 9, 10, 3] rfl)
                                  · skip
                                    replace e_142 : r_136 = 0 := e_142
                                    subst e_142
                                    replace h_141 : ¬ ((0 : Int32).toInt ≤ x_135.toInt ∧ x_135.toInt ≤ (999 : Int32).toInt) := h_141
                                    rw [show (0 : Int32).toInt = 0 by decide, show (999 : Int32).toInt = 999 by decide] at h_141
                                    have hnn := h_141
                                    refine lv_istore (lv' := [(6, .int 0), (12, .int x_135), (11, .int k1), (9, .long sm), (7, .long al), (0, .ref (q 0)), (1, .int z0), (2, .int d), (3, .int d2), (4, .int n), (5, .int w)]) hx hb dX7_parted_172 hl (by decide) rfl (fun ls hl => ?_)
                                    refine lv_lload hx hb dX7_parted_174 (lv_at hl 4 rfl) ?_
                                    refine lv_iload hx hb dX7_parted_176 (lv_at hl 1 rfl) ?_
                                    refine lv_i2l (v := x_135.toInt64) hx hb dX7_parted_178 rfl ?_
                                    refine lv_topl (fun x_198 ex_198 => ?_)
                                    have hx_198 : x_198.toInt = x_135.toInt := by rw [ex_198]; exact Jvm.Kit.i64_of_i32 _
                                    refine lv_ladd hx hb dX7_parted_179 ?_
                                    refine lv_topl (fun x_199 ex_199 => ?_)
                                    refine lv_lstore (lv' := [(7, .long x_199), (6, .int 0), (12, .int x_135), (11, .int k1), (9, .long sm), (0, .ref (q 0)), (1, .int z0), (2, .int d), (3, .int d2), (4, .int n), (5, .int w)]) hx hb dX7_parted_180 hl (by decide) rfl (fun ls hl => ?_)
                                    refine lv_lload hx hb dX7_parted_182 (lv_at hl 4 rfl) ?_
                                    refine lv_iload hx hb dX7_parted_184 (lv_at hl 2 rfl) ?_
                                    refine lv_i2l (v := x_135.toInt64) hx hb dX7_parted_186 rfl ?_
                                    refine lv_topl (fun x_200 ex_200 => ?_)
                                    have hx_200 : x_200.toInt = x_135.toInt := by rw [ex_200]; exact Jvm.Kit.i64_of_i32 _
                                    refine lv_aload_n hx hb dX7_parted_187 rfl (lv_at hl 5 rfl) ?_
                                    refine lv_iload_n hx hb dX7_parted_188 rfl (lv_at hl 7 rfl) ?_
                                    refine lv_iload hx hb dX7_parted_189 (lv_at hl 9 rfl) ?_
                                    refine lv_iconst (v := 2) hx hb dX7_parted_191 (by decide) ?_
                                    refine lv_idiv hx hb dX7_parted_192 (by decide) ?_
                                    refine lv_topi (fun x_201 ex_201 => ?_)
                                    refine lv_iload hx hb dX7_parted_193 (lv_at hl 3 rfl) ?_
                                    refine lv_iconst (v := 2) hx hb dX7_parted_195 (by decide) ?_
                                    refine lv_icmp_ge (tgt := 203) hx hb dX7_parted_196 (by decide) (fun c_202 => ?_) (fun c_202 => ?_)
                                    · skip
                                      have hc_202 := zb_le (show (2 : Int32).toInt = 2 by decide) rfl c_202
                                      refine lv_iconst (v := 0) hx hb dX7_parted_203 (by decide) ?_
                                      refine zcA_l (w := (zM k q (sA (sA (sA (sI (sI (sI (sI (sA (sA (sA (sA (sA (sA (sA z 4 p_o4) 5 p_o5) 6 p_o6) 7 p_o7) 8 p_o8) 9 p_o9) 10 p_o10) 12 p_o12) 13 p_o13) 14 p_o14) 15 p_o15) 16 p_o16) 17 p_o17) 18 p_o18))) (va_runV (As := [.int d, .int x_201, .int 0]) (rest := [.long x_200, .long sm]) ⟨hx, hb, hml, hown, htb⟩ (c_X7_counts l dC dI k q (sA (sA (sA (sI (sI (sI (sI (sA (sA (sA (sA (sA (sA (sA z 4 p_o4) 5 p_o5) 6 p_o6) 7 p_o7) 8 p_o8) 9 p_o9) 10 p_o10) 12 p_o12) 13 p_o13) 14 p_o14) 15 p_o15) 16 p_o16) 17 p_o17) 18 p_o18) d x_201 0 _ hI (show 0 ≤ d.toInt ∧ d.toInt < 4 by omega) (MD_at (show MD (FR (z.2.2.1 2) (z.2.2.1 3)) p_o4 p_o5 p_o6 p_o7 p_o8 p_o9 p_o10 from hI.2.2.2.2.2) (show 0 ≤ d.toInt ∧ d.toInt < 4 by omega))) (cwV 3 htb (gzV wmt5_86 wmt5_88 wmp4_4 wmt1_8 wmt5_89) rfl rfl rfl (by decide +kernel) ⟨Nat.le_of_ble_eq_true rfl, Nat.le_of_ble_eq_true rfl⟩) (zpA_V (ci := 7) (q0 := 0) hK hP (hDa _) rfl rfl) rfl rfl hl.1 rfl (lv_room (Nat.le_of_ble_eq_true rfl)) dX7_parted_204 ⟨Nat.le_of_ble_eq_true rfl, Nat.le_of_ble_eq_true rfl⟩) (hDa _) hS hA (fun r_203 u_204 H locs w_205 hP _ hS => ?_)
                                      have h_206 := w_205
                                      replace h_206 : -731520 ≤ r_203.toInt ∧ r_203.toInt ≤ 731520 := h_206
                                      refine lv_lmul hx hb dX7_parted_207 ?_
                                      refine lv_topl (fun x_208 ex_208 => ?_)
                                      refine lv_aload_n hx hb dX7_parted_208 rfl (lv_at hl 5 rfl) ?_
                                      refine lv_iload_n hx hb dX7_parted_209 rfl (lv_at hl 8 rfl) ?_
                                      refine lv_iload hx hb dX7_parted_210 (lv_at hl 9 rfl) ?_
                                      refine lv_iconst (v := 2) hx hb dX7_parted_212 (by decide) ?_
                                      refine lv_irem hx hb dX7_parted_213 (by decide) ?_
                                      refine lv_topi (fun x_209 ex_209 => ?_)
                                      refine lv_iload hx hb dX7_parted_214 (lv_at hl 3 rfl) ?_
                                      refine lv_iconst (v := 2) hx hb dX7_parted_216 (by decide) ?_
                                      refine lv_irem hx hb dX7_parted_217 (by decide) ?_
                                      refine lv_topi (fun x_210 ex_210 => ?_)
                                      refine lv_if_ne (tgt := 225) hx hb dX7_parted_218 (by decide) (fun c_211 => ?_) (fun c_211 => ?_)
                                      · skip
                                        have hc_211 := zb_ne rfl (show (0 : Int32).toInt = 0 by decide) c_211
                                        refine lv_iconst (v := 0) hx hb dX7_parted_225 (by decide) ?_
                                        refine zcA_l (w := (zM k q (sA (sA (sA (sI (sI (sI (sI (sA (sA (sA (sA (sA (sA (sA z 4 p_o4) 5 p_o5) 6 p_o6) 7 p_o7) 8 p_o8) 9 p_o9) 10 p_o10) 12 p_o12) 13 p_o13) 14 p_o14) 15 p_o15) 16 p_o16) 17 p_o17) 18 p_o18))) (va_runV (As := [.int d2, .int x_209, .int 0]) (rest := [.long x_208, .long sm]) ⟨hx, hb, hml, hown, htb⟩ (c_X7_counts l dC dI k q (sA (sA (sA (sI (sI (sI (sI (sA (sA (sA (sA (sA (sA (sA z 4 p_o4) 5 p_o5) 6 p_o6) 7 p_o7) 8 p_o8) 9 p_o9) 10 p_o10) 12 p_o12) 13 p_o13) 14 p_o14) 15 p_o15) 16 p_o16) 17 p_o17) 18 p_o18) d2 x_209 0 _ hI (show 0 ≤ d2.toInt ∧ d2.toInt < 4 by omega) (MD_at (show MD (FR (z.2.2.1 2) (z.2.2.1 3)) p_o4 p_o5 p_o6 p_o7 p_o8 p_o9 p_o10 from hI.2.2.2.2.2) (show 0 ≤ d2.toInt ∧ d2.toInt < 4 by omega))) (cwV 3 htb (gzV wmt5_86 wmt5_88 wmp4_4 wmt1_8 wmt5_89) rfl rfl rfl (by decide +kernel) ⟨Nat.le_of_ble_eq_true rfl, Nat.le_of_ble_eq_true rfl⟩) (zpA_V (ci := 7) (q0 := 0) hK hP (hDa _) rfl rfl) rfl rfl hl.1 rfl (lv_room (Nat.le_of_ble_eq_true rfl)) dX7_parted_226 ⟨Nat.le_of_ble_eq_true rfl, Nat.le_of_ble_eq_true rfl⟩) (hDa _) hS hA (fun r_212 u_213 H locs w_214 hP _ hS => ?_)
                                        have h_215 := w_214
                                        replace h_215 : -731520 ≤ r_212.toInt ∧ r_212.toInt ≤ 731520 := h_215
                                        refine lv_lmul hx hb dX7_parted_229 ?_
                                        refine lv_topl (fun x_217 ex_217 => ?_)
                                        refine lv_ladd hx hb dX7_parted_230 ?_
                                        refine lv_topl (fun x_218 ex_218 => ?_)
                                        refine lv_lstore (lv' := [(9, .long x_218), (7, .long x_199), (6, .int 0), (12, .int x_135), (11, .int k1), (0, .ref (q 0)), (1, .int z0), (2, .int d), (3, .int d2), (4, .int n), (5, .int w)]) hx hb dX7_parted_231 hl (by decide) rfl (fun ls hl => ?_)
                                        obtain ⟨x_219, ex_219⟩ : ∃ y : Int32, y = k1 + 1 := ⟨_, rfl⟩
                                        have hx_219 : x_219.toInt = k1.toInt + 1 := z_add ex_219 rfl (show (1 : Int32).toInt = 1 by decide) (by omega)
                                        refine lv_iinc (v := x_219) (lv' := [(11, .int x_219), (9, .long x_218), (7, .long x_199), (6, .int 0), (12, .int x_135), (0, .ref (q 0)), (1, .int z0), (2, .int d), (3, .int d2), (4, .int n), (5, .int w)]) hx hb dX7_parted_233 hl (k := 4) rfl (by rw [ex_219]; rfl) (by decide) rfl (fun ls hl => ?_)
                                        refine lv_goto (tgt := 138) hx hb dX7_parted_236 (by decide) ?_
                                        exact ih138 ((4 - x_219.toInt).toNat) (by omega) 0 x_199 x_218 x_219 ⟨(show 0 ≤ x_219.toInt ∧ x_219.toInt ≤ 4 by omega), (by decide), (fun q9 => absurd q9 (by decide)), (fun q9 => absurd q9 (by decide))⟩ rfl H locs ls hP hS (lv_sub hl [0, 1, 2, 5, 6, 7, 8, 9, 10, 3] rfl)
                                      · skip
                                        have hc_211 := zb_eq rfl (show (0 : Int32).toInt = 0 by decide) c_211
                                        refine lv_iconst (v := 1) hx hb dX7_parted_221 (by decide) ?_
                                        refine lv_goto (tgt := 226) hx hb dX7_parted_222 (by decide) ?_
                                        refine zcA_l (w := (zM k q (sA (sA (sA (sI (sI (sI (sI (sA (sA (sA (sA (sA (sA (sA z 4 p_o4) 5 p_o5) 6 p_o6) 7 p_o7) 8 p_o8) 9 p_o9) 10 p_o10) 12 p_o12) 13 p_o13) 14 p_o14) 15 p_o15) 16 p_o16) 17 p_o17) 18 p_o18))) (va_runV (As := [.int d2, .int x_209, .int 1]) (rest := [.long x_208, .long sm]) ⟨hx, hb, hml, hown, htb⟩ (c_X7_counts l dC dI k q (sA (sA (sA (sI (sI (sI (sI (sA (sA (sA (sA (sA (sA (sA z 4 p_o4) 5 p_o5) 6 p_o6) 7 p_o7) 8 p_o8) 9 p_o9) 10 p_o10) 12 p_o12) 13 p_o13) 14 p_o14) 15 p_o15) 16 p_o16) 17 p_o17) 18 p_o18) d2 x_209 1 _ hI (show 0 ≤ d2.toInt ∧ d2.toInt < 4 by omega) (MD_at (show MD (FR (z.2.2.1 2) (z.2.2.1 3)) p_o4 p_o5 p_o6 p_o7 p_o8 p_o9 p_o10 from hI.2.2.2.2.2) (show 0 ≤ d2.toInt ∧ d2.toInt < 4 by omega))) (cwV 3 htb (gzV wmt5_86 wmt5_88 wmp4_4 wmt1_8 wmt5_89) rfl rfl rfl (by decide +kernel) ⟨Nat.le_of_ble_eq_true rfl, Nat.le_of_ble_eq_true rfl⟩) (zpA_V (ci := 7) (q0 := 0) hK hP (hDa _) rfl rfl) rfl rfl hl.1 rfl (lv_room (Nat.le_of_ble_eq_true rfl)) dX7_parted_226 ⟨Nat.le_of_ble_eq_true rfl, Nat.le_of_ble_eq_true rfl⟩) (hDa _) hS hA (fun r_220 u_221 H locs w_222 hP _ hS => ?_)
                                        have h_223 := w_222
                                        replace h_223 : -731520 ≤ r_220.toInt ∧ r_220.toInt ≤ 731520 := h_223
                                        refine lv_lmul hx hb dX7_parted_229 ?_
                                        refine lv_topl (fun x_225 ex_225 => ?_)
                                        refine lv_ladd hx hb dX7_parted_230 ?_
                                        refine lv_topl (fun x_226 ex_226 => ?_)
                                        refine lv_lstore (lv' := [(9, .long x_226), (7, .long x_199), (6, .int 0), (12, .int x_135), (11, .int k1), (0, .ref (q 0)), (1, .int z0), (2, .int d), (3, .int d2), (4, .int n), (5, .int w)]) hx hb dX7_parted_231 hl (by decide) rfl (fun ls hl => ?_)
                                        obtain ⟨x_227, ex_227⟩ : ∃ y : Int32, y = k1 + 1 := ⟨_, rfl⟩
                                        have hx_227 : x_227.toInt = k1.toInt + 1 := z_add ex_227 rfl (show (1 : Int32).toInt = 1 by decide) (by omega)
                                        refine lv_iinc (v := x_227) (lv' := [(11, .int x_227), (9, .long x_226), (7, .long x_199), (6, .int 0), (12, .int x_135), (0, .ref (q 0)), (1, .int z0), (2, .int d), (3, .int d2), (4, .int n), (5, .int w)]) hx hb dX7_parted_233 hl (k := 4) rfl (by rw [ex_227]; rfl) (by decide) rfl (fun ls hl => ?_)
                                        refine lv_goto (tgt := 138) hx hb dX7_parted_236 (by decide) ?_
                                        exact ih138 ((4 - x_227.toInt).toNat) (by omega) 0 x_199 x_226 x_227 ⟨(show 0 ≤ x_227.toInt ∧ x_227.toInt ≤ 4 by omega), (by decide), (fun q9 => absurd q9 (by decide)), (fun q9 => absurd q9 (by decide))⟩ rfl H locs ls hP hS (lv_sub hl [0, 1, 2, 5, 6, 7, 8, 9, 10, 3] rfl)
                                    · skip
                                      have hc_202 := zb_nle (show (2 : Int32).toInt = 2 by decide) rfl c_202
                                      refine lv_iconst (v := 1) hx hb dX7_parted_199 (by decide) ?_
                                      refine lv_goto (tgt := 204) hx hb dX7_parted_200 (by decide) ?_
                                      refine zcA_l (w := (zM k q (sA (sA (sA (sI (sI (sI (sI (sA (sA (sA (sA (sA (sA (sA z 4 p_o4) 5 p_o5) 6 p_o6) 7 p_o7) 8 p_o8) 9 p_o9) 10 p_o10) 12 p_o12) 13 p_o13) 14 p_o14) 15 p_o15) 16 p_o16) 17 p_o17) 18 p_o18))) (va_runV (As := [.int d, .int x_201, .int 1]) (rest := [.long x_200, .long sm]) ⟨hx, hb, hml, hown, htb⟩ (c_X7_counts l dC dI k q (sA (sA (sA (sI (sI (sI (sI (sA (sA (sA (sA (sA (sA (sA z 4 p_o4) 5 p_o5) 6 p_o6) 7 p_o7) 8 p_o8) 9 p_o9) 10 p_o10) 12 p_o12) 13 p_o13) 14 p_o14) 15 p_o15) 16 p_o16) 17 p_o17) 18 p_o18) d x_201 1 _ hI (show 0 ≤ d.toInt ∧ d.toInt < 4 by omega) (MD_at (show MD (FR (z.2.2.1 2) (z.2.2.1 3)) p_o4 p_o5 p_o6 p_o7 p_o8 p_o9 p_o10 from hI.2.2.2.2.2) (show 0 ≤ d.toInt ∧ d.toInt < 4 by omega))) (cwV 3 htb (gzV wmt5_86 wmt5_88 wmp4_4 wmt1_8 wmt5_89) rfl rfl rfl (by decide +kernel) ⟨Nat.le_of_ble_eq_true rfl, Nat.le_of_ble_eq_true rfl⟩) (zpA_V (ci := 7) (q0 := 0) hK hP (hDa _) rfl rfl) rfl rfl hl.1 rfl (lv_room (Nat.le_of_ble_eq_true rfl)) dX7_parted_204 ⟨Nat.le_of_ble_eq_true rfl, Nat.le_of_ble_eq_true rfl⟩) (hDa _) hS hA (fun r_228 u_229 H locs w_230 hP _ hS => ?_)
                                      have h_231 := w_230
                                      replace h_231 : -731520 ≤ r_228.toInt ∧ r_228.toInt ≤ 731520 := h_231
                                      refine lv_lmul hx hb dX7_parted_207 ?_
                                      refine lv_topl (fun x_233 ex_233 => ?_)
                                      refine lv_aload_n hx hb dX7_parted_208 rfl (lv_at hl 5 rfl) ?_
                                      refine lv_iload_n hx hb dX7_parted_209 rfl (lv_at hl 8 rfl) ?_
                                      refine lv_iload hx hb dX7_parted_210 (lv_at hl 9 rfl) ?_
                                      refine lv_iconst (v := 2) hx hb dX7_parted_212 (by decide) ?_
                                      refine lv_irem hx hb dX7_parted_213 (by decide) ?_
                                      refine lv_topi (fun x_234 ex_234 => ?_)
                                      refine lv_iload hx hb dX7_parted_214 (lv_at hl 3 rfl) ?_
                                      refine lv_iconst (v := 2) hx hb dX7_parted_216 (by decide) ?_
                                      refine lv_irem hx hb dX7_parted_217 (by decide) ?_
                                      refine lv_topi (fun x_235 ex_235 => ?_)
                                      refine lv_if_ne (tgt := 225) hx hb dX7_parted_218 (by decide) (fun c_236 => ?_) (fun c_236 => ?_)
                                      · skip
                                        have hc_236 := zb_ne rfl (show (0 : Int32).toInt = 0 by decide) c_236
                                        refine lv_iconst (v := 0) hx hb dX7_parted_225 (by decide) ?_
                                        refine zcA_l (w := (zM k q (sA (sA (sA (sI (sI (sI (sI (sA (sA (sA (sA (sA (sA (sA z 4 p_o4) 5 p_o5) 6 p_o6) 7 p_o7) 8 p_o8) 9 p_o9) 10 p_o10) 12 p_o12) 13 p_o13) 14 p_o14) 15 p_o15) 16 p_o16) 17 p_o17) 18 p_o18))) (va_runV (As := [.int d2, .int x_234, .int 0]) (rest := [.long x_233, .long sm]) ⟨hx, hb, hml, hown, htb⟩ (c_X7_counts l dC dI k q (sA (sA (sA (sI (sI (sI (sI (sA (sA (sA (sA (sA (sA (sA z 4 p_o4) 5 p_o5) 6 p_o6) 7 p_o7) 8 p_o8) 9 p_o9) 10 p_o10) 12 p_o12) 13 p_o13) 14 p_o14) 15 p_o15) 16 p_o16) 17 p_o17) 18 p_o18) d2 x_234 0 _ hI (show 0 ≤ d2.toInt ∧ d2.toInt < 4 by omega) (MD_at (show MD (FR (z.2.2.1 2) (z.2.2.1 3)) p_o4 p_o5 p_o6 p_o7 p_o8 p_o9 p_o10 from hI.2.2.2.2.2) (show 0 ≤ d2.toInt ∧ d2.toInt < 4 by omega))) (cwV 3 htb (gzV wmt5_86 wmt5_88 wmp4_4 wmt1_8 wmt5_89) rfl rfl rfl (by decide +kernel) ⟨Nat.le_of_ble_eq_true rfl, Nat.le_of_ble_eq_true rfl⟩) (zpA_V (ci := 7) (q0 := 0) hK hP (hDa _) rfl rfl) rfl rfl hl.1 rfl (lv_room (Nat.le_of_ble_eq_true rfl)) dX7_parted_226 ⟨Nat.le_of_ble_eq_true rfl, Nat.le_of_ble_eq_true rfl⟩) (hDa _) hS hA (fun r_237 u_238 H locs w_239 hP _ hS => ?_)
                                        have h_240 := w_239
                                        replace h_240 : -731520 ≤ r_237.toInt ∧ r_237.toInt ≤ 731520 := h_240
                                        refine lv_lmul hx hb dX7_parted_229 ?_
                                        refine lv_topl (fun x_242 ex_242 => ?_)
                                        refine lv_ladd hx hb dX7_parted_230 ?_
                                        refine lv_topl (fun x_243 ex_243 => ?_)
                                        refine lv_lstore (lv' := [(9, .long x_243), (7, .long x_199), (6, .int 0), (12, .int x_135), (11, .int k1), (0, .ref (q 0)), (1, .int z0), (2, .int d), (3, .int d2), (4, .int n), (5, .int w)]) hx hb dX7_parted_231 hl (by decide) rfl (fun ls hl => ?_)
                                        obtain ⟨x_244, ex_244⟩ : ∃ y : Int32, y = k1 + 1 := ⟨_, rfl⟩
                                        have hx_244 : x_244.toInt = k1.toInt + 1 := z_add ex_244 rfl (show (1 : Int32).toInt = 1 by decide) (by omega)
                                        refine lv_iinc (v := x_244) (lv' := [(11, .int x_244), (9, .long x_243), (7, .long x_199), (6, .int 0), (12, .int x_135), (0, .ref (q 0)), (1, .int z0), (2, .int d), (3, .int d2), (4, .int n), (5, .int w)]) hx hb dX7_parted_233 hl (k := 4) rfl (by rw [ex_244]; rfl) (by decide) rfl (fun ls hl => ?_)
                                        refine lv_goto (tgt := 138) hx hb dX7_parted_236 (by decide) ?_
                                        exact ih138 ((4 - x_244.toInt).toNat) (by omega) 0 x_199 x_243 x_244 ⟨(show 0 ≤ x_244.toInt ∧ x_244.toInt ≤ 4 by omega), (by decide), (fun q9 => absurd q9 (by decide)), (fun q9 => absurd q9 (by decide))⟩ rfl H locs ls hP hS (lv_sub hl [0, 1, 2, 5, 6, 7, 8, 9, 10, 3] rfl)
                                      · skip
                                        have hc_236 := zb_eq rfl (show (0 : Int32).toInt = 0 by decide) c_236
                                        refine lv_iconst (v := 1) hx hb dX7_parted_221 (by decide) ?_
                                        refine lv_goto (tgt := 226) hx hb dX7_parted_222 (by decide) ?_
                                        refine zcA_l (w := (zM k q (sA (sA (sA (sI (sI (sI (sI (sA (sA (sA (sA (sA (sA (sA z 4 p_o4) 5 p_o5) 6 p_o6) 7 p_o7) 8 p_o8) 9 p_o9) 10 p_o10) 12 p_o12) 13 p_o13) 14 p_o14) 15 p_o15) 16 p_o16) 17 p_o17) 18 p_o18))) (va_runV (As := [.int d2, .int x_234, .int 1]) (rest := [.long x_233, .long sm]) ⟨hx, hb, hml, hown, htb⟩ (c_X7_counts l dC dI k q (sA (sA (sA (sI (sI (sI (sI (sA (sA (sA (sA (sA (sA (sA z 4 p_o4) 5 p_o5) 6 p_o6) 7 p_o7) 8 p_o8) 9 p_o9) 10 p_o10) 12 p_o12) 13 p_o13) 14 p_o14) 15 p_o15) 16 p_o16) 17 p_o17) 18 p_o18) d2 x_234 1 _ hI (show 0 ≤ d2.toInt ∧ d2.toInt < 4 by omega) (MD_at (show MD (FR (z.2.2.1 2) (z.2.2.1 3)) p_o4 p_o5 p_o6 p_o7 p_o8 p_o9 p_o10 from hI.2.2.2.2.2) (show 0 ≤ d2.toInt ∧ d2.toInt < 4 by omega))) (cwV 3 htb (gzV wmt5_86 wmt5_88 wmp4_4 wmt1_8 wmt5_89) rfl rfl rfl (by decide +kernel) ⟨Nat.le_of_ble_eq_true rfl, Nat.le_of_ble_eq_true rfl⟩) (zpA_V (ci := 7) (q0 := 0) hK hP (hDa _) rfl rfl) rfl rfl hl.1 rfl (lv_room (Nat.le_of_ble_eq_true rfl)) dX7_parted_226 ⟨Nat.le_of_ble_eq_true rfl, Nat.le_of_ble_eq_true rfl⟩) (hDa _) hS hA (fun r_245 u_246 H locs w_247 hP _ hS => ?_)
                                        have h_248 := w_247
                                        replace h_248 : -731520 ≤ r_245.toInt ∧ r_245.toInt ≤ 731520 := h_248
                                        refine lv_lmul hx hb dX7_parted_229 ?_
                                        refine lv_topl (fun x_250 ex_250 => ?_)
                                        refine lv_ladd hx hb dX7_parted_230 ?_
                                        refine lv_topl (fun x_251 ex_251 => ?_)
                                        refine lv_lstore (lv' := [(9, .long x_251), (7, .long x_199), (6, .int 0), (12, .int x_135), (11, .int k1), (0, .ref (q 0)), (1, .int z0), (2, .int d), (3, .int d2), (4, .int n), (5, .int w)]) hx hb dX7_parted_231 hl (by decide) rfl (fun ls hl => ?_)
                                        obtain ⟨x_252, ex_252⟩ : ∃ y : Int32, y = k1 + 1 := ⟨_, rfl⟩
                                        have hx_252 : x_252.toInt = k1.toInt + 1 := z_add ex_252 rfl (show (1 : Int32).toInt = 1 by decide) (by omega)
                                        refine lv_iinc (v := x_252) (lv' := [(11, .int x_252), (9, .long x_251), (7, .long x_199), (6, .int 0), (12, .int x_135), (0, .ref (q 0)), (1, .int z0), (2, .int d), (3, .int d2), (4, .int n), (5, .int w)]) hx hb dX7_parted_233 hl (k := 4) rfl (by rw [ex_252]; rfl) (by decide) rfl (fun ls hl => ?_)
                                        refine lv_goto (tgt := 138) hx hb dX7_parted_236 (by decide) ?_
                                        exact ih138 ((4 - x_252.toInt).toNat) (by omega) 0 x_199 x_251 x_252 ⟨(show 0 ≤ x_252.toInt ∧ x_252.toInt ≤ 4 by omega), (by decide), (fun q9 => absurd q9 (by decide)), (fun q9 => absurd q9 (by decide))⟩ rfl H locs ls hP hS (lv_sub hl [0, 1, 2, 5, 6, 7, 8, 9, 10, 3] rfl)
                          · skip
                            refine lv_aload_n hx hb dX7_parted_84 rfl (lv_at hl 0 rfl) ?_
                            refine lv_iload_n hx hb dX7_parted_85 rfl (lv_at hl 2 rfl) ?_
                            refine zcA_i (w := (zM k q z)) (va_runV (As := [.int d]) (rest := []) ⟨hx, hb, hml, hown, htb⟩ (c_X7_faultOf l dC dI k q z d _ hI (show 0 ≤ d.toInt ∧ d.toInt < 4 by omega)) (cwV 1 htb (gzV wmt4_73 wmt4_75 wmp2_6 wmt1_8 wmt4_76) rfl rfl rfl (by decide +kernel) ⟨Nat.le_of_ble_eq_true rfl, Nat.le_of_ble_eq_true rfl⟩) (zpA_V (ci := 7) (q0 := 0) hK hP (hDa _) rfl rfl) rfl rfl hl.1 rfl (lv_room (Nat.le_of_ble_eq_true rfl)) dX7_parted_86 ⟨Nat.le_of_ble_eq_true rfl, Nat.le_of_ble_eq_true rfl⟩) (hDa _) hS hA (fun r_253 u_254 H locs w_255 hP _ hS => ?_)
                            obtain ⟨o4_256, o5_257, o6_258, o7_259, o8_260, o9_261, o10_262, o12_263, o13_264, o14_265, o15_266, o16_267, o17_268, o18_269⟩ := u_254
                            have hP : va_P (dC, dI) vwCl (zM k q (sA (sA (sA (sI (sI (sI (sI (sA (sA (sA (sA (sA (sA (sA z 4 o4_256) 5 o5_257) 6 o6_258) 7 o7_259) 8 o8_260) 9 o9_261) 10 o10_262) 12 o12_263) 13 o13_264) 14 o14_265) 15 o15_266) 16 o16_267) 17 o17_268) 18 o18_269)) H := hP
                            obtain ⟨h_270, h_271, h_272, h_273, h_274⟩ := w_255
                            replace h_270 : MD (FR ((z.2.2.1 2)) ((z.2.2.1 3))) o4_256 o5_257 o6_258 o7_259 o8_260 o9_261 o10_262 := h_270
                            replace h_271 : ¬ o4_256 d.toNatClampNeg = 0 := h_271
                            replace h_272 : RK ((z.2.2.1 4)) ((z.2.2.1 5)) o4_256 o5_257 := h_272
                            replace h_273 : R7 ((z.2.2.1 4)) ((z.2.2.1 6)) ((z.2.2.1 7)) ((z.2.2.1 8)) ((z.2.2.1 9)) ((z.2.2.1 10)) o6_258 o7_259 o8_260 o9_261 o10_262 := h_273
                            replace h_274 : r_253 = o5_257 d.toNatClampNeg := h_274
                            have hI : MInv (sA (sA (sA (sI (sI (sI (sI (sA (sA (sA (sA (sA (sA (sA z 4 o4_256) 5 o5_257) 6 o6_258) 7 o7_259) 8 o8_260) 9 o9_261) 10 o10_262) 12 o12_263) 13 o13_264) 14 o14_265) 15 o15_266) 16 o16_267) 17 o17_268) 18 o18_269) := ⟨hI.1, hI.2.1, hI.2.2.1, hI.2.2.2.1, hI.2.2.2.2.1, h_270⟩
                            have hmsa := MD_at h_270 (show 0 ≤ d.toInt ∧ d.toInt < 4 by omega)
                            have hrda := h_271
                            have hrka := h_272
                            obtain ⟨hwa, hffa, hfFa, hlka⟩ := hmsa.2.2.2.2.2 h_271
                            have hwba := hmsa.1
                            have hr5a : r_253.toInt = (o5_257 d.toNatClampNeg).toInt := by rw [h_274]
                            refine lv_iconst (v := (-1)) hx hb dX7_parted_89 (by decide) ?_
                            refine lv_icmp_ne (tgt := 126) hx hb dX7_parted_90 (by decide) (fun c_276 => ?_) (fun c_276 => ?_)
                            · skip
                              have hc_276 := zb_ne rfl (show ((-1) : Int32).toInt = (-1) by decide) c_276
                              refine lv_iconst (v := 0) hx hb dX7_parted_126 (by decide) ?_
                              refine lv_istore (lv' := [(6, .int 0), (0, .ref (q 0)), (1, .int z0), (2, .int d), (3, .int d2), (4, .int n), (5, .int w)]) hx hb dX7_parted_127 hl (by decide) rfl (fun ls hl => ?_)
                              exact hj129 (0, o4_256, o5_257, o6_258, o7_259, o8_260, o9_261, o10_262, o12_263, o13_264, o14_265, o15_266, o16_267, o17_268, o18_269) H locs ls ⟨hI, (show (0 : Int32).toInt = 0 ∨ (0 : Int32).toInt = 1 from (by decide)), (show (0 : Int32).toInt = 1 → ¬ yI (o7_259 d.toNatClampNeg) (o8_260 d.toNatClampNeg) (o9_261 d.toNatClampNeg) (o10_262 d.toNatClampNeg) (z.1 11) 1 = yI (o7_259 d.toNatClampNeg) (o8_260 d.toNatClampNeg) (o9_261 d.toNatClampNeg) (o10_262 d.toNatClampNeg) (z.1 11) 0 ∧ ¬ yI (o7_259 d2.toNatClampNeg) (o8_260 d2.toNatClampNeg) (o9_261 d2.toNatClampNeg) (o10_262 d2.toNatClampNeg) (z.1 11) 1 = yI (o7_259 d2.toNatClampNeg) (o8_260 d2.toNatClampNeg) (o9_261 d2.toNatClampNeg) (o10_262 d2.toNatClampNeg) (z.1 11) 0 from (fun q9 => absurd q9 (by decide)))⟩ hP hS (lv_sub hl [1, 2, 3, 4, 5, 6, 0] rfl)
                            · skip
                              have hc_276 := zb_eq rfl (show ((-1) : Int32).toInt = (-1) by decide) c_276
                              refine lv_aload_n hx hb dX7_parted_93 rfl (lv_at hl 0 rfl) ?_
                              refine lv_iload_n hx hb dX7_parted_94 rfl (lv_at hl 3 rfl) ?_
                              refine zcA_i (w := (zM k q (sA (sA (sA (sI (sI (sI (sI (sA (sA (sA (sA (sA (sA (sA z 4 o4_256) 5 o5_257) 6 o6_258) 7 o7_259) 8 o8_260) 9 o9_261) 10 o10_262) 12 o12_263) 13 o13_264) 14 o14_265) 15 o15_266) 16 o16_267) 17 o17_268) 18 o18_269))) (va_runV (As := [.int d2]) (rest := []) ⟨hx, hb, hml, hown, htb⟩ (c_X7_faultOf l dC dI k q (sA (sA (sA (sI (sI (sI (sI (sA (sA (sA (sA (sA (sA (sA z 4 o4_256) 5 o5_257) 6 o6_258) 7 o7_259) 8 o8_260) 9 o9_261) 10 o10_262) 12 o12_263) 13 o13_264) 14 o14_265) 15 o15_266) 16 o16_267) 17 o17_268) 18 o18_269) d2 _ hI (show 0 ≤ d2.toInt ∧ d2.toInt < 4 by omega)) (cwV 1 htb (gzV wmt4_73 wmt4_75 wmp2_6 wmt1_8 wmt4_76) rfl rfl rfl (by decide +kernel) ⟨Nat.le_of_ble_eq_true rfl, Nat.le_of_ble_eq_true rfl⟩) (zpA_V (ci := 7) (q0 := 0) hK hP (hDa _) rfl rfl) rfl rfl hl.1 rfl (lv_room (Nat.le_of_ble_eq_true rfl)) dX7_parted_95 ⟨Nat.le_of_ble_eq_true rfl, Nat.le_of_ble_eq_true rfl⟩) (hDa _) hS hA (fun r_277 u_278 H locs w_279 hP _ hS => ?_)
                              obtain ⟨o4_280, o5_281, o6_282, o7_283, o8_284, o9_285, o10_286, o12_287, o13_288, o14_289, o15_290, o16_291, o17_292, o18_293⟩ := u_278
                              have hP : va_P (dC, dI) vwCl (zM k q (sA (sA (sA (sI (sI (sI (sI (sA (sA (sA (sA (sA (sA (sA z 4 o4_280) 5 o5_281) 6 o6_282) 7 o7_283) 8 o8_284) 9 o9_285) 10 o10_286) 12 o12_287) 13 o13_288) 14 o14_289) 15 o15_290) 16 o16_291) 17 o17_292) 18 o18_293)) H := hP
                              obtain ⟨h_294, h_295, h_296, h_297, h_298⟩ := w_279
                              replace h_294 : MD (FR ((z.2.2.1 2)) ((z.2.2.1 3))) o4_280 o5_281 o6_282 o7_283 o8_284 o9_285 o10_286 := h_294
                              replace h_295 : ¬ o4_280 d2.toNatClampNeg = 0 := h_295
                              replace h_296 : RK (o4_256) (o5_257) o4_280 o5_281 := h_296
                              replace h_297 : R7 (o4_256) (o6_258) (o7_259) (o8_260) (o9_261) (o10_262) o6_282 o7_283 o8_284 o9_285 o10_286 := h_297
                              replace h_298 : r_277 = o5_281 d2.toNatClampNeg := h_298
                              have hI : MInv (sA (sA (sA (sI (sI (sI (sI (sA (sA (sA (sA (sA (sA (sA z 4 o4_280) 5 o5_281) 6 o6_282) 7 o7_283) 8 o8_284) 9 o9_285) 10 o10_286) 12 o12_287) 13 o13_288) 14 o14_289) 15 o15_290) 16 o16_291) 17 o17_292) 18 o18_293) := ⟨hI.1, hI.2.1, hI.2.2.1, hI.2.2.2.1, hI.2.2.2.2.1, h_294⟩
                              have hmsb := MD_at h_294 (show 0 ≤ d2.toInt ∧ d2.toInt < 4 by omega)
                              have hrdb := h_295
                              have hrkb := h_296
                              obtain ⟨hwb, hffb, hfFb, hlkb⟩ := hmsb.2.2.2.2.2 h_295
                              have hwbb := hmsb.1
                              have hr5b : r_277.toInt = (o5_281 d2.toNatClampNeg).toInt := by rw [h_298]
                              refine lv_iconst (v := (-1)) hx hb dX7_parted_98 (by decide) ?_
                              refine lv_icmp_ne (tgt := 126) hx hb dX7_parted_99 (by decide) (fun c_300 => ?_) (fun c_300 => ?_)
                              · skip
                                have hc_300 := zb_ne rfl (show ((-1) : Int32).toInt = (-1) by decide) c_300
                                refine lv_iconst (v := 0) hx hb dX7_parted_126 (by decide) ?_
                                refine lv_istore (lv' := [(6, .int 0), (0, .ref (q 0)), (1, .int z0), (2, .int d), (3, .int d2), (4, .int n), (5, .int w)]) hx hb dX7_parted_127 hl (by decide) rfl (fun ls hl => ?_)
                                exact hj129 (0, o4_280, o5_281, o6_282, o7_283, o8_284, o9_285, o10_286, o12_287, o13_288, o14_289, o15_290, o16_291, o17_292, o18_293) H locs ls ⟨hI, (show (0 : Int32).toInt = 0 ∨ (0 : Int32).toInt = 1 from (by decide)), (show (0 : Int32).toInt = 1 → ¬ yI (o7_283 d.toNatClampNeg) (o8_284 d.toNatClampNeg) (o9_285 d.toNatClampNeg) (o10_286 d.toNatClampNeg) (z.1 11) 1 = yI (o7_283 d.toNatClampNeg) (o8_284 d.toNatClampNeg) (o9_285 d.toNatClampNeg) (o10_286 d.toNatClampNeg) (z.1 11) 0 ∧ ¬ yI (o7_283 d2.toNatClampNeg) (o8_284 d2.toNatClampNeg) (o9_285 d2.toNatClampNeg) (o10_286 d2.toNatClampNeg) (z.1 11) 1 = yI (o7_283 d2.toNatClampNeg) (o8_284 d2.toNatClampNeg) (o9_285 d2.toNatClampNeg) (o10_286 d2.toNatClampNeg) (z.1 11) 0 from (fun q9 => absurd q9 (by decide)))⟩ hP hS (lv_sub hl [1, 2, 3, 4, 5, 6, 0] rfl)
                              · skip
                                have hc_300 := zb_eq rfl (show ((-1) : Int32).toInt = (-1) by decide) c_300
                                refine lv_aload_n hx hb dX7_parted_102 rfl (lv_at hl 0 rfl) ?_
                                refine lv_iload_n hx hb dX7_parted_103 rfl (lv_at hl 2 rfl) ?_
                                refine zcA_l (w := (zM k q (sA (sA (sA (sI (sI (sI (sI (sA (sA (sA (sA (sA (sA (sA z 4 o4_280) 5 o5_281) 6 o6_282) 7 o7_283) 8 o8_284) 9 o9_285) 10 o10_286) 12 o12_287) 13 o13_288) 14 o14_289) 15 o15_290) 16 o16_291) 17 o17_292) 18 o18_293))) (va_runV (As := [.int d]) (rest := []) ⟨hx, hb, hml, hown, htb⟩ (c_X7_more l dC dI k q (sA (sA (sA (sI (sI (sI (sI (sA (sA (sA (sA (sA (sA (sA z 4 o4_280) 5 o5_281) 6 o6_282) 7 o7_283) 8 o8_284) 9 o9_285) 10 o10_286) 12 o12_287) 13 o13_288) 14 o14_289) 15 o15_290) 16 o16_291) 17 o17_292) 18 o18_293) d _ hI (show 0 ≤ d.toInt ∧ d.toInt < 4 by omega) (MD_at (show MD (FR (z.2.2.1 2) (z.2.2.1 3)) o4_280 o5_281 o6_282 o7_283 o8_284 o9_285 o10_286 from hI.2.2.2.2.2) (show 0 ≤ d.toInt ∧ d.toInt < 4 by omega))) (cwV 1 htb (gzV wmt4_213 wmt4_215 wmp3_8 wmt1_8 wmt4_216) rfl rfl rfl (by decide +kernel) ⟨Nat.le_of_ble_eq_true rfl, Nat.le_of_ble_eq_true rfl⟩) (zpA_V (ci := 7) (q0 := 0) hK hP (hDa _) rfl rfl) rfl rfl hl.1 rfl (lv_room (Nat.le_of_ble_eq_true rfl)) dX7_parted_104 ⟨Nat.le_of_ble_eq_true rfl, Nat.le_of_ble_eq_true rfl⟩) (hDa _) hS hA (fun r_301 u_302 H locs w_303 hP _ hS => ?_)
                                obtain ⟨h_304, h_305⟩ := w_303
                                replace h_304 : -720000 ≤ r_301.toInt ∧ r_301.toInt ≤ 720000 := h_304
                                replace h_305 : r_301.toInt = yI (o7_283 d.toNatClampNeg) (o8_284 d.toNatClampNeg) (o9_285 d.toNatClampNeg) (o10_286 d.toNatClampNeg) ((z.1 11)) 1 - yI (o7_283 d.toNatClampNeg) (o8_284 d.toNatClampNeg) (o9_285 d.toNatClampNeg) (o10_286 d.toNatClampNeg) ((z.1 11)) 0 := h_305
                                refine lv_lconst (v := 0) hx hb dX7_parted_107 (by decide) ?_
                                refine z_lcmp hx hb dX7_parted_108 ?_
                                refine lv_if_eq (tgt := 126) hx hb dX7_parted_109 (by decide) (fun c_307 => ?_) (fun c_307 => ?_)
                                · skip
                                  have hc_307 := zl_eq rfl (show (0 : Int64).toInt = 0 by decide) c_307
                                  refine lv_iconst (v := 0) hx hb dX7_parted_126 (by decide) ?_
                                  refine lv_istore (lv' := [(6, .int 0), (0, .ref (q 0)), (1, .int z0), (2, .int d), (3, .int d2), (4, .int n), (5, .int w)]) hx hb dX7_parted_127 hl (by decide) rfl (fun ls hl => ?_)
                                  exact hj129 (0, o4_280, o5_281, o6_282, o7_283, o8_284, o9_285, o10_286, o12_287, o13_288, o14_289, o15_290, o16_291, o17_292, o18_293) H locs ls ⟨hI, (show (0 : Int32).toInt = 0 ∨ (0 : Int32).toInt = 1 from (by decide)), (show (0 : Int32).toInt = 1 → ¬ yI (o7_283 d.toNatClampNeg) (o8_284 d.toNatClampNeg) (o9_285 d.toNatClampNeg) (o10_286 d.toNatClampNeg) (z.1 11) 1 = yI (o7_283 d.toNatClampNeg) (o8_284 d.toNatClampNeg) (o9_285 d.toNatClampNeg) (o10_286 d.toNatClampNeg) (z.1 11) 0 ∧ ¬ yI (o7_283 d2.toNatClampNeg) (o8_284 d2.toNatClampNeg) (o9_285 d2.toNatClampNeg) (o10_286 d2.toNatClampNeg) (z.1 11) 1 = yI (o7_283 d2.toNatClampNeg) (o8_284 d2.toNatClampNeg) (o9_285 d2.toNatClampNeg) (o10_286 d2.toNatClampNeg) (z.1 11) 0 from (fun q9 => absurd q9 (by decide)))⟩ hP hS (lv_sub hl [1, 2, 3, 4, 5, 6, 0] rfl)
                                · skip
                                  have hc_307 := zl_ne rfl (show (0 : Int64).toInt = 0 by decide) c_307
                                  refine lv_aload_n hx hb dX7_parted_112 rfl (lv_at hl 0 rfl) ?_
                                  refine lv_iload_n hx hb dX7_parted_113 rfl (lv_at hl 3 rfl) ?_
                                  refine zcA_l (w := (zM k q (sA (sA (sA (sI (sI (sI (sI (sA (sA (sA (sA (sA (sA (sA z 4 o4_280) 5 o5_281) 6 o6_282) 7 o7_283) 8 o8_284) 9 o9_285) 10 o10_286) 12 o12_287) 13 o13_288) 14 o14_289) 15 o15_290) 16 o16_291) 17 o17_292) 18 o18_293))) (va_runV (As := [.int d2]) (rest := []) ⟨hx, hb, hml, hown, htb⟩ (c_X7_more l dC dI k q (sA (sA (sA (sI (sI (sI (sI (sA (sA (sA (sA (sA (sA (sA z 4 o4_280) 5 o5_281) 6 o6_282) 7 o7_283) 8 o8_284) 9 o9_285) 10 o10_286) 12 o12_287) 13 o13_288) 14 o14_289) 15 o15_290) 16 o16_291) 17 o17_292) 18 o18_293) d2 _ hI (show 0 ≤ d2.toInt ∧ d2.toInt < 4 by omega) (MD_at (show MD (FR (z.2.2.1 2) (z.2.2.1 3)) o4_280 o5_281 o6_282 o7_283 o8_284 o9_285 o10_286 from hI.2.2.2.2.2) (show 0 ≤ d2.toInt ∧ d2.toInt < 4 by omega))) (cwV 1 htb (gzV wmt4_213 wmt4_215 wmp3_8 wmt1_8 wmt4_216) rfl rfl rfl (by decide +kernel) ⟨Nat.le_of_ble_eq_true rfl, Nat.le_of_ble_eq_true rfl⟩) (zpA_V (ci := 7) (q0 := 0) hK hP (hDa _) rfl rfl) rfl rfl hl.1 rfl (lv_room (Nat.le_of_ble_eq_true rfl)) dX7_parted_114 ⟨Nat.le_of_ble_eq_true rfl, Nat.le_of_ble_eq_true rfl⟩) (hDa _) hS hA (fun r_308 u_309 H locs w_310 hP _ hS => ?_)
                                  obtain ⟨h_311, h_312⟩ := w_310
                                  replace h_311 : -720000 ≤ r_308.toInt ∧ r_308.toInt ≤ 720000 := h_311
                                  replace h_312 : r_308.toInt = yI (o7_283 d2.toNatClampNeg) (o8_284 d2.toNatClampNeg) (o9_285 d2.toNatClampNeg) (o10_286 d2.toNatClampNeg) ((z.1 11)) 1 - yI (o7_283 d2.toNatClampNeg) (o8_284 d2.toNatClampNeg) (o9_285 d2.toNatClampNeg) (o10_286 d2.toNatClampNeg) ((z.1 11)) 0 := h_312
                                  refine lv_lconst (v := 0) hx hb dX7_parted_117 (by decide) ?_
                                  refine z_lcmp hx hb dX7_parted_118 ?_
                                  refine lv_if_eq (tgt := 126) hx hb dX7_parted_119 (by decide) (fun c_314 => ?_) (fun c_314 => ?_)
                                  · skip
                                    have hc_314 := zl_eq rfl (show (0 : Int64).toInt = 0 by decide) c_314
                                    refine lv_iconst (v := 0) hx hb dX7_parted_126 (by decide) ?_
                                    refine lv_istore (lv' := [(6, .int 0), (0, .ref (q 0)), (1, .int z0), (2, .int d), (3, .int d2), (4, .int n), (5, .int w)]) hx hb dX7_parted_127 hl (by decide) rfl (fun ls hl => ?_)
                                    exact hj129 (0, o4_280, o5_281, o6_282, o7_283, o8_284, o9_285, o10_286, o12_287, o13_288, o14_289, o15_290, o16_291, o17_292, o18_293) H locs ls ⟨hI, (show (0 : Int32).toInt = 0 ∨ (0 : Int32).toInt = 1 from (by decide)), (show (0 : Int32).toInt = 1 → ¬ yI (o7_283 d.toNatClampNeg) (o8_284 d.toNatClampNeg) (o9_285 d.toNatClampNeg) (o10_286 d.toNatClampNeg) (z.1 11) 1 = yI (o7_283 d.toNatClampNeg) (o8_284 d.toNatClampNeg) (o9_285 d.toNatClampNeg) (o10_286 d.toNatClampNeg) (z.1 11) 0 ∧ ¬ yI (o7_283 d2.toNatClampNeg) (o8_284 d2.toNatClampNeg) (o9_285 d2.toNatClampNeg) (o10_286 d2.toNatClampNeg) (z.1 11) 1 = yI (o7_283 d2.toNatClampNeg) (o8_284 d2.toNatClampNeg) (o9_285 d2.toNatClampNeg) (o10_286 d2.toNatClampNeg) (z.1 11) 0 from (fun q9 => absurd q9 (by decide)))⟩ hP hS (lv_sub hl [1, 2, 3, 4, 5, 6, 0] rfl)
                                  · skip
                                    have hc_314 := zl_ne rfl (show (0 : Int64).toInt = 0 by decide) c_314
                                    refine lv_iconst (v := 1) hx hb dX7_parted_122 (by decide) ?_
                                    refine lv_goto (tgt := 127) hx hb dX7_parted_123 (by decide) ?_
                                    refine lv_istore (lv' := [(6, .int 1), (0, .ref (q 0)), (1, .int z0), (2, .int d), (3, .int d2), (4, .int n), (5, .int w)]) hx hb dX7_parted_127 hl (by decide) rfl (fun ls hl => ?_)
                                    exact hj129 (1, o4_280, o5_281, o6_282, o7_283, o8_284, o9_285, o10_286, o12_287, o13_288, o14_289, o15_290, o16_291, o17_292, o18_293) H locs ls ⟨hI, (show (1 : Int32).toInt = 0 ∨ (1 : Int32).toInt = 1 from (by decide)), (show (1 : Int32).toInt = 1 → ¬ yI (o7_283 d.toNatClampNeg) (o8_284 d.toNatClampNeg) (o9_285 d.toNatClampNeg) (o10_286 d.toNatClampNeg) (z.1 11) 1 = yI (o7_283 d.toNatClampNeg) (o8_284 d.toNatClampNeg) (o9_285 d.toNatClampNeg) (o10_286 d.toNatClampNeg) (z.1 11) 0 ∧ ¬ yI (o7_283 d2.toNatClampNeg) (o8_284 d2.toNatClampNeg) (o9_285 d2.toNatClampNeg) (o10_286 d2.toNatClampNeg) (z.1 11) 1 = yI (o7_283 d2.toNatClampNeg) (o8_284 d2.toNatClampNeg) (o9_285 d2.toNatClampNeg) (o10_286 d2.toNatClampNeg) (z.1 11) 0 from (fun _ => ⟨by omega, by omega⟩))⟩ hP hS (lv_sub hl [1, 2, 3, 4, 5, 6, 0] rfl)
                        · skip
                          have hc_44 := zb_nle (show (4 : Int32).toInt = 4 by decide) rfl c_44
                          refine lv_aload_n hx hb dX7_parted_75 rfl (lv_at hl 0 rfl) ?_
                          refine lv_iconst (v := 2) hx hb dX7_parted_76 (by decide) ?_
                          refine zcA_i (w := (zM k q z)) (va_runV (As := [.int 2]) (rest := []) ⟨hx, hb, hml, hown, htb⟩ (c_X7_meets l dC dI k q z 2 _ hI) (cwV 1 htb (gzV wmt4_174 wmt4_176 wmp3_4 wmt1_8 wmt4_177) rfl rfl rfl (by decide +kernel) ⟨Nat.le_of_ble_eq_true rfl, Nat.le_of_ble_eq_true rfl⟩) (zpA_V (ci := 7) (q0 := 0) hK hP (hDa _) rfl rfl) rfl rfl hl.1 rfl (lv_room (Nat.le_of_ble_eq_true rfl)) dX7_parted_77 ⟨Nat.le_of_ble_eq_true rfl, Nat.le_of_ble_eq_true rfl⟩) (hDa _) hS hA (fun r_315 u_316 H locs w_317 hP _ hS => ?_)
                          obtain ⟨o41_318, rfl⟩ : ∃ y, y = u_316 := ⟨_, rfl⟩
                          have hP : va_P (dC, dI) vwCl (zM k q (sI z 41 o41_318)) H := hP
                          obtain ⟨h_319, h_320⟩ := w_317
                          replace h_319 : MInv (sI z 41 o41_318) := h_319
                          replace h_320 : r_315 = (-10) - (2 : Int32) := h_320
                          have hI := h_319
                          refine zc0_l (w := (zM k q (sI z 41 o41_318))) (va_runS (As := [.int r_315]) (rest := []) ⟨hx, hb, hml, hown, htb⟩ (c_X7_told l dC dI k r_315 _ ) (va_cwS 1 htb (gzS wmt4_116 wmt4_117 wmt1_8 wmt4_118) rfl rfl rfl (by decide +kernel) ⟨Nat.le_of_ble_eq_true rfl, Nat.le_of_ble_eq_true rfl⟩) (zp0_S hK) rfl rfl hl.1 rfl (lv_room (Nat.le_of_ble_eq_true rfl)) dX7_parted_80 ⟨Nat.le_of_ble_eq_true rfl, Nat.le_of_ble_eq_true rfl⟩) hP hS hA (fun r_322 u_323 H locs w_324 hP hS => ?_)
                          have h_325 := w_324
                          replace h_325 : r_322.toInt = tl r_315 := h_325
                          exact W.lret (v := r_322) hx hb hr (fun t ht hW => ⟨⟨r_322, (z.2.2.1 4, z.2.2.1 5, z.2.2.1 6, z.2.2.1 7, z.2.2.1 8, z.2.2.1 9, z.2.2.1 10, z.1 12, z.1 13, z.1 14, z.1 15, z.2.2.1 16, z.2.2.1 17, z.2.2.1 18, z.2.1 0, z.2.1 1, o41_318), rfl, (show (MD (FR (z.2.2.1 2) (z.2.2.1 3)) (z.2.2.1 4) (z.2.2.1 5) (z.2.2.1 6) (z.2.2.1 7) (z.2.2.1 8) (z.2.2.1 9) (z.2.2.1 10)) from hI.2.2.2.2.2), ⟨by rw [ht]; exact hP, hDa _⟩⟩, hS.F ht⟩) hS.2.2 dX7_parted_83
                      · skip
                        have hc_42 := zb_eq rfl (show (0 : Int32).toInt = 0 by decide) c_42
                        refine lv_aload_n hx hb dX7_parted_56 rfl (lv_at hl 0 rfl) ?_
                        refine lv_iconst (v := 1) hx hb dX7_parted_57 (by decide) ?_
                        refine zcA_i (w := (zM k q z)) (va_runV (As := [.int 1]) (rest := []) ⟨hx, hb, hml, hown, htb⟩ (c_X7_meets l dC dI k q z 1 _ hI) (cwV 1 htb (gzV wmt4_174 wmt4_176 wmp3_4 wmt1_8 wmt4_177) rfl rfl rfl (by decide +kernel) ⟨Nat.le_of_ble_eq_true rfl, Nat.le_of_ble_eq_true rfl⟩) (zpA_V (ci := 7) (q0 := 0) hK hP (hDa _) rfl rfl) rfl rfl hl.1 rfl (lv_room (Nat.le_of_ble_eq_true rfl)) dX7_parted_58 ⟨Nat.le_of_ble_eq_true rfl, Nat.le_of_ble_eq_true rfl⟩) (hDa _) hS hA (fun r_327 u_328 H locs w_329 hP _ hS => ?_)
                        obtain ⟨o41_330, rfl⟩ : ∃ y, y = u_328 := ⟨_, rfl⟩
                        have hP : va_P (dC, dI) vwCl (zM k q (sI z 41 o41_330)) H := hP
                        obtain ⟨h_331, h_332⟩ := w_329
                        replace h_331 : MInv (sI z 41 o41_330) := h_331
                        replace h_332 : r_327 = (-10) - (1 : Int32) := h_332
                        have hI := h_331
                        refine zc0_l (w := (zM k q (sI z 41 o41_330))) (va_runS (As := [.int r_327]) (rest := []) ⟨hx, hb, hml, hown, htb⟩ (c_X7_told l dC dI k r_327 _ ) (va_cwS 1 htb (gzS wmt4_116 wmt4_117 wmt1_8 wmt4_118) rfl rfl rfl (by decide +kernel) ⟨Nat.le_of_ble_eq_true rfl, Nat.le_of_ble_eq_true rfl⟩) (zp0_S hK) rfl rfl hl.1 rfl (lv_room (Nat.le_of_ble_eq_true rfl)) dX7_parted_61 ⟨Nat.le_of_ble_eq_true rfl, Nat.le_of_ble_eq_true rfl⟩) hP hS hA (fun r_334 u_335 H locs w_336 hP hS => ?_)
                        have h_337 := w_336
                        replace h_337 : r_334.toInt = tl r_327 := h_337
                        exact W.lret (v := r_334) hx hb hr (fun t ht hW => ⟨⟨r_334, (z.2.2.1 4, z.2.2.1 5, z.2.2.1 6, z.2.2.1 7, z.2.2.1 8, z.2.2.1 9, z.2.2.1 10, z.1 12, z.1 13, z.1 14, z.1 15, z.2.2.1 16, z.2.2.1 17, z.2.2.1 18, z.2.1 0, z.2.1 1, o41_330), rfl, (show (MD (FR (z.2.2.1 2) (z.2.2.1 3)) (z.2.2.1 4) (z.2.2.1 5) (z.2.2.1 6) (z.2.2.1 7) (z.2.2.1 8) (z.2.2.1 9) (z.2.2.1 10)) from hI.2.2.2.2.2), ⟨by rw [ht]; exact hP, hDa _⟩⟩, hS.F ht⟩) hS.2.2 dX7_parted_64
                    · skip
                      exact absurd c_40 (by decide)
                  · skip
                    replace e_39 : r_33 = 0 := e_39
                    subst e_39
                    replace h_38 : ¬ ((0 : Int32).toInt ≤ w.toInt ∧ w.toInt ≤ (1 : Int32).toInt) := h_38
                    rw [show (0 : Int32).toInt = 0 by decide, show (1 : Int32).toInt = 1 by decide] at h_38
                    refine lv_if_ne (tgt := 47) hx hb dX7_parted_38 (by decide) (fun c_339 => ?_) (fun c_339 => ?_)
                    · skip
                      exact absurd c_339 (by decide)
                    · skip
                      refine lv_bipush (v := (-2)) hx hb dX7_parted_41 (by decide) ?_
                      refine zc0_l (w := (zM k q z)) (va_runS (As := [.int (-2)]) (rest := []) ⟨hx, hb, hml, hown, htb⟩ (c_X7_told l dC dI k (-2) _ ) (va_cwS 1 htb (gzS wmt4_116 wmt4_117 wmt1_8 wmt4_118) rfl rfl rfl (by decide +kernel) ⟨Nat.le_of_ble_eq_true rfl, Nat.le_of_ble_eq_true rfl⟩) (zp0_S hK) rfl rfl hl.1 rfl (lv_room (Nat.le_of_ble_eq_true rfl)) dX7_parted_43 ⟨Nat.le_of_ble_eq_true rfl, Nat.le_of_ble_eq_true rfl⟩) hP hS hA (fun r_340 u_341 H locs w_342 hP hS => ?_)
                      have h_343 := w_342
                      replace h_343 : r_340.toInt = tl ((-2) : Int32) := h_343
                      exact W.lret (v := r_340) hx hb hr (fun t ht hW => ⟨⟨r_340, (z.2.2.1 4, z.2.2.1 5, z.2.2.1 6, z.2.2.1 7, z.2.2.1 8, z.2.2.1 9, z.2.2.1 10, z.1 12, z.1 13, z.1 14, z.1 15, z.2.2.1 16, z.2.2.1 17, z.2.2.1 18, z.2.1 0, z.2.1 1, z.1 41), rfl, (show (MD (FR (z.2.2.1 2) (z.2.2.1 3)) (z.2.2.1 4) (z.2.2.1 5) (z.2.2.1 6) (z.2.2.1 7) (z.2.2.1 8) (z.2.2.1 9) (z.2.2.1 10)) from hI.2.2.2.2.2), ⟨by rw [ht]; exact hP, hDa _⟩⟩, hS.F ht⟩) hS.2.2 dX7_parted_46
              · skip
                replace e_31 : r_25 = 0 := e_31
                subst e_31
                replace h_30 : ¬ ((0 : Int32).toInt ≤ n.toInt ∧ n.toInt ≤ (3 : Int32).toInt) := h_30
                rw [show (0 : Int32).toInt = 0 by decide, show (3 : Int32).toInt = 3 by decide] at h_30
                refine lv_if_eq (tgt := 41) hx hb dX7_parted_28 (by decide) (fun c_345 => ?_) (fun c_345 => ?_)
                · skip
                  refine lv_bipush (v := (-2)) hx hb dX7_parted_41 (by decide) ?_
                  refine zc0_l (w := (zM k q z)) (va_runS (As := [.int (-2)]) (rest := []) ⟨hx, hb, hml, hown, htb⟩ (c_X7_told l dC dI k (-2) _ ) (va_cwS 1 htb (gzS wmt4_116 wmt4_117 wmt1_8 wmt4_118) rfl rfl rfl (by decide +kernel) ⟨Nat.le_of_ble_eq_true rfl, Nat.le_of_ble_eq_true rfl⟩) (zp0_S hK) rfl rfl hl.1 rfl (lv_room (Nat.le_of_ble_eq_true rfl)) dX7_parted_43 ⟨Nat.le_of_ble_eq_true rfl, Nat.le_of_ble_eq_true rfl⟩) hP hS hA (fun r_346 u_347 H locs w_348 hP hS => ?_)
                  have h_349 := w_348
                  replace h_349 : r_346.toInt = tl ((-2) : Int32) := h_349
                  exact W.lret (v := r_346) hx hb hr (fun t ht hW => ⟨⟨r_346, (z.2.2.1 4, z.2.2.1 5, z.2.2.1 6, z.2.2.1 7, z.2.2.1 8, z.2.2.1 9, z.2.2.1 10, z.1 12, z.1 13, z.1 14, z.1 15, z.2.2.1 16, z.2.2.1 17, z.2.2.1 18, z.2.1 0, z.2.1 1, z.1 41), rfl, (show (MD (FR (z.2.2.1 2) (z.2.2.1 3)) (z.2.2.1 4) (z.2.2.1 5) (z.2.2.1 6) (z.2.2.1 7) (z.2.2.1 8) (z.2.2.1 9) (z.2.2.1 10)) from hI.2.2.2.2.2), ⟨by rw [ht]; exact hP, hDa _⟩⟩, hS.F ht⟩) hS.2.2 dX7_parted_46
                · skip
                  exact absurd (by decide) c_345
          · skip
            replace e_23 : r_17 = 0 := e_23
            subst e_23
            replace h_22 : ¬ (0 ≤ d2.toInt ∧ d2.toInt < 4) := h_22
            refine lv_if_eq (tgt := 41) hx hb dX7_parted_18 (by decide) (fun c_351 => ?_) (fun c_351 => ?_)
            · skip
              refine lv_bipush (v := (-2)) hx hb dX7_parted_41 (by decide) ?_
              refine zc0_l (w := (zM k q z)) (va_runS (As := [.int (-2)]) (rest := []) ⟨hx, hb, hml, hown, htb⟩ (c_X7_told l dC dI k (-2) _ ) (va_cwS 1 htb (gzS wmt4_116 wmt4_117 wmt1_8 wmt4_118) rfl rfl rfl (by decide +kernel) ⟨Nat.le_of_ble_eq_true rfl, Nat.le_of_ble_eq_true rfl⟩) (zp0_S hK) rfl rfl hl.1 rfl (lv_room (Nat.le_of_ble_eq_true rfl)) dX7_parted_43 ⟨Nat.le_of_ble_eq_true rfl, Nat.le_of_ble_eq_true rfl⟩) hP hS hA (fun r_352 u_353 H locs w_354 hP hS => ?_)
              have h_355 := w_354
              replace h_355 : r_352.toInt = tl ((-2) : Int32) := h_355
              exact W.lret (v := r_352) hx hb hr (fun t ht hW => ⟨⟨r_352, (z.2.2.1 4, z.2.2.1 5, z.2.2.1 6, z.2.2.1 7, z.2.2.1 8, z.2.2.1 9, z.2.2.1 10, z.1 12, z.1 13, z.1 14, z.1 15, z.2.2.1 16, z.2.2.1 17, z.2.2.1 18, z.2.1 0, z.2.1 1, z.1 41), rfl, (show (MD (FR (z.2.2.1 2) (z.2.2.1 3)) (z.2.2.1 4) (z.2.2.1 5) (z.2.2.1 6) (z.2.2.1 7) (z.2.2.1 8) (z.2.2.1 9) (z.2.2.1 10)) from hI.2.2.2.2.2), ⟨by rw [ht]; exact hP, hDa _⟩⟩, hS.F ht⟩) hS.2.2 dX7_parted_46
            · skip
              exact absurd (by decide) c_351
      · skip
        replace e_15 : r_9 = 0 := e_15
        subst e_15
        replace h_14 : ¬ (0 ≤ d.toInt ∧ d.toInt < 4) := h_14
        refine lv_if_eq (tgt := 41) hx hb dX7_parted_11 (by decide) (fun c_357 => ?_) (fun c_357 => ?_)
        · skip
          refine lv_bipush (v := (-2)) hx hb dX7_parted_41 (by decide) ?_
          refine zc0_l (w := (zM k q z)) (va_runS (As := [.int (-2)]) (rest := []) ⟨hx, hb, hml, hown, htb⟩ (c_X7_told l dC dI k (-2) _ ) (va_cwS 1 htb (gzS wmt4_116 wmt4_117 wmt1_8 wmt4_118) rfl rfl rfl (by decide +kernel) ⟨Nat.le_of_ble_eq_true rfl, Nat.le_of_ble_eq_true rfl⟩) (zp0_S hK) rfl rfl hl.1 rfl (lv_room (Nat.le_of_ble_eq_true rfl)) dX7_parted_43 ⟨Nat.le_of_ble_eq_true rfl, Nat.le_of_ble_eq_true rfl⟩) hP hS hA (fun r_358 u_359 H locs w_360 hP hS => ?_)
          have h_361 := w_360
          replace h_361 : r_358.toInt = tl ((-2) : Int32) := h_361
          exact W.lret (v := r_358) hx hb hr (fun t ht hW => ⟨⟨r_358, (z.2.2.1 4, z.2.2.1 5, z.2.2.1 6, z.2.2.1 7, z.2.2.1 8, z.2.2.1 9, z.2.2.1 10, z.1 12, z.1 13, z.1 14, z.1 15, z.2.2.1 16, z.2.2.1 17, z.2.2.1 18, z.2.1 0, z.2.1 1, z.1 41), rfl, (show (MD (FR (z.2.2.1 2) (z.2.2.1 3)) (z.2.2.1 4) (z.2.2.1 5) (z.2.2.1 6) (z.2.2.1 7) (z.2.2.1 8) (z.2.2.1 9) (z.2.2.1 10)) from hI.2.2.2.2.2), ⟨by rw [ht]; exact hP, hDa _⟩⟩, hS.F ht⟩) hS.2.2 dX7_parted_46
        · skip
          exact absurd (by decide) c_357
  · skip
    replace e_7 : r_1 = 0 := e_7
    subst e_7
    replace h_6 : ¬ (0 ≤ z0.toInt ∧ z0.toInt < 4) := h_6
    refine lv_if_eq (tgt := 41) hx hb dX7_parted_4 (by decide) (fun c_363 => ?_) (fun c_363 => ?_)
    · skip
      refine lv_bipush (v := (-2)) hx hb dX7_parted_41 (by decide) ?_
      refine zc0_l (w := (zM k q z)) (va_runS (As := [.int (-2)]) (rest := []) ⟨hx, hb, hml, hown, htb⟩ (c_X7_told l dC dI k (-2) _ ) (va_cwS 1 htb (gzS wmt4_116 wmt4_117 wmt1_8 wmt4_118) rfl rfl rfl (by decide +kernel) ⟨Nat.le_of_ble_eq_true rfl, Nat.le_of_ble_eq_true rfl⟩) (zp0_S hK) rfl rfl hl.1 rfl (lv_room (Nat.le_of_ble_eq_true rfl)) dX7_parted_43 ⟨Nat.le_of_ble_eq_true rfl, Nat.le_of_ble_eq_true rfl⟩) hP hS hA (fun r_364 u_365 H locs w_366 hP hS => ?_)
      have h_367 := w_366
      replace h_367 : r_364.toInt = tl ((-2) : Int32) := h_367
      exact W.lret (v := r_364) hx hb hr (fun t ht hW => ⟨⟨r_364, (z.2.2.1 4, z.2.2.1 5, z.2.2.1 6, z.2.2.1 7, z.2.2.1 8, z.2.2.1 9, z.2.2.1 10, z.1 12, z.1 13, z.1 14, z.1 15, z.2.2.1 16, z.2.2.1 17, z.2.2.1 18, z.2.1 0, z.2.1 1, z.1 41), rfl, (show (MD (FR (z.2.2.1 2) (z.2.2.1 3)) (z.2.2.1 4) (z.2.2.1 5) (z.2.2.1 6) (z.2.2.1 7) (z.2.2.1 8) (z.2.2.1 9) (z.2.2.1 10)) from hI.2.2.2.2.2), ⟨by rw [ht]; exact hP, hDa _⟩⟩, hS.F ht⟩) hS.2.2 dX7_parted_46
    · skip
      exact absurd (by decide) c_363
