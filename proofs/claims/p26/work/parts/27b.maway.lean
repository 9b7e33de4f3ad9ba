set_option maxHeartbeats 4000000 in
set_option maxRecDepth 100000 in
theorem c_X7_away (l : Launch) (dC : Nat → ClassId) (dI : Nat → Nat → Nat) (k : Nat → ClassId) (q : Nat → Nat) (z : ZS) (d : Int32) (y : Int32) (w : Int32) (sz : Nat) (hI : MInv z) : Met l yX7_away (wz yX7_away cX7_away 4 (some .long)) ({ frames := 5, cells := 0, slots := 0, locals := 114 }) (va_Pc [.ref (q 0), .int d, .int y, .int w] (zPre dC dI k (zTX k) (zM k q z) sz)) (va_Ql (fun (r : Int64) (u : (Nat → Int32) × (Nat → Int32) × (Nat → Int32) × (Nat → Int32) × (Nat → Int32) × (Nat → Int32) × (Nat → Int32) × Int32 × Int32 × Int32 × Int32 × (Nat → Int32) × (Nat → Int32) × (Nat → Int32) × Int64 × Int64) => (MD (FR (z.2.2.1 2) (z.2.2.1 3)) u.1 u.2.1 u.2.2.1 u.2.2.2.1 u.2.2.2.2.1 u.2.2.2.2.2.1 u.2.2.2.2.2.2.1) ∧ (r.toInt = tAway (trM z) d y w)) (fun u t => zPost dC dI (va_A (zM k q z) sz) (zM k q (sJ (sJ (sA (sA (sA (sI (sI (sI (sI (sA (sA (sA (sA (sA (sA (sA z 4 u.1) 5 u.2.1) 6 u.2.2.1) 7 u.2.2.2.1) 8 u.2.2.2.2.1) 9 u.2.2.2.2.2.1) 10 u.2.2.2.2.2.2.1) 12 u.2.2.2.2.2.2.2.1) 13 u.2.2.2.2.2.2.2.2.1) 14 u.2.2.2.2.2.2.2.2.2.1) 15 u.2.2.2.2.2.2.2.2.2.2.1) 16 u.2.2.2.2.2.2.2.2.2.2.2.1) 17 u.2.2.2.2.2.2.2.2.2.2.2.2.1) 18 u.2.2.2.2.2.2.2.2.2.2.2.2.2.1) 0 u.2.2.2.2.2.2.2.2.2.2.2.2.2.2.1) 1 u.2.2.2.2.2.2.2.2.2.2.2.2.2.2.2)) t) (va_A (zM k q z) sz)) 0 0 (va_A (zM k q z) sz) := by
  refine Met.ofW (cc := cX7_away) (maxL := 4) (ret := (some .long)) (by decide) rfl ?_
  intro p e s m args below meth c s₁ B hml hv
  obtain ⟨rfl, hsz, hP, hK, hD0⟩ := hv
  have hx := B.exec
  have hb := B.bytes
  have hr := B.returns
  have hts := atoms_spec (ws := wz yX7_away cX7_away 4 (some .long)) B.pre
  have htb : ∀ w ∈ zw, w.before _ s = true := fun w h => hts w (List.mem_cons_of_mem _ h)
  have hown : s.vm.findClass RX7 = some m.cls := findClass_of_methodNamed B.named
  have hlocks := B.notSynchronized
  clear hts
  subst hsz
  have hD := hD0.self (sz := s.heap.size)
  generalize hAe : va_A (zM k q z) s.heap.size = A at hD ⊢
  have hA : ∀ q : Nat, s.heap.size ≤ q → A q := fun q h => by rw [← hAe]; exact Or.inr h
  have hDa : ∀ z9 : ZS, va_D A (zM k q z9) := fun z9 => va_D_adr (w := zM k q z) rfl hD
  have hl := lv_entry ([.ref (q 0), .int d, .int y, .int w]) (n := 4) (Nat.le_of_ble_eq_true rfl)
  rw [lg_entry_eq]
  generalize (lg_sl ([.ref (q 0), .int d, .int y, .int w]) ++ List.replicate (4 - (lg_sl ([.ref (q 0), .int d, .int y, .int w])).length) Slot.unset).toArray = ls at hl ⊢
  have hl : lv_has ls 4 [(0, .ref (q 0)), (1, .int d), (2, .int y), (3, .int w)] := hl
  refine z_start2 (A := A) (w := (zM k q z)) hP (fun H locs hP hS => ?_)
  clear hD0 hAe
  refine lv_iload_n hx hb dX7_away_0 rfl (lv_at hl 1 rfl) ?_
  refine zc0_i (w := (zM k q z)) (va_runS (As := [.int d]) (rest := []) ⟨hx, hb, hml, hown, htb⟩ (c_X7_isDesign l dC dI k d _ ) (va_cwS 1 htb (gzS wmt4_59 wmt4_60 wmt1_8 wmt4_61) rfl rfl rfl (by decide +kernel) ⟨Nat.le_of_ble_eq_true rfl, Nat.le_of_ble_eq_true rfl⟩) (zp0_S hK) rfl rfl hl.1 rfl (lv_room (Nat.le_of_ble_eq_true rfl)) dX7_away_1 ⟨Nat.le_of_ble_eq_true rfl, Nat.le_of_ble_eq_true rfl⟩) hP hS hA (fun r_1 u_2 H locs w_3 hP hS => ?_)
  rcases w_3 with ⟨e_5, h_4⟩ | ⟨e_7, h_6⟩
  · skip
    replace e_5 : r_1 = 1 := e_5
    subst e_5
    replace h_4 : 0 ≤ d.toInt ∧ d.toInt < 4 := h_4
    refine lv_if_eq (tgt := 25) hx hb dX7_away_4 (by decide) (fun c_8 => ?_) (fun c_8 => ?_)
    · skip
      exact absurd c_8 (by decide)
    · skip
      refine lv_iload_n hx hb dX7_away_7 rfl (lv_at hl 2 rfl) ?_
      refine lv_iconst (v := 0) hx hb dX7_away_8 (by decide) ?_
      refine lv_iconst (v := 1) hx hb dX7_away_9 (by decide) ?_
      refine zc0_i (w := (zM k q z)) (va_runS (As := [.int y, .int 0, .int 1]) (rest := []) ⟨hx, hb, hml, hown, htb⟩ (c_X7_in l dC dI k y 0 1 _ ) (va_cwS 3 htb (gzS wmt4_62 wmt4_63 wmt1_8 wmt4_64) rfl rfl rfl (by decide +kernel) ⟨Nat.le_of_ble_eq_true rfl, Nat.le_of_ble_eq_true rfl⟩) (zp0_S hK) rfl rfl hl.1 rfl (lv_room (Nat.le_of_ble_eq_true rfl)) dX7_away_10 ⟨Nat.le_of_ble_eq_true rfl, Nat.le_of_ble_eq_true rfl⟩) hP hS hA (fun r_9 u_10 H locs w_11 hP hS => ?_)
      rcases w_11 with ⟨e_13, h_12⟩ | ⟨e_15, h_14⟩
      · skip
        replace e_13 : r_9 = 1 := e_13
        subst e_13
        replace h_12 : (0 : Int32).toInt ≤ y.toInt ∧ y.toInt ≤ (1 : Int32).toInt := h_12
        rw [show (0 : Int32).toInt = 0 by decide, show (1 : Int32).toInt = 1 by decide] at h_12
        refine lv_if_eq (tgt := 25) hx hb dX7_away_13 (by decide) (fun c_16 => ?_) (fun c_16 => ?_)
        · skip
          exact absurd c_16 (by decide)
        · skip
          refine lv_iload_n hx hb dX7_away_16 rfl (lv_at hl 3 rfl) ?_
          refine lv_iconst (v := 0) hx hb dX7_away_17 (by decide) ?_
          refine lv_iconst (v := 1) hx hb dX7_away_18 (by decide) ?_
          refine zc0_i (w := (zM k q z)) (va_runS (As := [.int w, .int 0, .int 1]) (rest := []) ⟨hx, hb, hml, hown, htb⟩ (c_X7_in l dC dI k w 0 1 _ ) (va_cwS 3 htb (gzS wmt4_62 wmt4_63 wmt1_8 wmt4_64) rfl rfl rfl (by decide +kernel) ⟨Nat.le_of_ble_eq_true rfl, Nat.le_of_ble_eq_true rfl⟩) (zp0_S hK) rfl rfl hl.1 rfl (lv_room (Nat.le_of_ble_eq_true rfl)) dX7_away_19 ⟨Nat.le_of_ble_eq_true rfl, Nat.le_of_ble_eq_true rfl⟩) hP hS hA (fun r_17 u_18 H locs w_19 hP hS => ?_)
          rcases w_19 with ⟨e_21, h_20⟩ | ⟨e_23, h_22⟩
          · skip
            replace e_21 : r_17 = 1 := e_21
            subst e_21
            replace h_20 : (0 : Int32).toInt ≤ w.toInt ∧ w.toInt ≤ (1 : Int32).toInt := h_20
            rw [show (0 : Int32).toInt = 0 by decide, show (1 : Int32).toInt = 1 by decide] at h_20
            refine lv_if_ne (tgt := 31) hx hb dX7_away_22 (by decide) (fun c_24 => ?_) (fun c_24 => ?_)
            · skip
              refine lv_aload_n hx hb dX7_away_31 rfl (lv_at hl 0 rfl) ?_
              refine lv_iload_n hx hb dX7_away_32 rfl (lv_at hl 1 rfl) ?_
              refine zcA_i (w := (zM k q z)) (va_runV (As := [.int d]) (rest := []) ⟨hx, hb, hml, hown, htb⟩ (c_X7_faultOf l dC dI k q z d _ hI (show 0 ≤ d.toInt ∧ d.toInt < 4 by omega)) (cwV 1 htb (gzV wmt4_73 wmt4_75 wmp2_6 wmt1_8 wmt4_76) rfl rfl rfl (by decide +kernel) ⟨Nat.le_of_ble_eq_true rfl, Nat.le_of_ble_eq_true rfl⟩) (zpA_V (ci := 7) (q0 := 0) hK hP (hDa _) rfl rfl) rfl rfl hl.1 rfl (lv_room (Nat.le_of_ble_eq_true rfl)) dX7_away_33 ⟨Nat.le_of_ble_eq_true rfl, Nat.le_of_ble_eq_true rfl⟩) (hDa _) hS hA (fun r_25 u_26 H locs w_27 hP _ hS => ?_)
              obtain ⟨o4_28, o5_29, o6_30, o7_31, o8_32, o9_33, o10_34, o12_35, o13_36, o14_37, o15_38, o16_39, o17_40, o18_41⟩ := u_26
              have hP : va_P (dC, dI) vwCl (zM k q (sA (sA (sA (sI (sI (sI (sI (sA (sA (sA (sA (sA (sA (sA z 4 o4_28) 5 o5_29) 6 o6_30) 7 o7_31) 8 o8_32) 9 o9_33) 10 o10_34) 12 o12_35) 13 o13_36) 14 o14_37) 15 o15_38) 16 o16_39) 17 o17_40) 18 o18_41)) H := hP
              obtain ⟨h_42, h_43, h_44, h_45, h_46⟩ := w_27
              replace h_42 : MD (FR ((z.2.2.1 2)) ((z.2.2.1 3))) o4_28 o5_29 o6_30 o7_31 o8_32 o9_33 o10_34 := h_42
              replace h_43 : ¬ o4_28 d.toNatClampNeg = 0 := h_43
              replace h_44 : RK ((z.2.2.1 4)) ((z.2.2.1 5)) o4_28 o5_29 := h_44
              replace h_45 : R7 ((z.2.2.1 4)) ((z.2.2.1 6)) ((z.2.2.1 7)) ((z.2.2.1 8)) ((z.2.2.1 9)) ((z.2.2.1 10)) o6_30 o7_31 o8_32 o9_33 o10_34 := h_45
              replace h_46 : r_25 = o5_29 d.toNatClampNeg := h_46
              have hI : MInv (sA (sA (sA (sI (sI (sI (sI (sA (sA (sA (sA (sA (sA (sA z 4 o4_28) 5 o5_29) 6 o6_30) 7 o7_31) 8 o8_32) 9 o9_33) 10 o10_34) 12 o12_35) 13 o13_36) 14 o14_37) 15 o15_38) 16 o16_39) 17 o17_40) 18 o18_41) := ⟨hI.1, hI.2.1, hI.2.2.1, hI.2.2.2.1, hI.2.2.2.2.1, h_42⟩
              have hms := MD_at h_42 (show 0 ≤ d.toInt ∧ d.toInt < 4 by omega)
              have hrd := h_43
              have hrk := h_44
              obtain ⟨hw, hff, hfF, hlk⟩ := hms.2.2.2.2.2 h_43
              have hwb := hms.1
              have hr5 : r_25.toInt = (o5_29 d.toNatClampNeg).toInt := by rw [h_46]
              have htF : tF (trM z) d.toNatClampNeg = o5_29 d.toNatClampNeg := (trM_Fg (z_cl4 (show 0 ≤ d.toInt ∧ d.toInt < 4 by omega))).trans (by unfold eF; rw [← hfF, Int32.ofInt_toInt])
              have ho24 := hI.2.2.1
              refine lv_iconst (v := (-1)) hx hb dX7_away_36 (by decide) ?_
              refine lv_icmp_ne (tgt := 57) hx hb dX7_away_37 (by decide) (fun c_48 => ?_) (fun c_48 => ?_)
              · skip
                have hc_48 := zb_ne rfl (show ((-1) : Int32).toInt = (-1) by decide) c_48
                refine lv_bipush (v := (-3)) hx hb dX7_away_57 (by decide) ?_
                refine zc0_l (w := (zM k q (sA (sA (sA (sI (sI (sI (sI (sA (sA (sA (sA (sA (sA (sA z 4 o4_28) 5 o5_29) 6 o6_30) 7 o7_31) 8 o8_32) 9 o9_33) 10 o10_34) 12 o12_35) 13 o13_36) 14 o14_37) 15 o15_38) 16 o16_39) 17 o17_40) 18 o18_41))) (va_runS (As := [.int (-3)]) (rest := []) ⟨hx, hb, hml, hown, htb⟩ (c_X7_told l dC dI k (-3) _ ) (va_cwS 1 htb (gzS wmt4_116 wmt4_117 wmt1_8 wmt4_118) rfl rfl rfl (by decide +kernel) ⟨Nat.le_of_ble_eq_true rfl, Nat.le_of_ble_eq_true rfl⟩) (zp0_S hK) rfl rfl hl.1 rfl (lv_room (Nat.le_of_ble_eq_true rfl)) dX7_away_59 ⟨Nat.le_of_ble_eq_true rfl, Nat.le_of_ble_eq_true rfl⟩) hP hS hA (fun r_49 u_50 H locs w_51 hP hS => ?_)
                have h_52 := w_51
                replace h_52 : r_49.toInt = tl ((-3) : Int32) := h_52
                have hal := h_52
                exact W.lret (v := r_49) hx hb hr (fun t ht hW => ⟨⟨r_49, (o4_28, o5_29, o6_30, o7_31, o8_32, o9_33, o10_34, o12_35, o13_36, o14_37, o15_38, o16_39, o17_40, o18_41, z.2.1 0, z.2.1 1), rfl, (show (MD (FR (z.2.2.1 2) (z.2.2.1 3)) o4_28 o5_29 o6_30 o7_31 o8_32 o9_33 o10_34) ∧ (r_49.toInt = tAway (trM z) d y w) from ⟨hI.2.2.2.2.2, hal.trans (tAway_ok (by omega) rfl (tAw_f2 htF (by omega)))⟩), ⟨by rw [ht]; exact hP, hDa _⟩⟩, hS.F ht⟩) hS.2.2 dX7_away_62
              · skip
                have hc_48 := zb_eq rfl (show ((-1) : Int32).toInt = (-1) by decide) c_48
                refine lv_aload_n hx hb dX7_away_40 rfl (lv_at hl 0 rfl) ?_
                refine lv_iload_n hx hb dX7_away_41 rfl (lv_at hl 1 rfl) ?_
                refine lv_iload_n hx hb dX7_away_42 rfl (lv_at hl 2 rfl) ?_
                refine zcA_i (w := (zM k q (sA (sA (sA (sI (sI (sI (sI (sA (sA (sA (sA (sA (sA (sA z 4 o4_28) 5 o5_29) 6 o6_30) 7 o7_31) 8 o8_32) 9 o9_33) 10 o10_34) 12 o12_35) 13 o13_36) 14 o14_37) 15 o15_38) 16 o16_39) 17 o17_40) 18 o18_41))) (va_runV (As := [.int d, .int y]) (rest := []) ⟨hx, hb, hml, hown, htb⟩ (c_X7_gives l dC dI k q (sA (sA (sA (sI (sI (sI (sI (sA (sA (sA (sA (sA (sA (sA z 4 o4_28) 5 o5_29) 6 o6_30) 7 o7_31) 8 o8_32) 9 o9_33) 10 o10_34) 12 o12_35) 13 o13_36) 14 o14_37) 15 o15_38) 16 o16_39) 17 o17_40) 18 o18_41) d y _ hI (by omega) hms) (cwV 2 htb (gzV wmt5_32 wmt5_34 wmp3_14 wmt1_8 wmt5_35) rfl rfl rfl (by decide +kernel) ⟨Nat.le_of_ble_eq_true rfl, Nat.le_of_ble_eq_true rfl⟩) (zpA_V (ci := 7) (q0 := 0) hK hP (hDa _) rfl rfl) rfl rfl hl.1 rfl (lv_room (Nat.le_of_ble_eq_true rfl)) dX7_away_43 ⟨Nat.le_of_ble_eq_true rfl, Nat.le_of_ble_eq_true rfl⟩) (hDa _) hS hA (fun r_54 u_55 H locs w_56 hP _ hS => ?_)
                obtain ⟨oa_57, ob_58⟩ := u_55
                have hP : va_P (dC, dI) vwCl (zM k q (sJ (sJ (sA (sA (sA (sI (sI (sI (sI (sA (sA (sA (sA (sA (sA (sA z 4 o4_28) 5 o5_29) 6 o6_30) 7 o7_31) 8 o8_32) 9 o9_33) 10 o10_34) 12 o12_35) 13 o13_36) 14 o14_37) 15 o15_38) 16 o16_39) 17 o17_40) 18 o18_41) 0 oa_57) 1 ob_58)) H := hP
                rcases w_56 with ⟨e_64, h_59, h_60, h_61, h_62, h_63⟩ | ⟨e_68, h_65, h_66, h_67⟩
                · skip
                  replace e_64 : r_54 = 1 := e_64
                  subst e_64
                  replace h_59 : 1 ≤ ob_58.toInt ∧ ob_58.toInt ≤ 731520 := h_59
                  replace h_60 : -731520 ≤ oa_57.toInt ∧ oa_57.toInt ≤ 731520 := h_60
                  replace h_61 : (o7_31 d.toNatClampNeg).toInt + (o8_32 d.toNatClampNeg).toInt + (o9_33 d.toNatClampNeg).toInt + (o10_34 d.toNatClampNeg).toInt ≤ (o6_30 d.toNatClampNeg).toInt → 0 ≤ oa_57.toInt ∧ oa_57.toInt ≤ 11520 ∧ ob_58.toInt ≤ 11520 := h_61
                  replace h_62 : 0 < (if y.toInt = 1 then yI (o7_31 d.toNatClampNeg) (o8_32 d.toNatClampNeg) (o9_33 d.toNatClampNeg) (o10_34 d.toNatClampNeg) ((z.1 11)) 1 else 24 * (o6_30 d.toNatClampNeg).toInt - yI (o7_31 d.toNatClampNeg) (o8_32 d.toNatClampNeg) (o9_33 d.toNatClampNeg) (o10_34 d.toNatClampNeg) ((z.1 11)) 1) → 0 < (if y.toInt = 1 then yI (o7_31 d.toNatClampNeg) (o8_32 d.toNatClampNeg) (o9_33 d.toNatClampNeg) (o10_34 d.toNatClampNeg) ((z.1 11)) 0 else 24 * (o6_30 d.toNatClampNeg).toInt - yI (o7_31 d.toNatClampNeg) (o8_32 d.toNatClampNeg) (o9_33 d.toNatClampNeg) (o10_34 d.toNatClampNeg) ((z.1 11)) 0) → 1 ≤ oa_57.toInt := h_62
                  replace h_63 : Hd ((o7_31 d.toNatClampNeg).toInt + (o8_32 d.toNatClampNeg).toInt + (o9_33 d.toNatClampNeg).toInt + (o10_34 d.toNatClampNeg).toInt ≤ (o6_30 d.toNatClampNeg).toInt → (oa_57.toInt = frT (if y.toInt = 1 then yI (o7_31 d.toNatClampNeg) (o8_32 d.toNatClampNeg) (o9_33 d.toNatClampNeg) (o10_34 d.toNatClampNeg) ((z.1 11)) 1 else 24 * (o6_30 d.toNatClampNeg).toInt - yI (o7_31 d.toNatClampNeg) (o8_32 d.toNatClampNeg) (o9_33 d.toNatClampNeg) (o10_34 d.toNatClampNeg) ((z.1 11)) 1) (if y.toInt = 1 then yI (o7_31 d.toNatClampNeg) (o8_32 d.toNatClampNeg) (o9_33 d.toNatClampNeg) (o10_34 d.toNatClampNeg) ((z.1 11)) 0 else 24 * (o6_30 d.toNatClampNeg).toInt - yI (o7_31 d.toNatClampNeg) (o8_32 d.toNatClampNeg) (o9_33 d.toNatClampNeg) (o10_34 d.toNatClampNeg) ((z.1 11)) 0) 0 ∧ ob_58.toInt = frT (if y.toInt = 1 then yI (o7_31 d.toNatClampNeg) (o8_32 d.toNatClampNeg) (o9_33 d.toNatClampNeg) (o10_34 d.toNatClampNeg) ((z.1 11)) 1 else 24 * (o6_30 d.toNatClampNeg).toInt - yI (o7_31 d.toNatClampNeg) (o8_32 d.toNatClampNeg) (o9_33 d.toNatClampNeg) (o10_34 d.toNatClampNeg) ((z.1 11)) 1) (if y.toInt = 1 then yI (o7_31 d.toNatClampNeg) (o8_32 d.toNatClampNeg) (o9_33 d.toNatClampNeg) (o10_34 d.toNatClampNeg) ((z.1 11)) 0 else 24 * (o6_30 d.toNatClampNeg).toInt - yI (o7_31 d.toNatClampNeg) (o8_32 d.toNatClampNeg) (o9_33 d.toNatClampNeg) (o10_34 d.toNatClampNeg) ((z.1 11)) 0) 1) ∧ ¬ (if y.toInt = 1 then yI (o7_31 d.toNatClampNeg) (o8_32 d.toNatClampNeg) (o9_33 d.toNatClampNeg) (o10_34 d.toNatClampNeg) ((z.1 11)) 0 else 24 * (o6_30 d.toNatClampNeg).toInt - yI (o7_31 d.toNatClampNeg) (o8_32 d.toNatClampNeg) (o9_33 d.toNatClampNeg) (o10_34 d.toNatClampNeg) ((z.1 11)) 0) = 0) := h_63
                  have hgv1 := (un_hd h_63) (hff (by omega)).2
                  refine lv_if_eq (tgt := 57) hx hb dX7_away_46 (by decide) (fun c_69 => ?_) (fun c_69 => ?_)
                  · skip
                    exact absurd c_69 (by decide)
                  · skip
                    refine lv_aload_n hx hb dX7_away_49 rfl (lv_at hl 0 rfl) ?_
                    refine lv_iload_n hx hb dX7_away_50 rfl (lv_at hl 3 rfl) ?_
                    refine zcA_l (w := (zM k q (sJ (sJ (sA (sA (sA (sI (sI (sI (sI (sA (sA (sA (sA (sA (sA (sA z 4 o4_28) 5 o5_29) 6 o6_30) 7 o7_31) 8 o8_32) 9 o9_33) 10 o10_34) 12 o12_35) 13 o13_36) 14 o14_37) 15 o15_38) 16 o16_39) 17 o17_40) 18 o18_41) 0 oa_57) 1 ob_58))) (va_runV (As := [.int w]) (rest := []) ⟨hx, hb, hml, hown, htb⟩ (c_X7_part l dC dI k q (sJ (sJ (sA (sA (sA (sI (sI (sI (sI (sA (sA (sA (sA (sA (sA (sA z 4 o4_28) 5 o5_29) 6 o6_30) 7 o7_31) 8 o8_32) 9 o9_33) 10 o10_34) 12 o12_35) 13 o13_36) 14 o14_37) 15 o15_38) 16 o16_39) 17 o17_40) 18 o18_41) 0 oa_57) 1 ob_58) w _ ) (cwV 1 htb (gzV wmt4_133 wmt4_135 wmp3_1 wmt1_8 wmt4_136) rfl rfl rfl (by decide +kernel) ⟨Nat.le_of_ble_eq_true rfl, Nat.le_of_ble_eq_true rfl⟩) (zpA_V (ci := 7) (q0 := 0) hK hP (hDa _) rfl rfl) rfl rfl hl.1 rfl (lv_room (Nat.le_of_ble_eq_true rfl)) dX7_away_51 ⟨Nat.le_of_ble_eq_true rfl, Nat.le_of_ble_eq_true rfl⟩) (hDa _) hS hA (fun r_70 u_71 H locs w_72 hP _ hS => ?_)
                    have h_73 := w_72
                    replace h_73 : (w.toInt = 0 → r_70 = oa_57) ∧ (¬ w.toInt = 0 → r_70 = ob_58) := h_73
                    have htd := h_73
                    refine lv_goto (tgt := 62) hx hb dX7_away_54 (by decide) ?_
                    exact W.lret (v := r_70) hx hb hr (fun t ht hW => ⟨⟨r_70, (o4_28, o5_29, o6_30, o7_31, o8_32, o9_33, o10_34, o12_35, o13_36, o14_37, o15_38, o16_39, o17_40, o18_41, oa_57, ob_58), rfl, (show (MD (FR (z.2.2.1 2) (z.2.2.1 3)) o4_28 o5_29 o6_30 o7_31 o8_32 o9_33 o10_34) ∧ (r_70.toInt = tAway (trM z) d y w) from ⟨hI.2.2.2.2.2, (fr_told hgv1.1.1 hgv1.1.2 htd).trans (tAway_ok (by omega) rfl ((away_M ho24 (z_cl4 (show 0 ≤ d.toInt ∧ d.toInt < 4 by omega)) htF (by omega) hfF (hlk (by omega))).2 hgv1.2))⟩), ⟨by rw [ht]; exact hP, hDa _⟩⟩, hS.F ht⟩) hS.2.2 dX7_away_62
                · skip
                  replace e_68 : r_54 = 0 := e_68
                  subst e_68
                  replace h_65 : oa_57 = (z.2.1 0) := h_65
                  replace h_66 : ob_58 = (z.2.1 1) := h_66
                  replace h_67 : (if y.toInt = 1 then yI (o7_31 d.toNatClampNeg) (o8_32 d.toNatClampNeg) (o9_33 d.toNatClampNeg) (o10_34 d.toNatClampNeg) ((z.1 11)) 0 else 24 * (o6_30 d.toNatClampNeg).toInt - yI (o7_31 d.toNatClampNeg) (o8_32 d.toNatClampNeg) (o9_33 d.toNatClampNeg) (o10_34 d.toNatClampNeg) ((z.1 11)) 0) = 0 := h_67
                  have hgv0 := h_67
                  refine lv_if_eq (tgt := 57) hx hb dX7_away_46 (by decide) (fun c_75 => ?_) (fun c_75 => ?_)
                  · skip
                    refine lv_bipush (v := (-3)) hx hb dX7_away_57 (by decide) ?_
                    refine zc0_l (w := (zM k q (sJ (sJ (sA (sA (sA (sI (sI (sI (sI (sA (sA (sA (sA (sA (sA (sA z 4 o4_28) 5 o5_29) 6 o6_30) 7 o7_31) 8 o8_32) 9 o9_33) 10 o10_34) 12 o12_35) 13 o13_36) 14 o14_37) 15 o15_38) 16 o16_39) 17 o17_40) 18 o18_41) 0 oa_57) 1 ob_58))) (va_runS (As := [.int (-3)]) (rest := []) ⟨hx, hb, hml, hown, htb⟩ (c_X7_told l dC dI k (-3) _ ) (va_cwS 1 htb (gzS wmt4_116 wmt4_117 wmt1_8 wmt4_118) rfl rfl rfl (by decide +kernel) ⟨Nat.le_of_ble_eq_true rfl, Nat.le_of_ble_eq_true rfl⟩) (zp0_S hK) rfl rfl hl.1 rfl (lv_room (Nat.le_of_ble_eq_true rfl)) dX7_away_59 ⟨Nat.le_of_ble_eq_true rfl, Nat.le_of_ble_eq_true rfl⟩) hP hS hA (fun r_76 u_77 H locs w_78 hP hS => ?_)
                    have h_79 := w_78
                    replace h_79 : r_76.toInt = tl ((-3) : Int32) := h_79
                    have hal := h_79
                    exact W.lret (v := r_76) hx hb hr (fun t ht hW => ⟨⟨r_76, (o4_28, o5_29, o6_30, o7_31, o8_32, o9_33, o10_34, o12_35, o13_36, o14_37, o15_38, o16_39, o17_40, o18_41, oa_57, ob_58), rfl, (show (MD (FR (z.2.2.1 2) (z.2.2.1 3)) o4_28 o5_29 o6_30 o7_31 o8_32 o9_33 o10_34) ∧ (r_76.toInt = tAway (trM z) d y w) from ⟨hI.2.2.2.2.2, hal.trans (tAway_ok (by omega) rfl ((away_M ho24 (z_cl4 (show 0 ≤ d.toInt ∧ d.toInt < 4 by omega)) htF (by omega) hfF (hlk (by omega))).1 hgv0))⟩), ⟨by rw [ht]; exact hP, hDa _⟩⟩, hS.F ht⟩) hS.2.2 dX7_away_62
                  · skip
                    exact absurd (by decide) c_75
            · skip
              exact absurd c_24 (by decide)
          · skip
            replace e_23 : r_17 = 0 := e_23
            subst e_23
            replace h_22 : ¬ ((0 : Int32).toInt ≤ w.toInt ∧ w.toInt ≤ (1 : Int32).toInt) := h_22
            rw [show (0 : Int32).toInt = 0 by decide, show (1 : Int32).toInt = 1 by decide] at h_22
            refine lv_if_ne (tgt := 31) hx hb dX7_away_22 (by decide) (fun c_81 => ?_) (fun c_81 => ?_)
            · skip
              exact absurd c_81 (by decide)
            · skip
              refine lv_bipush (v := (-2)) hx hb dX7_away_25 (by decide) ?_
              refine zc0_l (w := (zM k q z)) (va_runS (As := [.int (-2)]) (rest := []) ⟨hx, hb, hml, hown, htb⟩ (c_X7_told l dC dI k (-2) _ ) (va_cwS 1 htb (gzS wmt4_116 wmt4_117 wmt1_8 wmt4_118) rfl rfl rfl (by decide +kernel) ⟨Nat.le_of_ble_eq_true rfl, Nat.le_of_ble_eq_true rfl⟩) (zp0_S hK) rfl rfl hl.1 rfl (lv_room (Nat.le_of_ble_eq_true rfl)) dX7_away_27 ⟨Nat.le_of_ble_eq_true rfl, Nat.le_of_ble_eq_true rfl⟩) hP hS hA (fun r_82 u_83 H locs w_84 hP hS => ?_)
              have h_85 := w_84
              replace h_85 : r_82.toInt = tl ((-2) : Int32) := h_85
              have hal := h_85
              exact W.lret (v := r_82) hx hb hr (fun t ht hW => ⟨⟨r_82, (z.2.2.1 4, z.2.2.1 5, z.2.2.1 6, z.2.2.1 7, z.2.2.1 8, z.2.2.1 9, z.2.2.1 10, z.1 12, z.1 13, z.1 14, z.1 15, z.2.2.1 16, z.2.2.1 17, z.2.2.1 18, z.2.1 0, z.2.1 1), rfl, (show (MD (FR (z.2.2.1 2) (z.2.2.1 3)) (z.2.2.1 4) (z.2.2.1 5) (z.2.2.1 6) (z.2.2.1 7) (z.2.2.1 8) (z.2.2.1 9) (z.2.2.1 10)) ∧ (r_82.toInt = tAway (trM z) d y w) from ⟨hI.2.2.2.2.2, hal.trans (tAway_bad (by omega))⟩), ⟨by rw [ht]; exact hP, hDa _⟩⟩, hS.F ht⟩) hS.2.2 dX7_away_30
      · skip
        replace e_15 : r_9 = 0 := e_15
        subst e_15
        replace h_14 : ¬ ((0 : Int32).toInt ≤ y.toInt ∧ y.toInt ≤ (1 : Int32).toInt) := h_14
        rw [show (0 : Int32).toInt = 0 by decide, show (1 : Int32).toInt = 1 by decide] at h_14
        refine lv_if_eq (tgt := 25) hx hb dX7_away_13 (by decide) (fun c_87 => ?_) (fun c_87 => ?_)
        · skip
          refine lv_bipush (v := (-2)) hx hb dX7_away_25 (by decide) ?_
          refine zc0_l (w := (zM k q z)) (va_runS (As := [.int (-2)]) (rest := []) ⟨hx, hb, hml, hown, htb⟩ (c_X7_told l dC dI k (-2) _ ) (va_cwS 1 htb (gzS wmt4_116 wmt4_117 wmt1_8 wmt4_118) rfl rfl rfl (by decide +kernel) ⟨Nat.le_of_ble_eq_true rfl, Nat.le_of_ble_eq_true rfl⟩) (zp0_S hK) rfl rfl hl.1 rfl (lv_room (Nat.le_of_ble_eq_true rfl)) dX7_away_27 ⟨Nat.le_of_ble_eq_true rfl, Nat.le_of_ble_eq_true rfl⟩) hP hS hA (fun r_88 u_89 H locs w_90 hP hS => ?_)
          have h_91 := w_90
          replace h_91 : r_88.toInt = tl ((-2) : Int32) := h_91
          have hal := h_91
          exact W.lret (v := r_88) hx hb hr (fun t ht hW => ⟨⟨r_88, (z.2.2.1 4, z.2.2.1 5, z.2.2.1 6, z.2.2.1 7, z.2.2.1 8, z.2.2.1 9, z.2.2.1 10, z.1 12, z.1 13, z.1 14, z.1 15, z.2.2.1 16, z.2.2.1 17, z.2.2.1 18, z.2.1 0, z.2.1 1), rfl, (show (MD (FR (z.2.2.1 2) (z.2.2.1 3)) (z.2.2.1 4) (z.2.2.1 5) (z.2.2.1 6) (z.2.2.1 7) (z.2.2.1 8) (z.2.2.1 9) (z.2.2.1 10)) ∧ (r_88.toInt = tAway (trM z) d y w) from ⟨hI.2.2.2.2.2, hal.trans (tAway_bad (by omega))⟩), ⟨by rw [ht]; exact hP, hDa _⟩⟩, hS.F ht⟩) hS.2.2 dX7_away_30
        · skip
          exact absurd (by decide) c_87
  · skip
    replace e_7 : r_1 = 0 := e_7
    subst e_7
    replace h_6 : ¬ (0 ≤ d.toInt ∧ d.toInt < 4) := h_6
    refine lv_if_eq (tgt := 25) hx hb dX7_away_4 (by decide) (fun c_93 => ?_) (fun c_93 => ?_)
    · skip
      refine lv_bipush (v := (-2)) hx hb dX7_away_25 (by decide) ?_
      refine zc0_l (w := (zM k q z)) (va_runS (As := [.int (-2)]) (rest := []) ⟨hx, hb, hml, hown, htb⟩ (c_X7_told l dC dI k (-2) _ ) (va_cwS 1 htb (gzS wmt4_116 wmt4_117 wmt1_8 wmt4_118) rfl rfl rfl (by decide +kernel) ⟨Nat.le_of_ble_eq_true rfl, Nat.le_of_ble_eq_true rfl⟩) (zp0_S hK) rfl rfl hl.1 rfl (lv_room (Nat.le_of_ble_eq_true rfl)) dX7_away_27 ⟨Nat.le_of_ble_eq_true rfl, Nat.le_of_ble_eq_true rfl⟩) hP hS hA (fun r_94 u_95 H locs w_96 hP hS => ?_)
      have h_97 := w_96
      replace h_97 : r_94.toInt = tl ((-2) : Int32) := h_97
      have hal := h_97
      exact W.lret (v := r_94) hx hb hr (fun t ht hW => ⟨⟨r_94, (z.2.2.1 4, z.2.2.1 5, z.2.2.1 6, z.2.2.1 7, z.2.2.1 8, z.2.2.1 9, z.2.2.1 10, z.1 12, z.1 13, z.1 14, z.1 15, z.2.2.1 16, z.2.2.1 17, z.2.2.1 18, z.2.1 0, z.2.1 1), rfl, (show (MD (FR (z.2.2.1 2) (z.2.2.1 3)) (z.2.2.1 4) (z.2.2.1 5) (z.2.2.1 6) (z.2.2.1 7) (z.2.2.1 8) (z.2.2.1 9) (z.2.2.1 10)) ∧ (r_94.toInt = tAway (trM z) d y w) from ⟨hI.2.2.2.2.2, hal.trans (tAway_bad (by omega))⟩), ⟨by rw [ht]; exact hP, hDa _⟩⟩, hS.F ht⟩) hS.2.2 dX7_away_30
    · skip
      exact absurd (by decide) c_93
set_option maxHeartbeats 4000000 in
set_option maxRecDepth 100000 in
theorem c_X7_isExposed (l : Launch) (dC : Nat → ClassId) (dI : Nat → Nat → Nat) (k : Nat → ClassId) (q : Nat → Nat) (z : ZS) (d : Int32) (sz : Nat) (hI : MInv z) (hd : 0 ≤ d.toInt ∧ d.toInt < 4) (hms : MS (FR (z.2.2.1 2) (z.2.2.1 3) d.toNatClampNeg) (z.2.2.1 4 d.toNatClampNeg) (z.2.2.1 5 d.toNatClampNeg) (z.2.2.1 6 d.toNatClampNeg) (z.2.2.1 7 d.toNatClampNeg) (z.2.2.1 8 d.toNatClampNeg) (z.2.2.1 9 d.toNatClampNeg) (z.2.2.1 10 d.toNatClampNeg)) : Met l yX7_isExposed (wz yX7_isExposed cX7_isExposed 6 (some .boolean)) ({ frames := 1, cells := 0, slots := 0, locals := 23 }) (va_Pc [.ref (q 0), .int d] (zPre dC dI k (zTX k) (zM k q z) sz)) (va_Qi (fun (r : Int32) (u : Unit) => (r = 1 ∧ ((0 < yI (z.2.2.1 7 d.toNatClampNeg) (z.2.2.1 8 d.toNatClampNeg) (z.2.2.1 9 d.toNatClampNeg) (z.2.2.1 10 d.toNatClampNeg) (z.1 11) 1 ∧ 0 < yI (z.2.2.1 7 d.toNatClampNeg) (z.2.2.1 8 d.toNatClampNeg) (z.2.2.1 9 d.toNatClampNeg) (z.2.2.1 10 d.toNatClampNeg) (z.1 11) 0) ∧ (yI (z.2.2.1 7 d.toNatClampNeg) (z.2.2.1 8 d.toNatClampNeg) (z.2.2.1 9 d.toNatClampNeg) (z.2.2.1 10 d.toNatClampNeg) (z.1 11) 1 < 24 * (z.2.2.1 6 d.toNatClampNeg).toInt ∧ yI (z.2.2.1 7 d.toNatClampNeg) (z.2.2.1 8 d.toNatClampNeg) (z.2.2.1 9 d.toNatClampNeg) (z.2.2.1 10 d.toNatClampNeg) (z.1 11) 0 < 24 * (z.2.2.1 6 d.toNatClampNeg).toInt))) ∨ (r = 0 ∧ (¬ ((0 < yI (z.2.2.1 7 d.toNatClampNeg) (z.2.2.1 8 d.toNatClampNeg) (z.2.2.1 9 d.toNatClampNeg) (z.2.2.1 10 d.toNatClampNeg) (z.1 11) 1 ∧ 0 < yI (z.2.2.1 7 d.toNatClampNeg) (z.2.2.1 8 d.toNatClampNeg) (z.2.2.1 9 d.toNatClampNeg) (z.2.2.1 10 d.toNatClampNeg) (z.1 11) 0) ∧ (yI (z.2.2.1 7 d.toNatClampNeg) (z.2.2.1 8 d.toNatClampNeg) (z.2.2.1 9 d.toNatClampNeg) (z.2.2.1 10 d.toNatClampNeg) (z.1 11) 1 < 24 * (z.2.2.1 6 d.toNatClampNeg).toInt ∧ yI (z.2.2.1 7 d.toNatClampNeg) (z.2.2.1 8 d.toNatClampNeg) (z.2.2.1 9 d.toNatClampNeg) (z.2.2.1 10 d.toNatClampNeg) (z.1 11) 0 < 24 * (z.2.2.1 6 d.toNatClampNeg).toInt))))) (fun u t => zPost dC dI (va_A (zM k q z) sz) (zM k q z) t) (va_A (zM k q z) sz)) 0 0 (va_A (zM k q z) sz) := by
  refine Met.ofW (cc := cX7_isExposed) (maxL := 6) (ret := (some .boolean)) (by decide) rfl ?_
  intro p e s m args below meth c s₁ B hml hv
  obtain ⟨rfl, hsz, hP, hK, hD0⟩ := hv
  have hx := B.exec
  have hb := B.bytes
  have hr := B.returns
  have hts := atoms_spec (ws := wz yX7_isExposed cX7_isExposed 6 (some .boolean)) B.pre
  have htb : ∀ w ∈ zw, w.before _ s = true := fun w h => hts w (List.mem_cons_of_mem _ h)
  have hown : s.vm.findClass RX7 = some m.cls := findClass_of_methodNamed B.named
  have hlocks := B.notSynchronized
  clear hts
  subst hsz
  have hD := hD0.self (sz := s.heap.size)
  generalize hAe : va_A (zM k q z) s.heap.size = A at hD ⊢
  have hA : ∀ q : Nat, s.heap.size ≤ q → A q := fun q h => by rw [← hAe]; exact Or.inr h
  have hDa : ∀ z9 : ZS, va_D A (zM k q z9) := fun z9 => va_D_adr (w := zM k q z) rfl hD
  have hl := lv_entry ([.ref (q 0), .int d]) (n := 6) (Nat.le_of_ble_eq_true rfl)
  rw [lg_entry_eq]
  generalize (lg_sl ([.ref (q 0), .int d]) ++ List.replicate (6 - (lg_sl ([.ref (q 0), .int d])).length) Slot.unset).toArray = ls at hl ⊢
  have hl : lv_has ls 6 [(0, .ref (q 0)), (1, .int d)] := hl
  refine z_start2 (A := A) (w := (zM k q z)) hP (fun H locs hP hS => ?_)
  clear hD0 hAe
  refine lv_aload_n hx hb dX7_isExposed_0 rfl (lv_at hl 0 rfl) ?_
  refine lv_iload_n hx hb dX7_isExposed_1 rfl (lv_at hl 1 rfl) ?_
  refine lv_iconst (v := 1) hx hb dX7_isExposed_2 (by decide) ?_
  refine zcA_l (w := (zM k q z)) (va_runV (As := [.int d, .int 1]) (rest := []) ⟨hx, hb, hml, hown, htb⟩ (c_X7_yesIf l dC dI k q z d 1 _ hI (by omega) hms) (cwV 2 htb (gzV wmt4_120 wmt4_122 wmp2_14 wmt1_8 wmt4_123) rfl rfl rfl (by decide +kernel) ⟨Nat.le_of_ble_eq_true rfl, Nat.le_of_ble_eq_true rfl⟩) (zpA_V (ci := 7) (q0 := 0) hK hP (hDa _) rfl rfl) rfl rfl hl.1 rfl (lv_room (Nat.le_of_ble_eq_true rfl)) dX7_isExposed_3 ⟨Nat.le_of_ble_eq_true rfl, Nat.le_of_ble_eq_true rfl⟩) (hDa _) hS hA (fun r_1 u_2 H locs w_3 hP _ hS => ?_)
  obtain ⟨h_4, h_5, h_6⟩ := w_3
  replace h_4 : 0 ≤ r_1.toInt ∧ r_1.toInt ≤ 720000 := h_4
  replace h_5 : (((z.2.2.1 7) d.toNatClampNeg).toInt + ((z.2.2.1 8) d.toNatClampNeg).toInt + ((z.2.2.1 9) d.toNatClampNeg).toInt + ((z.2.2.1 10) d.toNatClampNeg).toInt ≤ ((z.2.2.1 6) d.toNatClampNeg).toInt → r_1.toInt ≤ 24 * ((z.2.2.1 6) d.toNatClampNeg).toInt) := h_5
  replace h_6 : r_1.toInt = yI ((z.2.2.1 7) d.toNatClampNeg) ((z.2.2.1 8) d.toNatClampNeg) ((z.2.2.1 9) d.toNatClampNeg) ((z.2.2.1 10) d.toNatClampNeg) ((z.1 11)) (1 : Int32) := h_6
  refine lv_lstore_n (lv' := [(2, .long r_1), (0, .ref (q 0)), (1, .int d)]) hx hb dX7_isExposed_6 rfl hl (by decide) rfl (fun ls hl => ?_)
  refine lv_aload_n hx hb dX7_isExposed_7 rfl (lv_at hl 1 rfl) ?_
  refine lv_iload_n hx hb dX7_isExposed_8 rfl (lv_at hl 2 rfl) ?_
  refine lv_iconst (v := 0) hx hb dX7_isExposed_9 (by decide) ?_
  refine zcA_l (w := (zM k q z)) (va_runV (As := [.int d, .int 0]) (rest := []) ⟨hx, hb, hml, hown, htb⟩ (c_X7_yesIf l dC dI k q z d 0 _ hI (by omega) hms) (cwV 2 htb (gzV wmt4_120 wmt4_122 wmp2_14 wmt1_8 wmt4_123) rfl rfl rfl (by decide +kernel) ⟨Nat.le_of_ble_eq_true rfl, Nat.le_of_ble_eq_true rfl⟩) (zpA_V (ci := 7) (q0 := 0) hK hP (hDa _) rfl rfl) rfl rfl hl.1 rfl (lv_room (Nat.le_of_ble_eq_true rfl)) dX7_isExposed_10 ⟨Nat.le_of_ble_eq_true rfl, Nat.le_of_ble_eq_true rfl⟩) (hDa _) hS hA (fun r_8 u_9 H locs w_10 hP _ hS => ?_)
  obtain ⟨h_11, h_12, h_13⟩ := w_10
  replace h_11 : 0 ≤ r_8.toInt ∧ r_8.toInt ≤ 720000 := h_11
  replace h_12 : (((z.2.2.1 7) d.toNatClampNeg).toInt + ((z.2.2.1 8) d.toNatClampNeg).toInt + ((z.2.2.1 9) d.toNatClampNeg).toInt + ((z.2.2.1 10) d.toNatClampNeg).toInt ≤ ((z.2.2.1 6) d.toNatClampNeg).toInt → r_8.toInt ≤ 24 * ((z.2.2.1 6) d.toNatClampNeg).toInt) := h_12
  replace h_13 : r_8.toInt = yI ((z.2.2.1 7) d.toNatClampNeg) ((z.2.2.1 8) d.toNatClampNeg) ((z.2.2.1 9) d.toNatClampNeg) ((z.2.2.1 10) d.toNatClampNeg) ((z.1 11)) (0 : Int32) := h_13
  refine lv_lstore (lv' := [(4, .long r_8), (2, .long r_1), (0, .ref (q 0)), (1, .int d)]) hx hb dX7_isExposed_13 hl (by decide) rfl (fun ls hl => ?_)
  refine lv_lload_n hx hb dX7_isExposed_15 rfl (lv_at hl 1 rfl) ?_
  refine lv_lconst (v := 0) hx hb dX7_isExposed_16 (by decide) ?_
  refine z_lcmp hx hb dX7_isExposed_17 ?_
  refine lv_if_le (tgt := 53) hx hb dX7_isExposed_18 (by decide) (fun c_15 => ?_) (fun c_15 => ?_)
  · skip
    have hc_15 := zl_le rfl (show (0 : Int64).toInt = 0 by decide) c_15
    refine lv_iconst (v := 0) hx hb dX7_isExposed_53 (by decide) ?_
    exact W.zret (v := 0) (ty := .boolean) hx hb hr rfl (fun t ht hW => ⟨⟨0, (), rfl, (Or.inr ⟨rfl, by omega⟩), ⟨by rw [ht]; exact hP, hDa _⟩⟩, hS.F ht⟩) hS.2.2 dX7_isExposed_54
  · skip
    have hc_15 := zl_nle rfl (show (0 : Int64).toInt = 0 by decide) c_15
    refine lv_lload hx hb dX7_isExposed_21 (lv_at hl 0 rfl) ?_
    refine lv_lconst (v := 0) hx hb dX7_isExposed_23 (by decide) ?_
    refine z_lcmp hx hb dX7_isExposed_24 ?_
    refine lv_if_le (tgt := 53) hx hb dX7_isExposed_25 (by decide) (fun c_16 => ?_) (fun c_16 => ?_)
    · skip
      have hc_16 := zl_le rfl (show (0 : Int64).toInt = 0 by decide) c_16
      refine lv_iconst (v := 0) hx hb dX7_isExposed_53 (by decide) ?_
      exact W.zret (v := 0) (ty := .boolean) hx hb hr rfl (fun t ht hW => ⟨⟨0, (), rfl, (Or.inr ⟨rfl, by omega⟩), ⟨by rw [ht]; exact hP, hDa _⟩⟩, hS.F ht⟩) hS.2.2 dX7_isExposed_54
    · skip
      have hc_16 := zl_nle rfl (show (0 : Int64).toInt = 0 by decide) c_16
      refine lv_lload_n hx hb dX7_isExposed_28 rfl (lv_at hl 1 rfl) ?_
      refine lv_aload_n hx hb dX7_isExposed_29 rfl (lv_at hl 2 rfl) ?_
      refine lv_iload_n hx hb dX7_isExposed_30 rfl (lv_at hl 3 rfl) ?_
      refine zcA_l (w := (zM k q z)) (va_runV (As := [.int d]) (rest := [.long r_1]) ⟨hx, hb, hml, hown, htb⟩ (c_X7_base l dC dI k q z d _ (by omega) hms) (cwV 1 htb (gzV wmt4_125 wmt4_127 wmp2_15 wmt1_8 wmt4_128) rfl rfl rfl (by decide +kernel) ⟨Nat.le_of_ble_eq_true rfl, Nat.le_of_ble_eq_true rfl⟩) (zpA_V (ci := 7) (q0 := 0) hK hP (hDa _) rfl rfl) rfl rfl hl.1 rfl (lv_room (Nat.le_of_ble_eq_true rfl)) dX7_isExposed_31 ⟨Nat.le_of_ble_eq_true rfl, Nat.le_of_ble_eq_true rfl⟩) (hDa _) hS hA (fun r_17 u_18 H locs w_19 hP _ hS => ?_)
      have h_20 := w_19
      replace h_20 : r_17.toInt = 24 * ((z.2.2.1 6) d.toNatClampNeg).toInt := h_20
      refine z_lcmp hx hb dX7_isExposed_34 ?_
      refine lv_if_ge (tgt := 53) hx hb dX7_isExposed_35 (by decide) (fun c_22 => ?_) (fun c_22 => ?_)
      · skip
        have hc_22 := zl_ge rfl rfl c_22
        refine lv_iconst (v := 0) hx hb dX7_isExposed_53 (by decide) ?_
        exact W.zret (v := 0) (ty := .boolean) hx hb hr rfl (fun t ht hW => ⟨⟨0, (), rfl, (Or.inr ⟨rfl, by omega⟩), ⟨by rw [ht]; exact hP, hDa _⟩⟩, hS.F ht⟩) hS.2.2 dX7_isExposed_54
      · skip
        have hc_22 := zl_nge rfl rfl c_22
        refine lv_lload hx hb dX7_isExposed_38 (lv_at hl 0 rfl) ?_
        refine lv_aload_n hx hb dX7_isExposed_40 rfl (lv_at hl 2 rfl) ?_
        refine lv_iload_n hx hb dX7_isExposed_41 rfl (lv_at hl 3 rfl) ?_
        refine zcA_l (w := (zM k q z)) (va_runV (As := [.int d]) (rest := [.long r_8]) ⟨hx, hb, hml, hown, htb⟩ (c_X7_base l dC dI k q z d _ (by omega) hms) (cwV 1 htb (gzV wmt4_125 wmt4_127 wmp2_15 wmt1_8 wmt4_128) rfl rfl rfl (by decide +kernel) ⟨Nat.le_of_ble_eq_true rfl, Nat.le_of_ble_eq_true rfl⟩) (zpA_V (ci := 7) (q0 := 0) hK hP (hDa _) rfl rfl) rfl rfl hl.1 rfl (lv_room (Nat.le_of_ble_eq_true rfl)) dX7_isExposed_42 ⟨Nat.le_of_ble_eq_true rfl, Nat.le_of_ble_eq_true rfl⟩) (hDa _) hS hA (fun r_23 u_24 H locs w_25 hP _ hS => ?_)
        have h_26 := w_25
        replace h_26 : r_23.toInt = 24 * ((z.2.2.1 6) d.toNatClampNeg).toInt := h_26
        refine z_lcmp hx hb dX7_isExposed_45 ?_
        refine lv_if_ge (tgt := 53) hx hb dX7_isExposed_46 (by decide) (fun c_28 => ?_) (fun c_28 => ?_)
        · skip
          have hc_28 := zl_ge rfl rfl c_28
          refine lv_iconst (v := 0) hx hb dX7_isExposed_53 (by decide) ?_
          exact W.zret (v := 0) (ty := .boolean) hx hb hr rfl (fun t ht hW => ⟨⟨0, (), rfl, (Or.inr ⟨rfl, by omega⟩), ⟨by rw [ht]; exact hP, hDa _⟩⟩, hS.F ht⟩) hS.2.2 dX7_isExposed_54
        · skip
          have hc_28 := zl_nge rfl rfl c_28
          refine lv_iconst (v := 1) hx hb dX7_isExposed_49 (by decide) ?_
          refine lv_goto (tgt := 54) hx hb dX7_isExposed_50 (by decide) ?_
          exact W.zret (v := 1) (ty := .boolean) hx hb hr rfl (fun t ht hW => ⟨⟨1, (), rfl, (Or.inl ⟨rfl, by omega⟩), ⟨by rw [ht]; exact hP, hDa _⟩⟩, hS.F ht⟩) hS.2.2 dX7_isExposed_54
